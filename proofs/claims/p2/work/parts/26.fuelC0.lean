
theorem d_MM_hashOf_0 : decode b_MM_hashOf 0 = .ok (.iload_n 2, 1) := by decide +kernel
theorem d_MM_hashOf_1 : decode b_MM_hashOf 1 = .ok (.istore_n 3, 1) := by decide +kernel
theorem d_MM_hashOf_2 : decode b_MM_hashOf 2 = .ok (.iconst 0, 1) := by decide +kernel
theorem d_MM_hashOf_3 : decode b_MM_hashOf 3 = .ok (.istore 4, 2) := by decide +kernel
theorem d_MM_hashOf_5 : decode b_MM_hashOf 5 = .ok (.iload 4, 2) := by decide +kernel
theorem d_MM_hashOf_7 : decode b_MM_hashOf 7 = .ok (.iload_n 2, 1) := by decide +kernel
theorem d_MM_hashOf_8 : decode b_MM_hashOf 8 = .ok (.if_icmp .ge 21, 3) := by decide +kernel
theorem d_MM_hashOf_11 : decode b_MM_hashOf 11 = .ok (.iload_n 3, 1) := by decide +kernel
theorem d_MM_hashOf_12 : decode b_MM_hashOf 12 = .ok (.bipush 31, 2) := by decide +kernel
theorem d_MM_hashOf_14 : decode b_MM_hashOf 14 = .ok (.imul, 1) := by decide +kernel
theorem d_MM_hashOf_15 : decode b_MM_hashOf 15 = .ok (.aload_n 0, 1) := by decide +kernel
theorem d_MM_hashOf_16 : decode b_MM_hashOf 16 = .ok (.iload_n 1, 1) := by decide +kernel
theorem d_MM_hashOf_17 : decode b_MM_hashOf 17 = .ok (.iload 4, 2) := by decide +kernel
theorem d_MM_hashOf_19 : decode b_MM_hashOf 19 = .ok (.iadd, 1) := by decide +kernel
theorem d_MM_hashOf_20 : decode b_MM_hashOf 20 = .ok (.baload, 1) := by decide +kernel
theorem d_MM_hashOf_21 : decode b_MM_hashOf 21 = .ok (.iadd, 1) := by decide +kernel
theorem d_MM_hashOf_22 : decode b_MM_hashOf 22 = .ok (.istore_n 3, 1) := by decide +kernel
theorem d_MM_hashOf_23 : decode b_MM_hashOf 23 = .ok (.iinc 4 1, 3) := by decide +kernel
theorem d_MM_hashOf_26 : decode b_MM_hashOf 26 = .ok (.goto (-21), 3) := by decide +kernel
theorem d_MM_hashOf_29 : decode b_MM_hashOf 29 = .ok (.iload_n 3, 1) := by decide +kernel
theorem d_MM_hashOf_30 : decode b_MM_hashOf 30 = .ok (.iload_n 3, 1) := by decide +kernel
theorem d_MM_hashOf_31 : decode b_MM_hashOf 31 = .ok (.bipush 15, 2) := by decide +kernel
theorem d_MM_hashOf_33 : decode b_MM_hashOf 33 = .ok (.iushr, 1) := by decide +kernel
theorem d_MM_hashOf_34 : decode b_MM_hashOf 34 = .ok (.ixor, 1) := by decide +kernel
theorem d_MM_hashOf_35 : decode b_MM_hashOf 35 = .ok (.ireturn, 1) := by decide +kernel
theorem d_MM_isBlank_0 : decode b_MM_isBlank 0 = .ok (.iload_n 0, 1) := by decide +kernel
theorem d_MM_isBlank_1 : decode b_MM_isBlank 1 = .ok (.bipush 32, 2) := by decide +kernel
theorem d_MM_isBlank_3 : decode b_MM_isBlank 3 = .ok (.if_icmp .eq 21, 3) := by decide +kernel
theorem d_MM_isBlank_6 : decode b_MM_isBlank 6 = .ok (.iload_n 0, 1) := by decide +kernel
theorem d_MM_isBlank_7 : decode b_MM_isBlank 7 = .ok (.bipush 9, 2) := by decide +kernel
theorem d_MM_isBlank_9 : decode b_MM_isBlank 9 = .ok (.if_icmp .eq 15, 3) := by decide +kernel
theorem d_MM_isBlank_12 : decode b_MM_isBlank 12 = .ok (.iload_n 0, 1) := by decide +kernel
theorem d_MM_isBlank_13 : decode b_MM_isBlank 13 = .ok (.bipush 11, 2) := by decide +kernel
theorem d_MM_isBlank_15 : decode b_MM_isBlank 15 = .ok (.if_icmp .lt 13, 3) := by decide +kernel
theorem d_MM_isBlank_18 : decode b_MM_isBlank 18 = .ok (.iload_n 0, 1) := by decide +kernel
theorem d_MM_isBlank_19 : decode b_MM_isBlank 19 = .ok (.bipush 13, 2) := by decide +kernel
theorem d_MM_isBlank_21 : decode b_MM_isBlank 21 = .ok (.if_icmp .gt 7, 3) := by decide +kernel
theorem d_MM_isBlank_24 : decode b_MM_isBlank 24 = .ok (.iconst 1, 1) := by decide +kernel
theorem d_MM_isBlank_25 : decode b_MM_isBlank 25 = .ok (.goto 4, 3) := by decide +kernel
theorem d_MM_isBlank_28 : decode b_MM_isBlank 28 = .ok (.iconst 0, 1) := by decide +kernel
theorem d_MM_isBlank_29 : decode b_MM_isBlank 29 = .ok (.ireturn, 1) := by decide +kernel
theorem d_MM_isDigit_0 : decode b_MM_isDigit 0 = .ok (.iload_n 0, 1) := by decide +kernel
theorem d_MM_isDigit_1 : decode b_MM_isDigit 1 = .ok (.bipush 48, 2) := by decide +kernel
theorem d_MM_isDigit_3 : decode b_MM_isDigit 3 = .ok (.if_icmp .lt 13, 3) := by decide +kernel
theorem d_MM_isDigit_6 : decode b_MM_isDigit 6 = .ok (.iload_n 0, 1) := by decide +kernel
theorem d_MM_isDigit_7 : decode b_MM_isDigit 7 = .ok (.bipush 57, 2) := by decide +kernel
theorem d_MM_isDigit_9 : decode b_MM_isDigit 9 = .ok (.if_icmp .gt 7, 3) := by decide +kernel
theorem d_MM_isDigit_12 : decode b_MM_isDigit 12 = .ok (.iconst 1, 1) := by decide +kernel
theorem d_MM_isDigit_13 : decode b_MM_isDigit 13 = .ok (.goto 4, 3) := by decide +kernel
theorem d_MM_isDigit_16 : decode b_MM_isDigit 16 = .ok (.iconst 0, 1) := by decide +kernel
theorem d_MM_isDigit_17 : decode b_MM_isDigit 17 = .ok (.ireturn, 1) := by decide +kernel
theorem d_MM_isLetter_0 : decode b_MM_isLetter 0 = .ok (.iload_n 0, 1) := by decide +kernel
theorem d_MM_isLetter_1 : decode b_MM_isLetter 1 = .ok (.bipush 65, 2) := by decide +kernel
theorem d_MM_isLetter_3 : decode b_MM_isLetter 3 = .ok (.if_icmp .lt 9, 3) := by decide +kernel
theorem d_MM_isLetter_6 : decode b_MM_isLetter 6 = .ok (.iload_n 0, 1) := by decide +kernel
theorem d_MM_isLetter_7 : decode b_MM_isLetter 7 = .ok (.bipush 90, 2) := by decide +kernel
theorem d_MM_isLetter_9 : decode b_MM_isLetter 9 = .ok (.if_icmp .le 21, 3) := by decide +kernel
theorem d_MM_isLetter_12 : decode b_MM_isLetter 12 = .ok (.iload_n 0, 1) := by decide +kernel
theorem d_MM_isLetter_13 : decode b_MM_isLetter 13 = .ok (.bipush 97, 2) := by decide +kernel
theorem d_MM_isLetter_15 : decode b_MM_isLetter 15 = .ok (.if_icmp .lt 9, 3) := by decide +kernel
theorem d_MM_isLetter_18 : decode b_MM_isLetter 18 = .ok (.iload_n 0, 1) := by decide +kernel
theorem d_MM_isLetter_19 : decode b_MM_isLetter 19 = .ok (.bipush 122, 2) := by decide +kernel
theorem d_MM_isLetter_21 : decode b_MM_isLetter 21 = .ok (.if_icmp .le 9, 3) := by decide +kernel
theorem d_MM_isLetter_24 : decode b_MM_isLetter 24 = .ok (.iload_n 0, 1) := by decide +kernel
theorem d_MM_isLetter_25 : decode b_MM_isLetter 25 = .ok (.bipush 95, 2) := by decide +kernel
theorem d_MM_isLetter_27 : decode b_MM_isLetter 27 = .ok (.if_icmp .ne 7, 3) := by decide +kernel
theorem d_MM_isLetter_30 : decode b_MM_isLetter 30 = .ok (.iconst 1, 1) := by decide +kernel
theorem d_MM_isLetter_31 : decode b_MM_isLetter 31 = .ok (.goto 4, 3) := by decide +kernel
theorem d_MM_isLetter_34 : decode b_MM_isLetter 34 = .ok (.iconst 0, 1) := by decide +kernel
theorem d_MM_isLetter_35 : decode b_MM_isLetter 35 = .ok (.ireturn, 1) := by decide +kernel
theorem d_MM_parameters_0 : decode b_MM_parameters 0 = .ok (.aload_n 0, 1) := by decide +kernel
theorem d_MM_parameters_1 : decode b_MM_parameters 1 = .ok (.invokevirtual 60, 3) := by decide +kernel
theorem d_MM_parameters_4 : decode b_MM_parameters 4 = .ok (.istore_n 1, 1) := by decide +kernel
theorem d_MM_parameters_5 : decode b_MM_parameters 5 = .ok (.aload_n 0, 1) := by decide +kernel
theorem d_MM_parameters_6 : decode b_MM_parameters 6 = .ok (.getfield 44, 3) := by decide +kernel
theorem d_MM_parameters_9 : decode b_MM_parameters 9 = .ok (.getfield 125, 3) := by decide +kernel
theorem d_MM_parameters_12 : decode b_MM_parameters 12 = .ok (.aload_n 0, 1) := by decide +kernel
theorem d_MM_parameters_13 : decode b_MM_parameters 13 = .ok (.getfield 9, 3) := by decide +kernel
theorem d_MM_parameters_16 : decode b_MM_parameters 16 = .ok (.iconst 0, 1) := by decide +kernel
theorem d_MM_parameters_17 : decode b_MM_parameters 17 = .ok (.iload_n 1, 1) := by decide +kernel
theorem d_MM_parameters_18 : decode b_MM_parameters 18 = .ok (.invokevirtual 137, 3) := by decide +kernel
theorem d_MM_parameters_21 : decode b_MM_parameters 21 = .ok (.istore_n 2, 1) := by decide +kernel
theorem d_MM_parameters_22 : decode b_MM_parameters 22 = .ok (.iload_n 2, 1) := by decide +kernel
theorem d_MM_parameters_23 : decode b_MM_parameters 23 = .ok (.ifCond .lt 17, 3) := by decide +kernel
theorem d_MM_parameters_26 : decode b_MM_parameters 26 = .ok (.aload_n 0, 1) := by decide +kernel
theorem d_MM_parameters_27 : decode b_MM_parameters 27 = .ok (.getfield 44, 3) := by decide +kernel
theorem d_MM_parameters_30 : decode b_MM_parameters 30 = .ok (.getfield 125, 3) := by decide +kernel
theorem d_MM_parameters_33 : decode b_MM_parameters 33 = .ok (.iload_n 2, 1) := by decide +kernel
theorem d_MM_parameters_34 : decode b_MM_parameters 34 = .ok (.invokevirtual 140, 3) := by decide +kernel
theorem d_MM_parameters_37 : decode b_MM_parameters 37 = .ok (.ifCond .ne 5, 3) := by decide +kernel
theorem d_MM_parameters_40 : decode b_MM_parameters 40 = .ok (.iconst (-1), 1) := by decide +kernel
theorem d_MM_parameters_41 : decode b_MM_parameters 41 = .ok (.ireturn, 1) := by decide +kernel
theorem d_MM_parameters_42 : decode b_MM_parameters 42 = .ok (.aload_n 0, 1) := by decide +kernel
theorem d_MM_parameters_43 : decode b_MM_parameters 43 = .ok (.getfield 44, 3) := by decide +kernel
theorem d_MM_parameters_46 : decode b_MM_parameters 46 = .ok (.getfield 125, 3) := by decide +kernel
theorem d_MM_parameters_49 : decode b_MM_parameters 49 = .ok (.iload_n 2, 1) := by decide +kernel
theorem d_MM_parameters_50 : decode b_MM_parameters 50 = .ok (.invokevirtual 144, 3) := by decide +kernel
theorem d_MM_parameters_53 : decode b_MM_parameters 53 = .ok (.ifCond .eq 18, 3) := by decide +kernel
theorem d_MM_parameters_56 : decode b_MM_parameters 56 = .ok (.aload_n 0, 1) := by decide +kernel
theorem d_MM_parameters_57 : decode b_MM_parameters 57 = .ok (.getfield 44, 3) := by decide +kernel
theorem d_MM_parameters_60 : decode b_MM_parameters 60 = .ok (.getfield 125, 3) := by decide +kernel
theorem d_MM_parameters_63 : decode b_MM_parameters 63 = .ok (.getfield 147, 3) := by decide +kernel
theorem d_MM_parameters_66 : decode b_MM_parameters 66 = .ok (.iload_n 2, 1) := by decide +kernel
theorem d_MM_parameters_67 : decode b_MM_parameters 67 = .ok (.iaload, 1) := by decide +kernel
theorem d_MM_parameters_68 : decode b_MM_parameters 68 = .ok (.goto 5, 3) := by decide +kernel
theorem d_MM_parameters_71 : decode b_MM_parameters 71 = .ok (.bipush (-2), 2) := by decide +kernel
theorem d_MM_parameters_73 : decode b_MM_parameters 73 = .ok (.ireturn, 1) := by decide +kernel
theorem d_Calls_areSameArguments_0 : decode b_Calls_areSameArguments 0 = .ok (.aload_n 0, 1) := by decide +kernel
theorem d_Calls_areSameArguments_1 : decode b_Calls_areSameArguments 1 = .ok (.iload_n 1, 1) := by decide +kernel
theorem d_Calls_areSameArguments_2 : decode b_Calls_areSameArguments 2 = .ok (.invokevirtual 59, 3) := by decide +kernel
theorem d_Calls_areSameArguments_5 : decode b_Calls_areSameArguments 5 = .ok (.istore_n 3, 1) := by decide +kernel
theorem d_Calls_areSameArguments_6 : decode b_Calls_areSameArguments 6 = .ok (.iload_n 3, 1) := by decide +kernel
theorem d_Calls_areSameArguments_7 : decode b_Calls_areSameArguments 7 = .ok (.aload_n 0, 1) := by decide +kernel
theorem d_Calls_areSameArguments_8 : decode b_Calls_areSameArguments 8 = .ok (.iload_n 2, 1) := by decide +kernel
theorem d_Calls_areSameArguments_9 : decode b_Calls_areSameArguments 9 = .ok (.invokevirtual 59, 3) := by decide +kernel
theorem d_Calls_areSameArguments_12 : decode b_Calls_areSameArguments 12 = .ok (.if_icmp .ne 32, 3) := by decide +kernel
theorem d_Calls_areSameArguments_15 : decode b_Calls_areSameArguments 15 = .ok (.aload_n 0, 1) := by decide +kernel
theorem d_Calls_areSameArguments_16 : decode b_Calls_areSameArguments 16 = .ok (.getfield 11, 3) := by decide +kernel
theorem d_Calls_areSameArguments_19 : decode b_Calls_areSameArguments 19 = .ok (.aload_n 0, 1) := by decide +kernel
theorem d_Calls_areSameArguments_20 : decode b_Calls_areSameArguments 20 = .ok (.iload_n 1, 1) := by decide +kernel
theorem d_Calls_areSameArguments_21 : decode b_Calls_areSameArguments 21 = .ok (.invokevirtual 55, 3) := by decide +kernel
theorem d_Calls_areSameArguments_24 : decode b_Calls_areSameArguments 24 = .ok (.aload_n 0, 1) := by decide +kernel
theorem d_Calls_areSameArguments_25 : decode b_Calls_areSameArguments 25 = .ok (.getfield 11, 3) := by decide +kernel
theorem d_Calls_areSameArguments_28 : decode b_Calls_areSameArguments 28 = .ok (.aload_n 0, 1) := by decide +kernel
theorem d_Calls_areSameArguments_29 : decode b_Calls_areSameArguments 29 = .ok (.iload_n 2, 1) := by decide +kernel
theorem d_Calls_areSameArguments_30 : decode b_Calls_areSameArguments 30 = .ok (.invokevirtual 55, 3) := by decide +kernel
theorem d_Calls_areSameArguments_33 : decode b_Calls_areSameArguments 33 = .ok (.iload_n 3, 1) := by decide +kernel
theorem d_Calls_areSameArguments_34 : decode b_Calls_areSameArguments 34 = .ok (.invokestatic 62, 3) := by decide +kernel
theorem d_Calls_areSameArguments_37 : decode b_Calls_areSameArguments 37 = .ok (.ifCond .eq 7, 3) := by decide +kernel
theorem d_Calls_areSameArguments_40 : decode b_Calls_areSameArguments 40 = .ok (.iconst 1, 1) := by decide +kernel
theorem d_Calls_areSameArguments_41 : decode b_Calls_areSameArguments 41 = .ok (.goto 4, 3) := by decide +kernel
theorem d_Calls_areSameArguments_44 : decode b_Calls_areSameArguments 44 = .ok (.iconst 0, 1) := by decide +kernel
theorem d_Calls_areSameArguments_45 : decode b_Calls_areSameArguments 45 = .ok (.ireturn, 1) := by decide +kernel
theorem d_Calls_argumentFrom_0 : decode b_Calls_argumentFrom 0 = .ok (.aload_n 0, 1) := by decide +kernel
theorem d_Calls_argumentFrom_1 : decode b_Calls_argumentFrom 1 = .ok (.getfield 42, 3) := by decide +kernel
theorem d_Calls_argumentFrom_4 : decode b_Calls_argumentFrom 4 = .ok (.ifCond .le 19, 3) := by decide +kernel
theorem d_Calls_argumentFrom_7 : decode b_Calls_argumentFrom 7 = .ok (.aload_n 0, 1) := by decide +kernel
theorem d_Calls_argumentFrom_8 : decode b_Calls_argumentFrom 8 = .ok (.getfield 25, 3) := by decide +kernel
theorem d_Calls_argumentFrom_11 : decode b_Calls_argumentFrom 11 = .ok (.aload_n 0, 1) := by decide +kernel
theorem d_Calls_argumentFrom_12 : decode b_Calls_argumentFrom 12 = .ok (.getfield 42, 3) := by decide +kernel
theorem d_Calls_argumentFrom_15 : decode b_Calls_argumentFrom 15 = .ok (.iconst 1, 1) := by decide +kernel
theorem d_Calls_argumentFrom_16 : decode b_Calls_argumentFrom 16 = .ok (.isub, 1) := by decide +kernel
theorem d_Calls_argumentFrom_17 : decode b_Calls_argumentFrom 17 = .ok (.iaload, 1) := by decide +kernel
theorem d_Calls_argumentFrom_18 : decode b_Calls_argumentFrom 18 = .ok (.iload_n 1, 1) := by decide +kernel
theorem d_Calls_argumentFrom_19 : decode b_Calls_argumentFrom 19 = .ok (.iadd, 1) := by decide +kernel
theorem d_Calls_argumentFrom_20 : decode b_Calls_argumentFrom 20 = .ok (.goto 7, 3) := by decide +kernel
theorem d_Calls_argumentFrom_23 : decode b_Calls_argumentFrom 23 = .ok (.aload_n 0, 1) := by decide +kernel
theorem d_Calls_argumentFrom_24 : decode b_Calls_argumentFrom 24 = .ok (.getfield 39, 3) := by decide +kernel
theorem d_Calls_argumentFrom_27 : decode b_Calls_argumentFrom 27 = .ok (.istore_n 2, 1) := by decide +kernel
theorem d_Calls_argumentFrom_28 : decode b_Calls_argumentFrom 28 = .ok (.iload_n 2, 1) := by decide +kernel
theorem d_Calls_argumentFrom_29 : decode b_Calls_argumentFrom 29 = .ok (.aload_n 0, 1) := by decide +kernel
theorem d_Calls_argumentFrom_30 : decode b_Calls_argumentFrom 30 = .ok (.getfield 39, 3) := by decide +kernel
theorem d_Calls_argumentFrom_33 : decode b_Calls_argumentFrom 33 = .ok (.if_icmp .ge 12, 3) := by decide +kernel
theorem d_Calls_argumentFrom_36 : decode b_Calls_argumentFrom 36 = .ok (.aload_n 0, 1) := by decide +kernel
theorem d_Calls_argumentFrom_37 : decode b_Calls_argumentFrom 37 = .ok (.getfield 15, 3) := by decide +kernel
theorem d_Calls_argumentFrom_40 : decode b_Calls_argumentFrom 40 = .ok (.iload_n 2, 1) := by decide +kernel
theorem d_Calls_argumentFrom_41 : decode b_Calls_argumentFrom 41 = .ok (.iaload, 1) := by decide +kernel
theorem d_Calls_argumentFrom_42 : decode b_Calls_argumentFrom 42 = .ok (.goto 7, 3) := by decide +kernel
theorem d_Calls_argumentFrom_45 : decode b_Calls_argumentFrom 45 = .ok (.aload_n 0, 1) := by decide +kernel
theorem d_Calls_argumentFrom_46 : decode b_Calls_argumentFrom 46 = .ok (.getfield 35, 3) := by decide +kernel
theorem d_Calls_argumentFrom_49 : decode b_Calls_argumentFrom 49 = .ok (.ireturn, 1) := by decide +kernel
theorem d_Calls_argumentSize_0 : decode b_Calls_argumentSize 0 = .ok (.aload_n 0, 1) := by decide +kernel
theorem d_Calls_argumentSize_1 : decode b_Calls_argumentSize 1 = .ok (.iload_n 1, 1) := by decide +kernel
theorem d_Calls_argumentSize_2 : decode b_Calls_argumentSize 2 = .ok (.iconst 1, 1) := by decide +kernel
theorem d_Calls_argumentSize_3 : decode b_Calls_argumentSize 3 = .ok (.iadd, 1) := by decide +kernel
theorem d_Calls_argumentSize_4 : decode b_Calls_argumentSize 4 = .ok (.invokevirtual 55, 3) := by decide +kernel
theorem d_Calls_argumentSize_7 : decode b_Calls_argumentSize 7 = .ok (.aload_n 0, 1) := by decide +kernel
theorem d_Calls_argumentSize_8 : decode b_Calls_argumentSize 8 = .ok (.iload_n 1, 1) := by decide +kernel
theorem d_Calls_argumentSize_9 : decode b_Calls_argumentSize 9 = .ok (.invokevirtual 55, 3) := by decide +kernel
theorem d_Calls_argumentSize_12 : decode b_Calls_argumentSize 12 = .ok (.isub, 1) := by decide +kernel
theorem d_Calls_argumentSize_13 : decode b_Calls_argumentSize 13 = .ok (.ireturn, 1) := by decide +kernel
theorem d_Calls_arguments_0 : decode b_Calls_arguments 0 = .ok (.aload_n 0, 1) := by decide +kernel
theorem d_Calls_arguments_1 : decode b_Calls_arguments 1 = .ok (.getfield 42, 3) := by decide +kernel
theorem d_Calls_arguments_4 : decode b_Calls_arguments 4 = .ok (.ifCond .le 22, 3) := by decide +kernel
theorem d_Calls_arguments_7 : decode b_Calls_arguments 7 = .ok (.aload_n 0, 1) := by decide +kernel
theorem d_Calls_arguments_8 : decode b_Calls_arguments 8 = .ok (.getfield 39, 3) := by decide +kernel
theorem d_Calls_arguments_11 : decode b_Calls_arguments 11 = .ok (.aload_n 0, 1) := by decide +kernel
theorem d_Calls_arguments_12 : decode b_Calls_arguments 12 = .ok (.getfield 25, 3) := by decide +kernel
theorem d_Calls_arguments_15 : decode b_Calls_arguments 15 = .ok (.aload_n 0, 1) := by decide +kernel
theorem d_Calls_arguments_16 : decode b_Calls_arguments 16 = .ok (.getfield 42, 3) := by decide +kernel
theorem d_Calls_arguments_19 : decode b_Calls_arguments 19 = .ok (.iconst 1, 1) := by decide +kernel
theorem d_Calls_arguments_20 : decode b_Calls_arguments 20 = .ok (.isub, 1) := by decide +kernel
theorem d_Calls_arguments_21 : decode b_Calls_arguments 21 = .ok (.iaload, 1) := by decide +kernel
theorem d_Calls_arguments_22 : decode b_Calls_arguments 22 = .ok (.isub, 1) := by decide +kernel
theorem d_Calls_arguments_23 : decode b_Calls_arguments 23 = .ok (.goto 4, 3) := by decide +kernel
theorem d_Calls_arguments_26 : decode b_Calls_arguments 26 = .ok (.iconst 0, 1) := by decide +kernel
theorem d_Calls_arguments_27 : decode b_Calls_arguments 27 = .ok (.ireturn, 1) := by decide +kernel
theorem d_Calls_beginArgument_0 : decode b_Calls_beginArgument 0 = .ok (.aload_n 0, 1) := by decide +kernel
theorem d_Calls_beginArgument_1 : decode b_Calls_beginArgument 1 = .ok (.getfield 42, 3) := by decide +kernel
theorem d_Calls_beginArgument_4 : decode b_Calls_beginArgument 4 = .ok (.ifCond .eq 13, 3) := by decide +kernel
theorem d_Calls_beginArgument_7 : decode b_Calls_beginArgument 7 = .ok (.aload_n 0, 1) := by decide +kernel
theorem d_Calls_beginArgument_8 : decode b_Calls_beginArgument 8 = .ok (.getfield 39, 3) := by decide +kernel
theorem d_Calls_beginArgument_11 : decode b_Calls_beginArgument 11 = .ok (.sipush 8192, 3) := by decide +kernel
theorem d_Calls_beginArgument_14 : decode b_Calls_beginArgument 14 = .ok (.if_icmp .lt 5, 3) := by decide +kernel
theorem d_Calls_beginArgument_17 : decode b_Calls_beginArgument 17 = .ok (.iconst 0, 1) := by decide +kernel
theorem d_Calls_beginArgument_18 : decode b_Calls_beginArgument 18 = .ok (.ireturn, 1) := by decide +kernel
theorem d_Calls_beginArgument_19 : decode b_Calls_beginArgument 19 = .ok (.aload_n 0, 1) := by decide +kernel
theorem d_Calls_beginArgument_20 : decode b_Calls_beginArgument 20 = .ok (.getfield 15, 3) := by decide +kernel
theorem d_Calls_beginArgument_23 : decode b_Calls_beginArgument 23 = .ok (.aload_n 0, 1) := by decide +kernel
theorem d_Calls_beginArgument_24 : decode b_Calls_beginArgument 24 = .ok (.getfield 39, 3) := by decide +kernel
theorem d_Calls_beginArgument_27 : decode b_Calls_beginArgument 27 = .ok (.aload_n 0, 1) := by decide +kernel
theorem d_Calls_beginArgument_28 : decode b_Calls_beginArgument 28 = .ok (.getfield 35, 3) := by decide +kernel
theorem d_Calls_beginArgument_31 : decode b_Calls_beginArgument 31 = .ok (.iastore, 1) := by decide +kernel
theorem d_Calls_beginArgument_32 : decode b_Calls_beginArgument 32 = .ok (.aload_n 0, 1) := by decide +kernel
theorem d_Calls_beginArgument_33 : decode b_Calls_beginArgument 33 = .ok (.dup, 1) := by decide +kernel
theorem d_Calls_beginArgument_34 : decode b_Calls_beginArgument 34 = .ok (.getfield 39, 3) := by decide +kernel
theorem d_Calls_beginArgument_37 : decode b_Calls_beginArgument 37 = .ok (.iconst 1, 1) := by decide +kernel
theorem d_Calls_beginArgument_38 : decode b_Calls_beginArgument 38 = .ok (.iadd, 1) := by decide +kernel
theorem d_Calls_beginArgument_39 : decode b_Calls_beginArgument 39 = .ok (.putfield 39, 3) := by decide +kernel
theorem d_Calls_beginArgument_42 : decode b_Calls_beginArgument 42 = .ok (.aload_n 0, 1) := by decide +kernel
theorem d_Calls_beginArgument_43 : decode b_Calls_beginArgument 43 = .ok (.getfield 31, 3) := by decide +kernel
theorem d_Calls_beginArgument_46 : decode b_Calls_beginArgument 46 = .ok (.aload_n 0, 1) := by decide +kernel
theorem d_Calls_beginArgument_47 : decode b_Calls_beginArgument 47 = .ok (.getfield 42, 3) := by decide +kernel
theorem d_Calls_beginArgument_50 : decode b_Calls_beginArgument 50 = .ok (.iconst 1, 1) := by decide +kernel
theorem d_Calls_beginArgument_51 : decode b_Calls_beginArgument 51 = .ok (.isub, 1) := by decide +kernel
theorem d_Calls_beginArgument_52 : decode b_Calls_beginArgument 52 = .ok (.iconst 0, 1) := by decide +kernel
theorem d_Calls_beginArgument_53 : decode b_Calls_beginArgument 53 = .ok (.bastore, 1) := by decide +kernel
theorem d_Calls_beginArgument_54 : decode b_Calls_beginArgument 54 = .ok (.iconst 1, 1) := by decide +kernel
theorem d_Calls_beginArgument_55 : decode b_Calls_beginArgument 55 = .ok (.ireturn, 1) := by decide +kernel
theorem d_Calls_clearAll_0 : decode b_Calls_clearAll 0 = .ok (.aload_n 0, 1) := by decide +kernel
theorem d_Calls_clearAll_1 : decode b_Calls_clearAll 1 = .ok (.iconst 0, 1) := by decide +kernel
theorem d_Calls_clearAll_2 : decode b_Calls_clearAll 2 = .ok (.putfield 35, 3) := by decide +kernel
theorem d_Calls_clearAll_5 : decode b_Calls_clearAll 5 = .ok (.aload_n 0, 1) := by decide +kernel
theorem d_Calls_clearAll_6 : decode b_Calls_clearAll 6 = .ok (.iconst 0, 1) := by decide +kernel
theorem d_Calls_clearAll_7 : decode b_Calls_clearAll 7 = .ok (.putfield 39, 3) := by decide +kernel
theorem d_Calls_clearAll_10 : decode b_Calls_clearAll 10 = .ok (.aload_n 0, 1) := by decide +kernel
theorem d_Calls_clearAll_11 : decode b_Calls_clearAll 11 = .ok (.iconst 0, 1) := by decide +kernel
theorem d_Calls_clearAll_12 : decode b_Calls_clearAll 12 = .ok (.putfield 42, 3) := by decide +kernel
theorem d_Calls_clearAll_15 : decode b_Calls_clearAll 15 = .ok (.return_, 1) := by decide +kernel
theorem d_Calls_closeOne_0 : decode b_Calls_closeOne 0 = .ok (.aload_n 0, 1) := by decide +kernel
theorem d_Calls_closeOne_1 : decode b_Calls_closeOne 1 = .ok (.getfield 42, 3) := by decide +kernel
theorem d_Calls_closeOne_4 : decode b_Calls_closeOne 4 = .ok (.ifCond .le 39, 3) := by decide +kernel
theorem d_Calls_closeOne_7 : decode b_Calls_closeOne 7 = .ok (.aload_n 0, 1) := by decide +kernel
theorem d_Calls_closeOne_8 : decode b_Calls_closeOne 8 = .ok (.dup, 1) := by decide +kernel
theorem d_Calls_closeOne_9 : decode b_Calls_closeOne 9 = .ok (.getfield 42, 3) := by decide +kernel
theorem d_Calls_closeOne_12 : decode b_Calls_closeOne 12 = .ok (.iconst 1, 1) := by decide +kernel
theorem d_Calls_closeOne_13 : decode b_Calls_closeOne 13 = .ok (.isub, 1) := by decide +kernel
theorem d_Calls_closeOne_14 : decode b_Calls_closeOne 14 = .ok (.putfield 42, 3) := by decide +kernel
theorem d_Calls_closeOne_17 : decode b_Calls_closeOne 17 = .ok (.aload_n 0, 1) := by decide +kernel
theorem d_Calls_closeOne_18 : decode b_Calls_closeOne 18 = .ok (.aload_n 0, 1) := by decide +kernel
theorem d_Calls_closeOne_19 : decode b_Calls_closeOne 19 = .ok (.getfield 19, 3) := by decide +kernel
theorem d_Calls_closeOne_22 : decode b_Calls_closeOne 22 = .ok (.aload_n 0, 1) := by decide +kernel
theorem d_Calls_closeOne_23 : decode b_Calls_closeOne 23 = .ok (.getfield 42, 3) := by decide +kernel
theorem d_Calls_closeOne_26 : decode b_Calls_closeOne 26 = .ok (.iaload, 1) := by decide +kernel
theorem d_Calls_closeOne_27 : decode b_Calls_closeOne 27 = .ok (.putfield 35, 3) := by decide +kernel
theorem d_Calls_closeOne_30 : decode b_Calls_closeOne 30 = .ok (.aload_n 0, 1) := by decide +kernel
theorem d_Calls_closeOne_31 : decode b_Calls_closeOne 31 = .ok (.aload_n 0, 1) := by decide +kernel
theorem d_Calls_closeOne_32 : decode b_Calls_closeOne 32 = .ok (.getfield 25, 3) := by decide +kernel
theorem d_Calls_closeOne_35 : decode b_Calls_closeOne 35 = .ok (.aload_n 0, 1) := by decide +kernel
theorem d_Calls_closeOne_36 : decode b_Calls_closeOne 36 = .ok (.getfield 42, 3) := by decide +kernel
theorem d_Calls_closeOne_39 : decode b_Calls_closeOne 39 = .ok (.iaload, 1) := by decide +kernel
theorem d_Calls_closeOne_40 : decode b_Calls_closeOne 40 = .ok (.putfield 39, 3) := by decide +kernel
theorem d_Calls_closeOne_43 : decode b_Calls_closeOne 43 = .ok (.return_, 1) := by decide +kernel
theorem d_Calls_hasBegun_0 : decode b_Calls_hasBegun 0 = .ok (.aload_n 0, 1) := by decide +kernel
theorem d_Calls_hasBegun_1 : decode b_Calls_hasBegun 1 = .ok (.getfield 42, 3) := by decide +kernel
theorem d_Calls_hasBegun_4 : decode b_Calls_hasBegun 4 = .ok (.ifCond .le 21, 3) := by decide +kernel
theorem d_Calls_hasBegun_7 : decode b_Calls_hasBegun 7 = .ok (.aload_n 0, 1) := by decide +kernel
theorem d_Calls_hasBegun_8 : decode b_Calls_hasBegun 8 = .ok (.getfield 31, 3) := by decide +kernel
theorem d_Calls_hasBegun_11 : decode b_Calls_hasBegun 11 = .ok (.aload_n 0, 1) := by decide +kernel
theorem d_Calls_hasBegun_12 : decode b_Calls_hasBegun 12 = .ok (.getfield 42, 3) := by decide +kernel
theorem d_Calls_hasBegun_15 : decode b_Calls_hasBegun 15 = .ok (.iconst 1, 1) := by decide +kernel
theorem d_Calls_hasBegun_16 : decode b_Calls_hasBegun 16 = .ok (.isub, 1) := by decide +kernel
theorem d_Calls_hasBegun_17 : decode b_Calls_hasBegun 17 = .ok (.baload, 1) := by decide +kernel
theorem d_Calls_hasBegun_18 : decode b_Calls_hasBegun 18 = .ok (.ifCond .eq 7, 3) := by decide +kernel
theorem d_Calls_hasBegun_21 : decode b_Calls_hasBegun 21 = .ok (.iconst 1, 1) := by decide +kernel
theorem d_Calls_hasBegun_22 : decode b_Calls_hasBegun 22 = .ok (.goto 4, 3) := by decide +kernel
theorem d_Calls_hasBegun_25 : decode b_Calls_hasBegun 25 = .ok (.iconst 0, 1) := by decide +kernel
theorem d_Calls_hasBegun_26 : decode b_Calls_hasBegun 26 = .ok (.ireturn, 1) := by decide +kernel
theorem d_Calls_isFull_0 : decode b_Calls_isFull 0 = .ok (.aload_n 0, 1) := by decide +kernel
theorem d_Calls_isFull_1 : decode b_Calls_isFull 1 = .ok (.getfield 42, 3) := by decide +kernel
theorem d_Calls_isFull_4 : decode b_Calls_isFull 4 = .ok (.bipush 50, 2) := by decide +kernel
theorem d_Calls_isFull_6 : decode b_Calls_isFull 6 = .ok (.if_icmp .lt 7, 3) := by decide +kernel
theorem d_Calls_isFull_9 : decode b_Calls_isFull 9 = .ok (.iconst 1, 1) := by decide +kernel
theorem d_Calls_isFull_10 : decode b_Calls_isFull 10 = .ok (.goto 4, 3) := by decide +kernel
theorem d_Calls_isFull_13 : decode b_Calls_isFull 13 = .ok (.iconst 0, 1) := by decide +kernel
theorem d_Calls_isFull_14 : decode b_Calls_isFull 14 = .ok (.ireturn, 1) := by decide +kernel
theorem d_Calls_isName_0 : decode b_Calls_isName 0 = .ok (.aload_n 0, 1) := by decide +kernel
theorem d_Calls_isName_1 : decode b_Calls_isName 1 = .ok (.iload_n 1, 1) := by decide +kernel
theorem d_Calls_isName_2 : decode b_Calls_isName 2 = .ok (.invokevirtual 55, 3) := by decide +kernel
theorem d_Calls_isName_5 : decode b_Calls_isName 5 = .ok (.istore_n 2, 1) := by decide +kernel
theorem d_Calls_isName_6 : decode b_Calls_isName 6 = .ok (.aload_n 0, 1) := by decide +kernel
theorem d_Calls_isName_7 : decode b_Calls_isName 7 = .ok (.iload_n 1, 1) := by decide +kernel
theorem d_Calls_isName_8 : decode b_Calls_isName 8 = .ok (.invokevirtual 59, 3) := by decide +kernel
theorem d_Calls_isName_11 : decode b_Calls_isName 11 = .ok (.istore_n 3, 1) := by decide +kernel
theorem d_Calls_isName_12 : decode b_Calls_isName 12 = .ok (.iload_n 3, 1) := by decide +kernel
theorem d_Calls_isName_13 : decode b_Calls_isName 13 = .ok (.ifCond .eq 15, 3) := by decide +kernel
theorem d_Calls_isName_16 : decode b_Calls_isName 16 = .ok (.aload_n 0, 1) := by decide +kernel
theorem d_Calls_isName_17 : decode b_Calls_isName 17 = .ok (.getfield 11, 3) := by decide +kernel
theorem d_Calls_isName_20 : decode b_Calls_isName 20 = .ok (.iload_n 2, 1) := by decide +kernel
theorem d_Calls_isName_21 : decode b_Calls_isName 21 = .ok (.baload, 1) := by decide +kernel
theorem d_Calls_isName_22 : decode b_Calls_isName 22 = .ok (.invokestatic 66, 3) := by decide +kernel
theorem d_Calls_isName_25 : decode b_Calls_isName 25 = .ok (.ifCond .ne 5, 3) := by decide +kernel
theorem d_Calls_isName_28 : decode b_Calls_isName 28 = .ok (.iconst 0, 1) := by decide +kernel
theorem d_Calls_isName_29 : decode b_Calls_isName 29 = .ok (.ireturn, 1) := by decide +kernel
theorem d_Calls_isName_30 : decode b_Calls_isName 30 = .ok (.iconst 1, 1) := by decide +kernel
theorem d_Calls_isName_31 : decode b_Calls_isName 31 = .ok (.istore 4, 2) := by decide +kernel
theorem d_Calls_isName_33 : decode b_Calls_isName 33 = .ok (.iload 4, 2) := by decide +kernel
theorem d_Calls_isName_35 : decode b_Calls_isName 35 = .ok (.iload_n 3, 1) := by decide +kernel
theorem d_Calls_isName_36 : decode b_Calls_isName 36 = .ok (.if_icmp .ge 41, 3) := by decide +kernel
theorem d_Calls_isName_39 : decode b_Calls_isName 39 = .ok (.aload_n 0, 1) := by decide +kernel
theorem d_Calls_isName_40 : decode b_Calls_isName 40 = .ok (.getfield 11, 3) := by decide +kernel
theorem d_Calls_isName_43 : decode b_Calls_isName 43 = .ok (.iload_n 2, 1) := by decide +kernel
theorem d_Calls_isName_44 : decode b_Calls_isName 44 = .ok (.iload 4, 2) := by decide +kernel
theorem d_Calls_isName_46 : decode b_Calls_isName 46 = .ok (.iadd, 1) := by decide +kernel
theorem d_Calls_isName_47 : decode b_Calls_isName 47 = .ok (.baload, 1) := by decide +kernel
theorem d_Calls_isName_48 : decode b_Calls_isName 48 = .ok (.invokestatic 66, 3) := by decide +kernel
theorem d_Calls_isName_51 : decode b_Calls_isName 51 = .ok (.ifCond .ne 20, 3) := by decide +kernel
theorem d_Calls_isName_54 : decode b_Calls_isName 54 = .ok (.aload_n 0, 1) := by decide +kernel
theorem d_Calls_isName_55 : decode b_Calls_isName 55 = .ok (.getfield 11, 3) := by decide +kernel
theorem d_Calls_isName_58 : decode b_Calls_isName 58 = .ok (.iload_n 2, 1) := by decide +kernel
theorem d_Calls_isName_59 : decode b_Calls_isName 59 = .ok (.iload 4, 2) := by decide +kernel
theorem d_Calls_isName_61 : decode b_Calls_isName 61 = .ok (.iadd, 1) := by decide +kernel
theorem d_Calls_isName_62 : decode b_Calls_isName 62 = .ok (.baload, 1) := by decide +kernel
theorem d_Calls_isName_63 : decode b_Calls_isName 63 = .ok (.invokestatic 70, 3) := by decide +kernel
theorem d_Calls_isName_66 : decode b_Calls_isName 66 = .ok (.ifCond .ne 5, 3) := by decide +kernel
theorem d_Calls_isName_69 : decode b_Calls_isName 69 = .ok (.iconst 0, 1) := by decide +kernel
theorem d_Calls_isName_70 : decode b_Calls_isName 70 = .ok (.ireturn, 1) := by decide +kernel
theorem d_Calls_isName_71 : decode b_Calls_isName 71 = .ok (.iinc 4 1, 3) := by decide +kernel
theorem d_Calls_isName_74 : decode b_Calls_isName 74 = .ok (.goto (-41), 3) := by decide +kernel
theorem d_Calls_isName_77 : decode b_Calls_isName 77 = .ok (.iconst 1, 1) := by decide +kernel
theorem d_Calls_isName_78 : decode b_Calls_isName 78 = .ok (.ireturn, 1) := by decide +kernel
theorem d_Calls_isQuote_0 : decode b_Calls_isQuote 0 = .ok (.aload_n 0, 1) := by decide +kernel
theorem d_Calls_isQuote_1 : decode b_Calls_isQuote 1 = .ok (.iload_n 1, 1) := by decide +kernel
theorem d_Calls_isQuote_2 : decode b_Calls_isQuote 2 = .ok (.invokevirtual 55, 3) := by decide +kernel
theorem d_Calls_isQuote_5 : decode b_Calls_isQuote 5 = .ok (.istore_n 2, 1) := by decide +kernel
theorem d_Calls_isQuote_6 : decode b_Calls_isQuote 6 = .ok (.aload_n 0, 1) := by decide +kernel
theorem d_Calls_isQuote_7 : decode b_Calls_isQuote 7 = .ok (.iload_n 1, 1) := by decide +kernel
theorem d_Calls_isQuote_8 : decode b_Calls_isQuote 8 = .ok (.invokevirtual 59, 3) := by decide +kernel
theorem d_Calls_isQuote_11 : decode b_Calls_isQuote 11 = .ok (.istore_n 3, 1) := by decide +kernel
theorem d_Calls_isQuote_12 : decode b_Calls_isQuote 12 = .ok (.iload_n 1, 1) := by decide +kernel
theorem d_Calls_isQuote_13 : decode b_Calls_isQuote 13 = .ok (.aload_n 0, 1) := by decide +kernel
theorem d_Calls_isQuote_14 : decode b_Calls_isQuote 14 = .ok (.invokevirtual 73, 3) := by decide +kernel
theorem d_Calls_isQuote_17 : decode b_Calls_isQuote 17 = .ok (.if_icmp .ge 13, 3) := by decide +kernel
theorem d_Calls_isQuote_20 : decode b_Calls_isQuote 20 = .ok (.iload_n 3, 1) := by decide +kernel
theorem d_Calls_isQuote_21 : decode b_Calls_isQuote 21 = .ok (.iconst 1, 1) := by decide +kernel
theorem d_Calls_isQuote_22 : decode b_Calls_isQuote 22 = .ok (.if_icmp .lt 8, 3) := by decide +kernel
theorem d_Calls_isQuote_25 : decode b_Calls_isQuote 25 = .ok (.iload_n 3, 1) := by decide +kernel
theorem d_Calls_isQuote_26 : decode b_Calls_isQuote 26 = .ok (.iconst 4, 1) := by decide +kernel
theorem d_Calls_isQuote_27 : decode b_Calls_isQuote 27 = .ok (.if_icmp .le 5, 3) := by decide +kernel
theorem d_Calls_isQuote_30 : decode b_Calls_isQuote 30 = .ok (.iconst 0, 1) := by decide +kernel
theorem d_Calls_isQuote_31 : decode b_Calls_isQuote 31 = .ok (.ireturn, 1) := by decide +kernel
theorem d_Calls_isQuote_32 : decode b_Calls_isQuote 32 = .ok (.iload_n 2, 1) := by decide +kernel
theorem d_Calls_isQuote_33 : decode b_Calls_isQuote 33 = .ok (.istore 4, 2) := by decide +kernel
theorem d_Calls_isQuote_35 : decode b_Calls_isQuote 35 = .ok (.iload 4, 2) := by decide +kernel
theorem d_Calls_isQuote_37 : decode b_Calls_isQuote 37 = .ok (.iload_n 2, 1) := by decide +kernel
theorem d_Calls_isQuote_38 : decode b_Calls_isQuote 38 = .ok (.iload_n 3, 1) := by decide +kernel
theorem d_Calls_isQuote_39 : decode b_Calls_isQuote 39 = .ok (.iadd, 1) := by decide +kernel
theorem d_Calls_isQuote_40 : decode b_Calls_isQuote 40 = .ok (.if_icmp .ge 79, 3) := by decide +kernel
theorem d_Calls_isQuote_43 : decode b_Calls_isQuote 43 = .ok (.aload_n 0, 1) := by decide +kernel
theorem d_Calls_isQuote_44 : decode b_Calls_isQuote 44 = .ok (.getfield 11, 3) := by decide +kernel
theorem d_Calls_isQuote_47 : decode b_Calls_isQuote 47 = .ok (.iload 4, 2) := by decide +kernel
theorem d_Calls_isQuote_49 : decode b_Calls_isQuote 49 = .ok (.baload, 1) := by decide +kernel
theorem d_Calls_isQuote_50 : decode b_Calls_isQuote 50 = .ok (.istore 5, 2) := by decide +kernel
theorem d_Calls_isQuote_52 : decode b_Calls_isQuote 52 = .ok (.iload 5, 2) := by decide +kernel
theorem d_Calls_isQuote_54 : decode b_Calls_isQuote 54 = .ok (.invokestatic 66, 3) := by decide +kernel
theorem d_Calls_isQuote_57 : decode b_Calls_isQuote 57 = .ok (.ifCond .ne 54, 3) := by decide +kernel
theorem d_Calls_isQuote_60 : decode b_Calls_isQuote 60 = .ok (.iload 5, 2) := by decide +kernel
theorem d_Calls_isQuote_62 : decode b_Calls_isQuote 62 = .ok (.invokestatic 70, 3) := by decide +kernel
theorem d_Calls_isQuote_65 : decode b_Calls_isQuote 65 = .ok (.ifCond .ne 46, 3) := by decide +kernel
theorem d_Calls_isQuote_68 : decode b_Calls_isQuote 68 = .ok (.iload 5, 2) := by decide +kernel
theorem d_Calls_isQuote_70 : decode b_Calls_isQuote 70 = .ok (.invokestatic 79, 3) := by decide +kernel
theorem d_Calls_isQuote_73 : decode b_Calls_isQuote 73 = .ok (.ifCond .ne 38, 3) := by decide +kernel
theorem d_Calls_isQuote_76 : decode b_Calls_isQuote 76 = .ok (.iload 5, 2) := by decide +kernel
theorem d_Calls_isQuote_78 : decode b_Calls_isQuote 78 = .ok (.bipush 10, 2) := by decide +kernel
theorem d_Calls_isQuote_80 : decode b_Calls_isQuote 80 = .ok (.if_icmp .eq 31, 3) := by decide +kernel
theorem d_Calls_isQuote_83 : decode b_Calls_isQuote 83 = .ok (.iload 5, 2) := by decide +kernel
theorem d_Calls_isQuote_85 : decode b_Calls_isQuote 85 = .ok (.bipush 35, 2) := by decide +kernel
theorem d_Calls_isQuote_87 : decode b_Calls_isQuote 87 = .ok (.if_icmp .eq 24, 3) := by decide +kernel
theorem d_Calls_isQuote_90 : decode b_Calls_isQuote 90 = .ok (.iload 5, 2) := by decide +kernel
theorem d_Calls_isQuote_92 : decode b_Calls_isQuote 92 = .ok (.bipush 40, 2) := by decide +kernel
theorem d_Calls_isQuote_94 : decode b_Calls_isQuote 94 = .ok (.if_icmp .eq 17, 3) := by decide +kernel
theorem d_Calls_isQuote_97 : decode b_Calls_isQuote 97 = .ok (.iload 5, 2) := by decide +kernel
theorem d_Calls_isQuote_99 : decode b_Calls_isQuote 99 = .ok (.bipush 41, 2) := by decide +kernel
theorem d_Calls_isQuote_101 : decode b_Calls_isQuote 101 = .ok (.if_icmp .eq 10, 3) := by decide +kernel
theorem d_Calls_isQuote_104 : decode b_Calls_isQuote 104 = .ok (.iload 5, 2) := by decide +kernel
theorem d_Calls_isQuote_106 : decode b_Calls_isQuote 106 = .ok (.bipush 44, 2) := by decide +kernel
theorem d_Calls_isQuote_108 : decode b_Calls_isQuote 108 = .ok (.if_icmp .ne 5, 3) := by decide +kernel
theorem d_Calls_isQuote_111 : decode b_Calls_isQuote 111 = .ok (.iconst 0, 1) := by decide +kernel
theorem d_Calls_isQuote_112 : decode b_Calls_isQuote 112 = .ok (.ireturn, 1) := by decide +kernel
theorem d_Calls_isQuote_113 : decode b_Calls_isQuote 113 = .ok (.iinc 4 1, 3) := by decide +kernel
theorem d_Calls_isQuote_116 : decode b_Calls_isQuote 116 = .ok (.goto (-81), 3) := by decide +kernel
theorem d_Calls_isQuote_119 : decode b_Calls_isQuote 119 = .ok (.iconst 1, 1) := by decide +kernel
theorem d_Calls_isQuote_120 : decode b_Calls_isQuote 120 = .ok (.ireturn, 1) := by decide +kernel
theorem d_Calls_markBegun_0 : decode b_Calls_markBegun 0 = .ok (.aload_n 0, 1) := by decide +kernel
theorem d_Calls_markBegun_1 : decode b_Calls_markBegun 1 = .ok (.getfield 42, 3) := by decide +kernel
theorem d_Calls_markBegun_4 : decode b_Calls_markBegun 4 = .ok (.ifCond .le 15, 3) := by decide +kernel
theorem d_Calls_markBegun_7 : decode b_Calls_markBegun 7 = .ok (.aload_n 0, 1) := by decide +kernel
theorem d_Calls_markBegun_8 : decode b_Calls_markBegun 8 = .ok (.getfield 31, 3) := by decide +kernel
theorem d_Calls_markBegun_11 : decode b_Calls_markBegun 11 = .ok (.aload_n 0, 1) := by decide +kernel
theorem d_Calls_markBegun_12 : decode b_Calls_markBegun 12 = .ok (.getfield 42, 3) := by decide +kernel
theorem d_Calls_markBegun_15 : decode b_Calls_markBegun 15 = .ok (.iconst 1, 1) := by decide +kernel
theorem d_Calls_markBegun_16 : decode b_Calls_markBegun 16 = .ok (.isub, 1) := by decide +kernel
theorem d_Calls_markBegun_17 : decode b_Calls_markBegun 17 = .ok (.iconst 1, 1) := by decide +kernel
theorem d_Calls_markBegun_18 : decode b_Calls_markBegun 18 = .ok (.bastore, 1) := by decide +kernel
theorem d_Calls_markBegun_19 : decode b_Calls_markBegun 19 = .ok (.return_, 1) := by decide +kernel
theorem d_Calls_nameFrom_0 : decode b_Calls_nameFrom 0 = .ok (.aload_n 0, 1) := by decide +kernel
theorem d_Calls_nameFrom_1 : decode b_Calls_nameFrom 1 = .ok (.getfield 42, 3) := by decide +kernel
theorem d_Calls_nameFrom_4 : decode b_Calls_nameFrom 4 = .ok (.ifCond .le 17, 3) := by decide +kernel
theorem d_Calls_nameFrom_7 : decode b_Calls_nameFrom 7 = .ok (.aload_n 0, 1) := by decide +kernel
theorem d_Calls_nameFrom_8 : decode b_Calls_nameFrom 8 = .ok (.getfield 19, 3) := by decide +kernel
theorem d_Calls_nameFrom_11 : decode b_Calls_nameFrom 11 = .ok (.aload_n 0, 1) := by decide +kernel
theorem d_Calls_nameFrom_12 : decode b_Calls_nameFrom 12 = .ok (.getfield 42, 3) := by decide +kernel
theorem d_Calls_nameFrom_15 : decode b_Calls_nameFrom 15 = .ok (.iconst 1, 1) := by decide +kernel
theorem d_Calls_nameFrom_16 : decode b_Calls_nameFrom 16 = .ok (.isub, 1) := by decide +kernel
theorem d_Calls_nameFrom_17 : decode b_Calls_nameFrom 17 = .ok (.iaload, 1) := by decide +kernel
theorem d_Calls_nameFrom_18 : decode b_Calls_nameFrom 18 = .ok (.goto 4, 3) := by decide +kernel
theorem d_Calls_nameFrom_21 : decode b_Calls_nameFrom 21 = .ok (.iconst 0, 1) := by decide +kernel
theorem d_Calls_nameFrom_22 : decode b_Calls_nameFrom 22 = .ok (.ireturn, 1) := by decide +kernel
theorem d_Calls_nameSize_0 : decode b_Calls_nameSize 0 = .ok (.aload_n 0, 1) := by decide +kernel
theorem d_Calls_nameSize_1 : decode b_Calls_nameSize 1 = .ok (.getfield 42, 3) := by decide +kernel
theorem d_Calls_nameSize_4 : decode b_Calls_nameSize 4 = .ok (.ifCond .le 17, 3) := by decide +kernel
theorem d_Calls_nameSize_7 : decode b_Calls_nameSize 7 = .ok (.aload_n 0, 1) := by decide +kernel
theorem d_Calls_nameSize_8 : decode b_Calls_nameSize 8 = .ok (.getfield 22, 3) := by decide +kernel
theorem d_Calls_nameSize_11 : decode b_Calls_nameSize 11 = .ok (.aload_n 0, 1) := by decide +kernel
theorem d_Calls_nameSize_12 : decode b_Calls_nameSize 12 = .ok (.getfield 42, 3) := by decide +kernel
theorem d_Calls_nameSize_15 : decode b_Calls_nameSize 15 = .ok (.iconst 1, 1) := by decide +kernel
theorem d_Calls_nameSize_16 : decode b_Calls_nameSize 16 = .ok (.isub, 1) := by decide +kernel
theorem d_Calls_nameSize_17 : decode b_Calls_nameSize 17 = .ok (.iaload, 1) := by decide +kernel
theorem d_Calls_nameSize_18 : decode b_Calls_nameSize 18 = .ok (.goto 4, 3) := by decide +kernel
theorem d_Calls_nameSize_21 : decode b_Calls_nameSize 21 = .ok (.iconst 0, 1) := by decide +kernel
theorem d_Calls_nameSize_22 : decode b_Calls_nameSize 22 = .ok (.ireturn, 1) := by decide +kernel
theorem d_Calls_nestBy_0 : decode b_Calls_nestBy 0 = .ok (.aload_n 0, 1) := by decide +kernel
theorem d_Calls_nestBy_1 : decode b_Calls_nestBy 1 = .ok (.getfield 42, 3) := by decide +kernel
theorem d_Calls_nestBy_4 : decode b_Calls_nestBy 4 = .ok (.ifCond .le 18, 3) := by decide +kernel
theorem d_Calls_nestBy_7 : decode b_Calls_nestBy 7 = .ok (.aload_n 0, 1) := by decide +kernel
theorem d_Calls_nestBy_8 : decode b_Calls_nestBy 8 = .ok (.getfield 28, 3) := by decide +kernel
theorem d_Calls_nestBy_11 : decode b_Calls_nestBy 11 = .ok (.aload_n 0, 1) := by decide +kernel
theorem d_Calls_nestBy_12 : decode b_Calls_nestBy 12 = .ok (.getfield 42, 3) := by decide +kernel
theorem d_Calls_nestBy_15 : decode b_Calls_nestBy 15 = .ok (.iconst 1, 1) := by decide +kernel
theorem d_Calls_nestBy_16 : decode b_Calls_nestBy 16 = .ok (.isub, 1) := by decide +kernel
theorem d_Calls_nestBy_17 : decode b_Calls_nestBy 17 = .ok (.dup2, 1) := by decide +kernel
theorem d_Calls_nestBy_18 : decode b_Calls_nestBy 18 = .ok (.iaload, 1) := by decide +kernel
theorem d_Calls_nestBy_19 : decode b_Calls_nestBy 19 = .ok (.iload_n 1, 1) := by decide +kernel
theorem d_Calls_nestBy_20 : decode b_Calls_nestBy 20 = .ok (.iadd, 1) := by decide +kernel
theorem d_Calls_nestBy_21 : decode b_Calls_nestBy 21 = .ok (.iastore, 1) := by decide +kernel
theorem d_Calls_nestBy_22 : decode b_Calls_nestBy 22 = .ok (.return_, 1) := by decide +kernel
theorem d_Calls_nestingNow_0 : decode b_Calls_nestingNow 0 = .ok (.aload_n 0, 1) := by decide +kernel
theorem d_Calls_nestingNow_1 : decode b_Calls_nestingNow 1 = .ok (.getfield 42, 3) := by decide +kernel
theorem d_Calls_nestingNow_4 : decode b_Calls_nestingNow 4 = .ok (.ifCond .le 17, 3) := by decide +kernel
theorem d_Calls_nestingNow_7 : decode b_Calls_nestingNow 7 = .ok (.aload_n 0, 1) := by decide +kernel
theorem d_Calls_nestingNow_8 : decode b_Calls_nestingNow 8 = .ok (.getfield 28, 3) := by decide +kernel
theorem d_Calls_nestingNow_11 : decode b_Calls_nestingNow 11 = .ok (.aload_n 0, 1) := by decide +kernel
theorem d_Calls_nestingNow_12 : decode b_Calls_nestingNow 12 = .ok (.getfield 42, 3) := by decide +kernel
theorem d_Calls_nestingNow_15 : decode b_Calls_nestingNow 15 = .ok (.iconst 1, 1) := by decide +kernel
theorem d_Calls_nestingNow_16 : decode b_Calls_nestingNow 16 = .ok (.isub, 1) := by decide +kernel
theorem d_Calls_nestingNow_17 : decode b_Calls_nestingNow 17 = .ok (.iaload, 1) := by decide +kernel
theorem d_Calls_nestingNow_18 : decode b_Calls_nestingNow 18 = .ok (.goto 4, 3) := by decide +kernel
theorem d_Calls_nestingNow_21 : decode b_Calls_nestingNow 21 = .ok (.iconst 0, 1) := by decide +kernel
theorem d_Calls_nestingNow_22 : decode b_Calls_nestingNow 22 = .ok (.ireturn, 1) := by decide +kernel
theorem d_First_divert_0 : decode b_First_divert 0 = .ok (.aload_n 0, 1) := by decide +kernel
theorem d_First_divert_1 : decode b_First_divert 1 = .ok (.getfield 389, 3) := by decide +kernel
theorem d_First_divert_4 : decode b_First_divert 4 = .ok (.iconst (-1), 1) := by decide +kernel
theorem d_First_divert_5 : decode b_First_divert 5 = .ok (.if_icmp .ne 4, 3) := by decide +kernel
theorem d_First_divert_8 : decode b_First_divert 8 = .ok (.return_, 1) := by decide +kernel
theorem d_First_divert_9 : decode b_First_divert 9 = .ok (.aload_n 0, 1) := by decide +kernel
theorem d_First_divert_10 : decode b_First_divert 10 = .ok (.getfield 386, 3) := by decide +kernel
theorem d_First_divert_13 : decode b_First_divert 13 = .ok (.iload_n 3, 1) := by decide +kernel
theorem d_First_divert_14 : decode b_First_divert 14 = .ok (.iadd, 1) := by decide +kernel
theorem d_First_divert_15 : decode b_First_divert 15 = .ok (.iload_n 2, 1) := by decide +kernel
theorem d_First_divert_16 : decode b_First_divert 16 = .ok (.isub, 1) := by decide +kernel
theorem d_First_divert_17 : decode b_First_divert 17 = .ok (.ldc 27, 2) := by decide +kernel
theorem d_First_divert_19 : decode b_First_divert 19 = .ok (.if_icmp .le 10, 3) := by decide +kernel
theorem d_First_divert_22 : decode b_First_divert 22 = .ok (.aload_n 0, 1) := by decide +kernel
theorem d_First_divert_23 : decode b_First_divert 23 = .ok (.bipush 40, 2) := by decide +kernel
theorem d_First_divert_25 : decode b_First_divert 25 = .ok (.invokevirtual 111, 3) := by decide +kernel
theorem d_First_divert_28 : decode b_First_divert 28 = .ok (.return_, 1) := by decide +kernel
theorem d_First_divert_29 : decode b_First_divert 29 = .ok (.iload_n 2, 1) := by decide +kernel
theorem d_First_divert_30 : decode b_First_divert 30 = .ok (.istore 4, 2) := by decide +kernel
theorem d_First_divert_32 : decode b_First_divert 32 = .ok (.iload 4, 2) := by decide +kernel
theorem d_First_divert_34 : decode b_First_divert 34 = .ok (.iload_n 3, 1) := by decide +kernel
theorem d_First_divert_35 : decode b_First_divert 35 = .ok (.if_icmp .ge 46, 3) := by decide +kernel
theorem d_First_divert_38 : decode b_First_divert 38 = .ok (.aload_n 0, 1) := by decide +kernel
theorem d_First_divert_39 : decode b_First_divert 39 = .ok (.invokevirtual 392, 3) := by decide +kernel
theorem d_First_divert_42 : decode b_First_divert 42 = .ok (.istore 5, 2) := by decide +kernel
theorem d_First_divert_44 : decode b_First_divert 44 = .ok (.aload_n 0, 1) := by decide +kernel
theorem d_First_divert_45 : decode b_First_divert 45 = .ok (.getfield 32, 3) := by decide +kernel
theorem d_First_divert_48 : decode b_First_divert 48 = .ok (.iload 5, 2) := by decide +kernel
theorem d_First_divert_50 : decode b_First_divert 50 = .ok (.aload_n 1, 1) := by decide +kernel
theorem d_First_divert_51 : decode b_First_divert 51 = .ok (.iload 4, 2) := by decide +kernel
theorem d_First_divert_53 : decode b_First_divert 53 = .ok (.baload, 1) := by decide +kernel
theorem d_First_divert_54 : decode b_First_divert 54 = .ok (.bastore, 1) := by decide +kernel
theorem d_First_divert_55 : decode b_First_divert 55 = .ok (.aload_n 0, 1) := by decide +kernel
theorem d_First_divert_56 : decode b_First_divert 56 = .ok (.getfield 35, 3) := by decide +kernel
theorem d_First_divert_59 : decode b_First_divert 59 = .ok (.iload 5, 2) := by decide +kernel
theorem d_First_divert_61 : decode b_First_divert 61 = .ok (.iconst (-1), 1) := by decide +kernel
theorem d_First_divert_62 : decode b_First_divert 62 = .ok (.iastore, 1) := by decide +kernel
theorem d_First_divert_63 : decode b_First_divert 63 = .ok (.aload_n 0, 1) := by decide +kernel
theorem d_First_divert_64 : decode b_First_divert 64 = .ok (.aload_n 0, 1) := by decide +kernel
theorem d_First_divert_65 : decode b_First_divert 65 = .ok (.getfield 389, 3) := by decide +kernel
theorem d_First_divert_68 : decode b_First_divert 68 = .ok (.iload 5, 2) := by decide +kernel
theorem d_First_divert_70 : decode b_First_divert 70 = .ok (.iload 5, 2) := by decide +kernel
theorem d_First_divert_72 : decode b_First_divert 72 = .ok (.invokevirtual 395, 3) := by decide +kernel
theorem d_First_divert_75 : decode b_First_divert 75 = .ok (.iinc 4 1, 3) := by decide +kernel
theorem d_First_divert_78 : decode b_First_divert 78 = .ok (.goto (-46), 3) := by decide +kernel
theorem d_First_divert_81 : decode b_First_divert 81 = .ok (.return_, 1) := by decide +kernel
theorem d_First_fail_0 : decode b_First_fail 0 = .ok (.aload_n 0, 1) := by decide +kernel
theorem d_First_fail_1 : decode b_First_fail 1 = .ok (.getfield 45, 3) := by decide +kernel
theorem d_First_fail_4 : decode b_First_fail 4 = .ok (.iload_n 1, 1) := by decide +kernel
theorem d_First_fail_5 : decode b_First_fail 5 = .ok (.aload_n 0, 1) := by decide +kernel
theorem d_First_fail_6 : decode b_First_fail 6 = .ok (.getfield 56, 3) := by decide +kernel
theorem d_First_fail_9 : decode b_First_fail 9 = .ok (.getfield 122, 3) := by decide +kernel
theorem d_First_fail_12 : decode b_First_fail 12 = .ok (.invokevirtual 125, 3) := by decide +kernel
theorem d_First_fail_15 : decode b_First_fail 15 = .ok (.return_, 1) := by decide +kernel
theorem d_First_finish_0 : decode b_First_finish 0 = .ok (.aload_n 0, 1) := by decide +kernel
theorem d_First_finish_1 : decode b_First_finish 1 = .ok (.getfield 12, 3) := by decide +kernel
theorem d_First_finish_4 : decode b_First_finish 4 = .ok (.getfield 108, 3) := by decide +kernel
theorem d_First_finish_7 : decode b_First_finish 7 = .ok (.ifCond .le 10, 3) := by decide +kernel
theorem d_First_finish_10 : decode b_First_finish 10 = .ok (.aload_n 0, 1) := by decide +kernel
theorem d_First_finish_11 : decode b_First_finish 11 = .ok (.bipush 33, 2) := by decide +kernel
theorem d_First_finish_13 : decode b_First_finish 13 = .ok (.invokevirtual 111, 3) := by decide +kernel
theorem d_First_finish_16 : decode b_First_finish 16 = .ok (.return_, 1) := by decide +kernel
theorem d_First_finish_17 : decode b_First_finish 17 = .ok (.iconst 0, 1) := by decide +kernel
theorem d_First_finish_18 : decode b_First_finish 18 = .ok (.istore_n 1, 1) := by decide +kernel
theorem d_First_finish_19 : decode b_First_finish 19 = .ok (.iload_n 1, 1) := by decide +kernel
theorem d_First_finish_20 : decode b_First_finish 20 = .ok (.bipush 9, 2) := by decide +kernel
theorem d_First_finish_22 : decode b_First_finish 22 = .ok (.if_icmp .gt 87, 3) := by decide +kernel
theorem d_First_finish_25 : decode b_First_finish 25 = .ok (.aload_n 0, 1) := by decide +kernel
theorem d_First_finish_26 : decode b_First_finish 26 = .ok (.getfield 39, 3) := by decide +kernel
theorem d_First_finish_29 : decode b_First_finish 29 = .ok (.iload_n 1, 1) := by decide +kernel
theorem d_First_finish_30 : decode b_First_finish 30 = .ok (.iaload, 1) := by decide +kernel
theorem d_First_finish_31 : decode b_First_finish 31 = .ok (.istore_n 2, 1) := by decide +kernel
theorem d_First_finish_32 : decode b_First_finish 32 = .ok (.iconst 0, 1) := by decide +kernel
theorem d_First_finish_33 : decode b_First_finish 33 = .ok (.istore_n 3, 1) := by decide +kernel
theorem d_First_finish_34 : decode b_First_finish 34 = .ok (.iload_n 3, 1) := by decide +kernel
theorem d_First_finish_35 : decode b_First_finish 35 = .ok (.ldc 27, 2) := by decide +kernel
theorem d_First_finish_37 : decode b_First_finish 37 = .ok (.if_icmp .ge 66, 3) := by decide +kernel
theorem d_First_finish_40 : decode b_First_finish 40 = .ok (.iload_n 2, 1) := by decide +kernel
theorem d_First_finish_41 : decode b_First_finish 41 = .ok (.ifCond .lt 62, 3) := by decide +kernel
theorem d_First_finish_44 : decode b_First_finish 44 = .ok (.aload_n 0, 1) := by decide +kernel
theorem d_First_finish_45 : decode b_First_finish 45 = .ok (.getfield 45, 3) := by decide +kernel
theorem d_First_finish_48 : decode b_First_finish 48 = .ok (.getfield 115, 3) := by decide +kernel
theorem d_First_finish_51 : decode b_First_finish 51 = .ok (.ldc 118, 2) := by decide +kernel
theorem d_First_finish_53 : decode b_First_finish 53 = .ok (.if_icmp .ge 50, 3) := by decide +kernel
theorem d_First_finish_56 : decode b_First_finish 56 = .ok (.aload_n 0, 1) := by decide +kernel
theorem d_First_finish_57 : decode b_First_finish 57 = .ok (.getfield 45, 3) := by decide +kernel
theorem d_First_finish_60 : decode b_First_finish 60 = .ok (.getfield 119, 3) := by decide +kernel
theorem d_First_finish_63 : decode b_First_finish 63 = .ok (.aload_n 0, 1) := by decide +kernel
theorem d_First_finish_64 : decode b_First_finish 64 = .ok (.getfield 45, 3) := by decide +kernel
theorem d_First_finish_67 : decode b_First_finish 67 = .ok (.getfield 115, 3) := by decide +kernel
theorem d_First_finish_70 : decode b_First_finish 70 = .ok (.aload_n 0, 1) := by decide +kernel
theorem d_First_finish_71 : decode b_First_finish 71 = .ok (.getfield 32, 3) := by decide +kernel
theorem d_First_finish_74 : decode b_First_finish 74 = .ok (.iload_n 2, 1) := by decide +kernel
theorem d_First_finish_75 : decode b_First_finish 75 = .ok (.baload, 1) := by decide +kernel
theorem d_First_finish_76 : decode b_First_finish 76 = .ok (.bastore, 1) := by decide +kernel
theorem d_First_finish_77 : decode b_First_finish 77 = .ok (.aload_n 0, 1) := by decide +kernel
theorem d_First_finish_78 : decode b_First_finish 78 = .ok (.getfield 45, 3) := by decide +kernel
theorem d_First_finish_81 : decode b_First_finish 81 = .ok (.dup, 1) := by decide +kernel
theorem d_First_finish_82 : decode b_First_finish 82 = .ok (.getfield 115, 3) := by decide +kernel
theorem d_First_finish_85 : decode b_First_finish 85 = .ok (.iconst 1, 1) := by decide +kernel
theorem d_First_finish_86 : decode b_First_finish 86 = .ok (.iadd, 1) := by decide +kernel
theorem d_First_finish_87 : decode b_First_finish 87 = .ok (.putfield 115, 3) := by decide +kernel
theorem d_First_finish_90 : decode b_First_finish 90 = .ok (.aload_n 0, 1) := by decide +kernel
theorem d_First_finish_91 : decode b_First_finish 91 = .ok (.getfield 35, 3) := by decide +kernel
theorem d_First_finish_94 : decode b_First_finish 94 = .ok (.iload_n 2, 1) := by decide +kernel
theorem d_First_finish_95 : decode b_First_finish 95 = .ok (.iaload, 1) := by decide +kernel
theorem d_First_finish_96 : decode b_First_finish 96 = .ok (.istore_n 2, 1) := by decide +kernel
theorem d_First_finish_97 : decode b_First_finish 97 = .ok (.iinc 3 1, 3) := by decide +kernel
theorem d_First_finish_100 : decode b_First_finish 100 = .ok (.goto (-66), 3) := by decide +kernel
theorem d_First_finish_103 : decode b_First_finish 103 = .ok (.iinc 1 1, 3) := by decide +kernel
theorem d_First_finish_106 : decode b_First_finish 106 = .ok (.goto (-87), 3) := by decide +kernel
theorem d_First_finish_109 : decode b_First_finish 109 = .ok (.return_, 1) := by decide +kernel
theorem d_First_giveByte_0 : decode b_First_giveByte 0 = .ok (.aload_n 0, 1) := by decide +kernel
theorem d_First_giveByte_1 : decode b_First_giveByte 1 = .ok (.getfield 191, 3) := by decide +kernel
theorem d_First_giveByte_4 : decode b_First_giveByte 4 = .ok (.ldc 27, 2) := by decide +kernel
theorem d_First_giveByte_6 : decode b_First_giveByte 6 = .ok (.if_icmp .ge 14, 3) := by decide +kernel
theorem d_First_giveByte_9 : decode b_First_giveByte 9 = .ok (.aload_n 0, 1) := by decide +kernel
theorem d_First_giveByte_10 : decode b_First_giveByte 10 = .ok (.getfield 28, 3) := by decide +kernel
theorem d_First_giveByte_13 : decode b_First_giveByte 13 = .ok (.aload_n 0, 1) := by decide +kernel
theorem d_First_giveByte_14 : decode b_First_giveByte 14 = .ok (.getfield 191, 3) := by decide +kernel
theorem d_First_giveByte_17 : decode b_First_giveByte 17 = .ok (.iload_n 1, 1) := by decide +kernel
theorem d_First_giveByte_18 : decode b_First_giveByte 18 = .ok (.i2b, 1) := by decide +kernel
theorem d_First_giveByte_19 : decode b_First_giveByte 19 = .ok (.bastore, 1) := by decide +kernel
theorem d_First_giveByte_20 : decode b_First_giveByte 20 = .ok (.aload_n 0, 1) := by decide +kernel
theorem d_First_giveByte_21 : decode b_First_giveByte 21 = .ok (.dup, 1) := by decide +kernel
theorem d_First_giveByte_22 : decode b_First_giveByte 22 = .ok (.getfield 191, 3) := by decide +kernel
theorem d_First_giveByte_25 : decode b_First_giveByte 25 = .ok (.iconst 1, 1) := by decide +kernel
theorem d_First_giveByte_26 : decode b_First_giveByte 26 = .ok (.iadd, 1) := by decide +kernel
theorem d_First_giveByte_27 : decode b_First_giveByte 27 = .ok (.putfield 191, 3) := by decide +kernel
theorem d_First_giveByte_30 : decode b_First_giveByte 30 = .ok (.return_, 1) := by decide +kernel
theorem d_First_giveNumber_0 : decode b_First_giveNumber 0 = .ok (.iload_n 1, 1) := by decide +kernel
theorem d_First_giveNumber_1 : decode b_First_giveNumber 1 = .ok (.i2l, 1) := by decide +kernel
theorem d_First_giveNumber_2 : decode b_First_giveNumber 2 = .ok (.lstore_n 2, 1) := by decide +kernel
theorem d_First_giveNumber_3 : decode b_First_giveNumber 3 = .ok (.lload_n 2, 1) := by decide +kernel
theorem d_First_giveNumber_4 : decode b_First_giveNumber 4 = .ok (.lconst 0, 1) := by decide +kernel
theorem d_First_giveNumber_5 : decode b_First_giveNumber 5 = .ok (.lcmp, 1) := by decide +kernel
theorem d_First_giveNumber_6 : decode b_First_giveNumber 6 = .ok (.ifCond .ge 12, 3) := by decide +kernel
theorem d_First_giveNumber_9 : decode b_First_giveNumber 9 = .ok (.aload_n 0, 1) := by decide +kernel
theorem d_First_giveNumber_10 : decode b_First_giveNumber 10 = .ok (.bipush 45, 2) := by decide +kernel
theorem d_First_giveNumber_12 : decode b_First_giveNumber 12 = .ok (.invokevirtual 249, 3) := by decide +kernel
theorem d_First_giveNumber_15 : decode b_First_giveNumber 15 = .ok (.lload_n 2, 1) := by decide +kernel
theorem d_First_giveNumber_16 : decode b_First_giveNumber 16 = .ok (.lneg, 1) := by decide +kernel
theorem d_First_giveNumber_17 : decode b_First_giveNumber 17 = .ok (.lstore_n 2, 1) := by decide +kernel
theorem d_First_giveNumber_18 : decode b_First_giveNumber 18 = .ok (.ldc2_w 262, 3) := by decide +kernel
theorem d_First_giveNumber_21 : decode b_First_giveNumber 21 = .ok (.lstore 4, 2) := by decide +kernel
theorem d_First_giveNumber_23 : decode b_First_giveNumber 23 = .ok (.lload 4, 2) := by decide +kernel
theorem d_First_giveNumber_25 : decode b_First_giveNumber 25 = .ok (.lconst 0, 1) := by decide +kernel
theorem d_First_giveNumber_26 : decode b_First_giveNumber 26 = .ok (.lcmp, 1) := by decide +kernel
theorem d_First_giveNumber_27 : decode b_First_giveNumber 27 = .ok (.ifCond .le 45, 3) := by decide +kernel
theorem d_First_giveNumber_30 : decode b_First_giveNumber 30 = .ok (.lload_n 2, 1) := by decide +kernel
theorem d_First_giveNumber_31 : decode b_First_giveNumber 31 = .ok (.lload 4, 2) := by decide +kernel
theorem d_First_giveNumber_33 : decode b_First_giveNumber 33 = .ok (.lcmp, 1) := by decide +kernel
theorem d_First_giveNumber_34 : decode b_First_giveNumber 34 = .ok (.ifCond .ge 10, 3) := by decide +kernel
theorem d_First_giveNumber_37 : decode b_First_giveNumber 37 = .ok (.lload 4, 2) := by decide +kernel
theorem d_First_giveNumber_39 : decode b_First_giveNumber 39 = .ok (.lconst 1, 1) := by decide +kernel
theorem d_First_giveNumber_40 : decode b_First_giveNumber 40 = .ok (.lcmp, 1) := by decide +kernel
theorem d_First_giveNumber_41 : decode b_First_giveNumber 41 = .ok (.ifCond .ne 20, 3) := by decide +kernel
theorem d_First_giveNumber_44 : decode b_First_giveNumber 44 = .ok (.aload_n 0, 1) := by decide +kernel
theorem d_First_giveNumber_45 : decode b_First_giveNumber 45 = .ok (.ldc2_w 264, 3) := by decide +kernel
theorem d_First_giveNumber_48 : decode b_First_giveNumber 48 = .ok (.lload_n 2, 1) := by decide +kernel
theorem d_First_giveNumber_49 : decode b_First_giveNumber 49 = .ok (.lload 4, 2) := by decide +kernel
theorem d_First_giveNumber_51 : decode b_First_giveNumber 51 = .ok (.ldiv, 1) := by decide +kernel
theorem d_First_giveNumber_52 : decode b_First_giveNumber 52 = .ok (.ldc2_w 266, 3) := by decide +kernel
theorem d_First_giveNumber_55 : decode b_First_giveNumber 55 = .ok (.lrem, 1) := by decide +kernel
theorem d_First_giveNumber_56 : decode b_First_giveNumber 56 = .ok (.ladd, 1) := by decide +kernel
theorem d_First_giveNumber_57 : decode b_First_giveNumber 57 = .ok (.l2i, 1) := by decide +kernel
theorem d_First_giveNumber_58 : decode b_First_giveNumber 58 = .ok (.invokevirtual 249, 3) := by decide +kernel
theorem d_First_giveNumber_61 : decode b_First_giveNumber 61 = .ok (.lload 4, 2) := by decide +kernel
theorem d_First_giveNumber_63 : decode b_First_giveNumber 63 = .ok (.ldc2_w 266, 3) := by decide +kernel
theorem d_First_giveNumber_66 : decode b_First_giveNumber 66 = .ok (.ldiv, 1) := by decide +kernel
theorem d_First_giveNumber_67 : decode b_First_giveNumber 67 = .ok (.lstore 4, 2) := by decide +kernel
theorem d_First_giveNumber_69 : decode b_First_giveNumber 69 = .ok (.goto (-46), 3) := by decide +kernel
theorem d_First_giveNumber_72 : decode b_First_giveNumber 72 = .ok (.return_, 1) := by decide +kernel
theorem d_First_giveQuote_0 : decode b_First_giveQuote 0 = .ok (.iconst 0, 1) := by decide +kernel
theorem d_First_giveQuote_1 : decode b_First_giveQuote 1 = .ok (.istore_n 2, 1) := by decide +kernel
theorem d_First_giveQuote_2 : decode b_First_giveQuote 2 = .ok (.iload_n 2, 1) := by decide +kernel
theorem d_First_giveQuote_3 : decode b_First_giveQuote 3 = .ok (.aload_n 0, 1) := by decide +kernel
theorem d_First_giveQuote_4 : decode b_First_giveQuote 4 = .ok (.getfield 56, 3) := by decide +kernel
theorem d_First_giveQuote_7 : decode b_First_giveQuote 7 = .ok (.iload_n 1, 1) := by decide +kernel
theorem d_First_giveQuote_8 : decode b_First_giveQuote 8 = .ok (.invokevirtual 241, 3) := by decide +kernel
theorem d_First_giveQuote_11 : decode b_First_giveQuote 11 = .ok (.if_icmp .ge 22, 3) := by decide +kernel
theorem d_First_giveQuote_14 : decode b_First_giveQuote 14 = .ok (.aload_n 0, 1) := by decide +kernel
theorem d_First_giveQuote_15 : decode b_First_giveQuote 15 = .ok (.aload_n 0, 1) := by decide +kernel
theorem d_First_giveQuote_16 : decode b_First_giveQuote 16 = .ok (.getfield 56, 3) := by decide +kernel
theorem d_First_giveQuote_19 : decode b_First_giveQuote 19 = .ok (.iload_n 1, 1) := by decide +kernel
theorem d_First_giveQuote_20 : decode b_First_giveQuote 20 = .ok (.iload_n 2, 1) := by decide +kernel
theorem d_First_giveQuote_21 : decode b_First_giveQuote 21 = .ok (.invokevirtual 245, 3) := by decide +kernel
theorem d_First_giveQuote_24 : decode b_First_giveQuote 24 = .ok (.invokevirtual 249, 3) := by decide +kernel
theorem d_First_giveQuote_27 : decode b_First_giveQuote 27 = .ok (.iinc 2 1, 3) := by decide +kernel
theorem d_First_giveQuote_30 : decode b_First_giveQuote 30 = .ok (.goto (-28), 3) := by decide +kernel
theorem d_First_giveQuote_33 : decode b_First_giveQuote 33 = .ok (.return_, 1) := by decide +kernel
theorem d_First_isCalled_0 : decode b_First_isCalled 0 = .ok (.aload_n 0, 1) := by decide +kernel
theorem d_First_isCalled_1 : decode b_First_isCalled 1 = .ok (.getfield 21, 3) := by decide +kernel
theorem d_First_isCalled_4 : decode b_First_isCalled 4 = .ok (.aload_n 0, 1) := by decide +kernel
theorem d_First_isCalled_5 : decode b_First_isCalled 5 = .ok (.getfield 56, 3) := by decide +kernel
theorem d_First_isCalled_8 : decode b_First_isCalled 8 = .ok (.getfield 137, 3) := by decide +kernel
theorem d_First_isCalled_11 : decode b_First_isCalled 11 = .ok (.aload_n 0, 1) := by decide +kernel
theorem d_First_isCalled_12 : decode b_First_isCalled 12 = .ok (.getfield 56, 3) := by decide +kernel
theorem d_First_isCalled_15 : decode b_First_isCalled 15 = .ok (.getfield 138, 3) := by decide +kernel
theorem d_First_isCalled_18 : decode b_First_isCalled 18 = .ok (.aload_n 0, 1) := by decide +kernel
theorem d_First_isCalled_19 : decode b_First_isCalled 19 = .ok (.getfield 56, 3) := by decide +kernel
theorem d_First_isCalled_22 : decode b_First_isCalled 22 = .ok (.getfield 141, 3) := by decide +kernel
theorem d_First_isCalled_25 : decode b_First_isCalled 25 = .ok (.aload_n 0, 1) := by decide +kernel
theorem d_First_isCalled_26 : decode b_First_isCalled 26 = .ok (.getfield 56, 3) := by decide +kernel
theorem d_First_isCalled_29 : decode b_First_isCalled 29 = .ok (.getfield 138, 3) := by decide +kernel
theorem d_First_isCalled_32 : decode b_First_isCalled 32 = .ok (.isub, 1) := by decide +kernel
theorem d_First_isCalled_33 : decode b_First_isCalled 33 = .ok (.invokevirtual 148, 3) := by decide +kernel
theorem d_First_isCalled_36 : decode b_First_isCalled 36 = .ok (.istore_n 1, 1) := by decide +kernel
theorem d_First_isCalled_37 : decode b_First_isCalled 37 = .ok (.iload_n 1, 1) := by decide +kernel
theorem d_First_isCalled_38 : decode b_First_isCalled 38 = .ok (.ifCond .lt 28, 3) := by decide +kernel
theorem d_First_isCalled_41 : decode b_First_isCalled 41 = .ok (.aload_n 0, 1) := by decide +kernel
theorem d_First_isCalled_42 : decode b_First_isCalled 42 = .ok (.getfield 21, 3) := by decide +kernel
theorem d_First_isCalled_45 : decode b_First_isCalled 45 = .ok (.iload_n 1, 1) := by decide +kernel
theorem d_First_isCalled_46 : decode b_First_isCalled 46 = .ok (.invokevirtual 152, 3) := by decide +kernel
theorem d_First_isCalled_49 : decode b_First_isCalled 49 = .ok (.ifCond .eq 13, 3) := by decide +kernel
theorem d_First_isCalled_52 : decode b_First_isCalled 52 = .ok (.aload_n 0, 1) := by decide +kernel
theorem d_First_isCalled_53 : decode b_First_isCalled 53 = .ok (.getfield 56, 3) := by decide +kernel
theorem d_First_isCalled_56 : decode b_First_isCalled 56 = .ok (.invokevirtual 156, 3) := by decide +kernel
theorem d_First_isCalled_59 : decode b_First_isCalled 59 = .ok (.ifCond .eq 7, 3) := by decide +kernel
theorem d_First_isCalled_62 : decode b_First_isCalled 62 = .ok (.iconst 1, 1) := by decide +kernel
theorem d_First_isCalled_63 : decode b_First_isCalled 63 = .ok (.goto 4, 3) := by decide +kernel
theorem d_First_isCalled_66 : decode b_First_isCalled 66 = .ok (.iconst 0, 1) := by decide +kernel
theorem d_First_isCalled_67 : decode b_First_isCalled 67 = .ok (.ireturn, 1) := by decide +kernel
theorem d_First_isOperatorOfTwo_0 : decode b_First_isOperatorOfTwo 0 = .ok (.iload_n 1, 1) := by decide +kernel
theorem d_First_isOperatorOfTwo_1 : decode b_First_isOperatorOfTwo 1 = .ok (.bipush 61, 2) := by decide +kernel
theorem d_First_isOperatorOfTwo_3 : decode b_First_isOperatorOfTwo 3 = .ok (.if_icmp .ne 33, 3) := by decide +kernel
theorem d_First_isOperatorOfTwo_6 : decode b_First_isOperatorOfTwo 6 = .ok (.iload_n 0, 1) := by decide +kernel
theorem d_First_isOperatorOfTwo_7 : decode b_First_isOperatorOfTwo 7 = .ok (.bipush 61, 2) := by decide +kernel
theorem d_First_isOperatorOfTwo_9 : decode b_First_isOperatorOfTwo 9 = .ok (.if_icmp .eq 21, 3) := by decide +kernel
theorem d_First_isOperatorOfTwo_12 : decode b_First_isOperatorOfTwo 12 = .ok (.iload_n 0, 1) := by decide +kernel
theorem d_First_isOperatorOfTwo_13 : decode b_First_isOperatorOfTwo 13 = .ok (.bipush 33, 2) := by decide +kernel
theorem d_First_isOperatorOfTwo_15 : decode b_First_isOperatorOfTwo 15 = .ok (.if_icmp .eq 15, 3) := by decide +kernel
theorem d_First_isOperatorOfTwo_18 : decode b_First_isOperatorOfTwo 18 = .ok (.iload_n 0, 1) := by decide +kernel
theorem d_First_isOperatorOfTwo_19 : decode b_First_isOperatorOfTwo 19 = .ok (.bipush 60, 2) := by decide +kernel
theorem d_First_isOperatorOfTwo_21 : decode b_First_isOperatorOfTwo 21 = .ok (.if_icmp .eq 9, 3) := by decide +kernel
theorem d_First_isOperatorOfTwo_24 : decode b_First_isOperatorOfTwo 24 = .ok (.iload_n 0, 1) := by decide +kernel
theorem d_First_isOperatorOfTwo_25 : decode b_First_isOperatorOfTwo 25 = .ok (.bipush 62, 2) := by decide +kernel
theorem d_First_isOperatorOfTwo_27 : decode b_First_isOperatorOfTwo 27 = .ok (.if_icmp .ne 7, 3) := by decide +kernel
theorem d_First_isOperatorOfTwo_30 : decode b_First_isOperatorOfTwo 30 = .ok (.iconst 1, 1) := by decide +kernel
theorem d_First_isOperatorOfTwo_31 : decode b_First_isOperatorOfTwo 31 = .ok (.goto 4, 3) := by decide +kernel
theorem d_First_isOperatorOfTwo_34 : decode b_First_isOperatorOfTwo 34 = .ok (.iconst 0, 1) := by decide +kernel
theorem d_First_isOperatorOfTwo_35 : decode b_First_isOperatorOfTwo 35 = .ok (.ireturn, 1) := by decide +kernel
theorem d_First_isOperatorOfTwo_36 : decode b_First_isOperatorOfTwo 36 = .ok (.iload_n 0, 1) := by decide +kernel
theorem d_First_isOperatorOfTwo_37 : decode b_First_isOperatorOfTwo 37 = .ok (.iload_n 1, 1) := by decide +kernel
theorem d_First_isOperatorOfTwo_38 : decode b_First_isOperatorOfTwo 38 = .ok (.if_icmp .ne 31, 3) := by decide +kernel
theorem d_First_isOperatorOfTwo_41 : decode b_First_isOperatorOfTwo 41 = .ok (.iload_n 0, 1) := by decide +kernel
theorem d_First_isOperatorOfTwo_42 : decode b_First_isOperatorOfTwo 42 = .ok (.bipush 124, 2) := by decide +kernel
theorem d_First_isOperatorOfTwo_44 : decode b_First_isOperatorOfTwo 44 = .ok (.if_icmp .eq 21, 3) := by decide +kernel
theorem d_First_isOperatorOfTwo_47 : decode b_First_isOperatorOfTwo 47 = .ok (.iload_n 0, 1) := by decide +kernel
theorem d_First_isOperatorOfTwo_48 : decode b_First_isOperatorOfTwo 48 = .ok (.bipush 38, 2) := by decide +kernel
theorem d_First_isOperatorOfTwo_50 : decode b_First_isOperatorOfTwo 50 = .ok (.if_icmp .eq 15, 3) := by decide +kernel
theorem d_First_isOperatorOfTwo_53 : decode b_First_isOperatorOfTwo 53 = .ok (.iload_n 0, 1) := by decide +kernel
theorem d_First_isOperatorOfTwo_54 : decode b_First_isOperatorOfTwo 54 = .ok (.bipush 60, 2) := by decide +kernel
theorem d_First_isOperatorOfTwo_56 : decode b_First_isOperatorOfTwo 56 = .ok (.if_icmp .eq 9, 3) := by decide +kernel
theorem d_First_isOperatorOfTwo_59 : decode b_First_isOperatorOfTwo 59 = .ok (.iload_n 0, 1) := by decide +kernel
theorem d_First_isOperatorOfTwo_60 : decode b_First_isOperatorOfTwo 60 = .ok (.bipush 62, 2) := by decide +kernel
theorem d_First_isOperatorOfTwo_62 : decode b_First_isOperatorOfTwo 62 = .ok (.if_icmp .ne 7, 3) := by decide +kernel
theorem d_First_isOperatorOfTwo_65 : decode b_First_isOperatorOfTwo 65 = .ok (.iconst 1, 1) := by decide +kernel
theorem d_First_isOperatorOfTwo_66 : decode b_First_isOperatorOfTwo 66 = .ok (.goto 4, 3) := by decide +kernel
theorem d_First_isOperatorOfTwo_69 : decode b_First_isOperatorOfTwo 69 = .ok (.iconst 0, 1) := by decide +kernel
theorem d_First_isOperatorOfTwo_70 : decode b_First_isOperatorOfTwo 70 = .ok (.ireturn, 1) := by decide +kernel
theorem d_First_join_0 : decode b_First_join 0 = .ok (.aload_n 0, 1) := by decide +kernel
theorem d_First_join_1 : decode b_First_join 1 = .ok (.getfield 39, 3) := by decide +kernel
theorem d_First_join_4 : decode b_First_join 4 = .ok (.iload_n 1, 1) := by decide +kernel
theorem d_First_join_5 : decode b_First_join 5 = .ok (.iaload, 1) := by decide +kernel
theorem d_First_join_6 : decode b_First_join 6 = .ok (.ifCond .ge 13, 3) := by decide +kernel
theorem d_First_join_9 : decode b_First_join 9 = .ok (.aload_n 0, 1) := by decide +kernel
theorem d_First_join_10 : decode b_First_join 10 = .ok (.getfield 39, 3) := by decide +kernel
theorem d_First_join_13 : decode b_First_join 13 = .ok (.iload_n 1, 1) := by decide +kernel
theorem d_First_join_14 : decode b_First_join 14 = .ok (.iload_n 2, 1) := by decide +kernel
theorem d_First_join_15 : decode b_First_join 15 = .ok (.iastore, 1) := by decide +kernel
theorem d_First_join_16 : decode b_First_join 16 = .ok (.goto 15, 3) := by decide +kernel
theorem d_First_join_19 : decode b_First_join 19 = .ok (.aload_n 0, 1) := by decide +kernel
theorem d_First_join_20 : decode b_First_join 20 = .ok (.getfield 35, 3) := by decide +kernel
theorem d_First_join_23 : decode b_First_join 23 = .ok (.aload_n 0, 1) := by decide +kernel
theorem d_First_join_24 : decode b_First_join 24 = .ok (.getfield 42, 3) := by decide +kernel
theorem d_First_join_27 : decode b_First_join 27 = .ok (.iload_n 1, 1) := by decide +kernel
theorem d_First_join_28 : decode b_First_join 28 = .ok (.iaload, 1) := by decide +kernel
theorem d_First_join_29 : decode b_First_join 29 = .ok (.iload_n 2, 1) := by decide +kernel
theorem d_First_join_30 : decode b_First_join 30 = .ok (.iastore, 1) := by decide +kernel
theorem d_First_join_31 : decode b_First_join 31 = .ok (.aload_n 0, 1) := by decide +kernel
theorem d_First_join_32 : decode b_First_join 32 = .ok (.getfield 42, 3) := by decide +kernel
theorem d_First_join_35 : decode b_First_join 35 = .ok (.iload_n 1, 1) := by decide +kernel
theorem d_First_join_36 : decode b_First_join 36 = .ok (.iload_n 3, 1) := by decide +kernel
theorem d_First_join_37 : decode b_First_join 37 = .ok (.iastore, 1) := by decide +kernel
theorem d_First_join_38 : decode b_First_join 38 = .ok (.return_, 1) := by decide +kernel
theorem d_First_number_0 : decode b_First_number 0 = .ok (.aload_n 0, 1) := by decide +kernel
theorem d_First_number_1 : decode b_First_number 1 = .ok (.getfield 12, 3) := by decide +kernel
theorem d_First_number_4 : decode b_First_number 4 = .ok (.iload_n 1, 1) := by decide +kernel
theorem d_First_number_5 : decode b_First_number 5 = .ok (.invokevirtual 232, 3) := by decide +kernel
theorem d_First_number_8 : decode b_First_number 8 = .ok (.istore_n 2, 1) := by decide +kernel
theorem d_First_number_9 : decode b_First_number 9 = .ok (.aload_n 0, 1) := by decide +kernel
theorem d_First_number_10 : decode b_First_number 10 = .ok (.getfield 12, 3) := by decide +kernel
theorem d_First_number_13 : decode b_First_number 13 = .ok (.iload_n 1, 1) := by decide +kernel
theorem d_First_number_14 : decode b_First_number 14 = .ok (.invokevirtual 235, 3) := by decide +kernel
theorem d_First_number_17 : decode b_First_number 17 = .ok (.istore_n 3, 1) := by decide +kernel
theorem d_First_number_18 : decode b_First_number 18 = .ok (.iload_n 3, 1) := by decide +kernel
theorem d_First_number_19 : decode b_First_number 19 = .ok (.ifCond .ne 5, 3) := by decide +kernel
theorem d_First_number_22 : decode b_First_number 22 = .ok (.iconst 0, 1) := by decide +kernel
theorem d_First_number_23 : decode b_First_number 23 = .ok (.ireturn, 1) := by decide +kernel
theorem d_First_number_24 : decode b_First_number 24 = .ok (.aload_n 0, 1) := by decide +kernel
theorem d_First_number_25 : decode b_First_number 25 = .ok (.getfield 12, 3) := by decide +kernel
theorem d_First_number_28 : decode b_First_number 28 = .ok (.getfield 194, 3) := by decide +kernel
theorem d_First_number_31 : decode b_First_number 31 = .ok (.iload_n 2, 1) := by decide +kernel
theorem d_First_number_32 : decode b_First_number 32 = .ok (.baload, 1) := by decide +kernel
theorem d_First_number_33 : decode b_First_number 33 = .ok (.bipush 45, 2) := by decide +kernel
theorem d_First_number_35 : decode b_First_number 35 = .ok (.if_icmp .ne 7, 3) := by decide +kernel
theorem d_First_number_38 : decode b_First_number 38 = .ok (.iconst 1, 1) := by decide +kernel
theorem d_First_number_39 : decode b_First_number 39 = .ok (.goto 4, 3) := by decide +kernel
theorem d_First_number_42 : decode b_First_number 42 = .ok (.iconst 0, 1) := by decide +kernel
theorem d_First_number_43 : decode b_First_number 43 = .ok (.istore 4, 2) := by decide +kernel
theorem d_First_number_45 : decode b_First_number 45 = .ok (.iload 4, 2) := by decide +kernel
theorem d_First_number_47 : decode b_First_number 47 = .ok (.ifCond .eq 9, 3) := by decide +kernel
theorem d_First_number_50 : decode b_First_number 50 = .ok (.iload_n 3, 1) := by decide +kernel
theorem d_First_number_51 : decode b_First_number 51 = .ok (.iconst 1, 1) := by decide +kernel
theorem d_First_number_52 : decode b_First_number 52 = .ok (.isub, 1) := by decide +kernel
theorem d_First_number_53 : decode b_First_number 53 = .ok (.goto 4, 3) := by decide +kernel
theorem d_First_number_56 : decode b_First_number 56 = .ok (.iload_n 3, 1) := by decide +kernel
theorem d_First_number_57 : decode b_First_number 57 = .ok (.istore 5, 2) := by decide +kernel
theorem d_First_number_59 : decode b_First_number 59 = .ok (.iload 5, 2) := by decide +kernel
theorem d_First_number_61 : decode b_First_number 61 = .ok (.iconst 1, 1) := by decide +kernel
theorem d_First_number_62 : decode b_First_number 62 = .ok (.if_icmp .lt 10, 3) := by decide +kernel
theorem d_First_number_65 : decode b_First_number 65 = .ok (.iload 5, 2) := by decide +kernel
theorem d_First_number_67 : decode b_First_number 67 = .ok (.bipush 9, 2) := by decide +kernel
theorem d_First_number_69 : decode b_First_number 69 = .ok (.if_icmp .le 11, 3) := by decide +kernel
theorem d_First_number_72 : decode b_First_number 72 = .ok (.aload_n 0, 1) := by decide +kernel
theorem d_First_number_73 : decode b_First_number 73 = .ok (.bipush 36, 2) := by decide +kernel
theorem d_First_number_75 : decode b_First_number 75 = .ok (.invokevirtual 111, 3) := by decide +kernel
theorem d_First_number_78 : decode b_First_number 78 = .ok (.iconst 0, 1) := by decide +kernel
theorem d_First_number_79 : decode b_First_number 79 = .ok (.ireturn, 1) := by decide +kernel
theorem d_First_number_80 : decode b_First_number 80 = .ok (.iconst 0, 1) := by decide +kernel
theorem d_First_number_81 : decode b_First_number 81 = .ok (.istore 6, 2) := by decide +kernel
theorem d_First_number_83 : decode b_First_number 83 = .ok (.iload_n 2, 1) := by decide +kernel
theorem d_First_number_84 : decode b_First_number 84 = .ok (.iload_n 3, 1) := by decide +kernel
theorem d_First_number_85 : decode b_First_number 85 = .ok (.iadd, 1) := by decide +kernel
theorem d_First_number_86 : decode b_First_number 86 = .ok (.iload 5, 2) := by decide +kernel
theorem d_First_number_88 : decode b_First_number 88 = .ok (.isub, 1) := by decide +kernel
theorem d_First_number_89 : decode b_First_number 89 = .ok (.istore 7, 2) := by decide +kernel
theorem d_First_number_91 : decode b_First_number 91 = .ok (.iload 7, 2) := by decide +kernel
theorem d_First_number_93 : decode b_First_number 93 = .ok (.iload_n 2, 1) := by decide +kernel
theorem d_First_number_94 : decode b_First_number 94 = .ok (.iload_n 3, 1) := by decide +kernel
theorem d_First_number_95 : decode b_First_number 95 = .ok (.iadd, 1) := by decide +kernel
theorem d_First_number_96 : decode b_First_number 96 = .ok (.if_icmp .ge 54, 3) := by decide +kernel
theorem d_First_number_99 : decode b_First_number 99 = .ok (.aload_n 0, 1) := by decide +kernel
theorem d_First_number_100 : decode b_First_number 100 = .ok (.getfield 12, 3) := by decide +kernel
theorem d_First_number_103 : decode b_First_number 103 = .ok (.getfield 194, 3) := by decide +kernel
theorem d_First_number_106 : decode b_First_number 106 = .ok (.iload 7, 2) := by decide +kernel
theorem d_First_number_108 : decode b_First_number 108 = .ok (.baload, 1) := by decide +kernel
theorem d_First_number_109 : decode b_First_number 109 = .ok (.invokestatic 277, 3) := by decide +kernel
theorem d_First_number_112 : decode b_First_number 112 = .ok (.ifCond .ne 11, 3) := by decide +kernel
theorem d_First_number_115 : decode b_First_number 115 = .ok (.aload_n 0, 1) := by decide +kernel
theorem d_First_number_116 : decode b_First_number 116 = .ok (.bipush 36, 2) := by decide +kernel
theorem d_First_number_118 : decode b_First_number 118 = .ok (.invokevirtual 111, 3) := by decide +kernel
theorem d_First_number_121 : decode b_First_number 121 = .ok (.iconst 0, 1) := by decide +kernel
theorem d_First_number_122 : decode b_First_number 122 = .ok (.ireturn, 1) := by decide +kernel
theorem d_First_number_123 : decode b_First_number 123 = .ok (.iload 6, 2) := by decide +kernel
theorem d_First_number_125 : decode b_First_number 125 = .ok (.bipush 10, 2) := by decide +kernel
theorem d_First_number_127 : decode b_First_number 127 = .ok (.imul, 1) := by decide +kernel
theorem d_First_number_128 : decode b_First_number 128 = .ok (.aload_n 0, 1) := by decide +kernel
theorem d_First_number_129 : decode b_First_number 129 = .ok (.getfield 12, 3) := by decide +kernel
theorem d_First_number_132 : decode b_First_number 132 = .ok (.getfield 194, 3) := by decide +kernel
theorem d_First_number_135 : decode b_First_number 135 = .ok (.iload 7, 2) := by decide +kernel
theorem d_First_number_137 : decode b_First_number 137 = .ok (.baload, 1) := by decide +kernel
theorem d_First_number_138 : decode b_First_number 138 = .ok (.iadd, 1) := by decide +kernel
theorem d_First_number_139 : decode b_First_number 139 = .ok (.bipush 48, 2) := by decide +kernel
theorem d_First_number_141 : decode b_First_number 141 = .ok (.isub, 1) := by decide +kernel
theorem d_First_number_142 : decode b_First_number 142 = .ok (.istore 6, 2) := by decide +kernel
theorem d_First_number_144 : decode b_First_number 144 = .ok (.iinc 7 1, 3) := by decide +kernel
theorem d_First_number_147 : decode b_First_number 147 = .ok (.goto (-56), 3) := by decide +kernel
theorem d_First_number_150 : decode b_First_number 150 = .ok (.iload 4, 2) := by decide +kernel
theorem d_First_number_152 : decode b_First_number 152 = .ok (.ifCond .eq 9, 3) := by decide +kernel
theorem d_First_number_155 : decode b_First_number 155 = .ok (.iload 6, 2) := by decide +kernel
theorem d_First_number_157 : decode b_First_number 157 = .ok (.ineg, 1) := by decide +kernel
theorem d_First_number_158 : decode b_First_number 158 = .ok (.goto 5, 3) := by decide +kernel
theorem d_First_number_161 : decode b_First_number 161 = .ok (.iload 6, 2) := by decide +kernel
theorem d_First_number_163 : decode b_First_number 163 = .ok (.ireturn, 1) := by decide +kernel
theorem d_First_place_0 : decode b_First_place 0 = .ok (.aload_n 0, 1) := by decide +kernel
theorem d_First_place_1 : decode b_First_place 1 = .ok (.getfield 12, 3) := by decide +kernel
theorem d_First_place_4 : decode b_First_place 4 = .ok (.iconst 0, 1) := by decide +kernel
theorem d_First_place_5 : decode b_First_place 5 = .ok (.invokevirtual 232, 3) := by decide +kernel
theorem d_First_place_8 : decode b_First_place 8 = .ok (.istore_n 1, 1) := by decide +kernel
theorem d_First_place_9 : decode b_First_place 9 = .ok (.aload_n 0, 1) := by decide +kernel
theorem d_First_place_10 : decode b_First_place 10 = .ok (.getfield 12, 3) := by decide +kernel
theorem d_First_place_13 : decode b_First_place 13 = .ok (.iconst 1, 1) := by decide +kernel
theorem d_First_place_14 : decode b_First_place 14 = .ok (.invokevirtual 232, 3) := by decide +kernel
theorem d_First_place_17 : decode b_First_place 17 = .ok (.istore_n 2, 1) := by decide +kernel
theorem d_First_place_18 : decode b_First_place 18 = .ok (.aload_n 0, 1) := by decide +kernel
theorem d_First_place_19 : decode b_First_place 19 = .ok (.getfield 12, 3) := by decide +kernel
theorem d_First_place_22 : decode b_First_place 22 = .ok (.iconst 1, 1) := by decide +kernel
theorem d_First_place_23 : decode b_First_place 23 = .ok (.invokevirtual 235, 3) := by decide +kernel
theorem d_First_place_26 : decode b_First_place 26 = .ok (.istore_n 3, 1) := by decide +kernel
theorem d_First_place_27 : decode b_First_place 27 = .ok (.aload_n 0, 1) := by decide +kernel
theorem d_First_place_28 : decode b_First_place 28 = .ok (.getfield 12, 3) := by decide +kernel
theorem d_First_place_31 : decode b_First_place 31 = .ok (.iconst 0, 1) := by decide +kernel
theorem d_First_place_32 : decode b_First_place 32 = .ok (.invokevirtual 235, 3) := by decide +kernel
theorem d_First_place_35 : decode b_First_place 35 = .ok (.iload_n 3, 1) := by decide +kernel
theorem d_First_place_36 : decode b_First_place 36 = .ok (.isub, 1) := by decide +kernel
theorem d_First_place_37 : decode b_First_place 37 = .ok (.istore 4, 2) := by decide +kernel
theorem d_First_place_39 : decode b_First_place 39 = .ok (.iconst 0, 1) := by decide +kernel
theorem d_First_place_40 : decode b_First_place 40 = .ok (.istore 5, 2) := by decide +kernel
theorem d_First_place_42 : decode b_First_place 42 = .ok (.iload 5, 2) := by decide +kernel
theorem d_First_place_44 : decode b_First_place 44 = .ok (.iload 4, 2) := by decide +kernel
theorem d_First_place_46 : decode b_First_place 46 = .ok (.if_icmp .gt 38, 3) := by decide +kernel
theorem d_First_place_49 : decode b_First_place 49 = .ok (.aload_n 0, 1) := by decide +kernel
theorem d_First_place_50 : decode b_First_place 50 = .ok (.getfield 12, 3) := by decide +kernel
theorem d_First_place_53 : decode b_First_place 53 = .ok (.getfield 194, 3) := by decide +kernel
theorem d_First_place_56 : decode b_First_place 56 = .ok (.iload_n 1, 1) := by decide +kernel
theorem d_First_place_57 : decode b_First_place 57 = .ok (.iload 5, 2) := by decide +kernel
theorem d_First_place_59 : decode b_First_place 59 = .ok (.iadd, 1) := by decide +kernel
theorem d_First_place_60 : decode b_First_place 60 = .ok (.aload_n 0, 1) := by decide +kernel
theorem d_First_place_61 : decode b_First_place 61 = .ok (.getfield 12, 3) := by decide +kernel
theorem d_First_place_64 : decode b_First_place 64 = .ok (.getfield 194, 3) := by decide +kernel
theorem d_First_place_67 : decode b_First_place 67 = .ok (.iload_n 2, 1) := by decide +kernel
theorem d_First_place_68 : decode b_First_place 68 = .ok (.iload_n 3, 1) := by decide +kernel
theorem d_First_place_69 : decode b_First_place 69 = .ok (.invokestatic 314, 3) := by decide +kernel
theorem d_First_place_72 : decode b_First_place 72 = .ok (.ifCond .eq 6, 3) := by decide +kernel
theorem d_First_place_75 : decode b_First_place 75 = .ok (.iload 5, 2) := by decide +kernel
theorem d_First_place_77 : decode b_First_place 77 = .ok (.ireturn, 1) := by decide +kernel
theorem d_First_place_78 : decode b_First_place 78 = .ok (.iinc 5 1, 3) := by decide +kernel
theorem d_First_place_81 : decode b_First_place 81 = .ok (.goto (-39), 3) := by decide +kernel
theorem d_First_place_84 : decode b_First_place 84 = .ok (.iconst (-1), 1) := by decide +kernel
theorem d_First_place_85 : decode b_First_place 85 = .ok (.ireturn, 1) := by decide +kernel
theorem d_First_release_0 : decode b_First_release 0 = .ok (.aload_n 0, 1) := by decide +kernel
theorem d_First_release_1 : decode b_First_release 1 = .ok (.getfield 39, 3) := by decide +kernel
theorem d_First_release_4 : decode b_First_release 4 = .ok (.iload_n 1, 1) := by decide +kernel
theorem d_First_release_5 : decode b_First_release 5 = .ok (.iaload, 1) := by decide +kernel
theorem d_First_release_6 : decode b_First_release 6 = .ok (.istore_n 2, 1) := by decide +kernel
theorem d_First_release_7 : decode b_First_release 7 = .ok (.iconst 0, 1) := by decide +kernel
theorem d_First_release_8 : decode b_First_release 8 = .ok (.istore_n 3, 1) := by decide +kernel
theorem d_First_release_9 : decode b_First_release 9 = .ok (.iload_n 3, 1) := by decide +kernel
theorem d_First_release_10 : decode b_First_release 10 = .ok (.ldc 27, 2) := by decide +kernel
theorem d_First_release_12 : decode b_First_release 12 = .ok (.if_icmp .ge 30, 3) := by decide +kernel
theorem d_First_release_15 : decode b_First_release 15 = .ok (.iload_n 2, 1) := by decide +kernel
theorem d_First_release_16 : decode b_First_release 16 = .ok (.ifCond .lt 26, 3) := by decide +kernel
theorem d_First_release_19 : decode b_First_release 19 = .ok (.aload_n 0, 1) := by decide +kernel
theorem d_First_release_20 : decode b_First_release 20 = .ok (.dup, 1) := by decide +kernel
theorem d_First_release_21 : decode b_First_release 21 = .ok (.getfield 386, 3) := by decide +kernel
theorem d_First_release_24 : decode b_First_release 24 = .ok (.iconst 1, 1) := by decide +kernel
theorem d_First_release_25 : decode b_First_release 25 = .ok (.isub, 1) := by decide +kernel
theorem d_First_release_26 : decode b_First_release 26 = .ok (.putfield 386, 3) := by decide +kernel
theorem d_First_release_29 : decode b_First_release 29 = .ok (.aload_n 0, 1) := by decide +kernel
theorem d_First_release_30 : decode b_First_release 30 = .ok (.getfield 35, 3) := by decide +kernel
theorem d_First_release_33 : decode b_First_release 33 = .ok (.iload_n 2, 1) := by decide +kernel
theorem d_First_release_34 : decode b_First_release 34 = .ok (.iaload, 1) := by decide +kernel
theorem d_First_release_35 : decode b_First_release 35 = .ok (.istore_n 2, 1) := by decide +kernel
theorem d_First_release_36 : decode b_First_release 36 = .ok (.iinc 3 1, 3) := by decide +kernel
theorem d_First_release_39 : decode b_First_release 39 = .ok (.goto (-30), 3) := by decide +kernel
theorem d_First_release_42 : decode b_First_release 42 = .ok (.aload_n 0, 1) := by decide +kernel
theorem d_First_release_43 : decode b_First_release 43 = .ok (.getfield 35, 3) := by decide +kernel
theorem d_First_release_46 : decode b_First_release 46 = .ok (.aload_n 0, 1) := by decide +kernel
theorem d_First_release_47 : decode b_First_release 47 = .ok (.getfield 42, 3) := by decide +kernel
theorem d_First_release_50 : decode b_First_release 50 = .ok (.iload_n 1, 1) := by decide +kernel
theorem d_First_release_51 : decode b_First_release 51 = .ok (.iaload, 1) := by decide +kernel
theorem d_First_release_52 : decode b_First_release 52 = .ok (.aload_n 0, 1) := by decide +kernel
theorem d_First_release_53 : decode b_First_release 53 = .ok (.getfield 380, 3) := by decide +kernel
theorem d_First_release_56 : decode b_First_release 56 = .ok (.iastore, 1) := by decide +kernel
theorem d_First_release_57 : decode b_First_release 57 = .ok (.aload_n 0, 1) := by decide +kernel
theorem d_First_release_58 : decode b_First_release 58 = .ok (.aload_n 0, 1) := by decide +kernel
theorem d_First_release_59 : decode b_First_release 59 = .ok (.getfield 39, 3) := by decide +kernel
theorem d_First_release_62 : decode b_First_release 62 = .ok (.iload_n 1, 1) := by decide +kernel
theorem d_First_release_63 : decode b_First_release 63 = .ok (.iaload, 1) := by decide +kernel
theorem d_First_release_64 : decode b_First_release 64 = .ok (.putfield 380, 3) := by decide +kernel
theorem d_First_release_67 : decode b_First_release 67 = .ok (.return_, 1) := by decide +kernel
theorem d_First_setCurrent_0 : decode b_First_setCurrent 0 = .ok (.iload_n 1, 1) := by decide +kernel
theorem d_First_setCurrent_1 : decode b_First_setCurrent 1 = .ok (.bipush 9, 2) := by decide +kernel
theorem d_First_setCurrent_3 : decode b_First_setCurrent 3 = .ok (.if_icmp .le 10, 3) := by decide +kernel
theorem d_First_setCurrent_6 : decode b_First_setCurrent 6 = .ok (.aload_n 0, 1) := by decide +kernel
theorem d_First_setCurrent_7 : decode b_First_setCurrent 7 = .ok (.bipush 36, 2) := by decide +kernel
theorem d_First_setCurrent_9 : decode b_First_setCurrent 9 = .ok (.invokevirtual 111, 3) := by decide +kernel
theorem d_First_setCurrent_12 : decode b_First_setCurrent 12 = .ok (.return_, 1) := by decide +kernel
theorem d_First_setCurrent_13 : decode b_First_setCurrent 13 = .ok (.aload_n 0, 1) := by decide +kernel
theorem d_First_setCurrent_14 : decode b_First_setCurrent 14 = .ok (.iload_n 1, 1) := by decide +kernel
theorem d_First_setCurrent_15 : decode b_First_setCurrent 15 = .ok (.ifCond .ge 7, 3) := by decide +kernel
theorem d_First_setCurrent_18 : decode b_First_setCurrent 18 = .ok (.iconst (-1), 1) := by decide +kernel
theorem d_First_setCurrent_19 : decode b_First_setCurrent 19 = .ok (.goto 4, 3) := by decide +kernel
theorem d_First_setCurrent_22 : decode b_First_setCurrent 22 = .ok (.iload_n 1, 1) := by decide +kernel
theorem d_First_setCurrent_23 : decode b_First_setCurrent 23 = .ok (.putfield 389, 3) := by decide +kernel
theorem d_First_setCurrent_26 : decode b_First_setCurrent 26 = .ok (.return_, 1) := by decide +kernel
theorem d_First_takeNumber_0 : decode b_First_takeNumber 0 = .ok (.iload_n 1, 1) := by decide +kernel
theorem d_First_takeNumber_1 : decode b_First_takeNumber 1 = .ok (.istore_n 3, 1) := by decide +kernel
theorem d_First_takeNumber_2 : decode b_First_takeNumber 2 = .ok (.lconst 0, 1) := by decide +kernel
theorem d_First_takeNumber_3 : decode b_First_takeNumber 3 = .ok (.lstore 4, 2) := by decide +kernel
theorem d_First_takeNumber_5 : decode b_First_takeNumber 5 = .ok (.iload_n 3, 1) := by decide +kernel
theorem d_First_takeNumber_6 : decode b_First_takeNumber 6 = .ok (.iload_n 2, 1) := by decide +kernel
theorem d_First_takeNumber_7 : decode b_First_takeNumber 7 = .ok (.if_icmp .ge 47, 3) := by decide +kernel
theorem d_First_takeNumber_10 : decode b_First_takeNumber 10 = .ok (.aload_n 0, 1) := by decide +kernel
theorem d_First_takeNumber_11 : decode b_First_takeNumber 11 = .ok (.getfield 12, 3) := by decide +kernel
theorem d_First_takeNumber_14 : decode b_First_takeNumber 14 = .ok (.getfield 194, 3) := by decide +kernel
theorem d_First_takeNumber_17 : decode b_First_takeNumber 17 = .ok (.iload_n 3, 1) := by decide +kernel
theorem d_First_takeNumber_18 : decode b_First_takeNumber 18 = .ok (.baload, 1) := by decide +kernel
theorem d_First_takeNumber_19 : decode b_First_takeNumber 19 = .ok (.invokestatic 277, 3) := by decide +kernel
theorem d_First_takeNumber_22 : decode b_First_takeNumber 22 = .ok (.ifCond .eq 32, 3) := by decide +kernel
theorem d_First_takeNumber_25 : decode b_First_takeNumber 25 = .ok (.lload 4, 2) := by decide +kernel
theorem d_First_takeNumber_27 : decode b_First_takeNumber 27 = .ok (.ldc2_w 266, 3) := by decide +kernel
theorem d_First_takeNumber_30 : decode b_First_takeNumber 30 = .ok (.lmul, 1) := by decide +kernel
theorem d_First_takeNumber_31 : decode b_First_takeNumber 31 = .ok (.aload_n 0, 1) := by decide +kernel
theorem d_First_takeNumber_32 : decode b_First_takeNumber 32 = .ok (.getfield 12, 3) := by decide +kernel
theorem d_First_takeNumber_35 : decode b_First_takeNumber 35 = .ok (.getfield 194, 3) := by decide +kernel
theorem d_First_takeNumber_38 : decode b_First_takeNumber 38 = .ok (.iload_n 3, 1) := by decide +kernel
theorem d_First_takeNumber_39 : decode b_First_takeNumber 39 = .ok (.baload, 1) := by decide +kernel
theorem d_First_takeNumber_40 : decode b_First_takeNumber 40 = .ok (.i2l, 1) := by decide +kernel
theorem d_First_takeNumber_41 : decode b_First_takeNumber 41 = .ok (.ladd, 1) := by decide +kernel
theorem d_First_takeNumber_42 : decode b_First_takeNumber 42 = .ok (.ldc2_w 264, 3) := by decide +kernel
theorem d_First_takeNumber_45 : decode b_First_takeNumber 45 = .ok (.lsub, 1) := by decide +kernel
theorem d_First_takeNumber_46 : decode b_First_takeNumber 46 = .ok (.lstore 4, 2) := by decide +kernel
theorem d_First_takeNumber_48 : decode b_First_takeNumber 48 = .ok (.iinc 3 1, 3) := by decide +kernel
theorem d_First_takeNumber_51 : decode b_First_takeNumber 51 = .ok (.goto (-46), 3) := by decide +kernel
theorem d_First_takeNumber_54 : decode b_First_takeNumber 54 = .ok (.iload_n 3, 1) := by decide +kernel
theorem d_First_takeNumber_55 : decode b_First_takeNumber 55 = .ok (.iload_n 1, 1) := by decide +kernel
theorem d_First_takeNumber_56 : decode b_First_takeNumber 56 = .ok (.isub, 1) := by decide +kernel
theorem d_First_takeNumber_57 : decode b_First_takeNumber 57 = .ok (.bipush 9, 2) := by decide +kernel
theorem d_First_takeNumber_59 : decode b_First_takeNumber 59 = .ok (.if_icmp .le 10, 3) := by decide +kernel
theorem d_First_takeNumber_62 : decode b_First_takeNumber 62 = .ok (.aload_n 0, 1) := by decide +kernel
theorem d_First_takeNumber_63 : decode b_First_takeNumber 63 = .ok (.getfield 49, 3) := by decide +kernel
theorem d_First_takeNumber_66 : decode b_First_takeNumber 66 = .ok (.invokevirtual 346, 3) := by decide +kernel
theorem d_First_takeNumber_69 : decode b_First_takeNumber 69 = .ok (.aload_n 0, 1) := by decide +kernel
theorem d_First_takeNumber_70 : decode b_First_takeNumber 70 = .ok (.getfield 49, 3) := by decide +kernel
theorem d_First_takeNumber_73 : decode b_First_takeNumber 73 = .ok (.lload 4, 2) := by decide +kernel
theorem d_First_takeNumber_75 : decode b_First_takeNumber 75 = .ok (.iconst 0, 1) := by decide +kernel
theorem d_First_takeNumber_76 : decode b_First_takeNumber 76 = .ok (.invokevirtual 349, 3) := by decide +kernel
theorem d_First_takeNumber_79 : decode b_First_takeNumber 79 = .ok (.iload_n 3, 1) := by decide +kernel
theorem d_First_takeNumber_80 : decode b_First_takeNumber 80 = .ok (.ireturn, 1) := by decide +kernel
theorem d_First_takePlace_0 : decode b_First_takePlace 0 = .ok (.aload_n 0, 1) := by decide +kernel
theorem d_First_takePlace_1 : decode b_First_takePlace 1 = .ok (.dup, 1) := by decide +kernel
theorem d_First_takePlace_2 : decode b_First_takePlace 2 = .ok (.getfield 386, 3) := by decide +kernel
theorem d_First_takePlace_5 : decode b_First_takePlace 5 = .ok (.iconst 1, 1) := by decide +kernel
theorem d_First_takePlace_6 : decode b_First_takePlace 6 = .ok (.iadd, 1) := by decide +kernel
theorem d_First_takePlace_7 : decode b_First_takePlace 7 = .ok (.putfield 386, 3) := by decide +kernel
theorem d_First_takePlace_10 : decode b_First_takePlace 10 = .ok (.aload_n 0, 1) := by decide +kernel
theorem d_First_takePlace_11 : decode b_First_takePlace 11 = .ok (.getfield 380, 3) := by decide +kernel
theorem d_First_takePlace_14 : decode b_First_takePlace 14 = .ok (.istore_n 1, 1) := by decide +kernel
theorem d_First_takePlace_15 : decode b_First_takePlace 15 = .ok (.iload_n 1, 1) := by decide +kernel
theorem d_First_takePlace_16 : decode b_First_takePlace 16 = .ok (.ifCond .lt 15, 3) := by decide +kernel
theorem d_First_takePlace_19 : decode b_First_takePlace 19 = .ok (.aload_n 0, 1) := by decide +kernel
theorem d_First_takePlace_20 : decode b_First_takePlace 20 = .ok (.aload_n 0, 1) := by decide +kernel
theorem d_First_takePlace_21 : decode b_First_takePlace 21 = .ok (.getfield 35, 3) := by decide +kernel
theorem d_First_takePlace_24 : decode b_First_takePlace 24 = .ok (.iload_n 1, 1) := by decide +kernel
theorem d_First_takePlace_25 : decode b_First_takePlace 25 = .ok (.iaload, 1) := by decide +kernel
theorem d_First_takePlace_26 : decode b_First_takePlace 26 = .ok (.putfield 380, 3) := by decide +kernel
theorem d_First_takePlace_29 : decode b_First_takePlace 29 = .ok (.iload_n 1, 1) := by decide +kernel
theorem d_First_takePlace_30 : decode b_First_takePlace 30 = .ok (.ireturn, 1) := by decide +kernel
theorem d_First_takePlace_31 : decode b_First_takePlace 31 = .ok (.aload_n 0, 1) := by decide +kernel
theorem d_First_takePlace_32 : decode b_First_takePlace 32 = .ok (.dup, 1) := by decide +kernel
theorem d_First_takePlace_33 : decode b_First_takePlace 33 = .ok (.getfield 383, 3) := by decide +kernel
theorem d_First_takePlace_36 : decode b_First_takePlace 36 = .ok (.iconst 1, 1) := by decide +kernel
theorem d_First_takePlace_37 : decode b_First_takePlace 37 = .ok (.iadd, 1) := by decide +kernel
theorem d_First_takePlace_38 : decode b_First_takePlace 38 = .ok (.putfield 383, 3) := by decide +kernel
theorem d_First_takePlace_41 : decode b_First_takePlace 41 = .ok (.aload_n 0, 1) := by decide +kernel
theorem d_First_takePlace_42 : decode b_First_takePlace 42 = .ok (.getfield 383, 3) := by decide +kernel
theorem d_First_takePlace_45 : decode b_First_takePlace 45 = .ok (.iconst 1, 1) := by decide +kernel
theorem d_First_takePlace_46 : decode b_First_takePlace 46 = .ok (.isub, 1) := by decide +kernel
theorem d_First_takePlace_47 : decode b_First_takePlace 47 = .ok (.ireturn, 1) := by decide +kernel
theorem d_First_undivert_0 : decode b_First_undivert 0 = .ok (.aload_n 0, 1) := by decide +kernel
theorem d_First_undivert_1 : decode b_First_undivert 1 = .ok (.getfield 12, 3) := by decide +kernel
theorem d_First_undivert_4 : decode b_First_undivert 4 = .ok (.invokevirtual 252, 3) := by decide +kernel
theorem d_First_undivert_7 : decode b_First_undivert 7 = .ok (.istore_n 1, 1) := by decide +kernel
theorem d_First_undivert_8 : decode b_First_undivert 8 = .ok (.iload_n 1, 1) := by decide +kernel
theorem d_First_undivert_9 : decode b_First_undivert 9 = .ok (.ifCond .eq 19, 3) := by decide +kernel
theorem d_First_undivert_12 : decode b_First_undivert 12 = .ok (.iload_n 1, 1) := by decide +kernel
theorem d_First_undivert_13 : decode b_First_undivert 13 = .ok (.iconst 1, 1) := by decide +kernel
theorem d_First_undivert_14 : decode b_First_undivert 14 = .ok (.if_icmp .ne 34, 3) := by decide +kernel
theorem d_First_undivert_17 : decode b_First_undivert 17 = .ok (.aload_n 0, 1) := by decide +kernel
theorem d_First_undivert_18 : decode b_First_undivert 18 = .ok (.getfield 12, 3) := by decide +kernel
theorem d_First_undivert_21 : decode b_First_undivert 21 = .ok (.iconst 0, 1) := by decide +kernel
theorem d_First_undivert_22 : decode b_First_undivert 22 = .ok (.invokevirtual 235, 3) := by decide +kernel
theorem d_First_undivert_25 : decode b_First_undivert 25 = .ok (.ifCond .ne 23, 3) := by decide +kernel
theorem d_First_undivert_28 : decode b_First_undivert 28 = .ok (.iconst 1, 1) := by decide +kernel
theorem d_First_undivert_29 : decode b_First_undivert 29 = .ok (.istore_n 2, 1) := by decide +kernel
theorem d_First_undivert_30 : decode b_First_undivert 30 = .ok (.iload_n 2, 1) := by decide +kernel
theorem d_First_undivert_31 : decode b_First_undivert 31 = .ok (.bipush 9, 2) := by decide +kernel
theorem d_First_undivert_33 : decode b_First_undivert 33 = .ok (.if_icmp .gt 14, 3) := by decide +kernel
theorem d_First_undivert_36 : decode b_First_undivert 36 = .ok (.aload_n 0, 1) := by decide +kernel
theorem d_First_undivert_37 : decode b_First_undivert 37 = .ok (.iload_n 2, 1) := by decide +kernel
theorem d_First_undivert_38 : decode b_First_undivert 38 = .ok (.invokevirtual 399, 3) := by decide +kernel
theorem d_First_undivert_41 : decode b_First_undivert 41 = .ok (.iinc 2 1, 3) := by decide +kernel
theorem d_First_undivert_44 : decode b_First_undivert 44 = .ok (.goto (-14), 3) := by decide +kernel
theorem d_First_undivert_47 : decode b_First_undivert 47 = .ok (.return_, 1) := by decide +kernel
theorem d_First_undivert_48 : decode b_First_undivert 48 = .ok (.iconst 0, 1) := by decide +kernel
theorem d_First_undivert_49 : decode b_First_undivert 49 = .ok (.istore_n 2, 1) := by decide +kernel
theorem d_First_undivert_50 : decode b_First_undivert 50 = .ok (.iload_n 2, 1) := by decide +kernel
theorem d_First_undivert_51 : decode b_First_undivert 51 = .ok (.iload_n 1, 1) := by decide +kernel
theorem d_First_undivert_52 : decode b_First_undivert 52 = .ok (.if_icmp .ge 28, 3) := by decide +kernel
theorem d_First_undivert_55 : decode b_First_undivert 55 = .ok (.aload_n 0, 1) := by decide +kernel
theorem d_First_undivert_56 : decode b_First_undivert 56 = .ok (.getfield 45, 3) := by decide +kernel
theorem d_First_undivert_59 : decode b_First_undivert 59 = .ok (.invokevirtual 89, 3) := by decide +kernel
theorem d_First_undivert_62 : decode b_First_undivert 62 = .ok (.ifCond .eq 18, 3) := by decide +kernel
theorem d_First_undivert_65 : decode b_First_undivert 65 = .ok (.aload_n 0, 1) := by decide +kernel
theorem d_First_undivert_66 : decode b_First_undivert 66 = .ok (.aload_n 0, 1) := by decide +kernel
theorem d_First_undivert_67 : decode b_First_undivert 67 = .ok (.iload_n 2, 1) := by decide +kernel
theorem d_First_undivert_68 : decode b_First_undivert 68 = .ok (.invokevirtual 305, 3) := by decide +kernel
theorem d_First_undivert_71 : decode b_First_undivert 71 = .ok (.invokevirtual 399, 3) := by decide +kernel
theorem d_First_undivert_74 : decode b_First_undivert 74 = .ok (.iinc 2 1, 3) := by decide +kernel
theorem d_First_undivert_77 : decode b_First_undivert 77 = .ok (.goto (-27), 3) := by decide +kernel
theorem d_First_undivert_80 : decode b_First_undivert 80 = .ok (.return_, 1) := by decide +kernel
theorem d_First_undivertOne_0 : decode b_First_undivertOne 0 = .ok (.iload_n 1, 1) := by decide +kernel
theorem d_First_undivertOne_1 : decode b_First_undivertOne 1 = .ok (.iconst 1, 1) := by decide +kernel
theorem d_First_undivertOne_2 : decode b_First_undivertOne 2 = .ok (.if_icmp .lt 26, 3) := by decide +kernel
theorem d_First_undivertOne_5 : decode b_First_undivertOne 5 = .ok (.iload_n 1, 1) := by decide +kernel
theorem d_First_undivertOne_6 : decode b_First_undivertOne 6 = .ok (.bipush 9, 2) := by decide +kernel
theorem d_First_undivertOne_8 : decode b_First_undivertOne 8 = .ok (.if_icmp .gt 20, 3) := by decide +kernel
theorem d_First_undivertOne_11 : decode b_First_undivertOne 11 = .ok (.iload_n 1, 1) := by decide +kernel
theorem d_First_undivertOne_12 : decode b_First_undivertOne 12 = .ok (.aload_n 0, 1) := by decide +kernel
theorem d_First_undivertOne_13 : decode b_First_undivertOne 13 = .ok (.getfield 389, 3) := by decide +kernel
theorem d_First_undivertOne_16 : decode b_First_undivertOne 16 = .ok (.if_icmp .eq 12, 3) := by decide +kernel
theorem d_First_undivertOne_19 : decode b_First_undivertOne 19 = .ok (.aload_n 0, 1) := by decide +kernel
theorem d_First_undivertOne_20 : decode b_First_undivertOne 20 = .ok (.getfield 39, 3) := by decide +kernel
theorem d_First_undivertOne_23 : decode b_First_undivertOne 23 = .ok (.iload_n 1, 1) := by decide +kernel
theorem d_First_undivertOne_24 : decode b_First_undivertOne 24 = .ok (.iaload, 1) := by decide +kernel
theorem d_First_undivertOne_25 : decode b_First_undivertOne 25 = .ok (.ifCond .ge 4, 3) := by decide +kernel
theorem d_First_undivertOne_28 : decode b_First_undivertOne 28 = .ok (.return_, 1) := by decide +kernel
theorem d_First_undivertOne_29 : decode b_First_undivertOne 29 = .ok (.aload_n 0, 1) := by decide +kernel
theorem d_First_undivertOne_30 : decode b_First_undivertOne 30 = .ok (.getfield 389, 3) := by decide +kernel
theorem d_First_undivertOne_33 : decode b_First_undivertOne 33 = .ok (.iconst (-1), 1) := by decide +kernel
theorem d_First_undivertOne_34 : decode b_First_undivertOne 34 = .ok (.if_icmp .ne 11, 3) := by decide +kernel
theorem d_First_undivertOne_37 : decode b_First_undivertOne 37 = .ok (.aload_n 0, 1) := by decide +kernel
theorem d_First_undivertOne_38 : decode b_First_undivertOne 38 = .ok (.iload_n 1, 1) := by decide +kernel
theorem d_First_undivertOne_39 : decode b_First_undivertOne 39 = .ok (.invokevirtual 402, 3) := by decide +kernel
theorem d_First_undivertOne_42 : decode b_First_undivertOne 42 = .ok (.goto 23, 3) := by decide +kernel
theorem d_First_undivertOne_45 : decode b_First_undivertOne 45 = .ok (.aload_n 0, 1) := by decide +kernel
theorem d_First_undivertOne_46 : decode b_First_undivertOne 46 = .ok (.aload_n 0, 1) := by decide +kernel
theorem d_First_undivertOne_47 : decode b_First_undivertOne 47 = .ok (.getfield 389, 3) := by decide +kernel
theorem d_First_undivertOne_50 : decode b_First_undivertOne 50 = .ok (.aload_n 0, 1) := by decide +kernel
theorem d_First_undivertOne_51 : decode b_First_undivertOne 51 = .ok (.getfield 39, 3) := by decide +kernel
theorem d_First_undivertOne_54 : decode b_First_undivertOne 54 = .ok (.iload_n 1, 1) := by decide +kernel
theorem d_First_undivertOne_55 : decode b_First_undivertOne 55 = .ok (.iaload, 1) := by decide +kernel
theorem d_First_undivertOne_56 : decode b_First_undivertOne 56 = .ok (.aload_n 0, 1) := by decide +kernel
theorem d_First_undivertOne_57 : decode b_First_undivertOne 57 = .ok (.getfield 42, 3) := by decide +kernel
theorem d_First_undivertOne_60 : decode b_First_undivertOne 60 = .ok (.iload_n 1, 1) := by decide +kernel
theorem d_First_undivertOne_61 : decode b_First_undivertOne 61 = .ok (.iaload, 1) := by decide +kernel
theorem d_First_undivertOne_62 : decode b_First_undivertOne 62 = .ok (.invokevirtual 395, 3) := by decide +kernel
theorem d_First_undivertOne_65 : decode b_First_undivertOne 65 = .ok (.aload_n 0, 1) := by decide +kernel
theorem d_First_undivertOne_66 : decode b_First_undivertOne 66 = .ok (.getfield 39, 3) := by decide +kernel
theorem d_First_undivertOne_69 : decode b_First_undivertOne 69 = .ok (.iload_n 1, 1) := by decide +kernel
theorem d_First_undivertOne_70 : decode b_First_undivertOne 70 = .ok (.iconst (-1), 1) := by decide +kernel
theorem d_First_undivertOne_71 : decode b_First_undivertOne 71 = .ok (.iastore, 1) := by decide +kernel
theorem d_First_undivertOne_72 : decode b_First_undivertOne 72 = .ok (.aload_n 0, 1) := by decide +kernel
theorem d_First_undivertOne_73 : decode b_First_undivertOne 73 = .ok (.getfield 42, 3) := by decide +kernel
theorem d_First_undivertOne_76 : decode b_First_undivertOne 76 = .ok (.iload_n 1, 1) := by decide +kernel
theorem d_First_undivertOne_77 : decode b_First_undivertOne 77 = .ok (.iconst (-1), 1) := by decide +kernel
theorem d_First_undivertOne_78 : decode b_First_undivertOne 78 = .ok (.iastore, 1) := by decide +kernel
theorem d_First_undivertOne_79 : decode b_First_undivertOne 79 = .ok (.return_, 1) := by decide +kernel
theorem d_Input_isAt_0 : decode b_Input_isAt 0 = .ok (.aload_n 0, 1) := by decide +kernel
theorem d_Input_isAt_1 : decode b_Input_isAt 1 = .ok (.iload_n 1, 1) := by decide +kernel
theorem d_Input_isAt_2 : decode b_Input_isAt 2 = .ok (.invokevirtual 96, 3) := by decide +kernel
theorem d_Input_isAt_5 : decode b_Input_isAt 5 = .ok (.istore_n 2, 1) := by decide +kernel
theorem d_Input_isAt_6 : decode b_Input_isAt 6 = .ok (.aload_n 0, 1) := by decide +kernel
theorem d_Input_isAt_7 : decode b_Input_isAt 7 = .ok (.getfield 23, 3) := by decide +kernel
theorem d_Input_isAt_10 : decode b_Input_isAt 10 = .ok (.iload_n 2, 1) := by decide +kernel
theorem d_Input_isAt_11 : decode b_Input_isAt 11 = .ok (.iadd, 1) := by decide +kernel
theorem d_Input_isAt_12 : decode b_Input_isAt 12 = .ok (.ldc 11, 2) := by decide +kernel
theorem d_Input_isAt_14 : decode b_Input_isAt 14 = .ok (.if_icmp .gt 35, 3) := by decide +kernel
theorem d_Input_isAt_17 : decode b_Input_isAt 17 = .ok (.aload_n 0, 1) := by decide +kernel
theorem d_Input_isAt_18 : decode b_Input_isAt 18 = .ok (.getfield 12, 3) := by decide +kernel
theorem d_Input_isAt_21 : decode b_Input_isAt 21 = .ok (.aload_n 0, 1) := by decide +kernel
theorem d_Input_isAt_22 : decode b_Input_isAt 22 = .ok (.getfield 23, 3) := by decide +kernel
theorem d_Input_isAt_25 : decode b_Input_isAt 25 = .ok (.aload_n 0, 1) := by decide +kernel
theorem d_Input_isAt_26 : decode b_Input_isAt 26 = .ok (.getfield 16, 3) := by decide +kernel
theorem d_Input_isAt_29 : decode b_Input_isAt 29 = .ok (.iload_n 1, 1) := by decide +kernel
theorem d_Input_isAt_30 : decode b_Input_isAt 30 = .ok (.ifCond .eq 7, 3) := by decide +kernel
theorem d_Input_isAt_33 : decode b_Input_isAt 33 = .ok (.iconst 4, 1) := by decide +kernel
theorem d_Input_isAt_34 : decode b_Input_isAt 34 = .ok (.goto 4, 3) := by decide +kernel
theorem d_Input_isAt_37 : decode b_Input_isAt 37 = .ok (.iconst 0, 1) := by decide +kernel
theorem d_Input_isAt_38 : decode b_Input_isAt 38 = .ok (.iload_n 2, 1) := by decide +kernel
theorem d_Input_isAt_39 : decode b_Input_isAt 39 = .ok (.invokestatic 100, 3) := by decide +kernel
theorem d_Input_isAt_42 : decode b_Input_isAt 42 = .ok (.ifCond .eq 7, 3) := by decide +kernel
theorem d_Input_isAt_45 : decode b_Input_isAt 45 = .ok (.iconst 1, 1) := by decide +kernel
theorem d_Input_isAt_46 : decode b_Input_isAt 46 = .ok (.goto 4, 3) := by decide +kernel
theorem d_Input_isAt_49 : decode b_Input_isAt 49 = .ok (.iconst 0, 1) := by decide +kernel
theorem d_Input_isAt_50 : decode b_Input_isAt 50 = .ok (.ireturn, 1) := by decide +kernel
theorem d_Input_isAtParenthesis_0 : decode b_Input_isAtParenthesis 0 = .ok (.aload_n 0, 1) := by decide +kernel
theorem d_Input_isAtParenthesis_1 : decode b_Input_isAtParenthesis 1 = .ok (.getfield 23, 3) := by decide +kernel
theorem d_Input_isAtParenthesis_4 : decode b_Input_isAtParenthesis 4 = .ok (.ldc 11, 2) := by decide +kernel
theorem d_Input_isAtParenthesis_6 : decode b_Input_isAtParenthesis 6 = .ok (.if_icmp .ge 21, 3) := by decide +kernel
theorem d_Input_isAtParenthesis_9 : decode b_Input_isAtParenthesis 9 = .ok (.aload_n 0, 1) := by decide +kernel
theorem d_Input_isAtParenthesis_10 : decode b_Input_isAtParenthesis 10 = .ok (.getfield 12, 3) := by decide +kernel
theorem d_Input_isAtParenthesis_13 : decode b_Input_isAtParenthesis 13 = .ok (.aload_n 0, 1) := by decide +kernel
theorem d_Input_isAtParenthesis_14 : decode b_Input_isAtParenthesis 14 = .ok (.getfield 23, 3) := by decide +kernel
theorem d_Input_isAtParenthesis_17 : decode b_Input_isAtParenthesis 17 = .ok (.baload, 1) := by decide +kernel
theorem d_Input_isAtParenthesis_18 : decode b_Input_isAtParenthesis 18 = .ok (.bipush 40, 2) := by decide +kernel
theorem d_Input_isAtParenthesis_20 : decode b_Input_isAtParenthesis 20 = .ok (.if_icmp .ne 7, 3) := by decide +kernel
theorem d_Input_isAtParenthesis_23 : decode b_Input_isAtParenthesis 23 = .ok (.iconst 1, 1) := by decide +kernel
theorem d_Input_isAtParenthesis_24 : decode b_Input_isAtParenthesis 24 = .ok (.goto 4, 3) := by decide +kernel
theorem d_Input_isAtParenthesis_27 : decode b_Input_isAtParenthesis 27 = .ok (.iconst 0, 1) := by decide +kernel
theorem d_Input_isAtParenthesis_28 : decode b_Input_isAtParenthesis 28 = .ok (.ireturn, 1) := by decide +kernel
theorem d_Input_quoteByte_0 : decode b_Input_quoteByte 0 = .ok (.aload_n 0, 1) := by decide +kernel
theorem d_Input_quoteByte_1 : decode b_Input_quoteByte 1 = .ok (.getfield 16, 3) := by decide +kernel
theorem d_Input_quoteByte_4 : decode b_Input_quoteByte 4 = .ok (.iload_n 1, 1) := by decide +kernel
theorem d_Input_quoteByte_5 : decode b_Input_quoteByte 5 = .ok (.ifCond .eq 9, 3) := by decide +kernel
theorem d_Input_quoteByte_8 : decode b_Input_quoteByte 8 = .ok (.iconst 4, 1) := by decide +kernel
theorem d_Input_quoteByte_9 : decode b_Input_quoteByte 9 = .ok (.iload_n 2, 1) := by decide +kernel
theorem d_Input_quoteByte_10 : decode b_Input_quoteByte 10 = .ok (.iadd, 1) := by decide +kernel
theorem d_Input_quoteByte_11 : decode b_Input_quoteByte 11 = .ok (.goto 4, 3) := by decide +kernel
theorem d_Input_quoteByte_14 : decode b_Input_quoteByte 14 = .ok (.iload_n 2, 1) := by decide +kernel
theorem d_Input_quoteByte_15 : decode b_Input_quoteByte 15 = .ok (.baload, 1) := by decide +kernel
theorem d_Input_quoteByte_16 : decode b_Input_quoteByte 16 = .ok (.ireturn, 1) := by decide +kernel
theorem d_Input_quoteLength_0 : decode b_Input_quoteLength 0 = .ok (.iload_n 1, 1) := by decide +kernel
theorem d_Input_quoteLength_1 : decode b_Input_quoteLength 1 = .ok (.ifCond .eq 10, 3) := by decide +kernel
theorem d_Input_quoteLength_4 : decode b_Input_quoteLength 4 = .ok (.aload_n 0, 1) := by decide +kernel
theorem d_Input_quoteLength_5 : decode b_Input_quoteLength 5 = .ok (.getfield 48, 3) := by decide +kernel
theorem d_Input_quoteLength_8 : decode b_Input_quoteLength 8 = .ok (.goto 7, 3) := by decide +kernel
theorem d_Input_quoteLength_11 : decode b_Input_quoteLength 11 = .ok (.aload_n 0, 1) := by decide +kernel
theorem d_Input_quoteLength_12 : decode b_Input_quoteLength 12 = .ok (.getfield 45, 3) := by decide +kernel
theorem d_Input_quoteLength_15 : decode b_Input_quoteLength 15 = .ok (.ireturn, 1) := by decide +kernel
theorem d_Input_readName_0 : decode b_Input_readName 0 = .ok (.aload_n 0, 1) := by decide +kernel
theorem d_Input_readName_1 : decode b_Input_readName 1 = .ok (.iconst 3, 1) := by decide +kernel
theorem d_Input_readName_2 : decode b_Input_readName 2 = .ok (.putfield 64, 3) := by decide +kernel
theorem d_Input_readName_5 : decode b_Input_readName 5 = .ok (.iconst 0, 1) := by decide +kernel
theorem d_Input_readName_6 : decode b_Input_readName 6 = .ok (.istore_n 1, 1) := by decide +kernel
theorem d_Input_readName_7 : decode b_Input_readName 7 = .ok (.iload_n 1, 1) := by decide +kernel
theorem d_Input_readName_8 : decode b_Input_readName 8 = .ok (.ldc 11, 2) := by decide +kernel
theorem d_Input_readName_10 : decode b_Input_readName 10 = .ok (.if_icmp .ge 56, 3) := by decide +kernel
theorem d_Input_readName_13 : decode b_Input_readName 13 = .ok (.aload_n 0, 1) := by decide +kernel
theorem d_Input_readName_14 : decode b_Input_readName 14 = .ok (.getfield 23, 3) := by decide +kernel
theorem d_Input_readName_17 : decode b_Input_readName 17 = .ok (.ldc 11, 2) := by decide +kernel
theorem d_Input_readName_19 : decode b_Input_readName 19 = .ok (.if_icmp .ge 47, 3) := by decide +kernel
theorem d_Input_readName_22 : decode b_Input_readName 22 = .ok (.aload_n 0, 1) := by decide +kernel
theorem d_Input_readName_23 : decode b_Input_readName 23 = .ok (.getfield 12, 3) := by decide +kernel
theorem d_Input_readName_26 : decode b_Input_readName 26 = .ok (.aload_n 0, 1) := by decide +kernel
theorem d_Input_readName_27 : decode b_Input_readName 27 = .ok (.getfield 23, 3) := by decide +kernel
theorem d_Input_readName_30 : decode b_Input_readName 30 = .ok (.baload, 1) := by decide +kernel
theorem d_Input_readName_31 : decode b_Input_readName 31 = .ok (.invokestatic 83, 3) := by decide +kernel
theorem d_Input_readName_34 : decode b_Input_readName 34 = .ok (.ifCond .ne 18, 3) := by decide +kernel
theorem d_Input_readName_37 : decode b_Input_readName 37 = .ok (.aload_n 0, 1) := by decide +kernel
theorem d_Input_readName_38 : decode b_Input_readName 38 = .ok (.getfield 12, 3) := by decide +kernel
theorem d_Input_readName_41 : decode b_Input_readName 41 = .ok (.aload_n 0, 1) := by decide +kernel
theorem d_Input_readName_42 : decode b_Input_readName 42 = .ok (.getfield 23, 3) := by decide +kernel
theorem d_Input_readName_45 : decode b_Input_readName 45 = .ok (.baload, 1) := by decide +kernel
theorem d_Input_readName_46 : decode b_Input_readName 46 = .ok (.invokestatic 90, 3) := by decide +kernel
theorem d_Input_readName_49 : decode b_Input_readName 49 = .ok (.ifCond .eq 17, 3) := by decide +kernel
theorem d_Input_readName_52 : decode b_Input_readName 52 = .ok (.aload_n 0, 1) := by decide +kernel
theorem d_Input_readName_53 : decode b_Input_readName 53 = .ok (.invokevirtual 60, 3) := by decide +kernel
theorem d_Input_readName_56 : decode b_Input_readName 56 = .ok (.ifCond .ne 4, 3) := by decide +kernel
theorem d_Input_readName_59 : decode b_Input_readName 59 = .ok (.return_, 1) := by decide +kernel
theorem d_Input_readName_60 : decode b_Input_readName 60 = .ok (.iinc 1 1, 3) := by decide +kernel
theorem d_Input_readName_63 : decode b_Input_readName 63 = .ok (.goto (-56), 3) := by decide +kernel
theorem d_Input_readName_66 : decode b_Input_readName 66 = .ok (.aload_n 0, 1) := by decide +kernel
theorem d_Input_readName_67 : decode b_Input_readName 67 = .ok (.aload_n 0, 1) := by decide +kernel
theorem d_Input_readName_68 : decode b_Input_readName 68 = .ok (.getfield 23, 3) := by decide +kernel
theorem d_Input_readName_71 : decode b_Input_readName 71 = .ok (.putfield 70, 3) := by decide +kernel
theorem d_Input_readName_74 : decode b_Input_readName 74 = .ok (.return_, 1) := by decide +kernel
theorem d_Input_readQuoted_0 : decode b_Input_readQuoted 0 = .ok (.aload_n 0, 1) := by decide +kernel
theorem d_Input_readQuoted_1 : decode b_Input_readQuoted 1 = .ok (.iconst 1, 1) := by decide +kernel
theorem d_Input_readQuoted_2 : decode b_Input_readQuoted 2 = .ok (.putfield 64, 3) := by decide +kernel
theorem d_Input_readQuoted_5 : decode b_Input_readQuoted 5 = .ok (.aload_n 0, 1) := by decide +kernel
theorem d_Input_readQuoted_6 : decode b_Input_readQuoted 6 = .ok (.getfield 36, 3) := by decide +kernel
theorem d_Input_readQuoted_9 : decode b_Input_readQuoted 9 = .ok (.istore_n 1, 1) := by decide +kernel
theorem d_Input_readQuoted_10 : decode b_Input_readQuoted 10 = .ok (.iconst 1, 1) := by decide +kernel
theorem d_Input_readQuoted_11 : decode b_Input_readQuoted 11 = .ok (.istore_n 2, 1) := by decide +kernel
theorem d_Input_readQuoted_12 : decode b_Input_readQuoted 12 = .ok (.aload_n 0, 1) := by decide +kernel
theorem d_Input_readQuoted_13 : decode b_Input_readQuoted 13 = .ok (.iconst 0, 1) := by decide +kernel
theorem d_Input_readQuoted_14 : decode b_Input_readQuoted 14 = .ok (.invokevirtual 93, 3) := by decide +kernel
theorem d_Input_readQuoted_17 : decode b_Input_readQuoted 17 = .ok (.ifCond .ne 4, 3) := by decide +kernel
theorem d_Input_readQuoted_20 : decode b_Input_readQuoted 20 = .ok (.return_, 1) := by decide +kernel
theorem d_Input_readQuoted_21 : decode b_Input_readQuoted 21 = .ok (.aload_n 0, 1) := by decide +kernel
theorem d_Input_readQuoted_22 : decode b_Input_readQuoted 22 = .ok (.aload_n 0, 1) := by decide +kernel
theorem d_Input_readQuoted_23 : decode b_Input_readQuoted 23 = .ok (.getfield 23, 3) := by decide +kernel
theorem d_Input_readQuoted_26 : decode b_Input_readQuoted 26 = .ok (.putfield 67, 3) := by decide +kernel
theorem d_Input_readQuoted_29 : decode b_Input_readQuoted 29 = .ok (.iconst 0, 1) := by decide +kernel
theorem d_Input_readQuoted_30 : decode b_Input_readQuoted 30 = .ok (.istore_n 3, 1) := by decide +kernel
theorem d_Input_readQuoted_31 : decode b_Input_readQuoted 31 = .ok (.iload_n 3, 1) := by decide +kernel
theorem d_Input_readQuoted_32 : decode b_Input_readQuoted 32 = .ok (.ldc 11, 2) := by decide +kernel
theorem d_Input_readQuoted_34 : decode b_Input_readQuoted 34 = .ok (.if_icmp .ge 78, 3) := by decide +kernel
theorem d_Input_readQuoted_37 : decode b_Input_readQuoted 37 = .ok (.aload_n 0, 1) := by decide +kernel
theorem d_Input_readQuoted_38 : decode b_Input_readQuoted 38 = .ok (.getfield 23, 3) := by decide +kernel
theorem d_Input_readQuoted_41 : decode b_Input_readQuoted 41 = .ok (.ldc 11, 2) := by decide +kernel
theorem d_Input_readQuoted_43 : decode b_Input_readQuoted 43 = .ok (.if_icmp .ge 69, 3) := by decide +kernel
theorem d_Input_readQuoted_46 : decode b_Input_readQuoted 46 = .ok (.aload_n 0, 1) := by decide +kernel
theorem d_Input_readQuoted_47 : decode b_Input_readQuoted 47 = .ok (.aload_n 0, 1) := by decide +kernel
theorem d_Input_readQuoted_48 : decode b_Input_readQuoted 48 = .ok (.getfield 23, 3) := by decide +kernel
theorem d_Input_readQuoted_51 : decode b_Input_readQuoted 51 = .ok (.putfield 70, 3) := by decide +kernel
theorem d_Input_readQuoted_54 : decode b_Input_readQuoted 54 = .ok (.aload_n 0, 1) := by decide +kernel
theorem d_Input_readQuoted_55 : decode b_Input_readQuoted 55 = .ok (.iconst 1, 1) := by decide +kernel
theorem d_Input_readQuoted_56 : decode b_Input_readQuoted 56 = .ok (.invokevirtual 73, 3) := by decide +kernel
theorem d_Input_readQuoted_59 : decode b_Input_readQuoted 59 = .ok (.ifCond .eq 19, 3) := by decide +kernel
theorem d_Input_readQuoted_62 : decode b_Input_readQuoted 62 = .ok (.iinc 2 (-1), 3) := by decide +kernel
theorem d_Input_readQuoted_65 : decode b_Input_readQuoted 65 = .ok (.aload_n 0, 1) := by decide +kernel
theorem d_Input_readQuoted_66 : decode b_Input_readQuoted 66 = .ok (.iconst 1, 1) := by decide +kernel
theorem d_Input_readQuoted_67 : decode b_Input_readQuoted 67 = .ok (.invokevirtual 93, 3) := by decide +kernel
theorem d_Input_readQuoted_70 : decode b_Input_readQuoted 70 = .ok (.ifCond .eq 7, 3) := by decide +kernel
theorem d_Input_readQuoted_73 : decode b_Input_readQuoted 73 = .ok (.iload_n 2, 1) := by decide +kernel
theorem d_Input_readQuoted_74 : decode b_Input_readQuoted 74 = .ok (.ifCond .ne 32, 3) := by decide +kernel
theorem d_Input_readQuoted_77 : decode b_Input_readQuoted 77 = .ok (.return_, 1) := by decide +kernel
theorem d_Input_readQuoted_78 : decode b_Input_readQuoted 78 = .ok (.aload_n 0, 1) := by decide +kernel
theorem d_Input_readQuoted_79 : decode b_Input_readQuoted 79 = .ok (.iconst 0, 1) := by decide +kernel
theorem d_Input_readQuoted_80 : decode b_Input_readQuoted 80 = .ok (.invokevirtual 73, 3) := by decide +kernel
theorem d_Input_readQuoted_83 : decode b_Input_readQuoted 83 = .ok (.ifCond .eq 15, 3) := by decide +kernel
theorem d_Input_readQuoted_86 : decode b_Input_readQuoted 86 = .ok (.iinc 2 1, 3) := by decide +kernel
theorem d_Input_readQuoted_89 : decode b_Input_readQuoted 89 = .ok (.aload_n 0, 1) := by decide +kernel
theorem d_Input_readQuoted_90 : decode b_Input_readQuoted 90 = .ok (.iconst 0, 1) := by decide +kernel
theorem d_Input_readQuoted_91 : decode b_Input_readQuoted 91 = .ok (.invokevirtual 93, 3) := by decide +kernel
theorem d_Input_readQuoted_94 : decode b_Input_readQuoted 94 = .ok (.ifCond .ne 12, 3) := by decide +kernel
theorem d_Input_readQuoted_97 : decode b_Input_readQuoted 97 = .ok (.return_, 1) := by decide +kernel
theorem d_Input_readQuoted_98 : decode b_Input_readQuoted 98 = .ok (.aload_n 0, 1) := by decide +kernel
theorem d_Input_readQuoted_99 : decode b_Input_readQuoted 99 = .ok (.invokevirtual 60, 3) := by decide +kernel
theorem d_Input_readQuoted_102 : decode b_Input_readQuoted 102 = .ok (.ifCond .ne 4, 3) := by decide +kernel
theorem d_Input_readQuoted_105 : decode b_Input_readQuoted 105 = .ok (.return_, 1) := by decide +kernel
theorem d_Input_readQuoted_106 : decode b_Input_readQuoted 106 = .ok (.iinc 3 1, 3) := by decide +kernel
theorem d_Input_readQuoted_109 : decode b_Input_readQuoted 109 = .ok (.goto (-78), 3) := by decide +kernel
theorem d_Input_readQuoted_112 : decode b_Input_readQuoted 112 = .ok (.aload_n 0, 1) := by decide +kernel
theorem d_Input_readQuoted_113 : decode b_Input_readQuoted 113 = .ok (.getfield 19, 3) := by decide +kernel
theorem d_Input_readQuoted_116 : decode b_Input_readQuoted 116 = .ok (.bipush 32, 2) := by decide +kernel
theorem d_Input_readQuoted_118 : decode b_Input_readQuoted 118 = .ok (.iload_n 1, 1) := by decide +kernel
theorem d_Input_readQuoted_119 : decode b_Input_readQuoted 119 = .ok (.invokevirtual 51, 3) := by decide +kernel
theorem d_Input_readQuoted_122 : decode b_Input_readQuoted 122 = .ok (.return_, 1) := by decide +kernel
theorem d_Input_readToken_0 : decode b_Input_readToken 0 = .ok (.aload_n 0, 1) := by decide +kernel
theorem d_Input_readToken_1 : decode b_Input_readToken 1 = .ok (.iconst 0, 1) := by decide +kernel
theorem d_Input_readToken_2 : decode b_Input_readToken 2 = .ok (.putfield 64, 3) := by decide +kernel
theorem d_Input_readToken_5 : decode b_Input_readToken 5 = .ok (.aload_n 0, 1) := by decide +kernel
theorem d_Input_readToken_6 : decode b_Input_readToken 6 = .ok (.aload_n 0, 1) := by decide +kernel
theorem d_Input_readToken_7 : decode b_Input_readToken 7 = .ok (.getfield 23, 3) := by decide +kernel
theorem d_Input_readToken_10 : decode b_Input_readToken 10 = .ok (.putfield 67, 3) := by decide +kernel
theorem d_Input_readToken_13 : decode b_Input_readToken 13 = .ok (.aload_n 0, 1) := by decide +kernel
theorem d_Input_readToken_14 : decode b_Input_readToken 14 = .ok (.aload_n 0, 1) := by decide +kernel
theorem d_Input_readToken_15 : decode b_Input_readToken 15 = .ok (.getfield 23, 3) := by decide +kernel
theorem d_Input_readToken_18 : decode b_Input_readToken 18 = .ok (.putfield 70, 3) := by decide +kernel
theorem d_Input_readToken_21 : decode b_Input_readToken 21 = .ok (.aload_n 0, 1) := by decide +kernel
theorem d_Input_readToken_22 : decode b_Input_readToken 22 = .ok (.getfield 23, 3) := by decide +kernel
theorem d_Input_readToken_25 : decode b_Input_readToken 25 = .ok (.ldc 11, 2) := by decide +kernel
theorem d_Input_readToken_27 : decode b_Input_readToken 27 = .ok (.if_icmp .lt 4, 3) := by decide +kernel
theorem d_Input_readToken_30 : decode b_Input_readToken 30 = .ok (.return_, 1) := by decide +kernel
theorem d_Input_readToken_31 : decode b_Input_readToken 31 = .ok (.aload_n 0, 1) := by decide +kernel
theorem d_Input_readToken_32 : decode b_Input_readToken 32 = .ok (.iconst 0, 1) := by decide +kernel
theorem d_Input_readToken_33 : decode b_Input_readToken 33 = .ok (.invokevirtual 73, 3) := by decide +kernel
theorem d_Input_readToken_36 : decode b_Input_readToken 36 = .ok (.ifCond .eq 10, 3) := by decide +kernel
theorem d_Input_readToken_39 : decode b_Input_readToken 39 = .ok (.aload_n 0, 1) := by decide +kernel
theorem d_Input_readToken_40 : decode b_Input_readToken 40 = .ok (.invokevirtual 77, 3) := by decide +kernel
theorem d_Input_readToken_43 : decode b_Input_readToken 43 = .ok (.goto 77, 3) := by decide +kernel
theorem d_Input_readToken_46 : decode b_Input_readToken 46 = .ok (.aload_n 0, 1) := by decide +kernel
theorem d_Input_readToken_47 : decode b_Input_readToken 47 = .ok (.getfield 12, 3) := by decide +kernel
theorem d_Input_readToken_50 : decode b_Input_readToken 50 = .ok (.aload_n 0, 1) := by decide +kernel
theorem d_Input_readToken_51 : decode b_Input_readToken 51 = .ok (.getfield 23, 3) := by decide +kernel
theorem d_Input_readToken_54 : decode b_Input_readToken 54 = .ok (.baload, 1) := by decide +kernel
theorem d_Input_readToken_55 : decode b_Input_readToken 55 = .ok (.bipush 35, 2) := by decide +kernel
theorem d_Input_readToken_57 : decode b_Input_readToken 57 = .ok (.if_icmp .ne 23, 3) := by decide +kernel
theorem d_Input_readToken_60 : decode b_Input_readToken 60 = .ok (.aload_n 0, 1) := by decide +kernel
theorem d_Input_readToken_61 : decode b_Input_readToken 61 = .ok (.iconst 2, 1) := by decide +kernel
theorem d_Input_readToken_62 : decode b_Input_readToken 62 = .ok (.putfield 64, 3) := by decide +kernel
theorem d_Input_readToken_65 : decode b_Input_readToken 65 = .ok (.aload_n 0, 1) := by decide +kernel
theorem d_Input_readToken_66 : decode b_Input_readToken 66 = .ok (.invokevirtual 80, 3) := by decide +kernel
theorem d_Input_readToken_69 : decode b_Input_readToken 69 = .ok (.aload_n 0, 1) := by decide +kernel
theorem d_Input_readToken_70 : decode b_Input_readToken 70 = .ok (.aload_n 0, 1) := by decide +kernel
theorem d_Input_readToken_71 : decode b_Input_readToken 71 = .ok (.getfield 23, 3) := by decide +kernel
theorem d_Input_readToken_74 : decode b_Input_readToken 74 = .ok (.putfield 70, 3) := by decide +kernel
theorem d_Input_readToken_77 : decode b_Input_readToken 77 = .ok (.goto 43, 3) := by decide +kernel
theorem d_Input_readToken_80 : decode b_Input_readToken 80 = .ok (.aload_n 0, 1) := by decide +kernel
theorem d_Input_readToken_81 : decode b_Input_readToken 81 = .ok (.getfield 12, 3) := by decide +kernel
theorem d_Input_readToken_84 : decode b_Input_readToken 84 = .ok (.aload_n 0, 1) := by decide +kernel
theorem d_Input_readToken_85 : decode b_Input_readToken 85 = .ok (.getfield 23, 3) := by decide +kernel
theorem d_Input_readToken_88 : decode b_Input_readToken 88 = .ok (.baload, 1) := by decide +kernel
theorem d_Input_readToken_89 : decode b_Input_readToken 89 = .ok (.invokestatic 83, 3) := by decide +kernel
theorem d_Input_readToken_92 : decode b_Input_readToken 92 = .ok (.ifCond .eq 10, 3) := by decide +kernel
theorem d_Input_readToken_95 : decode b_Input_readToken 95 = .ok (.aload_n 0, 1) := by decide +kernel
theorem d_Input_readToken_96 : decode b_Input_readToken 96 = .ok (.invokevirtual 87, 3) := by decide +kernel
theorem d_Input_readToken_99 : decode b_Input_readToken 99 = .ok (.goto 21, 3) := by decide +kernel
theorem d_Input_readToken_102 : decode b_Input_readToken 102 = .ok (.aload_n 0, 1) := by decide +kernel
theorem d_Input_readToken_103 : decode b_Input_readToken 103 = .ok (.iconst 4, 1) := by decide +kernel
theorem d_Input_readToken_104 : decode b_Input_readToken 104 = .ok (.putfield 64, 3) := by decide +kernel
theorem d_Input_readToken_107 : decode b_Input_readToken 107 = .ok (.aload_n 0, 1) := by decide +kernel
theorem d_Input_readToken_108 : decode b_Input_readToken 108 = .ok (.invokevirtual 60, 3) := by decide +kernel
theorem d_Input_readToken_111 : decode b_Input_readToken 111 = .ok (.pop, 1) := by decide +kernel
theorem d_Input_readToken_112 : decode b_Input_readToken 112 = .ok (.aload_n 0, 1) := by decide +kernel
theorem d_Input_readToken_113 : decode b_Input_readToken 113 = .ok (.aload_n 0, 1) := by decide +kernel
theorem d_Input_readToken_114 : decode b_Input_readToken 114 = .ok (.getfield 23, 3) := by decide +kernel
theorem d_Input_readToken_117 : decode b_Input_readToken 117 = .ok (.putfield 70, 3) := by decide +kernel
theorem d_Input_readToken_120 : decode b_Input_readToken 120 = .ok (.return_, 1) := by decide +kernel
theorem d_Input_setFirstQuotes_0 : decode b_Input_setFirstQuotes 0 = .ok (.aload_n 0, 1) := by decide +kernel
theorem d_Input_setFirstQuotes_1 : decode b_Input_setFirstQuotes 1 = .ok (.getfield 16, 3) := by decide +kernel
theorem d_Input_setFirstQuotes_4 : decode b_Input_setFirstQuotes 4 = .ok (.iconst 0, 1) := by decide +kernel
theorem d_Input_setFirstQuotes_5 : decode b_Input_setFirstQuotes 5 = .ok (.bipush 96, 2) := by decide +kernel
theorem d_Input_setFirstQuotes_7 : decode b_Input_setFirstQuotes 7 = .ok (.bastore, 1) := by decide +kernel
theorem d_Input_setFirstQuotes_8 : decode b_Input_setFirstQuotes 8 = .ok (.aload_n 0, 1) := by decide +kernel
theorem d_Input_setFirstQuotes_9 : decode b_Input_setFirstQuotes 9 = .ok (.getfield 16, 3) := by decide +kernel
theorem d_Input_setFirstQuotes_12 : decode b_Input_setFirstQuotes 12 = .ok (.iconst 4, 1) := by decide +kernel
theorem d_Input_setFirstQuotes_13 : decode b_Input_setFirstQuotes 13 = .ok (.bipush 39, 2) := by decide +kernel
theorem d_Input_setFirstQuotes_15 : decode b_Input_setFirstQuotes 15 = .ok (.bastore, 1) := by decide +kernel
theorem d_Input_setFirstQuotes_16 : decode b_Input_setFirstQuotes 16 = .ok (.aload_n 0, 1) := by decide +kernel
theorem d_Input_setFirstQuotes_17 : decode b_Input_setFirstQuotes 17 = .ok (.iconst 1, 1) := by decide +kernel
theorem d_Input_setFirstQuotes_18 : decode b_Input_setFirstQuotes 18 = .ok (.putfield 45, 3) := by decide +kernel
theorem d_Input_setFirstQuotes_21 : decode b_Input_setFirstQuotes 21 = .ok (.aload_n 0, 1) := by decide +kernel
theorem d_Input_setFirstQuotes_22 : decode b_Input_setFirstQuotes 22 = .ok (.iconst 1, 1) := by decide +kernel
theorem d_Input_setFirstQuotes_23 : decode b_Input_setFirstQuotes 23 = .ok (.putfield 48, 3) := by decide +kernel
theorem d_Input_setFirstQuotes_26 : decode b_Input_setFirstQuotes 26 = .ok (.return_, 1) := by decide +kernel
theorem d_Input_take_0 : decode b_Input_take 0 = .ok (.aload_n 0, 1) := by decide +kernel
theorem d_Input_take_1 : decode b_Input_take 1 = .ok (.getfield 23, 3) := by decide +kernel
theorem d_Input_take_4 : decode b_Input_take 4 = .ok (.ldc 11, 2) := by decide +kernel
theorem d_Input_take_6 : decode b_Input_take 6 = .ok (.if_icmp .lt 5, 3) := by decide +kernel
theorem d_Input_take_9 : decode b_Input_take 9 = .ok (.iconst 0, 1) := by decide +kernel
theorem d_Input_take_10 : decode b_Input_take 10 = .ok (.ireturn, 1) := by decide +kernel
theorem d_Input_take_11 : decode b_Input_take 11 = .ok (.aload_n 0, 1) := by decide +kernel
theorem d_Input_take_12 : decode b_Input_take 12 = .ok (.getfield 39, 3) := by decide +kernel
theorem d_Input_take_15 : decode b_Input_take 15 = .ok (.ifCond .ne 18, 3) := by decide +kernel
theorem d_Input_take_18 : decode b_Input_take 18 = .ok (.aload_n 0, 1) := by decide +kernel
theorem d_Input_take_19 : decode b_Input_take 19 = .ok (.getfield 19, 3) := by decide +kernel
theorem d_Input_take_22 : decode b_Input_take 22 = .ok (.bipush 31, 2) := by decide +kernel
theorem d_Input_take_24 : decode b_Input_take 24 = .ok (.aload_n 0, 1) := by decide +kernel
theorem d_Input_take_25 : decode b_Input_take 25 = .ok (.getfield 36, 3) := by decide +kernel
theorem d_Input_take_28 : decode b_Input_take 28 = .ok (.invokevirtual 51, 3) := by decide +kernel
theorem d_Input_take_31 : decode b_Input_take 31 = .ok (.iconst 0, 1) := by decide +kernel
theorem d_Input_take_32 : decode b_Input_take 32 = .ok (.ireturn, 1) := by decide +kernel
theorem d_Input_take_33 : decode b_Input_take 33 = .ok (.aload_n 0, 1) := by decide +kernel
theorem d_Input_take_34 : decode b_Input_take 34 = .ok (.dup, 1) := by decide +kernel
theorem d_Input_take_35 : decode b_Input_take 35 = .ok (.getfield 39, 3) := by decide +kernel
theorem d_Input_take_38 : decode b_Input_take 38 = .ok (.iconst 1, 1) := by decide +kernel
theorem d_Input_take_39 : decode b_Input_take 39 = .ok (.isub, 1) := by decide +kernel
theorem d_Input_take_40 : decode b_Input_take 40 = .ok (.putfield 39, 3) := by decide +kernel
theorem d_Input_take_43 : decode b_Input_take 43 = .ok (.aload_n 0, 1) := by decide +kernel
theorem d_Input_take_44 : decode b_Input_take 44 = .ok (.getfield 19, 3) := by decide +kernel
theorem d_Input_take_47 : decode b_Input_take 47 = .ok (.dup, 1) := by decide +kernel
theorem d_Input_take_48 : decode b_Input_take 48 = .ok (.getfield 57, 3) := by decide +kernel
theorem d_Input_take_51 : decode b_Input_take 51 = .ok (.iconst 1, 1) := by decide +kernel
theorem d_Input_take_52 : decode b_Input_take 52 = .ok (.iadd, 1) := by decide +kernel
theorem d_Input_take_53 : decode b_Input_take 53 = .ok (.putfield 57, 3) := by decide +kernel
theorem d_Input_take_56 : decode b_Input_take 56 = .ok (.aload_n 0, 1) := by decide +kernel
theorem d_Input_take_57 : decode b_Input_take 57 = .ok (.getfield 23, 3) := by decide +kernel
theorem d_Input_take_60 : decode b_Input_take 60 = .ok (.aload_n 0, 1) := by decide +kernel
theorem d_Input_take_61 : decode b_Input_take 61 = .ok (.getfield 33, 3) := by decide +kernel
theorem d_Input_take_64 : decode b_Input_take 64 = .ok (.if_icmp .ne 37, 3) := by decide +kernel
theorem d_Input_take_67 : decode b_Input_take 67 = .ok (.aload_n 0, 1) := by decide +kernel
theorem d_Input_take_68 : decode b_Input_take 68 = .ok (.dup, 1) := by decide +kernel
theorem d_Input_take_69 : decode b_Input_take 69 = .ok (.getfield 33, 3) := by decide +kernel
theorem d_Input_take_72 : decode b_Input_take 72 = .ok (.iconst 1, 1) := by decide +kernel
theorem d_Input_take_73 : decode b_Input_take 73 = .ok (.iadd, 1) := by decide +kernel
theorem d_Input_take_74 : decode b_Input_take 74 = .ok (.putfield 33, 3) := by decide +kernel
theorem d_Input_take_77 : decode b_Input_take 77 = .ok (.aload_n 0, 1) := by decide +kernel
theorem d_Input_take_78 : decode b_Input_take 78 = .ok (.getfield 12, 3) := by decide +kernel
theorem d_Input_take_81 : decode b_Input_take 81 = .ok (.aload_n 0, 1) := by decide +kernel
theorem d_Input_take_82 : decode b_Input_take 82 = .ok (.getfield 23, 3) := by decide +kernel
theorem d_Input_take_85 : decode b_Input_take 85 = .ok (.baload, 1) := by decide +kernel
theorem d_Input_take_86 : decode b_Input_take 86 = .ok (.bipush 10, 2) := by decide +kernel
theorem d_Input_take_88 : decode b_Input_take 88 = .ok (.if_icmp .ne 13, 3) := by decide +kernel
theorem d_Input_take_91 : decode b_Input_take 91 = .ok (.aload_n 0, 1) := by decide +kernel
theorem d_Input_take_92 : decode b_Input_take 92 = .ok (.dup, 1) := by decide +kernel
theorem d_Input_take_93 : decode b_Input_take 93 = .ok (.getfield 36, 3) := by decide +kernel
theorem d_Input_take_96 : decode b_Input_take 96 = .ok (.iconst 1, 1) := by decide +kernel
theorem d_Input_take_97 : decode b_Input_take 97 = .ok (.iadd, 1) := by decide +kernel
theorem d_Input_take_98 : decode b_Input_take 98 = .ok (.putfield 36, 3) := by decide +kernel
theorem d_Input_take_101 : decode b_Input_take 101 = .ok (.aload_n 0, 1) := by decide +kernel
theorem d_Input_take_102 : decode b_Input_take 102 = .ok (.dup, 1) := by decide +kernel
theorem d_Input_take_103 : decode b_Input_take 103 = .ok (.getfield 23, 3) := by decide +kernel
theorem d_Input_take_106 : decode b_Input_take 106 = .ok (.iconst 1, 1) := by decide +kernel
theorem d_Input_take_107 : decode b_Input_take 107 = .ok (.iadd, 1) := by decide +kernel
theorem d_Input_take_108 : decode b_Input_take 108 = .ok (.putfield 23, 3) := by decide +kernel
theorem d_Input_take_111 : decode b_Input_take 111 = .ok (.iconst 1, 1) := by decide +kernel
theorem d_Input_take_112 : decode b_Input_take 112 = .ok (.ireturn, 1) := by decide +kernel
theorem d_Input_takeLine_0 : decode b_Input_takeLine 0 = .ok (.iconst 0, 1) := by decide +kernel
theorem d_Input_takeLine_1 : decode b_Input_takeLine 1 = .ok (.istore_n 1, 1) := by decide +kernel
theorem d_Input_takeLine_2 : decode b_Input_takeLine 2 = .ok (.iconst 0, 1) := by decide +kernel
theorem d_Input_takeLine_3 : decode b_Input_takeLine 3 = .ok (.istore_n 2, 1) := by decide +kernel
theorem d_Input_takeLine_4 : decode b_Input_takeLine 4 = .ok (.iload_n 2, 1) := by decide +kernel
theorem d_Input_takeLine_5 : decode b_Input_takeLine 5 = .ok (.ldc 11, 2) := by decide +kernel
theorem d_Input_takeLine_7 : decode b_Input_takeLine 7 = .ok (.if_icmp .ge 50, 3) := by decide +kernel
theorem d_Input_takeLine_10 : decode b_Input_takeLine 10 = .ok (.aload_n 0, 1) := by decide +kernel
theorem d_Input_takeLine_11 : decode b_Input_takeLine 11 = .ok (.getfield 23, 3) := by decide +kernel
theorem d_Input_takeLine_14 : decode b_Input_takeLine 14 = .ok (.ldc 11, 2) := by decide +kernel
theorem d_Input_takeLine_16 : decode b_Input_takeLine 16 = .ok (.if_icmp .ge 41, 3) := by decide +kernel
theorem d_Input_takeLine_19 : decode b_Input_takeLine 19 = .ok (.iload_n 1, 1) := by decide +kernel
theorem d_Input_takeLine_20 : decode b_Input_takeLine 20 = .ok (.ifCond .ne 37, 3) := by decide +kernel
theorem d_Input_takeLine_23 : decode b_Input_takeLine 23 = .ok (.aload_n 0, 1) := by decide +kernel
theorem d_Input_takeLine_24 : decode b_Input_takeLine 24 = .ok (.getfield 12, 3) := by decide +kernel
theorem d_Input_takeLine_27 : decode b_Input_takeLine 27 = .ok (.aload_n 0, 1) := by decide +kernel
theorem d_Input_takeLine_28 : decode b_Input_takeLine 28 = .ok (.getfield 23, 3) := by decide +kernel
theorem d_Input_takeLine_31 : decode b_Input_takeLine 31 = .ok (.baload, 1) := by decide +kernel
theorem d_Input_takeLine_32 : decode b_Input_takeLine 32 = .ok (.bipush 10, 2) := by decide +kernel
theorem d_Input_takeLine_34 : decode b_Input_takeLine 34 = .ok (.if_icmp .ne 7, 3) := by decide +kernel
theorem d_Input_takeLine_37 : decode b_Input_takeLine 37 = .ok (.iconst 1, 1) := by decide +kernel
theorem d_Input_takeLine_38 : decode b_Input_takeLine 38 = .ok (.goto 4, 3) := by decide +kernel
theorem d_Input_takeLine_41 : decode b_Input_takeLine 41 = .ok (.iconst 0, 1) := by decide +kernel
theorem d_Input_takeLine_42 : decode b_Input_takeLine 42 = .ok (.istore_n 1, 1) := by decide +kernel
theorem d_Input_takeLine_43 : decode b_Input_takeLine 43 = .ok (.aload_n 0, 1) := by decide +kernel
theorem d_Input_takeLine_44 : decode b_Input_takeLine 44 = .ok (.invokevirtual 60, 3) := by decide +kernel
theorem d_Input_takeLine_47 : decode b_Input_takeLine 47 = .ok (.ifCond .ne 4, 3) := by decide +kernel
theorem d_Input_takeLine_50 : decode b_Input_takeLine 50 = .ok (.return_, 1) := by decide +kernel
theorem d_Input_takeLine_51 : decode b_Input_takeLine 51 = .ok (.iinc 2 1, 3) := by decide +kernel
theorem d_Input_takeLine_54 : decode b_Input_takeLine 54 = .ok (.goto (-50), 3) := by decide +kernel
theorem d_Input_takeLine_57 : decode b_Input_takeLine 57 = .ok (.return_, 1) := by decide +kernel
theorem d_Input_takeQuote_0 : decode b_Input_takeQuote 0 = .ok (.aload_n 0, 1) := by decide +kernel
theorem d_Input_takeQuote_1 : decode b_Input_takeQuote 1 = .ok (.iload_n 1, 1) := by decide +kernel
theorem d_Input_takeQuote_2 : decode b_Input_takeQuote 2 = .ok (.invokevirtual 96, 3) := by decide +kernel
theorem d_Input_takeQuote_5 : decode b_Input_takeQuote 5 = .ok (.istore_n 2, 1) := by decide +kernel
theorem d_Input_takeQuote_6 : decode b_Input_takeQuote 6 = .ok (.iload_n 2, 1) := by decide +kernel
theorem d_Input_takeQuote_7 : decode b_Input_takeQuote 7 = .ok (.ifCond .le 18, 3) := by decide +kernel
theorem d_Input_takeQuote_10 : decode b_Input_takeQuote 10 = .ok (.aload_n 0, 1) := by decide +kernel
theorem d_Input_takeQuote_11 : decode b_Input_takeQuote 11 = .ok (.invokevirtual 60, 3) := by decide +kernel
theorem d_Input_takeQuote_14 : decode b_Input_takeQuote 14 = .ok (.ifCond .ne 5, 3) := by decide +kernel
theorem d_Input_takeQuote_17 : decode b_Input_takeQuote 17 = .ok (.iconst 0, 1) := by decide +kernel
theorem d_Input_takeQuote_18 : decode b_Input_takeQuote 18 = .ok (.ireturn, 1) := by decide +kernel
theorem d_Input_takeQuote_19 : decode b_Input_takeQuote 19 = .ok (.iinc 2 (-1), 3) := by decide +kernel
theorem d_Input_takeQuote_22 : decode b_Input_takeQuote 22 = .ok (.goto (-16), 3) := by decide +kernel
theorem d_Input_takeQuote_25 : decode b_Input_takeQuote 25 = .ok (.iconst 1, 1) := by decide +kernel
theorem d_Input_takeQuote_26 : decode b_Input_takeQuote 26 = .ok (.ireturn, 1) := by decide +kernel
theorem d_Lines_commentEnd_0 : decode b_Lines_commentEnd 0 = .ok (.aload_n 0, 1) := by decide +kernel
theorem d_Lines_commentEnd_1 : decode b_Lines_commentEnd 1 = .ok (.getfield 41, 3) := by decide +kernel
theorem d_Lines_commentEnd_4 : decode b_Lines_commentEnd 4 = .ok (.getfield 138, 3) := by decide +kernel
theorem d_Lines_commentEnd_7 : decode b_Lines_commentEnd 7 = .ok (.astore_n 3, 1) := by decide +kernel
theorem d_Lines_commentEnd_8 : decode b_Lines_commentEnd 8 = .ok (.aload_n 3, 1) := by decide +kernel
theorem d_Lines_commentEnd_9 : decode b_Lines_commentEnd 9 = .ok (.iload_n 1, 1) := by decide +kernel
theorem d_Lines_commentEnd_10 : decode b_Lines_commentEnd 10 = .ok (.iconst 1, 1) := by decide +kernel
theorem d_Lines_commentEnd_11 : decode b_Lines_commentEnd 11 = .ok (.iadd, 1) := by decide +kernel
theorem d_Lines_commentEnd_12 : decode b_Lines_commentEnd 12 = .ok (.baload, 1) := by decide +kernel
theorem d_Lines_commentEnd_13 : decode b_Lines_commentEnd 13 = .ok (.bipush 47, 2) := by decide +kernel
theorem d_Lines_commentEnd_15 : decode b_Lines_commentEnd 15 = .ok (.if_icmp .ne 7, 3) := by decide +kernel
theorem d_Lines_commentEnd_18 : decode b_Lines_commentEnd 18 = .ok (.iconst 1, 1) := by decide +kernel
theorem d_Lines_commentEnd_19 : decode b_Lines_commentEnd 19 = .ok (.goto 4, 3) := by decide +kernel
theorem d_Lines_commentEnd_22 : decode b_Lines_commentEnd 22 = .ok (.iconst 0, 1) := by decide +kernel
theorem d_Lines_commentEnd_23 : decode b_Lines_commentEnd 23 = .ok (.istore 4, 2) := by decide +kernel
theorem d_Lines_commentEnd_25 : decode b_Lines_commentEnd 25 = .ok (.iload_n 1, 1) := by decide +kernel
theorem d_Lines_commentEnd_26 : decode b_Lines_commentEnd 26 = .ok (.iconst 2, 1) := by decide +kernel
theorem d_Lines_commentEnd_27 : decode b_Lines_commentEnd 27 = .ok (.iadd, 1) := by decide +kernel
theorem d_Lines_commentEnd_28 : decode b_Lines_commentEnd 28 = .ok (.istore 5, 2) := by decide +kernel
theorem d_Lines_commentEnd_30 : decode b_Lines_commentEnd 30 = .ok (.iload 5, 2) := by decide +kernel
theorem d_Lines_commentEnd_32 : decode b_Lines_commentEnd 32 = .ok (.iload_n 2, 1) := by decide +kernel
theorem d_Lines_commentEnd_33 : decode b_Lines_commentEnd 33 = .ok (.if_icmp .ge 64, 3) := by decide +kernel
theorem d_Lines_commentEnd_36 : decode b_Lines_commentEnd 36 = .ok (.iload 4, 2) := by decide +kernel
theorem d_Lines_commentEnd_38 : decode b_Lines_commentEnd 38 = .ok (.ifCond .eq 15, 3) := by decide +kernel
theorem d_Lines_commentEnd_41 : decode b_Lines_commentEnd 41 = .ok (.aload_n 3, 1) := by decide +kernel
theorem d_Lines_commentEnd_42 : decode b_Lines_commentEnd 42 = .ok (.iload 5, 2) := by decide +kernel
theorem d_Lines_commentEnd_44 : decode b_Lines_commentEnd 44 = .ok (.baload, 1) := by decide +kernel
theorem d_Lines_commentEnd_45 : decode b_Lines_commentEnd 45 = .ok (.bipush 10, 2) := by decide +kernel
theorem d_Lines_commentEnd_47 : decode b_Lines_commentEnd 47 = .ok (.if_icmp .ne 6, 3) := by decide +kernel
theorem d_Lines_commentEnd_50 : decode b_Lines_commentEnd 50 = .ok (.iload 5, 2) := by decide +kernel
theorem d_Lines_commentEnd_52 : decode b_Lines_commentEnd 52 = .ok (.ireturn, 1) := by decide +kernel
theorem d_Lines_commentEnd_53 : decode b_Lines_commentEnd 53 = .ok (.iload 4, 2) := by decide +kernel
theorem d_Lines_commentEnd_55 : decode b_Lines_commentEnd 55 = .ok (.ifCond .ne 36, 3) := by decide +kernel
theorem d_Lines_commentEnd_58 : decode b_Lines_commentEnd 58 = .ok (.aload_n 3, 1) := by decide +kernel
theorem d_Lines_commentEnd_59 : decode b_Lines_commentEnd 59 = .ok (.iload 5, 2) := by decide +kernel
theorem d_Lines_commentEnd_61 : decode b_Lines_commentEnd 61 = .ok (.baload, 1) := by decide +kernel
theorem d_Lines_commentEnd_62 : decode b_Lines_commentEnd 62 = .ok (.bipush 42, 2) := by decide +kernel
theorem d_Lines_commentEnd_64 : decode b_Lines_commentEnd 64 = .ok (.if_icmp .ne 27, 3) := by decide +kernel
theorem d_Lines_commentEnd_67 : decode b_Lines_commentEnd 67 = .ok (.iload 5, 2) := by decide +kernel
theorem d_Lines_commentEnd_69 : decode b_Lines_commentEnd 69 = .ok (.iconst 1, 1) := by decide +kernel
theorem d_Lines_commentEnd_70 : decode b_Lines_commentEnd 70 = .ok (.iadd, 1) := by decide +kernel
theorem d_Lines_commentEnd_71 : decode b_Lines_commentEnd 71 = .ok (.iload_n 2, 1) := by decide +kernel
theorem d_Lines_commentEnd_72 : decode b_Lines_commentEnd 72 = .ok (.if_icmp .ge 19, 3) := by decide +kernel
theorem d_Lines_commentEnd_75 : decode b_Lines_commentEnd 75 = .ok (.aload_n 3, 1) := by decide +kernel
theorem d_Lines_commentEnd_76 : decode b_Lines_commentEnd 76 = .ok (.iload 5, 2) := by decide +kernel
theorem d_Lines_commentEnd_78 : decode b_Lines_commentEnd 78 = .ok (.iconst 1, 1) := by decide +kernel
theorem d_Lines_commentEnd_79 : decode b_Lines_commentEnd 79 = .ok (.iadd, 1) := by decide +kernel
theorem d_Lines_commentEnd_80 : decode b_Lines_commentEnd 80 = .ok (.baload, 1) := by decide +kernel
theorem d_Lines_commentEnd_81 : decode b_Lines_commentEnd 81 = .ok (.bipush 47, 2) := by decide +kernel
theorem d_Lines_commentEnd_83 : decode b_Lines_commentEnd 83 = .ok (.if_icmp .ne 8, 3) := by decide +kernel
theorem d_Lines_commentEnd_86 : decode b_Lines_commentEnd 86 = .ok (.iload 5, 2) := by decide +kernel
theorem d_Lines_commentEnd_88 : decode b_Lines_commentEnd 88 = .ok (.iconst 2, 1) := by decide +kernel
theorem d_Lines_commentEnd_89 : decode b_Lines_commentEnd 89 = .ok (.iadd, 1) := by decide +kernel
theorem d_Lines_commentEnd_90 : decode b_Lines_commentEnd 90 = .ok (.ireturn, 1) := by decide +kernel
theorem d_Lines_commentEnd_91 : decode b_Lines_commentEnd 91 = .ok (.iinc 5 1, 3) := by decide +kernel
theorem d_Lines_commentEnd_94 : decode b_Lines_commentEnd 94 = .ok (.goto (-64), 3) := by decide +kernel
theorem d_Lines_commentEnd_97 : decode b_Lines_commentEnd 97 = .ok (.iload 4, 2) := by decide +kernel
theorem d_Lines_commentEnd_99 : decode b_Lines_commentEnd 99 = .ok (.ifCond .ne 19, 3) := by decide +kernel
theorem d_Lines_commentEnd_102 : decode b_Lines_commentEnd 102 = .ok (.aload_n 0, 1) := by decide +kernel
theorem d_Lines_commentEnd_103 : decode b_Lines_commentEnd 103 = .ok (.getfield 45, 3) := by decide +kernel
theorem d_Lines_commentEnd_106 : decode b_Lines_commentEnd 106 = .ok (.iconst 1, 1) := by decide +kernel
theorem d_Lines_commentEnd_107 : decode b_Lines_commentEnd 107 = .ok (.aload_n 0, 1) := by decide +kernel
theorem d_Lines_commentEnd_108 : decode b_Lines_commentEnd 108 = .ok (.getfield 41, 3) := by decide +kernel
theorem d_Lines_commentEnd_111 : decode b_Lines_commentEnd 111 = .ok (.iload_n 1, 1) := by decide +kernel
theorem d_Lines_commentEnd_112 : decode b_Lines_commentEnd 112 = .ok (.invokevirtual 139, 3) := by decide +kernel
theorem d_Lines_commentEnd_115 : decode b_Lines_commentEnd 115 = .ok (.invokevirtual 106, 3) := by decide +kernel
theorem d_Lines_commentEnd_118 : decode b_Lines_commentEnd 118 = .ok (.iload_n 2, 1) := by decide +kernel
theorem d_Lines_commentEnd_119 : decode b_Lines_commentEnd 119 = .ok (.ireturn, 1) := by decide +kernel
theorem d_Lines_endFile_0 : decode b_Lines_endFile 0 = .ok (.aload_n 0, 1) := by decide +kernel
theorem d_Lines_endFile_1 : decode b_Lines_endFile 1 = .ok (.getfield 55, 3) := by decide +kernel
theorem d_Lines_endFile_4 : decode b_Lines_endFile 4 = .ok (.ifCond .le 13, 3) := by decide +kernel
theorem d_Lines_endFile_7 : decode b_Lines_endFile 7 = .ok (.aload_n 0, 1) := by decide +kernel
theorem d_Lines_endFile_8 : decode b_Lines_endFile 8 = .ok (.dup, 1) := by decide +kernel
theorem d_Lines_endFile_9 : decode b_Lines_endFile 9 = .ok (.getfield 55, 3) := by decide +kernel
theorem d_Lines_endFile_12 : decode b_Lines_endFile 12 = .ok (.iconst 1, 1) := by decide +kernel
theorem d_Lines_endFile_13 : decode b_Lines_endFile 13 = .ok (.isub, 1) := by decide +kernel
theorem d_Lines_endFile_14 : decode b_Lines_endFile 14 = .ok (.putfield 55, 3) := by decide +kernel
theorem d_Lines_endFile_17 : decode b_Lines_endFile 17 = .ok (.aload_n 0, 1) := by decide +kernel
theorem d_Lines_endFile_18 : decode b_Lines_endFile 18 = .ok (.getfield 55, 3) := by decide +kernel
theorem d_Lines_endFile_21 : decode b_Lines_endFile 21 = .ok (.ifCond .le 21, 3) := by decide +kernel
theorem d_Lines_endFile_24 : decode b_Lines_endFile 24 = .ok (.aload_n 0, 1) := by decide +kernel
theorem d_Lines_endFile_25 : decode b_Lines_endFile 25 = .ok (.getfield 45, 3) := by decide +kernel
theorem d_Lines_endFile_28 : decode b_Lines_endFile 28 = .ok (.aload_n 0, 1) := by decide +kernel
theorem d_Lines_endFile_29 : decode b_Lines_endFile 29 = .ok (.getfield 21, 3) := by decide +kernel
theorem d_Lines_endFile_32 : decode b_Lines_endFile 32 = .ok (.aload_n 0, 1) := by decide +kernel
theorem d_Lines_endFile_33 : decode b_Lines_endFile 33 = .ok (.getfield 55, 3) := by decide +kernel
theorem d_Lines_endFile_36 : decode b_Lines_endFile 36 = .ok (.iconst 1, 1) := by decide +kernel
theorem d_Lines_endFile_37 : decode b_Lines_endFile 37 = .ok (.isub, 1) := by decide +kernel
theorem d_Lines_endFile_38 : decode b_Lines_endFile 38 = .ok (.iaload, 1) := by decide +kernel
theorem d_Lines_endFile_39 : decode b_Lines_endFile 39 = .ok (.putfield 117, 3) := by decide +kernel
theorem d_Lines_endFile_42 : decode b_Lines_endFile 42 = .ok (.return_, 1) := by decide +kernel
theorem d_Lines_lay_0 : decode b_Lines_lay 0 = .ok (.aload_n 0, 1) := by decide +kernel
theorem d_Lines_lay_1 : decode b_Lines_lay 1 = .ok (.getfield 9, 3) := by decide +kernel
theorem d_Lines_lay_4 : decode b_Lines_lay 4 = .ok (.iload_n 1, 1) := by decide +kernel
theorem d_Lines_lay_5 : decode b_Lines_lay 5 = .ok (.aload_n 0, 1) := by decide +kernel
theorem d_Lines_lay_6 : decode b_Lines_lay 6 = .ok (.getfield 41, 3) := by decide +kernel
theorem d_Lines_lay_9 : decode b_Lines_lay 9 = .ok (.getfield 80, 3) := by decide +kernel
theorem d_Lines_lay_12 : decode b_Lines_lay 12 = .ok (.iastore, 1) := by decide +kernel
theorem d_Lines_lay_13 : decode b_Lines_lay 13 = .ok (.aload_n 0, 1) := by decide +kernel
theorem d_Lines_lay_14 : decode b_Lines_lay 14 = .ok (.getfield 41, 3) := by decide +kernel
theorem d_Lines_lay_17 : decode b_Lines_lay 17 = .ok (.aload_n 2, 1) := by decide +kernel
theorem d_Lines_lay_18 : decode b_Lines_lay 18 = .ok (.iload_n 3, 1) := by decide +kernel
theorem d_Lines_lay_19 : decode b_Lines_lay 19 = .ok (.iload 4, 2) := by decide +kernel
theorem d_Lines_lay_21 : decode b_Lines_lay 21 = .ok (.invokevirtual 85, 3) := by decide +kernel
theorem d_Lines_lay_24 : decode b_Lines_lay 24 = .ok (.aload_n 0, 1) := by decide +kernel
theorem d_Lines_lay_25 : decode b_Lines_lay 25 = .ok (.getfield 15, 3) := by decide +kernel
theorem d_Lines_lay_28 : decode b_Lines_lay 28 = .ok (.iload_n 1, 1) := by decide +kernel
theorem d_Lines_lay_29 : decode b_Lines_lay 29 = .ok (.aload_n 0, 1) := by decide +kernel
theorem d_Lines_lay_30 : decode b_Lines_lay 30 = .ok (.getfield 41, 3) := by decide +kernel
theorem d_Lines_lay_33 : decode b_Lines_lay 33 = .ok (.getfield 80, 3) := by decide +kernel
theorem d_Lines_lay_36 : decode b_Lines_lay 36 = .ok (.iastore, 1) := by decide +kernel
theorem d_Lines_lay_37 : decode b_Lines_lay 37 = .ok (.aload_n 0, 1) := by decide +kernel
theorem d_Lines_lay_38 : decode b_Lines_lay 38 = .ok (.getfield 18, 3) := by decide +kernel
theorem d_Lines_lay_41 : decode b_Lines_lay 41 = .ok (.iload_n 1, 1) := by decide +kernel
theorem d_Lines_lay_42 : decode b_Lines_lay 42 = .ok (.iload 4, 2) := by decide +kernel
theorem d_Lines_lay_44 : decode b_Lines_lay 44 = .ok (.iastore, 1) := by decide +kernel
theorem d_Lines_lay_45 : decode b_Lines_lay 45 = .ok (.return_, 1) := by decide +kernel
theorem d_Lines_setLine_0 : decode b_Lines_setLine 0 = .ok (.aload_n 0, 1) := by decide +kernel
theorem d_Lines_setLine_1 : decode b_Lines_setLine 1 = .ok (.getfield 55, 3) := by decide +kernel
theorem d_Lines_setLine_4 : decode b_Lines_setLine 4 = .ok (.ifCond .le 20, 3) := by decide +kernel
theorem d_Lines_setLine_7 : decode b_Lines_setLine 7 = .ok (.aload_n 0, 1) := by decide +kernel
theorem d_Lines_setLine_8 : decode b_Lines_setLine 8 = .ok (.getfield 27, 3) := by decide +kernel
theorem d_Lines_setLine_11 : decode b_Lines_setLine 11 = .ok (.aload_n 0, 1) := by decide +kernel
theorem d_Lines_setLine_12 : decode b_Lines_setLine 12 = .ok (.getfield 55, 3) := by decide +kernel
theorem d_Lines_setLine_15 : decode b_Lines_setLine 15 = .ok (.iconst 1, 1) := by decide +kernel
theorem d_Lines_setLine_16 : decode b_Lines_setLine 16 = .ok (.isub, 1) := by decide +kernel
theorem d_Lines_setLine_17 : decode b_Lines_setLine 17 = .ok (.iload_n 1, 1) := by decide +kernel
theorem d_Lines_setLine_18 : decode b_Lines_setLine 18 = .ok (.aload_n 0, 1) := by decide +kernel
theorem d_Lines_setLine_19 : decode b_Lines_setLine 19 = .ok (.getfield 77, 3) := by decide +kernel
theorem d_Lines_setLine_22 : decode b_Lines_setLine 22 = .ok (.isub, 1) := by decide +kernel
theorem d_Lines_setLine_23 : decode b_Lines_setLine 23 = .ok (.iastore, 1) := by decide +kernel
theorem d_Lines_setLine_24 : decode b_Lines_setLine 24 = .ok (.return_, 1) := by decide +kernel
theorem d_Lines_titleByte_0 : decode b_Lines_titleByte 0 = .ok (.aload_n 0, 1) := by decide +kernel
theorem d_Lines_titleByte_1 : decode b_Lines_titleByte 1 = .ok (.getfield 55, 3) := by decide +kernel
theorem d_Lines_titleByte_4 : decode b_Lines_titleByte 4 = .ok (.ifCond .eq 18, 3) := by decide +kernel
theorem d_Lines_titleByte_7 : decode b_Lines_titleByte 7 = .ok (.iload_n 1, 1) := by decide +kernel
theorem d_Lines_titleByte_8 : decode b_Lines_titleByte 8 = .ok (.aload_n 0, 1) := by decide +kernel
theorem d_Lines_titleByte_9 : decode b_Lines_titleByte 9 = .ok (.getfield 34, 3) := by decide +kernel
theorem d_Lines_titleByte_12 : decode b_Lines_titleByte 12 = .ok (.aload_n 0, 1) := by decide +kernel
theorem d_Lines_titleByte_13 : decode b_Lines_titleByte 13 = .ok (.getfield 55, 3) := by decide +kernel
theorem d_Lines_titleByte_16 : decode b_Lines_titleByte 16 = .ok (.iconst 1, 1) := by decide +kernel
theorem d_Lines_titleByte_17 : decode b_Lines_titleByte 17 = .ok (.isub, 1) := by decide +kernel
theorem d_Lines_titleByte_18 : decode b_Lines_titleByte 18 = .ok (.iaload, 1) := by decide +kernel
theorem d_Lines_titleByte_19 : decode b_Lines_titleByte 19 = .ok (.if_icmp .lt 5, 3) := by decide +kernel
theorem d_Lines_titleByte_22 : decode b_Lines_titleByte 22 = .ok (.iconst (-1), 1) := by decide +kernel
theorem d_Lines_titleByte_23 : decode b_Lines_titleByte 23 = .ok (.ireturn, 1) := by decide +kernel
theorem d_Lines_titleByte_24 : decode b_Lines_titleByte 24 = .ok (.aload_n 0, 1) := by decide +kernel
theorem d_Lines_titleByte_25 : decode b_Lines_titleByte 25 = .ok (.getfield 30, 3) := by decide +kernel
theorem d_Lines_titleByte_28 : decode b_Lines_titleByte 28 = .ok (.aload_n 0, 1) := by decide +kernel
theorem d_Lines_titleByte_29 : decode b_Lines_titleByte 29 = .ok (.getfield 55, 3) := by decide +kernel
theorem d_Lines_titleByte_32 : decode b_Lines_titleByte 32 = .ok (.iconst 1, 1) := by decide +kernel
theorem d_Lines_titleByte_33 : decode b_Lines_titleByte 33 = .ok (.isub, 1) := by decide +kernel
theorem d_Lines_titleByte_34 : decode b_Lines_titleByte 34 = .ok (.bipush 64, 2) := by decide +kernel
theorem d_Lines_titleByte_36 : decode b_Lines_titleByte 36 = .ok (.imul, 1) := by decide +kernel
theorem d_Lines_titleByte_37 : decode b_Lines_titleByte 37 = .ok (.iload_n 1, 1) := by decide +kernel
theorem d_Lines_titleByte_38 : decode b_Lines_titleByte 38 = .ok (.iadd, 1) := by decide +kernel
theorem d_Lines_titleByte_39 : decode b_Lines_titleByte 39 = .ok (.baload, 1) := by decide +kernel
theorem d_Lines_titleByte_40 : decode b_Lines_titleByte 40 = .ok (.sipush 255, 3) := by decide +kernel
theorem d_Lines_titleByte_43 : decode b_Lines_titleByte 43 = .ok (.iand, 1) := by decide +kernel
theorem d_Lines_titleByte_44 : decode b_Lines_titleByte 44 = .ok (.ireturn, 1) := by decide +kernel
theorem d_Lines_toldLine_0 : decode b_Lines_toldLine 0 = .ok (.aload_n 0, 1) := by decide +kernel
theorem d_Lines_toldLine_1 : decode b_Lines_toldLine 1 = .ok (.getfield 55, 3) := by decide +kernel
theorem d_Lines_toldLine_4 : decode b_Lines_toldLine 4 = .ok (.ifCond .le 19, 3) := by decide +kernel
theorem d_Lines_toldLine_7 : decode b_Lines_toldLine 7 = .ok (.iload_n 1, 1) := by decide +kernel
theorem d_Lines_toldLine_8 : decode b_Lines_toldLine 8 = .ok (.aload_n 0, 1) := by decide +kernel
theorem d_Lines_toldLine_9 : decode b_Lines_toldLine 9 = .ok (.getfield 27, 3) := by decide +kernel
theorem d_Lines_toldLine_12 : decode b_Lines_toldLine 12 = .ok (.aload_n 0, 1) := by decide +kernel
theorem d_Lines_toldLine_13 : decode b_Lines_toldLine 13 = .ok (.getfield 55, 3) := by decide +kernel
theorem d_Lines_toldLine_16 : decode b_Lines_toldLine 16 = .ok (.iconst 1, 1) := by decide +kernel
theorem d_Lines_toldLine_17 : decode b_Lines_toldLine 17 = .ok (.isub, 1) := by decide +kernel
theorem d_Lines_toldLine_18 : decode b_Lines_toldLine 18 = .ok (.iaload, 1) := by decide +kernel
theorem d_Lines_toldLine_19 : decode b_Lines_toldLine 19 = .ok (.iadd, 1) := by decide +kernel
theorem d_Lines_toldLine_20 : decode b_Lines_toldLine 20 = .ok (.goto 4, 3) := by decide +kernel
theorem d_Lines_toldLine_23 : decode b_Lines_toldLine 23 = .ok (.iload_n 1, 1) := by decide +kernel
theorem d_Lines_toldLine_24 : decode b_Lines_toldLine 24 = .ok (.ireturn, 1) := by decide +kernel
theorem d_Macros_bodyEnd_0 : decode b_Macros_bodyEnd 0 = .ok (.aload_n 0, 1) := by decide +kernel
theorem d_Macros_bodyEnd_1 : decode b_Macros_bodyEnd 1 = .ok (.getfield 30, 3) := by decide +kernel
theorem d_Macros_bodyEnd_4 : decode b_Macros_bodyEnd 4 = .ok (.iload_n 1, 1) := by decide +kernel
theorem d_Macros_bodyEnd_5 : decode b_Macros_bodyEnd 5 = .ok (.iaload, 1) := by decide +kernel
theorem d_Macros_bodyEnd_6 : decode b_Macros_bodyEnd 6 = .ok (.ireturn, 1) := by decide +kernel
theorem d_Macros_find_0 : decode b_Macros_find 0 = .ok (.aload_n 0, 1) := by decide +kernel
theorem d_Macros_find_1 : decode b_Macros_find 1 = .ok (.getfield 13, 3) := by decide +kernel
theorem d_Macros_find_4 : decode b_Macros_find 4 = .ok (.aload_n 1, 1) := by decide +kernel
theorem d_Macros_find_5 : decode b_Macros_find 5 = .ok (.iload_n 2, 1) := by decide +kernel
theorem d_Macros_find_6 : decode b_Macros_find 6 = .ok (.iload_n 3, 1) := by decide +kernel
theorem d_Macros_find_7 : decode b_Macros_find 7 = .ok (.invokestatic 77, 3) := by decide +kernel
theorem d_Macros_find_10 : decode b_Macros_find 10 = .ok (.sipush 511, 3) := by decide +kernel
theorem d_Macros_find_13 : decode b_Macros_find 13 = .ok (.iand, 1) := by decide +kernel
theorem d_Macros_find_14 : decode b_Macros_find 14 = .ok (.iaload, 1) := by decide +kernel
theorem d_Macros_find_15 : decode b_Macros_find 15 = .ok (.istore 4, 2) := by decide +kernel
theorem d_Macros_find_17 : decode b_Macros_find 17 = .ok (.iconst 0, 1) := by decide +kernel
theorem d_Macros_find_18 : decode b_Macros_find 18 = .ok (.istore 5, 2) := by decide +kernel
theorem d_Macros_find_20 : decode b_Macros_find 20 = .ok (.iload 5, 2) := by decide +kernel
theorem d_Macros_find_22 : decode b_Macros_find 22 = .ok (.sipush 400, 3) := by decide +kernel
theorem d_Macros_find_25 : decode b_Macros_find 25 = .ok (.if_icmp .ge 70, 3) := by decide +kernel
theorem d_Macros_find_28 : decode b_Macros_find 28 = .ok (.iload 4, 2) := by decide +kernel
theorem d_Macros_find_30 : decode b_Macros_find 30 = .ok (.ifCond .lt 65, 3) := by decide +kernel
theorem d_Macros_find_33 : decode b_Macros_find 33 = .ok (.aload_n 0, 1) := by decide +kernel
theorem d_Macros_find_34 : decode b_Macros_find 34 = .ok (.getfield 9, 3) := by decide +kernel
theorem d_Macros_find_37 : decode b_Macros_find 37 = .ok (.iload 4, 2) := by decide +kernel
theorem d_Macros_find_39 : decode b_Macros_find 39 = .ok (.laload, 1) := by decide +kernel
theorem d_Macros_find_40 : decode b_Macros_find 40 = .ok (.invokestatic 83, 3) := by decide +kernel
theorem d_Macros_find_43 : decode b_Macros_find 43 = .ok (.istore 6, 2) := by decide +kernel
theorem d_Macros_find_45 : decode b_Macros_find 45 = .ok (.aload_n 0, 1) := by decide +kernel
theorem d_Macros_find_46 : decode b_Macros_find 46 = .ok (.getfield 9, 3) := by decide +kernel
theorem d_Macros_find_49 : decode b_Macros_find 49 = .ok (.iload 4, 2) := by decide +kernel
theorem d_Macros_find_51 : decode b_Macros_find 51 = .ok (.laload, 1) := by decide +kernel
theorem d_Macros_find_52 : decode b_Macros_find 52 = .ok (.invokestatic 89, 3) := by decide +kernel
theorem d_Macros_find_55 : decode b_Macros_find 55 = .ok (.iload_n 3, 1) := by decide +kernel
theorem d_Macros_find_56 : decode b_Macros_find 56 = .ok (.if_icmp .ne 24, 3) := by decide +kernel
theorem d_Macros_find_59 : decode b_Macros_find 59 = .ok (.aload_n 0, 1) := by decide +kernel
theorem d_Macros_find_60 : decode b_Macros_find 60 = .ok (.getfield 54, 3) := by decide +kernel
theorem d_Macros_find_63 : decode b_Macros_find 63 = .ok (.getfield 92, 3) := by decide +kernel
theorem d_Macros_find_66 : decode b_Macros_find 66 = .ok (.iload 6, 2) := by decide +kernel
theorem d_Macros_find_68 : decode b_Macros_find 68 = .ok (.aload_n 1, 1) := by decide +kernel
theorem d_Macros_find_69 : decode b_Macros_find 69 = .ok (.iload_n 2, 1) := by decide +kernel
theorem d_Macros_find_70 : decode b_Macros_find 70 = .ok (.iload_n 3, 1) := by decide +kernel
theorem d_Macros_find_71 : decode b_Macros_find 71 = .ok (.invokestatic 96, 3) := by decide +kernel
theorem d_Macros_find_74 : decode b_Macros_find 74 = .ok (.ifCond .eq 6, 3) := by decide +kernel
theorem d_Macros_find_77 : decode b_Macros_find 77 = .ok (.iload 4, 2) := by decide +kernel
theorem d_Macros_find_79 : decode b_Macros_find 79 = .ok (.ireturn, 1) := by decide +kernel
theorem d_Macros_find_80 : decode b_Macros_find 80 = .ok (.aload_n 0, 1) := by decide +kernel
theorem d_Macros_find_81 : decode b_Macros_find 81 = .ok (.getfield 17, 3) := by decide +kernel
theorem d_Macros_find_84 : decode b_Macros_find 84 = .ok (.iload 4, 2) := by decide +kernel
theorem d_Macros_find_86 : decode b_Macros_find 86 = .ok (.iaload, 1) := by decide +kernel
theorem d_Macros_find_87 : decode b_Macros_find 87 = .ok (.istore 4, 2) := by decide +kernel
theorem d_Macros_find_89 : decode b_Macros_find 89 = .ok (.iinc 5 1, 3) := by decide +kernel
theorem d_Macros_find_92 : decode b_Macros_find 92 = .ok (.goto (-72), 3) := by decide +kernel
theorem d_Macros_find_95 : decode b_Macros_find 95 = .ok (.iconst (-1), 1) := by decide +kernel
theorem d_Macros_find_96 : decode b_Macros_find 96 = .ok (.ireturn, 1) := by decide +kernel
theorem d_Macros_hasParameters_0 : decode b_Macros_hasParameters 0 = .ok (.aload_n 0, 1) := by decide +kernel
theorem d_Macros_hasParameters_1 : decode b_Macros_hasParameters 1 = .ok (.getfield 20, 3) := by decide +kernel
theorem d_Macros_hasParameters_4 : decode b_Macros_hasParameters 4 = .ok (.iload_n 1, 1) := by decide +kernel
theorem d_Macros_hasParameters_5 : decode b_Macros_hasParameters 5 = .ok (.iaload, 1) := by decide +kernel
theorem d_Macros_hasParameters_6 : decode b_Macros_hasParameters 6 = .ok (.ifCond .lt 7, 3) := by decide +kernel
theorem d_Macros_hasParameters_9 : decode b_Macros_hasParameters 9 = .ok (.iconst 1, 1) := by decide +kernel
theorem d_Macros_hasParameters_10 : decode b_Macros_hasParameters 10 = .ok (.goto 4, 3) := by decide +kernel
theorem d_Macros_hasParameters_13 : decode b_Macros_hasParameters 13 = .ok (.iconst 0, 1) := by decide +kernel
theorem d_Macros_hasParameters_14 : decode b_Macros_hasParameters 14 = .ok (.ireturn, 1) := by decide +kernel
theorem d_Macros_isHidden_0 : decode b_Macros_isHidden 0 = .ok (.aload_n 0, 1) := by decide +kernel
theorem d_Macros_isHidden_1 : decode b_Macros_isHidden 1 = .ok (.getfield 39, 3) := by decide +kernel
theorem d_Macros_isHidden_4 : decode b_Macros_isHidden 4 = .ok (.iload_n 1, 1) := by decide +kernel
theorem d_Macros_isHidden_5 : decode b_Macros_isHidden 5 = .ok (.bipush 7, 2) := by decide +kernel
theorem d_Macros_isHidden_7 : decode b_Macros_isHidden 7 = .ok (.imul, 1) := by decide +kernel
theorem d_Macros_isHidden_8 : decode b_Macros_isHidden 8 = .ok (.iload_n 2, 1) := by decide +kernel
theorem d_Macros_isHidden_9 : decode b_Macros_isHidden 9 = .ok (.bipush 6, 2) := by decide +kernel
theorem d_Macros_isHidden_11 : decode b_Macros_isHidden 11 = .ok (.ishr, 1) := by decide +kernel
theorem d_Macros_isHidden_12 : decode b_Macros_isHidden 12 = .ok (.iadd, 1) := by decide +kernel
theorem d_Macros_isHidden_13 : decode b_Macros_isHidden 13 = .ok (.laload, 1) := by decide +kernel
theorem d_Macros_isHidden_14 : decode b_Macros_isHidden 14 = .ok (.iload_n 2, 1) := by decide +kernel
theorem d_Macros_isHidden_15 : decode b_Macros_isHidden 15 = .ok (.bipush 63, 2) := by decide +kernel
theorem d_Macros_isHidden_17 : decode b_Macros_isHidden 17 = .ok (.iand, 1) := by decide +kernel
theorem d_Macros_isHidden_18 : decode b_Macros_isHidden 18 = .ok (.lushr, 1) := by decide +kernel
theorem d_Macros_isHidden_19 : decode b_Macros_isHidden 19 = .ok (.lconst 1, 1) := by decide +kernel
theorem d_Macros_isHidden_20 : decode b_Macros_isHidden 20 = .ok (.land, 1) := by decide +kernel
theorem d_Macros_isHidden_21 : decode b_Macros_isHidden 21 = .ok (.lconst 0, 1) := by decide +kernel
theorem d_Macros_isHidden_22 : decode b_Macros_isHidden 22 = .ok (.lcmp, 1) := by decide +kernel
theorem d_Macros_isHidden_23 : decode b_Macros_isHidden 23 = .ok (.ifCond .eq 7, 3) := by decide +kernel
theorem d_Macros_isHidden_26 : decode b_Macros_isHidden 26 = .ok (.iconst 1, 1) := by decide +kernel
theorem d_Macros_isHidden_27 : decode b_Macros_isHidden 27 = .ok (.goto 4, 3) := by decide +kernel
theorem d_Macros_isHidden_30 : decode b_Macros_isHidden 30 = .ok (.iconst 0, 1) := by decide +kernel
theorem d_Macros_isHidden_31 : decode b_Macros_isHidden 31 = .ok (.ireturn, 1) := by decide +kernel
theorem d_Macros_isThere_0 : decode b_Macros_isThere 0 = .ok (.aload_n 0, 1) := by decide +kernel
theorem d_Macros_isThere_1 : decode b_Macros_isThere 1 = .ok (.getfield 20, 3) := by decide +kernel
theorem d_Macros_isThere_4 : decode b_Macros_isThere 4 = .ok (.iload_n 1, 1) := by decide +kernel
theorem d_Macros_isThere_5 : decode b_Macros_isThere 5 = .ok (.iaload, 1) := by decide +kernel
theorem d_Macros_isThere_6 : decode b_Macros_isThere 6 = .ok (.bipush (-2), 2) := by decide +kernel
theorem d_Macros_isThere_8 : decode b_Macros_isThere 8 = .ok (.if_icmp .eq 7, 3) := by decide +kernel
theorem d_Macros_isThere_11 : decode b_Macros_isThere 11 = .ok (.iconst 1, 1) := by decide +kernel
theorem d_Macros_isThere_12 : decode b_Macros_isThere 12 = .ok (.goto 4, 3) := by decide +kernel
theorem d_Macros_isThere_15 : decode b_Macros_isThere 15 = .ok (.iconst 0, 1) := by decide +kernel
theorem d_Macros_isThere_16 : decode b_Macros_isThere 16 = .ok (.ireturn, 1) := by decide +kernel
theorem d_Macros_isWanted_0 : decode b_Macros_isWanted 0 = .ok (.iconst 0, 1) := by decide +kernel
theorem d_Macros_isWanted_1 : decode b_Macros_isWanted 1 = .ok (.istore_n 2, 1) := by decide +kernel
theorem d_Macros_isWanted_2 : decode b_Macros_isWanted 2 = .ok (.iload_n 2, 1) := by decide +kernel
theorem d_Macros_isWanted_3 : decode b_Macros_isWanted 3 = .ok (.bipush 7, 2) := by decide +kernel
theorem d_Macros_isWanted_5 : decode b_Macros_isWanted 5 = .ok (.if_icmp .ge 32, 3) := by decide +kernel
theorem d_Macros_isWanted_8 : decode b_Macros_isWanted 8 = .ok (.aload_n 0, 1) := by decide +kernel
theorem d_Macros_isWanted_9 : decode b_Macros_isWanted 9 = .ok (.getfield 39, 3) := by decide +kernel
theorem d_Macros_isWanted_12 : decode b_Macros_isWanted 12 = .ok (.iload_n 1, 1) := by decide +kernel
theorem d_Macros_isWanted_13 : decode b_Macros_isWanted 13 = .ok (.bipush 7, 2) := by decide +kernel
theorem d_Macros_isWanted_15 : decode b_Macros_isWanted 15 = .ok (.imul, 1) := by decide +kernel
theorem d_Macros_isWanted_16 : decode b_Macros_isWanted 16 = .ok (.iload_n 2, 1) := by decide +kernel
theorem d_Macros_isWanted_17 : decode b_Macros_isWanted 17 = .ok (.iadd, 1) := by decide +kernel
theorem d_Macros_isWanted_18 : decode b_Macros_isWanted 18 = .ok (.laload, 1) := by decide +kernel
theorem d_Macros_isWanted_19 : decode b_Macros_isWanted 19 = .ok (.aload_n 0, 1) := by decide +kernel
theorem d_Macros_isWanted_20 : decode b_Macros_isWanted 20 = .ok (.getfield 51, 3) := by decide +kernel
theorem d_Macros_isWanted_23 : decode b_Macros_isWanted 23 = .ok (.iload_n 2, 1) := by decide +kernel
theorem d_Macros_isWanted_24 : decode b_Macros_isWanted 24 = .ok (.laload, 1) := by decide +kernel
theorem d_Macros_isWanted_25 : decode b_Macros_isWanted 25 = .ok (.lcmp, 1) := by decide +kernel
theorem d_Macros_isWanted_26 : decode b_Macros_isWanted 26 = .ok (.ifCond .eq 5, 3) := by decide +kernel
theorem d_Macros_isWanted_29 : decode b_Macros_isWanted 29 = .ok (.iconst 0, 1) := by decide +kernel
theorem d_Macros_isWanted_30 : decode b_Macros_isWanted 30 = .ok (.ireturn, 1) := by decide +kernel
theorem d_Macros_isWanted_31 : decode b_Macros_isWanted 31 = .ok (.iinc 2 1, 3) := by decide +kernel
theorem d_Macros_isWanted_34 : decode b_Macros_isWanted 34 = .ok (.goto (-32), 3) := by decide +kernel
theorem d_Macros_isWanted_37 : decode b_Macros_isWanted 37 = .ok (.iconst 1, 1) := by decide +kernel
theorem d_Macros_isWanted_38 : decode b_Macros_isWanted 38 = .ok (.ireturn, 1) := by decide +kernel
theorem d_Macros_keepCommon_0 : decode b_Macros_keepCommon 0 = .ok (.iconst 0, 1) := by decide +kernel
theorem d_Macros_keepCommon_1 : decode b_Macros_keepCommon 1 = .ok (.istore 4, 2) := by decide +kernel
theorem d_Macros_keepCommon_3 : decode b_Macros_keepCommon 3 = .ok (.iload 4, 2) := by decide +kernel
theorem d_Macros_keepCommon_5 : decode b_Macros_keepCommon 5 = .ok (.bipush 7, 2) := by decide +kernel
theorem d_Macros_keepCommon_7 : decode b_Macros_keepCommon 7 = .ok (.if_icmp .ge 41, 3) := by decide +kernel
theorem d_Macros_keepCommon_10 : decode b_Macros_keepCommon 10 = .ok (.aload_n 0, 1) := by decide +kernel
theorem d_Macros_keepCommon_11 : decode b_Macros_keepCommon 11 = .ok (.getfield 48, 3) := by decide +kernel
theorem d_Macros_keepCommon_14 : decode b_Macros_keepCommon 14 = .ok (.iload 4, 2) := by decide +kernel
theorem d_Macros_keepCommon_16 : decode b_Macros_keepCommon 16 = .ok (.aload_n 0, 1) := by decide +kernel
theorem d_Macros_keepCommon_17 : decode b_Macros_keepCommon 17 = .ok (.getfield 39, 3) := by decide +kernel
theorem d_Macros_keepCommon_20 : decode b_Macros_keepCommon 20 = .ok (.iload_n 1, 1) := by decide +kernel
theorem d_Macros_keepCommon_21 : decode b_Macros_keepCommon 21 = .ok (.bipush 7, 2) := by decide +kernel
theorem d_Macros_keepCommon_23 : decode b_Macros_keepCommon 23 = .ok (.imul, 1) := by decide +kernel
theorem d_Macros_keepCommon_24 : decode b_Macros_keepCommon 24 = .ok (.iload 4, 2) := by decide +kernel
theorem d_Macros_keepCommon_26 : decode b_Macros_keepCommon 26 = .ok (.iadd, 1) := by decide +kernel
theorem d_Macros_keepCommon_27 : decode b_Macros_keepCommon 27 = .ok (.laload, 1) := by decide +kernel
theorem d_Macros_keepCommon_28 : decode b_Macros_keepCommon 28 = .ok (.aload_n 0, 1) := by decide +kernel
theorem d_Macros_keepCommon_29 : decode b_Macros_keepCommon 29 = .ok (.getfield 39, 3) := by decide +kernel
theorem d_Macros_keepCommon_32 : decode b_Macros_keepCommon 32 = .ok (.iload_n 2, 1) := by decide +kernel
theorem d_Macros_keepCommon_33 : decode b_Macros_keepCommon 33 = .ok (.bipush 7, 2) := by decide +kernel
theorem d_Macros_keepCommon_35 : decode b_Macros_keepCommon 35 = .ok (.imul, 1) := by decide +kernel
theorem d_Macros_keepCommon_36 : decode b_Macros_keepCommon 36 = .ok (.iload 4, 2) := by decide +kernel
theorem d_Macros_keepCommon_38 : decode b_Macros_keepCommon 38 = .ok (.iadd, 1) := by decide +kernel
theorem d_Macros_keepCommon_39 : decode b_Macros_keepCommon 39 = .ok (.laload, 1) := by decide +kernel
theorem d_Macros_keepCommon_40 : decode b_Macros_keepCommon 40 = .ok (.land, 1) := by decide +kernel
theorem d_Macros_keepCommon_41 : decode b_Macros_keepCommon 41 = .ok (.lastore, 1) := by decide +kernel
theorem d_Macros_keepCommon_42 : decode b_Macros_keepCommon 42 = .ok (.iinc 4 1, 3) := by decide +kernel
theorem d_Macros_keepCommon_45 : decode b_Macros_keepCommon 45 = .ok (.goto (-42), 3) := by decide +kernel
theorem d_Macros_keepCommon_48 : decode b_Macros_keepCommon 48 = .ok (.aload_n 0, 1) := by decide +kernel
theorem d_Macros_keepCommon_49 : decode b_Macros_keepCommon 49 = .ok (.getfield 48, 3) := by decide +kernel
theorem d_Macros_keepCommon_52 : decode b_Macros_keepCommon 52 = .ok (.iload_n 3, 1) := by decide +kernel
theorem d_Macros_keepCommon_53 : decode b_Macros_keepCommon 53 = .ok (.bipush 6, 2) := by decide +kernel
theorem d_Macros_keepCommon_55 : decode b_Macros_keepCommon 55 = .ok (.ishr, 1) := by decide +kernel
theorem d_Macros_keepCommon_56 : decode b_Macros_keepCommon 56 = .ok (.dup2, 1) := by decide +kernel
theorem d_Macros_keepCommon_57 : decode b_Macros_keepCommon 57 = .ok (.laload, 1) := by decide +kernel
theorem d_Macros_keepCommon_58 : decode b_Macros_keepCommon 58 = .ok (.lconst 1, 1) := by decide +kernel
theorem d_Macros_keepCommon_59 : decode b_Macros_keepCommon 59 = .ok (.iload_n 3, 1) := by decide +kernel
theorem d_Macros_keepCommon_60 : decode b_Macros_keepCommon 60 = .ok (.bipush 63, 2) := by decide +kernel
theorem d_Macros_keepCommon_62 : decode b_Macros_keepCommon 62 = .ok (.iand, 1) := by decide +kernel
theorem d_Macros_keepCommon_63 : decode b_Macros_keepCommon 63 = .ok (.lshl, 1) := by decide +kernel
theorem d_Macros_keepCommon_64 : decode b_Macros_keepCommon 64 = .ok (.lor, 1) := by decide +kernel
theorem d_Macros_keepCommon_65 : decode b_Macros_keepCommon 65 = .ok (.lastore, 1) := by decide +kernel
theorem d_Macros_keepCommon_66 : decode b_Macros_keepCommon 66 = .ok (.return_, 1) := by decide +kernel
theorem d_Meanings_find_0 : decode b_Meanings_find 0 = .ok (.aload_n 0, 1) := by decide +kernel
theorem d_Meanings_find_1 : decode b_Meanings_find 1 = .ok (.getfield 14, 3) := by decide +kernel
theorem d_Meanings_find_4 : decode b_Meanings_find 4 = .ok (.aload_n 1, 1) := by decide +kernel
theorem d_Meanings_find_5 : decode b_Meanings_find 5 = .ok (.iload_n 2, 1) := by decide +kernel
theorem d_Meanings_find_6 : decode b_Meanings_find 6 = .ok (.iload_n 3, 1) := by decide +kernel
theorem d_Meanings_find_7 : decode b_Meanings_find 7 = .ok (.invokestatic 67, 3) := by decide +kernel
theorem d_Meanings_find_10 : decode b_Meanings_find 10 = .ok (.sipush 255, 3) := by decide +kernel
theorem d_Meanings_find_13 : decode b_Meanings_find 13 = .ok (.iand, 1) := by decide +kernel
theorem d_Meanings_find_14 : decode b_Meanings_find 14 = .ok (.iaload, 1) := by decide +kernel
theorem d_Meanings_find_15 : decode b_Meanings_find 15 = .ok (.istore 4, 2) := by decide +kernel
theorem d_Meanings_find_17 : decode b_Meanings_find 17 = .ok (.iconst 0, 1) := by decide +kernel
theorem d_Meanings_find_18 : decode b_Meanings_find 18 = .ok (.istore 5, 2) := by decide +kernel
theorem d_Meanings_find_20 : decode b_Meanings_find 20 = .ok (.iload 5, 2) := by decide +kernel
theorem d_Meanings_find_22 : decode b_Meanings_find 22 = .ok (.sipush 317, 3) := by decide +kernel
theorem d_Meanings_find_25 : decode b_Meanings_find 25 = .ok (.if_icmp .ge 38, 3) := by decide +kernel
theorem d_Meanings_find_28 : decode b_Meanings_find 28 = .ok (.iload 4, 2) := by decide +kernel
theorem d_Meanings_find_30 : decode b_Meanings_find 30 = .ok (.ifCond .lt 33, 3) := by decide +kernel
theorem d_Meanings_find_33 : decode b_Meanings_find 33 = .ok (.aload_n 0, 1) := by decide +kernel
theorem d_Meanings_find_34 : decode b_Meanings_find 34 = .ok (.iload 4, 2) := by decide +kernel
theorem d_Meanings_find_36 : decode b_Meanings_find 36 = .ok (.aload_n 1, 1) := by decide +kernel
theorem d_Meanings_find_37 : decode b_Meanings_find 37 = .ok (.iload_n 2, 1) := by decide +kernel
theorem d_Meanings_find_38 : decode b_Meanings_find 38 = .ok (.iload_n 3, 1) := by decide +kernel
theorem d_Meanings_find_39 : decode b_Meanings_find 39 = .ok (.invokevirtual 77, 3) := by decide +kernel
theorem d_Meanings_find_42 : decode b_Meanings_find 42 = .ok (.ifCond .eq 6, 3) := by decide +kernel
theorem d_Meanings_find_45 : decode b_Meanings_find 45 = .ok (.iload 4, 2) := by decide +kernel
theorem d_Meanings_find_47 : decode b_Meanings_find 47 = .ok (.ireturn, 1) := by decide +kernel
theorem d_Meanings_find_48 : decode b_Meanings_find 48 = .ok (.aload_n 0, 1) := by decide +kernel
theorem d_Meanings_find_49 : decode b_Meanings_find 49 = .ok (.getfield 18, 3) := by decide +kernel
theorem d_Meanings_find_52 : decode b_Meanings_find 52 = .ok (.iload 4, 2) := by decide +kernel
theorem d_Meanings_find_54 : decode b_Meanings_find 54 = .ok (.iaload, 1) := by decide +kernel
theorem d_Meanings_find_55 : decode b_Meanings_find 55 = .ok (.istore 4, 2) := by decide +kernel
theorem d_Meanings_find_57 : decode b_Meanings_find 57 = .ok (.iinc 5 1, 3) := by decide +kernel
theorem d_Meanings_find_60 : decode b_Meanings_find 60 = .ok (.goto (-40), 3) := by decide +kernel
theorem d_Meanings_find_63 : decode b_Meanings_find 63 = .ok (.iconst (-1), 1) := by decide +kernel
theorem d_Meanings_find_64 : decode b_Meanings_find 64 = .ok (.ireturn, 1) := by decide +kernel
theorem d_Meanings_isNamed_0 : decode b_Meanings_isNamed 0 = .ok (.aload_n 0, 1) := by decide +kernel
theorem d_Meanings_isNamed_1 : decode b_Meanings_isNamed 1 = .ok (.getfield 24, 3) := by decide +kernel
theorem d_Meanings_isNamed_4 : decode b_Meanings_isNamed 4 = .ok (.iload_n 1, 1) := by decide +kernel
theorem d_Meanings_isNamed_5 : decode b_Meanings_isNamed 5 = .ok (.iaload, 1) := by decide +kernel
theorem d_Meanings_isNamed_6 : decode b_Meanings_isNamed 6 = .ok (.iload 4, 2) := by decide +kernel
theorem d_Meanings_isNamed_8 : decode b_Meanings_isNamed 8 = .ok (.if_icmp .ne 27, 3) := by decide +kernel
theorem d_Meanings_isNamed_11 : decode b_Meanings_isNamed 11 = .ok (.aload_n 0, 1) := by decide +kernel
theorem d_Meanings_isNamed_12 : decode b_Meanings_isNamed 12 = .ok (.getfield 10, 3) := by decide +kernel
theorem d_Meanings_isNamed_15 : decode b_Meanings_isNamed 15 = .ok (.aload_n 0, 1) := by decide +kernel
theorem d_Meanings_isNamed_16 : decode b_Meanings_isNamed 16 = .ok (.getfield 21, 3) := by decide +kernel
theorem d_Meanings_isNamed_19 : decode b_Meanings_isNamed 19 = .ok (.iload_n 1, 1) := by decide +kernel
theorem d_Meanings_isNamed_20 : decode b_Meanings_isNamed 20 = .ok (.iaload, 1) := by decide +kernel
theorem d_Meanings_isNamed_21 : decode b_Meanings_isNamed 21 = .ok (.aload_n 2, 1) := by decide +kernel
theorem d_Meanings_isNamed_22 : decode b_Meanings_isNamed 22 = .ok (.iload_n 3, 1) := by decide +kernel
theorem d_Meanings_isNamed_23 : decode b_Meanings_isNamed 23 = .ok (.iload 4, 2) := by decide +kernel
theorem d_Meanings_isNamed_25 : decode b_Meanings_isNamed 25 = .ok (.invokestatic 97, 3) := by decide +kernel
theorem d_Meanings_isNamed_28 : decode b_Meanings_isNamed 28 = .ok (.ifCond .eq 7, 3) := by decide +kernel
theorem d_Meanings_isNamed_31 : decode b_Meanings_isNamed 31 = .ok (.iconst 1, 1) := by decide +kernel
theorem d_Meanings_isNamed_32 : decode b_Meanings_isNamed 32 = .ok (.goto 4, 3) := by decide +kernel
theorem d_Meanings_isNamed_35 : decode b_Meanings_isNamed 35 = .ok (.iconst 0, 1) := by decide +kernel
theorem d_Meanings_isNamed_36 : decode b_Meanings_isNamed 36 = .ok (.ireturn, 1) := by decide +kernel
theorem d_Meanings_kindOf_0 : decode b_Meanings_kindOf 0 = .ok (.aload_n 0, 1) := by decide +kernel
theorem d_Meanings_kindOf_1 : decode b_Meanings_kindOf 1 = .ok (.getfield 30, 3) := by decide +kernel
theorem d_Meanings_kindOf_4 : decode b_Meanings_kindOf 4 = .ok (.iload_n 1, 1) := by decide +kernel
theorem d_Meanings_kindOf_5 : decode b_Meanings_kindOf 5 = .ok (.iaload, 1) := by decide +kernel
theorem d_Meanings_kindOf_6 : decode b_Meanings_kindOf 6 = .ok (.ireturn, 1) := by decide +kernel
theorem d_Meanings_release_0 : decode b_Meanings_release 0 = .ok (.aload_n 0, 1) := by decide +kernel
theorem d_Meanings_release_1 : decode b_Meanings_release 1 = .ok (.getfield 30, 3) := by decide +kernel
theorem d_Meanings_release_4 : decode b_Meanings_release 4 = .ok (.iload_n 1, 1) := by decide +kernel
theorem d_Meanings_release_5 : decode b_Meanings_release 5 = .ok (.iaload, 1) := by decide +kernel
theorem d_Meanings_release_6 : decode b_Meanings_release 6 = .ok (.ifCond .ne 35, 3) := by decide +kernel
theorem d_Meanings_release_9 : decode b_Meanings_release 9 = .ok (.aload_n 0, 1) := by decide +kernel
theorem d_Meanings_release_10 : decode b_Meanings_release 10 = .ok (.dup, 1) := by decide +kernel
theorem d_Meanings_release_11 : decode b_Meanings_release 11 = .ok (.getfield 46, 3) := by decide +kernel
theorem d_Meanings_release_14 : decode b_Meanings_release 14 = .ok (.iconst 1, 1) := by decide +kernel
theorem d_Meanings_release_15 : decode b_Meanings_release 15 = .ok (.isub, 1) := by decide +kernel
theorem d_Meanings_release_16 : decode b_Meanings_release 16 = .ok (.putfield 46, 3) := by decide +kernel
theorem d_Meanings_release_19 : decode b_Meanings_release 19 = .ok (.aload_n 0, 1) := by decide +kernel
theorem d_Meanings_release_20 : decode b_Meanings_release 20 = .ok (.dup, 1) := by decide +kernel
theorem d_Meanings_release_21 : decode b_Meanings_release 21 = .ok (.getfield 49, 3) := by decide +kernel
theorem d_Meanings_release_24 : decode b_Meanings_release 24 = .ok (.aload_n 0, 1) := by decide +kernel
theorem d_Meanings_release_25 : decode b_Meanings_release 25 = .ok (.getfield 24, 3) := by decide +kernel
theorem d_Meanings_release_28 : decode b_Meanings_release 28 = .ok (.iload_n 1, 1) := by decide +kernel
theorem d_Meanings_release_29 : decode b_Meanings_release 29 = .ok (.iaload, 1) := by decide +kernel
theorem d_Meanings_release_30 : decode b_Meanings_release 30 = .ok (.aload_n 0, 1) := by decide +kernel
theorem d_Meanings_release_31 : decode b_Meanings_release 31 = .ok (.getfield 27, 3) := by decide +kernel
theorem d_Meanings_release_34 : decode b_Meanings_release 34 = .ok (.iload_n 1, 1) := by decide +kernel
theorem d_Meanings_release_35 : decode b_Meanings_release 35 = .ok (.iaload, 1) := by decide +kernel
theorem d_Meanings_release_36 : decode b_Meanings_release 36 = .ok (.iadd, 1) := by decide +kernel
theorem d_Meanings_release_37 : decode b_Meanings_release 37 = .ok (.isub, 1) := by decide +kernel
theorem d_Meanings_release_38 : decode b_Meanings_release 38 = .ok (.putfield 49, 3) := by decide +kernel
theorem d_Meanings_release_41 : decode b_Meanings_release 41 = .ok (.aload_n 0, 1) := by decide +kernel
theorem d_Meanings_release_42 : decode b_Meanings_release 42 = .ok (.getfield 21, 3) := by decide +kernel
theorem d_Meanings_release_45 : decode b_Meanings_release 45 = .ok (.iload_n 1, 1) := by decide +kernel
theorem d_Meanings_release_46 : decode b_Meanings_release 46 = .ok (.iconst (-1), 1) := by decide +kernel
theorem d_Meanings_release_47 : decode b_Meanings_release 47 = .ok (.iastore, 1) := by decide +kernel
theorem d_Meanings_release_48 : decode b_Meanings_release 48 = .ok (.aload_n 0, 1) := by decide +kernel
theorem d_Meanings_release_49 : decode b_Meanings_release 49 = .ok (.getfield 18, 3) := by decide +kernel
theorem d_Meanings_release_52 : decode b_Meanings_release 52 = .ok (.iload_n 1, 1) := by decide +kernel
theorem d_Meanings_release_53 : decode b_Meanings_release 53 = .ok (.aload_n 0, 1) := by decide +kernel
theorem d_Meanings_release_54 : decode b_Meanings_release 54 = .ok (.getfield 39, 3) := by decide +kernel
theorem d_Meanings_release_57 : decode b_Meanings_release 57 = .ok (.iastore, 1) := by decide +kernel
theorem d_Meanings_release_58 : decode b_Meanings_release 58 = .ok (.aload_n 0, 1) := by decide +kernel
theorem d_Meanings_release_59 : decode b_Meanings_release 59 = .ok (.iload_n 1, 1) := by decide +kernel
theorem d_Meanings_release_60 : decode b_Meanings_release 60 = .ok (.putfield 39, 3) := by decide +kernel
theorem d_Meanings_release_63 : decode b_Meanings_release 63 = .ok (.return_, 1) := by decide +kernel
theorem d_Meanings_remove_0 : decode b_Meanings_remove 0 = .ok (.aload_n 1, 1) := by decide +kernel
theorem d_Meanings_remove_1 : decode b_Meanings_remove 1 = .ok (.iload_n 2, 1) := by decide +kernel
theorem d_Meanings_remove_2 : decode b_Meanings_remove 2 = .ok (.iload_n 3, 1) := by decide +kernel
theorem d_Meanings_remove_3 : decode b_Meanings_remove 3 = .ok (.invokestatic 67, 3) := by decide +kernel
theorem d_Meanings_remove_6 : decode b_Meanings_remove 6 = .ok (.sipush 255, 3) := by decide +kernel
theorem d_Meanings_remove_9 : decode b_Meanings_remove 9 = .ok (.iand, 1) := by decide +kernel
theorem d_Meanings_remove_10 : decode b_Meanings_remove 10 = .ok (.istore 5, 2) := by decide +kernel
theorem d_Meanings_remove_12 : decode b_Meanings_remove 12 = .ok (.iconst (-1), 1) := by decide +kernel
theorem d_Meanings_remove_13 : decode b_Meanings_remove 13 = .ok (.istore 6, 2) := by decide +kernel
theorem d_Meanings_remove_15 : decode b_Meanings_remove 15 = .ok (.aload_n 0, 1) := by decide +kernel
theorem d_Meanings_remove_16 : decode b_Meanings_remove 16 = .ok (.getfield 14, 3) := by decide +kernel
theorem d_Meanings_remove_19 : decode b_Meanings_remove 19 = .ok (.iload 5, 2) := by decide +kernel
theorem d_Meanings_remove_21 : decode b_Meanings_remove 21 = .ok (.iaload, 1) := by decide +kernel
theorem d_Meanings_remove_22 : decode b_Meanings_remove 22 = .ok (.istore 7, 2) := by decide +kernel
theorem d_Meanings_remove_24 : decode b_Meanings_remove 24 = .ok (.iconst 0, 1) := by decide +kernel
theorem d_Meanings_remove_25 : decode b_Meanings_remove 25 = .ok (.istore 8, 2) := by decide +kernel
theorem d_Meanings_remove_27 : decode b_Meanings_remove 27 = .ok (.iload 8, 2) := by decide +kernel
theorem d_Meanings_remove_29 : decode b_Meanings_remove 29 = .ok (.sipush 317, 3) := by decide +kernel
theorem d_Meanings_remove_32 : decode b_Meanings_remove 32 = .ok (.if_icmp .ge 81, 3) := by decide +kernel
theorem d_Meanings_remove_35 : decode b_Meanings_remove 35 = .ok (.iload 7, 2) := by decide +kernel
theorem d_Meanings_remove_37 : decode b_Meanings_remove 37 = .ok (.ifCond .lt 76, 3) := by decide +kernel
theorem d_Meanings_remove_40 : decode b_Meanings_remove 40 = .ok (.aload_n 0, 1) := by decide +kernel
theorem d_Meanings_remove_41 : decode b_Meanings_remove 41 = .ok (.getfield 18, 3) := by decide +kernel
theorem d_Meanings_remove_44 : decode b_Meanings_remove 44 = .ok (.iload 7, 2) := by decide +kernel
theorem d_Meanings_remove_46 : decode b_Meanings_remove 46 = .ok (.iaload, 1) := by decide +kernel
theorem d_Meanings_remove_47 : decode b_Meanings_remove 47 = .ok (.istore 9, 2) := by decide +kernel
theorem d_Meanings_remove_49 : decode b_Meanings_remove 49 = .ok (.aload_n 0, 1) := by decide +kernel
theorem d_Meanings_remove_50 : decode b_Meanings_remove 50 = .ok (.iload 7, 2) := by decide +kernel
theorem d_Meanings_remove_52 : decode b_Meanings_remove 52 = .ok (.aload_n 1, 1) := by decide +kernel
theorem d_Meanings_remove_53 : decode b_Meanings_remove 53 = .ok (.iload_n 2, 1) := by decide +kernel
theorem d_Meanings_remove_54 : decode b_Meanings_remove 54 = .ok (.iload_n 3, 1) := by decide +kernel
theorem d_Meanings_remove_55 : decode b_Meanings_remove 55 = .ok (.invokevirtual 77, 3) := by decide +kernel
theorem d_Meanings_remove_58 : decode b_Meanings_remove 58 = .ok (.ifCond .eq 41, 3) := by decide +kernel
theorem d_Meanings_remove_61 : decode b_Meanings_remove 61 = .ok (.iload 6, 2) := by decide +kernel
theorem d_Meanings_remove_63 : decode b_Meanings_remove 63 = .ok (.ifCond .ge 15, 3) := by decide +kernel
theorem d_Meanings_remove_66 : decode b_Meanings_remove 66 = .ok (.aload_n 0, 1) := by decide +kernel
theorem d_Meanings_remove_67 : decode b_Meanings_remove 67 = .ok (.getfield 14, 3) := by decide +kernel
theorem d_Meanings_remove_70 : decode b_Meanings_remove 70 = .ok (.iload 5, 2) := by decide +kernel
theorem d_Meanings_remove_72 : decode b_Meanings_remove 72 = .ok (.iload 9, 2) := by decide +kernel
theorem d_Meanings_remove_74 : decode b_Meanings_remove 74 = .ok (.iastore, 1) := by decide +kernel
theorem d_Meanings_remove_75 : decode b_Meanings_remove 75 = .ok (.goto 12, 3) := by decide +kernel
theorem d_Meanings_remove_78 : decode b_Meanings_remove 78 = .ok (.aload_n 0, 1) := by decide +kernel
theorem d_Meanings_remove_79 : decode b_Meanings_remove 79 = .ok (.getfield 18, 3) := by decide +kernel
theorem d_Meanings_remove_82 : decode b_Meanings_remove 82 = .ok (.iload 6, 2) := by decide +kernel
theorem d_Meanings_remove_84 : decode b_Meanings_remove 84 = .ok (.iload 9, 2) := by decide +kernel
theorem d_Meanings_remove_86 : decode b_Meanings_remove 86 = .ok (.iastore, 1) := by decide +kernel
theorem d_Meanings_remove_87 : decode b_Meanings_remove 87 = .ok (.aload_n 0, 1) := by decide +kernel
theorem d_Meanings_remove_88 : decode b_Meanings_remove 88 = .ok (.iload 7, 2) := by decide +kernel
theorem d_Meanings_remove_90 : decode b_Meanings_remove 90 = .ok (.invokevirtual 93, 3) := by decide +kernel
theorem d_Meanings_remove_93 : decode b_Meanings_remove 93 = .ok (.iload 4, 2) := by decide +kernel
theorem d_Meanings_remove_95 : decode b_Meanings_remove 95 = .ok (.ifCond .ne 8, 3) := by decide +kernel
theorem d_Meanings_remove_98 : decode b_Meanings_remove 98 = .ok (.return_, 1) := by decide +kernel
theorem d_Meanings_remove_99 : decode b_Meanings_remove 99 = .ok (.iload 7, 2) := by decide +kernel
theorem d_Meanings_remove_101 : decode b_Meanings_remove 101 = .ok (.istore 6, 2) := by decide +kernel
theorem d_Meanings_remove_103 : decode b_Meanings_remove 103 = .ok (.iload 9, 2) := by decide +kernel
theorem d_Meanings_remove_105 : decode b_Meanings_remove 105 = .ok (.istore 7, 2) := by decide +kernel
theorem d_Meanings_remove_107 : decode b_Meanings_remove 107 = .ok (.iinc 8 1, 3) := by decide +kernel
theorem d_Meanings_remove_110 : decode b_Meanings_remove 110 = .ok (.goto (-83), 3) := by decide +kernel
theorem d_Meanings_remove_113 : decode b_Meanings_remove 113 = .ok (.return_, 1) := by decide +kernel
theorem d_Meanings_takeNode_0 : decode b_Meanings_takeNode 0 = .ok (.aload_n 0, 1) := by decide +kernel
theorem d_Meanings_takeNode_1 : decode b_Meanings_takeNode 1 = .ok (.getfield 39, 3) := by decide +kernel
theorem d_Meanings_takeNode_4 : decode b_Meanings_takeNode 4 = .ok (.istore_n 2, 1) := by decide +kernel
theorem d_Meanings_takeNode_5 : decode b_Meanings_takeNode 5 = .ok (.aload_n 0, 1) := by decide +kernel
theorem d_Meanings_takeNode_6 : decode b_Meanings_takeNode 6 = .ok (.aload_n 0, 1) := by decide +kernel
theorem d_Meanings_takeNode_7 : decode b_Meanings_takeNode 7 = .ok (.getfield 18, 3) := by decide +kernel
theorem d_Meanings_takeNode_10 : decode b_Meanings_takeNode 10 = .ok (.iload_n 2, 1) := by decide +kernel
theorem d_Meanings_takeNode_11 : decode b_Meanings_takeNode 11 = .ok (.iaload, 1) := by decide +kernel
theorem d_Meanings_takeNode_12 : decode b_Meanings_takeNode 12 = .ok (.putfield 39, 3) := by decide +kernel
theorem d_Meanings_takeNode_15 : decode b_Meanings_takeNode 15 = .ok (.aload_n 0, 1) := by decide +kernel
theorem d_Meanings_takeNode_16 : decode b_Meanings_takeNode 16 = .ok (.getfield 18, 3) := by decide +kernel
theorem d_Meanings_takeNode_19 : decode b_Meanings_takeNode 19 = .ok (.iload_n 2, 1) := by decide +kernel
theorem d_Meanings_takeNode_20 : decode b_Meanings_takeNode 20 = .ok (.aload_n 0, 1) := by decide +kernel
theorem d_Meanings_takeNode_21 : decode b_Meanings_takeNode 21 = .ok (.getfield 14, 3) := by decide +kernel
theorem d_Meanings_takeNode_24 : decode b_Meanings_takeNode 24 = .ok (.iload_n 1, 1) := by decide +kernel
theorem d_Meanings_takeNode_25 : decode b_Meanings_takeNode 25 = .ok (.iaload, 1) := by decide +kernel
theorem d_Meanings_takeNode_26 : decode b_Meanings_takeNode 26 = .ok (.iastore, 1) := by decide +kernel
theorem d_Meanings_takeNode_27 : decode b_Meanings_takeNode 27 = .ok (.aload_n 0, 1) := by decide +kernel
theorem d_Meanings_takeNode_28 : decode b_Meanings_takeNode 28 = .ok (.getfield 14, 3) := by decide +kernel
theorem d_Meanings_takeNode_31 : decode b_Meanings_takeNode 31 = .ok (.iload_n 1, 1) := by decide +kernel
theorem d_Meanings_takeNode_32 : decode b_Meanings_takeNode 32 = .ok (.iload_n 2, 1) := by decide +kernel
theorem d_Meanings_takeNode_33 : decode b_Meanings_takeNode 33 = .ok (.iastore, 1) := by decide +kernel
theorem d_Meanings_takeNode_34 : decode b_Meanings_takeNode 34 = .ok (.iload_n 2, 1) := by decide +kernel
theorem d_Meanings_takeNode_35 : decode b_Meanings_takeNode 35 = .ok (.ireturn, 1) := by decide +kernel
theorem d_Meanings_textFrom_0 : decode b_Meanings_textFrom 0 = .ok (.aload_n 0, 1) := by decide +kernel
theorem d_Meanings_textFrom_1 : decode b_Meanings_textFrom 1 = .ok (.getfield 21, 3) := by decide +kernel
theorem d_Meanings_textFrom_4 : decode b_Meanings_textFrom 4 = .ok (.iload_n 1, 1) := by decide +kernel
theorem d_Meanings_textFrom_5 : decode b_Meanings_textFrom 5 = .ok (.iaload, 1) := by decide +kernel
theorem d_Meanings_textFrom_6 : decode b_Meanings_textFrom 6 = .ok (.aload_n 0, 1) := by decide +kernel
theorem d_Meanings_textFrom_7 : decode b_Meanings_textFrom 7 = .ok (.getfield 24, 3) := by decide +kernel
theorem d_Meanings_textFrom_10 : decode b_Meanings_textFrom 10 = .ok (.iload_n 1, 1) := by decide +kernel
theorem d_Meanings_textFrom_11 : decode b_Meanings_textFrom 11 = .ok (.iaload, 1) := by decide +kernel
theorem d_Meanings_textFrom_12 : decode b_Meanings_textFrom 12 = .ok (.iadd, 1) := by decide +kernel
theorem d_Meanings_textFrom_13 : decode b_Meanings_textFrom 13 = .ok (.ireturn, 1) := by decide +kernel
theorem d_Meanings_textSize_0 : decode b_Meanings_textSize 0 = .ok (.aload_n 0, 1) := by decide +kernel
theorem d_Meanings_textSize_1 : decode b_Meanings_textSize 1 = .ok (.getfield 27, 3) := by decide +kernel
theorem d_Meanings_textSize_4 : decode b_Meanings_textSize 4 = .ok (.iload_n 1, 1) := by decide +kernel
theorem d_Meanings_textSize_5 : decode b_Meanings_textSize 5 = .ok (.iaload, 1) := by decide +kernel
theorem d_Meanings_textSize_6 : decode b_Meanings_textSize 6 = .ok (.ireturn, 1) := by decide +kernel
theorem d_Meanings_wantsParenthesis_0 : decode b_Meanings_wantsParenthesis 0 = .ok (.aload_n 0, 1) := by decide +kernel
theorem d_Meanings_wantsParenthesis_1 : decode b_Meanings_wantsParenthesis 1 = .ok (.getfield 30, 3) := by decide +kernel
theorem d_Meanings_wantsParenthesis_4 : decode b_Meanings_wantsParenthesis 4 = .ok (.iload_n 1, 1) := by decide +kernel
theorem d_Meanings_wantsParenthesis_5 : decode b_Meanings_wantsParenthesis 5 = .ok (.iaload, 1) := by decide +kernel
theorem d_Meanings_wantsParenthesis_6 : decode b_Meanings_wantsParenthesis 6 = .ok (.iconst 1, 1) := by decide +kernel
theorem d_Meanings_wantsParenthesis_7 : decode b_Meanings_wantsParenthesis 7 = .ok (.if_icmp .lt 18, 3) := by decide +kernel
theorem d_Meanings_wantsParenthesis_10 : decode b_Meanings_wantsParenthesis 10 = .ok (.aload_n 0, 1) := by decide +kernel
theorem d_Meanings_wantsParenthesis_11 : decode b_Meanings_wantsParenthesis 11 = .ok (.getfield 30, 3) := by decide +kernel
theorem d_Meanings_wantsParenthesis_14 : decode b_Meanings_wantsParenthesis 14 = .ok (.iload_n 1, 1) := by decide +kernel
theorem d_Meanings_wantsParenthesis_15 : decode b_Meanings_wantsParenthesis 15 = .ok (.iaload, 1) := by decide +kernel
theorem d_Meanings_wantsParenthesis_16 : decode b_Meanings_wantsParenthesis 16 = .ok (.bipush 13, 2) := by decide +kernel
theorem d_Meanings_wantsParenthesis_18 : decode b_Meanings_wantsParenthesis 18 = .ok (.if_icmp .gt 7, 3) := by decide +kernel
theorem d_Meanings_wantsParenthesis_21 : decode b_Meanings_wantsParenthesis 21 = .ok (.iconst 1, 1) := by decide +kernel
theorem d_Meanings_wantsParenthesis_22 : decode b_Meanings_wantsParenthesis 22 = .ok (.goto 4, 3) := by decide +kernel
theorem d_Meanings_wantsParenthesis_25 : decode b_Meanings_wantsParenthesis 25 = .ok (.iconst 0, 1) := by decide +kernel
theorem d_Meanings_wantsParenthesis_26 : decode b_Meanings_wantsParenthesis 26 = .ok (.ireturn, 1) := by decide +kernel
theorem d_Outcome_begin_0 : decode b_Outcome_begin 0 = .ok (.aload_n 0, 1) := by decide +kernel
theorem d_Outcome_begin_1 : decode b_Outcome_begin 1 = .ok (.iconst 0, 1) := by decide +kernel
theorem d_Outcome_begin_2 : decode b_Outcome_begin 2 = .ok (.putfield 14, 3) := by decide +kernel
theorem d_Outcome_begin_5 : decode b_Outcome_begin 5 = .ok (.aload_n 0, 1) := by decide +kernel
theorem d_Outcome_begin_6 : decode b_Outcome_begin 6 = .ok (.iconst 0, 1) := by decide +kernel
theorem d_Outcome_begin_7 : decode b_Outcome_begin 7 = .ok (.putfield 18, 3) := by decide +kernel
theorem d_Outcome_begin_10 : decode b_Outcome_begin 10 = .ok (.aload_n 0, 1) := by decide +kernel
theorem d_Outcome_begin_11 : decode b_Outcome_begin 11 = .ok (.iconst 0, 1) := by decide +kernel
theorem d_Outcome_begin_12 : decode b_Outcome_begin 12 = .ok (.putfield 21, 3) := by decide +kernel
theorem d_Outcome_begin_15 : decode b_Outcome_begin 15 = .ok (.aload_n 0, 1) := by decide +kernel
theorem d_Outcome_begin_16 : decode b_Outcome_begin 16 = .ok (.iconst 0, 1) := by decide +kernel
theorem d_Outcome_begin_17 : decode b_Outcome_begin 17 = .ok (.putfield 24, 3) := by decide +kernel
theorem d_Outcome_begin_20 : decode b_Outcome_begin 20 = .ok (.aload_n 0, 1) := by decide +kernel
theorem d_Outcome_begin_21 : decode b_Outcome_begin 21 = .ok (.iload_n 1, 1) := by decide +kernel
theorem d_Outcome_begin_22 : decode b_Outcome_begin 22 = .ok (.putfield 27, 3) := by decide +kernel
theorem d_Outcome_begin_25 : decode b_Outcome_begin 25 = .ok (.aload_n 0, 1) := by decide +kernel
theorem d_Outcome_begin_26 : decode b_Outcome_begin 26 = .ok (.iconst 0, 1) := by decide +kernel
theorem d_Outcome_begin_27 : decode b_Outcome_begin 27 = .ok (.putfield 30, 3) := by decide +kernel
theorem d_Outcome_begin_30 : decode b_Outcome_begin 30 = .ok (.aload_n 0, 1) := by decide +kernel
theorem d_Outcome_begin_31 : decode b_Outcome_begin 31 = .ok (.iconst 0, 1) := by decide +kernel
theorem d_Outcome_begin_32 : decode b_Outcome_begin 32 = .ok (.putfield 33, 3) := by decide +kernel
theorem d_Outcome_begin_35 : decode b_Outcome_begin 35 = .ok (.aload_n 0, 1) := by decide +kernel
theorem d_Outcome_begin_36 : decode b_Outcome_begin 36 = .ok (.iconst 0, 1) := by decide +kernel
theorem d_Outcome_begin_37 : decode b_Outcome_begin 37 = .ok (.putfield 36, 3) := by decide +kernel
theorem d_Outcome_begin_40 : decode b_Outcome_begin 40 = .ok (.aload_n 0, 1) := by decide +kernel
theorem d_Outcome_begin_41 : decode b_Outcome_begin 41 = .ok (.iconst 0, 1) := by decide +kernel
theorem d_Outcome_begin_42 : decode b_Outcome_begin 42 = .ok (.putfield 39, 3) := by decide +kernel
theorem d_Outcome_begin_45 : decode b_Outcome_begin 45 = .ok (.return_, 1) := by decide +kernel
theorem d_Outcome_fail_0 : decode b_Outcome_fail 0 = .ok (.aload_n 0, 1) := by decide +kernel
theorem d_Outcome_fail_1 : decode b_Outcome_fail 1 = .ok (.getfield 18, 3) := by decide +kernel
theorem d_Outcome_fail_4 : decode b_Outcome_fail 4 = .ok (.ifCond .ne 21, 3) := by decide +kernel
theorem d_Outcome_fail_7 : decode b_Outcome_fail 7 = .ok (.aload_n 0, 1) := by decide +kernel
theorem d_Outcome_fail_8 : decode b_Outcome_fail 8 = .ok (.iload_n 1, 1) := by decide +kernel
theorem d_Outcome_fail_9 : decode b_Outcome_fail 9 = .ok (.putfield 18, 3) := by decide +kernel
theorem d_Outcome_fail_12 : decode b_Outcome_fail 12 = .ok (.aload_n 0, 1) := by decide +kernel
theorem d_Outcome_fail_13 : decode b_Outcome_fail 13 = .ok (.aload_n 0, 1) := by decide +kernel
theorem d_Outcome_fail_14 : decode b_Outcome_fail 14 = .ok (.getfield 27, 3) := by decide +kernel
theorem d_Outcome_fail_17 : decode b_Outcome_fail 17 = .ok (.putfield 21, 3) := by decide +kernel
theorem d_Outcome_fail_20 : decode b_Outcome_fail 20 = .ok (.aload_n 0, 1) := by decide +kernel
theorem d_Outcome_fail_21 : decode b_Outcome_fail 21 = .ok (.iload_n 2, 1) := by decide +kernel
theorem d_Outcome_fail_22 : decode b_Outcome_fail 22 = .ok (.putfield 24, 3) := by decide +kernel
theorem d_Outcome_fail_25 : decode b_Outcome_fail 25 = .ok (.return_, 1) := by decide +kernel
theorem d_Outcome_isFine_0 : decode b_Outcome_isFine 0 = .ok (.aload_n 0, 1) := by decide +kernel
theorem d_Outcome_isFine_1 : decode b_Outcome_isFine 1 = .ok (.getfield 18, 3) := by decide +kernel
theorem d_Outcome_isFine_4 : decode b_Outcome_isFine 4 = .ok (.ifCond .ne 7, 3) := by decide +kernel
theorem d_Outcome_isFine_7 : decode b_Outcome_isFine 7 = .ok (.iconst 1, 1) := by decide +kernel
theorem d_Outcome_isFine_8 : decode b_Outcome_isFine 8 = .ok (.goto 4, 3) := by decide +kernel
theorem d_Outcome_isFine_11 : decode b_Outcome_isFine 11 = .ok (.iconst 0, 1) := by decide +kernel
theorem d_Outcome_isFine_12 : decode b_Outcome_isFine 12 = .ok (.ireturn, 1) := by decide +kernel
theorem d_Reckoner_beIdleBehind_0 : decode b_Reckoner_beIdleBehind 0 = .ok (.aload_n 0, 1) := by decide +kernel
theorem d_Reckoner_beIdleBehind_1 : decode b_Reckoner_beIdleBehind 1 = .ok (.getfield 9, 3) := by decide +kernel
theorem d_Reckoner_beIdleBehind_4 : decode b_Reckoner_beIdleBehind 4 = .ok (.aload_n 0, 1) := by decide +kernel
theorem d_Reckoner_beIdleBehind_5 : decode b_Reckoner_beIdleBehind 5 = .ok (.getfield 31, 3) := by decide +kernel
theorem d_Reckoner_beIdleBehind_8 : decode b_Reckoner_beIdleBehind 8 = .ok (.iconst 1, 1) := by decide +kernel
theorem d_Reckoner_beIdleBehind_9 : decode b_Reckoner_beIdleBehind 9 = .ok (.isub, 1) := by decide +kernel
theorem d_Reckoner_beIdleBehind_10 : decode b_Reckoner_beIdleBehind 10 = .ok (.laload, 1) := by decide +kernel
theorem d_Reckoner_beIdleBehind_11 : decode b_Reckoner_beIdleBehind 11 = .ok (.lconst 0, 1) := by decide +kernel
theorem d_Reckoner_beIdleBehind_12 : decode b_Reckoner_beIdleBehind 12 = .ok (.lcmp, 1) := by decide +kernel
theorem d_Reckoner_beIdleBehind_13 : decode b_Reckoner_beIdleBehind 13 = .ok (.ifCond .ne 7, 3) := by decide +kernel
theorem d_Reckoner_beIdleBehind_16 : decode b_Reckoner_beIdleBehind 16 = .ok (.iconst 1, 1) := by decide +kernel
theorem d_Reckoner_beIdleBehind_17 : decode b_Reckoner_beIdleBehind 17 = .ok (.goto 4, 3) := by decide +kernel
theorem d_Reckoner_beIdleBehind_20 : decode b_Reckoner_beIdleBehind 20 = .ok (.iconst 0, 1) := by decide +kernel
theorem d_Reckoner_beIdleBehind_21 : decode b_Reckoner_beIdleBehind 21 = .ok (.istore_n 2, 1) := by decide +kernel
theorem d_Reckoner_beIdleBehind_22 : decode b_Reckoner_beIdleBehind 22 = .ok (.aload_n 0, 1) := by decide +kernel
theorem d_Reckoner_beIdleBehind_23 : decode b_Reckoner_beIdleBehind 23 = .ok (.getfield 27, 3) := by decide +kernel
theorem d_Reckoner_beIdleBehind_26 : decode b_Reckoner_beIdleBehind 26 = .ok (.ifCond .eq 39, 3) := by decide +kernel
theorem d_Reckoner_beIdleBehind_29 : decode b_Reckoner_beIdleBehind 29 = .ok (.iload_n 1, 1) := by decide +kernel
theorem d_Reckoner_beIdleBehind_30 : decode b_Reckoner_beIdleBehind 30 = .ok (.sipush 9766, 3) := by decide +kernel
theorem d_Reckoner_beIdleBehind_33 : decode b_Reckoner_beIdleBehind 33 = .ok (.if_icmp .eq 9, 3) := by decide +kernel
theorem d_Reckoner_beIdleBehind_36 : decode b_Reckoner_beIdleBehind 36 = .ok (.iload_n 1, 1) := by decide +kernel
theorem d_Reckoner_beIdleBehind_37 : decode b_Reckoner_beIdleBehind 37 = .ok (.bipush 63, 2) := by decide +kernel
theorem d_Reckoner_beIdleBehind_39 : decode b_Reckoner_beIdleBehind 39 = .ok (.if_icmp .ne 26, 3) := by decide +kernel
theorem d_Reckoner_beIdleBehind_42 : decode b_Reckoner_beIdleBehind 42 = .ok (.aload_n 0, 1) := by decide +kernel
theorem d_Reckoner_beIdleBehind_43 : decode b_Reckoner_beIdleBehind 43 = .ok (.aload_n 0, 1) := by decide +kernel
theorem d_Reckoner_beIdleBehind_44 : decode b_Reckoner_beIdleBehind 44 = .ok (.getfield 44, 3) := by decide +kernel
theorem d_Reckoner_beIdleBehind_47 : decode b_Reckoner_beIdleBehind 47 = .ok (.ifCond .ne 7, 3) := by decide +kernel
theorem d_Reckoner_beIdleBehind_50 : decode b_Reckoner_beIdleBehind 50 = .ok (.iload_n 2, 1) := by decide +kernel
theorem d_Reckoner_beIdleBehind_51 : decode b_Reckoner_beIdleBehind 51 = .ok (.ifCond .eq 7, 3) := by decide +kernel
theorem d_Reckoner_beIdleBehind_54 : decode b_Reckoner_beIdleBehind 54 = .ok (.iconst 1, 1) := by decide +kernel
theorem d_Reckoner_beIdleBehind_55 : decode b_Reckoner_beIdleBehind 55 = .ok (.goto 4, 3) := by decide +kernel
theorem d_Reckoner_beIdleBehind_58 : decode b_Reckoner_beIdleBehind 58 = .ok (.iconst 0, 1) := by decide +kernel
theorem d_Reckoner_beIdleBehind_59 : decode b_Reckoner_beIdleBehind 59 = .ok (.putfield 44, 3) := by decide +kernel
theorem d_Reckoner_beIdleBehind_62 : decode b_Reckoner_beIdleBehind 62 = .ok (.goto 37, 3) := by decide +kernel
theorem d_Reckoner_beIdleBehind_65 : decode b_Reckoner_beIdleBehind 65 = .ok (.aload_n 0, 1) := by decide +kernel
theorem d_Reckoner_beIdleBehind_66 : decode b_Reckoner_beIdleBehind 66 = .ok (.getfield 27, 3) := by decide +kernel
theorem d_Reckoner_beIdleBehind_69 : decode b_Reckoner_beIdleBehind 69 = .ok (.ifCond .eq 30, 3) := by decide +kernel
theorem d_Reckoner_beIdleBehind_72 : decode b_Reckoner_beIdleBehind 72 = .ok (.iload_n 1, 1) := by decide +kernel
theorem d_Reckoner_beIdleBehind_73 : decode b_Reckoner_beIdleBehind 73 = .ok (.sipush 31868, 3) := by decide +kernel
theorem d_Reckoner_beIdleBehind_76 : decode b_Reckoner_beIdleBehind 76 = .ok (.if_icmp .ne 23, 3) := by decide +kernel
theorem d_Reckoner_beIdleBehind_79 : decode b_Reckoner_beIdleBehind 79 = .ok (.aload_n 0, 1) := by decide +kernel
theorem d_Reckoner_beIdleBehind_80 : decode b_Reckoner_beIdleBehind 80 = .ok (.aload_n 0, 1) := by decide +kernel
theorem d_Reckoner_beIdleBehind_81 : decode b_Reckoner_beIdleBehind 81 = .ok (.getfield 44, 3) := by decide +kernel
theorem d_Reckoner_beIdleBehind_84 : decode b_Reckoner_beIdleBehind 84 = .ok (.ifCond .ne 7, 3) := by decide +kernel
theorem d_Reckoner_beIdleBehind_87 : decode b_Reckoner_beIdleBehind 87 = .ok (.iload_n 2, 1) := by decide +kernel
theorem d_Reckoner_beIdleBehind_88 : decode b_Reckoner_beIdleBehind 88 = .ok (.ifCond .ne 7, 3) := by decide +kernel
theorem d_Reckoner_beIdleBehind_91 : decode b_Reckoner_beIdleBehind 91 = .ok (.iconst 1, 1) := by decide +kernel
theorem d_Reckoner_beIdleBehind_92 : decode b_Reckoner_beIdleBehind 92 = .ok (.goto 4, 3) := by decide +kernel
theorem d_Reckoner_beIdleBehind_95 : decode b_Reckoner_beIdleBehind 95 = .ok (.iconst 0, 1) := by decide +kernel
theorem d_Reckoner_beIdleBehind_96 : decode b_Reckoner_beIdleBehind 96 = .ok (.putfield 44, 3) := by decide +kernel
theorem d_Reckoner_beIdleBehind_99 : decode b_Reckoner_beIdleBehind 99 = .ok (.return_, 1) := by decide +kernel
theorem d_Reckoner_begin_0 : decode b_Reckoner_begin 0 = .ok (.aload_n 0, 1) := by decide +kernel
theorem d_Reckoner_begin_1 : decode b_Reckoner_begin 1 = .ok (.iload_n 1, 1) := by decide +kernel
theorem d_Reckoner_begin_2 : decode b_Reckoner_begin 2 = .ok (.putfield 27, 3) := by decide +kernel
theorem d_Reckoner_begin_5 : decode b_Reckoner_begin 5 = .ok (.aload_n 0, 1) := by decide +kernel
theorem d_Reckoner_begin_6 : decode b_Reckoner_begin 6 = .ok (.iconst 0, 1) := by decide +kernel
theorem d_Reckoner_begin_7 : decode b_Reckoner_begin 7 = .ok (.putfield 31, 3) := by decide +kernel
theorem d_Reckoner_begin_10 : decode b_Reckoner_begin 10 = .ok (.aload_n 0, 1) := by decide +kernel
theorem d_Reckoner_begin_11 : decode b_Reckoner_begin 11 = .ok (.iconst 0, 1) := by decide +kernel
theorem d_Reckoner_begin_12 : decode b_Reckoner_begin 12 = .ok (.putfield 35, 3) := by decide +kernel
theorem d_Reckoner_begin_15 : decode b_Reckoner_begin 15 = .ok (.aload_n 0, 1) := by decide +kernel
theorem d_Reckoner_begin_16 : decode b_Reckoner_begin 16 = .ok (.iconst 0, 1) := by decide +kernel
theorem d_Reckoner_begin_17 : decode b_Reckoner_begin 17 = .ok (.putfield 38, 3) := by decide +kernel
theorem d_Reckoner_begin_20 : decode b_Reckoner_begin 20 = .ok (.aload_n 0, 1) := by decide +kernel
theorem d_Reckoner_begin_21 : decode b_Reckoner_begin 21 = .ok (.iconst 1, 1) := by decide +kernel
theorem d_Reckoner_begin_22 : decode b_Reckoner_begin 22 = .ok (.putfield 41, 3) := by decide +kernel
theorem d_Reckoner_begin_25 : decode b_Reckoner_begin 25 = .ok (.aload_n 0, 1) := by decide +kernel
theorem d_Reckoner_begin_26 : decode b_Reckoner_begin 26 = .ok (.iconst 0, 1) := by decide +kernel
theorem d_Reckoner_begin_27 : decode b_Reckoner_begin 27 = .ok (.putfield 44, 3) := by decide +kernel
theorem d_Reckoner_begin_30 : decode b_Reckoner_begin 30 = .ok (.aload_n 0, 1) := by decide +kernel
theorem d_Reckoner_begin_31 : decode b_Reckoner_begin 31 = .ok (.iconst 0, 1) := by decide +kernel
theorem d_Reckoner_begin_32 : decode b_Reckoner_begin 32 = .ok (.putfield 47, 3) := by decide +kernel
theorem d_Reckoner_begin_35 : decode b_Reckoner_begin 35 = .ok (.aload_n 0, 1) := by decide +kernel
theorem d_Reckoner_begin_36 : decode b_Reckoner_begin 36 = .ok (.iconst 0, 1) := by decide +kernel
theorem d_Reckoner_begin_37 : decode b_Reckoner_begin 37 = .ok (.putfield 50, 3) := by decide +kernel
theorem d_Reckoner_begin_40 : decode b_Reckoner_begin 40 = .ok (.return_, 1) := by decide +kernel
theorem d_Reckoner_choose_0 : decode b_Reckoner_choose 0 = .ok (.aload_n 0, 1) := by decide +kernel
theorem d_Reckoner_choose_1 : decode b_Reckoner_choose 1 = .ok (.dup, 1) := by decide +kernel
theorem d_Reckoner_choose_2 : decode b_Reckoner_choose 2 = .ok (.getfield 38, 3) := by decide +kernel
theorem d_Reckoner_choose_5 : decode b_Reckoner_choose 5 = .ok (.iconst 1, 1) := by decide +kernel
theorem d_Reckoner_choose_6 : decode b_Reckoner_choose 6 = .ok (.isub, 1) := by decide +kernel
theorem d_Reckoner_choose_7 : decode b_Reckoner_choose 7 = .ok (.putfield 38, 3) := by decide +kernel
theorem d_Reckoner_choose_10 : decode b_Reckoner_choose 10 = .ok (.aload_n 0, 1) := by decide +kernel
theorem d_Reckoner_choose_11 : decode b_Reckoner_choose 11 = .ok (.dup, 1) := by decide +kernel
theorem d_Reckoner_choose_12 : decode b_Reckoner_choose 12 = .ok (.getfield 31, 3) := by decide +kernel
theorem d_Reckoner_choose_15 : decode b_Reckoner_choose 15 = .ok (.iconst 2, 1) := by decide +kernel
theorem d_Reckoner_choose_16 : decode b_Reckoner_choose 16 = .ok (.isub, 1) := by decide +kernel
theorem d_Reckoner_choose_17 : decode b_Reckoner_choose 17 = .ok (.putfield 31, 3) := by decide +kernel
theorem d_Reckoner_choose_20 : decode b_Reckoner_choose 20 = .ok (.aload_n 0, 1) := by decide +kernel
theorem d_Reckoner_choose_21 : decode b_Reckoner_choose 21 = .ok (.getfield 31, 3) := by decide +kernel
theorem d_Reckoner_choose_24 : decode b_Reckoner_choose 24 = .ok (.iconst 1, 1) := by decide +kernel
theorem d_Reckoner_choose_25 : decode b_Reckoner_choose 25 = .ok (.isub, 1) := by decide +kernel
theorem d_Reckoner_choose_26 : decode b_Reckoner_choose 26 = .ok (.istore_n 1, 1) := by decide +kernel
theorem d_Reckoner_choose_27 : decode b_Reckoner_choose 27 = .ok (.aload_n 0, 1) := by decide +kernel
theorem d_Reckoner_choose_28 : decode b_Reckoner_choose 28 = .ok (.getfield 9, 3) := by decide +kernel
theorem d_Reckoner_choose_31 : decode b_Reckoner_choose 31 = .ok (.iload_n 1, 1) := by decide +kernel
theorem d_Reckoner_choose_32 : decode b_Reckoner_choose 32 = .ok (.aload_n 0, 1) := by decide +kernel
theorem d_Reckoner_choose_33 : decode b_Reckoner_choose 33 = .ok (.getfield 9, 3) := by decide +kernel
theorem d_Reckoner_choose_36 : decode b_Reckoner_choose 36 = .ok (.iload_n 1, 1) := by decide +kernel
theorem d_Reckoner_choose_37 : decode b_Reckoner_choose 37 = .ok (.laload, 1) := by decide +kernel
theorem d_Reckoner_choose_38 : decode b_Reckoner_choose 38 = .ok (.lconst 0, 1) := by decide +kernel
theorem d_Reckoner_choose_39 : decode b_Reckoner_choose 39 = .ok (.lcmp, 1) := by decide +kernel
theorem d_Reckoner_choose_40 : decode b_Reckoner_choose 40 = .ok (.ifCond .eq 14, 3) := by decide +kernel
theorem d_Reckoner_choose_43 : decode b_Reckoner_choose 43 = .ok (.aload_n 0, 1) := by decide +kernel
theorem d_Reckoner_choose_44 : decode b_Reckoner_choose 44 = .ok (.getfield 9, 3) := by decide +kernel
theorem d_Reckoner_choose_47 : decode b_Reckoner_choose 47 = .ok (.iload_n 1, 1) := by decide +kernel
theorem d_Reckoner_choose_48 : decode b_Reckoner_choose 48 = .ok (.iconst 1, 1) := by decide +kernel
theorem d_Reckoner_choose_49 : decode b_Reckoner_choose 49 = .ok (.iadd, 1) := by decide +kernel
theorem d_Reckoner_choose_50 : decode b_Reckoner_choose 50 = .ok (.laload, 1) := by decide +kernel
theorem d_Reckoner_choose_51 : decode b_Reckoner_choose 51 = .ok (.goto 11, 3) := by decide +kernel
theorem d_Reckoner_choose_54 : decode b_Reckoner_choose 54 = .ok (.aload_n 0, 1) := by decide +kernel
theorem d_Reckoner_choose_55 : decode b_Reckoner_choose 55 = .ok (.getfield 9, 3) := by decide +kernel
theorem d_Reckoner_choose_58 : decode b_Reckoner_choose 58 = .ok (.iload_n 1, 1) := by decide +kernel
theorem d_Reckoner_choose_59 : decode b_Reckoner_choose 59 = .ok (.iconst 2, 1) := by decide +kernel
theorem d_Reckoner_choose_60 : decode b_Reckoner_choose 60 = .ok (.iadd, 1) := by decide +kernel
theorem d_Reckoner_choose_61 : decode b_Reckoner_choose 61 = .ok (.laload, 1) := by decide +kernel
theorem d_Reckoner_choose_62 : decode b_Reckoner_choose 62 = .ok (.lastore, 1) := by decide +kernel
theorem d_Reckoner_choose_63 : decode b_Reckoner_choose 63 = .ok (.aload_n 0, 1) := by decide +kernel
theorem d_Reckoner_choose_64 : decode b_Reckoner_choose 64 = .ok (.getfield 13, 3) := by decide +kernel
theorem d_Reckoner_choose_67 : decode b_Reckoner_choose 67 = .ok (.iload_n 1, 1) := by decide +kernel
theorem d_Reckoner_choose_68 : decode b_Reckoner_choose 68 = .ok (.aload_n 0, 1) := by decide +kernel
theorem d_Reckoner_choose_69 : decode b_Reckoner_choose 69 = .ok (.getfield 13, 3) := by decide +kernel
theorem d_Reckoner_choose_72 : decode b_Reckoner_choose 72 = .ok (.iload_n 1, 1) := by decide +kernel
theorem d_Reckoner_choose_73 : decode b_Reckoner_choose 73 = .ok (.iconst 1, 1) := by decide +kernel
theorem d_Reckoner_choose_74 : decode b_Reckoner_choose 74 = .ok (.iadd, 1) := by decide +kernel
theorem d_Reckoner_choose_75 : decode b_Reckoner_choose 75 = .ok (.baload, 1) := by decide +kernel
theorem d_Reckoner_choose_76 : decode b_Reckoner_choose 76 = .ok (.ifCond .ne 14, 3) := by decide +kernel
theorem d_Reckoner_choose_79 : decode b_Reckoner_choose 79 = .ok (.aload_n 0, 1) := by decide +kernel
theorem d_Reckoner_choose_80 : decode b_Reckoner_choose 80 = .ok (.getfield 13, 3) := by decide +kernel
theorem d_Reckoner_choose_83 : decode b_Reckoner_choose 83 = .ok (.iload_n 1, 1) := by decide +kernel
theorem d_Reckoner_choose_84 : decode b_Reckoner_choose 84 = .ok (.iconst 2, 1) := by decide +kernel
theorem d_Reckoner_choose_85 : decode b_Reckoner_choose 85 = .ok (.iadd, 1) := by decide +kernel
theorem d_Reckoner_choose_86 : decode b_Reckoner_choose 86 = .ok (.baload, 1) := by decide +kernel
theorem d_Reckoner_choose_87 : decode b_Reckoner_choose 87 = .ok (.ifCond .eq 7, 3) := by decide +kernel
theorem d_Reckoner_choose_90 : decode b_Reckoner_choose 90 = .ok (.iconst 1, 1) := by decide +kernel
theorem d_Reckoner_choose_91 : decode b_Reckoner_choose 91 = .ok (.goto 4, 3) := by decide +kernel
theorem d_Reckoner_choose_94 : decode b_Reckoner_choose 94 = .ok (.iconst 0, 1) := by decide +kernel
theorem d_Reckoner_choose_95 : decode b_Reckoner_choose 95 = .ok (.bastore, 1) := by decide +kernel
theorem d_Reckoner_choose_96 : decode b_Reckoner_choose 96 = .ok (.return_, 1) := by decide +kernel
theorem d_Reckoner_closeParenthesis_0 : decode b_Reckoner_closeParenthesis 0 = .ok (.aload_n 0, 1) := by decide +kernel
theorem d_Reckoner_closeParenthesis_1 : decode b_Reckoner_closeParenthesis 1 = .ok (.iconst 0, 1) := by decide +kernel
theorem d_Reckoner_closeParenthesis_2 : decode b_Reckoner_closeParenthesis 2 = .ok (.invokevirtual 86, 3) := by decide +kernel
theorem d_Reckoner_closeParenthesis_5 : decode b_Reckoner_closeParenthesis 5 = .ok (.ifCond .ne 9, 3) := by decide +kernel
theorem d_Reckoner_closeParenthesis_8 : decode b_Reckoner_closeParenthesis 8 = .ok (.aload_n 0, 1) := by decide +kernel
theorem d_Reckoner_closeParenthesis_9 : decode b_Reckoner_closeParenthesis 9 = .ok (.iconst 1, 1) := by decide +kernel
theorem d_Reckoner_closeParenthesis_10 : decode b_Reckoner_closeParenthesis 10 = .ok (.putfield 47, 3) := by decide +kernel
theorem d_Reckoner_closeParenthesis_13 : decode b_Reckoner_closeParenthesis 13 = .ok (.return_, 1) := by decide +kernel
theorem d_Reckoner_closeParenthesis_14 : decode b_Reckoner_closeParenthesis 14 = .ok (.aload_n 0, 1) := by decide +kernel
theorem d_Reckoner_closeParenthesis_15 : decode b_Reckoner_closeParenthesis 15 = .ok (.dup, 1) := by decide +kernel
theorem d_Reckoner_closeParenthesis_16 : decode b_Reckoner_closeParenthesis 16 = .ok (.getfield 35, 3) := by decide +kernel
theorem d_Reckoner_closeParenthesis_19 : decode b_Reckoner_closeParenthesis 19 = .ok (.iconst 1, 1) := by decide +kernel
theorem d_Reckoner_closeParenthesis_20 : decode b_Reckoner_closeParenthesis 20 = .ok (.isub, 1) := by decide +kernel
theorem d_Reckoner_closeParenthesis_21 : decode b_Reckoner_closeParenthesis 21 = .ok (.putfield 35, 3) := by decide +kernel
theorem d_Reckoner_closeParenthesis_24 : decode b_Reckoner_closeParenthesis 24 = .ok (.aload_n 0, 1) := by decide +kernel
theorem d_Reckoner_closeParenthesis_25 : decode b_Reckoner_closeParenthesis 25 = .ok (.dup, 1) := by decide +kernel
theorem d_Reckoner_closeParenthesis_26 : decode b_Reckoner_closeParenthesis 26 = .ok (.getfield 38, 3) := by decide +kernel
theorem d_Reckoner_closeParenthesis_29 : decode b_Reckoner_closeParenthesis 29 = .ok (.iconst 1, 1) := by decide +kernel
theorem d_Reckoner_closeParenthesis_30 : decode b_Reckoner_closeParenthesis 30 = .ok (.isub, 1) := by decide +kernel
theorem d_Reckoner_closeParenthesis_31 : decode b_Reckoner_closeParenthesis 31 = .ok (.putfield 38, 3) := by decide +kernel
theorem d_Reckoner_closeParenthesis_34 : decode b_Reckoner_closeParenthesis 34 = .ok (.aload_n 0, 1) := by decide +kernel
theorem d_Reckoner_closeParenthesis_35 : decode b_Reckoner_closeParenthesis 35 = .ok (.invokevirtual 53, 3) := by decide +kernel
theorem d_Reckoner_closeParenthesis_38 : decode b_Reckoner_closeParenthesis 38 = .ok (.return_, 1) := by decide +kernel
theorem d_Reckoner_divide_0 : decode b_Reckoner_divide 0 = .ok (.lload_n 3, 1) := by decide +kernel
theorem d_Reckoner_divide_1 : decode b_Reckoner_divide 1 = .ok (.lconst 0, 1) := by decide +kernel
theorem d_Reckoner_divide_2 : decode b_Reckoner_divide 2 = .ok (.lcmp, 1) := by decide +kernel
theorem d_Reckoner_divide_3 : decode b_Reckoner_divide 3 = .ok (.ifCond .ne 28, 3) := by decide +kernel
theorem d_Reckoner_divide_6 : decode b_Reckoner_divide 6 = .ok (.aload_n 0, 1) := by decide +kernel
theorem d_Reckoner_divide_7 : decode b_Reckoner_divide 7 = .ok (.aload_n 0, 1) := by decide +kernel
theorem d_Reckoner_divide_8 : decode b_Reckoner_divide 8 = .ok (.getfield 50, 3) := by decide +kernel
theorem d_Reckoner_divide_11 : decode b_Reckoner_divide 11 = .ok (.ifCond .ne 10, 3) := by decide +kernel
theorem d_Reckoner_divide_14 : decode b_Reckoner_divide 14 = .ok (.aload_n 0, 1) := by decide +kernel
theorem d_Reckoner_divide_15 : decode b_Reckoner_divide 15 = .ok (.getfield 44, 3) := by decide +kernel
theorem d_Reckoner_divide_18 : decode b_Reckoner_divide 18 = .ok (.ifCond .ne 7, 3) := by decide +kernel
theorem d_Reckoner_divide_21 : decode b_Reckoner_divide 21 = .ok (.iconst 1, 1) := by decide +kernel
theorem d_Reckoner_divide_22 : decode b_Reckoner_divide 22 = .ok (.goto 4, 3) := by decide +kernel
theorem d_Reckoner_divide_25 : decode b_Reckoner_divide 25 = .ok (.iconst 0, 1) := by decide +kernel
theorem d_Reckoner_divide_26 : decode b_Reckoner_divide 26 = .ok (.putfield 50, 3) := by decide +kernel
theorem d_Reckoner_divide_29 : decode b_Reckoner_divide 29 = .ok (.lconst 0, 1) := by decide +kernel
theorem d_Reckoner_divide_30 : decode b_Reckoner_divide 30 = .ok (.lreturn, 1) := by decide +kernel
theorem d_Reckoner_divide_31 : decode b_Reckoner_divide 31 = .ok (.lload_n 1, 1) := by decide +kernel
theorem d_Reckoner_divide_32 : decode b_Reckoner_divide 32 = .ok (.lload_n 3, 1) := by decide +kernel
theorem d_Reckoner_divide_33 : decode b_Reckoner_divide 33 = .ok (.ldiv, 1) := by decide +kernel
theorem d_Reckoner_divide_34 : decode b_Reckoner_divide 34 = .ok (.lstore 7, 2) := by decide +kernel
theorem d_Reckoner_divide_36 : decode b_Reckoner_divide 36 = .ok (.iload 5, 2) := by decide +kernel
theorem d_Reckoner_divide_38 : decode b_Reckoner_divide 38 = .ok (.ifCond .eq 33, 3) := by decide +kernel
theorem d_Reckoner_divide_41 : decode b_Reckoner_divide 41 = .ok (.lload_n 3, 1) := by decide +kernel
theorem d_Reckoner_divide_42 : decode b_Reckoner_divide 42 = .ok (.lconst 0, 1) := by decide +kernel
theorem d_Reckoner_divide_43 : decode b_Reckoner_divide 43 = .ok (.lcmp, 1) := by decide +kernel
theorem d_Reckoner_divide_44 : decode b_Reckoner_divide 44 = .ok (.ifCond .ge 27, 3) := by decide +kernel
theorem d_Reckoner_divide_47 : decode b_Reckoner_divide 47 = .ok (.lload_n 1, 1) := by decide +kernel
theorem d_Reckoner_divide_48 : decode b_Reckoner_divide 48 = .ok (.ldc2_w 103, 3) := by decide +kernel
theorem d_Reckoner_divide_51 : decode b_Reckoner_divide 51 = .ok (.lxor, 1) := by decide +kernel
theorem d_Reckoner_divide_52 : decode b_Reckoner_divide 52 = .ok (.lload_n 3, 1) := by decide +kernel
theorem d_Reckoner_divide_53 : decode b_Reckoner_divide 53 = .ok (.ldc2_w 103, 3) := by decide +kernel
theorem d_Reckoner_divide_56 : decode b_Reckoner_divide 56 = .ok (.lxor, 1) := by decide +kernel
theorem d_Reckoner_divide_57 : decode b_Reckoner_divide 57 = .ok (.lcmp, 1) := by decide +kernel
theorem d_Reckoner_divide_58 : decode b_Reckoner_divide 58 = .ok (.ifCond .lt 7, 3) := by decide +kernel
theorem d_Reckoner_divide_61 : decode b_Reckoner_divide 61 = .ok (.lconst 1, 1) := by decide +kernel
theorem d_Reckoner_divide_62 : decode b_Reckoner_divide 62 = .ok (.goto 4, 3) := by decide +kernel
theorem d_Reckoner_divide_65 : decode b_Reckoner_divide 65 = .ok (.lconst 0, 1) := by decide +kernel
theorem d_Reckoner_divide_66 : decode b_Reckoner_divide 66 = .ok (.lstore 7, 2) := by decide +kernel
theorem d_Reckoner_divide_68 : decode b_Reckoner_divide 68 = .ok (.goto 48, 3) := by decide +kernel
theorem d_Reckoner_divide_71 : decode b_Reckoner_divide 71 = .ok (.iload 5, 2) := by decide +kernel
theorem d_Reckoner_divide_73 : decode b_Reckoner_divide 73 = .ok (.ifCond .eq 43, 3) := by decide +kernel
theorem d_Reckoner_divide_76 : decode b_Reckoner_divide 76 = .ok (.lload_n 1, 1) := by decide +kernel
theorem d_Reckoner_divide_77 : decode b_Reckoner_divide 77 = .ok (.lconst 0, 1) := by decide +kernel
theorem d_Reckoner_divide_78 : decode b_Reckoner_divide 78 = .ok (.lcmp, 1) := by decide +kernel
theorem d_Reckoner_divide_79 : decode b_Reckoner_divide 79 = .ok (.ifCond .ge 37, 3) := by decide +kernel
theorem d_Reckoner_divide_82 : decode b_Reckoner_divide 82 = .ok (.lload_n 1, 1) := by decide +kernel
theorem d_Reckoner_divide_83 : decode b_Reckoner_divide 83 = .ok (.iconst 1, 1) := by decide +kernel
theorem d_Reckoner_divide_84 : decode b_Reckoner_divide 84 = .ok (.lushr, 1) := by decide +kernel
theorem d_Reckoner_divide_85 : decode b_Reckoner_divide 85 = .ok (.lload_n 3, 1) := by decide +kernel
theorem d_Reckoner_divide_86 : decode b_Reckoner_divide 86 = .ok (.ldiv, 1) := by decide +kernel
theorem d_Reckoner_divide_87 : decode b_Reckoner_divide 87 = .ok (.iconst 1, 1) := by decide +kernel
theorem d_Reckoner_divide_88 : decode b_Reckoner_divide 88 = .ok (.lshl, 1) := by decide +kernel
theorem d_Reckoner_divide_89 : decode b_Reckoner_divide 89 = .ok (.lstore 7, 2) := by decide +kernel
theorem d_Reckoner_divide_91 : decode b_Reckoner_divide 91 = .ok (.lload_n 1, 1) := by decide +kernel
theorem d_Reckoner_divide_92 : decode b_Reckoner_divide 92 = .ok (.lload 7, 2) := by decide +kernel
theorem d_Reckoner_divide_94 : decode b_Reckoner_divide 94 = .ok (.lload_n 3, 1) := by decide +kernel
theorem d_Reckoner_divide_95 : decode b_Reckoner_divide 95 = .ok (.lmul, 1) := by decide +kernel
theorem d_Reckoner_divide_96 : decode b_Reckoner_divide 96 = .ok (.lsub, 1) := by decide +kernel
theorem d_Reckoner_divide_97 : decode b_Reckoner_divide 97 = .ok (.ldc2_w 103, 3) := by decide +kernel
theorem d_Reckoner_divide_100 : decode b_Reckoner_divide 100 = .ok (.lxor, 1) := by decide +kernel
theorem d_Reckoner_divide_101 : decode b_Reckoner_divide 101 = .ok (.lload_n 3, 1) := by decide +kernel
theorem d_Reckoner_divide_102 : decode b_Reckoner_divide 102 = .ok (.ldc2_w 103, 3) := by decide +kernel
theorem d_Reckoner_divide_105 : decode b_Reckoner_divide 105 = .ok (.lxor, 1) := by decide +kernel
theorem d_Reckoner_divide_106 : decode b_Reckoner_divide 106 = .ok (.lcmp, 1) := by decide +kernel
theorem d_Reckoner_divide_107 : decode b_Reckoner_divide 107 = .ok (.ifCond .lt 9, 3) := by decide +kernel
theorem d_Reckoner_divide_110 : decode b_Reckoner_divide 110 = .ok (.lload 7, 2) := by decide +kernel
theorem d_Reckoner_divide_112 : decode b_Reckoner_divide 112 = .ok (.lconst 1, 1) := by decide +kernel
theorem d_Reckoner_divide_113 : decode b_Reckoner_divide 113 = .ok (.ladd, 1) := by decide +kernel
theorem d_Reckoner_divide_114 : decode b_Reckoner_divide 114 = .ok (.lstore 7, 2) := by decide +kernel
theorem d_Reckoner_divide_116 : decode b_Reckoner_divide 116 = .ok (.iload 6, 2) := by decide +kernel
theorem d_Reckoner_divide_118 : decode b_Reckoner_divide 118 = .ok (.ifCond .eq 12, 3) := by decide +kernel
theorem d_Reckoner_divide_121 : decode b_Reckoner_divide 121 = .ok (.lload_n 1, 1) := by decide +kernel
theorem d_Reckoner_divide_122 : decode b_Reckoner_divide 122 = .ok (.lload 7, 2) := by decide +kernel
theorem d_Reckoner_divide_124 : decode b_Reckoner_divide 124 = .ok (.lload_n 3, 1) := by decide +kernel
theorem d_Reckoner_divide_125 : decode b_Reckoner_divide 125 = .ok (.lmul, 1) := by decide +kernel
theorem d_Reckoner_divide_126 : decode b_Reckoner_divide 126 = .ok (.lsub, 1) := by decide +kernel
theorem d_Reckoner_divide_127 : decode b_Reckoner_divide 127 = .ok (.goto 5, 3) := by decide +kernel
theorem d_Reckoner_divide_130 : decode b_Reckoner_divide 130 = .ok (.lload 7, 2) := by decide +kernel
theorem d_Reckoner_divide_132 : decode b_Reckoner_divide 132 = .ok (.lreturn, 1) := by decide +kernel
theorem d_Reckoner_endOperand_0 : decode b_Reckoner_endOperand 0 = .ok (.aload_n 0, 1) := by decide +kernel
theorem d_Reckoner_endOperand_1 : decode b_Reckoner_endOperand 1 = .ok (.iconst 0, 1) := by decide +kernel
theorem d_Reckoner_endOperand_2 : decode b_Reckoner_endOperand 2 = .ok (.putfield 41, 3) := by decide +kernel
theorem d_Reckoner_endOperand_5 : decode b_Reckoner_endOperand 5 = .ok (.iconst 0, 1) := by decide +kernel
theorem d_Reckoner_endOperand_6 : decode b_Reckoner_endOperand 6 = .ok (.istore_n 1, 1) := by decide +kernel
theorem d_Reckoner_endOperand_7 : decode b_Reckoner_endOperand 7 = .ok (.iload_n 1, 1) := by decide +kernel
theorem d_Reckoner_endOperand_8 : decode b_Reckoner_endOperand 8 = .ok (.sipush 1000, 3) := by decide +kernel
theorem d_Reckoner_endOperand_11 : decode b_Reckoner_endOperand 11 = .ok (.if_icmp .ge 156, 3) := by decide +kernel
theorem d_Reckoner_endOperand_14 : decode b_Reckoner_endOperand 14 = .ok (.aload_n 0, 1) := by decide +kernel
theorem d_Reckoner_endOperand_15 : decode b_Reckoner_endOperand 15 = .ok (.bipush 20, 2) := by decide +kernel
theorem d_Reckoner_endOperand_17 : decode b_Reckoner_endOperand 17 = .ok (.invokevirtual 86, 3) := by decide +kernel
theorem d_Reckoner_endOperand_20 : decode b_Reckoner_endOperand 20 = .ok (.ifCond .eq 147, 3) := by decide +kernel
theorem d_Reckoner_endOperand_23 : decode b_Reckoner_endOperand 23 = .ok (.aload_n 0, 1) := by decide +kernel
theorem d_Reckoner_endOperand_24 : decode b_Reckoner_endOperand 24 = .ok (.dup, 1) := by decide +kernel
theorem d_Reckoner_endOperand_25 : decode b_Reckoner_endOperand 25 = .ok (.getfield 35, 3) := by decide +kernel
theorem d_Reckoner_endOperand_28 : decode b_Reckoner_endOperand 28 = .ok (.iconst 1, 1) := by decide +kernel
theorem d_Reckoner_endOperand_29 : decode b_Reckoner_endOperand 29 = .ok (.isub, 1) := by decide +kernel
theorem d_Reckoner_endOperand_30 : decode b_Reckoner_endOperand 30 = .ok (.putfield 35, 3) := by decide +kernel
theorem d_Reckoner_endOperand_33 : decode b_Reckoner_endOperand 33 = .ok (.aload_n 0, 1) := by decide +kernel
theorem d_Reckoner_endOperand_34 : decode b_Reckoner_endOperand 34 = .ok (.dup, 1) := by decide +kernel
theorem d_Reckoner_endOperand_35 : decode b_Reckoner_endOperand 35 = .ok (.getfield 38, 3) := by decide +kernel
theorem d_Reckoner_endOperand_38 : decode b_Reckoner_endOperand 38 = .ok (.iconst 1, 1) := by decide +kernel
theorem d_Reckoner_endOperand_39 : decode b_Reckoner_endOperand 39 = .ok (.isub, 1) := by decide +kernel
theorem d_Reckoner_endOperand_40 : decode b_Reckoner_endOperand 40 = .ok (.putfield 38, 3) := by decide +kernel
theorem d_Reckoner_endOperand_43 : decode b_Reckoner_endOperand 43 = .ok (.aload_n 0, 1) := by decide +kernel
theorem d_Reckoner_endOperand_44 : decode b_Reckoner_endOperand 44 = .ok (.getfield 31, 3) := by decide +kernel
theorem d_Reckoner_endOperand_47 : decode b_Reckoner_endOperand 47 = .ok (.iconst 1, 1) := by decide +kernel
theorem d_Reckoner_endOperand_48 : decode b_Reckoner_endOperand 48 = .ok (.isub, 1) := by decide +kernel
theorem d_Reckoner_endOperand_49 : decode b_Reckoner_endOperand 49 = .ok (.istore_n 2, 1) := by decide +kernel
theorem d_Reckoner_endOperand_50 : decode b_Reckoner_endOperand 50 = .ok (.aload_n 0, 1) := by decide +kernel
theorem d_Reckoner_endOperand_51 : decode b_Reckoner_endOperand 51 = .ok (.getfield 17, 3) := by decide +kernel
theorem d_Reckoner_endOperand_54 : decode b_Reckoner_endOperand 54 = .ok (.aload_n 0, 1) := by decide +kernel
theorem d_Reckoner_endOperand_55 : decode b_Reckoner_endOperand 55 = .ok (.getfield 35, 3) := by decide +kernel
theorem d_Reckoner_endOperand_58 : decode b_Reckoner_endOperand 58 = .ok (.iaload, 1) := by decide +kernel
theorem d_Reckoner_endOperand_59 : decode b_Reckoner_endOperand 59 = .ok (.istore_n 3, 1) := by decide +kernel
theorem d_Reckoner_endOperand_60 : decode b_Reckoner_endOperand 60 = .ok (.iload_n 3, 1) := by decide +kernel
theorem d_Reckoner_endOperand_61 : decode b_Reckoner_endOperand 61 = .ok (.bipush 45, 2) := by decide +kernel
theorem d_Reckoner_endOperand_63 : decode b_Reckoner_endOperand 63 = .ok (.if_icmp .ne 38, 3) := by decide +kernel
theorem d_Reckoner_endOperand_66 : decode b_Reckoner_endOperand 66 = .ok (.aload_n 0, 1) := by decide +kernel
theorem d_Reckoner_endOperand_67 : decode b_Reckoner_endOperand 67 = .ok (.getfield 9, 3) := by decide +kernel
theorem d_Reckoner_endOperand_70 : decode b_Reckoner_endOperand 70 = .ok (.iload_n 2, 1) := by decide +kernel
theorem d_Reckoner_endOperand_71 : decode b_Reckoner_endOperand 71 = .ok (.aload_n 0, 1) := by decide +kernel
theorem d_Reckoner_endOperand_72 : decode b_Reckoner_endOperand 72 = .ok (.getfield 27, 3) := by decide +kernel
theorem d_Reckoner_endOperand_75 : decode b_Reckoner_endOperand 75 = .ok (.ifCond .eq 13, 3) := by decide +kernel
theorem d_Reckoner_endOperand_78 : decode b_Reckoner_endOperand 78 = .ok (.aload_n 0, 1) := by decide +kernel
theorem d_Reckoner_endOperand_79 : decode b_Reckoner_endOperand 79 = .ok (.getfield 9, 3) := by decide +kernel
theorem d_Reckoner_endOperand_82 : decode b_Reckoner_endOperand 82 = .ok (.iload_n 2, 1) := by decide +kernel
theorem d_Reckoner_endOperand_83 : decode b_Reckoner_endOperand 83 = .ok (.laload, 1) := by decide +kernel
theorem d_Reckoner_endOperand_84 : decode b_Reckoner_endOperand 84 = .ok (.lneg, 1) := by decide +kernel
theorem d_Reckoner_endOperand_85 : decode b_Reckoner_endOperand 85 = .ok (.goto 12, 3) := by decide +kernel
theorem d_Reckoner_endOperand_88 : decode b_Reckoner_endOperand 88 = .ok (.aload_n 0, 1) := by decide +kernel
theorem d_Reckoner_endOperand_89 : decode b_Reckoner_endOperand 89 = .ok (.getfield 9, 3) := by decide +kernel
theorem d_Reckoner_endOperand_92 : decode b_Reckoner_endOperand 92 = .ok (.iload_n 2, 1) := by decide +kernel
theorem d_Reckoner_endOperand_93 : decode b_Reckoner_endOperand 93 = .ok (.laload, 1) := by decide +kernel
theorem d_Reckoner_endOperand_94 : decode b_Reckoner_endOperand 94 = .ok (.lneg, 1) := by decide +kernel
theorem d_Reckoner_endOperand_95 : decode b_Reckoner_endOperand 95 = .ok (.l2i, 1) := by decide +kernel
theorem d_Reckoner_endOperand_96 : decode b_Reckoner_endOperand 96 = .ok (.i2l, 1) := by decide +kernel
theorem d_Reckoner_endOperand_97 : decode b_Reckoner_endOperand 97 = .ok (.lastore, 1) := by decide +kernel
theorem d_Reckoner_endOperand_98 : decode b_Reckoner_endOperand 98 = .ok (.goto 63, 3) := by decide +kernel
theorem d_Reckoner_endOperand_101 : decode b_Reckoner_endOperand 101 = .ok (.iload_n 3, 1) := by decide +kernel
theorem d_Reckoner_endOperand_102 : decode b_Reckoner_endOperand 102 = .ok (.bipush 126, 2) := by decide +kernel
theorem d_Reckoner_endOperand_104 : decode b_Reckoner_endOperand 104 = .ok (.if_icmp .ne 22, 3) := by decide +kernel
theorem d_Reckoner_endOperand_107 : decode b_Reckoner_endOperand 107 = .ok (.aload_n 0, 1) := by decide +kernel
theorem d_Reckoner_endOperand_108 : decode b_Reckoner_endOperand 108 = .ok (.getfield 9, 3) := by decide +kernel
theorem d_Reckoner_endOperand_111 : decode b_Reckoner_endOperand 111 = .ok (.iload_n 2, 1) := by decide +kernel
theorem d_Reckoner_endOperand_112 : decode b_Reckoner_endOperand 112 = .ok (.aload_n 0, 1) := by decide +kernel
theorem d_Reckoner_endOperand_113 : decode b_Reckoner_endOperand 113 = .ok (.getfield 9, 3) := by decide +kernel
theorem d_Reckoner_endOperand_116 : decode b_Reckoner_endOperand 116 = .ok (.iload_n 2, 1) := by decide +kernel
theorem d_Reckoner_endOperand_117 : decode b_Reckoner_endOperand 117 = .ok (.laload, 1) := by decide +kernel
theorem d_Reckoner_endOperand_118 : decode b_Reckoner_endOperand 118 = .ok (.ldc2_w 90, 3) := by decide +kernel
theorem d_Reckoner_endOperand_121 : decode b_Reckoner_endOperand 121 = .ok (.lxor, 1) := by decide +kernel
theorem d_Reckoner_endOperand_122 : decode b_Reckoner_endOperand 122 = .ok (.lastore, 1) := by decide +kernel
theorem d_Reckoner_endOperand_123 : decode b_Reckoner_endOperand 123 = .ok (.goto 38, 3) := by decide +kernel
theorem d_Reckoner_endOperand_126 : decode b_Reckoner_endOperand 126 = .ok (.iload_n 3, 1) := by decide +kernel
theorem d_Reckoner_endOperand_127 : decode b_Reckoner_endOperand 127 = .ok (.bipush 33, 2) := by decide +kernel
theorem d_Reckoner_endOperand_129 : decode b_Reckoner_endOperand 129 = .ok (.if_icmp .ne 32, 3) := by decide +kernel
theorem d_Reckoner_endOperand_132 : decode b_Reckoner_endOperand 132 = .ok (.aload_n 0, 1) := by decide +kernel
theorem d_Reckoner_endOperand_133 : decode b_Reckoner_endOperand 133 = .ok (.getfield 9, 3) := by decide +kernel
theorem d_Reckoner_endOperand_136 : decode b_Reckoner_endOperand 136 = .ok (.iload_n 2, 1) := by decide +kernel
theorem d_Reckoner_endOperand_137 : decode b_Reckoner_endOperand 137 = .ok (.aload_n 0, 1) := by decide +kernel
theorem d_Reckoner_endOperand_138 : decode b_Reckoner_endOperand 138 = .ok (.getfield 9, 3) := by decide +kernel
theorem d_Reckoner_endOperand_141 : decode b_Reckoner_endOperand 141 = .ok (.iload_n 2, 1) := by decide +kernel
theorem d_Reckoner_endOperand_142 : decode b_Reckoner_endOperand 142 = .ok (.laload, 1) := by decide +kernel
theorem d_Reckoner_endOperand_143 : decode b_Reckoner_endOperand 143 = .ok (.lconst 0, 1) := by decide +kernel
theorem d_Reckoner_endOperand_144 : decode b_Reckoner_endOperand 144 = .ok (.lcmp, 1) := by decide +kernel
theorem d_Reckoner_endOperand_145 : decode b_Reckoner_endOperand 145 = .ok (.ifCond .ne 7, 3) := by decide +kernel
theorem d_Reckoner_endOperand_148 : decode b_Reckoner_endOperand 148 = .ok (.lconst 1, 1) := by decide +kernel
theorem d_Reckoner_endOperand_149 : decode b_Reckoner_endOperand 149 = .ok (.goto 4, 3) := by decide +kernel
theorem d_Reckoner_endOperand_152 : decode b_Reckoner_endOperand 152 = .ok (.lconst 0, 1) := by decide +kernel
theorem d_Reckoner_endOperand_153 : decode b_Reckoner_endOperand 153 = .ok (.lastore, 1) := by decide +kernel
theorem d_Reckoner_endOperand_154 : decode b_Reckoner_endOperand 154 = .ok (.aload_n 0, 1) := by decide +kernel
theorem d_Reckoner_endOperand_155 : decode b_Reckoner_endOperand 155 = .ok (.getfield 13, 3) := by decide +kernel
theorem d_Reckoner_endOperand_158 : decode b_Reckoner_endOperand 158 = .ok (.iload_n 2, 1) := by decide +kernel
theorem d_Reckoner_endOperand_159 : decode b_Reckoner_endOperand 159 = .ok (.iconst 0, 1) := by decide +kernel
theorem d_Reckoner_endOperand_160 : decode b_Reckoner_endOperand 160 = .ok (.bastore, 1) := by decide +kernel
theorem d_Reckoner_endOperand_161 : decode b_Reckoner_endOperand 161 = .ok (.iinc 1 1, 3) := by decide +kernel
theorem d_Reckoner_endOperand_164 : decode b_Reckoner_endOperand 164 = .ok (.goto (-157), 3) := by decide +kernel
theorem d_Reckoner_endOperand_167 : decode b_Reckoner_endOperand 167 = .ok (.return_, 1) := by decide +kernel
theorem d_Reckoner_hasDividedByZero_0 : decode b_Reckoner_hasDividedByZero 0 = .ok (.aload_n 0, 1) := by decide +kernel
theorem d_Reckoner_hasDividedByZero_1 : decode b_Reckoner_hasDividedByZero 1 = .ok (.getfield 50, 3) := by decide +kernel
theorem d_Reckoner_hasDividedByZero_4 : decode b_Reckoner_hasDividedByZero 4 = .ok (.ireturn, 1) := by decide +kernel
theorem d_Reckoner_isTop_0 : decode b_Reckoner_isTop 0 = .ok (.aload_n 0, 1) := by decide +kernel
theorem d_Reckoner_isTop_1 : decode b_Reckoner_isTop 1 = .ok (.getfield 35, 3) := by decide +kernel
theorem d_Reckoner_isTop_4 : decode b_Reckoner_isTop 4 = .ok (.ifCond .le 22, 3) := by decide +kernel
theorem d_Reckoner_isTop_7 : decode b_Reckoner_isTop 7 = .ok (.aload_n 0, 1) := by decide +kernel
theorem d_Reckoner_isTop_8 : decode b_Reckoner_isTop 8 = .ok (.getfield 21, 3) := by decide +kernel
theorem d_Reckoner_isTop_11 : decode b_Reckoner_isTop 11 = .ok (.aload_n 0, 1) := by decide +kernel
theorem d_Reckoner_isTop_12 : decode b_Reckoner_isTop 12 = .ok (.getfield 35, 3) := by decide +kernel
theorem d_Reckoner_isTop_15 : decode b_Reckoner_isTop 15 = .ok (.iconst 1, 1) := by decide +kernel
theorem d_Reckoner_isTop_16 : decode b_Reckoner_isTop 16 = .ok (.isub, 1) := by decide +kernel
theorem d_Reckoner_isTop_17 : decode b_Reckoner_isTop 17 = .ok (.iaload, 1) := by decide +kernel
theorem d_Reckoner_isTop_18 : decode b_Reckoner_isTop 18 = .ok (.iload_n 1, 1) := by decide +kernel
theorem d_Reckoner_isTop_19 : decode b_Reckoner_isTop 19 = .ok (.if_icmp .ne 7, 3) := by decide +kernel
theorem d_Reckoner_isTop_22 : decode b_Reckoner_isTop 22 = .ok (.iconst 1, 1) := by decide +kernel
theorem d_Reckoner_isTop_23 : decode b_Reckoner_isTop 23 = .ok (.goto 4, 3) := by decide +kernel
theorem d_Reckoner_isTop_26 : decode b_Reckoner_isTop 26 = .ok (.iconst 0, 1) := by decide +kernel
theorem d_Reckoner_isTop_27 : decode b_Reckoner_isTop 27 = .ok (.ireturn, 1) := by decide +kernel
theorem d_Reckoner_push_0 : decode b_Reckoner_push 0 = .ok (.iload_n 2, 1) := by decide +kernel
theorem d_Reckoner_push_1 : decode b_Reckoner_push 1 = .ok (.ifCond .eq 14, 3) := by decide +kernel
theorem d_Reckoner_push_4 : decode b_Reckoner_push 4 = .ok (.iload_n 2, 1) := by decide +kernel
theorem d_Reckoner_push_5 : decode b_Reckoner_push 5 = .ok (.iconst 1, 1) := by decide +kernel
theorem d_Reckoner_push_6 : decode b_Reckoner_push 6 = .ok (.if_icmp .eq 9, 3) := by decide +kernel
theorem d_Reckoner_push_9 : decode b_Reckoner_push 9 = .ok (.iload_n 2, 1) := by decide +kernel
theorem d_Reckoner_push_10 : decode b_Reckoner_push 10 = .ok (.bipush 20, 2) := by decide +kernel
theorem d_Reckoner_push_12 : decode b_Reckoner_push 12 = .ok (.if_icmp .ne 13, 3) := by decide +kernel
theorem d_Reckoner_push_15 : decode b_Reckoner_push 15 = .ok (.aload_n 0, 1) := by decide +kernel
theorem d_Reckoner_push_16 : decode b_Reckoner_push 16 = .ok (.dup, 1) := by decide +kernel
theorem d_Reckoner_push_17 : decode b_Reckoner_push 17 = .ok (.getfield 38, 3) := by decide +kernel
theorem d_Reckoner_push_20 : decode b_Reckoner_push 20 = .ok (.iconst 1, 1) := by decide +kernel
theorem d_Reckoner_push_21 : decode b_Reckoner_push 21 = .ok (.iadd, 1) := by decide +kernel
theorem d_Reckoner_push_22 : decode b_Reckoner_push 22 = .ok (.putfield 38, 3) := by decide +kernel
theorem d_Reckoner_push_25 : decode b_Reckoner_push 25 = .ok (.aload_n 0, 1) := by decide +kernel
theorem d_Reckoner_push_26 : decode b_Reckoner_push 26 = .ok (.getfield 35, 3) := by decide +kernel
theorem d_Reckoner_push_29 : decode b_Reckoner_push 29 = .ok (.sipush 1000, 3) := by decide +kernel
theorem d_Reckoner_push_32 : decode b_Reckoner_push 32 = .ok (.if_icmp .ge 24, 3) := by decide +kernel
theorem d_Reckoner_push_35 : decode b_Reckoner_push 35 = .ok (.aload_n 0, 1) := by decide +kernel
theorem d_Reckoner_push_36 : decode b_Reckoner_push 36 = .ok (.getfield 38, 3) := by decide +kernel
theorem d_Reckoner_push_39 : decode b_Reckoner_push 39 = .ok (.aload_n 0, 1) := by decide +kernel
theorem d_Reckoner_push_40 : decode b_Reckoner_push 40 = .ok (.getfield 27, 3) := by decide +kernel
theorem d_Reckoner_push_43 : decode b_Reckoner_push 43 = .ok (.ifCond .eq 8, 3) := by decide +kernel
theorem d_Reckoner_push_46 : decode b_Reckoner_push 46 = .ok (.bipush 60, 2) := by decide +kernel
theorem d_Reckoner_push_48 : decode b_Reckoner_push 48 = .ok (.goto 5, 3) := by decide +kernel
theorem d_Reckoner_push_51 : decode b_Reckoner_push 51 = .ok (.bipush 30, 2) := by decide +kernel
theorem d_Reckoner_push_53 : decode b_Reckoner_push 53 = .ok (.if_icmp .le 9, 3) := by decide +kernel
theorem d_Reckoner_push_56 : decode b_Reckoner_push 56 = .ok (.aload_n 0, 1) := by decide +kernel
theorem d_Reckoner_push_57 : decode b_Reckoner_push 57 = .ok (.iconst 1, 1) := by decide +kernel
theorem d_Reckoner_push_58 : decode b_Reckoner_push 58 = .ok (.putfield 47, 3) := by decide +kernel
theorem d_Reckoner_push_61 : decode b_Reckoner_push 61 = .ok (.return_, 1) := by decide +kernel
theorem d_Reckoner_push_62 : decode b_Reckoner_push 62 = .ok (.aload_n 0, 1) := by decide +kernel
theorem d_Reckoner_push_63 : decode b_Reckoner_push 63 = .ok (.getfield 17, 3) := by decide +kernel
theorem d_Reckoner_push_66 : decode b_Reckoner_push 66 = .ok (.aload_n 0, 1) := by decide +kernel
theorem d_Reckoner_push_67 : decode b_Reckoner_push 67 = .ok (.getfield 35, 3) := by decide +kernel
theorem d_Reckoner_push_70 : decode b_Reckoner_push 70 = .ok (.iload_n 1, 1) := by decide +kernel
theorem d_Reckoner_push_71 : decode b_Reckoner_push 71 = .ok (.iastore, 1) := by decide +kernel
theorem d_Reckoner_push_72 : decode b_Reckoner_push 72 = .ok (.aload_n 0, 1) := by decide +kernel
theorem d_Reckoner_push_73 : decode b_Reckoner_push 73 = .ok (.getfield 21, 3) := by decide +kernel
theorem d_Reckoner_push_76 : decode b_Reckoner_push 76 = .ok (.aload_n 0, 1) := by decide +kernel
theorem d_Reckoner_push_77 : decode b_Reckoner_push 77 = .ok (.getfield 35, 3) := by decide +kernel
theorem d_Reckoner_push_80 : decode b_Reckoner_push 80 = .ok (.iload_n 2, 1) := by decide +kernel
theorem d_Reckoner_push_81 : decode b_Reckoner_push 81 = .ok (.iastore, 1) := by decide +kernel
theorem d_Reckoner_push_82 : decode b_Reckoner_push 82 = .ok (.aload_n 0, 1) := by decide +kernel
theorem d_Reckoner_push_83 : decode b_Reckoner_push 83 = .ok (.getfield 24, 3) := by decide +kernel
theorem d_Reckoner_push_86 : decode b_Reckoner_push 86 = .ok (.aload_n 0, 1) := by decide +kernel
theorem d_Reckoner_push_87 : decode b_Reckoner_push 87 = .ok (.getfield 35, 3) := by decide +kernel
theorem d_Reckoner_push_90 : decode b_Reckoner_push 90 = .ok (.aload_n 0, 1) := by decide +kernel
theorem d_Reckoner_push_91 : decode b_Reckoner_push 91 = .ok (.getfield 44, 3) := by decide +kernel
theorem d_Reckoner_push_94 : decode b_Reckoner_push 94 = .ok (.bastore, 1) := by decide +kernel
theorem d_Reckoner_push_95 : decode b_Reckoner_push 95 = .ok (.aload_n 0, 1) := by decide +kernel
theorem d_Reckoner_push_96 : decode b_Reckoner_push 96 = .ok (.dup, 1) := by decide +kernel
theorem d_Reckoner_push_97 : decode b_Reckoner_push 97 = .ok (.getfield 35, 3) := by decide +kernel
theorem d_Reckoner_push_100 : decode b_Reckoner_push 100 = .ok (.iconst 1, 1) := by decide +kernel
theorem d_Reckoner_push_101 : decode b_Reckoner_push 101 = .ok (.iadd, 1) := by decide +kernel
theorem d_Reckoner_push_102 : decode b_Reckoner_push 102 = .ok (.putfield 35, 3) := by decide +kernel
theorem d_Reckoner_push_105 : decode b_Reckoner_push 105 = .ok (.aload_n 0, 1) := by decide +kernel
theorem d_Reckoner_push_106 : decode b_Reckoner_push 106 = .ok (.iconst 1, 1) := by decide +kernel
theorem d_Reckoner_push_107 : decode b_Reckoner_push 107 = .ok (.putfield 41, 3) := by decide +kernel
theorem d_Reckoner_push_110 : decode b_Reckoner_push 110 = .ok (.return_, 1) := by decide +kernel
theorem d_Reckoner_rankOf_0 : decode b_Reckoner_rankOf 0 = .ok (.iload_n 0, 1) := by decide +kernel
theorem d_Reckoner_rankOf_1 : decode b_Reckoner_rankOf 1 = .ok (.lookupswitch 212 #[(37, 209), (38, 194), (41, 179), (42, 209), (43, 206), (45, 206), (47, 209), (58, 183), (60, 200), (62, 200), (63, 181), (94, 191), (124, 189), (9766, 187), (15420, 203), (15649, 197), (15676, 200), (15677, 197), (15678, 200), (15934, 203), (31868, 185)], 179) := by decide +kernel
theorem d_Reckoner_rankOf_180 : decode b_Reckoner_rankOf 180 = .ok (.iconst 0, 1) := by decide +kernel
theorem d_Reckoner_rankOf_181 : decode b_Reckoner_rankOf 181 = .ok (.ireturn, 1) := by decide +kernel
theorem d_Reckoner_rankOf_182 : decode b_Reckoner_rankOf 182 = .ok (.iconst 1, 1) := by decide +kernel
theorem d_Reckoner_rankOf_183 : decode b_Reckoner_rankOf 183 = .ok (.ireturn, 1) := by decide +kernel
theorem d_Reckoner_rankOf_184 : decode b_Reckoner_rankOf 184 = .ok (.iconst 2, 1) := by decide +kernel
theorem d_Reckoner_rankOf_185 : decode b_Reckoner_rankOf 185 = .ok (.ireturn, 1) := by decide +kernel
theorem d_Reckoner_rankOf_186 : decode b_Reckoner_rankOf 186 = .ok (.iconst 3, 1) := by decide +kernel
theorem d_Reckoner_rankOf_187 : decode b_Reckoner_rankOf 187 = .ok (.ireturn, 1) := by decide +kernel
theorem d_Reckoner_rankOf_188 : decode b_Reckoner_rankOf 188 = .ok (.iconst 4, 1) := by decide +kernel
theorem d_Reckoner_rankOf_189 : decode b_Reckoner_rankOf 189 = .ok (.ireturn, 1) := by decide +kernel
theorem d_Reckoner_rankOf_190 : decode b_Reckoner_rankOf 190 = .ok (.iconst 5, 1) := by decide +kernel
theorem d_Reckoner_rankOf_191 : decode b_Reckoner_rankOf 191 = .ok (.ireturn, 1) := by decide +kernel
theorem d_Reckoner_rankOf_192 : decode b_Reckoner_rankOf 192 = .ok (.bipush 6, 2) := by decide +kernel
theorem d_Reckoner_rankOf_194 : decode b_Reckoner_rankOf 194 = .ok (.ireturn, 1) := by decide +kernel
theorem d_Reckoner_rankOf_195 : decode b_Reckoner_rankOf 195 = .ok (.bipush 7, 2) := by decide +kernel
theorem d_Reckoner_rankOf_197 : decode b_Reckoner_rankOf 197 = .ok (.ireturn, 1) := by decide +kernel
theorem d_Reckoner_rankOf_198 : decode b_Reckoner_rankOf 198 = .ok (.bipush 8, 2) := by decide +kernel
theorem d_Reckoner_rankOf_200 : decode b_Reckoner_rankOf 200 = .ok (.ireturn, 1) := by decide +kernel
theorem d_Reckoner_rankOf_201 : decode b_Reckoner_rankOf 201 = .ok (.bipush 9, 2) := by decide +kernel
theorem d_Reckoner_rankOf_203 : decode b_Reckoner_rankOf 203 = .ok (.ireturn, 1) := by decide +kernel
theorem d_Reckoner_rankOf_204 : decode b_Reckoner_rankOf 204 = .ok (.bipush 10, 2) := by decide +kernel
theorem d_Reckoner_rankOf_206 : decode b_Reckoner_rankOf 206 = .ok (.ireturn, 1) := by decide +kernel
theorem d_Reckoner_rankOf_207 : decode b_Reckoner_rankOf 207 = .ok (.bipush 11, 2) := by decide +kernel
theorem d_Reckoner_rankOf_209 : decode b_Reckoner_rankOf 209 = .ok (.ireturn, 1) := by decide +kernel
theorem d_Reckoner_rankOf_210 : decode b_Reckoner_rankOf 210 = .ok (.bipush 12, 2) := by decide +kernel
theorem d_Reckoner_rankOf_212 : decode b_Reckoner_rankOf 212 = .ok (.ireturn, 1) := by decide +kernel
theorem d_Reckoner_rankOf_213 : decode b_Reckoner_rankOf 213 = .ok (.iconst (-1), 1) := by decide +kernel
theorem d_Reckoner_rankOf_214 : decode b_Reckoner_rankOf 214 = .ok (.ireturn, 1) := by decide +kernel
theorem d_Reckoner_reckon_0 : decode b_Reckoner_reckon 0 = .ok (.aload_n 0, 1) := by decide +kernel
theorem d_Reckoner_reckon_1 : decode b_Reckoner_reckon 1 = .ok (.dup, 1) := by decide +kernel
theorem d_Reckoner_reckon_2 : decode b_Reckoner_reckon 2 = .ok (.getfield 31, 3) := by decide +kernel
theorem d_Reckoner_reckon_5 : decode b_Reckoner_reckon 5 = .ok (.iconst 1, 1) := by decide +kernel
theorem d_Reckoner_reckon_6 : decode b_Reckoner_reckon 6 = .ok (.isub, 1) := by decide +kernel
theorem d_Reckoner_reckon_7 : decode b_Reckoner_reckon 7 = .ok (.putfield 31, 3) := by decide +kernel
theorem d_Reckoner_reckon_10 : decode b_Reckoner_reckon 10 = .ok (.aload_n 0, 1) := by decide +kernel
theorem d_Reckoner_reckon_11 : decode b_Reckoner_reckon 11 = .ok (.getfield 31, 3) := by decide +kernel
theorem d_Reckoner_reckon_14 : decode b_Reckoner_reckon 14 = .ok (.iconst 1, 1) := by decide +kernel
theorem d_Reckoner_reckon_15 : decode b_Reckoner_reckon 15 = .ok (.isub, 1) := by decide +kernel
theorem d_Reckoner_reckon_16 : decode b_Reckoner_reckon 16 = .ok (.istore_n 2, 1) := by decide +kernel
theorem d_Reckoner_reckon_17 : decode b_Reckoner_reckon 17 = .ok (.aload_n 0, 1) := by decide +kernel
theorem d_Reckoner_reckon_18 : decode b_Reckoner_reckon 18 = .ok (.getfield 9, 3) := by decide +kernel
theorem d_Reckoner_reckon_21 : decode b_Reckoner_reckon 21 = .ok (.iload_n 2, 1) := by decide +kernel
theorem d_Reckoner_reckon_22 : decode b_Reckoner_reckon 22 = .ok (.laload, 1) := by decide +kernel
theorem d_Reckoner_reckon_23 : decode b_Reckoner_reckon 23 = .ok (.lstore_n 3, 1) := by decide +kernel
theorem d_Reckoner_reckon_24 : decode b_Reckoner_reckon 24 = .ok (.aload_n 0, 1) := by decide +kernel
theorem d_Reckoner_reckon_25 : decode b_Reckoner_reckon 25 = .ok (.getfield 9, 3) := by decide +kernel
theorem d_Reckoner_reckon_28 : decode b_Reckoner_reckon 28 = .ok (.iload_n 2, 1) := by decide +kernel
theorem d_Reckoner_reckon_29 : decode b_Reckoner_reckon 29 = .ok (.iconst 1, 1) := by decide +kernel
theorem d_Reckoner_reckon_30 : decode b_Reckoner_reckon 30 = .ok (.iadd, 1) := by decide +kernel
theorem d_Reckoner_reckon_31 : decode b_Reckoner_reckon 31 = .ok (.laload, 1) := by decide +kernel
theorem d_Reckoner_reckon_32 : decode b_Reckoner_reckon 32 = .ok (.lstore 5, 2) := by decide +kernel
theorem d_Reckoner_reckon_34 : decode b_Reckoner_reckon 34 = .ok (.iload_n 1, 1) := by decide +kernel
theorem d_Reckoner_reckon_35 : decode b_Reckoner_reckon 35 = .ok (.sipush 15420, 3) := by decide +kernel
theorem d_Reckoner_reckon_38 : decode b_Reckoner_reckon 38 = .ok (.if_icmp .eq 10, 3) := by decide +kernel
theorem d_Reckoner_reckon_41 : decode b_Reckoner_reckon 41 = .ok (.iload_n 1, 1) := by decide +kernel
theorem d_Reckoner_reckon_42 : decode b_Reckoner_reckon 42 = .ok (.sipush 15934, 3) := by decide +kernel
theorem d_Reckoner_reckon_45 : decode b_Reckoner_reckon 45 = .ok (.if_icmp .ne 7, 3) := by decide +kernel
theorem d_Reckoner_reckon_48 : decode b_Reckoner_reckon 48 = .ok (.iconst 1, 1) := by decide +kernel
theorem d_Reckoner_reckon_49 : decode b_Reckoner_reckon 49 = .ok (.goto 4, 3) := by decide +kernel
theorem d_Reckoner_reckon_52 : decode b_Reckoner_reckon 52 = .ok (.iconst 0, 1) := by decide +kernel
theorem d_Reckoner_reckon_53 : decode b_Reckoner_reckon 53 = .ok (.istore 7, 2) := by decide +kernel
theorem d_Reckoner_reckon_55 : decode b_Reckoner_reckon 55 = .ok (.aload_n 0, 1) := by decide +kernel
theorem d_Reckoner_reckon_56 : decode b_Reckoner_reckon 56 = .ok (.getfield 13, 3) := by decide +kernel
theorem d_Reckoner_reckon_59 : decode b_Reckoner_reckon 59 = .ok (.iload_n 2, 1) := by decide +kernel
theorem d_Reckoner_reckon_60 : decode b_Reckoner_reckon 60 = .ok (.baload, 1) := by decide +kernel
theorem d_Reckoner_reckon_61 : decode b_Reckoner_reckon 61 = .ok (.ifCond .ne 19, 3) := by decide +kernel
theorem d_Reckoner_reckon_64 : decode b_Reckoner_reckon 64 = .ok (.iload 7, 2) := by decide +kernel
theorem d_Reckoner_reckon_66 : decode b_Reckoner_reckon 66 = .ok (.ifCond .ne 18, 3) := by decide +kernel
theorem d_Reckoner_reckon_69 : decode b_Reckoner_reckon 69 = .ok (.aload_n 0, 1) := by decide +kernel
theorem d_Reckoner_reckon_70 : decode b_Reckoner_reckon 70 = .ok (.getfield 13, 3) := by decide +kernel
theorem d_Reckoner_reckon_73 : decode b_Reckoner_reckon 73 = .ok (.iload_n 2, 1) := by decide +kernel
theorem d_Reckoner_reckon_74 : decode b_Reckoner_reckon 74 = .ok (.iconst 1, 1) := by decide +kernel
theorem d_Reckoner_reckon_75 : decode b_Reckoner_reckon 75 = .ok (.iadd, 1) := by decide +kernel
theorem d_Reckoner_reckon_76 : decode b_Reckoner_reckon 76 = .ok (.baload, 1) := by decide +kernel
theorem d_Reckoner_reckon_77 : decode b_Reckoner_reckon 77 = .ok (.ifCond .eq 7, 3) := by decide +kernel
theorem d_Reckoner_reckon_80 : decode b_Reckoner_reckon 80 = .ok (.iconst 1, 1) := by decide +kernel
theorem d_Reckoner_reckon_81 : decode b_Reckoner_reckon 81 = .ok (.goto 4, 3) := by decide +kernel
theorem d_Reckoner_reckon_84 : decode b_Reckoner_reckon 84 = .ok (.iconst 0, 1) := by decide +kernel
theorem d_Reckoner_reckon_85 : decode b_Reckoner_reckon 85 = .ok (.istore 8, 2) := by decide +kernel
theorem d_Reckoner_reckon_87 : decode b_Reckoner_reckon 87 = .ok (.lload 5, 2) := by decide +kernel
theorem d_Reckoner_reckon_89 : decode b_Reckoner_reckon 89 = .ok (.l2i, 1) := by decide +kernel
theorem d_Reckoner_reckon_90 : decode b_Reckoner_reckon 90 = .ok (.aload_n 0, 1) := by decide +kernel
theorem d_Reckoner_reckon_91 : decode b_Reckoner_reckon 91 = .ok (.getfield 27, 3) := by decide +kernel
theorem d_Reckoner_reckon_94 : decode b_Reckoner_reckon 94 = .ok (.ifCond .eq 8, 3) := by decide +kernel
theorem d_Reckoner_reckon_97 : decode b_Reckoner_reckon 97 = .ok (.bipush 63, 2) := by decide +kernel
theorem d_Reckoner_reckon_99 : decode b_Reckoner_reckon 99 = .ok (.goto 5, 3) := by decide +kernel
theorem d_Reckoner_reckon_102 : decode b_Reckoner_reckon 102 = .ok (.bipush 31, 2) := by decide +kernel
theorem d_Reckoner_reckon_104 : decode b_Reckoner_reckon 104 = .ok (.iand, 1) := by decide +kernel
theorem d_Reckoner_reckon_105 : decode b_Reckoner_reckon 105 = .ok (.istore 9, 2) := by decide +kernel
theorem d_Reckoner_reckon_107 : decode b_Reckoner_reckon 107 = .ok (.iload_n 1, 1) := by decide +kernel
theorem d_Reckoner_reckon_108 : decode b_Reckoner_reckon 108 = .ok (.lookupswitch 160 #[(38, 94), (42, 151), (43, 133), (45, 142), (94, 85), (124, 76), (15420, 103), (15934, 112)], 76) := by decide +kernel
theorem d_Reckoner_reckon_184 : decode b_Reckoner_reckon 184 = .ok (.lload_n 3, 1) := by decide +kernel
theorem d_Reckoner_reckon_185 : decode b_Reckoner_reckon 185 = .ok (.lload 5, 2) := by decide +kernel
theorem d_Reckoner_reckon_187 : decode b_Reckoner_reckon 187 = .ok (.lor, 1) := by decide +kernel
theorem d_Reckoner_reckon_188 : decode b_Reckoner_reckon 188 = .ok (.lstore 10, 2) := by decide +kernel
theorem d_Reckoner_reckon_190 : decode b_Reckoner_reckon 190 = .ok (.goto 100, 3) := by decide +kernel
theorem d_Reckoner_reckon_193 : decode b_Reckoner_reckon 193 = .ok (.lload_n 3, 1) := by decide +kernel
theorem d_Reckoner_reckon_194 : decode b_Reckoner_reckon 194 = .ok (.lload 5, 2) := by decide +kernel
theorem d_Reckoner_reckon_196 : decode b_Reckoner_reckon 196 = .ok (.lxor, 1) := by decide +kernel
theorem d_Reckoner_reckon_197 : decode b_Reckoner_reckon 197 = .ok (.lstore 10, 2) := by decide +kernel
theorem d_Reckoner_reckon_199 : decode b_Reckoner_reckon 199 = .ok (.goto 91, 3) := by decide +kernel
theorem d_Reckoner_reckon_202 : decode b_Reckoner_reckon 202 = .ok (.lload_n 3, 1) := by decide +kernel
theorem d_Reckoner_reckon_203 : decode b_Reckoner_reckon 203 = .ok (.lload 5, 2) := by decide +kernel
theorem d_Reckoner_reckon_205 : decode b_Reckoner_reckon 205 = .ok (.land, 1) := by decide +kernel
theorem d_Reckoner_reckon_206 : decode b_Reckoner_reckon 206 = .ok (.lstore 10, 2) := by decide +kernel
theorem d_Reckoner_reckon_208 : decode b_Reckoner_reckon 208 = .ok (.goto 82, 3) := by decide +kernel
theorem d_Reckoner_reckon_211 : decode b_Reckoner_reckon 211 = .ok (.lload_n 3, 1) := by decide +kernel
theorem d_Reckoner_reckon_212 : decode b_Reckoner_reckon 212 = .ok (.iload 9, 2) := by decide +kernel
theorem d_Reckoner_reckon_214 : decode b_Reckoner_reckon 214 = .ok (.lshl, 1) := by decide +kernel
theorem d_Reckoner_reckon_215 : decode b_Reckoner_reckon 215 = .ok (.lstore 10, 2) := by decide +kernel
theorem d_Reckoner_reckon_217 : decode b_Reckoner_reckon 217 = .ok (.goto 73, 3) := by decide +kernel
theorem d_Reckoner_reckon_220 : decode b_Reckoner_reckon 220 = .ok (.iload 8, 2) := by decide +kernel
theorem d_Reckoner_reckon_222 : decode b_Reckoner_reckon 222 = .ok (.ifCond .eq 10, 3) := by decide +kernel
theorem d_Reckoner_reckon_225 : decode b_Reckoner_reckon 225 = .ok (.lload_n 3, 1) := by decide +kernel
theorem d_Reckoner_reckon_226 : decode b_Reckoner_reckon 226 = .ok (.iload 9, 2) := by decide +kernel
theorem d_Reckoner_reckon_228 : decode b_Reckoner_reckon 228 = .ok (.lushr, 1) := by decide +kernel
theorem d_Reckoner_reckon_229 : decode b_Reckoner_reckon 229 = .ok (.goto 7, 3) := by decide +kernel
theorem d_Reckoner_reckon_232 : decode b_Reckoner_reckon 232 = .ok (.lload_n 3, 1) := by decide +kernel
theorem d_Reckoner_reckon_233 : decode b_Reckoner_reckon 233 = .ok (.iload 9, 2) := by decide +kernel
theorem d_Reckoner_reckon_235 : decode b_Reckoner_reckon 235 = .ok (.lshr, 1) := by decide +kernel
theorem d_Reckoner_reckon_236 : decode b_Reckoner_reckon 236 = .ok (.lstore 10, 2) := by decide +kernel
theorem d_Reckoner_reckon_238 : decode b_Reckoner_reckon 238 = .ok (.goto 52, 3) := by decide +kernel
theorem d_Reckoner_reckon_241 : decode b_Reckoner_reckon 241 = .ok (.lload_n 3, 1) := by decide +kernel
theorem d_Reckoner_reckon_242 : decode b_Reckoner_reckon 242 = .ok (.lload 5, 2) := by decide +kernel
theorem d_Reckoner_reckon_244 : decode b_Reckoner_reckon 244 = .ok (.ladd, 1) := by decide +kernel
theorem d_Reckoner_reckon_245 : decode b_Reckoner_reckon 245 = .ok (.lstore 10, 2) := by decide +kernel
theorem d_Reckoner_reckon_247 : decode b_Reckoner_reckon 247 = .ok (.goto 43, 3) := by decide +kernel
theorem d_Reckoner_reckon_250 : decode b_Reckoner_reckon 250 = .ok (.lload_n 3, 1) := by decide +kernel
theorem d_Reckoner_reckon_251 : decode b_Reckoner_reckon 251 = .ok (.lload 5, 2) := by decide +kernel
theorem d_Reckoner_reckon_253 : decode b_Reckoner_reckon 253 = .ok (.lsub, 1) := by decide +kernel
theorem d_Reckoner_reckon_254 : decode b_Reckoner_reckon 254 = .ok (.lstore 10, 2) := by decide +kernel
theorem d_Reckoner_reckon_256 : decode b_Reckoner_reckon 256 = .ok (.goto 34, 3) := by decide +kernel
theorem d_Reckoner_reckon_259 : decode b_Reckoner_reckon 259 = .ok (.lload_n 3, 1) := by decide +kernel
theorem d_Reckoner_reckon_260 : decode b_Reckoner_reckon 260 = .ok (.lload 5, 2) := by decide +kernel
theorem d_Reckoner_reckon_262 : decode b_Reckoner_reckon 262 = .ok (.lmul, 1) := by decide +kernel
theorem d_Reckoner_reckon_263 : decode b_Reckoner_reckon 263 = .ok (.lstore 10, 2) := by decide +kernel
theorem d_Reckoner_reckon_265 : decode b_Reckoner_reckon 265 = .ok (.goto 25, 3) := by decide +kernel
theorem d_Reckoner_reckon_268 : decode b_Reckoner_reckon 268 = .ok (.aload_n 0, 1) := by decide +kernel
theorem d_Reckoner_reckon_269 : decode b_Reckoner_reckon 269 = .ok (.lload_n 3, 1) := by decide +kernel
theorem d_Reckoner_reckon_270 : decode b_Reckoner_reckon 270 = .ok (.lload 5, 2) := by decide +kernel
theorem d_Reckoner_reckon_272 : decode b_Reckoner_reckon 272 = .ok (.iload 8, 2) := by decide +kernel
theorem d_Reckoner_reckon_274 : decode b_Reckoner_reckon 274 = .ok (.iload_n 1, 1) := by decide +kernel
theorem d_Reckoner_reckon_275 : decode b_Reckoner_reckon 275 = .ok (.bipush 37, 2) := by decide +kernel
theorem d_Reckoner_reckon_277 : decode b_Reckoner_reckon 277 = .ok (.if_icmp .ne 7, 3) := by decide +kernel
theorem d_Reckoner_reckon_280 : decode b_Reckoner_reckon 280 = .ok (.iconst 1, 1) := by decide +kernel
theorem d_Reckoner_reckon_281 : decode b_Reckoner_reckon 281 = .ok (.goto 4, 3) := by decide +kernel
theorem d_Reckoner_reckon_284 : decode b_Reckoner_reckon 284 = .ok (.iconst 0, 1) := by decide +kernel
theorem d_Reckoner_reckon_285 : decode b_Reckoner_reckon 285 = .ok (.invokevirtual 108, 3) := by decide +kernel
theorem d_Reckoner_reckon_288 : decode b_Reckoner_reckon 288 = .ok (.lstore 10, 2) := by decide +kernel
theorem d_Reckoner_reckon_290 : decode b_Reckoner_reckon 290 = .ok (.aload_n 0, 1) := by decide +kernel
theorem d_Reckoner_reckon_291 : decode b_Reckoner_reckon 291 = .ok (.getfield 9, 3) := by decide +kernel
theorem d_Reckoner_reckon_294 : decode b_Reckoner_reckon 294 = .ok (.iload_n 2, 1) := by decide +kernel
theorem d_Reckoner_reckon_295 : decode b_Reckoner_reckon 295 = .ok (.aload_n 0, 1) := by decide +kernel
theorem d_Reckoner_reckon_296 : decode b_Reckoner_reckon 296 = .ok (.getfield 27, 3) := by decide +kernel
theorem d_Reckoner_reckon_299 : decode b_Reckoner_reckon 299 = .ok (.ifCond .eq 8, 3) := by decide +kernel
theorem d_Reckoner_reckon_302 : decode b_Reckoner_reckon 302 = .ok (.lload 10, 2) := by decide +kernel
theorem d_Reckoner_reckon_304 : decode b_Reckoner_reckon 304 = .ok (.goto 7, 3) := by decide +kernel
theorem d_Reckoner_reckon_307 : decode b_Reckoner_reckon 307 = .ok (.lload 10, 2) := by decide +kernel
theorem d_Reckoner_reckon_309 : decode b_Reckoner_reckon 309 = .ok (.l2i, 1) := by decide +kernel
theorem d_Reckoner_reckon_310 : decode b_Reckoner_reckon 310 = .ok (.i2l, 1) := by decide +kernel
theorem d_Reckoner_reckon_311 : decode b_Reckoner_reckon 311 = .ok (.lastore, 1) := by decide +kernel
theorem d_Reckoner_reckon_312 : decode b_Reckoner_reckon 312 = .ok (.aload_n 0, 1) := by decide +kernel
theorem d_Reckoner_reckon_313 : decode b_Reckoner_reckon 313 = .ok (.getfield 13, 3) := by decide +kernel
theorem d_Reckoner_reckon_316 : decode b_Reckoner_reckon 316 = .ok (.iload_n 2, 1) := by decide +kernel
theorem d_Reckoner_reckon_317 : decode b_Reckoner_reckon 317 = .ok (.iload 8, 2) := by decide +kernel
theorem d_Reckoner_reckon_319 : decode b_Reckoner_reckon 319 = .ok (.bastore, 1) := by decide +kernel
theorem d_Reckoner_reckon_320 : decode b_Reckoner_reckon 320 = .ok (.return_, 1) := by decide +kernel
theorem d_Reckoner_spoil_0 : decode b_Reckoner_spoil 0 = .ok (.aload_n 0, 1) := by decide +kernel
theorem d_Reckoner_spoil_1 : decode b_Reckoner_spoil 1 = .ok (.iconst 1, 1) := by decide +kernel
theorem d_Reckoner_spoil_2 : decode b_Reckoner_spoil 2 = .ok (.putfield 47, 3) := by decide +kernel
theorem d_Reckoner_spoil_5 : decode b_Reckoner_spoil 5 = .ok (.return_, 1) := by decide +kernel
theorem d_Reckoner_takeColon_0 : decode b_Reckoner_takeColon 0 = .ok (.aload_n 0, 1) := by decide +kernel
theorem d_Reckoner_takeColon_1 : decode b_Reckoner_takeColon 1 = .ok (.iconst 1, 1) := by decide +kernel
theorem d_Reckoner_takeColon_2 : decode b_Reckoner_takeColon 2 = .ok (.invokevirtual 86, 3) := by decide +kernel
theorem d_Reckoner_takeColon_5 : decode b_Reckoner_takeColon 5 = .ok (.ifCond .ne 9, 3) := by decide +kernel
theorem d_Reckoner_takeColon_8 : decode b_Reckoner_takeColon 8 = .ok (.aload_n 0, 1) := by decide +kernel
theorem d_Reckoner_takeColon_9 : decode b_Reckoner_takeColon 9 = .ok (.iconst 1, 1) := by decide +kernel
theorem d_Reckoner_takeColon_10 : decode b_Reckoner_takeColon 10 = .ok (.putfield 47, 3) := by decide +kernel
theorem d_Reckoner_takeColon_13 : decode b_Reckoner_takeColon 13 = .ok (.return_, 1) := by decide +kernel
theorem d_Reckoner_takeColon_14 : decode b_Reckoner_takeColon 14 = .ok (.aload_n 0, 1) := by decide +kernel
theorem d_Reckoner_takeColon_15 : decode b_Reckoner_takeColon 15 = .ok (.getfield 21, 3) := by decide +kernel
theorem d_Reckoner_takeColon_18 : decode b_Reckoner_takeColon 18 = .ok (.aload_n 0, 1) := by decide +kernel
theorem d_Reckoner_takeColon_19 : decode b_Reckoner_takeColon 19 = .ok (.getfield 35, 3) := by decide +kernel
theorem d_Reckoner_takeColon_22 : decode b_Reckoner_takeColon 22 = .ok (.iconst 1, 1) := by decide +kernel
theorem d_Reckoner_takeColon_23 : decode b_Reckoner_takeColon 23 = .ok (.isub, 1) := by decide +kernel
theorem d_Reckoner_takeColon_24 : decode b_Reckoner_takeColon 24 = .ok (.iconst 2, 1) := by decide +kernel
theorem d_Reckoner_takeColon_25 : decode b_Reckoner_takeColon 25 = .ok (.iastore, 1) := by decide +kernel
theorem d_Reckoner_takeColon_26 : decode b_Reckoner_takeColon 26 = .ok (.aload_n 0, 1) := by decide +kernel
theorem d_Reckoner_takeColon_27 : decode b_Reckoner_takeColon 27 = .ok (.aload_n 0, 1) := by decide +kernel
theorem d_Reckoner_takeColon_28 : decode b_Reckoner_takeColon 28 = .ok (.getfield 24, 3) := by decide +kernel
theorem d_Reckoner_takeColon_31 : decode b_Reckoner_takeColon 31 = .ok (.aload_n 0, 1) := by decide +kernel
theorem d_Reckoner_takeColon_32 : decode b_Reckoner_takeColon 32 = .ok (.getfield 35, 3) := by decide +kernel
theorem d_Reckoner_takeColon_35 : decode b_Reckoner_takeColon 35 = .ok (.iconst 1, 1) := by decide +kernel
theorem d_Reckoner_takeColon_36 : decode b_Reckoner_takeColon 36 = .ok (.isub, 1) := by decide +kernel
theorem d_Reckoner_takeColon_37 : decode b_Reckoner_takeColon 37 = .ok (.baload, 1) := by decide +kernel
theorem d_Reckoner_takeColon_38 : decode b_Reckoner_takeColon 38 = .ok (.ifCond .ne 19, 3) := by decide +kernel
theorem d_Reckoner_takeColon_41 : decode b_Reckoner_takeColon 41 = .ok (.aload_n 0, 1) := by decide +kernel
theorem d_Reckoner_takeColon_42 : decode b_Reckoner_takeColon 42 = .ok (.getfield 9, 3) := by decide +kernel
theorem d_Reckoner_takeColon_45 : decode b_Reckoner_takeColon 45 = .ok (.aload_n 0, 1) := by decide +kernel
theorem d_Reckoner_takeColon_46 : decode b_Reckoner_takeColon 46 = .ok (.getfield 31, 3) := by decide +kernel
theorem d_Reckoner_takeColon_49 : decode b_Reckoner_takeColon 49 = .ok (.iconst 2, 1) := by decide +kernel
theorem d_Reckoner_takeColon_50 : decode b_Reckoner_takeColon 50 = .ok (.isub, 1) := by decide +kernel
theorem d_Reckoner_takeColon_51 : decode b_Reckoner_takeColon 51 = .ok (.laload, 1) := by decide +kernel
theorem d_Reckoner_takeColon_52 : decode b_Reckoner_takeColon 52 = .ok (.lconst 0, 1) := by decide +kernel
theorem d_Reckoner_takeColon_53 : decode b_Reckoner_takeColon 53 = .ok (.lcmp, 1) := by decide +kernel
theorem d_Reckoner_takeColon_54 : decode b_Reckoner_takeColon 54 = .ok (.ifCond .eq 7, 3) := by decide +kernel
theorem d_Reckoner_takeColon_57 : decode b_Reckoner_takeColon 57 = .ok (.iconst 1, 1) := by decide +kernel
theorem d_Reckoner_takeColon_58 : decode b_Reckoner_takeColon 58 = .ok (.goto 4, 3) := by decide +kernel
theorem d_Reckoner_takeColon_61 : decode b_Reckoner_takeColon 61 = .ok (.iconst 0, 1) := by decide +kernel
theorem d_Reckoner_takeColon_62 : decode b_Reckoner_takeColon 62 = .ok (.putfield 44, 3) := by decide +kernel
theorem d_Reckoner_takeColon_65 : decode b_Reckoner_takeColon 65 = .ok (.aload_n 0, 1) := by decide +kernel
theorem d_Reckoner_takeColon_66 : decode b_Reckoner_takeColon 66 = .ok (.iconst 1, 1) := by decide +kernel
theorem d_Reckoner_takeColon_67 : decode b_Reckoner_takeColon 67 = .ok (.putfield 41, 3) := by decide +kernel
theorem d_Reckoner_takeColon_70 : decode b_Reckoner_takeColon 70 = .ok (.return_, 1) := by decide +kernel
theorem d_Reckoner_takeNumber_0 : decode b_Reckoner_takeNumber 0 = .ok (.aload_n 0, 1) := by decide +kernel
theorem d_Reckoner_takeNumber_1 : decode b_Reckoner_takeNumber 1 = .ok (.getfield 41, 3) := by decide +kernel
theorem d_Reckoner_takeNumber_4 : decode b_Reckoner_takeNumber 4 = .ok (.ifCond .eq 13, 3) := by decide +kernel
theorem d_Reckoner_takeNumber_7 : decode b_Reckoner_takeNumber 7 = .ok (.aload_n 0, 1) := by decide +kernel
theorem d_Reckoner_takeNumber_8 : decode b_Reckoner_takeNumber 8 = .ok (.getfield 31, 3) := by decide +kernel
theorem d_Reckoner_takeNumber_11 : decode b_Reckoner_takeNumber 11 = .ok (.sipush 1000, 3) := by decide +kernel
theorem d_Reckoner_takeNumber_14 : decode b_Reckoner_takeNumber 14 = .ok (.if_icmp .lt 8, 3) := by decide +kernel
theorem d_Reckoner_takeNumber_17 : decode b_Reckoner_takeNumber 17 = .ok (.aload_n 0, 1) := by decide +kernel
theorem d_Reckoner_takeNumber_18 : decode b_Reckoner_takeNumber 18 = .ok (.iconst 1, 1) := by decide +kernel
theorem d_Reckoner_takeNumber_19 : decode b_Reckoner_takeNumber 19 = .ok (.putfield 47, 3) := by decide +kernel
theorem d_Reckoner_takeNumber_22 : decode b_Reckoner_takeNumber 22 = .ok (.aload_n 0, 1) := by decide +kernel
theorem d_Reckoner_takeNumber_23 : decode b_Reckoner_takeNumber 23 = .ok (.getfield 47, 3) := by decide +kernel
theorem d_Reckoner_takeNumber_26 : decode b_Reckoner_takeNumber 26 = .ok (.ifCond .eq 4, 3) := by decide +kernel
theorem d_Reckoner_takeNumber_29 : decode b_Reckoner_takeNumber 29 = .ok (.return_, 1) := by decide +kernel
theorem d_Reckoner_takeNumber_30 : decode b_Reckoner_takeNumber 30 = .ok (.aload_n 0, 1) := by decide +kernel
theorem d_Reckoner_takeNumber_31 : decode b_Reckoner_takeNumber 31 = .ok (.getfield 9, 3) := by decide +kernel
theorem d_Reckoner_takeNumber_34 : decode b_Reckoner_takeNumber 34 = .ok (.aload_n 0, 1) := by decide +kernel
theorem d_Reckoner_takeNumber_35 : decode b_Reckoner_takeNumber 35 = .ok (.getfield 31, 3) := by decide +kernel
theorem d_Reckoner_takeNumber_38 : decode b_Reckoner_takeNumber 38 = .ok (.lload_n 1, 1) := by decide +kernel
theorem d_Reckoner_takeNumber_39 : decode b_Reckoner_takeNumber 39 = .ok (.lastore, 1) := by decide +kernel
theorem d_Reckoner_takeNumber_40 : decode b_Reckoner_takeNumber 40 = .ok (.aload_n 0, 1) := by decide +kernel
theorem d_Reckoner_takeNumber_41 : decode b_Reckoner_takeNumber 41 = .ok (.getfield 13, 3) := by decide +kernel
theorem d_Reckoner_takeNumber_44 : decode b_Reckoner_takeNumber 44 = .ok (.aload_n 0, 1) := by decide +kernel
theorem d_Reckoner_takeNumber_45 : decode b_Reckoner_takeNumber 45 = .ok (.getfield 31, 3) := by decide +kernel
theorem d_Reckoner_takeNumber_48 : decode b_Reckoner_takeNumber 48 = .ok (.iload_n 3, 1) := by decide +kernel
theorem d_Reckoner_takeNumber_49 : decode b_Reckoner_takeNumber 49 = .ok (.bastore, 1) := by decide +kernel
theorem d_Reckoner_takeNumber_50 : decode b_Reckoner_takeNumber 50 = .ok (.aload_n 0, 1) := by decide +kernel
theorem d_Reckoner_takeNumber_51 : decode b_Reckoner_takeNumber 51 = .ok (.dup, 1) := by decide +kernel
theorem d_Reckoner_takeNumber_52 : decode b_Reckoner_takeNumber 52 = .ok (.getfield 31, 3) := by decide +kernel
theorem d_Reckoner_takeNumber_55 : decode b_Reckoner_takeNumber 55 = .ok (.iconst 1, 1) := by decide +kernel
theorem d_Reckoner_takeNumber_56 : decode b_Reckoner_takeNumber 56 = .ok (.iadd, 1) := by decide +kernel
theorem d_Reckoner_takeNumber_57 : decode b_Reckoner_takeNumber 57 = .ok (.putfield 31, 3) := by decide +kernel
theorem d_Reckoner_takeNumber_60 : decode b_Reckoner_takeNumber 60 = .ok (.aload_n 0, 1) := by decide +kernel
theorem d_Reckoner_takeNumber_61 : decode b_Reckoner_takeNumber 61 = .ok (.invokevirtual 53, 3) := by decide +kernel
theorem d_Reckoner_takeNumber_64 : decode b_Reckoner_takeNumber 64 = .ok (.return_, 1) := by decide +kernel
theorem d_Reckoner_takeSignInFront_0 : decode b_Reckoner_takeSignInFront 0 = .ok (.iload_n 1, 1) := by decide +kernel
theorem d_Reckoner_takeSignInFront_1 : decode b_Reckoner_takeSignInFront 1 = .ok (.bipush 40, 2) := by decide +kernel
theorem d_Reckoner_takeSignInFront_3 : decode b_Reckoner_takeSignInFront 3 = .ok (.if_icmp .ne 12, 3) := by decide +kernel
theorem d_Reckoner_takeSignInFront_6 : decode b_Reckoner_takeSignInFront 6 = .ok (.aload_n 0, 1) := by decide +kernel
theorem d_Reckoner_takeSignInFront_7 : decode b_Reckoner_takeSignInFront 7 = .ok (.iload_n 1, 1) := by decide +kernel
theorem d_Reckoner_takeSignInFront_8 : decode b_Reckoner_takeSignInFront 8 = .ok (.iconst 0, 1) := by decide +kernel
theorem d_Reckoner_takeSignInFront_9 : decode b_Reckoner_takeSignInFront 9 = .ok (.invokevirtual 79, 3) := by decide +kernel
theorem d_Reckoner_takeSignInFront_12 : decode b_Reckoner_takeSignInFront 12 = .ok (.goto 42, 3) := by decide +kernel
theorem d_Reckoner_takeSignInFront_15 : decode b_Reckoner_takeSignInFront 15 = .ok (.iload_n 1, 1) := by decide +kernel
theorem d_Reckoner_takeSignInFront_16 : decode b_Reckoner_takeSignInFront 16 = .ok (.bipush 43, 2) := by decide +kernel
theorem d_Reckoner_takeSignInFront_18 : decode b_Reckoner_takeSignInFront 18 = .ok (.if_icmp .eq 21, 3) := by decide +kernel
theorem d_Reckoner_takeSignInFront_21 : decode b_Reckoner_takeSignInFront 21 = .ok (.iload_n 1, 1) := by decide +kernel
theorem d_Reckoner_takeSignInFront_22 : decode b_Reckoner_takeSignInFront 22 = .ok (.bipush 45, 2) := by decide +kernel
theorem d_Reckoner_takeSignInFront_24 : decode b_Reckoner_takeSignInFront 24 = .ok (.if_icmp .eq 15, 3) := by decide +kernel
theorem d_Reckoner_takeSignInFront_27 : decode b_Reckoner_takeSignInFront 27 = .ok (.iload_n 1, 1) := by decide +kernel
theorem d_Reckoner_takeSignInFront_28 : decode b_Reckoner_takeSignInFront 28 = .ok (.bipush 126, 2) := by decide +kernel
theorem d_Reckoner_takeSignInFront_30 : decode b_Reckoner_takeSignInFront 30 = .ok (.if_icmp .eq 9, 3) := by decide +kernel
theorem d_Reckoner_takeSignInFront_33 : decode b_Reckoner_takeSignInFront 33 = .ok (.iload_n 1, 1) := by decide +kernel
theorem d_Reckoner_takeSignInFront_34 : decode b_Reckoner_takeSignInFront 34 = .ok (.bipush 33, 2) := by decide +kernel
theorem d_Reckoner_takeSignInFront_36 : decode b_Reckoner_takeSignInFront 36 = .ok (.if_icmp .ne 13, 3) := by decide +kernel
theorem d_Reckoner_takeSignInFront_39 : decode b_Reckoner_takeSignInFront 39 = .ok (.aload_n 0, 1) := by decide +kernel
theorem d_Reckoner_takeSignInFront_40 : decode b_Reckoner_takeSignInFront 40 = .ok (.iload_n 1, 1) := by decide +kernel
theorem d_Reckoner_takeSignInFront_41 : decode b_Reckoner_takeSignInFront 41 = .ok (.bipush 20, 2) := by decide +kernel
theorem d_Reckoner_takeSignInFront_43 : decode b_Reckoner_takeSignInFront 43 = .ok (.invokevirtual 79, 3) := by decide +kernel
theorem d_Reckoner_takeSignInFront_46 : decode b_Reckoner_takeSignInFront 46 = .ok (.goto 8, 3) := by decide +kernel
theorem d_Reckoner_takeSignInFront_49 : decode b_Reckoner_takeSignInFront 49 = .ok (.aload_n 0, 1) := by decide +kernel
theorem d_Reckoner_takeSignInFront_50 : decode b_Reckoner_takeSignInFront 50 = .ok (.iconst 1, 1) := by decide +kernel
theorem d_Reckoner_takeSignInFront_51 : decode b_Reckoner_takeSignInFront 51 = .ok (.putfield 47, 3) := by decide +kernel
theorem d_Reckoner_takeSignInFront_54 : decode b_Reckoner_takeSignInFront 54 = .ok (.return_, 1) := by decide +kernel
theorem d_Reckoner_value_0 : decode b_Reckoner_value 0 = .ok (.aload_n 0, 1) := by decide +kernel
theorem d_Reckoner_value_1 : decode b_Reckoner_value 1 = .ok (.getfield 31, 3) := by decide +kernel
theorem d_Reckoner_value_4 : decode b_Reckoner_value 4 = .ok (.iconst 1, 1) := by decide +kernel
theorem d_Reckoner_value_5 : decode b_Reckoner_value 5 = .ok (.if_icmp .ne 12, 3) := by decide +kernel
theorem d_Reckoner_value_8 : decode b_Reckoner_value 8 = .ok (.aload_n 0, 1) := by decide +kernel
theorem d_Reckoner_value_9 : decode b_Reckoner_value 9 = .ok (.getfield 9, 3) := by decide +kernel
theorem d_Reckoner_value_12 : decode b_Reckoner_value 12 = .ok (.iconst 0, 1) := by decide +kernel
theorem d_Reckoner_value_13 : decode b_Reckoner_value 13 = .ok (.laload, 1) := by decide +kernel
theorem d_Reckoner_value_14 : decode b_Reckoner_value 14 = .ok (.goto 4, 3) := by decide +kernel
theorem d_Reckoner_value_17 : decode b_Reckoner_value 17 = .ok (.lconst 0, 1) := by decide +kernel
theorem d_Reckoner_value_18 : decode b_Reckoner_value 18 = .ok (.lreturn, 1) := by decide +kernel
theorem d_Replacer_append_0 : decode b_Replacer_append 0 = .ok (.aload_n 0, 1) := by decide +kernel
theorem d_Replacer_append_1 : decode b_Replacer_append 1 = .ok (.getfield 44, 3) := by decide +kernel
theorem d_Replacer_append_4 : decode b_Replacer_append 4 = .ok (.lload_n 2, 1) := by decide +kernel
theorem d_Replacer_append_5 : decode b_Replacer_append 5 = .ok (.iload 4, 2) := by decide +kernel
theorem d_Replacer_append_7 : decode b_Replacer_append 7 = .ok (.invokevirtual 238, 3) := by decide +kernel
theorem d_Replacer_append_10 : decode b_Replacer_append 10 = .ok (.istore 5, 2) := by decide +kernel
theorem d_Replacer_append_12 : decode b_Replacer_append 12 = .ok (.iload 5, 2) := by decide +kernel
theorem d_Replacer_append_14 : decode b_Replacer_append 14 = .ok (.ifCond .ge 18, 3) := by decide +kernel
theorem d_Replacer_append_17 : decode b_Replacer_append 17 = .ok (.aload_n 0, 1) := by decide +kernel
theorem d_Replacer_append_18 : decode b_Replacer_append 18 = .ok (.getfield 56, 3) := by decide +kernel
theorem d_Replacer_append_21 : decode b_Replacer_append 21 = .ok (.bipush 21, 2) := by decide +kernel
theorem d_Replacer_append_23 : decode b_Replacer_append 23 = .ok (.iload 4, 2) := by decide +kernel
theorem d_Replacer_append_25 : decode b_Replacer_append 25 = .ok (.invokestatic 220, 3) := by decide +kernel
theorem d_Replacer_append_28 : decode b_Replacer_append 28 = .ok (.invokevirtual 203, 3) := by decide +kernel
theorem d_Replacer_append_31 : decode b_Replacer_append 31 = .ok (.return_, 1) := by decide +kernel
theorem d_Replacer_append_32 : decode b_Replacer_append 32 = .ok (.aload_n 0, 1) := by decide +kernel
theorem d_Replacer_append_33 : decode b_Replacer_append 33 = .ok (.getfield 38, 3) := by decide +kernel
theorem d_Replacer_append_36 : decode b_Replacer_append 36 = .ok (.iload_n 1, 1) := by decide +kernel
theorem d_Replacer_append_37 : decode b_Replacer_append 37 = .ok (.iaload, 1) := by decide +kernel
theorem d_Replacer_append_38 : decode b_Replacer_append 38 = .ok (.iconst (-1), 1) := by decide +kernel
theorem d_Replacer_append_39 : decode b_Replacer_append 39 = .ok (.if_icmp .ne 14, 3) := by decide +kernel
theorem d_Replacer_append_42 : decode b_Replacer_append 42 = .ok (.aload_n 0, 1) := by decide +kernel
theorem d_Replacer_append_43 : decode b_Replacer_append 43 = .ok (.getfield 35, 3) := by decide +kernel
theorem d_Replacer_append_46 : decode b_Replacer_append 46 = .ok (.iload_n 1, 1) := by decide +kernel
theorem d_Replacer_append_47 : decode b_Replacer_append 47 = .ok (.iload 5, 2) := by decide +kernel
theorem d_Replacer_append_49 : decode b_Replacer_append 49 = .ok (.iastore, 1) := by decide +kernel
theorem d_Replacer_append_50 : decode b_Replacer_append 50 = .ok (.goto 19, 3) := by decide +kernel
theorem d_Replacer_append_53 : decode b_Replacer_append 53 = .ok (.aload_n 0, 1) := by decide +kernel
theorem d_Replacer_append_54 : decode b_Replacer_append 54 = .ok (.getfield 44, 3) := by decide +kernel
theorem d_Replacer_append_57 : decode b_Replacer_append 57 = .ok (.getfield 96, 3) := by decide +kernel
theorem d_Replacer_append_60 : decode b_Replacer_append 60 = .ok (.aload_n 0, 1) := by decide +kernel
theorem d_Replacer_append_61 : decode b_Replacer_append 61 = .ok (.getfield 38, 3) := by decide +kernel
theorem d_Replacer_append_64 : decode b_Replacer_append 64 = .ok (.iload_n 1, 1) := by decide +kernel
theorem d_Replacer_append_65 : decode b_Replacer_append 65 = .ok (.iaload, 1) := by decide +kernel
theorem d_Replacer_append_66 : decode b_Replacer_append 66 = .ok (.iload 5, 2) := by decide +kernel
theorem d_Replacer_append_68 : decode b_Replacer_append 68 = .ok (.iastore, 1) := by decide +kernel
theorem d_Replacer_append_69 : decode b_Replacer_append 69 = .ok (.aload_n 0, 1) := by decide +kernel
theorem d_Replacer_append_70 : decode b_Replacer_append 70 = .ok (.getfield 38, 3) := by decide +kernel
theorem d_Replacer_append_73 : decode b_Replacer_append 73 = .ok (.iload_n 1, 1) := by decide +kernel
theorem d_Replacer_append_74 : decode b_Replacer_append 74 = .ok (.iload 5, 2) := by decide +kernel
theorem d_Replacer_append_76 : decode b_Replacer_append 76 = .ok (.iastore, 1) := by decide +kernel
theorem d_Replacer_append_77 : decode b_Replacer_append 77 = .ok (.aload_n 0, 1) := by decide +kernel
theorem d_Replacer_append_78 : decode b_Replacer_append 78 = .ok (.getfield 41, 3) := by decide +kernel
theorem d_Replacer_append_81 : decode b_Replacer_append 81 = .ok (.iload_n 1, 1) := by decide +kernel
theorem d_Replacer_append_82 : decode b_Replacer_append 82 = .ok (.dup2, 1) := by decide +kernel
theorem d_Replacer_append_83 : decode b_Replacer_append 83 = .ok (.iaload, 1) := by decide +kernel
theorem d_Replacer_append_84 : decode b_Replacer_append 84 = .ok (.iconst 1, 1) := by decide +kernel
theorem d_Replacer_append_85 : decode b_Replacer_append 85 = .ok (.iadd, 1) := by decide +kernel
theorem d_Replacer_append_86 : decode b_Replacer_append 86 = .ok (.iastore, 1) := by decide +kernel
theorem d_Replacer_append_87 : decode b_Replacer_append 87 = .ok (.return_, 1) := by decide +kernel
theorem d_Replacer_clearRow_0 : decode b_Replacer_clearRow 0 = .ok (.aload_n 0, 1) := by decide +kernel
theorem d_Replacer_clearRow_1 : decode b_Replacer_clearRow 1 = .ok (.getfield 35, 3) := by decide +kernel
theorem d_Replacer_clearRow_4 : decode b_Replacer_clearRow 4 = .ok (.iload_n 1, 1) := by decide +kernel
theorem d_Replacer_clearRow_5 : decode b_Replacer_clearRow 5 = .ok (.iconst (-1), 1) := by decide +kernel
theorem d_Replacer_clearRow_6 : decode b_Replacer_clearRow 6 = .ok (.iastore, 1) := by decide +kernel
theorem d_Replacer_clearRow_7 : decode b_Replacer_clearRow 7 = .ok (.aload_n 0, 1) := by decide +kernel
theorem d_Replacer_clearRow_8 : decode b_Replacer_clearRow 8 = .ok (.getfield 38, 3) := by decide +kernel
theorem d_Replacer_clearRow_11 : decode b_Replacer_clearRow 11 = .ok (.iload_n 1, 1) := by decide +kernel
theorem d_Replacer_clearRow_12 : decode b_Replacer_clearRow 12 = .ok (.iconst (-1), 1) := by decide +kernel
theorem d_Replacer_clearRow_13 : decode b_Replacer_clearRow 13 = .ok (.iastore, 1) := by decide +kernel
theorem d_Replacer_clearRow_14 : decode b_Replacer_clearRow 14 = .ok (.aload_n 0, 1) := by decide +kernel
theorem d_Replacer_clearRow_15 : decode b_Replacer_clearRow 15 = .ok (.getfield 41, 3) := by decide +kernel
theorem d_Replacer_clearRow_18 : decode b_Replacer_clearRow 18 = .ok (.iload_n 1, 1) := by decide +kernel
theorem d_Replacer_clearRow_19 : decode b_Replacer_clearRow 19 = .ok (.iconst 0, 1) := by decide +kernel
theorem d_Replacer_clearRow_20 : decode b_Replacer_clearRow 20 = .ok (.iastore, 1) := by decide +kernel
theorem d_Replacer_clearRow_21 : decode b_Replacer_clearRow 21 = .ok (.return_, 1) := by decide +kernel
theorem d_Replacer_endArgument_0 : decode b_Replacer_endArgument 0 = .ok (.iload_n 2, 1) := by decide +kernel
theorem d_Replacer_endArgument_1 : decode b_Replacer_endArgument 1 = .ok (.bipush 30, 2) := by decide +kernel
theorem d_Replacer_endArgument_3 : decode b_Replacer_endArgument 3 = .ok (.if_icmp .ge 21, 3) := by decide +kernel
theorem d_Replacer_endArgument_6 : decode b_Replacer_endArgument 6 = .ok (.aload_n 0, 1) := by decide +kernel
theorem d_Replacer_endArgument_7 : decode b_Replacer_endArgument 7 = .ok (.getfield 17, 3) := by decide +kernel
theorem d_Replacer_endArgument_10 : decode b_Replacer_endArgument 10 = .ok (.iload_n 1, 1) := by decide +kernel
theorem d_Replacer_endArgument_11 : decode b_Replacer_endArgument 11 = .ok (.iload_n 2, 1) := by decide +kernel
theorem d_Replacer_endArgument_12 : decode b_Replacer_endArgument 12 = .ok (.iadd, 1) := by decide +kernel
theorem d_Replacer_endArgument_13 : decode b_Replacer_endArgument 13 = .ok (.iload_n 3, 1) := by decide +kernel
theorem d_Replacer_endArgument_14 : decode b_Replacer_endArgument 14 = .ok (.iastore, 1) := by decide +kernel
theorem d_Replacer_endArgument_15 : decode b_Replacer_endArgument 15 = .ok (.aload_n 0, 1) := by decide +kernel
theorem d_Replacer_endArgument_16 : decode b_Replacer_endArgument 16 = .ok (.getfield 26, 3) := by decide +kernel
theorem d_Replacer_endArgument_19 : decode b_Replacer_endArgument 19 = .ok (.iload_n 1, 1) := by decide +kernel
theorem d_Replacer_endArgument_20 : decode b_Replacer_endArgument 20 = .ok (.iload_n 2, 1) := by decide +kernel
theorem d_Replacer_endArgument_21 : decode b_Replacer_endArgument 21 = .ok (.iadd, 1) := by decide +kernel
theorem d_Replacer_endArgument_22 : decode b_Replacer_endArgument 22 = .ok (.iconst (-1), 1) := by decide +kernel
theorem d_Replacer_endArgument_23 : decode b_Replacer_endArgument 23 = .ok (.iastore, 1) := by decide +kernel
theorem d_Replacer_endArgument_24 : decode b_Replacer_endArgument 24 = .ok (.iload_n 2, 1) := by decide +kernel
theorem d_Replacer_endArgument_25 : decode b_Replacer_endArgument 25 = .ok (.iconst 1, 1) := by decide +kernel
theorem d_Replacer_endArgument_26 : decode b_Replacer_endArgument 26 = .ok (.iadd, 1) := by decide +kernel
theorem d_Replacer_endArgument_27 : decode b_Replacer_endArgument 27 = .ok (.bipush 30, 2) := by decide +kernel
theorem d_Replacer_endArgument_29 : decode b_Replacer_endArgument 29 = .ok (.if_icmp .ge 22, 3) := by decide +kernel
theorem d_Replacer_endArgument_32 : decode b_Replacer_endArgument 32 = .ok (.aload_n 0, 1) := by decide +kernel
theorem d_Replacer_endArgument_33 : decode b_Replacer_endArgument 33 = .ok (.getfield 13, 3) := by decide +kernel
theorem d_Replacer_endArgument_36 : decode b_Replacer_endArgument 36 = .ok (.iload_n 1, 1) := by decide +kernel
theorem d_Replacer_endArgument_37 : decode b_Replacer_endArgument 37 = .ok (.iload_n 2, 1) := by decide +kernel
theorem d_Replacer_endArgument_38 : decode b_Replacer_endArgument 38 = .ok (.iadd, 1) := by decide +kernel
theorem d_Replacer_endArgument_39 : decode b_Replacer_endArgument 39 = .ok (.iconst 1, 1) := by decide +kernel
theorem d_Replacer_endArgument_40 : decode b_Replacer_endArgument 40 = .ok (.iadd, 1) := by decide +kernel
theorem d_Replacer_endArgument_41 : decode b_Replacer_endArgument 41 = .ok (.aload_n 0, 1) := by decide +kernel
theorem d_Replacer_endArgument_42 : decode b_Replacer_endArgument 42 = .ok (.getfield 44, 3) := by decide +kernel
theorem d_Replacer_endArgument_45 : decode b_Replacer_endArgument 45 = .ok (.getfield 96, 3) := by decide +kernel
theorem d_Replacer_endArgument_48 : decode b_Replacer_endArgument 48 = .ok (.iload_n 3, 1) := by decide +kernel
theorem d_Replacer_endArgument_49 : decode b_Replacer_endArgument 49 = .ok (.iaload, 1) := by decide +kernel
theorem d_Replacer_endArgument_50 : decode b_Replacer_endArgument 50 = .ok (.iastore, 1) := by decide +kernel
theorem d_Replacer_endArgument_51 : decode b_Replacer_endArgument 51 = .ok (.return_, 1) := by decide +kernel
theorem d_Replacer_forgetKept_0 : decode b_Replacer_forgetKept 0 = .ok (.iload_n 1, 1) := by decide +kernel
theorem d_Replacer_forgetKept_1 : decode b_Replacer_forgetKept 1 = .ok (.bipush 30, 2) := by decide +kernel
theorem d_Replacer_forgetKept_3 : decode b_Replacer_forgetKept 3 = .ok (.imul, 1) := by decide +kernel
theorem d_Replacer_forgetKept_4 : decode b_Replacer_forgetKept 4 = .ok (.istore_n 3, 1) := by decide +kernel
theorem d_Replacer_forgetKept_5 : decode b_Replacer_forgetKept 5 = .ok (.iconst 0, 1) := by decide +kernel
theorem d_Replacer_forgetKept_6 : decode b_Replacer_forgetKept 6 = .ok (.istore 4, 2) := by decide +kernel
theorem d_Replacer_forgetKept_8 : decode b_Replacer_forgetKept 8 = .ok (.iload 4, 2) := by decide +kernel
theorem d_Replacer_forgetKept_10 : decode b_Replacer_forgetKept 10 = .ok (.bipush 30, 2) := by decide +kernel
theorem d_Replacer_forgetKept_12 : decode b_Replacer_forgetKept 12 = .ok (.if_icmp .ge 32, 3) := by decide +kernel
theorem d_Replacer_forgetKept_15 : decode b_Replacer_forgetKept 15 = .ok (.aload_n 0, 1) := by decide +kernel
theorem d_Replacer_forgetKept_16 : decode b_Replacer_forgetKept 16 = .ok (.getfield 23, 3) := by decide +kernel
theorem d_Replacer_forgetKept_19 : decode b_Replacer_forgetKept 19 = .ok (.iload_n 3, 1) := by decide +kernel
theorem d_Replacer_forgetKept_20 : decode b_Replacer_forgetKept 20 = .ok (.iload 4, 2) := by decide +kernel
theorem d_Replacer_forgetKept_22 : decode b_Replacer_forgetKept 22 = .ok (.iadd, 1) := by decide +kernel
theorem d_Replacer_forgetKept_23 : decode b_Replacer_forgetKept 23 = .ok (.iaload, 1) := by decide +kernel
theorem d_Replacer_forgetKept_24 : decode b_Replacer_forgetKept 24 = .ok (.iload_n 2, 1) := by decide +kernel
theorem d_Replacer_forgetKept_25 : decode b_Replacer_forgetKept 25 = .ok (.if_icmp .ne 13, 3) := by decide +kernel
theorem d_Replacer_forgetKept_28 : decode b_Replacer_forgetKept 28 = .ok (.aload_n 0, 1) := by decide +kernel
theorem d_Replacer_forgetKept_29 : decode b_Replacer_forgetKept 29 = .ok (.getfield 26, 3) := by decide +kernel
theorem d_Replacer_forgetKept_32 : decode b_Replacer_forgetKept 32 = .ok (.iload_n 3, 1) := by decide +kernel
theorem d_Replacer_forgetKept_33 : decode b_Replacer_forgetKept 33 = .ok (.iload 4, 2) := by decide +kernel
theorem d_Replacer_forgetKept_35 : decode b_Replacer_forgetKept 35 = .ok (.iadd, 1) := by decide +kernel
theorem d_Replacer_forgetKept_36 : decode b_Replacer_forgetKept 36 = .ok (.iconst (-1), 1) := by decide +kernel
theorem d_Replacer_forgetKept_37 : decode b_Replacer_forgetKept 37 = .ok (.iastore, 1) := by decide +kernel
theorem d_Replacer_forgetKept_38 : decode b_Replacer_forgetKept 38 = .ok (.iinc 4 1, 3) := by decide +kernel
theorem d_Replacer_forgetKept_41 : decode b_Replacer_forgetKept 41 = .ok (.goto (-33), 3) := by decide +kernel
theorem d_Replacer_forgetKept_44 : decode b_Replacer_forgetKept 44 = .ok (.return_, 1) := by decide +kernel
theorem d_Replacer_gatherArguments_0 : decode b_Replacer_gatherArguments 0 = .ok (.aload_n 0, 1) := by decide +kernel
theorem d_Replacer_gatherArguments_1 : decode b_Replacer_gatherArguments 1 = .ok (.getfield 48, 3) := by decide +kernel
theorem d_Replacer_gatherArguments_4 : decode b_Replacer_gatherArguments 4 = .ok (.getfield 295, 3) := by decide +kernel
theorem d_Replacer_gatherArguments_7 : decode b_Replacer_gatherArguments 7 = .ok (.iload_n 3, 1) := by decide +kernel
theorem d_Replacer_gatherArguments_8 : decode b_Replacer_gatherArguments 8 = .ok (.iaload, 1) := by decide +kernel
theorem d_Replacer_gatherArguments_9 : decode b_Replacer_gatherArguments 9 = .ok (.istore 5, 2) := by decide +kernel
theorem d_Replacer_gatherArguments_11 : decode b_Replacer_gatherArguments 11 = .ok (.aload_n 0, 1) := by decide +kernel
theorem d_Replacer_gatherArguments_12 : decode b_Replacer_gatherArguments 12 = .ok (.getfield 48, 3) := by decide +kernel
theorem d_Replacer_gatherArguments_15 : decode b_Replacer_gatherArguments 15 = .ok (.getfield 298, 3) := by decide +kernel
theorem d_Replacer_gatherArguments_18 : decode b_Replacer_gatherArguments 18 = .ok (.iload_n 3, 1) := by decide +kernel
theorem d_Replacer_gatherArguments_19 : decode b_Replacer_gatherArguments 19 = .ok (.baload, 1) := by decide +kernel
theorem d_Replacer_gatherArguments_20 : decode b_Replacer_gatherArguments 20 = .ok (.ifCond .eq 10, 3) := by decide +kernel
theorem d_Replacer_gatherArguments_23 : decode b_Replacer_gatherArguments 23 = .ok (.iload 5, 2) := by decide +kernel
theorem d_Replacer_gatherArguments_25 : decode b_Replacer_gatherArguments 25 = .ok (.iconst 1, 1) := by decide +kernel
theorem d_Replacer_gatherArguments_26 : decode b_Replacer_gatherArguments 26 = .ok (.isub, 1) := by decide +kernel
theorem d_Replacer_gatherArguments_27 : decode b_Replacer_gatherArguments 27 = .ok (.goto 5, 3) := by decide +kernel
theorem d_Replacer_gatherArguments_30 : decode b_Replacer_gatherArguments 30 = .ok (.ldc 78, 2) := by decide +kernel
theorem d_Replacer_gatherArguments_32 : decode b_Replacer_gatherArguments 32 = .ok (.istore 6, 2) := by decide +kernel
theorem d_Replacer_gatherArguments_34 : decode b_Replacer_gatherArguments 34 = .ok (.iload 4, 2) := by decide +kernel
theorem d_Replacer_gatherArguments_36 : decode b_Replacer_gatherArguments 36 = .ok (.bipush 30, 2) := by decide +kernel
theorem d_Replacer_gatherArguments_38 : decode b_Replacer_gatherArguments 38 = .ok (.imul, 1) := by decide +kernel
theorem d_Replacer_gatherArguments_39 : decode b_Replacer_gatherArguments 39 = .ok (.istore 7, 2) := by decide +kernel
theorem d_Replacer_gatherArguments_41 : decode b_Replacer_gatherArguments 41 = .ok (.aload_n 0, 1) := by decide +kernel
theorem d_Replacer_gatherArguments_42 : decode b_Replacer_gatherArguments 42 = .ok (.getfield 44, 3) := by decide +kernel
theorem d_Replacer_gatherArguments_45 : decode b_Replacer_gatherArguments 45 = .ok (.getfield 96, 3) := by decide +kernel
theorem d_Replacer_gatherArguments_48 : decode b_Replacer_gatherArguments 48 = .ok (.aload_n 0, 1) := by decide +kernel
theorem d_Replacer_gatherArguments_49 : decode b_Replacer_gatherArguments 49 = .ok (.getfield 44, 3) := by decide +kernel
theorem d_Replacer_gatherArguments_52 : decode b_Replacer_gatherArguments 52 = .ok (.getfield 96, 3) := by decide +kernel
theorem d_Replacer_gatherArguments_55 : decode b_Replacer_gatherArguments 55 = .ok (.iload_n 1, 1) := by decide +kernel
theorem d_Replacer_gatherArguments_56 : decode b_Replacer_gatherArguments 56 = .ok (.iaload, 1) := by decide +kernel
theorem d_Replacer_gatherArguments_57 : decode b_Replacer_gatherArguments 57 = .ok (.iaload, 1) := by decide +kernel
theorem d_Replacer_gatherArguments_58 : decode b_Replacer_gatherArguments 58 = .ok (.istore 8, 2) := by decide +kernel
theorem d_Replacer_gatherArguments_60 : decode b_Replacer_gatherArguments 60 = .ok (.iload 8, 2) := by decide +kernel
theorem d_Replacer_gatherArguments_62 : decode b_Replacer_gatherArguments 62 = .ok (.istore 9, 2) := by decide +kernel
theorem d_Replacer_gatherArguments_64 : decode b_Replacer_gatherArguments 64 = .ok (.iconst 0, 1) := by decide +kernel
theorem d_Replacer_gatherArguments_65 : decode b_Replacer_gatherArguments 65 = .ok (.istore 10, 2) := by decide +kernel
theorem d_Replacer_gatherArguments_67 : decode b_Replacer_gatherArguments 67 = .ok (.iconst 0, 1) := by decide +kernel
theorem d_Replacer_gatherArguments_68 : decode b_Replacer_gatherArguments 68 = .ok (.istore 11, 2) := by decide +kernel
theorem d_Replacer_gatherArguments_70 : decode b_Replacer_gatherArguments 70 = .ok (.aload_n 0, 1) := by decide +kernel
theorem d_Replacer_gatherArguments_71 : decode b_Replacer_gatherArguments 71 = .ok (.getfield 13, 3) := by decide +kernel
theorem d_Replacer_gatherArguments_74 : decode b_Replacer_gatherArguments 74 = .ok (.iload 7, 2) := by decide +kernel
theorem d_Replacer_gatherArguments_76 : decode b_Replacer_gatherArguments 76 = .ok (.iload 9, 2) := by decide +kernel
theorem d_Replacer_gatherArguments_78 : decode b_Replacer_gatherArguments 78 = .ok (.iastore, 1) := by decide +kernel
theorem d_Replacer_gatherArguments_79 : decode b_Replacer_gatherArguments 79 = .ok (.iconst 0, 1) := by decide +kernel
theorem d_Replacer_gatherArguments_80 : decode b_Replacer_gatherArguments 80 = .ok (.istore 12, 2) := by decide +kernel
theorem d_Replacer_gatherArguments_82 : decode b_Replacer_gatherArguments 82 = .ok (.iload 12, 2) := by decide +kernel
theorem d_Replacer_gatherArguments_84 : decode b_Replacer_gatherArguments 84 = .ok (.ldc 78, 2) := by decide +kernel
theorem d_Replacer_gatherArguments_86 : decode b_Replacer_gatherArguments 86 = .ok (.if_icmp .ge 125, 3) := by decide +kernel
theorem d_Replacer_gatherArguments_89 : decode b_Replacer_gatherArguments 89 = .ok (.iload 9, 2) := by decide +kernel
theorem d_Replacer_gatherArguments_91 : decode b_Replacer_gatherArguments 91 = .ok (.iload_n 2, 1) := by decide +kernel
theorem d_Replacer_gatherArguments_92 : decode b_Replacer_gatherArguments 92 = .ok (.if_icmp .eq 119, 3) := by decide +kernel
theorem d_Replacer_gatherArguments_95 : decode b_Replacer_gatherArguments 95 = .ok (.iload 10, 2) := by decide +kernel
theorem d_Replacer_gatherArguments_97 : decode b_Replacer_gatherArguments 97 = .ok (.ifCond .gt 17, 3) := by decide +kernel
theorem d_Replacer_gatherArguments_100 : decode b_Replacer_gatherArguments 100 = .ok (.aload_n 0, 1) := by decide +kernel
theorem d_Replacer_gatherArguments_101 : decode b_Replacer_gatherArguments 101 = .ok (.getfield 44, 3) := by decide +kernel
theorem d_Replacer_gatherArguments_104 : decode b_Replacer_gatherArguments 104 = .ok (.iload 9, 2) := by decide +kernel
theorem d_Replacer_gatherArguments_106 : decode b_Replacer_gatherArguments 106 = .ok (.bipush 41, 2) := by decide +kernel
theorem d_Replacer_gatherArguments_108 : decode b_Replacer_gatherArguments 108 = .ok (.invokevirtual 134, 3) := by decide +kernel
theorem d_Replacer_gatherArguments_111 : decode b_Replacer_gatherArguments 111 = .ok (.ifCond .ne 100, 3) := by decide +kernel
theorem d_Replacer_gatherArguments_114 : decode b_Replacer_gatherArguments 114 = .ok (.aload_n 0, 1) := by decide +kernel
theorem d_Replacer_gatherArguments_115 : decode b_Replacer_gatherArguments 115 = .ok (.getfield 44, 3) := by decide +kernel
theorem d_Replacer_gatherArguments_118 : decode b_Replacer_gatherArguments 118 = .ok (.iload 9, 2) := by decide +kernel
theorem d_Replacer_gatherArguments_120 : decode b_Replacer_gatherArguments 120 = .ok (.bipush 40, 2) := by decide +kernel
theorem d_Replacer_gatherArguments_122 : decode b_Replacer_gatherArguments 122 = .ok (.invokevirtual 134, 3) := by decide +kernel
theorem d_Replacer_gatherArguments_125 : decode b_Replacer_gatherArguments 125 = .ok (.ifCond .eq 9, 3) := by decide +kernel
theorem d_Replacer_gatherArguments_128 : decode b_Replacer_gatherArguments 128 = .ok (.iinc 10 1, 3) := by decide +kernel
theorem d_Replacer_gatherArguments_131 : decode b_Replacer_gatherArguments 131 = .ok (.goto 62, 3) := by decide +kernel
theorem d_Replacer_gatherArguments_134 : decode b_Replacer_gatherArguments 134 = .ok (.aload_n 0, 1) := by decide +kernel
theorem d_Replacer_gatherArguments_135 : decode b_Replacer_gatherArguments 135 = .ok (.getfield 44, 3) := by decide +kernel
theorem d_Replacer_gatherArguments_138 : decode b_Replacer_gatherArguments 138 = .ok (.iload 9, 2) := by decide +kernel
theorem d_Replacer_gatherArguments_140 : decode b_Replacer_gatherArguments 140 = .ok (.bipush 41, 2) := by decide +kernel
theorem d_Replacer_gatherArguments_142 : decode b_Replacer_gatherArguments 142 = .ok (.invokevirtual 134, 3) := by decide +kernel
theorem d_Replacer_gatherArguments_145 : decode b_Replacer_gatherArguments 145 = .ok (.ifCond .eq 9, 3) := by decide +kernel
theorem d_Replacer_gatherArguments_148 : decode b_Replacer_gatherArguments 148 = .ok (.iinc 10 (-1), 3) := by decide +kernel
theorem d_Replacer_gatherArguments_151 : decode b_Replacer_gatherArguments 151 = .ok (.goto 42, 3) := by decide +kernel
theorem d_Replacer_gatherArguments_154 : decode b_Replacer_gatherArguments 154 = .ok (.aload_n 0, 1) := by decide +kernel
theorem d_Replacer_gatherArguments_155 : decode b_Replacer_gatherArguments 155 = .ok (.getfield 44, 3) := by decide +kernel
theorem d_Replacer_gatherArguments_158 : decode b_Replacer_gatherArguments 158 = .ok (.iload 9, 2) := by decide +kernel
theorem d_Replacer_gatherArguments_160 : decode b_Replacer_gatherArguments 160 = .ok (.bipush 44, 2) := by decide +kernel
theorem d_Replacer_gatherArguments_162 : decode b_Replacer_gatherArguments 162 = .ok (.invokevirtual 134, 3) := by decide +kernel
theorem d_Replacer_gatherArguments_165 : decode b_Replacer_gatherArguments 165 = .ok (.ifCond .eq 28, 3) := by decide +kernel
theorem d_Replacer_gatherArguments_168 : decode b_Replacer_gatherArguments 168 = .ok (.iload 10, 2) := by decide +kernel
theorem d_Replacer_gatherArguments_170 : decode b_Replacer_gatherArguments 170 = .ok (.ifCond .ne 23, 3) := by decide +kernel
theorem d_Replacer_gatherArguments_173 : decode b_Replacer_gatherArguments 173 = .ok (.iload 11, 2) := by decide +kernel
theorem d_Replacer_gatherArguments_175 : decode b_Replacer_gatherArguments 175 = .ok (.iload 6, 2) := by decide +kernel
theorem d_Replacer_gatherArguments_177 : decode b_Replacer_gatherArguments 177 = .ok (.if_icmp .ge 16, 3) := by decide +kernel
theorem d_Replacer_gatherArguments_180 : decode b_Replacer_gatherArguments 180 = .ok (.aload_n 0, 1) := by decide +kernel
theorem d_Replacer_gatherArguments_181 : decode b_Replacer_gatherArguments 181 = .ok (.iload 7, 2) := by decide +kernel
theorem d_Replacer_gatherArguments_183 : decode b_Replacer_gatherArguments 183 = .ok (.iload 11, 2) := by decide +kernel
theorem d_Replacer_gatherArguments_185 : decode b_Replacer_gatherArguments 185 = .ok (.iload 9, 2) := by decide +kernel
theorem d_Replacer_gatherArguments_187 : decode b_Replacer_gatherArguments 187 = .ok (.invokevirtual 302, 3) := by decide +kernel
theorem d_Replacer_gatherArguments_190 : decode b_Replacer_gatherArguments 190 = .ok (.iinc 11 1, 3) := by decide +kernel
theorem d_Replacer_gatherArguments_193 : decode b_Replacer_gatherArguments 193 = .ok (.aload_n 0, 1) := by decide +kernel
theorem d_Replacer_gatherArguments_194 : decode b_Replacer_gatherArguments 194 = .ok (.getfield 44, 3) := by decide +kernel
theorem d_Replacer_gatherArguments_197 : decode b_Replacer_gatherArguments 197 = .ok (.getfield 96, 3) := by decide +kernel
theorem d_Replacer_gatherArguments_200 : decode b_Replacer_gatherArguments 200 = .ok (.iload 9, 2) := by decide +kernel
theorem d_Replacer_gatherArguments_202 : decode b_Replacer_gatherArguments 202 = .ok (.iaload, 1) := by decide +kernel
theorem d_Replacer_gatherArguments_203 : decode b_Replacer_gatherArguments 203 = .ok (.istore 9, 2) := by decide +kernel
theorem d_Replacer_gatherArguments_205 : decode b_Replacer_gatherArguments 205 = .ok (.iinc 12 1, 3) := by decide +kernel
theorem d_Replacer_gatherArguments_208 : decode b_Replacer_gatherArguments 208 = .ok (.goto (-126), 3) := by decide +kernel
theorem d_Replacer_gatherArguments_211 : decode b_Replacer_gatherArguments 211 = .ok (.iload 9, 2) := by decide +kernel
theorem d_Replacer_gatherArguments_213 : decode b_Replacer_gatherArguments 213 = .ok (.iload_n 2, 1) := by decide +kernel
theorem d_Replacer_gatherArguments_214 : decode b_Replacer_gatherArguments 214 = .ok (.if_icmp .ne 22, 3) := by decide +kernel
theorem d_Replacer_gatherArguments_217 : decode b_Replacer_gatherArguments 217 = .ok (.aload_n 0, 1) := by decide +kernel
theorem d_Replacer_gatherArguments_218 : decode b_Replacer_gatherArguments 218 = .ok (.getfield 56, 3) := by decide +kernel
theorem d_Replacer_gatherArguments_221 : decode b_Replacer_gatherArguments 221 = .ok (.bipush 18, 2) := by decide +kernel
theorem d_Replacer_gatherArguments_223 : decode b_Replacer_gatherArguments 223 = .ok (.aload_n 0, 1) := by decide +kernel
theorem d_Replacer_gatherArguments_224 : decode b_Replacer_gatherArguments 224 = .ok (.getfield 44, 3) := by decide +kernel
theorem d_Replacer_gatherArguments_227 : decode b_Replacer_gatherArguments 227 = .ok (.iload_n 1, 1) := by decide +kernel
theorem d_Replacer_gatherArguments_228 : decode b_Replacer_gatherArguments 228 = .ok (.invokevirtual 179, 3) := by decide +kernel
theorem d_Replacer_gatherArguments_231 : decode b_Replacer_gatherArguments 231 = .ok (.invokevirtual 203, 3) := by decide +kernel
theorem d_Replacer_gatherArguments_234 : decode b_Replacer_gatherArguments 234 = .ok (.iload_n 1, 1) := by decide +kernel
theorem d_Replacer_gatherArguments_235 : decode b_Replacer_gatherArguments 235 = .ok (.ireturn, 1) := by decide +kernel
theorem d_Replacer_gatherArguments_236 : decode b_Replacer_gatherArguments 236 = .ok (.aload_n 0, 1) := by decide +kernel
theorem d_Replacer_gatherArguments_237 : decode b_Replacer_gatherArguments 237 = .ok (.iload 7, 2) := by decide +kernel
theorem d_Replacer_gatherArguments_239 : decode b_Replacer_gatherArguments 239 = .ok (.iload 11, 2) := by decide +kernel
theorem d_Replacer_gatherArguments_241 : decode b_Replacer_gatherArguments 241 = .ok (.iload 9, 2) := by decide +kernel
theorem d_Replacer_gatherArguments_243 : decode b_Replacer_gatherArguments 243 = .ok (.invokevirtual 302, 3) := by decide +kernel
theorem d_Replacer_gatherArguments_246 : decode b_Replacer_gatherArguments 246 = .ok (.iinc 11 1, 3) := by decide +kernel
theorem d_Replacer_gatherArguments_249 : decode b_Replacer_gatherArguments 249 = .ok (.iload 5, 2) := by decide +kernel
theorem d_Replacer_gatherArguments_251 : decode b_Replacer_gatherArguments 251 = .ok (.ifCond .ne 13, 3) := by decide +kernel
theorem d_Replacer_gatherArguments_254 : decode b_Replacer_gatherArguments 254 = .ok (.iload 8, 2) := by decide +kernel
theorem d_Replacer_gatherArguments_256 : decode b_Replacer_gatherArguments 256 = .ok (.iload 9, 2) := by decide +kernel
theorem d_Replacer_gatherArguments_258 : decode b_Replacer_gatherArguments 258 = .ok (.if_icmp .ne 6, 3) := by decide +kernel
theorem d_Replacer_gatherArguments_261 : decode b_Replacer_gatherArguments 261 = .ok (.iconst 0, 1) := by decide +kernel
theorem d_Replacer_gatherArguments_262 : decode b_Replacer_gatherArguments 262 = .ok (.istore 11, 2) := by decide +kernel
theorem d_Replacer_gatherArguments_264 : decode b_Replacer_gatherArguments 264 = .ok (.iload 11, 2) := by decide +kernel
theorem d_Replacer_gatherArguments_266 : decode b_Replacer_gatherArguments 266 = .ok (.iload 5, 2) := by decide +kernel
theorem d_Replacer_gatherArguments_268 : decode b_Replacer_gatherArguments 268 = .ok (.if_icmp .eq 20, 3) := by decide +kernel
theorem d_Replacer_gatherArguments_271 : decode b_Replacer_gatherArguments 271 = .ok (.aload_n 0, 1) := by decide +kernel
theorem d_Replacer_gatherArguments_272 : decode b_Replacer_gatherArguments 272 = .ok (.getfield 56, 3) := by decide +kernel
theorem d_Replacer_gatherArguments_275 : decode b_Replacer_gatherArguments 275 = .ok (.bipush 17, 2) := by decide +kernel
theorem d_Replacer_gatherArguments_277 : decode b_Replacer_gatherArguments 277 = .ok (.aload_n 0, 1) := by decide +kernel
theorem d_Replacer_gatherArguments_278 : decode b_Replacer_gatherArguments 278 = .ok (.getfield 44, 3) := by decide +kernel
theorem d_Replacer_gatherArguments_281 : decode b_Replacer_gatherArguments 281 = .ok (.iload_n 1, 1) := by decide +kernel
theorem d_Replacer_gatherArguments_282 : decode b_Replacer_gatherArguments 282 = .ok (.invokevirtual 179, 3) := by decide +kernel
theorem d_Replacer_gatherArguments_285 : decode b_Replacer_gatherArguments 285 = .ok (.invokevirtual 203, 3) := by decide +kernel
theorem d_Replacer_gatherArguments_288 : decode b_Replacer_gatherArguments 288 = .ok (.iload 9, 2) := by decide +kernel
theorem d_Replacer_gatherArguments_290 : decode b_Replacer_gatherArguments 290 = .ok (.ireturn, 1) := by decide +kernel
theorem d_Replacer_hasRoomForKept_0 : decode b_Replacer_hasRoomForKept 0 = .ok (.aload_n 0, 1) := by decide +kernel
theorem d_Replacer_hasRoomForKept_1 : decode b_Replacer_hasRoomForKept 1 = .ok (.getfield 56, 3) := by decide +kernel
theorem d_Replacer_hasRoomForKept_4 : decode b_Replacer_hasRoomForKept 4 = .ok (.getfield 242, 3) := by decide +kernel
theorem d_Replacer_hasRoomForKept_7 : decode b_Replacer_hasRoomForKept 7 = .ok (.aload_n 0, 1) := by decide +kernel
theorem d_Replacer_hasRoomForKept_8 : decode b_Replacer_hasRoomForKept 8 = .ok (.getfield 29, 3) := by decide +kernel
theorem d_Replacer_hasRoomForKept_11 : decode b_Replacer_hasRoomForKept 11 = .ok (.iload_n 1, 1) := by decide +kernel
theorem d_Replacer_hasRoomForKept_12 : decode b_Replacer_hasRoomForKept 12 = .ok (.iaload, 1) := by decide +kernel
theorem d_Replacer_hasRoomForKept_13 : decode b_Replacer_hasRoomForKept 13 = .ok (.iadd, 1) := by decide +kernel
theorem d_Replacer_hasRoomForKept_14 : decode b_Replacer_hasRoomForKept 14 = .ok (.ldc 245, 2) := by decide +kernel
theorem d_Replacer_hasRoomForKept_16 : decode b_Replacer_hasRoomForKept 16 = .ok (.if_icmp .gt 27, 3) := by decide +kernel
theorem d_Replacer_hasRoomForKept_19 : decode b_Replacer_hasRoomForKept 19 = .ok (.aload_n 0, 1) := by decide +kernel
theorem d_Replacer_hasRoomForKept_20 : decode b_Replacer_hasRoomForKept 20 = .ok (.getfield 44, 3) := by decide +kernel
theorem d_Replacer_hasRoomForKept_23 : decode b_Replacer_hasRoomForKept 23 = .ok (.getfield 176, 3) := by decide +kernel
theorem d_Replacer_hasRoomForKept_26 : decode b_Replacer_hasRoomForKept 26 = .ok (.aload_n 0, 1) := by decide +kernel
theorem d_Replacer_hasRoomForKept_27 : decode b_Replacer_hasRoomForKept 27 = .ok (.getfield 32, 3) := by decide +kernel
theorem d_Replacer_hasRoomForKept_30 : decode b_Replacer_hasRoomForKept 30 = .ok (.iload_n 1, 1) := by decide +kernel
theorem d_Replacer_hasRoomForKept_31 : decode b_Replacer_hasRoomForKept 31 = .ok (.iaload, 1) := by decide +kernel
theorem d_Replacer_hasRoomForKept_32 : decode b_Replacer_hasRoomForKept 32 = .ok (.iadd, 1) := by decide +kernel
theorem d_Replacer_hasRoomForKept_33 : decode b_Replacer_hasRoomForKept 33 = .ok (.ldc_w 311, 3) := by decide +kernel
theorem d_Replacer_hasRoomForKept_36 : decode b_Replacer_hasRoomForKept 36 = .ok (.if_icmp .gt 7, 3) := by decide +kernel
theorem d_Replacer_hasRoomForKept_39 : decode b_Replacer_hasRoomForKept 39 = .ok (.iconst 1, 1) := by decide +kernel
theorem d_Replacer_hasRoomForKept_40 : decode b_Replacer_hasRoomForKept 40 = .ok (.goto 4, 3) := by decide +kernel
theorem d_Replacer_hasRoomForKept_43 : decode b_Replacer_hasRoomForKept 43 = .ok (.iconst 0, 1) := by decide +kernel
theorem d_Replacer_hasRoomForKept_44 : decode b_Replacer_hasRoomForKept 44 = .ok (.ireturn, 1) := by decide +kernel
theorem d_Replacer_isEmpty_0 : decode b_Replacer_isEmpty 0 = .ok (.iload_n 1, 1) := by decide +kernel
theorem d_Replacer_isEmpty_1 : decode b_Replacer_isEmpty 1 = .ok (.bipush 30, 2) := by decide +kernel
theorem d_Replacer_isEmpty_3 : decode b_Replacer_isEmpty 3 = .ok (.imul, 1) := by decide +kernel
theorem d_Replacer_isEmpty_4 : decode b_Replacer_isEmpty 4 = .ok (.iload_n 2, 1) := by decide +kernel
theorem d_Replacer_isEmpty_5 : decode b_Replacer_isEmpty 5 = .ok (.iadd, 1) := by decide +kernel
theorem d_Replacer_isEmpty_6 : decode b_Replacer_isEmpty 6 = .ok (.istore_n 3, 1) := by decide +kernel
theorem d_Replacer_isEmpty_7 : decode b_Replacer_isEmpty 7 = .ok (.aload_n 0, 1) := by decide +kernel
theorem d_Replacer_isEmpty_8 : decode b_Replacer_isEmpty 8 = .ok (.getfield 13, 3) := by decide +kernel
theorem d_Replacer_isEmpty_11 : decode b_Replacer_isEmpty 11 = .ok (.iload_n 3, 1) := by decide +kernel
theorem d_Replacer_isEmpty_12 : decode b_Replacer_isEmpty 12 = .ok (.iaload, 1) := by decide +kernel
theorem d_Replacer_isEmpty_13 : decode b_Replacer_isEmpty 13 = .ok (.aload_n 0, 1) := by decide +kernel
theorem d_Replacer_isEmpty_14 : decode b_Replacer_isEmpty 14 = .ok (.getfield 17, 3) := by decide +kernel
theorem d_Replacer_isEmpty_17 : decode b_Replacer_isEmpty 17 = .ok (.iload_n 3, 1) := by decide +kernel
theorem d_Replacer_isEmpty_18 : decode b_Replacer_isEmpty 18 = .ok (.iaload, 1) := by decide +kernel
theorem d_Replacer_isEmpty_19 : decode b_Replacer_isEmpty 19 = .ok (.if_icmp .ne 7, 3) := by decide +kernel
theorem d_Replacer_isEmpty_22 : decode b_Replacer_isEmpty 22 = .ok (.iconst 1, 1) := by decide +kernel
theorem d_Replacer_isEmpty_23 : decode b_Replacer_isEmpty 23 = .ok (.goto 4, 3) := by decide +kernel
theorem d_Replacer_isEmpty_26 : decode b_Replacer_isEmpty 26 = .ok (.iconst 0, 1) := by decide +kernel
theorem d_Replacer_isEmpty_27 : decode b_Replacer_isEmpty 27 = .ok (.ireturn, 1) := by decide +kernel
theorem d_Replacer_isHash_0 : decode b_Replacer_isHash 0 = .ok (.aload_n 0, 1) := by decide +kernel
theorem d_Replacer_isHash_1 : decode b_Replacer_isHash 1 = .ok (.getfield 48, 3) := by decide +kernel
theorem d_Replacer_isHash_4 : decode b_Replacer_isHash 4 = .ok (.getfield 269, 3) := by decide +kernel
theorem d_Replacer_isHash_7 : decode b_Replacer_isHash 7 = .ok (.iload_n 1, 1) := by decide +kernel
theorem d_Replacer_isHash_8 : decode b_Replacer_isHash 8 = .ok (.laload, 1) := by decide +kernel
theorem d_Replacer_isHash_9 : decode b_Replacer_isHash 9 = .ok (.invokestatic 210, 3) := by decide +kernel
theorem d_Replacer_isHash_12 : decode b_Replacer_isHash 12 = .ok (.iconst 1, 1) := by decide +kernel
theorem d_Replacer_isHash_13 : decode b_Replacer_isHash 13 = .ok (.if_icmp .ne 32, 3) := by decide +kernel
theorem d_Replacer_isHash_16 : decode b_Replacer_isHash 16 = .ok (.aload_n 0, 1) := by decide +kernel
theorem d_Replacer_isHash_17 : decode b_Replacer_isHash 17 = .ok (.getfield 44, 3) := by decide +kernel
theorem d_Replacer_isHash_20 : decode b_Replacer_isHash 20 = .ok (.getfield 106, 3) := by decide +kernel
theorem d_Replacer_isHash_23 : decode b_Replacer_isHash 23 = .ok (.aload_n 0, 1) := by decide +kernel
theorem d_Replacer_isHash_24 : decode b_Replacer_isHash 24 = .ok (.getfield 48, 3) := by decide +kernel
theorem d_Replacer_isHash_27 : decode b_Replacer_isHash 27 = .ok (.getfield 269, 3) := by decide +kernel
theorem d_Replacer_isHash_30 : decode b_Replacer_isHash 30 = .ok (.iload_n 1, 1) := by decide +kernel
theorem d_Replacer_isHash_31 : decode b_Replacer_isHash 31 = .ok (.laload, 1) := by decide +kernel
theorem d_Replacer_isHash_32 : decode b_Replacer_isHash 32 = .ok (.invokestatic 229, 3) := by decide +kernel
theorem d_Replacer_isHash_35 : decode b_Replacer_isHash 35 = .ok (.baload, 1) := by decide +kernel
theorem d_Replacer_isHash_36 : decode b_Replacer_isHash 36 = .ok (.bipush 35, 2) := by decide +kernel
theorem d_Replacer_isHash_38 : decode b_Replacer_isHash 38 = .ok (.if_icmp .ne 7, 3) := by decide +kernel
theorem d_Replacer_isHash_41 : decode b_Replacer_isHash 41 = .ok (.iconst 1, 1) := by decide +kernel
theorem d_Replacer_isHash_42 : decode b_Replacer_isHash 42 = .ok (.goto 4, 3) := by decide +kernel
theorem d_Replacer_isHash_45 : decode b_Replacer_isHash 45 = .ok (.iconst 0, 1) := by decide +kernel
theorem d_Replacer_isHash_46 : decode b_Replacer_isHash 46 = .ok (.ireturn, 1) := by decide +kernel
theorem d_Replacer_isPasting_0 : decode b_Replacer_isPasting 0 = .ok (.iload_n 1, 1) := by decide +kernel
theorem d_Replacer_isPasting_1 : decode b_Replacer_isPasting 1 = .ok (.iconst 1, 1) := by decide +kernel
theorem d_Replacer_isPasting_2 : decode b_Replacer_isPasting 2 = .ok (.iadd, 1) := by decide +kernel
theorem d_Replacer_isPasting_3 : decode b_Replacer_isPasting 3 = .ok (.iload_n 2, 1) := by decide +kernel
theorem d_Replacer_isPasting_4 : decode b_Replacer_isPasting 4 = .ok (.if_icmp .ge 19, 3) := by decide +kernel
theorem d_Replacer_isPasting_7 : decode b_Replacer_isPasting 7 = .ok (.aload_n 0, 1) := by decide +kernel
theorem d_Replacer_isPasting_8 : decode b_Replacer_isPasting 8 = .ok (.getfield 48, 3) := by decide +kernel
theorem d_Replacer_isPasting_11 : decode b_Replacer_isPasting 11 = .ok (.getfield 269, 3) := by decide +kernel
theorem d_Replacer_isPasting_14 : decode b_Replacer_isPasting 14 = .ok (.iload_n 1, 1) := by decide +kernel
theorem d_Replacer_isPasting_15 : decode b_Replacer_isPasting 15 = .ok (.laload, 1) := by decide +kernel
theorem d_Replacer_isPasting_16 : decode b_Replacer_isPasting 16 = .ok (.invokestatic 210, 3) := by decide +kernel
theorem d_Replacer_isPasting_19 : decode b_Replacer_isPasting 19 = .ok (.iconst 2, 1) := by decide +kernel
theorem d_Replacer_isPasting_20 : decode b_Replacer_isPasting 20 = .ok (.if_icmp .eq 5, 3) := by decide +kernel
theorem d_Replacer_isPasting_23 : decode b_Replacer_isPasting 23 = .ok (.iconst 0, 1) := by decide +kernel
theorem d_Replacer_isPasting_24 : decode b_Replacer_isPasting 24 = .ok (.ireturn, 1) := by decide +kernel
theorem d_Replacer_isPasting_25 : decode b_Replacer_isPasting 25 = .ok (.aload_n 0, 1) := by decide +kernel
theorem d_Replacer_isPasting_26 : decode b_Replacer_isPasting 26 = .ok (.getfield 48, 3) := by decide +kernel
theorem d_Replacer_isPasting_29 : decode b_Replacer_isPasting 29 = .ok (.getfield 269, 3) := by decide +kernel
theorem d_Replacer_isPasting_32 : decode b_Replacer_isPasting 32 = .ok (.iload_n 1, 1) := by decide +kernel
theorem d_Replacer_isPasting_33 : decode b_Replacer_isPasting 33 = .ok (.laload, 1) := by decide +kernel
theorem d_Replacer_isPasting_34 : decode b_Replacer_isPasting 34 = .ok (.invokestatic 229, 3) := by decide +kernel
theorem d_Replacer_isPasting_37 : decode b_Replacer_isPasting 37 = .ok (.istore_n 3, 1) := by decide +kernel
theorem d_Replacer_isPasting_38 : decode b_Replacer_isPasting 38 = .ok (.aload_n 0, 1) := by decide +kernel
theorem d_Replacer_isPasting_39 : decode b_Replacer_isPasting 39 = .ok (.getfield 44, 3) := by decide +kernel
theorem d_Replacer_isPasting_42 : decode b_Replacer_isPasting 42 = .ok (.getfield 106, 3) := by decide +kernel
theorem d_Replacer_isPasting_45 : decode b_Replacer_isPasting 45 = .ok (.iload_n 3, 1) := by decide +kernel
theorem d_Replacer_isPasting_46 : decode b_Replacer_isPasting 46 = .ok (.baload, 1) := by decide +kernel
theorem d_Replacer_isPasting_47 : decode b_Replacer_isPasting 47 = .ok (.bipush 35, 2) := by decide +kernel
theorem d_Replacer_isPasting_49 : decode b_Replacer_isPasting 49 = .ok (.if_icmp .ne 23, 3) := by decide +kernel
theorem d_Replacer_isPasting_52 : decode b_Replacer_isPasting 52 = .ok (.aload_n 0, 1) := by decide +kernel
theorem d_Replacer_isPasting_53 : decode b_Replacer_isPasting 53 = .ok (.getfield 44, 3) := by decide +kernel
theorem d_Replacer_isPasting_56 : decode b_Replacer_isPasting 56 = .ok (.getfield 106, 3) := by decide +kernel
theorem d_Replacer_isPasting_59 : decode b_Replacer_isPasting 59 = .ok (.iload_n 3, 1) := by decide +kernel
theorem d_Replacer_isPasting_60 : decode b_Replacer_isPasting 60 = .ok (.iconst 1, 1) := by decide +kernel
theorem d_Replacer_isPasting_61 : decode b_Replacer_isPasting 61 = .ok (.iadd, 1) := by decide +kernel
theorem d_Replacer_isPasting_62 : decode b_Replacer_isPasting 62 = .ok (.baload, 1) := by decide +kernel
theorem d_Replacer_isPasting_63 : decode b_Replacer_isPasting 63 = .ok (.bipush 35, 2) := by decide +kernel
theorem d_Replacer_isPasting_65 : decode b_Replacer_isPasting 65 = .ok (.if_icmp .ne 7, 3) := by decide +kernel
theorem d_Replacer_isPasting_68 : decode b_Replacer_isPasting 68 = .ok (.iconst 1, 1) := by decide +kernel
theorem d_Replacer_isPasting_69 : decode b_Replacer_isPasting 69 = .ok (.goto 4, 3) := by decide +kernel
theorem d_Replacer_isPasting_72 : decode b_Replacer_isPasting 72 = .ok (.iconst 0, 1) := by decide +kernel
theorem d_Replacer_isPasting_73 : decode b_Replacer_isPasting 73 = .ok (.ireturn, 1) := by decide +kernel
theorem d_Replacer_keepForDirective_0 : decode b_Replacer_keepForDirective 0 = .ok (.aload_n 0, 1) := by decide +kernel
theorem d_Replacer_keepForDirective_1 : decode b_Replacer_keepForDirective 1 = .ok (.getfield 41, 3) := by decide +kernel
theorem d_Replacer_keepForDirective_4 : decode b_Replacer_keepForDirective 4 = .ok (.bipush 61, 2) := by decide +kernel
theorem d_Replacer_keepForDirective_6 : decode b_Replacer_keepForDirective 6 = .ok (.iaload, 1) := by decide +kernel
theorem d_Replacer_keepForDirective_7 : decode b_Replacer_keepForDirective 7 = .ok (.sipush 8000, 3) := by decide +kernel
theorem d_Replacer_keepForDirective_10 : decode b_Replacer_keepForDirective 10 = .ok (.if_icmp .lt 19, 3) := by decide +kernel
theorem d_Replacer_keepForDirective_13 : decode b_Replacer_keepForDirective 13 = .ok (.aload_n 0, 1) := by decide +kernel
theorem d_Replacer_keepForDirective_14 : decode b_Replacer_keepForDirective 14 = .ok (.getfield 56, 3) := by decide +kernel
theorem d_Replacer_keepForDirective_17 : decode b_Replacer_keepForDirective 17 = .ok (.bipush 21, 2) := by decide +kernel
theorem d_Replacer_keepForDirective_19 : decode b_Replacer_keepForDirective 19 = .ok (.aload_n 0, 1) := by decide +kernel
theorem d_Replacer_keepForDirective_20 : decode b_Replacer_keepForDirective 20 = .ok (.getfield 70, 3) := by decide +kernel
theorem d_Replacer_keepForDirective_23 : decode b_Replacer_keepForDirective 23 = .ok (.invokevirtual 203, 3) := by decide +kernel
theorem d_Replacer_keepForDirective_26 : decode b_Replacer_keepForDirective 26 = .ok (.goto 11, 3) := by decide +kernel
theorem d_Replacer_keepForDirective_29 : decode b_Replacer_keepForDirective 29 = .ok (.aload_n 0, 1) := by decide +kernel
theorem d_Replacer_keepForDirective_30 : decode b_Replacer_keepForDirective 30 = .ok (.bipush 61, 2) := by decide +kernel
theorem d_Replacer_keepForDirective_32 : decode b_Replacer_keepForDirective 32 = .ok (.lload_n 1, 1) := by decide +kernel
theorem d_Replacer_keepForDirective_33 : decode b_Replacer_keepForDirective 33 = .ok (.iload_n 3, 1) := by decide +kernel
theorem d_Replacer_keepForDirective_34 : decode b_Replacer_keepForDirective 34 = .ok (.invokevirtual 162, 3) := by decide +kernel
theorem d_Replacer_keepForDirective_37 : decode b_Replacer_keepForDirective 37 = .ok (.return_, 1) := by decide +kernel
theorem d_Replacer_macroAt_0 : decode b_Replacer_macroAt 0 = .ok (.aload_n 0, 1) := by decide +kernel
theorem d_Replacer_macroAt_1 : decode b_Replacer_macroAt 1 = .ok (.getfield 44, 3) := by decide +kernel
theorem d_Replacer_macroAt_4 : decode b_Replacer_macroAt 4 = .ok (.getfield 99, 3) := by decide +kernel
theorem d_Replacer_macroAt_7 : decode b_Replacer_macroAt 7 = .ok (.iload_n 1, 1) := by decide +kernel
theorem d_Replacer_macroAt_8 : decode b_Replacer_macroAt 8 = .ok (.iaload, 1) := by decide +kernel
theorem d_Replacer_macroAt_9 : decode b_Replacer_macroAt 9 = .ok (.istore_n 3, 1) := by decide +kernel
theorem d_Replacer_macroAt_10 : decode b_Replacer_macroAt 10 = .ok (.iload_n 3, 1) := by decide +kernel
theorem d_Replacer_macroAt_11 : decode b_Replacer_macroAt 11 = .ok (.invokestatic 102, 3) := by decide +kernel
theorem d_Replacer_macroAt_14 : decode b_Replacer_macroAt 14 = .ok (.iconst 1, 1) := by decide +kernel
theorem d_Replacer_macroAt_15 : decode b_Replacer_macroAt 15 = .ok (.if_icmp .eq 5, 3) := by decide +kernel
theorem d_Replacer_macroAt_18 : decode b_Replacer_macroAt 18 = .ok (.iconst (-1), 1) := by decide +kernel
theorem d_Replacer_macroAt_19 : decode b_Replacer_macroAt 19 = .ok (.ireturn, 1) := by decide +kernel
theorem d_Replacer_macroAt_20 : decode b_Replacer_macroAt 20 = .ok (.aload_n 0, 1) := by decide +kernel
theorem d_Replacer_macroAt_21 : decode b_Replacer_macroAt 21 = .ok (.getfield 48, 3) := by decide +kernel
theorem d_Replacer_macroAt_24 : decode b_Replacer_macroAt 24 = .ok (.aload_n 0, 1) := by decide +kernel
theorem d_Replacer_macroAt_25 : decode b_Replacer_macroAt 25 = .ok (.getfield 44, 3) := by decide +kernel
theorem d_Replacer_macroAt_28 : decode b_Replacer_macroAt 28 = .ok (.getfield 106, 3) := by decide +kernel
theorem d_Replacer_macroAt_31 : decode b_Replacer_macroAt 31 = .ok (.aload_n 0, 1) := by decide +kernel
theorem d_Replacer_macroAt_32 : decode b_Replacer_macroAt 32 = .ok (.getfield 44, 3) := by decide +kernel
theorem d_Replacer_macroAt_35 : decode b_Replacer_macroAt 35 = .ok (.iload_n 1, 1) := by decide +kernel
theorem d_Replacer_macroAt_36 : decode b_Replacer_macroAt 36 = .ok (.invokevirtual 110, 3) := by decide +kernel
theorem d_Replacer_macroAt_39 : decode b_Replacer_macroAt 39 = .ok (.aload_n 0, 1) := by decide +kernel
theorem d_Replacer_macroAt_40 : decode b_Replacer_macroAt 40 = .ok (.getfield 44, 3) := by decide +kernel
theorem d_Replacer_macroAt_43 : decode b_Replacer_macroAt 43 = .ok (.iload_n 1, 1) := by decide +kernel
theorem d_Replacer_macroAt_44 : decode b_Replacer_macroAt 44 = .ok (.invokevirtual 113, 3) := by decide +kernel
theorem d_Replacer_macroAt_47 : decode b_Replacer_macroAt 47 = .ok (.invokevirtual 116, 3) := by decide +kernel
theorem d_Replacer_macroAt_50 : decode b_Replacer_macroAt 50 = .ok (.istore 4, 2) := by decide +kernel
theorem d_Replacer_macroAt_52 : decode b_Replacer_macroAt 52 = .ok (.iload 4, 2) := by decide +kernel
theorem d_Replacer_macroAt_54 : decode b_Replacer_macroAt 54 = .ok (.ifCond .lt 31, 3) := by decide +kernel
theorem d_Replacer_macroAt_57 : decode b_Replacer_macroAt 57 = .ok (.aload_n 0, 1) := by decide +kernel
theorem d_Replacer_macroAt_58 : decode b_Replacer_macroAt 58 = .ok (.getfield 48, 3) := by decide +kernel
theorem d_Replacer_macroAt_61 : decode b_Replacer_macroAt 61 = .ok (.iload 4, 2) := by decide +kernel
theorem d_Replacer_macroAt_63 : decode b_Replacer_macroAt 63 = .ok (.invokevirtual 120, 3) := by decide +kernel
theorem d_Replacer_macroAt_66 : decode b_Replacer_macroAt 66 = .ok (.ifCond .eq 19, 3) := by decide +kernel
theorem d_Replacer_macroAt_69 : decode b_Replacer_macroAt 69 = .ok (.aload_n 0, 1) := by decide +kernel
theorem d_Replacer_macroAt_70 : decode b_Replacer_macroAt 70 = .ok (.getfield 48, 3) := by decide +kernel
theorem d_Replacer_macroAt_73 : decode b_Replacer_macroAt 73 = .ok (.iload_n 3, 1) := by decide +kernel
theorem d_Replacer_macroAt_74 : decode b_Replacer_macroAt 74 = .ok (.invokestatic 124, 3) := by decide +kernel
theorem d_Replacer_macroAt_77 : decode b_Replacer_macroAt 77 = .ok (.iload 4, 2) := by decide +kernel
theorem d_Replacer_macroAt_79 : decode b_Replacer_macroAt 79 = .ok (.invokevirtual 127, 3) := by decide +kernel
theorem d_Replacer_macroAt_82 : decode b_Replacer_macroAt 82 = .ok (.ifCond .eq 5, 3) := by decide +kernel
theorem d_Replacer_macroAt_85 : decode b_Replacer_macroAt 85 = .ok (.iconst (-1), 1) := by decide +kernel
theorem d_Replacer_macroAt_86 : decode b_Replacer_macroAt 86 = .ok (.ireturn, 1) := by decide +kernel
theorem d_Replacer_macroAt_87 : decode b_Replacer_macroAt 87 = .ok (.aload_n 0, 1) := by decide +kernel
theorem d_Replacer_macroAt_88 : decode b_Replacer_macroAt 88 = .ok (.getfield 44, 3) := by decide +kernel
theorem d_Replacer_macroAt_91 : decode b_Replacer_macroAt 91 = .ok (.getfield 96, 3) := by decide +kernel
theorem d_Replacer_macroAt_94 : decode b_Replacer_macroAt 94 = .ok (.iload_n 1, 1) := by decide +kernel
theorem d_Replacer_macroAt_95 : decode b_Replacer_macroAt 95 = .ok (.iaload, 1) := by decide +kernel
theorem d_Replacer_macroAt_96 : decode b_Replacer_macroAt 96 = .ok (.istore 5, 2) := by decide +kernel
theorem d_Replacer_macroAt_98 : decode b_Replacer_macroAt 98 = .ok (.aload_n 0, 1) := by decide +kernel
theorem d_Replacer_macroAt_99 : decode b_Replacer_macroAt 99 = .ok (.getfield 48, 3) := by decide +kernel
theorem d_Replacer_macroAt_102 : decode b_Replacer_macroAt 102 = .ok (.iload 4, 2) := by decide +kernel
theorem d_Replacer_macroAt_104 : decode b_Replacer_macroAt 104 = .ok (.invokevirtual 131, 3) := by decide +kernel
theorem d_Replacer_macroAt_107 : decode b_Replacer_macroAt 107 = .ok (.ifCond .eq 23, 3) := by decide +kernel
theorem d_Replacer_macroAt_110 : decode b_Replacer_macroAt 110 = .ok (.iload 5, 2) := by decide +kernel
theorem d_Replacer_macroAt_112 : decode b_Replacer_macroAt 112 = .ok (.iload_n 2, 1) := by decide +kernel
theorem d_Replacer_macroAt_113 : decode b_Replacer_macroAt 113 = .ok (.if_icmp .eq 21, 3) := by decide +kernel
theorem d_Replacer_macroAt_116 : decode b_Replacer_macroAt 116 = .ok (.aload_n 0, 1) := by decide +kernel
theorem d_Replacer_macroAt_117 : decode b_Replacer_macroAt 117 = .ok (.getfield 44, 3) := by decide +kernel
theorem d_Replacer_macroAt_120 : decode b_Replacer_macroAt 120 = .ok (.iload 5, 2) := by decide +kernel
theorem d_Replacer_macroAt_122 : decode b_Replacer_macroAt 122 = .ok (.bipush 40, 2) := by decide +kernel
theorem d_Replacer_macroAt_124 : decode b_Replacer_macroAt 124 = .ok (.invokevirtual 134, 3) := by decide +kernel
theorem d_Replacer_macroAt_127 : decode b_Replacer_macroAt 127 = .ok (.ifCond .eq 7, 3) := by decide +kernel
theorem d_Replacer_macroAt_130 : decode b_Replacer_macroAt 130 = .ok (.iconst 1, 1) := by decide +kernel
theorem d_Replacer_macroAt_131 : decode b_Replacer_macroAt 131 = .ok (.goto 4, 3) := by decide +kernel
theorem d_Replacer_macroAt_134 : decode b_Replacer_macroAt 134 = .ok (.iconst 0, 1) := by decide +kernel
theorem d_Replacer_macroAt_135 : decode b_Replacer_macroAt 135 = .ok (.istore 6, 2) := by decide +kernel
theorem d_Replacer_macroAt_137 : decode b_Replacer_macroAt 137 = .ok (.iload 6, 2) := by decide +kernel
theorem d_Replacer_macroAt_139 : decode b_Replacer_macroAt 139 = .ok (.ifCond .eq 8, 3) := by decide +kernel
theorem d_Replacer_macroAt_142 : decode b_Replacer_macroAt 142 = .ok (.iload 4, 2) := by decide +kernel
theorem d_Replacer_macroAt_144 : decode b_Replacer_macroAt 144 = .ok (.goto 4, 3) := by decide +kernel
theorem d_Replacer_macroAt_147 : decode b_Replacer_macroAt 147 = .ok (.iconst (-1), 1) := by decide +kernel
theorem d_Replacer_macroAt_148 : decode b_Replacer_macroAt 148 = .ok (.ireturn, 1) := by decide +kernel
theorem d_Replacer_parameterAt_0 : decode b_Replacer_parameterAt 0 = .ok (.iload_n 1, 1) := by decide +kernel
theorem d_Replacer_parameterAt_1 : decode b_Replacer_parameterAt 1 = .ok (.iload_n 2, 1) := by decide +kernel
theorem d_Replacer_parameterAt_2 : decode b_Replacer_parameterAt 2 = .ok (.if_icmp .ge 20, 3) := by decide +kernel
theorem d_Replacer_parameterAt_5 : decode b_Replacer_parameterAt 5 = .ok (.aload_n 0, 1) := by decide +kernel
theorem d_Replacer_parameterAt_6 : decode b_Replacer_parameterAt 6 = .ok (.getfield 48, 3) := by decide +kernel
theorem d_Replacer_parameterAt_9 : decode b_Replacer_parameterAt 9 = .ok (.getfield 261, 3) := by decide +kernel
theorem d_Replacer_parameterAt_12 : decode b_Replacer_parameterAt 12 = .ok (.iload_n 1, 1) := by decide +kernel
theorem d_Replacer_parameterAt_13 : decode b_Replacer_parameterAt 13 = .ok (.iaload, 1) := by decide +kernel
theorem d_Replacer_parameterAt_14 : decode b_Replacer_parameterAt 14 = .ok (.invokestatic 124, 3) := by decide +kernel
theorem d_Replacer_parameterAt_17 : decode b_Replacer_parameterAt 17 = .ok (.iconst 1, 1) := by decide +kernel
theorem d_Replacer_parameterAt_18 : decode b_Replacer_parameterAt 18 = .ok (.isub, 1) := by decide +kernel
theorem d_Replacer_parameterAt_19 : decode b_Replacer_parameterAt 19 = .ok (.goto 4, 3) := by decide +kernel
theorem d_Replacer_parameterAt_22 : decode b_Replacer_parameterAt 22 = .ok (.iconst (-1), 1) := by decide +kernel
theorem d_Replacer_parameterAt_23 : decode b_Replacer_parameterAt 23 = .ok (.ireturn, 1) := by decide +kernel
theorem d_Replacer_put_0 : decode b_Replacer_put 0 = .ok (.aload_n 0, 1) := by decide +kernel
theorem d_Replacer_put_1 : decode b_Replacer_put 1 = .ok (.getfield 56, 3) := by decide +kernel
theorem d_Replacer_put_4 : decode b_Replacer_put 4 = .ok (.getfield 242, 3) := by decide +kernel
theorem d_Replacer_put_7 : decode b_Replacer_put 7 = .ok (.ldc 245, 2) := by decide +kernel
theorem d_Replacer_put_9 : decode b_Replacer_put 9 = .ok (.if_icmp .lt 15, 3) := by decide +kernel
theorem d_Replacer_put_12 : decode b_Replacer_put 12 = .ok (.aload_n 0, 1) := by decide +kernel
theorem d_Replacer_put_13 : decode b_Replacer_put 13 = .ok (.getfield 56, 3) := by decide +kernel
theorem d_Replacer_put_16 : decode b_Replacer_put 16 = .ok (.bipush 21, 2) := by decide +kernel
theorem d_Replacer_put_18 : decode b_Replacer_put 18 = .ok (.iload 5, 2) := by decide +kernel
theorem d_Replacer_put_20 : decode b_Replacer_put 20 = .ok (.invokevirtual 203, 3) := by decide +kernel
theorem d_Replacer_put_23 : decode b_Replacer_put 23 = .ok (.return_, 1) := by decide +kernel
theorem d_Replacer_put_24 : decode b_Replacer_put 24 = .ok (.aload_n 0, 1) := by decide +kernel
theorem d_Replacer_put_25 : decode b_Replacer_put 25 = .ok (.getfield 56, 3) := by decide +kernel
theorem d_Replacer_put_28 : decode b_Replacer_put 28 = .ok (.dup, 1) := by decide +kernel
theorem d_Replacer_put_29 : decode b_Replacer_put 29 = .ok (.getfield 242, 3) := by decide +kernel
theorem d_Replacer_put_32 : decode b_Replacer_put 32 = .ok (.iconst 1, 1) := by decide +kernel
theorem d_Replacer_put_33 : decode b_Replacer_put 33 = .ok (.iadd, 1) := by decide +kernel
theorem d_Replacer_put_34 : decode b_Replacer_put 34 = .ok (.putfield 242, 3) := by decide +kernel
theorem d_Replacer_put_37 : decode b_Replacer_put 37 = .ok (.aload_n 0, 1) := by decide +kernel
theorem d_Replacer_put_38 : decode b_Replacer_put 38 = .ok (.iload_n 1, 1) := by decide +kernel
theorem d_Replacer_put_39 : decode b_Replacer_put 39 = .ok (.lload_n 2, 1) := by decide +kernel
theorem d_Replacer_put_40 : decode b_Replacer_put 40 = .ok (.iload 4, 2) := by decide +kernel
theorem d_Replacer_put_42 : decode b_Replacer_put 42 = .ok (.invokestatic 159, 3) := by decide +kernel
theorem d_Replacer_put_45 : decode b_Replacer_put 45 = .ok (.invokevirtual 162, 3) := by decide +kernel
theorem d_Replacer_put_48 : decode b_Replacer_put 48 = .ok (.return_, 1) := by decide +kernel
theorem d_Replacer_putArgument_0 : decode b_Replacer_putArgument 0 = .ok (.iload_n 1, 1) := by decide +kernel
theorem d_Replacer_putArgument_1 : decode b_Replacer_putArgument 1 = .ok (.bipush 30, 2) := by decide +kernel
theorem d_Replacer_putArgument_3 : decode b_Replacer_putArgument 3 = .ok (.imul, 1) := by decide +kernel
theorem d_Replacer_putArgument_4 : decode b_Replacer_putArgument 4 = .ok (.iload_n 2, 1) := by decide +kernel
theorem d_Replacer_putArgument_5 : decode b_Replacer_putArgument 5 = .ok (.iadd, 1) := by decide +kernel
theorem d_Replacer_putArgument_6 : decode b_Replacer_putArgument 6 = .ok (.istore 5, 2) := by decide +kernel
theorem d_Replacer_putArgument_8 : decode b_Replacer_putArgument 8 = .ok (.aload_n 0, 1) := by decide +kernel
theorem d_Replacer_putArgument_9 : decode b_Replacer_putArgument 9 = .ok (.getfield 13, 3) := by decide +kernel
theorem d_Replacer_putArgument_12 : decode b_Replacer_putArgument 12 = .ok (.iload 5, 2) := by decide +kernel
theorem d_Replacer_putArgument_14 : decode b_Replacer_putArgument 14 = .ok (.iaload, 1) := by decide +kernel
theorem d_Replacer_putArgument_15 : decode b_Replacer_putArgument 15 = .ok (.istore 6, 2) := by decide +kernel
theorem d_Replacer_putArgument_17 : decode b_Replacer_putArgument 17 = .ok (.iconst 0, 1) := by decide +kernel
theorem d_Replacer_putArgument_18 : decode b_Replacer_putArgument 18 = .ok (.istore 7, 2) := by decide +kernel
theorem d_Replacer_putArgument_20 : decode b_Replacer_putArgument 20 = .ok (.iload 7, 2) := by decide +kernel
theorem d_Replacer_putArgument_22 : decode b_Replacer_putArgument 22 = .ok (.ldc 78, 2) := by decide +kernel
theorem d_Replacer_putArgument_24 : decode b_Replacer_putArgument 24 = .ok (.if_icmp .ge 76, 3) := by decide +kernel
theorem d_Replacer_putArgument_27 : decode b_Replacer_putArgument 27 = .ok (.iload 6, 2) := by decide +kernel
theorem d_Replacer_putArgument_29 : decode b_Replacer_putArgument 29 = .ok (.aload_n 0, 1) := by decide +kernel
theorem d_Replacer_putArgument_30 : decode b_Replacer_putArgument 30 = .ok (.getfield 17, 3) := by decide +kernel
theorem d_Replacer_putArgument_33 : decode b_Replacer_putArgument 33 = .ok (.iload 5, 2) := by decide +kernel
theorem d_Replacer_putArgument_35 : decode b_Replacer_putArgument 35 = .ok (.iaload, 1) := by decide +kernel
theorem d_Replacer_putArgument_36 : decode b_Replacer_putArgument 36 = .ok (.if_icmp .eq 64, 3) := by decide +kernel
theorem d_Replacer_putArgument_39 : decode b_Replacer_putArgument 39 = .ok (.aload_n 0, 1) := by decide +kernel
theorem d_Replacer_putArgument_40 : decode b_Replacer_putArgument 40 = .ok (.getfield 56, 3) := by decide +kernel
theorem d_Replacer_putArgument_43 : decode b_Replacer_putArgument 43 = .ok (.invokevirtual 79, 3) := by decide +kernel
theorem d_Replacer_putArgument_46 : decode b_Replacer_putArgument 46 = .ok (.ifCond .eq 54, 3) := by decide +kernel
theorem d_Replacer_putArgument_49 : decode b_Replacer_putArgument 49 = .ok (.iload 7, 2) := by decide +kernel
theorem d_Replacer_putArgument_51 : decode b_Replacer_putArgument 51 = .ok (.iload_n 3, 1) := by decide +kernel
theorem d_Replacer_putArgument_52 : decode b_Replacer_putArgument 52 = .ok (.if_icmp .lt 30, 3) := by decide +kernel
theorem d_Replacer_putArgument_55 : decode b_Replacer_putArgument 55 = .ok (.aload_n 0, 1) := by decide +kernel
theorem d_Replacer_putArgument_56 : decode b_Replacer_putArgument 56 = .ok (.iload_n 1, 1) := by decide +kernel
theorem d_Replacer_putArgument_57 : decode b_Replacer_putArgument 57 = .ok (.aload_n 0, 1) := by decide +kernel
theorem d_Replacer_putArgument_58 : decode b_Replacer_putArgument 58 = .ok (.getfield 44, 3) := by decide +kernel
theorem d_Replacer_putArgument_61 : decode b_Replacer_putArgument 61 = .ok (.getfield 137, 3) := by decide +kernel
theorem d_Replacer_putArgument_64 : decode b_Replacer_putArgument 64 = .ok (.iload 6, 2) := by decide +kernel
theorem d_Replacer_putArgument_66 : decode b_Replacer_putArgument 66 = .ok (.laload, 1) := by decide +kernel
theorem d_Replacer_putArgument_67 : decode b_Replacer_putArgument 67 = .ok (.aload_n 0, 1) := by decide +kernel
theorem d_Replacer_putArgument_68 : decode b_Replacer_putArgument 68 = .ok (.getfield 44, 3) := by decide +kernel
theorem d_Replacer_putArgument_71 : decode b_Replacer_putArgument 71 = .ok (.getfield 99, 3) := by decide +kernel
theorem d_Replacer_putArgument_74 : decode b_Replacer_putArgument 74 = .ok (.iload 6, 2) := by decide +kernel
theorem d_Replacer_putArgument_76 : decode b_Replacer_putArgument 76 = .ok (.iaload, 1) := by decide +kernel
theorem d_Replacer_putArgument_77 : decode b_Replacer_putArgument 77 = .ok (.iload 4, 2) := by decide +kernel
theorem d_Replacer_putArgument_79 : decode b_Replacer_putArgument 79 = .ok (.invokevirtual 286, 3) := by decide +kernel
theorem d_Replacer_putArgument_82 : decode b_Replacer_putArgument 82 = .ok (.aload_n 0, 1) := by decide +kernel
theorem d_Replacer_putArgument_83 : decode b_Replacer_putArgument 83 = .ok (.getfield 44, 3) := by decide +kernel
theorem d_Replacer_putArgument_86 : decode b_Replacer_putArgument 86 = .ok (.getfield 96, 3) := by decide +kernel
theorem d_Replacer_putArgument_89 : decode b_Replacer_putArgument 89 = .ok (.iload 6, 2) := by decide +kernel
theorem d_Replacer_putArgument_91 : decode b_Replacer_putArgument 91 = .ok (.iaload, 1) := by decide +kernel
theorem d_Replacer_putArgument_92 : decode b_Replacer_putArgument 92 = .ok (.istore 6, 2) := by decide +kernel
theorem d_Replacer_putArgument_94 : decode b_Replacer_putArgument 94 = .ok (.iinc 7 1, 3) := by decide +kernel
theorem d_Replacer_putArgument_97 : decode b_Replacer_putArgument 97 = .ok (.goto (-77), 3) := by decide +kernel
theorem d_Replacer_putArgument_100 : decode b_Replacer_putArgument 100 = .ok (.return_, 1) := by decide +kernel
theorem d_Replacer_putKept_0 : decode b_Replacer_putKept 0 = .ok (.aload_n 0, 1) := by decide +kernel
theorem d_Replacer_putKept_1 : decode b_Replacer_putKept 1 = .ok (.getfield 56, 3) := by decide +kernel
theorem d_Replacer_putKept_4 : decode b_Replacer_putKept 4 = .ok (.dup, 1) := by decide +kernel
theorem d_Replacer_putKept_5 : decode b_Replacer_putKept 5 = .ok (.getfield 242, 3) := by decide +kernel
theorem d_Replacer_putKept_8 : decode b_Replacer_putKept 8 = .ok (.aload_n 0, 1) := by decide +kernel
theorem d_Replacer_putKept_9 : decode b_Replacer_putKept 9 = .ok (.getfield 29, 3) := by decide +kernel
theorem d_Replacer_putKept_12 : decode b_Replacer_putKept 12 = .ok (.iload_n 2, 1) := by decide +kernel
theorem d_Replacer_putKept_13 : decode b_Replacer_putKept 13 = .ok (.iaload, 1) := by decide +kernel
theorem d_Replacer_putKept_14 : decode b_Replacer_putKept 14 = .ok (.iadd, 1) := by decide +kernel
theorem d_Replacer_putKept_15 : decode b_Replacer_putKept 15 = .ok (.putfield 242, 3) := by decide +kernel
theorem d_Replacer_putKept_18 : decode b_Replacer_putKept 18 = .ok (.aload_n 0, 1) := by decide +kernel
theorem d_Replacer_putKept_19 : decode b_Replacer_putKept 19 = .ok (.getfield 44, 3) := by decide +kernel
theorem d_Replacer_putKept_22 : decode b_Replacer_putKept 22 = .ok (.dup, 1) := by decide +kernel
theorem d_Replacer_putKept_23 : decode b_Replacer_putKept 23 = .ok (.getfield 176, 3) := by decide +kernel
theorem d_Replacer_putKept_26 : decode b_Replacer_putKept 26 = .ok (.aload_n 0, 1) := by decide +kernel
theorem d_Replacer_putKept_27 : decode b_Replacer_putKept 27 = .ok (.getfield 32, 3) := by decide +kernel
theorem d_Replacer_putKept_30 : decode b_Replacer_putKept 30 = .ok (.iload_n 2, 1) := by decide +kernel
theorem d_Replacer_putKept_31 : decode b_Replacer_putKept 31 = .ok (.iaload, 1) := by decide +kernel
theorem d_Replacer_putKept_32 : decode b_Replacer_putKept 32 = .ok (.iadd, 1) := by decide +kernel
theorem d_Replacer_putKept_33 : decode b_Replacer_putKept 33 = .ok (.putfield 176, 3) := by decide +kernel
theorem d_Replacer_putKept_36 : decode b_Replacer_putKept 36 = .ok (.aload_n 0, 1) := by decide +kernel
theorem d_Replacer_putKept_37 : decode b_Replacer_putKept 37 = .ok (.getfield 20, 3) := by decide +kernel
theorem d_Replacer_putKept_40 : decode b_Replacer_putKept 40 = .ok (.iload_n 2, 1) := by decide +kernel
theorem d_Replacer_putKept_41 : decode b_Replacer_putKept 41 = .ok (.iaload, 1) := by decide +kernel
theorem d_Replacer_putKept_42 : decode b_Replacer_putKept 42 = .ok (.istore 4, 2) := by decide +kernel
theorem d_Replacer_putKept_44 : decode b_Replacer_putKept 44 = .ok (.iconst 0, 1) := by decide +kernel
theorem d_Replacer_putKept_45 : decode b_Replacer_putKept 45 = .ok (.istore 5, 2) := by decide +kernel
theorem d_Replacer_putKept_47 : decode b_Replacer_putKept 47 = .ok (.iload 5, 2) := by decide +kernel
theorem d_Replacer_putKept_49 : decode b_Replacer_putKept 49 = .ok (.aload_n 0, 1) := by decide +kernel
theorem d_Replacer_putKept_50 : decode b_Replacer_putKept 50 = .ok (.getfield 26, 3) := by decide +kernel
theorem d_Replacer_putKept_53 : decode b_Replacer_putKept 53 = .ok (.iload_n 2, 1) := by decide +kernel
theorem d_Replacer_putKept_54 : decode b_Replacer_putKept 54 = .ok (.iaload, 1) := by decide +kernel
theorem d_Replacer_putKept_55 : decode b_Replacer_putKept 55 = .ok (.if_icmp .ge 57, 3) := by decide +kernel
theorem d_Replacer_putKept_58 : decode b_Replacer_putKept 58 = .ok (.aload_n 0, 1) := by decide +kernel
theorem d_Replacer_putKept_59 : decode b_Replacer_putKept 59 = .ok (.getfield 56, 3) := by decide +kernel
theorem d_Replacer_putKept_62 : decode b_Replacer_putKept 62 = .ok (.invokevirtual 79, 3) := by decide +kernel
theorem d_Replacer_putKept_65 : decode b_Replacer_putKept 65 = .ok (.ifCond .eq 47, 3) := by decide +kernel
theorem d_Replacer_putKept_68 : decode b_Replacer_putKept 68 = .ok (.aload_n 0, 1) := by decide +kernel
theorem d_Replacer_putKept_69 : decode b_Replacer_putKept 69 = .ok (.iload_n 1, 1) := by decide +kernel
theorem d_Replacer_putKept_70 : decode b_Replacer_putKept 70 = .ok (.aload_n 0, 1) := by decide +kernel
theorem d_Replacer_putKept_71 : decode b_Replacer_putKept 71 = .ok (.getfield 44, 3) := by decide +kernel
theorem d_Replacer_putKept_74 : decode b_Replacer_putKept 74 = .ok (.getfield 137, 3) := by decide +kernel
theorem d_Replacer_putKept_77 : decode b_Replacer_putKept 77 = .ok (.iload 4, 2) := by decide +kernel
theorem d_Replacer_putKept_79 : decode b_Replacer_putKept 79 = .ok (.laload, 1) := by decide +kernel
theorem d_Replacer_putKept_80 : decode b_Replacer_putKept 80 = .ok (.aload_n 0, 1) := by decide +kernel
theorem d_Replacer_putKept_81 : decode b_Replacer_putKept 81 = .ok (.getfield 44, 3) := by decide +kernel
theorem d_Replacer_putKept_84 : decode b_Replacer_putKept 84 = .ok (.getfield 99, 3) := by decide +kernel
theorem d_Replacer_putKept_87 : decode b_Replacer_putKept 87 = .ok (.iload 4, 2) := by decide +kernel
theorem d_Replacer_putKept_89 : decode b_Replacer_putKept 89 = .ok (.iaload, 1) := by decide +kernel
theorem d_Replacer_putKept_90 : decode b_Replacer_putKept 90 = .ok (.iload_n 3, 1) := by decide +kernel
theorem d_Replacer_putKept_91 : decode b_Replacer_putKept 91 = .ok (.invokevirtual 286, 3) := by decide +kernel
theorem d_Replacer_putKept_94 : decode b_Replacer_putKept 94 = .ok (.aload_n 0, 1) := by decide +kernel
theorem d_Replacer_putKept_95 : decode b_Replacer_putKept 95 = .ok (.getfield 44, 3) := by decide +kernel
theorem d_Replacer_putKept_98 : decode b_Replacer_putKept 98 = .ok (.getfield 96, 3) := by decide +kernel
theorem d_Replacer_putKept_101 : decode b_Replacer_putKept 101 = .ok (.iload 4, 2) := by decide +kernel
theorem d_Replacer_putKept_103 : decode b_Replacer_putKept 103 = .ok (.iaload, 1) := by decide +kernel
theorem d_Replacer_putKept_104 : decode b_Replacer_putKept 104 = .ok (.istore 4, 2) := by decide +kernel
theorem d_Replacer_putKept_106 : decode b_Replacer_putKept 106 = .ok (.iinc 5 1, 3) := by decide +kernel
theorem d_Replacer_putKept_109 : decode b_Replacer_putKept 109 = .ok (.goto (-62), 3) := by decide +kernel
theorem d_Replacer_putKept_112 : decode b_Replacer_putKept 112 = .ok (.return_, 1) := by decide +kernel
theorem d_Replacer_putText_0 : decode b_Replacer_putText 0 = .ok (.iload_n 1, 1) := by decide +kernel
theorem d_Replacer_putText_1 : decode b_Replacer_putText 1 = .ok (.bipush 30, 2) := by decide +kernel
theorem d_Replacer_putText_3 : decode b_Replacer_putText 3 = .ok (.imul, 1) := by decide +kernel
theorem d_Replacer_putText_4 : decode b_Replacer_putText 4 = .ok (.iload_n 2, 1) := by decide +kernel
theorem d_Replacer_putText_5 : decode b_Replacer_putText 5 = .ok (.iadd, 1) := by decide +kernel
theorem d_Replacer_putText_6 : decode b_Replacer_putText 6 = .ok (.istore 5, 2) := by decide +kernel
theorem d_Replacer_putText_8 : decode b_Replacer_putText 8 = .ok (.aload_n 0, 1) := by decide +kernel
theorem d_Replacer_putText_9 : decode b_Replacer_putText 9 = .ok (.getfield 44, 3) := by decide +kernel
theorem d_Replacer_putText_12 : decode b_Replacer_putText 12 = .ok (.getfield 176, 3) := by decide +kernel
theorem d_Replacer_putText_15 : decode b_Replacer_putText 15 = .ok (.istore 6, 2) := by decide +kernel
theorem d_Replacer_putText_17 : decode b_Replacer_putText 17 = .ok (.aload_n 0, 1) := by decide +kernel
theorem d_Replacer_putText_18 : decode b_Replacer_putText 18 = .ok (.getfield 13, 3) := by decide +kernel
theorem d_Replacer_putText_21 : decode b_Replacer_putText 21 = .ok (.iload 5, 2) := by decide +kernel
theorem d_Replacer_putText_23 : decode b_Replacer_putText 23 = .ok (.iaload, 1) := by decide +kernel
theorem d_Replacer_putText_24 : decode b_Replacer_putText 24 = .ok (.istore 7, 2) := by decide +kernel
theorem d_Replacer_putText_26 : decode b_Replacer_putText 26 = .ok (.aload_n 0, 1) := by decide +kernel
theorem d_Replacer_putText_27 : decode b_Replacer_putText 27 = .ok (.getfield 44, 3) := by decide +kernel
theorem d_Replacer_putText_30 : decode b_Replacer_putText 30 = .ok (.bipush 34, 2) := by decide +kernel
theorem d_Replacer_putText_32 : decode b_Replacer_putText 32 = .ok (.invokevirtual 194, 3) := by decide +kernel
theorem d_Replacer_putText_35 : decode b_Replacer_putText 35 = .ok (.iconst 0, 1) := by decide +kernel
theorem d_Replacer_putText_36 : decode b_Replacer_putText 36 = .ok (.istore 8, 2) := by decide +kernel
theorem d_Replacer_putText_38 : decode b_Replacer_putText 38 = .ok (.iload 8, 2) := by decide +kernel
theorem d_Replacer_putText_40 : decode b_Replacer_putText 40 = .ok (.ldc 78, 2) := by decide +kernel
theorem d_Replacer_putText_42 : decode b_Replacer_putText 42 = .ok (.if_icmp .ge 79, 3) := by decide +kernel
theorem d_Replacer_putText_45 : decode b_Replacer_putText 45 = .ok (.iload 7, 2) := by decide +kernel
theorem d_Replacer_putText_47 : decode b_Replacer_putText 47 = .ok (.aload_n 0, 1) := by decide +kernel
theorem d_Replacer_putText_48 : decode b_Replacer_putText 48 = .ok (.getfield 17, 3) := by decide +kernel
theorem d_Replacer_putText_51 : decode b_Replacer_putText 51 = .ok (.iload 5, 2) := by decide +kernel
theorem d_Replacer_putText_53 : decode b_Replacer_putText 53 = .ok (.iaload, 1) := by decide +kernel
theorem d_Replacer_putText_54 : decode b_Replacer_putText 54 = .ok (.if_icmp .eq 67, 3) := by decide +kernel
theorem d_Replacer_putText_57 : decode b_Replacer_putText 57 = .ok (.aload_n 0, 1) := by decide +kernel
theorem d_Replacer_putText_58 : decode b_Replacer_putText 58 = .ok (.getfield 44, 3) := by decide +kernel
theorem d_Replacer_putText_61 : decode b_Replacer_putText 61 = .ok (.invokevirtual 200, 3) := by decide +kernel
theorem d_Replacer_putText_64 : decode b_Replacer_putText 64 = .ok (.ifCond .ne 57, 3) := by decide +kernel
theorem d_Replacer_putText_67 : decode b_Replacer_putText 67 = .ok (.iload 8, 2) := by decide +kernel
theorem d_Replacer_putText_69 : decode b_Replacer_putText 69 = .ok (.ifCond .le 28, 3) := by decide +kernel
theorem d_Replacer_putText_72 : decode b_Replacer_putText 72 = .ok (.aload_n 0, 1) := by decide +kernel
theorem d_Replacer_putText_73 : decode b_Replacer_putText 73 = .ok (.getfield 44, 3) := by decide +kernel
theorem d_Replacer_putText_76 : decode b_Replacer_putText 76 = .ok (.getfield 99, 3) := by decide +kernel
theorem d_Replacer_putText_79 : decode b_Replacer_putText 79 = .ok (.iload 7, 2) := by decide +kernel
theorem d_Replacer_putText_81 : decode b_Replacer_putText 81 = .ok (.iaload, 1) := by decide +kernel
theorem d_Replacer_putText_82 : decode b_Replacer_putText 82 = .ok (.invokestatic 312, 3) := by decide +kernel
theorem d_Replacer_putText_85 : decode b_Replacer_putText 85 = .ok (.ifCond .eq 12, 3) := by decide +kernel
theorem d_Replacer_putText_88 : decode b_Replacer_putText 88 = .ok (.aload_n 0, 1) := by decide +kernel
theorem d_Replacer_putText_89 : decode b_Replacer_putText 89 = .ok (.getfield 44, 3) := by decide +kernel
theorem d_Replacer_putText_92 : decode b_Replacer_putText 92 = .ok (.bipush 32, 2) := by decide +kernel
theorem d_Replacer_putText_94 : decode b_Replacer_putText 94 = .ok (.invokevirtual 194, 3) := by decide +kernel
theorem d_Replacer_putText_97 : decode b_Replacer_putText 97 = .ok (.aload_n 0, 1) := by decide +kernel
theorem d_Replacer_putText_98 : decode b_Replacer_putText 98 = .ok (.iload 7, 2) := by decide +kernel
theorem d_Replacer_putText_100 : decode b_Replacer_putText 100 = .ok (.invokevirtual 315, 3) := by decide +kernel
theorem d_Replacer_putText_103 : decode b_Replacer_putText 103 = .ok (.aload_n 0, 1) := by decide +kernel
theorem d_Replacer_putText_104 : decode b_Replacer_putText 104 = .ok (.getfield 44, 3) := by decide +kernel
theorem d_Replacer_putText_107 : decode b_Replacer_putText 107 = .ok (.getfield 96, 3) := by decide +kernel
theorem d_Replacer_putText_110 : decode b_Replacer_putText 110 = .ok (.iload 7, 2) := by decide +kernel
theorem d_Replacer_putText_112 : decode b_Replacer_putText 112 = .ok (.iaload, 1) := by decide +kernel
theorem d_Replacer_putText_113 : decode b_Replacer_putText 113 = .ok (.istore 7, 2) := by decide +kernel
theorem d_Replacer_putText_115 : decode b_Replacer_putText 115 = .ok (.iinc 8 1, 3) := by decide +kernel
theorem d_Replacer_putText_118 : decode b_Replacer_putText 118 = .ok (.goto (-80), 3) := by decide +kernel
theorem d_Replacer_putText_121 : decode b_Replacer_putText 121 = .ok (.aload_n 0, 1) := by decide +kernel
theorem d_Replacer_putText_122 : decode b_Replacer_putText 122 = .ok (.getfield 44, 3) := by decide +kernel
theorem d_Replacer_putText_125 : decode b_Replacer_putText 125 = .ok (.bipush 34, 2) := by decide +kernel
theorem d_Replacer_putText_127 : decode b_Replacer_putText 127 = .ok (.invokevirtual 194, 3) := by decide +kernel
theorem d_Replacer_putText_130 : decode b_Replacer_putText 130 = .ok (.aload_n 0, 1) := by decide +kernel
theorem d_Replacer_putText_131 : decode b_Replacer_putText 131 = .ok (.iload 6, 2) := by decide +kernel
theorem d_Replacer_putText_133 : decode b_Replacer_putText 133 = .ok (.iload 4, 2) := by decide +kernel
theorem d_Replacer_putText_135 : decode b_Replacer_putText 135 = .ok (.invokevirtual 190, 3) := by decide +kernel
theorem d_Replacer_putText_138 : decode b_Replacer_putText 138 = .ok (.lstore 8, 2) := by decide +kernel
theorem d_Replacer_putText_140 : decode b_Replacer_putText 140 = .ok (.aload_n 0, 1) := by decide +kernel
theorem d_Replacer_putText_141 : decode b_Replacer_putText 141 = .ok (.getfield 56, 3) := by decide +kernel
theorem d_Replacer_putText_144 : decode b_Replacer_putText 144 = .ok (.invokevirtual 79, 3) := by decide +kernel
theorem d_Replacer_putText_147 : decode b_Replacer_putText 147 = .ok (.ifCond .eq 30, 3) := by decide +kernel
theorem d_Replacer_putText_150 : decode b_Replacer_putText 150 = .ok (.iload_n 3, 1) := by decide +kernel
theorem d_Replacer_putText_151 : decode b_Replacer_putText 151 = .ok (.iconst 0, 1) := by decide +kernel
theorem d_Replacer_putText_152 : decode b_Replacer_putText 152 = .ok (.invokestatic 270, 3) := by decide +kernel
theorem d_Replacer_putText_155 : decode b_Replacer_putText 155 = .ok (.iconst 3, 1) := by decide +kernel
theorem d_Replacer_putText_156 : decode b_Replacer_putText 156 = .ok (.invokestatic 151, 3) := by decide +kernel
theorem d_Replacer_putText_159 : decode b_Replacer_putText 159 = .ok (.istore 10, 2) := by decide +kernel
theorem d_Replacer_putText_161 : decode b_Replacer_putText 161 = .ok (.aload_n 0, 1) := by decide +kernel
theorem d_Replacer_putText_162 : decode b_Replacer_putText 162 = .ok (.iload_n 1, 1) := by decide +kernel
theorem d_Replacer_putText_163 : decode b_Replacer_putText 163 = .ok (.lload 8, 2) := by decide +kernel
theorem d_Replacer_putText_165 : decode b_Replacer_putText 165 = .ok (.iload 10, 2) := by decide +kernel
theorem d_Replacer_putText_167 : decode b_Replacer_putText 167 = .ok (.iload 4, 2) := by decide +kernel
theorem d_Replacer_putText_169 : decode b_Replacer_putText 169 = .ok (.invokestatic 273, 3) := by decide +kernel
theorem d_Replacer_putText_172 : decode b_Replacer_putText 172 = .ok (.iload 4, 2) := by decide +kernel
theorem d_Replacer_putText_174 : decode b_Replacer_putText 174 = .ok (.invokevirtual 286, 3) := by decide +kernel
theorem d_Replacer_putText_177 : decode b_Replacer_putText 177 = .ok (.return_, 1) := by decide +kernel
theorem d_Replacer_spellFile_0 : decode b_Replacer_spellFile 0 = .ok (.aload_n 0, 1) := by decide +kernel
theorem d_Replacer_spellFile_1 : decode b_Replacer_spellFile 1 = .ok (.getfield 44, 3) := by decide +kernel
theorem d_Replacer_spellFile_4 : decode b_Replacer_spellFile 4 = .ok (.getfield 176, 3) := by decide +kernel
theorem d_Replacer_spellFile_7 : decode b_Replacer_spellFile 7 = .ok (.istore_n 2, 1) := by decide +kernel
theorem d_Replacer_spellFile_8 : decode b_Replacer_spellFile 8 = .ok (.aload_n 0, 1) := by decide +kernel
theorem d_Replacer_spellFile_9 : decode b_Replacer_spellFile 9 = .ok (.getfield 44, 3) := by decide +kernel
theorem d_Replacer_spellFile_12 : decode b_Replacer_spellFile 12 = .ok (.bipush 34, 2) := by decide +kernel
theorem d_Replacer_spellFile_14 : decode b_Replacer_spellFile 14 = .ok (.invokevirtual 194, 3) := by decide +kernel
theorem d_Replacer_spellFile_17 : decode b_Replacer_spellFile 17 = .ok (.iconst 0, 1) := by decide +kernel
theorem d_Replacer_spellFile_18 : decode b_Replacer_spellFile 18 = .ok (.istore_n 3, 1) := by decide +kernel
theorem d_Replacer_spellFile_19 : decode b_Replacer_spellFile 19 = .ok (.iload_n 3, 1) := by decide +kernel
theorem d_Replacer_spellFile_20 : decode b_Replacer_spellFile 20 = .ok (.bipush 64, 2) := by decide +kernel
theorem d_Replacer_spellFile_22 : decode b_Replacer_spellFile 22 = .ok (.if_icmp .ge 62, 3) := by decide +kernel
theorem d_Replacer_spellFile_25 : decode b_Replacer_spellFile 25 = .ok (.aload_n 0, 1) := by decide +kernel
theorem d_Replacer_spellFile_26 : decode b_Replacer_spellFile 26 = .ok (.getfield 52, 3) := by decide +kernel
theorem d_Replacer_spellFile_29 : decode b_Replacer_spellFile 29 = .ok (.iload_n 3, 1) := by decide +kernel
theorem d_Replacer_spellFile_30 : decode b_Replacer_spellFile 30 = .ok (.invokevirtual 197, 3) := by decide +kernel
theorem d_Replacer_spellFile_33 : decode b_Replacer_spellFile 33 = .ok (.ifCond .lt 51, 3) := by decide +kernel
theorem d_Replacer_spellFile_36 : decode b_Replacer_spellFile 36 = .ok (.aload_n 0, 1) := by decide +kernel
theorem d_Replacer_spellFile_37 : decode b_Replacer_spellFile 37 = .ok (.getfield 52, 3) := by decide +kernel
theorem d_Replacer_spellFile_40 : decode b_Replacer_spellFile 40 = .ok (.iload_n 3, 1) := by decide +kernel
theorem d_Replacer_spellFile_41 : decode b_Replacer_spellFile 41 = .ok (.invokevirtual 197, 3) := by decide +kernel
theorem d_Replacer_spellFile_44 : decode b_Replacer_spellFile 44 = .ok (.istore 4, 2) := by decide +kernel
theorem d_Replacer_spellFile_46 : decode b_Replacer_spellFile 46 = .ok (.iload 4, 2) := by decide +kernel
theorem d_Replacer_spellFile_48 : decode b_Replacer_spellFile 48 = .ok (.bipush 92, 2) := by decide +kernel
theorem d_Replacer_spellFile_50 : decode b_Replacer_spellFile 50 = .ok (.if_icmp .eq 10, 3) := by decide +kernel
theorem d_Replacer_spellFile_53 : decode b_Replacer_spellFile 53 = .ok (.iload 4, 2) := by decide +kernel
theorem d_Replacer_spellFile_55 : decode b_Replacer_spellFile 55 = .ok (.bipush 34, 2) := by decide +kernel
theorem d_Replacer_spellFile_57 : decode b_Replacer_spellFile 57 = .ok (.if_icmp .ne 12, 3) := by decide +kernel
theorem d_Replacer_spellFile_60 : decode b_Replacer_spellFile 60 = .ok (.aload_n 0, 1) := by decide +kernel
theorem d_Replacer_spellFile_61 : decode b_Replacer_spellFile 61 = .ok (.getfield 44, 3) := by decide +kernel
theorem d_Replacer_spellFile_64 : decode b_Replacer_spellFile 64 = .ok (.bipush 92, 2) := by decide +kernel
theorem d_Replacer_spellFile_66 : decode b_Replacer_spellFile 66 = .ok (.invokevirtual 194, 3) := by decide +kernel
theorem d_Replacer_spellFile_69 : decode b_Replacer_spellFile 69 = .ok (.aload_n 0, 1) := by decide +kernel
theorem d_Replacer_spellFile_70 : decode b_Replacer_spellFile 70 = .ok (.getfield 44, 3) := by decide +kernel
theorem d_Replacer_spellFile_73 : decode b_Replacer_spellFile 73 = .ok (.iload 4, 2) := by decide +kernel
theorem d_Replacer_spellFile_75 : decode b_Replacer_spellFile 75 = .ok (.invokevirtual 194, 3) := by decide +kernel
theorem d_Replacer_spellFile_78 : decode b_Replacer_spellFile 78 = .ok (.iinc 3 1, 3) := by decide +kernel
theorem d_Replacer_spellFile_81 : decode b_Replacer_spellFile 81 = .ok (.goto (-62), 3) := by decide +kernel
theorem d_Replacer_spellFile_84 : decode b_Replacer_spellFile 84 = .ok (.aload_n 0, 1) := by decide +kernel
theorem d_Replacer_spellFile_85 : decode b_Replacer_spellFile 85 = .ok (.getfield 44, 3) := by decide +kernel
theorem d_Replacer_spellFile_88 : decode b_Replacer_spellFile 88 = .ok (.bipush 34, 2) := by decide +kernel
theorem d_Replacer_spellFile_90 : decode b_Replacer_spellFile 90 = .ok (.invokevirtual 194, 3) := by decide +kernel
theorem d_Replacer_spellFile_93 : decode b_Replacer_spellFile 93 = .ok (.aload_n 0, 1) := by decide +kernel
theorem d_Replacer_spellFile_94 : decode b_Replacer_spellFile 94 = .ok (.iload_n 2, 1) := by decide +kernel
theorem d_Replacer_spellFile_95 : decode b_Replacer_spellFile 95 = .ok (.aload_n 0, 1) := by decide +kernel
theorem d_Replacer_spellFile_96 : decode b_Replacer_spellFile 96 = .ok (.getfield 44, 3) := by decide +kernel
theorem d_Replacer_spellFile_99 : decode b_Replacer_spellFile 99 = .ok (.iload_n 1, 1) := by decide +kernel
theorem d_Replacer_spellFile_100 : decode b_Replacer_spellFile 100 = .ok (.invokevirtual 179, 3) := by decide +kernel
theorem d_Replacer_spellFile_103 : decode b_Replacer_spellFile 103 = .ok (.invokevirtual 190, 3) := by decide +kernel
theorem d_Replacer_spellFile_106 : decode b_Replacer_spellFile 106 = .ok (.lreturn, 1) := by decide +kernel
theorem d_Replacer_spellLine_0 : decode b_Replacer_spellLine 0 = .ok (.aload_n 0, 1) := by decide +kernel
theorem d_Replacer_spellLine_1 : decode b_Replacer_spellLine 1 = .ok (.getfield 44, 3) := by decide +kernel
theorem d_Replacer_spellLine_4 : decode b_Replacer_spellLine 4 = .ok (.getfield 176, 3) := by decide +kernel
theorem d_Replacer_spellLine_7 : decode b_Replacer_spellLine 7 = .ok (.istore_n 2, 1) := by decide +kernel
theorem d_Replacer_spellLine_8 : decode b_Replacer_spellLine 8 = .ok (.aload_n 0, 1) := by decide +kernel
theorem d_Replacer_spellLine_9 : decode b_Replacer_spellLine 9 = .ok (.getfield 44, 3) := by decide +kernel
theorem d_Replacer_spellLine_12 : decode b_Replacer_spellLine 12 = .ok (.aload_n 0, 1) := by decide +kernel
theorem d_Replacer_spellLine_13 : decode b_Replacer_spellLine 13 = .ok (.getfield 52, 3) := by decide +kernel
theorem d_Replacer_spellLine_16 : decode b_Replacer_spellLine 16 = .ok (.aload_n 0, 1) := by decide +kernel
theorem d_Replacer_spellLine_17 : decode b_Replacer_spellLine 17 = .ok (.getfield 44, 3) := by decide +kernel
theorem d_Replacer_spellLine_20 : decode b_Replacer_spellLine 20 = .ok (.iload_n 1, 1) := by decide +kernel
theorem d_Replacer_spellLine_21 : decode b_Replacer_spellLine 21 = .ok (.invokevirtual 179, 3) := by decide +kernel
theorem d_Replacer_spellLine_24 : decode b_Replacer_spellLine 24 = .ok (.invokevirtual 182, 3) := by decide +kernel
theorem d_Replacer_spellLine_27 : decode b_Replacer_spellLine 27 = .ok (.invokevirtual 187, 3) := by decide +kernel
theorem d_Replacer_spellLine_30 : decode b_Replacer_spellLine 30 = .ok (.aload_n 0, 1) := by decide +kernel
theorem d_Replacer_spellLine_31 : decode b_Replacer_spellLine 31 = .ok (.iload_n 2, 1) := by decide +kernel
theorem d_Replacer_spellLine_32 : decode b_Replacer_spellLine 32 = .ok (.aload_n 0, 1) := by decide +kernel
theorem d_Replacer_spellLine_33 : decode b_Replacer_spellLine 33 = .ok (.getfield 44, 3) := by decide +kernel
theorem d_Replacer_spellLine_36 : decode b_Replacer_spellLine 36 = .ok (.iload_n 1, 1) := by decide +kernel
theorem d_Replacer_spellLine_37 : decode b_Replacer_spellLine 37 = .ok (.invokevirtual 179, 3) := by decide +kernel
theorem d_Replacer_spellLine_40 : decode b_Replacer_spellLine 40 = .ok (.invokevirtual 190, 3) := by decide +kernel
theorem d_Replacer_spellLine_43 : decode b_Replacer_spellLine 43 = .ok (.lreturn, 1) := by decide +kernel
theorem d_Replacer_spellWithin_0 : decode b_Replacer_spellWithin 0 = .ok (.aload_n 0, 1) := by decide +kernel
theorem d_Replacer_spellWithin_1 : decode b_Replacer_spellWithin 1 = .ok (.getfield 44, 3) := by decide +kernel
theorem d_Replacer_spellWithin_4 : decode b_Replacer_spellWithin 4 = .ok (.iload_n 1, 1) := by decide +kernel
theorem d_Replacer_spellWithin_5 : decode b_Replacer_spellWithin 5 = .ok (.invokevirtual 318, 3) := by decide +kernel
theorem d_Replacer_spellWithin_8 : decode b_Replacer_spellWithin 8 = .ok (.iconst 3, 1) := by decide +kernel
theorem d_Replacer_spellWithin_9 : decode b_Replacer_spellWithin 9 = .ok (.if_icmp .eq 15, 3) := by decide +kernel
theorem d_Replacer_spellWithin_12 : decode b_Replacer_spellWithin 12 = .ok (.aload_n 0, 1) := by decide +kernel
theorem d_Replacer_spellWithin_13 : decode b_Replacer_spellWithin 13 = .ok (.getfield 44, 3) := by decide +kernel
theorem d_Replacer_spellWithin_16 : decode b_Replacer_spellWithin 16 = .ok (.iload_n 1, 1) := by decide +kernel
theorem d_Replacer_spellWithin_17 : decode b_Replacer_spellWithin 17 = .ok (.invokevirtual 318, 3) := by decide +kernel
theorem d_Replacer_spellWithin_20 : decode b_Replacer_spellWithin 20 = .ok (.iconst 4, 1) := by decide +kernel
theorem d_Replacer_spellWithin_21 : decode b_Replacer_spellWithin 21 = .ok (.if_icmp .ne 7, 3) := by decide +kernel
theorem d_Replacer_spellWithin_24 : decode b_Replacer_spellWithin 24 = .ok (.iconst 1, 1) := by decide +kernel
theorem d_Replacer_spellWithin_25 : decode b_Replacer_spellWithin 25 = .ok (.goto 4, 3) := by decide +kernel
theorem d_Replacer_spellWithin_28 : decode b_Replacer_spellWithin 28 = .ok (.iconst 0, 1) := by decide +kernel
theorem d_Replacer_spellWithin_29 : decode b_Replacer_spellWithin 29 = .ok (.istore_n 2, 1) := by decide +kernel
theorem d_Replacer_spellWithin_30 : decode b_Replacer_spellWithin 30 = .ok (.aload_n 0, 1) := by decide +kernel
theorem d_Replacer_spellWithin_31 : decode b_Replacer_spellWithin 31 = .ok (.getfield 44, 3) := by decide +kernel
theorem d_Replacer_spellWithin_34 : decode b_Replacer_spellWithin 34 = .ok (.iload_n 1, 1) := by decide +kernel
theorem d_Replacer_spellWithin_35 : decode b_Replacer_spellWithin 35 = .ok (.invokevirtual 110, 3) := by decide +kernel
theorem d_Replacer_spellWithin_38 : decode b_Replacer_spellWithin 38 = .ok (.istore_n 3, 1) := by decide +kernel
theorem d_Replacer_spellWithin_39 : decode b_Replacer_spellWithin 39 = .ok (.iload_n 3, 1) := by decide +kernel
theorem d_Replacer_spellWithin_40 : decode b_Replacer_spellWithin 40 = .ok (.aload_n 0, 1) := by decide +kernel
theorem d_Replacer_spellWithin_41 : decode b_Replacer_spellWithin 41 = .ok (.getfield 44, 3) := by decide +kernel
theorem d_Replacer_spellWithin_44 : decode b_Replacer_spellWithin 44 = .ok (.iload_n 1, 1) := by decide +kernel
theorem d_Replacer_spellWithin_45 : decode b_Replacer_spellWithin 45 = .ok (.invokevirtual 113, 3) := by decide +kernel
theorem d_Replacer_spellWithin_48 : decode b_Replacer_spellWithin 48 = .ok (.iadd, 1) := by decide +kernel
theorem d_Replacer_spellWithin_49 : decode b_Replacer_spellWithin 49 = .ok (.istore 4, 2) := by decide +kernel
theorem d_Replacer_spellWithin_51 : decode b_Replacer_spellWithin 51 = .ok (.iload_n 3, 1) := by decide +kernel
theorem d_Replacer_spellWithin_52 : decode b_Replacer_spellWithin 52 = .ok (.istore 5, 2) := by decide +kernel
theorem d_Replacer_spellWithin_54 : decode b_Replacer_spellWithin 54 = .ok (.iload 5, 2) := by decide +kernel
theorem d_Replacer_spellWithin_56 : decode b_Replacer_spellWithin 56 = .ok (.iload 4, 2) := by decide +kernel
theorem d_Replacer_spellWithin_58 : decode b_Replacer_spellWithin 58 = .ok (.if_icmp .ge 67, 3) := by decide +kernel
theorem d_Replacer_spellWithin_61 : decode b_Replacer_spellWithin 61 = .ok (.aload_n 0, 1) := by decide +kernel
theorem d_Replacer_spellWithin_62 : decode b_Replacer_spellWithin 62 = .ok (.getfield 44, 3) := by decide +kernel
theorem d_Replacer_spellWithin_65 : decode b_Replacer_spellWithin 65 = .ok (.invokevirtual 200, 3) := by decide +kernel
theorem d_Replacer_spellWithin_68 : decode b_Replacer_spellWithin 68 = .ok (.ifCond .ne 57, 3) := by decide +kernel
theorem d_Replacer_spellWithin_71 : decode b_Replacer_spellWithin 71 = .ok (.aload_n 0, 1) := by decide +kernel
theorem d_Replacer_spellWithin_72 : decode b_Replacer_spellWithin 72 = .ok (.getfield 44, 3) := by decide +kernel
theorem d_Replacer_spellWithin_75 : decode b_Replacer_spellWithin 75 = .ok (.getfield 106, 3) := by decide +kernel
theorem d_Replacer_spellWithin_78 : decode b_Replacer_spellWithin 78 = .ok (.iload 5, 2) := by decide +kernel
theorem d_Replacer_spellWithin_80 : decode b_Replacer_spellWithin 80 = .ok (.baload, 1) := by decide +kernel
theorem d_Replacer_spellWithin_81 : decode b_Replacer_spellWithin 81 = .ok (.istore 6, 2) := by decide +kernel
theorem d_Replacer_spellWithin_83 : decode b_Replacer_spellWithin 83 = .ok (.iload_n 2, 1) := by decide +kernel
theorem d_Replacer_spellWithin_84 : decode b_Replacer_spellWithin 84 = .ok (.ifCond .eq 26, 3) := by decide +kernel
theorem d_Replacer_spellWithin_87 : decode b_Replacer_spellWithin 87 = .ok (.iload 6, 2) := by decide +kernel
theorem d_Replacer_spellWithin_89 : decode b_Replacer_spellWithin 89 = .ok (.bipush 34, 2) := by decide +kernel
theorem d_Replacer_spellWithin_91 : decode b_Replacer_spellWithin 91 = .ok (.if_icmp .eq 10, 3) := by decide +kernel
theorem d_Replacer_spellWithin_94 : decode b_Replacer_spellWithin 94 = .ok (.iload 6, 2) := by decide +kernel
theorem d_Replacer_spellWithin_96 : decode b_Replacer_spellWithin 96 = .ok (.bipush 92, 2) := by decide +kernel
theorem d_Replacer_spellWithin_98 : decode b_Replacer_spellWithin 98 = .ok (.if_icmp .ne 12, 3) := by decide +kernel
theorem d_Replacer_spellWithin_101 : decode b_Replacer_spellWithin 101 = .ok (.aload_n 0, 1) := by decide +kernel
theorem d_Replacer_spellWithin_102 : decode b_Replacer_spellWithin 102 = .ok (.getfield 44, 3) := by decide +kernel
theorem d_Replacer_spellWithin_105 : decode b_Replacer_spellWithin 105 = .ok (.bipush 92, 2) := by decide +kernel
theorem d_Replacer_spellWithin_107 : decode b_Replacer_spellWithin 107 = .ok (.invokevirtual 194, 3) := by decide +kernel
theorem d_Replacer_spellWithin_110 : decode b_Replacer_spellWithin 110 = .ok (.aload_n 0, 1) := by decide +kernel
theorem d_Replacer_spellWithin_111 : decode b_Replacer_spellWithin 111 = .ok (.getfield 44, 3) := by decide +kernel
theorem d_Replacer_spellWithin_114 : decode b_Replacer_spellWithin 114 = .ok (.iload 6, 2) := by decide +kernel
theorem d_Replacer_spellWithin_116 : decode b_Replacer_spellWithin 116 = .ok (.invokevirtual 194, 3) := by decide +kernel
theorem d_Replacer_spellWithin_119 : decode b_Replacer_spellWithin 119 = .ok (.iinc 5 1, 3) := by decide +kernel
theorem d_Replacer_spellWithin_122 : decode b_Replacer_spellWithin 122 = .ok (.goto (-68), 3) := by decide +kernel
theorem d_Replacer_spellWithin_125 : decode b_Replacer_spellWithin 125 = .ok (.return_, 1) := by decide +kernel
theorem d_Replacer_spelledSince_0 : decode b_Replacer_spelledSince 0 = .ok (.aload_n 0, 1) := by decide +kernel
theorem d_Replacer_spelledSince_1 : decode b_Replacer_spelledSince 1 = .ok (.getfield 44, 3) := by decide +kernel
theorem d_Replacer_spelledSince_4 : decode b_Replacer_spelledSince 4 = .ok (.invokevirtual 200, 3) := by decide +kernel
theorem d_Replacer_spelledSince_7 : decode b_Replacer_spelledSince 7 = .ok (.ifCond .eq 13, 3) := by decide +kernel
theorem d_Replacer_spelledSince_10 : decode b_Replacer_spelledSince 10 = .ok (.aload_n 0, 1) := by decide +kernel
theorem d_Replacer_spelledSince_11 : decode b_Replacer_spelledSince 11 = .ok (.getfield 56, 3) := by decide +kernel
theorem d_Replacer_spelledSince_14 : decode b_Replacer_spelledSince 14 = .ok (.bipush 21, 2) := by decide +kernel
theorem d_Replacer_spelledSince_16 : decode b_Replacer_spelledSince 16 = .ok (.iload_n 2, 1) := by decide +kernel
theorem d_Replacer_spelledSince_17 : decode b_Replacer_spelledSince 17 = .ok (.invokevirtual 203, 3) := by decide +kernel
theorem d_Replacer_spelledSince_20 : decode b_Replacer_spelledSince 20 = .ok (.iload_n 1, 1) := by decide +kernel
theorem d_Replacer_spelledSince_21 : decode b_Replacer_spelledSince 21 = .ok (.aload_n 0, 1) := by decide +kernel
theorem d_Replacer_spelledSince_22 : decode b_Replacer_spelledSince 22 = .ok (.getfield 44, 3) := by decide +kernel
theorem d_Replacer_spelledSince_25 : decode b_Replacer_spelledSince 25 = .ok (.getfield 176, 3) := by decide +kernel
theorem d_Replacer_spelledSince_28 : decode b_Replacer_spelledSince 28 = .ok (.iload_n 1, 1) := by decide +kernel
theorem d_Replacer_spelledSince_29 : decode b_Replacer_spelledSince 29 = .ok (.isub, 1) := by decide +kernel
theorem d_Replacer_spelledSince_30 : decode b_Replacer_spelledSince 30 = .ok (.invokestatic 207, 3) := by decide +kernel
theorem d_Replacer_spelledSince_33 : decode b_Replacer_spelledSince 33 = .ok (.lreturn, 1) := by decide +kernel
theorem d_Second_addBlankToTitle_0 : decode b_Second_addBlankToTitle 0 = .ok (.aload_n 0, 1) := by decide +kernel
theorem d_Second_addBlankToTitle_1 : decode b_Second_addBlankToTitle 1 = .ok (.getfield 343, 3) := by decide +kernel
theorem d_Second_addBlankToTitle_4 : decode b_Second_addBlankToTitle 4 = .ok (.bipush 64, 2) := by decide +kernel
theorem d_Second_addBlankToTitle_6 : decode b_Second_addBlankToTitle 6 = .ok (.if_icmp .ge 14, 3) := by decide +kernel
theorem d_Second_addBlankToTitle_9 : decode b_Second_addBlankToTitle 9 = .ok (.aload_n 0, 1) := by decide +kernel
theorem d_Second_addBlankToTitle_10 : decode b_Second_addBlankToTitle 10 = .ok (.getfield 40, 3) := by decide +kernel
theorem d_Second_addBlankToTitle_13 : decode b_Second_addBlankToTitle 13 = .ok (.aload_n 0, 1) := by decide +kernel
theorem d_Second_addBlankToTitle_14 : decode b_Second_addBlankToTitle 14 = .ok (.getfield 343, 3) := by decide +kernel
theorem d_Second_addBlankToTitle_17 : decode b_Second_addBlankToTitle 17 = .ok (.bipush 32, 2) := by decide +kernel
theorem d_Second_addBlankToTitle_19 : decode b_Second_addBlankToTitle 19 = .ok (.bastore, 1) := by decide +kernel
theorem d_Second_addBlankToTitle_20 : decode b_Second_addBlankToTitle 20 = .ok (.aload_n 0, 1) := by decide +kernel
theorem d_Second_addBlankToTitle_21 : decode b_Second_addBlankToTitle 21 = .ok (.dup, 1) := by decide +kernel
theorem d_Second_addBlankToTitle_22 : decode b_Second_addBlankToTitle 22 = .ok (.getfield 343, 3) := by decide +kernel
theorem d_Second_addBlankToTitle_25 : decode b_Second_addBlankToTitle 25 = .ok (.iconst 1, 1) := by decide +kernel
theorem d_Second_addBlankToTitle_26 : decode b_Second_addBlankToTitle 26 = .ok (.iadd, 1) := by decide +kernel
theorem d_Second_addBlankToTitle_27 : decode b_Second_addBlankToTitle 27 = .ok (.putfield 343, 3) := by decide +kernel
theorem d_Second_addBlankToTitle_30 : decode b_Second_addBlankToTitle 30 = .ok (.return_, 1) := by decide +kernel
theorem d_Second_continueCondition_0 : decode b_Second_continueCondition 0 = .ok (.aload_n 0, 1) := by decide +kernel
theorem d_Second_continueCondition_1 : decode b_Second_continueCondition 1 = .ok (.getfield 82, 3) := by decide +kernel
theorem d_Second_continueCondition_4 : decode b_Second_continueCondition 4 = .ok (.aload_n 0, 1) := by decide +kernel
theorem d_Second_continueCondition_5 : decode b_Second_continueCondition 5 = .ok (.getfield 34, 3) := by decide +kernel
theorem d_Second_continueCondition_8 : decode b_Second_continueCondition 8 = .ok (.aload_n 0, 1) := by decide +kernel
theorem d_Second_continueCondition_9 : decode b_Second_continueCondition 9 = .ok (.getfield 61, 3) := by decide +kernel
theorem d_Second_continueCondition_12 : decode b_Second_continueCondition 12 = .ok (.getfield 106, 3) := by decide +kernel
theorem d_Second_continueCondition_15 : decode b_Second_continueCondition 15 = .ok (.iconst 1, 1) := by decide +kernel
theorem d_Second_continueCondition_16 : decode b_Second_continueCondition 16 = .ok (.isub, 1) := by decide +kernel
theorem d_Second_continueCondition_17 : decode b_Second_continueCondition 17 = .ok (.iaload, 1) := by decide +kernel
theorem d_Second_continueCondition_18 : decode b_Second_continueCondition 18 = .ok (.if_icmp .le 7, 3) := by decide +kernel
theorem d_Second_continueCondition_21 : decode b_Second_continueCondition 21 = .ok (.iconst 1, 1) := by decide +kernel
theorem d_Second_continueCondition_22 : decode b_Second_continueCondition 22 = .ok (.goto 4, 3) := by decide +kernel
theorem d_Second_continueCondition_25 : decode b_Second_continueCondition 25 = .ok (.iconst 0, 1) := by decide +kernel
theorem d_Second_continueCondition_26 : decode b_Second_continueCondition 26 = .ok (.istore_n 2, 1) := by decide +kernel
theorem d_Second_continueCondition_27 : decode b_Second_continueCondition 27 = .ok (.iload_n 2, 1) := by decide +kernel
theorem d_Second_continueCondition_28 : decode b_Second_continueCondition 28 = .ok (.ifCond .eq 17, 3) := by decide +kernel
theorem d_Second_continueCondition_31 : decode b_Second_continueCondition 31 = .ok (.aload_n 0, 1) := by decide +kernel
theorem d_Second_continueCondition_32 : decode b_Second_continueCondition 32 = .ok (.getfield 31, 3) := by decide +kernel
theorem d_Second_continueCondition_35 : decode b_Second_continueCondition 35 = .ok (.aload_n 0, 1) := by decide +kernel
theorem d_Second_continueCondition_36 : decode b_Second_continueCondition 36 = .ok (.getfield 82, 3) := by decide +kernel
theorem d_Second_continueCondition_39 : decode b_Second_continueCondition 39 = .ok (.iconst 1, 1) := by decide +kernel
theorem d_Second_continueCondition_40 : decode b_Second_continueCondition 40 = .ok (.isub, 1) := by decide +kernel
theorem d_Second_continueCondition_41 : decode b_Second_continueCondition 41 = .ok (.iaload, 1) := by decide +kernel
theorem d_Second_continueCondition_42 : decode b_Second_continueCondition 42 = .ok (.goto 4, 3) := by decide +kernel
theorem d_Second_continueCondition_45 : decode b_Second_continueCondition 45 = .ok (.iconst 0, 1) := by decide +kernel
theorem d_Second_continueCondition_46 : decode b_Second_continueCondition 46 = .ok (.istore_n 3, 1) := by decide +kernel
theorem d_Second_continueCondition_47 : decode b_Second_continueCondition 47 = .ok (.iload_n 3, 1) := by decide +kernel
theorem d_Second_continueCondition_48 : decode b_Second_continueCondition 48 = .ok (.iconst 2, 1) := by decide +kernel
theorem d_Second_continueCondition_49 : decode b_Second_continueCondition 49 = .ok (.iand, 1) := by decide +kernel
theorem d_Second_continueCondition_50 : decode b_Second_continueCondition 50 = .ok (.ifCond .eq 7, 3) := by decide +kernel
theorem d_Second_continueCondition_53 : decode b_Second_continueCondition 53 = .ok (.iconst 1, 1) := by decide +kernel
theorem d_Second_continueCondition_54 : decode b_Second_continueCondition 54 = .ok (.goto 4, 3) := by decide +kernel
theorem d_Second_continueCondition_57 : decode b_Second_continueCondition 57 = .ok (.iconst 0, 1) := by decide +kernel
theorem d_Second_continueCondition_58 : decode b_Second_continueCondition 58 = .ok (.istore 4, 2) := by decide +kernel
theorem d_Second_continueCondition_60 : decode b_Second_continueCondition 60 = .ok (.iload_n 3, 1) := by decide +kernel
theorem d_Second_continueCondition_61 : decode b_Second_continueCondition 61 = .ok (.bipush 8, 2) := by decide +kernel
theorem d_Second_continueCondition_63 : decode b_Second_continueCondition 63 = .ok (.iand, 1) := by decide +kernel
theorem d_Second_continueCondition_64 : decode b_Second_continueCondition 64 = .ok (.ifCond .eq 26, 3) := by decide +kernel
theorem d_Second_continueCondition_67 : decode b_Second_continueCondition 67 = .ok (.aload_n 0, 1) := by decide +kernel
theorem d_Second_continueCondition_68 : decode b_Second_continueCondition 68 = .ok (.dup, 1) := by decide +kernel
theorem d_Second_continueCondition_69 : decode b_Second_continueCondition 69 = .ok (.getfield 82, 3) := by decide +kernel
theorem d_Second_continueCondition_72 : decode b_Second_continueCondition 72 = .ok (.iload_n 1, 1) := by decide +kernel
theorem d_Second_continueCondition_73 : decode b_Second_continueCondition 73 = .ok (.bipush 9, 2) := by decide +kernel
theorem d_Second_continueCondition_75 : decode b_Second_continueCondition 75 = .ok (.if_icmp .ne 7, 3) := by decide +kernel
theorem d_Second_continueCondition_78 : decode b_Second_continueCondition 78 = .ok (.iconst 1, 1) := by decide +kernel
theorem d_Second_continueCondition_79 : decode b_Second_continueCondition 79 = .ok (.goto 4, 3) := by decide +kernel
theorem d_Second_continueCondition_82 : decode b_Second_continueCondition 82 = .ok (.iconst 0, 1) := by decide +kernel
theorem d_Second_continueCondition_83 : decode b_Second_continueCondition 83 = .ok (.isub, 1) := by decide +kernel
theorem d_Second_continueCondition_84 : decode b_Second_continueCondition 84 = .ok (.putfield 82, 3) := by decide +kernel
theorem d_Second_continueCondition_87 : decode b_Second_continueCondition 87 = .ok (.goto 130, 3) := by decide +kernel
theorem d_Second_continueCondition_90 : decode b_Second_continueCondition 90 = .ok (.iload_n 1, 1) := by decide +kernel
theorem d_Second_continueCondition_91 : decode b_Second_continueCondition 91 = .ok (.bipush 7, 2) := by decide +kernel
theorem d_Second_continueCondition_93 : decode b_Second_continueCondition 93 = .ok (.if_icmp .eq 25, 3) := by decide +kernel
theorem d_Second_continueCondition_96 : decode b_Second_continueCondition 96 = .ok (.aload_n 0, 1) := by decide +kernel
theorem d_Second_continueCondition_97 : decode b_Second_continueCondition 97 = .ok (.getfield 129, 3) := by decide +kernel
theorem d_Second_continueCondition_100 : decode b_Second_continueCondition 100 = .ok (.aload_n 0, 1) := by decide +kernel
theorem d_Second_continueCondition_101 : decode b_Second_continueCondition 101 = .ok (.getfield 123, 3) := by decide +kernel
theorem d_Second_continueCondition_104 : decode b_Second_continueCondition 104 = .ok (.isub, 1) := by decide +kernel
theorem d_Second_continueCondition_105 : decode b_Second_continueCondition 105 = .ok (.iconst 2, 1) := by decide +kernel
theorem d_Second_continueCondition_106 : decode b_Second_continueCondition 106 = .ok (.if_icmp .le 12, 3) := by decide +kernel
theorem d_Second_continueCondition_109 : decode b_Second_continueCondition 109 = .ok (.aload_n 0, 1) := by decide +kernel
theorem d_Second_continueCondition_110 : decode b_Second_continueCondition 110 = .ok (.bipush 7, 2) := by decide +kernel
theorem d_Second_continueCondition_112 : decode b_Second_continueCondition 112 = .ok (.invokevirtual 239, 3) := by decide +kernel
theorem d_Second_continueCondition_115 : decode b_Second_continueCondition 115 = .ok (.goto 102, 3) := by decide +kernel
theorem d_Second_continueCondition_118 : decode b_Second_continueCondition 118 = .ok (.iload_n 2, 1) := by decide +kernel
theorem d_Second_continueCondition_119 : decode b_Second_continueCondition 119 = .ok (.ifCond .eq 15, 3) := by decide +kernel
theorem d_Second_continueCondition_122 : decode b_Second_continueCondition 122 = .ok (.iload_n 1, 1) := by decide +kernel
theorem d_Second_continueCondition_123 : decode b_Second_continueCondition 123 = .ok (.bipush 9, 2) := by decide +kernel
theorem d_Second_continueCondition_125 : decode b_Second_continueCondition 125 = .ok (.if_icmp .eq 18, 3) := by decide +kernel
theorem d_Second_continueCondition_128 : decode b_Second_continueCondition 128 = .ok (.iload_n 3, 1) := by decide +kernel
theorem d_Second_continueCondition_129 : decode b_Second_continueCondition 129 = .ok (.iconst 4, 1) := by decide +kernel
theorem d_Second_continueCondition_130 : decode b_Second_continueCondition 130 = .ok (.iand, 1) := by decide +kernel
theorem d_Second_continueCondition_131 : decode b_Second_continueCondition 131 = .ok (.ifCond .eq 12, 3) := by decide +kernel
theorem d_Second_continueCondition_134 : decode b_Second_continueCondition 134 = .ok (.aload_n 0, 1) := by decide +kernel
theorem d_Second_continueCondition_135 : decode b_Second_continueCondition 135 = .ok (.bipush 13, 2) := by decide +kernel
theorem d_Second_continueCondition_137 : decode b_Second_continueCondition 137 = .ok (.invokevirtual 239, 3) := by decide +kernel
theorem d_Second_continueCondition_140 : decode b_Second_continueCondition 140 = .ok (.goto 77, 3) := by decide +kernel
theorem d_Second_continueCondition_143 : decode b_Second_continueCondition 143 = .ok (.iload_n 1, 1) := by decide +kernel
theorem d_Second_continueCondition_144 : decode b_Second_continueCondition 144 = .ok (.bipush 9, 2) := by decide +kernel
theorem d_Second_continueCondition_146 : decode b_Second_continueCondition 146 = .ok (.if_icmp .ne 16, 3) := by decide +kernel
theorem d_Second_continueCondition_149 : decode b_Second_continueCondition 149 = .ok (.aload_n 0, 1) := by decide +kernel
theorem d_Second_continueCondition_150 : decode b_Second_continueCondition 150 = .ok (.dup, 1) := by decide +kernel
theorem d_Second_continueCondition_151 : decode b_Second_continueCondition 151 = .ok (.getfield 82, 3) := by decide +kernel
theorem d_Second_continueCondition_154 : decode b_Second_continueCondition 154 = .ok (.iconst 1, 1) := by decide +kernel
theorem d_Second_continueCondition_155 : decode b_Second_continueCondition 155 = .ok (.isub, 1) := by decide +kernel
theorem d_Second_continueCondition_156 : decode b_Second_continueCondition 156 = .ok (.putfield 82, 3) := by decide +kernel
theorem d_Second_continueCondition_159 : decode b_Second_continueCondition 159 = .ok (.goto 58, 3) := by decide +kernel
theorem d_Second_continueCondition_162 : decode b_Second_continueCondition 162 = .ok (.iload_n 1, 1) := by decide +kernel
theorem d_Second_continueCondition_163 : decode b_Second_continueCondition 163 = .ok (.bipush 8, 2) := by decide +kernel
theorem d_Second_continueCondition_165 : decode b_Second_continueCondition 165 = .ok (.if_icmp .ne 30, 3) := by decide +kernel
theorem d_Second_continueCondition_168 : decode b_Second_continueCondition 168 = .ok (.aload_n 0, 1) := by decide +kernel
theorem d_Second_continueCondition_169 : decode b_Second_continueCondition 169 = .ok (.getfield 31, 3) := by decide +kernel
theorem d_Second_continueCondition_172 : decode b_Second_continueCondition 172 = .ok (.aload_n 0, 1) := by decide +kernel
theorem d_Second_continueCondition_173 : decode b_Second_continueCondition 173 = .ok (.getfield 82, 3) := by decide +kernel
theorem d_Second_continueCondition_176 : decode b_Second_continueCondition 176 = .ok (.iconst 1, 1) := by decide +kernel
theorem d_Second_continueCondition_177 : decode b_Second_continueCondition 177 = .ok (.isub, 1) := by decide +kernel
theorem d_Second_continueCondition_178 : decode b_Second_continueCondition 178 = .ok (.bipush 6, 2) := by decide +kernel
theorem d_Second_continueCondition_180 : decode b_Second_continueCondition 180 = .ok (.iload 4, 2) := by decide +kernel
theorem d_Second_continueCondition_182 : decode b_Second_continueCondition 182 = .ok (.ifCond .eq 7, 3) := by decide +kernel
theorem d_Second_continueCondition_185 : decode b_Second_continueCondition 185 = .ok (.iconst 0, 1) := by decide +kernel
theorem d_Second_continueCondition_186 : decode b_Second_continueCondition 186 = .ok (.goto 4, 3) := by decide +kernel
theorem d_Second_continueCondition_189 : decode b_Second_continueCondition 189 = .ok (.iconst 1, 1) := by decide +kernel
theorem d_Second_continueCondition_190 : decode b_Second_continueCondition 190 = .ok (.ior, 1) := by decide +kernel
theorem d_Second_continueCondition_191 : decode b_Second_continueCondition 191 = .ok (.iastore, 1) := by decide +kernel
theorem d_Second_continueCondition_192 : decode b_Second_continueCondition 192 = .ok (.goto 25, 3) := by decide +kernel
theorem d_Second_continueCondition_195 : decode b_Second_continueCondition 195 = .ok (.iload 4, 2) := by decide +kernel
theorem d_Second_continueCondition_197 : decode b_Second_continueCondition 197 = .ok (.ifCond .eq 18, 3) := by decide +kernel
theorem d_Second_continueCondition_200 : decode b_Second_continueCondition 200 = .ok (.aload_n 0, 1) := by decide +kernel
theorem d_Second_continueCondition_201 : decode b_Second_continueCondition 201 = .ok (.getfield 31, 3) := by decide +kernel
theorem d_Second_continueCondition_204 : decode b_Second_continueCondition 204 = .ok (.aload_n 0, 1) := by decide +kernel
theorem d_Second_continueCondition_205 : decode b_Second_continueCondition 205 = .ok (.getfield 82, 3) := by decide +kernel
theorem d_Second_continueCondition_208 : decode b_Second_continueCondition 208 = .ok (.iconst 1, 1) := by decide +kernel
theorem d_Second_continueCondition_209 : decode b_Second_continueCondition 209 = .ok (.isub, 1) := by decide +kernel
theorem d_Second_continueCondition_210 : decode b_Second_continueCondition 210 = .ok (.iconst 2, 1) := by decide +kernel
theorem d_Second_continueCondition_211 : decode b_Second_continueCondition 211 = .ok (.iastore, 1) := by decide +kernel
theorem d_Second_continueCondition_212 : decode b_Second_continueCondition 212 = .ok (.goto 5, 3) := by decide +kernel
theorem d_Second_continueCondition_215 : decode b_Second_continueCondition 215 = .ok (.iconst 1, 1) := by decide +kernel
theorem d_Second_continueCondition_216 : decode b_Second_continueCondition 216 = .ok (.ireturn, 1) := by decide +kernel
theorem d_Second_continueCondition_217 : decode b_Second_continueCondition 217 = .ok (.iconst 0, 1) := by decide +kernel
theorem d_Second_continueCondition_218 : decode b_Second_continueCondition 218 = .ok (.ireturn, 1) := by decide +kernel
theorem d_Second_digitOf_0 : decode b_Second_digitOf 0 = .ok (.iload_n 0, 1) := by decide +kernel
theorem d_Second_digitOf_1 : decode b_Second_digitOf 1 = .ok (.invokestatic 322, 3) := by decide +kernel
theorem d_Second_digitOf_4 : decode b_Second_digitOf 4 = .ok (.ifCond .eq 8, 3) := by decide +kernel
theorem d_Second_digitOf_7 : decode b_Second_digitOf 7 = .ok (.iload_n 0, 1) := by decide +kernel
theorem d_Second_digitOf_8 : decode b_Second_digitOf 8 = .ok (.bipush 48, 2) := by decide +kernel
theorem d_Second_digitOf_10 : decode b_Second_digitOf 10 = .ok (.isub, 1) := by decide +kernel
theorem d_Second_digitOf_11 : decode b_Second_digitOf 11 = .ok (.ireturn, 1) := by decide +kernel
theorem d_Second_digitOf_12 : decode b_Second_digitOf 12 = .ok (.iload_n 0, 1) := by decide +kernel
theorem d_Second_digitOf_13 : decode b_Second_digitOf 13 = .ok (.bipush 32, 2) := by decide +kernel
theorem d_Second_digitOf_15 : decode b_Second_digitOf 15 = .ok (.ior, 1) := by decide +kernel
theorem d_Second_digitOf_16 : decode b_Second_digitOf 16 = .ok (.istore_n 1, 1) := by decide +kernel
theorem d_Second_digitOf_17 : decode b_Second_digitOf 17 = .ok (.iload_n 1, 1) := by decide +kernel
theorem d_Second_digitOf_18 : decode b_Second_digitOf 18 = .ok (.bipush 97, 2) := by decide +kernel
theorem d_Second_digitOf_20 : decode b_Second_digitOf 20 = .ok (.if_icmp .lt 19, 3) := by decide +kernel
theorem d_Second_digitOf_23 : decode b_Second_digitOf 23 = .ok (.iload_n 1, 1) := by decide +kernel
theorem d_Second_digitOf_24 : decode b_Second_digitOf 24 = .ok (.bipush 102, 2) := by decide +kernel
theorem d_Second_digitOf_26 : decode b_Second_digitOf 26 = .ok (.if_icmp .gt 13, 3) := by decide +kernel
theorem d_Second_digitOf_29 : decode b_Second_digitOf 29 = .ok (.iload_n 1, 1) := by decide +kernel
theorem d_Second_digitOf_30 : decode b_Second_digitOf 30 = .ok (.bipush 97, 2) := by decide +kernel
theorem d_Second_digitOf_32 : decode b_Second_digitOf 32 = .ok (.isub, 1) := by decide +kernel
theorem d_Second_digitOf_33 : decode b_Second_digitOf 33 = .ok (.bipush 10, 2) := by decide +kernel
theorem d_Second_digitOf_35 : decode b_Second_digitOf 35 = .ok (.iadd, 1) := by decide +kernel
theorem d_Second_digitOf_36 : decode b_Second_digitOf 36 = .ok (.goto 5, 3) := by decide +kernel
theorem d_Second_digitOf_39 : decode b_Second_digitOf 39 = .ok (.bipush 99, 2) := by decide +kernel
theorem d_Second_digitOf_41 : decode b_Second_digitOf 41 = .ok (.ireturn, 1) := by decide +kernel
theorem d_Second_endFile_0 : decode b_Second_endFile 0 = .ok (.aload_n 0, 1) := by decide +kernel
theorem d_Second_endFile_1 : decode b_Second_endFile 1 = .ok (.getfield 61, 3) := by decide +kernel
theorem d_Second_endFile_4 : decode b_Second_endFile 4 = .ok (.iconst 0, 1) := by decide +kernel
theorem d_Second_endFile_5 : decode b_Second_endFile 5 = .ok (.putfield 116, 3) := by decide +kernel
theorem d_Second_endFile_8 : decode b_Second_endFile 8 = .ok (.aload_n 0, 1) := by decide +kernel
theorem d_Second_endFile_9 : decode b_Second_endFile 9 = .ok (.getfield 82, 3) := by decide +kernel
theorem d_Second_endFile_12 : decode b_Second_endFile 12 = .ok (.aload_n 0, 1) := by decide +kernel
theorem d_Second_endFile_13 : decode b_Second_endFile 13 = .ok (.getfield 34, 3) := by decide +kernel
theorem d_Second_endFile_16 : decode b_Second_endFile 16 = .ok (.aload_n 0, 1) := by decide +kernel
theorem d_Second_endFile_17 : decode b_Second_endFile 17 = .ok (.getfield 61, 3) := by decide +kernel
theorem d_Second_endFile_20 : decode b_Second_endFile 20 = .ok (.getfield 106, 3) := by decide +kernel
theorem d_Second_endFile_23 : decode b_Second_endFile 23 = .ok (.iconst 1, 1) := by decide +kernel
theorem d_Second_endFile_24 : decode b_Second_endFile 24 = .ok (.isub, 1) := by decide +kernel
theorem d_Second_endFile_25 : decode b_Second_endFile 25 = .ok (.iaload, 1) := by decide +kernel
theorem d_Second_endFile_26 : decode b_Second_endFile 26 = .ok (.if_icmp .le 24, 3) := by decide +kernel
theorem d_Second_endFile_29 : decode b_Second_endFile 29 = .ok (.aload_n 0, 1) := by decide +kernel
theorem d_Second_endFile_30 : decode b_Second_endFile 30 = .ok (.getfield 48, 3) := by decide +kernel
theorem d_Second_endFile_33 : decode b_Second_endFile 33 = .ok (.bipush 14, 2) := by decide +kernel
theorem d_Second_endFile_35 : decode b_Second_endFile 35 = .ok (.aload_n 0, 1) := by decide +kernel
theorem d_Second_endFile_36 : decode b_Second_endFile 36 = .ok (.getfield 27, 3) := by decide +kernel
theorem d_Second_endFile_39 : decode b_Second_endFile 39 = .ok (.aload_n 0, 1) := by decide +kernel
theorem d_Second_endFile_40 : decode b_Second_endFile 40 = .ok (.getfield 82, 3) := by decide +kernel
theorem d_Second_endFile_43 : decode b_Second_endFile 43 = .ok (.iconst 1, 1) := by decide +kernel
theorem d_Second_endFile_44 : decode b_Second_endFile 44 = .ok (.isub, 1) := by decide +kernel
theorem d_Second_endFile_45 : decode b_Second_endFile 45 = .ok (.iaload, 1) := by decide +kernel
theorem d_Second_endFile_46 : decode b_Second_endFile 46 = .ok (.invokevirtual 176, 3) := by decide +kernel
theorem d_Second_endFile_49 : decode b_Second_endFile 49 = .ok (.return_, 1) := by decide +kernel
theorem d_Second_endFile_50 : decode b_Second_endFile 50 = .ok (.aload_n 0, 1) := by decide +kernel
theorem d_Second_endFile_51 : decode b_Second_endFile 51 = .ok (.getfield 61, 3) := by decide +kernel
theorem d_Second_endFile_54 : decode b_Second_endFile 54 = .ok (.invokevirtual 182, 3) := by decide +kernel
theorem d_Second_endFile_57 : decode b_Second_endFile 57 = .ok (.return_, 1) := by decide +kernel
theorem d_Second_fail_0 : decode b_Second_fail 0 = .ok (.aload_n 0, 1) := by decide +kernel
theorem d_Second_fail_1 : decode b_Second_fail 1 = .ok (.getfield 48, 3) := by decide +kernel
theorem d_Second_fail_4 : decode b_Second_fail 4 = .ok (.iload_n 1, 1) := by decide +kernel
theorem d_Second_fail_5 : decode b_Second_fail 5 = .ok (.aload_n 0, 1) := by decide +kernel
theorem d_Second_fail_6 : decode b_Second_fail 6 = .ok (.getfield 149, 3) := by decide +kernel
theorem d_Second_fail_9 : decode b_Second_fail 9 = .ok (.invokevirtual 176, 3) := by decide +kernel
theorem d_Second_fail_12 : decode b_Second_fail 12 = .ok (.return_, 1) := by decide +kernel
theorem d_Second_failIfTooLong_0 : decode b_Second_failIfTooLong 0 = .ok (.aload_n 0, 1) := by decide +kernel
theorem d_Second_failIfTooLong_1 : decode b_Second_failIfTooLong 1 = .ok (.getfield 129, 3) := by decide +kernel
theorem d_Second_failIfTooLong_4 : decode b_Second_failIfTooLong 4 = .ok (.aload_n 0, 1) := by decide +kernel
theorem d_Second_failIfTooLong_5 : decode b_Second_failIfTooLong 5 = .ok (.getfield 123, 3) := by decide +kernel
theorem d_Second_failIfTooLong_8 : decode b_Second_failIfTooLong 8 = .ok (.isub, 1) := by decide +kernel
theorem d_Second_failIfTooLong_9 : decode b_Second_failIfTooLong 9 = .ok (.sipush 8000, 3) := by decide +kernel
theorem d_Second_failIfTooLong_12 : decode b_Second_failIfTooLong 12 = .ok (.if_icmp .le 9, 3) := by decide +kernel
theorem d_Second_failIfTooLong_15 : decode b_Second_failIfTooLong 15 = .ok (.aload_n 0, 1) := by decide +kernel
theorem d_Second_failIfTooLong_16 : decode b_Second_failIfTooLong 16 = .ok (.bipush 21, 2) := by decide +kernel
theorem d_Second_failIfTooLong_18 : decode b_Second_failIfTooLong 18 = .ok (.invokevirtual 239, 3) := by decide +kernel
theorem d_Second_failIfTooLong_21 : decode b_Second_failIfTooLong 21 = .ok (.return_, 1) := by decide +kernel
theorem d_Second_findMacro_0 : decode b_Second_findMacro 0 = .ok (.aload_n 0, 1) := by decide +kernel
theorem d_Second_findMacro_1 : decode b_Second_findMacro 1 = .ok (.getfield 23, 3) := by decide +kernel
theorem d_Second_findMacro_4 : decode b_Second_findMacro 4 = .ok (.aload_n 0, 1) := by decide +kernel
theorem d_Second_findMacro_5 : decode b_Second_findMacro 5 = .ok (.getfield 12, 3) := by decide +kernel
theorem d_Second_findMacro_8 : decode b_Second_findMacro 8 = .ok (.getfield 225, 3) := by decide +kernel
theorem d_Second_findMacro_11 : decode b_Second_findMacro 11 = .ok (.aload_n 0, 1) := by decide +kernel
theorem d_Second_findMacro_12 : decode b_Second_findMacro 12 = .ok (.getfield 12, 3) := by decide +kernel
theorem d_Second_findMacro_15 : decode b_Second_findMacro 15 = .ok (.iload_n 1, 1) := by decide +kernel
theorem d_Second_findMacro_16 : decode b_Second_findMacro 16 = .ok (.invokevirtual 228, 3) := by decide +kernel
theorem d_Second_findMacro_19 : decode b_Second_findMacro 19 = .ok (.aload_n 0, 1) := by decide +kernel
theorem d_Second_findMacro_20 : decode b_Second_findMacro 20 = .ok (.getfield 12, 3) := by decide +kernel
theorem d_Second_findMacro_23 : decode b_Second_findMacro 23 = .ok (.iload_n 1, 1) := by decide +kernel
theorem d_Second_findMacro_24 : decode b_Second_findMacro 24 = .ok (.invokevirtual 223, 3) := by decide +kernel
theorem d_Second_findMacro_27 : decode b_Second_findMacro 27 = .ok (.invokevirtual 259, 3) := by decide +kernel
theorem d_Second_findMacro_30 : decode b_Second_findMacro 30 = .ok (.ireturn, 1) := by decide +kernel
theorem d_Second_isCounting_0 : decode b_Second_isCounting 0 = .ok (.aload_n 0, 1) := by decide +kernel
theorem d_Second_isCounting_1 : decode b_Second_isCounting 1 = .ok (.getfield 82, 3) := by decide +kernel
theorem d_Second_isCounting_4 : decode b_Second_isCounting 4 = .ok (.ifCond .eq 19, 3) := by decide +kernel
theorem d_Second_isCounting_7 : decode b_Second_isCounting 7 = .ok (.aload_n 0, 1) := by decide +kernel
theorem d_Second_isCounting_8 : decode b_Second_isCounting 8 = .ok (.getfield 31, 3) := by decide +kernel
theorem d_Second_isCounting_11 : decode b_Second_isCounting 11 = .ok (.aload_n 0, 1) := by decide +kernel
theorem d_Second_isCounting_12 : decode b_Second_isCounting 12 = .ok (.getfield 82, 3) := by decide +kernel
theorem d_Second_isCounting_15 : decode b_Second_isCounting 15 = .ok (.iconst 1, 1) := by decide +kernel
theorem d_Second_isCounting_16 : decode b_Second_isCounting 16 = .ok (.isub, 1) := by decide +kernel
theorem d_Second_isCounting_17 : decode b_Second_isCounting 17 = .ok (.iaload, 1) := by decide +kernel
theorem d_Second_isCounting_18 : decode b_Second_isCounting 18 = .ok (.iconst 1, 1) := by decide +kernel
theorem d_Second_isCounting_19 : decode b_Second_isCounting 19 = .ok (.iand, 1) := by decide +kernel
theorem d_Second_isCounting_20 : decode b_Second_isCounting 20 = .ok (.ifCond .eq 7, 3) := by decide +kernel
theorem d_Second_isCounting_23 : decode b_Second_isCounting 23 = .ok (.iconst 1, 1) := by decide +kernel
theorem d_Second_isCounting_24 : decode b_Second_isCounting 24 = .ok (.goto 4, 3) := by decide +kernel
theorem d_Second_isCounting_27 : decode b_Second_isCounting 27 = .ok (.iconst 0, 1) := by decide +kernel
theorem d_Second_isCounting_28 : decode b_Second_isCounting 28 = .ok (.ireturn, 1) := by decide +kernel
theorem d_Second_isMacro_0 : decode b_Second_isMacro 0 = .ok (.aload_n 0, 1) := by decide +kernel
theorem d_Second_isMacro_1 : decode b_Second_isMacro 1 = .ok (.iload_n 1, 1) := by decide +kernel
theorem d_Second_isMacro_2 : decode b_Second_isMacro 2 = .ok (.invokevirtual 230, 3) := by decide +kernel
theorem d_Second_isMacro_5 : decode b_Second_isMacro 5 = .ok (.istore_n 2, 1) := by decide +kernel
theorem d_Second_isMacro_6 : decode b_Second_isMacro 6 = .ok (.iload_n 2, 1) := by decide +kernel
theorem d_Second_isMacro_7 : decode b_Second_isMacro 7 = .ok (.ifCond .lt 18, 3) := by decide +kernel
theorem d_Second_isMacro_10 : decode b_Second_isMacro 10 = .ok (.aload_n 0, 1) := by decide +kernel
theorem d_Second_isMacro_11 : decode b_Second_isMacro 11 = .ok (.getfield 23, 3) := by decide +kernel
theorem d_Second_isMacro_14 : decode b_Second_isMacro 14 = .ok (.iload_n 2, 1) := by decide +kernel
theorem d_Second_isMacro_15 : decode b_Second_isMacro 15 = .ok (.invokevirtual 263, 3) := by decide +kernel
theorem d_Second_isMacro_18 : decode b_Second_isMacro 18 = .ok (.ifCond .eq 7, 3) := by decide +kernel
theorem d_Second_isMacro_21 : decode b_Second_isMacro 21 = .ok (.iconst 1, 1) := by decide +kernel
theorem d_Second_isMacro_22 : decode b_Second_isMacro 22 = .ok (.goto 4, 3) := by decide +kernel
theorem d_Second_isMacro_25 : decode b_Second_isMacro 25 = .ok (.iconst 0, 1) := by decide +kernel
theorem d_Second_isMacro_26 : decode b_Second_isMacro 26 = .ok (.ireturn, 1) := by decide +kernel
theorem d_Second_isTooLarge_0 : decode b_Second_isTooLarge 0 = .ok (.iload_n 2, 1) := by decide +kernel
theorem d_Second_isTooLarge_1 : decode b_Second_isTooLarge 1 = .ok (.bipush 10, 2) := by decide +kernel
theorem d_Second_isTooLarge_3 : decode b_Second_isTooLarge 3 = .ok (.if_icmp .ne 39, 3) := by decide +kernel
theorem d_Second_isTooLarge_6 : decode b_Second_isTooLarge 6 = .ok (.ldc2_w 325, 3) := by decide +kernel
theorem d_Second_isTooLarge_9 : decode b_Second_isTooLarge 9 = .ok (.lstore 4, 2) := by decide +kernel
theorem d_Second_isTooLarge_11 : decode b_Second_isTooLarge 11 = .ok (.lload_n 0, 1) := by decide +kernel
theorem d_Second_isTooLarge_12 : decode b_Second_isTooLarge 12 = .ok (.lconst 0, 1) := by decide +kernel
theorem d_Second_isTooLarge_13 : decode b_Second_isTooLarge 13 = .ok (.lcmp, 1) := by decide +kernel
theorem d_Second_isTooLarge_14 : decode b_Second_isTooLarge 14 = .ok (.ifCond .lt 22, 3) := by decide +kernel
theorem d_Second_isTooLarge_17 : decode b_Second_isTooLarge 17 = .ok (.lload_n 0, 1) := by decide +kernel
theorem d_Second_isTooLarge_18 : decode b_Second_isTooLarge 18 = .ok (.lload 4, 2) := by decide +kernel
theorem d_Second_isTooLarge_20 : decode b_Second_isTooLarge 20 = .ok (.lcmp, 1) := by decide +kernel
theorem d_Second_isTooLarge_21 : decode b_Second_isTooLarge 21 = .ok (.ifCond .gt 15, 3) := by decide +kernel
theorem d_Second_isTooLarge_24 : decode b_Second_isTooLarge 24 = .ok (.lload_n 0, 1) := by decide +kernel
theorem d_Second_isTooLarge_25 : decode b_Second_isTooLarge 25 = .ok (.lload 4, 2) := by decide +kernel
theorem d_Second_isTooLarge_27 : decode b_Second_isTooLarge 27 = .ok (.lcmp, 1) := by decide +kernel
theorem d_Second_isTooLarge_28 : decode b_Second_isTooLarge 28 = .ok (.ifCond .ne 12, 3) := by decide +kernel
theorem d_Second_isTooLarge_31 : decode b_Second_isTooLarge 31 = .ok (.iload_n 3, 1) := by decide +kernel
theorem d_Second_isTooLarge_32 : decode b_Second_isTooLarge 32 = .ok (.iconst 5, 1) := by decide +kernel
theorem d_Second_isTooLarge_33 : decode b_Second_isTooLarge 33 = .ok (.if_icmp .le 7, 3) := by decide +kernel
theorem d_Second_isTooLarge_36 : decode b_Second_isTooLarge 36 = .ok (.iconst 1, 1) := by decide +kernel
theorem d_Second_isTooLarge_37 : decode b_Second_isTooLarge 37 = .ok (.goto 4, 3) := by decide +kernel
theorem d_Second_isTooLarge_40 : decode b_Second_isTooLarge 40 = .ok (.iconst 0, 1) := by decide +kernel
theorem d_Second_isTooLarge_41 : decode b_Second_isTooLarge 41 = .ok (.ireturn, 1) := by decide +kernel
theorem d_Second_isTooLarge_42 : decode b_Second_isTooLarge 42 = .ok (.lload_n 0, 1) := by decide +kernel
theorem d_Second_isTooLarge_43 : decode b_Second_isTooLarge 43 = .ok (.iload_n 2, 1) := by decide +kernel
theorem d_Second_isTooLarge_44 : decode b_Second_isTooLarge 44 = .ok (.bipush 16, 2) := by decide +kernel
theorem d_Second_isTooLarge_46 : decode b_Second_isTooLarge 46 = .ok (.if_icmp .ne 8, 3) := by decide +kernel
theorem d_Second_isTooLarge_49 : decode b_Second_isTooLarge 49 = .ok (.bipush 60, 2) := by decide +kernel
theorem d_Second_isTooLarge_51 : decode b_Second_isTooLarge 51 = .ok (.goto 5, 3) := by decide +kernel
theorem d_Second_isTooLarge_54 : decode b_Second_isTooLarge 54 = .ok (.bipush 61, 2) := by decide +kernel
theorem d_Second_isTooLarge_56 : decode b_Second_isTooLarge 56 = .ok (.lushr, 1) := by decide +kernel
theorem d_Second_isTooLarge_57 : decode b_Second_isTooLarge 57 = .ok (.lconst 0, 1) := by decide +kernel
theorem d_Second_isTooLarge_58 : decode b_Second_isTooLarge 58 = .ok (.lcmp, 1) := by decide +kernel
theorem d_Second_isTooLarge_59 : decode b_Second_isTooLarge 59 = .ok (.ifCond .eq 7, 3) := by decide +kernel
theorem d_Second_isTooLarge_62 : decode b_Second_isTooLarge 62 = .ok (.iconst 1, 1) := by decide +kernel
theorem d_Second_isTooLarge_63 : decode b_Second_isTooLarge 63 = .ok (.goto 4, 3) := by decide +kernel
theorem d_Second_isTooLarge_66 : decode b_Second_isTooLarge 66 = .ok (.iconst 0, 1) := by decide +kernel
theorem d_Second_isTooLarge_67 : decode b_Second_isTooLarge 67 = .ok (.ireturn, 1) := by decide +kernel
theorem d_Second_keepText_0 : decode b_Second_keepText 0 = .ok (.aload_n 0, 1) := by decide +kernel
theorem d_Second_keepText_1 : decode b_Second_keepText 1 = .ok (.invokevirtual 179, 3) := by decide +kernel
theorem d_Second_keepText_4 : decode b_Second_keepText 4 = .ok (.ifCond .ne 4, 3) := by decide +kernel
theorem d_Second_keepText_7 : decode b_Second_keepText 7 = .ok (.return_, 1) := by decide +kernel
theorem d_Second_keepText_8 : decode b_Second_keepText 8 = .ok (.aload_n 0, 1) := by decide +kernel
theorem d_Second_keepText_9 : decode b_Second_keepText 9 = .ok (.getfield 129, 3) := by decide +kernel
theorem d_Second_keepText_12 : decode b_Second_keepText 12 = .ok (.sipush 8000, 3) := by decide +kernel
theorem d_Second_keepText_15 : decode b_Second_keepText 15 = .ok (.if_icmp .le 23, 3) := by decide +kernel
theorem d_Second_keepText_18 : decode b_Second_keepText 18 = .ok (.aload_n 0, 1) := by decide +kernel
theorem d_Second_keepText_19 : decode b_Second_keepText 19 = .ok (.getfield 48, 3) := by decide +kernel
theorem d_Second_keepText_22 : decode b_Second_keepText 22 = .ok (.bipush 21, 2) := by decide +kernel
theorem d_Second_keepText_24 : decode b_Second_keepText 24 = .ok (.aload_n 0, 1) := by decide +kernel
theorem d_Second_keepText_25 : decode b_Second_keepText 25 = .ok (.getfield 12, 3) := by decide +kernel
theorem d_Second_keepText_28 : decode b_Second_keepText 28 = .ok (.sipush 8000, 3) := by decide +kernel
theorem d_Second_keepText_31 : decode b_Second_keepText 31 = .ok (.invokevirtual 145, 3) := by decide +kernel
theorem d_Second_keepText_34 : decode b_Second_keepText 34 = .ok (.invokevirtual 176, 3) := by decide +kernel
theorem d_Second_keepText_37 : decode b_Second_keepText 37 = .ok (.return_, 1) := by decide +kernel
theorem d_Second_keepText_38 : decode b_Second_keepText 38 = .ok (.aload_n 0, 1) := by decide +kernel
theorem d_Second_keepText_39 : decode b_Second_keepText 39 = .ok (.getfield 61, 3) := by decide +kernel
theorem d_Second_keepText_42 : decode b_Second_keepText 42 = .ok (.aload_n 0, 1) := by decide +kernel
theorem d_Second_keepText_43 : decode b_Second_keepText 43 = .ok (.getfield 129, 3) := by decide +kernel
theorem d_Second_keepText_46 : decode b_Second_keepText 46 = .ok (.putfield 116, 3) := by decide +kernel
theorem d_Second_keepText_49 : decode b_Second_keepText 49 = .ok (.return_, 1) := by decide +kernel
theorem d_Second_openCondition_0 : decode b_Second_openCondition 0 = .ok (.aload_n 0, 1) := by decide +kernel
theorem d_Second_openCondition_1 : decode b_Second_openCondition 1 = .ok (.getfield 82, 3) := by decide +kernel
theorem d_Second_openCondition_4 : decode b_Second_openCondition 4 = .ok (.bipush 100, 2) := by decide +kernel
theorem d_Second_openCondition_6 : decode b_Second_openCondition 6 = .ok (.if_icmp .lt 10, 3) := by decide +kernel
theorem d_Second_openCondition_9 : decode b_Second_openCondition 9 = .ok (.aload_n 0, 1) := by decide +kernel
theorem d_Second_openCondition_10 : decode b_Second_openCondition 10 = .ok (.bipush 21, 2) := by decide +kernel
theorem d_Second_openCondition_12 : decode b_Second_openCondition 12 = .ok (.invokevirtual 239, 3) := by decide +kernel
theorem d_Second_openCondition_15 : decode b_Second_openCondition 15 = .ok (.return_, 1) := by decide +kernel
theorem d_Second_openCondition_16 : decode b_Second_openCondition 16 = .ok (.aload_n 0, 1) := by decide +kernel
theorem d_Second_openCondition_17 : decode b_Second_openCondition 17 = .ok (.getfield 31, 3) := by decide +kernel
theorem d_Second_openCondition_20 : decode b_Second_openCondition 20 = .ok (.aload_n 0, 1) := by decide +kernel
theorem d_Second_openCondition_21 : decode b_Second_openCondition 21 = .ok (.getfield 82, 3) := by decide +kernel
theorem d_Second_openCondition_24 : decode b_Second_openCondition 24 = .ok (.iload_n 1, 1) := by decide +kernel
theorem d_Second_openCondition_25 : decode b_Second_openCondition 25 = .ok (.iastore, 1) := by decide +kernel
theorem d_Second_openCondition_26 : decode b_Second_openCondition 26 = .ok (.aload_n 0, 1) := by decide +kernel
theorem d_Second_openCondition_27 : decode b_Second_openCondition 27 = .ok (.getfield 27, 3) := by decide +kernel
theorem d_Second_openCondition_30 : decode b_Second_openCondition 30 = .ok (.aload_n 0, 1) := by decide +kernel
theorem d_Second_openCondition_31 : decode b_Second_openCondition 31 = .ok (.getfield 82, 3) := by decide +kernel
theorem d_Second_openCondition_34 : decode b_Second_openCondition 34 = .ok (.aload_n 0, 1) := by decide +kernel
theorem d_Second_openCondition_35 : decode b_Second_openCondition 35 = .ok (.getfield 149, 3) := by decide +kernel
theorem d_Second_openCondition_38 : decode b_Second_openCondition 38 = .ok (.iastore, 1) := by decide +kernel
theorem d_Second_openCondition_39 : decode b_Second_openCondition 39 = .ok (.aload_n 0, 1) := by decide +kernel
theorem d_Second_openCondition_40 : decode b_Second_openCondition 40 = .ok (.dup, 1) := by decide +kernel
theorem d_Second_openCondition_41 : decode b_Second_openCondition 41 = .ok (.getfield 82, 3) := by decide +kernel
theorem d_Second_openCondition_44 : decode b_Second_openCondition 44 = .ok (.iconst 1, 1) := by decide +kernel
theorem d_Second_openCondition_45 : decode b_Second_openCondition 45 = .ok (.iadd, 1) := by decide +kernel
theorem d_Second_openCondition_46 : decode b_Second_openCondition 46 = .ok (.putfield 82, 3) := by decide +kernel
theorem d_Second_openCondition_49 : decode b_Second_openCondition 49 = .ok (.return_, 1) := by decide +kernel
theorem d_Second_parameterOf_0 : decode b_Second_parameterOf 0 = .ok (.iconst 0, 1) := by decide +kernel
theorem d_Second_parameterOf_1 : decode b_Second_parameterOf 1 = .ok (.istore_n 2, 1) := by decide +kernel
theorem d_Second_parameterOf_2 : decode b_Second_parameterOf 2 = .ok (.iload_n 2, 1) := by decide +kernel
theorem d_Second_parameterOf_3 : decode b_Second_parameterOf 3 = .ok (.aload_n 0, 1) := by decide +kernel
theorem d_Second_parameterOf_4 : decode b_Second_parameterOf 4 = .ok (.getfield 369, 3) := by decide +kernel
theorem d_Second_parameterOf_7 : decode b_Second_parameterOf 7 = .ok (.if_icmp .ge 44, 3) := by decide +kernel
theorem d_Second_parameterOf_10 : decode b_Second_parameterOf 10 = .ok (.aload_n 0, 1) := by decide +kernel
theorem d_Second_parameterOf_11 : decode b_Second_parameterOf 11 = .ok (.getfield 12, 3) := by decide +kernel
theorem d_Second_parameterOf_14 : decode b_Second_parameterOf 14 = .ok (.aload_n 0, 1) := by decide +kernel
theorem d_Second_parameterOf_15 : decode b_Second_parameterOf 15 = .ok (.getfield 12, 3) := by decide +kernel
theorem d_Second_parameterOf_18 : decode b_Second_parameterOf 18 = .ok (.getfield 396, 3) := by decide +kernel
theorem d_Second_parameterOf_21 : decode b_Second_parameterOf 21 = .ok (.iload_n 1, 1) := by decide +kernel
theorem d_Second_parameterOf_22 : decode b_Second_parameterOf 22 = .ok (.laload, 1) := by decide +kernel
theorem d_Second_parameterOf_23 : decode b_Second_parameterOf 23 = .ok (.aload_n 0, 1) := by decide +kernel
theorem d_Second_parameterOf_24 : decode b_Second_parameterOf 24 = .ok (.getfield 12, 3) := by decide +kernel
theorem d_Second_parameterOf_27 : decode b_Second_parameterOf 27 = .ok (.getfield 396, 3) := by decide +kernel
theorem d_Second_parameterOf_30 : decode b_Second_parameterOf 30 = .ok (.aload_n 0, 1) := by decide +kernel
theorem d_Second_parameterOf_31 : decode b_Second_parameterOf 31 = .ok (.getfield 37, 3) := by decide +kernel
theorem d_Second_parameterOf_34 : decode b_Second_parameterOf 34 = .ok (.iload_n 2, 1) := by decide +kernel
theorem d_Second_parameterOf_35 : decode b_Second_parameterOf 35 = .ok (.iaload, 1) := by decide +kernel
theorem d_Second_parameterOf_36 : decode b_Second_parameterOf 36 = .ok (.laload, 1) := by decide +kernel
theorem d_Second_parameterOf_37 : decode b_Second_parameterOf 37 = .ok (.invokevirtual 400, 3) := by decide +kernel
theorem d_Second_parameterOf_40 : decode b_Second_parameterOf 40 = .ok (.ifCond .eq 5, 3) := by decide +kernel
theorem d_Second_parameterOf_43 : decode b_Second_parameterOf 43 = .ok (.iload_n 2, 1) := by decide +kernel
theorem d_Second_parameterOf_44 : decode b_Second_parameterOf 44 = .ok (.ireturn, 1) := by decide +kernel
theorem d_Second_parameterOf_45 : decode b_Second_parameterOf 45 = .ok (.iinc 2 1, 3) := by decide +kernel
theorem d_Second_parameterOf_48 : decode b_Second_parameterOf 48 = .ok (.goto (-46), 3) := by decide +kernel
theorem d_Second_parameterOf_51 : decode b_Second_parameterOf 51 = .ok (.iconst (-1), 1) := by decide +kernel
theorem d_Second_parameterOf_52 : decode b_Second_parameterOf 52 = .ok (.ireturn, 1) := by decide +kernel
theorem d_Second_suffixOf_0 : decode b_Second_suffixOf 0 = .ok (.aload_n 0, 1) := by decide +kernel
theorem d_Second_suffixOf_1 : decode b_Second_suffixOf 1 = .ok (.getfield 12, 3) := by decide +kernel
theorem d_Second_suffixOf_4 : decode b_Second_suffixOf 4 = .ok (.getfield 225, 3) := by decide +kernel
theorem d_Second_suffixOf_7 : decode b_Second_suffixOf 7 = .ok (.astore_n 3, 1) := by decide +kernel
theorem d_Second_suffixOf_8 : decode b_Second_suffixOf 8 = .ok (.iload_n 1, 1) := by decide +kernel
theorem d_Second_suffixOf_9 : decode b_Second_suffixOf 9 = .ok (.istore 4, 2) := by decide +kernel
theorem d_Second_suffixOf_11 : decode b_Second_suffixOf 11 = .ok (.iload 4, 2) := by decide +kernel
theorem d_Second_suffixOf_13 : decode b_Second_suffixOf 13 = .ok (.iload_n 2, 1) := by decide +kernel
theorem d_Second_suffixOf_14 : decode b_Second_suffixOf 14 = .ok (.if_icmp .ge 19, 3) := by decide +kernel
theorem d_Second_suffixOf_17 : decode b_Second_suffixOf 17 = .ok (.aload_n 3, 1) := by decide +kernel
theorem d_Second_suffixOf_18 : decode b_Second_suffixOf 18 = .ok (.iload 4, 2) := by decide +kernel
theorem d_Second_suffixOf_20 : decode b_Second_suffixOf 20 = .ok (.baload, 1) := by decide +kernel
theorem d_Second_suffixOf_21 : decode b_Second_suffixOf 21 = .ok (.bipush 32, 2) := by decide +kernel
theorem d_Second_suffixOf_23 : decode b_Second_suffixOf 23 = .ok (.ior, 1) := by decide +kernel
theorem d_Second_suffixOf_24 : decode b_Second_suffixOf 24 = .ok (.bipush 117, 2) := by decide +kernel
theorem d_Second_suffixOf_26 : decode b_Second_suffixOf 26 = .ok (.if_icmp .ne 7, 3) := by decide +kernel
theorem d_Second_suffixOf_29 : decode b_Second_suffixOf 29 = .ok (.iconst 1, 1) := by decide +kernel
theorem d_Second_suffixOf_30 : decode b_Second_suffixOf 30 = .ok (.goto 4, 3) := by decide +kernel
theorem d_Second_suffixOf_33 : decode b_Second_suffixOf 33 = .ok (.iconst 0, 1) := by decide +kernel
theorem d_Second_suffixOf_34 : decode b_Second_suffixOf 34 = .ok (.istore 5, 2) := by decide +kernel
theorem d_Second_suffixOf_36 : decode b_Second_suffixOf 36 = .ok (.iload 4, 2) := by decide +kernel
theorem d_Second_suffixOf_38 : decode b_Second_suffixOf 38 = .ok (.iload 5, 2) := by decide +kernel
theorem d_Second_suffixOf_40 : decode b_Second_suffixOf 40 = .ok (.ifCond .eq 7, 3) := by decide +kernel
theorem d_Second_suffixOf_43 : decode b_Second_suffixOf 43 = .ok (.iconst 1, 1) := by decide +kernel
theorem d_Second_suffixOf_44 : decode b_Second_suffixOf 44 = .ok (.goto 4, 3) := by decide +kernel
theorem d_Second_suffixOf_47 : decode b_Second_suffixOf 47 = .ok (.iconst 0, 1) := by decide +kernel
theorem d_Second_suffixOf_48 : decode b_Second_suffixOf 48 = .ok (.iadd, 1) := by decide +kernel
theorem d_Second_suffixOf_49 : decode b_Second_suffixOf 49 = .ok (.istore 4, 2) := by decide +kernel
theorem d_Second_suffixOf_51 : decode b_Second_suffixOf 51 = .ok (.iload 4, 2) := by decide +kernel
theorem d_Second_suffixOf_53 : decode b_Second_suffixOf 53 = .ok (.iload_n 2, 1) := by decide +kernel
theorem d_Second_suffixOf_54 : decode b_Second_suffixOf 54 = .ok (.if_icmp .ge 46, 3) := by decide +kernel
theorem d_Second_suffixOf_57 : decode b_Second_suffixOf 57 = .ok (.aload_n 3, 1) := by decide +kernel
theorem d_Second_suffixOf_58 : decode b_Second_suffixOf 58 = .ok (.iload 4, 2) := by decide +kernel
theorem d_Second_suffixOf_60 : decode b_Second_suffixOf 60 = .ok (.baload, 1) := by decide +kernel
theorem d_Second_suffixOf_61 : decode b_Second_suffixOf 61 = .ok (.bipush 32, 2) := by decide +kernel
theorem d_Second_suffixOf_63 : decode b_Second_suffixOf 63 = .ok (.ior, 1) := by decide +kernel
theorem d_Second_suffixOf_64 : decode b_Second_suffixOf 64 = .ok (.bipush 108, 2) := by decide +kernel
theorem d_Second_suffixOf_66 : decode b_Second_suffixOf 66 = .ok (.if_icmp .ne 34, 3) := by decide +kernel
theorem d_Second_suffixOf_69 : decode b_Second_suffixOf 69 = .ok (.iload 4, 2) := by decide +kernel
theorem d_Second_suffixOf_71 : decode b_Second_suffixOf 71 = .ok (.iload 4, 2) := by decide +kernel
theorem d_Second_suffixOf_73 : decode b_Second_suffixOf 73 = .ok (.iconst 1, 1) := by decide +kernel
theorem d_Second_suffixOf_74 : decode b_Second_suffixOf 74 = .ok (.iadd, 1) := by decide +kernel
theorem d_Second_suffixOf_75 : decode b_Second_suffixOf 75 = .ok (.iload_n 2, 1) := by decide +kernel
theorem d_Second_suffixOf_76 : decode b_Second_suffixOf 76 = .ok (.if_icmp .ge 20, 3) := by decide +kernel
theorem d_Second_suffixOf_79 : decode b_Second_suffixOf 79 = .ok (.aload_n 3, 1) := by decide +kernel
theorem d_Second_suffixOf_80 : decode b_Second_suffixOf 80 = .ok (.iload 4, 2) := by decide +kernel
theorem d_Second_suffixOf_82 : decode b_Second_suffixOf 82 = .ok (.iconst 1, 1) := by decide +kernel
theorem d_Second_suffixOf_83 : decode b_Second_suffixOf 83 = .ok (.iadd, 1) := by decide +kernel
theorem d_Second_suffixOf_84 : decode b_Second_suffixOf 84 = .ok (.baload, 1) := by decide +kernel
theorem d_Second_suffixOf_85 : decode b_Second_suffixOf 85 = .ok (.aload_n 3, 1) := by decide +kernel
theorem d_Second_suffixOf_86 : decode b_Second_suffixOf 86 = .ok (.iload 4, 2) := by decide +kernel
theorem d_Second_suffixOf_88 : decode b_Second_suffixOf 88 = .ok (.baload, 1) := by decide +kernel
theorem d_Second_suffixOf_89 : decode b_Second_suffixOf 89 = .ok (.if_icmp .ne 7, 3) := by decide +kernel
theorem d_Second_suffixOf_92 : decode b_Second_suffixOf 92 = .ok (.iconst 2, 1) := by decide +kernel
theorem d_Second_suffixOf_93 : decode b_Second_suffixOf 93 = .ok (.goto 4, 3) := by decide +kernel
theorem d_Second_suffixOf_96 : decode b_Second_suffixOf 96 = .ok (.iconst 1, 1) := by decide +kernel
theorem d_Second_suffixOf_97 : decode b_Second_suffixOf 97 = .ok (.iadd, 1) := by decide +kernel
theorem d_Second_suffixOf_98 : decode b_Second_suffixOf 98 = .ok (.istore 4, 2) := by decide +kernel
theorem d_Second_suffixOf_100 : decode b_Second_suffixOf 100 = .ok (.iload 5, 2) := by decide +kernel
theorem d_Second_suffixOf_102 : decode b_Second_suffixOf 102 = .ok (.ifCond .ne 27, 3) := by decide +kernel
theorem d_Second_suffixOf_105 : decode b_Second_suffixOf 105 = .ok (.iload 4, 2) := by decide +kernel
theorem d_Second_suffixOf_107 : decode b_Second_suffixOf 107 = .ok (.iload_n 2, 1) := by decide +kernel
theorem d_Second_suffixOf_108 : decode b_Second_suffixOf 108 = .ok (.if_icmp .ge 21, 3) := by decide +kernel
theorem d_Second_suffixOf_111 : decode b_Second_suffixOf 111 = .ok (.aload_n 3, 1) := by decide +kernel
theorem d_Second_suffixOf_112 : decode b_Second_suffixOf 112 = .ok (.iload 4, 2) := by decide +kernel
theorem d_Second_suffixOf_114 : decode b_Second_suffixOf 114 = .ok (.baload, 1) := by decide +kernel
theorem d_Second_suffixOf_115 : decode b_Second_suffixOf 115 = .ok (.bipush 32, 2) := by decide +kernel
theorem d_Second_suffixOf_117 : decode b_Second_suffixOf 117 = .ok (.ior, 1) := by decide +kernel
theorem d_Second_suffixOf_118 : decode b_Second_suffixOf 118 = .ok (.bipush 117, 2) := by decide +kernel
theorem d_Second_suffixOf_120 : decode b_Second_suffixOf 120 = .ok (.if_icmp .ne 9, 3) := by decide +kernel
theorem d_Second_suffixOf_123 : decode b_Second_suffixOf 123 = .ok (.iconst 1, 1) := by decide +kernel
theorem d_Second_suffixOf_124 : decode b_Second_suffixOf 124 = .ok (.istore 5, 2) := by decide +kernel
theorem d_Second_suffixOf_126 : decode b_Second_suffixOf 126 = .ok (.iinc 4 1, 3) := by decide +kernel
theorem d_Second_suffixOf_129 : decode b_Second_suffixOf 129 = .ok (.iload 4, 2) := by decide +kernel
theorem d_Second_suffixOf_131 : decode b_Second_suffixOf 131 = .ok (.iload_n 2, 1) := by decide +kernel
theorem d_Second_suffixOf_132 : decode b_Second_suffixOf 132 = .ok (.if_icmp .ge 7, 3) := by decide +kernel
theorem d_Second_suffixOf_135 : decode b_Second_suffixOf 135 = .ok (.iconst (-1), 1) := by decide +kernel
theorem d_Second_suffixOf_136 : decode b_Second_suffixOf 136 = .ok (.goto 13, 3) := by decide +kernel
theorem d_Second_suffixOf_139 : decode b_Second_suffixOf 139 = .ok (.iload 5, 2) := by decide +kernel
theorem d_Second_suffixOf_141 : decode b_Second_suffixOf 141 = .ok (.ifCond .eq 7, 3) := by decide +kernel
theorem d_Second_suffixOf_144 : decode b_Second_suffixOf 144 = .ok (.iconst 1, 1) := by decide +kernel
theorem d_Second_suffixOf_145 : decode b_Second_suffixOf 145 = .ok (.goto 4, 3) := by decide +kernel
theorem d_Second_suffixOf_148 : decode b_Second_suffixOf 148 = .ok (.iconst 0, 1) := by decide +kernel
theorem d_Second_suffixOf_149 : decode b_Second_suffixOf 149 = .ok (.ireturn, 1) := by decide +kernel
theorem d_Second_takeNumber_0 : decode b_Second_takeNumber 0 = .ok (.aload_n 0, 1) := by decide +kernel
theorem d_Second_takeNumber_1 : decode b_Second_takeNumber 1 = .ok (.getfield 12, 3) := by decide +kernel
theorem d_Second_takeNumber_4 : decode b_Second_takeNumber 4 = .ok (.getfield 225, 3) := by decide +kernel
theorem d_Second_takeNumber_7 : decode b_Second_takeNumber 7 = .ok (.astore_n 3, 1) := by decide +kernel
theorem d_Second_takeNumber_8 : decode b_Second_takeNumber 8 = .ok (.aload_n 3, 1) := by decide +kernel
theorem d_Second_takeNumber_9 : decode b_Second_takeNumber 9 = .ok (.iload_n 1, 1) := by decide +kernel
theorem d_Second_takeNumber_10 : decode b_Second_takeNumber 10 = .ok (.baload, 1) := by decide +kernel
theorem d_Second_takeNumber_11 : decode b_Second_takeNumber 11 = .ok (.bipush 48, 2) := by decide +kernel
theorem d_Second_takeNumber_13 : decode b_Second_takeNumber 13 = .ok (.if_icmp .ne 7, 3) := by decide +kernel
theorem d_Second_takeNumber_16 : decode b_Second_takeNumber 16 = .ok (.iconst 1, 1) := by decide +kernel
theorem d_Second_takeNumber_17 : decode b_Second_takeNumber 17 = .ok (.goto 4, 3) := by decide +kernel
theorem d_Second_takeNumber_20 : decode b_Second_takeNumber 20 = .ok (.iconst 0, 1) := by decide +kernel
theorem d_Second_takeNumber_21 : decode b_Second_takeNumber 21 = .ok (.istore 4, 2) := by decide +kernel
theorem d_Second_takeNumber_23 : decode b_Second_takeNumber 23 = .ok (.iload 4, 2) := by decide +kernel
theorem d_Second_takeNumber_25 : decode b_Second_takeNumber 25 = .ok (.ifCond .eq 27, 3) := by decide +kernel
theorem d_Second_takeNumber_28 : decode b_Second_takeNumber 28 = .ok (.iload_n 1, 1) := by decide +kernel
theorem d_Second_takeNumber_29 : decode b_Second_takeNumber 29 = .ok (.iconst 1, 1) := by decide +kernel
theorem d_Second_takeNumber_30 : decode b_Second_takeNumber 30 = .ok (.iadd, 1) := by decide +kernel
theorem d_Second_takeNumber_31 : decode b_Second_takeNumber 31 = .ok (.iload_n 2, 1) := by decide +kernel
theorem d_Second_takeNumber_32 : decode b_Second_takeNumber 32 = .ok (.if_icmp .ge 20, 3) := by decide +kernel
theorem d_Second_takeNumber_35 : decode b_Second_takeNumber 35 = .ok (.aload_n 3, 1) := by decide +kernel
theorem d_Second_takeNumber_36 : decode b_Second_takeNumber 36 = .ok (.iload_n 1, 1) := by decide +kernel
theorem d_Second_takeNumber_37 : decode b_Second_takeNumber 37 = .ok (.iconst 1, 1) := by decide +kernel
theorem d_Second_takeNumber_38 : decode b_Second_takeNumber 38 = .ok (.iadd, 1) := by decide +kernel
theorem d_Second_takeNumber_39 : decode b_Second_takeNumber 39 = .ok (.baload, 1) := by decide +kernel
theorem d_Second_takeNumber_40 : decode b_Second_takeNumber 40 = .ok (.bipush 32, 2) := by decide +kernel
theorem d_Second_takeNumber_42 : decode b_Second_takeNumber 42 = .ok (.ior, 1) := by decide +kernel
theorem d_Second_takeNumber_43 : decode b_Second_takeNumber 43 = .ok (.bipush 120, 2) := by decide +kernel
theorem d_Second_takeNumber_45 : decode b_Second_takeNumber 45 = .ok (.if_icmp .ne 7, 3) := by decide +kernel
theorem d_Second_takeNumber_48 : decode b_Second_takeNumber 48 = .ok (.iconst 1, 1) := by decide +kernel
theorem d_Second_takeNumber_49 : decode b_Second_takeNumber 49 = .ok (.goto 4, 3) := by decide +kernel
theorem d_Second_takeNumber_52 : decode b_Second_takeNumber 52 = .ok (.iconst 0, 1) := by decide +kernel
theorem d_Second_takeNumber_53 : decode b_Second_takeNumber 53 = .ok (.istore 5, 2) := by decide +kernel
theorem d_Second_takeNumber_55 : decode b_Second_takeNumber 55 = .ok (.iload 5, 2) := by decide +kernel
theorem d_Second_takeNumber_57 : decode b_Second_takeNumber 57 = .ok (.ifCond .eq 8, 3) := by decide +kernel
theorem d_Second_takeNumber_60 : decode b_Second_takeNumber 60 = .ok (.bipush 16, 2) := by decide +kernel
theorem d_Second_takeNumber_62 : decode b_Second_takeNumber 62 = .ok (.goto 15, 3) := by decide +kernel
theorem d_Second_takeNumber_65 : decode b_Second_takeNumber 65 = .ok (.iload 4, 2) := by decide +kernel
theorem d_Second_takeNumber_67 : decode b_Second_takeNumber 67 = .ok (.ifCond .eq 8, 3) := by decide +kernel
theorem d_Second_takeNumber_70 : decode b_Second_takeNumber 70 = .ok (.bipush 8, 2) := by decide +kernel
theorem d_Second_takeNumber_72 : decode b_Second_takeNumber 72 = .ok (.goto 5, 3) := by decide +kernel
theorem d_Second_takeNumber_75 : decode b_Second_takeNumber 75 = .ok (.bipush 10, 2) := by decide +kernel
theorem d_Second_takeNumber_77 : decode b_Second_takeNumber 77 = .ok (.istore 6, 2) := by decide +kernel
theorem d_Second_takeNumber_79 : decode b_Second_takeNumber 79 = .ok (.iload 5, 2) := by decide +kernel
theorem d_Second_takeNumber_81 : decode b_Second_takeNumber 81 = .ok (.ifCond .eq 9, 3) := by decide +kernel
theorem d_Second_takeNumber_84 : decode b_Second_takeNumber 84 = .ok (.iload_n 1, 1) := by decide +kernel
theorem d_Second_takeNumber_85 : decode b_Second_takeNumber 85 = .ok (.iconst 2, 1) := by decide +kernel
theorem d_Second_takeNumber_86 : decode b_Second_takeNumber 86 = .ok (.iadd, 1) := by decide +kernel
theorem d_Second_takeNumber_87 : decode b_Second_takeNumber 87 = .ok (.goto 4, 3) := by decide +kernel
theorem d_Second_takeNumber_90 : decode b_Second_takeNumber 90 = .ok (.iload_n 1, 1) := by decide +kernel
theorem d_Second_takeNumber_91 : decode b_Second_takeNumber 91 = .ok (.istore 7, 2) := by decide +kernel
theorem d_Second_takeNumber_93 : decode b_Second_takeNumber 93 = .ok (.iload 7, 2) := by decide +kernel
theorem d_Second_takeNumber_95 : decode b_Second_takeNumber 95 = .ok (.istore 8, 2) := by decide +kernel
theorem d_Second_takeNumber_97 : decode b_Second_takeNumber 97 = .ok (.lconst 0, 1) := by decide +kernel
theorem d_Second_takeNumber_98 : decode b_Second_takeNumber 98 = .ok (.lstore 9, 2) := by decide +kernel
theorem d_Second_takeNumber_100 : decode b_Second_takeNumber 100 = .ok (.iload 8, 2) := by decide +kernel
theorem d_Second_takeNumber_102 : decode b_Second_takeNumber 102 = .ok (.iload_n 2, 1) := by decide +kernel
theorem d_Second_takeNumber_103 : decode b_Second_takeNumber 103 = .ok (.if_icmp .ge 62, 3) := by decide +kernel
theorem d_Second_takeNumber_106 : decode b_Second_takeNumber 106 = .ok (.aload_n 3, 1) := by decide +kernel
theorem d_Second_takeNumber_107 : decode b_Second_takeNumber 107 = .ok (.iload 8, 2) := by decide +kernel
theorem d_Second_takeNumber_109 : decode b_Second_takeNumber 109 = .ok (.baload, 1) := by decide +kernel
theorem d_Second_takeNumber_110 : decode b_Second_takeNumber 110 = .ok (.invokestatic 312, 3) := by decide +kernel
theorem d_Second_takeNumber_113 : decode b_Second_takeNumber 113 = .ok (.iload 6, 2) := by decide +kernel
theorem d_Second_takeNumber_115 : decode b_Second_takeNumber 115 = .ok (.if_icmp .ge 50, 3) := by decide +kernel
theorem d_Second_takeNumber_118 : decode b_Second_takeNumber 118 = .ok (.lload 9, 2) := by decide +kernel
theorem d_Second_takeNumber_120 : decode b_Second_takeNumber 120 = .ok (.iload 6, 2) := by decide +kernel
theorem d_Second_takeNumber_122 : decode b_Second_takeNumber 122 = .ok (.aload_n 3, 1) := by decide +kernel
theorem d_Second_takeNumber_123 : decode b_Second_takeNumber 123 = .ok (.iload 8, 2) := by decide +kernel
theorem d_Second_takeNumber_125 : decode b_Second_takeNumber 125 = .ok (.baload, 1) := by decide +kernel
theorem d_Second_takeNumber_126 : decode b_Second_takeNumber 126 = .ok (.invokestatic 312, 3) := by decide +kernel
theorem d_Second_takeNumber_129 : decode b_Second_takeNumber 129 = .ok (.invokestatic 315, 3) := by decide +kernel
theorem d_Second_takeNumber_132 : decode b_Second_takeNumber 132 = .ok (.ifCond .eq 10, 3) := by decide +kernel
theorem d_Second_takeNumber_135 : decode b_Second_takeNumber 135 = .ok (.aload_n 0, 1) := by decide +kernel
theorem d_Second_takeNumber_136 : decode b_Second_takeNumber 136 = .ok (.getfield 52, 3) := by decide +kernel
theorem d_Second_takeNumber_139 : decode b_Second_takeNumber 139 = .ok (.invokevirtual 299, 3) := by decide +kernel
theorem d_Second_takeNumber_142 : decode b_Second_takeNumber 142 = .ok (.lload 9, 2) := by decide +kernel
theorem d_Second_takeNumber_144 : decode b_Second_takeNumber 144 = .ok (.iload 6, 2) := by decide +kernel
theorem d_Second_takeNumber_146 : decode b_Second_takeNumber 146 = .ok (.i2l, 1) := by decide +kernel
theorem d_Second_takeNumber_147 : decode b_Second_takeNumber 147 = .ok (.lmul, 1) := by decide +kernel
theorem d_Second_takeNumber_148 : decode b_Second_takeNumber 148 = .ok (.aload_n 3, 1) := by decide +kernel
theorem d_Second_takeNumber_149 : decode b_Second_takeNumber 149 = .ok (.iload 8, 2) := by decide +kernel
theorem d_Second_takeNumber_151 : decode b_Second_takeNumber 151 = .ok (.baload, 1) := by decide +kernel
theorem d_Second_takeNumber_152 : decode b_Second_takeNumber 152 = .ok (.invokestatic 312, 3) := by decide +kernel
theorem d_Second_takeNumber_155 : decode b_Second_takeNumber 155 = .ok (.i2l, 1) := by decide +kernel
theorem d_Second_takeNumber_156 : decode b_Second_takeNumber 156 = .ok (.ladd, 1) := by decide +kernel
theorem d_Second_takeNumber_157 : decode b_Second_takeNumber 157 = .ok (.lstore 9, 2) := by decide +kernel
theorem d_Second_takeNumber_159 : decode b_Second_takeNumber 159 = .ok (.iinc 8 1, 3) := by decide +kernel
theorem d_Second_takeNumber_162 : decode b_Second_takeNumber 162 = .ok (.goto (-62), 3) := by decide +kernel
theorem d_Second_takeNumber_165 : decode b_Second_takeNumber 165 = .ok (.aload_n 0, 1) := by decide +kernel
theorem d_Second_takeNumber_166 : decode b_Second_takeNumber 166 = .ok (.iload 8, 2) := by decide +kernel
theorem d_Second_takeNumber_168 : decode b_Second_takeNumber 168 = .ok (.iload_n 2, 1) := by decide +kernel
theorem d_Second_takeNumber_169 : decode b_Second_takeNumber 169 = .ok (.invokevirtual 319, 3) := by decide +kernel
theorem d_Second_takeNumber_172 : decode b_Second_takeNumber 172 = .ok (.istore 11, 2) := by decide +kernel
theorem d_Second_takeNumber_174 : decode b_Second_takeNumber 174 = .ok (.iload 8, 2) := by decide +kernel
theorem d_Second_takeNumber_176 : decode b_Second_takeNumber 176 = .ok (.iload 7, 2) := by decide +kernel
theorem d_Second_takeNumber_178 : decode b_Second_takeNumber 178 = .ok (.if_icmp .eq 27, 3) := by decide +kernel
theorem d_Second_takeNumber_181 : decode b_Second_takeNumber 181 = .ok (.iload 11, 2) := by decide +kernel
theorem d_Second_takeNumber_183 : decode b_Second_takeNumber 183 = .ok (.ifCond .lt 22, 3) := by decide +kernel
theorem d_Second_takeNumber_186 : decode b_Second_takeNumber 186 = .ok (.iload 11, 2) := by decide +kernel
theorem d_Second_takeNumber_188 : decode b_Second_takeNumber 188 = .ok (.ifCond .ne 24, 3) := by decide +kernel
theorem d_Second_takeNumber_191 : decode b_Second_takeNumber 191 = .ok (.iload 6, 2) := by decide +kernel
theorem d_Second_takeNumber_193 : decode b_Second_takeNumber 193 = .ok (.bipush 10, 2) := by decide +kernel
theorem d_Second_takeNumber_195 : decode b_Second_takeNumber 195 = .ok (.if_icmp .ne 17, 3) := by decide +kernel
theorem d_Second_takeNumber_198 : decode b_Second_takeNumber 198 = .ok (.lload 9, 2) := by decide +kernel
theorem d_Second_takeNumber_200 : decode b_Second_takeNumber 200 = .ok (.lconst 0, 1) := by decide +kernel
theorem d_Second_takeNumber_201 : decode b_Second_takeNumber 201 = .ok (.lcmp, 1) := by decide +kernel
theorem d_Second_takeNumber_202 : decode b_Second_takeNumber 202 = .ok (.ifCond .ge 10, 3) := by decide +kernel
theorem d_Second_takeNumber_205 : decode b_Second_takeNumber 205 = .ok (.aload_n 0, 1) := by decide +kernel
theorem d_Second_takeNumber_206 : decode b_Second_takeNumber 206 = .ok (.getfield 52, 3) := by decide +kernel
theorem d_Second_takeNumber_209 : decode b_Second_takeNumber 209 = .ok (.invokevirtual 299, 3) := by decide +kernel
theorem d_Second_takeNumber_212 : decode b_Second_takeNumber 212 = .ok (.aload_n 0, 1) := by decide +kernel
theorem d_Second_takeNumber_213 : decode b_Second_takeNumber 213 = .ok (.getfield 52, 3) := by decide +kernel
theorem d_Second_takeNumber_216 : decode b_Second_takeNumber 216 = .ok (.lload 9, 2) := by decide +kernel
theorem d_Second_takeNumber_218 : decode b_Second_takeNumber 218 = .ok (.iload 11, 2) := by decide +kernel
theorem d_Second_takeNumber_220 : decode b_Second_takeNumber 220 = .ok (.ifCond .gt 10, 3) := by decide +kernel
theorem d_Second_takeNumber_223 : decode b_Second_takeNumber 223 = .ok (.lload 9, 2) := by decide +kernel
theorem d_Second_takeNumber_225 : decode b_Second_takeNumber 225 = .ok (.lconst 0, 1) := by decide +kernel
theorem d_Second_takeNumber_226 : decode b_Second_takeNumber 226 = .ok (.lcmp, 1) := by decide +kernel
theorem d_Second_takeNumber_227 : decode b_Second_takeNumber 227 = .ok (.ifCond .ge 7, 3) := by decide +kernel
theorem d_Second_takeNumber_230 : decode b_Second_takeNumber 230 = .ok (.iconst 1, 1) := by decide +kernel
theorem d_Second_takeNumber_231 : decode b_Second_takeNumber 231 = .ok (.goto 4, 3) := by decide +kernel
theorem d_Second_takeNumber_234 : decode b_Second_takeNumber 234 = .ok (.iconst 0, 1) := by decide +kernel
theorem d_Second_takeNumber_235 : decode b_Second_takeNumber 235 = .ok (.invokevirtual 287, 3) := by decide +kernel
theorem d_Second_takeNumber_238 : decode b_Second_takeNumber 238 = .ok (.return_, 1) := by decide +kernel
theorem d_Second_waitForTokens_0 : decode b_Second_waitForTokens 0 = .ok (.aload_n 0, 1) := by decide +kernel
theorem d_Second_waitForTokens_1 : decode b_Second_waitForTokens 1 = .ok (.invokevirtual 241, 3) := by decide +kernel
theorem d_Second_waitForTokens_4 : decode b_Second_waitForTokens 4 = .ok (.aload_n 0, 1) := by decide +kernel
theorem d_Second_waitForTokens_5 : decode b_Second_waitForTokens 5 = .ok (.aload_n 0, 1) := by decide +kernel
theorem d_Second_waitForTokens_6 : decode b_Second_waitForTokens 6 = .ok (.getfield 123, 3) := by decide +kernel
theorem d_Second_waitForTokens_9 : decode b_Second_waitForTokens 9 = .ok (.iconst 2, 1) := by decide +kernel
theorem d_Second_waitForTokens_10 : decode b_Second_waitForTokens 10 = .ok (.iadd, 1) := by decide +kernel
theorem d_Second_waitForTokens_11 : decode b_Second_waitForTokens 11 = .ok (.aload_n 0, 1) := by decide +kernel
theorem d_Second_waitForTokens_12 : decode b_Second_waitForTokens 12 = .ok (.getfield 129, 3) := by decide +kernel
theorem d_Second_waitForTokens_15 : decode b_Second_waitForTokens 15 = .ok (.if_icmp .ge 12, 3) := by decide +kernel
theorem d_Second_waitForTokens_18 : decode b_Second_waitForTokens 18 = .ok (.aload_n 0, 1) := by decide +kernel
theorem d_Second_waitForTokens_19 : decode b_Second_waitForTokens 19 = .ok (.getfield 123, 3) := by decide +kernel
theorem d_Second_waitForTokens_22 : decode b_Second_waitForTokens 22 = .ok (.iconst 2, 1) := by decide +kernel
theorem d_Second_waitForTokens_23 : decode b_Second_waitForTokens 23 = .ok (.iadd, 1) := by decide +kernel
theorem d_Second_waitForTokens_24 : decode b_Second_waitForTokens 24 = .ok (.goto 4, 3) := by decide +kernel
theorem d_Second_waitForTokens_27 : decode b_Second_waitForTokens 27 = .ok (.iconst (-1), 1) := by decide +kernel
theorem d_Second_waitForTokens_28 : decode b_Second_waitForTokens 28 = .ok (.putfield 163, 3) := by decide +kernel
theorem d_Second_waitForTokens_31 : decode b_Second_waitForTokens 31 = .ok (.aload_n 0, 1) := by decide +kernel
theorem d_Second_waitForTokens_32 : decode b_Second_waitForTokens 32 = .ok (.getfield 12, 3) := by decide +kernel
theorem d_Second_waitForTokens_35 : decode b_Second_waitForTokens 35 = .ok (.getfield 138, 3) := by decide +kernel
theorem d_Second_waitForTokens_38 : decode b_Second_waitForTokens 38 = .ok (.aload_n 0, 1) := by decide +kernel
theorem d_Second_waitForTokens_39 : decode b_Second_waitForTokens 39 = .ok (.getfield 129, 3) := by decide +kernel
theorem d_Second_waitForTokens_42 : decode b_Second_waitForTokens 42 = .ok (.iconst 1, 1) := by decide +kernel
theorem d_Second_waitForTokens_43 : decode b_Second_waitForTokens 43 = .ok (.isub, 1) := by decide +kernel
theorem d_Second_waitForTokens_44 : decode b_Second_waitForTokens 44 = .ok (.iconst (-1), 1) := by decide +kernel
theorem d_Second_waitForTokens_45 : decode b_Second_waitForTokens 45 = .ok (.iastore, 1) := by decide +kernel
theorem d_Second_waitForTokens_46 : decode b_Second_waitForTokens 46 = .ok (.aload_n 0, 1) := by decide +kernel
theorem d_Second_waitForTokens_47 : decode b_Second_waitForTokens 47 = .ok (.iload_n 1, 1) := by decide +kernel
theorem d_Second_waitForTokens_48 : decode b_Second_waitForTokens 48 = .ok (.putfield 132, 3) := by decide +kernel
theorem d_Second_waitForTokens_51 : decode b_Second_waitForTokens 51 = .ok (.return_, 1) := by decide +kernel
theorem d_Tokens_add_0 : decode b_Tokens_add 0 = .ok (.aload_n 0, 1) := by decide +kernel
theorem d_Tokens_add_1 : decode b_Tokens_add 1 = .ok (.getfield 47, 3) := by decide +kernel
theorem d_Tokens_add_4 : decode b_Tokens_add 4 = .ok (.ldc 21, 2) := by decide +kernel
theorem d_Tokens_add_6 : decode b_Tokens_add 6 = .ok (.if_icmp .lt 5, 3) := by decide +kernel
theorem d_Tokens_add_9 : decode b_Tokens_add 9 = .ok (.iconst (-1), 1) := by decide +kernel
theorem d_Tokens_add_10 : decode b_Tokens_add 10 = .ok (.ireturn, 1) := by decide +kernel
theorem d_Tokens_add_11 : decode b_Tokens_add 11 = .ok (.aload_n 0, 1) := by decide +kernel
theorem d_Tokens_add_12 : decode b_Tokens_add 12 = .ok (.getfield 22, 3) := by decide +kernel
theorem d_Tokens_add_15 : decode b_Tokens_add 15 = .ok (.aload_n 0, 1) := by decide +kernel
theorem d_Tokens_add_16 : decode b_Tokens_add 16 = .ok (.getfield 47, 3) := by decide +kernel
theorem d_Tokens_add_19 : decode b_Tokens_add 19 = .ok (.lload_n 1, 1) := by decide +kernel
theorem d_Tokens_add_20 : decode b_Tokens_add 20 = .ok (.lastore, 1) := by decide +kernel
theorem d_Tokens_add_21 : decode b_Tokens_add 21 = .ok (.aload_n 0, 1) := by decide +kernel
theorem d_Tokens_add_22 : decode b_Tokens_add 22 = .ok (.getfield 26, 3) := by decide +kernel
theorem d_Tokens_add_25 : decode b_Tokens_add 25 = .ok (.aload_n 0, 1) := by decide +kernel
theorem d_Tokens_add_26 : decode b_Tokens_add 26 = .ok (.getfield 47, 3) := by decide +kernel
theorem d_Tokens_add_29 : decode b_Tokens_add 29 = .ok (.iload_n 3, 1) := by decide +kernel
theorem d_Tokens_add_30 : decode b_Tokens_add 30 = .ok (.iastore, 1) := by decide +kernel
theorem d_Tokens_add_31 : decode b_Tokens_add 31 = .ok (.aload_n 0, 1) := by decide +kernel
theorem d_Tokens_add_32 : decode b_Tokens_add 32 = .ok (.getfield 30, 3) := by decide +kernel
theorem d_Tokens_add_35 : decode b_Tokens_add 35 = .ok (.aload_n 0, 1) := by decide +kernel
theorem d_Tokens_add_36 : decode b_Tokens_add 36 = .ok (.getfield 47, 3) := by decide +kernel
theorem d_Tokens_add_39 : decode b_Tokens_add 39 = .ok (.iconst (-1), 1) := by decide +kernel
theorem d_Tokens_add_40 : decode b_Tokens_add 40 = .ok (.iastore, 1) := by decide +kernel
theorem d_Tokens_add_41 : decode b_Tokens_add 41 = .ok (.aload_n 0, 1) := by decide +kernel
theorem d_Tokens_add_42 : decode b_Tokens_add 42 = .ok (.dup, 1) := by decide +kernel
theorem d_Tokens_add_43 : decode b_Tokens_add 43 = .ok (.getfield 47, 3) := by decide +kernel
theorem d_Tokens_add_46 : decode b_Tokens_add 46 = .ok (.iconst 1, 1) := by decide +kernel
theorem d_Tokens_add_47 : decode b_Tokens_add 47 = .ok (.iadd, 1) := by decide +kernel
theorem d_Tokens_add_48 : decode b_Tokens_add 48 = .ok (.putfield 47, 3) := by decide +kernel
theorem d_Tokens_add_51 : decode b_Tokens_add 51 = .ok (.aload_n 0, 1) := by decide +kernel
theorem d_Tokens_add_52 : decode b_Tokens_add 52 = .ok (.getfield 47, 3) := by decide +kernel
theorem d_Tokens_add_55 : decode b_Tokens_add 55 = .ok (.iconst 1, 1) := by decide +kernel
theorem d_Tokens_add_56 : decode b_Tokens_add 56 = .ok (.isub, 1) := by decide +kernel
theorem d_Tokens_add_57 : decode b_Tokens_add 57 = .ok (.ireturn, 1) := by decide +kernel
theorem d_Tokens_areSpelledSame_0 : decode b_Tokens_areSpelledSame 0 = .ok (.lload_n 1, 1) := by decide +kernel
theorem d_Tokens_areSpelledSame_1 : decode b_Tokens_areSpelledSame 1 = .ok (.invokestatic 66, 3) := by decide +kernel
theorem d_Tokens_areSpelledSame_4 : decode b_Tokens_areSpelledSame 4 = .ok (.lload_n 3, 1) := by decide +kernel
theorem d_Tokens_areSpelledSame_5 : decode b_Tokens_areSpelledSame 5 = .ok (.invokestatic 66, 3) := by decide +kernel
theorem d_Tokens_areSpelledSame_8 : decode b_Tokens_areSpelledSame 8 = .ok (.if_icmp .ne 33, 3) := by decide +kernel
theorem d_Tokens_areSpelledSame_11 : decode b_Tokens_areSpelledSame 11 = .ok (.aload_n 0, 1) := by decide +kernel
theorem d_Tokens_areSpelledSame_12 : decode b_Tokens_areSpelledSame 12 = .ok (.getfield 12, 3) := by decide +kernel
theorem d_Tokens_areSpelledSame_15 : decode b_Tokens_areSpelledSame 15 = .ok (.lload_n 1, 1) := by decide +kernel
theorem d_Tokens_areSpelledSame_16 : decode b_Tokens_areSpelledSame 16 = .ok (.invokestatic 70, 3) := by decide +kernel
theorem d_Tokens_areSpelledSame_19 : decode b_Tokens_areSpelledSame 19 = .ok (.aload_n 0, 1) := by decide +kernel
theorem d_Tokens_areSpelledSame_20 : decode b_Tokens_areSpelledSame 20 = .ok (.getfield 12, 3) := by decide +kernel
theorem d_Tokens_areSpelledSame_23 : decode b_Tokens_areSpelledSame 23 = .ok (.lload_n 3, 1) := by decide +kernel
theorem d_Tokens_areSpelledSame_24 : decode b_Tokens_areSpelledSame 24 = .ok (.invokestatic 70, 3) := by decide +kernel
theorem d_Tokens_areSpelledSame_27 : decode b_Tokens_areSpelledSame 27 = .ok (.lload_n 1, 1) := by decide +kernel
theorem d_Tokens_areSpelledSame_28 : decode b_Tokens_areSpelledSame 28 = .ok (.invokestatic 66, 3) := by decide +kernel
theorem d_Tokens_areSpelledSame_31 : decode b_Tokens_areSpelledSame 31 = .ok (.invokestatic 73, 3) := by decide +kernel
theorem d_Tokens_areSpelledSame_34 : decode b_Tokens_areSpelledSame 34 = .ok (.ifCond .eq 7, 3) := by decide +kernel
theorem d_Tokens_areSpelledSame_37 : decode b_Tokens_areSpelledSame 37 = .ok (.iconst 1, 1) := by decide +kernel
theorem d_Tokens_areSpelledSame_38 : decode b_Tokens_areSpelledSame 38 = .ok (.goto 4, 3) := by decide +kernel
theorem d_Tokens_areSpelledSame_41 : decode b_Tokens_areSpelledSame 41 = .ok (.iconst 0, 1) := by decide +kernel
theorem d_Tokens_areSpelledSame_42 : decode b_Tokens_areSpelledSame 42 = .ok (.ireturn, 1) := by decide +kernel
theorem d_Tokens_becomeTruth_0 : decode b_Tokens_becomeTruth 0 = .ok (.aload_n 0, 1) := by decide +kernel
theorem d_Tokens_becomeTruth_1 : decode b_Tokens_becomeTruth 1 = .ok (.getfield 22, 3) := by decide +kernel
theorem d_Tokens_becomeTruth_4 : decode b_Tokens_becomeTruth 4 = .ok (.iload_n 1, 1) := by decide +kernel
theorem d_Tokens_becomeTruth_5 : decode b_Tokens_becomeTruth 5 = .ok (.iload_n 2, 1) := by decide +kernel
theorem d_Tokens_becomeTruth_6 : decode b_Tokens_becomeTruth 6 = .ok (.ifCond .eq 8, 3) := by decide +kernel
theorem d_Tokens_becomeTruth_9 : decode b_Tokens_becomeTruth 9 = .ok (.ldc 34, 2) := by decide +kernel
theorem d_Tokens_becomeTruth_11 : decode b_Tokens_becomeTruth 11 = .ok (.goto 5, 3) := by decide +kernel
theorem d_Tokens_becomeTruth_14 : decode b_Tokens_becomeTruth 14 = .ok (.ldc 33, 2) := by decide +kernel
theorem d_Tokens_becomeTruth_16 : decode b_Tokens_becomeTruth 16 = .ok (.iconst 1, 1) := by decide +kernel
theorem d_Tokens_becomeTruth_17 : decode b_Tokens_becomeTruth 17 = .ok (.invokestatic 80, 3) := by decide +kernel
theorem d_Tokens_becomeTruth_20 : decode b_Tokens_becomeTruth 20 = .ok (.lastore, 1) := by decide +kernel
theorem d_Tokens_becomeTruth_21 : decode b_Tokens_becomeTruth 21 = .ok (.aload_n 0, 1) := by decide +kernel
theorem d_Tokens_becomeTruth_22 : decode b_Tokens_becomeTruth 22 = .ok (.getfield 26, 3) := by decide +kernel
theorem d_Tokens_becomeTruth_25 : decode b_Tokens_becomeTruth 25 = .ok (.iload_n 1, 1) := by decide +kernel
theorem d_Tokens_becomeTruth_26 : decode b_Tokens_becomeTruth 26 = .ok (.aload_n 0, 1) := by decide +kernel
theorem d_Tokens_becomeTruth_27 : decode b_Tokens_becomeTruth 27 = .ok (.getfield 26, 3) := by decide +kernel
theorem d_Tokens_becomeTruth_30 : decode b_Tokens_becomeTruth 30 = .ok (.iload_n 1, 1) := by decide +kernel
theorem d_Tokens_becomeTruth_31 : decode b_Tokens_becomeTruth 31 = .ok (.iaload, 1) := by decide +kernel
theorem d_Tokens_becomeTruth_32 : decode b_Tokens_becomeTruth 32 = .ok (.iconst 2, 1) := by decide +kernel
theorem d_Tokens_becomeTruth_33 : decode b_Tokens_becomeTruth 33 = .ok (.invokestatic 84, 3) := by decide +kernel
theorem d_Tokens_becomeTruth_36 : decode b_Tokens_becomeTruth 36 = .ok (.iastore, 1) := by decide +kernel
theorem d_Tokens_becomeTruth_37 : decode b_Tokens_becomeTruth 37 = .ok (.return_, 1) := by decide +kernel
theorem d_Tokens_clearAll_0 : decode b_Tokens_clearAll 0 = .ok (.aload_n 0, 1) := by decide +kernel
theorem d_Tokens_clearAll_1 : decode b_Tokens_clearAll 1 = .ok (.iconst 0, 1) := by decide +kernel
theorem d_Tokens_clearAll_2 : decode b_Tokens_clearAll 2 = .ok (.putfield 35, 3) := by decide +kernel
theorem d_Tokens_clearAll_5 : decode b_Tokens_clearAll 5 = .ok (.aload_n 0, 1) := by decide +kernel
theorem d_Tokens_clearAll_6 : decode b_Tokens_clearAll 6 = .ok (.iconst 0, 1) := by decide +kernel
theorem d_Tokens_clearAll_7 : decode b_Tokens_clearAll 7 = .ok (.putfield 39, 3) := by decide +kernel
theorem d_Tokens_clearAll_10 : decode b_Tokens_clearAll 10 = .ok (.aload_n 0, 1) := by decide +kernel
theorem d_Tokens_clearAll_11 : decode b_Tokens_clearAll 11 = .ok (.ldc 43, 2) := by decide +kernel
theorem d_Tokens_clearAll_13 : decode b_Tokens_clearAll 13 = .ok (.putfield 44, 3) := by decide +kernel
theorem d_Tokens_clearAll_16 : decode b_Tokens_clearAll 16 = .ok (.aload_n 0, 1) := by decide +kernel
theorem d_Tokens_clearAll_17 : decode b_Tokens_clearAll 17 = .ok (.iconst 0, 1) := by decide +kernel
theorem d_Tokens_clearAll_18 : decode b_Tokens_clearAll 18 = .ok (.putfield 47, 3) := by decide +kernel
theorem d_Tokens_clearAll_21 : decode b_Tokens_clearAll 21 = .ok (.return_, 1) := by decide +kernel
theorem d_Tokens_from_0 : decode b_Tokens_from 0 = .ok (.aload_n 0, 1) := by decide +kernel
theorem d_Tokens_from_1 : decode b_Tokens_from 1 = .ok (.getfield 22, 3) := by decide +kernel
theorem d_Tokens_from_4 : decode b_Tokens_from 4 = .ok (.iload_n 1, 1) := by decide +kernel
theorem d_Tokens_from_5 : decode b_Tokens_from 5 = .ok (.laload, 1) := by decide +kernel
theorem d_Tokens_from_6 : decode b_Tokens_from 6 = .ok (.bipush 32, 2) := by decide +kernel
theorem d_Tokens_from_8 : decode b_Tokens_from 8 = .ok (.lushr, 1) := by decide +kernel
theorem d_Tokens_from_9 : decode b_Tokens_from 9 = .ok (.l2i, 1) := by decide +kernel
theorem d_Tokens_from_10 : decode b_Tokens_from 10 = .ok (.ireturn, 1) := by decide +kernel
theorem d_Tokens_fromOf_0 : decode b_Tokens_fromOf 0 = .ok (.lload_n 0, 1) := by decide +kernel
theorem d_Tokens_fromOf_1 : decode b_Tokens_fromOf 1 = .ok (.bipush 32, 2) := by decide +kernel
theorem d_Tokens_fromOf_3 : decode b_Tokens_fromOf 3 = .ok (.lushr, 1) := by decide +kernel
theorem d_Tokens_fromOf_4 : decode b_Tokens_fromOf 4 = .ok (.l2i, 1) := by decide +kernel
theorem d_Tokens_fromOf_5 : decode b_Tokens_fromOf 5 = .ok (.ireturn, 1) := by decide +kernel
theorem d_Tokens_isBehindBlank_0 : decode b_Tokens_isBehindBlank 0 = .ok (.iload_n 0, 1) := by decide +kernel
theorem d_Tokens_isBehindBlank_1 : decode b_Tokens_isBehindBlank 1 = .ok (.bipush 8, 2) := by decide +kernel
theorem d_Tokens_isBehindBlank_3 : decode b_Tokens_isBehindBlank 3 = .ok (.iand, 1) := by decide +kernel
theorem d_Tokens_isBehindBlank_4 : decode b_Tokens_isBehindBlank 4 = .ok (.ifCond .eq 7, 3) := by decide +kernel
theorem d_Tokens_isBehindBlank_7 : decode b_Tokens_isBehindBlank 7 = .ok (.iconst 1, 1) := by decide +kernel
theorem d_Tokens_isBehindBlank_8 : decode b_Tokens_isBehindBlank 8 = .ok (.goto 4, 3) := by decide +kernel
theorem d_Tokens_isBehindBlank_11 : decode b_Tokens_isBehindBlank 11 = .ok (.iconst 0, 1) := by decide +kernel
theorem d_Tokens_isBehindBlank_12 : decode b_Tokens_isBehindBlank 12 = .ok (.ireturn, 1) := by decide +kernel
theorem d_Tokens_isFirstLook_0 : decode b_Tokens_isFirstLook 0 = .ok (.iload_n 0, 1) := by decide +kernel
theorem d_Tokens_isFirstLook_1 : decode b_Tokens_isFirstLook 1 = .ok (.bipush 16, 2) := by decide +kernel
theorem d_Tokens_isFirstLook_3 : decode b_Tokens_isFirstLook 3 = .ok (.iand, 1) := by decide +kernel
theorem d_Tokens_isFirstLook_4 : decode b_Tokens_isFirstLook 4 = .ok (.ifCond .eq 7, 3) := by decide +kernel
theorem d_Tokens_isFirstLook_7 : decode b_Tokens_isFirstLook 7 = .ok (.iconst 1, 1) := by decide +kernel
theorem d_Tokens_isFirstLook_8 : decode b_Tokens_isFirstLook 8 = .ok (.goto 4, 3) := by decide +kernel
theorem d_Tokens_isFirstLook_11 : decode b_Tokens_isFirstLook 11 = .ok (.iconst 0, 1) := by decide +kernel
theorem d_Tokens_isFirstLook_12 : decode b_Tokens_isFirstLook 12 = .ok (.ireturn, 1) := by decide +kernel
theorem d_Tokens_isNarrow_0 : decode b_Tokens_isNarrow 0 = .ok (.aload_n 0, 1) := by decide +kernel
theorem d_Tokens_isNarrow_1 : decode b_Tokens_isNarrow 1 = .ok (.iload_n 1, 1) := by decide +kernel
theorem d_Tokens_isNarrow_2 : decode b_Tokens_isNarrow 2 = .ok (.invokevirtual 77, 3) := by decide +kernel
theorem d_Tokens_isNarrow_5 : decode b_Tokens_isNarrow 5 = .ok (.iload_n 2, 1) := by decide +kernel
theorem d_Tokens_isNarrow_6 : decode b_Tokens_isNarrow 6 = .ok (.if_icmp .ne 22, 3) := by decide +kernel
theorem d_Tokens_isNarrow_9 : decode b_Tokens_isNarrow 9 = .ok (.aload_n 0, 1) := by decide +kernel
theorem d_Tokens_isNarrow_10 : decode b_Tokens_isNarrow 10 = .ok (.getfield 12, 3) := by decide +kernel
theorem d_Tokens_isNarrow_13 : decode b_Tokens_isNarrow 13 = .ok (.aload_n 0, 1) := by decide +kernel
theorem d_Tokens_isNarrow_14 : decode b_Tokens_isNarrow 14 = .ok (.iload_n 1, 1) := by decide +kernel
theorem d_Tokens_isNarrow_15 : decode b_Tokens_isNarrow 15 = .ok (.invokevirtual 54, 3) := by decide +kernel
theorem d_Tokens_isNarrow_18 : decode b_Tokens_isNarrow 18 = .ok (.baload, 1) := by decide +kernel
theorem d_Tokens_isNarrow_19 : decode b_Tokens_isNarrow 19 = .ok (.bipush 76, 2) := by decide +kernel
theorem d_Tokens_isNarrow_21 : decode b_Tokens_isNarrow 21 = .ok (.if_icmp .eq 7, 3) := by decide +kernel
theorem d_Tokens_isNarrow_24 : decode b_Tokens_isNarrow 24 = .ok (.iconst 1, 1) := by decide +kernel
theorem d_Tokens_isNarrow_25 : decode b_Tokens_isNarrow 25 = .ok (.goto 4, 3) := by decide +kernel
theorem d_Tokens_isNarrow_28 : decode b_Tokens_isNarrow 28 = .ok (.iconst 0, 1) := by decide +kernel
theorem d_Tokens_isNarrow_29 : decode b_Tokens_isNarrow 29 = .ok (.ireturn, 1) := by decide +kernel
theorem d_Tokens_isOverfull_0 : decode b_Tokens_isOverfull 0 = .ok (.aload_n 0, 1) := by decide +kernel
theorem d_Tokens_isOverfull_1 : decode b_Tokens_isOverfull 1 = .ok (.getfield 39, 3) := by decide +kernel
theorem d_Tokens_isOverfull_4 : decode b_Tokens_isOverfull 4 = .ok (.ireturn, 1) := by decide +kernel
theorem d_Tokens_isSign_0 : decode b_Tokens_isSign 0 = .ok (.aload_n 0, 1) := by decide +kernel
theorem d_Tokens_isSign_1 : decode b_Tokens_isSign 1 = .ok (.iload_n 1, 1) := by decide +kernel
theorem d_Tokens_isSign_2 : decode b_Tokens_isSign 2 = .ok (.invokevirtual 50, 3) := by decide +kernel
theorem d_Tokens_isSign_5 : decode b_Tokens_isSign 5 = .ok (.iconst 1, 1) := by decide +kernel
theorem d_Tokens_isSign_6 : decode b_Tokens_isSign 6 = .ok (.if_icmp .ne 21, 3) := by decide +kernel
theorem d_Tokens_isSign_9 : decode b_Tokens_isSign 9 = .ok (.aload_n 0, 1) := by decide +kernel
theorem d_Tokens_isSign_10 : decode b_Tokens_isSign 10 = .ok (.getfield 12, 3) := by decide +kernel
theorem d_Tokens_isSign_13 : decode b_Tokens_isSign 13 = .ok (.aload_n 0, 1) := by decide +kernel
theorem d_Tokens_isSign_14 : decode b_Tokens_isSign 14 = .ok (.iload_n 1, 1) := by decide +kernel
theorem d_Tokens_isSign_15 : decode b_Tokens_isSign 15 = .ok (.invokevirtual 54, 3) := by decide +kernel
theorem d_Tokens_isSign_18 : decode b_Tokens_isSign 18 = .ok (.baload, 1) := by decide +kernel
theorem d_Tokens_isSign_19 : decode b_Tokens_isSign 19 = .ok (.iload_n 2, 1) := by decide +kernel
theorem d_Tokens_isSign_20 : decode b_Tokens_isSign 20 = .ok (.if_icmp .ne 7, 3) := by decide +kernel
theorem d_Tokens_isSign_23 : decode b_Tokens_isSign 23 = .ok (.iconst 1, 1) := by decide +kernel
theorem d_Tokens_isSign_24 : decode b_Tokens_isSign 24 = .ok (.goto 4, 3) := by decide +kernel
theorem d_Tokens_isSign_27 : decode b_Tokens_isSign 27 = .ok (.iconst 0, 1) := by decide +kernel
theorem d_Tokens_isSign_28 : decode b_Tokens_isSign 28 = .ok (.ireturn, 1) := by decide +kernel
theorem d_Tokens_kind_0 : decode b_Tokens_kind 0 = .ok (.aload_n 0, 1) := by decide +kernel
theorem d_Tokens_kind_1 : decode b_Tokens_kind 1 = .ok (.getfield 26, 3) := by decide +kernel
theorem d_Tokens_kind_4 : decode b_Tokens_kind 4 = .ok (.iload_n 1, 1) := by decide +kernel
theorem d_Tokens_kind_5 : decode b_Tokens_kind 5 = .ok (.iaload, 1) := by decide +kernel
theorem d_Tokens_kind_6 : decode b_Tokens_kind 6 = .ok (.bipush 7, 2) := by decide +kernel
theorem d_Tokens_kind_8 : decode b_Tokens_kind 8 = .ok (.iand, 1) := by decide +kernel
theorem d_Tokens_kind_9 : decode b_Tokens_kind 9 = .ok (.ireturn, 1) := by decide +kernel
theorem d_Tokens_kindOf_0 : decode b_Tokens_kindOf 0 = .ok (.iload_n 0, 1) := by decide +kernel
theorem d_Tokens_kindOf_1 : decode b_Tokens_kindOf 1 = .ok (.bipush 7, 2) := by decide +kernel
theorem d_Tokens_kindOf_3 : decode b_Tokens_kindOf 3 = .ok (.iand, 1) := by decide +kernel
theorem d_Tokens_kindOf_4 : decode b_Tokens_kindOf 4 = .ok (.ireturn, 1) := by decide +kernel
theorem d_Tokens_layText_0 : decode b_Tokens_layText 0 = .ok (.iconst 1, 1) := by decide +kernel
theorem d_Tokens_layText_1 : decode b_Tokens_layText 1 = .ok (.istore 4, 2) := by decide +kernel
theorem d_Tokens_layText_3 : decode b_Tokens_layText 3 = .ok (.iload_n 2, 1) := by decide +kernel
theorem d_Tokens_layText_4 : decode b_Tokens_layText 4 = .ok (.iload_n 3, 1) := by decide +kernel
theorem d_Tokens_layText_5 : decode b_Tokens_layText 5 = .ok (.iadd, 1) := by decide +kernel
theorem d_Tokens_layText_6 : decode b_Tokens_layText 6 = .ok (.istore 5, 2) := by decide +kernel
theorem d_Tokens_layText_8 : decode b_Tokens_layText 8 = .ok (.iload_n 2, 1) := by decide +kernel
theorem d_Tokens_layText_9 : decode b_Tokens_layText 9 = .ok (.istore 6, 2) := by decide +kernel
theorem d_Tokens_layText_11 : decode b_Tokens_layText 11 = .ok (.iload 6, 2) := by decide +kernel
theorem d_Tokens_layText_13 : decode b_Tokens_layText 13 = .ok (.iload 5, 2) := by decide +kernel
theorem d_Tokens_layText_15 : decode b_Tokens_layText 15 = .ok (.if_icmp .ge 106, 3) := by decide +kernel
theorem d_Tokens_layText_18 : decode b_Tokens_layText 18 = .ok (.aload_n 0, 1) := by decide +kernel
theorem d_Tokens_layText_19 : decode b_Tokens_layText 19 = .ok (.getfield 44, 3) := by decide +kernel
theorem d_Tokens_layText_22 : decode b_Tokens_layText 22 = .ok (.ldc 11, 2) := by decide +kernel
theorem d_Tokens_layText_24 : decode b_Tokens_layText 24 = .ok (.if_icmp .ge 97, 3) := by decide +kernel
theorem d_Tokens_layText_27 : decode b_Tokens_layText 27 = .ok (.aload_n 1, 1) := by decide +kernel
theorem d_Tokens_layText_28 : decode b_Tokens_layText 28 = .ok (.iload 6, 2) := by decide +kernel
theorem d_Tokens_layText_30 : decode b_Tokens_layText 30 = .ok (.baload, 1) := by decide +kernel
theorem d_Tokens_layText_31 : decode b_Tokens_layText 31 = .ok (.bipush 92, 2) := by decide +kernel
theorem d_Tokens_layText_33 : decode b_Tokens_layText 33 = .ok (.if_icmp .ne 32, 3) := by decide +kernel
theorem d_Tokens_layText_36 : decode b_Tokens_layText 36 = .ok (.iload 6, 2) := by decide +kernel
theorem d_Tokens_layText_38 : decode b_Tokens_layText 38 = .ok (.iconst 1, 1) := by decide +kernel
theorem d_Tokens_layText_39 : decode b_Tokens_layText 39 = .ok (.iadd, 1) := by decide +kernel
theorem d_Tokens_layText_40 : decode b_Tokens_layText 40 = .ok (.iload 5, 2) := by decide +kernel
theorem d_Tokens_layText_42 : decode b_Tokens_layText 42 = .ok (.if_icmp .ge 23, 3) := by decide +kernel
theorem d_Tokens_layText_45 : decode b_Tokens_layText 45 = .ok (.aload_n 1, 1) := by decide +kernel
theorem d_Tokens_layText_46 : decode b_Tokens_layText 46 = .ok (.iload 6, 2) := by decide +kernel
theorem d_Tokens_layText_48 : decode b_Tokens_layText 48 = .ok (.iconst 1, 1) := by decide +kernel
theorem d_Tokens_layText_49 : decode b_Tokens_layText 49 = .ok (.iadd, 1) := by decide +kernel
theorem d_Tokens_layText_50 : decode b_Tokens_layText 50 = .ok (.baload, 1) := by decide +kernel
theorem d_Tokens_layText_51 : decode b_Tokens_layText 51 = .ok (.bipush 10, 2) := by decide +kernel
theorem d_Tokens_layText_53 : decode b_Tokens_layText 53 = .ok (.if_icmp .ne 12, 3) := by decide +kernel
theorem d_Tokens_layText_56 : decode b_Tokens_layText 56 = .ok (.iinc 6 1, 3) := by decide +kernel
theorem d_Tokens_layText_59 : decode b_Tokens_layText 59 = .ok (.iinc 4 1, 3) := by decide +kernel
theorem d_Tokens_layText_62 : decode b_Tokens_layText 62 = .ok (.goto 53, 3) := by decide +kernel
theorem d_Tokens_layText_65 : decode b_Tokens_layText 65 = .ok (.aload_n 0, 1) := by decide +kernel
theorem d_Tokens_layText_66 : decode b_Tokens_layText 66 = .ok (.getfield 12, 3) := by decide +kernel
theorem d_Tokens_layText_69 : decode b_Tokens_layText 69 = .ok (.aload_n 0, 1) := by decide +kernel
theorem d_Tokens_layText_70 : decode b_Tokens_layText 70 = .ok (.getfield 44, 3) := by decide +kernel
theorem d_Tokens_layText_73 : decode b_Tokens_layText 73 = .ok (.aload_n 1, 1) := by decide +kernel
theorem d_Tokens_layText_74 : decode b_Tokens_layText 74 = .ok (.iload 6, 2) := by decide +kernel
theorem d_Tokens_layText_76 : decode b_Tokens_layText 76 = .ok (.baload, 1) := by decide +kernel
theorem d_Tokens_layText_77 : decode b_Tokens_layText 77 = .ok (.bastore, 1) := by decide +kernel
theorem d_Tokens_layText_78 : decode b_Tokens_layText 78 = .ok (.aload_n 0, 1) := by decide +kernel
theorem d_Tokens_layText_79 : decode b_Tokens_layText 79 = .ok (.getfield 17, 3) := by decide +kernel
theorem d_Tokens_layText_82 : decode b_Tokens_layText 82 = .ok (.aload_n 0, 1) := by decide +kernel
theorem d_Tokens_layText_83 : decode b_Tokens_layText 83 = .ok (.getfield 44, 3) := by decide +kernel
theorem d_Tokens_layText_86 : decode b_Tokens_layText 86 = .ok (.ldc 43, 2) := by decide +kernel
theorem d_Tokens_layText_88 : decode b_Tokens_layText 88 = .ok (.isub, 1) := by decide +kernel
theorem d_Tokens_layText_89 : decode b_Tokens_layText 89 = .ok (.iload 4, 2) := by decide +kernel
theorem d_Tokens_layText_91 : decode b_Tokens_layText 91 = .ok (.i2c, 1) := by decide +kernel
theorem d_Tokens_layText_92 : decode b_Tokens_layText 92 = .ok (.castore, 1) := by decide +kernel
theorem d_Tokens_layText_93 : decode b_Tokens_layText 93 = .ok (.aload_n 0, 1) := by decide +kernel
theorem d_Tokens_layText_94 : decode b_Tokens_layText 94 = .ok (.dup, 1) := by decide +kernel
theorem d_Tokens_layText_95 : decode b_Tokens_layText 95 = .ok (.getfield 44, 3) := by decide +kernel
theorem d_Tokens_layText_98 : decode b_Tokens_layText 98 = .ok (.iconst 1, 1) := by decide +kernel
theorem d_Tokens_layText_99 : decode b_Tokens_layText 99 = .ok (.iadd, 1) := by decide +kernel
theorem d_Tokens_layText_100 : decode b_Tokens_layText 100 = .ok (.putfield 44, 3) := by decide +kernel
theorem d_Tokens_layText_103 : decode b_Tokens_layText 103 = .ok (.aload_n 1, 1) := by decide +kernel
theorem d_Tokens_layText_104 : decode b_Tokens_layText 104 = .ok (.iload 6, 2) := by decide +kernel
theorem d_Tokens_layText_106 : decode b_Tokens_layText 106 = .ok (.baload, 1) := by decide +kernel
theorem d_Tokens_layText_107 : decode b_Tokens_layText 107 = .ok (.bipush 10, 2) := by decide +kernel
theorem d_Tokens_layText_109 : decode b_Tokens_layText 109 = .ok (.if_icmp .ne 6, 3) := by decide +kernel
theorem d_Tokens_layText_112 : decode b_Tokens_layText 112 = .ok (.iinc 4 1, 3) := by decide +kernel
theorem d_Tokens_layText_115 : decode b_Tokens_layText 115 = .ok (.iinc 6 1, 3) := by decide +kernel
theorem d_Tokens_layText_118 : decode b_Tokens_layText 118 = .ok (.goto (-107), 3) := by decide +kernel
theorem d_Tokens_layText_121 : decode b_Tokens_layText 121 = .ok (.return_, 1) := by decide +kernel
theorem d_Tokens_length_0 : decode b_Tokens_length 0 = .ok (.aload_n 0, 1) := by decide +kernel
theorem d_Tokens_length_1 : decode b_Tokens_length 1 = .ok (.getfield 22, 3) := by decide +kernel
theorem d_Tokens_length_4 : decode b_Tokens_length 4 = .ok (.iload_n 1, 1) := by decide +kernel
theorem d_Tokens_length_5 : decode b_Tokens_length 5 = .ok (.laload, 1) := by decide +kernel
theorem d_Tokens_length_6 : decode b_Tokens_length 6 = .ok (.l2i, 1) := by decide +kernel
theorem d_Tokens_length_7 : decode b_Tokens_length 7 = .ok (.ireturn, 1) := by decide +kernel
theorem d_Tokens_lengthOf_0 : decode b_Tokens_lengthOf 0 = .ok (.lload_n 0, 1) := by decide +kernel
theorem d_Tokens_lengthOf_1 : decode b_Tokens_lengthOf 1 = .ok (.l2i, 1) := by decide +kernel
theorem d_Tokens_lengthOf_2 : decode b_Tokens_lengthOf 2 = .ok (.ireturn, 1) := by decide +kernel
theorem d_Tokens_line_0 : decode b_Tokens_line 0 = .ok (.aload_n 0, 1) := by decide +kernel
theorem d_Tokens_line_1 : decode b_Tokens_line 1 = .ok (.getfield 26, 3) := by decide +kernel
theorem d_Tokens_line_4 : decode b_Tokens_line 4 = .ok (.iload_n 1, 1) := by decide +kernel
theorem d_Tokens_line_5 : decode b_Tokens_line 5 = .ok (.iaload, 1) := by decide +kernel
theorem d_Tokens_line_6 : decode b_Tokens_line 6 = .ok (.bipush 15, 2) := by decide +kernel
theorem d_Tokens_line_8 : decode b_Tokens_line 8 = .ok (.iushr, 1) := by decide +kernel
theorem d_Tokens_line_9 : decode b_Tokens_line 9 = .ok (.ireturn, 1) := by decide +kernel
theorem d_Tokens_lineAt_0 : decode b_Tokens_lineAt 0 = .ok (.aload_n 0, 1) := by decide +kernel
theorem d_Tokens_lineAt_1 : decode b_Tokens_lineAt 1 = .ok (.getfield 17, 3) := by decide +kernel
theorem d_Tokens_lineAt_4 : decode b_Tokens_lineAt 4 = .ok (.iload_n 1, 1) := by decide +kernel
theorem d_Tokens_lineAt_5 : decode b_Tokens_lineAt 5 = .ok (.ldc 43, 2) := by decide +kernel
theorem d_Tokens_lineAt_7 : decode b_Tokens_lineAt 7 = .ok (.isub, 1) := by decide +kernel
theorem d_Tokens_lineAt_8 : decode b_Tokens_lineAt 8 = .ok (.caload, 1) := by decide +kernel
theorem d_Tokens_lineAt_9 : decode b_Tokens_lineAt 9 = .ok (.ireturn, 1) := by decide +kernel
theorem d_Tokens_lineOf_0 : decode b_Tokens_lineOf 0 = .ok (.iload_n 0, 1) := by decide +kernel
theorem d_Tokens_lineOf_1 : decode b_Tokens_lineOf 1 = .ok (.bipush 15, 2) := by decide +kernel
theorem d_Tokens_lineOf_3 : decode b_Tokens_lineOf 3 = .ok (.iushr, 1) := by decide +kernel
theorem d_Tokens_lineOf_4 : decode b_Tokens_lineOf 4 = .ok (.ireturn, 1) := by decide +kernel
theorem d_Tokens_looking_0 : decode b_Tokens_looking 0 = .ok (.iload_n 0, 1) := by decide +kernel
theorem d_Tokens_looking_1 : decode b_Tokens_looking 1 = .ok (.iload_n 1, 1) := by decide +kernel
theorem d_Tokens_looking_2 : decode b_Tokens_looking 2 = .ok (.ifCond .eq 8, 3) := by decide +kernel
theorem d_Tokens_looking_5 : decode b_Tokens_looking 5 = .ok (.bipush 8, 2) := by decide +kernel
theorem d_Tokens_looking_7 : decode b_Tokens_looking 7 = .ok (.goto 4, 3) := by decide +kernel
theorem d_Tokens_looking_10 : decode b_Tokens_looking 10 = .ok (.iconst 0, 1) := by decide +kernel
theorem d_Tokens_looking_11 : decode b_Tokens_looking 11 = .ok (.ior, 1) := by decide +kernel
theorem d_Tokens_looking_12 : decode b_Tokens_looking 12 = .ok (.iload_n 2, 1) := by decide +kernel
theorem d_Tokens_looking_13 : decode b_Tokens_looking 13 = .ok (.ifCond .eq 8, 3) := by decide +kernel
theorem d_Tokens_looking_16 : decode b_Tokens_looking 16 = .ok (.bipush 16, 2) := by decide +kernel
theorem d_Tokens_looking_18 : decode b_Tokens_looking 18 = .ok (.goto 4, 3) := by decide +kernel
theorem d_Tokens_looking_21 : decode b_Tokens_looking 21 = .ok (.iconst 0, 1) := by decide +kernel
theorem d_Tokens_looking_22 : decode b_Tokens_looking 22 = .ok (.ior, 1) := by decide +kernel
theorem d_Tokens_looking_23 : decode b_Tokens_looking 23 = .ok (.iload_n 3, 1) := by decide +kernel
theorem d_Tokens_looking_24 : decode b_Tokens_looking 24 = .ok (.bipush 15, 2) := by decide +kernel
theorem d_Tokens_looking_26 : decode b_Tokens_looking 26 = .ok (.ishl, 1) := by decide +kernel
theorem d_Tokens_looking_27 : decode b_Tokens_looking 27 = .ok (.ior, 1) := by decide +kernel
theorem d_Tokens_looking_28 : decode b_Tokens_looking 28 = .ok (.ireturn, 1) := by decide +kernel
theorem d_Tokens_make_0 : decode b_Tokens_make 0 = .ok (.aload_n 0, 1) := by decide +kernel
theorem d_Tokens_make_1 : decode b_Tokens_make 1 = .ok (.getfield 35, 3) := by decide +kernel
theorem d_Tokens_make_4 : decode b_Tokens_make 4 = .ok (.ldc 33, 2) := by decide +kernel
theorem d_Tokens_make_6 : decode b_Tokens_make 6 = .ok (.if_icmp .lt 9, 3) := by decide +kernel
theorem d_Tokens_make_9 : decode b_Tokens_make 9 = .ok (.aload_n 0, 1) := by decide +kernel
theorem d_Tokens_make_10 : decode b_Tokens_make 10 = .ok (.iconst 1, 1) := by decide +kernel
theorem d_Tokens_make_11 : decode b_Tokens_make 11 = .ok (.putfield 39, 3) := by decide +kernel
theorem d_Tokens_make_14 : decode b_Tokens_make 14 = .ok (.return_, 1) := by decide +kernel
theorem d_Tokens_make_15 : decode b_Tokens_make 15 = .ok (.aload_n 0, 1) := by decide +kernel
theorem d_Tokens_make_16 : decode b_Tokens_make 16 = .ok (.getfield 12, 3) := by decide +kernel
theorem d_Tokens_make_19 : decode b_Tokens_make 19 = .ok (.aload_n 0, 1) := by decide +kernel
theorem d_Tokens_make_20 : decode b_Tokens_make 20 = .ok (.getfield 35, 3) := by decide +kernel
theorem d_Tokens_make_23 : decode b_Tokens_make 23 = .ok (.iload_n 1, 1) := by decide +kernel
theorem d_Tokens_make_24 : decode b_Tokens_make 24 = .ok (.i2b, 1) := by decide +kernel
theorem d_Tokens_make_25 : decode b_Tokens_make 25 = .ok (.bastore, 1) := by decide +kernel
theorem d_Tokens_make_26 : decode b_Tokens_make 26 = .ok (.aload_n 0, 1) := by decide +kernel
theorem d_Tokens_make_27 : decode b_Tokens_make 27 = .ok (.dup, 1) := by decide +kernel
theorem d_Tokens_make_28 : decode b_Tokens_make 28 = .ok (.getfield 35, 3) := by decide +kernel
theorem d_Tokens_make_31 : decode b_Tokens_make 31 = .ok (.iconst 1, 1) := by decide +kernel
theorem d_Tokens_make_32 : decode b_Tokens_make 32 = .ok (.iadd, 1) := by decide +kernel
theorem d_Tokens_make_33 : decode b_Tokens_make 33 = .ok (.putfield 35, 3) := by decide +kernel
theorem d_Tokens_make_36 : decode b_Tokens_make 36 = .ok (.return_, 1) := by decide +kernel
theorem d_Tokens_makeNumber_0 : decode b_Tokens_makeNumber 0 = .ok (.ldc 94, 2) := by decide +kernel
theorem d_Tokens_makeNumber_2 : decode b_Tokens_makeNumber 2 = .ok (.istore_n 2, 1) := by decide +kernel
theorem d_Tokens_makeNumber_3 : decode b_Tokens_makeNumber 3 = .ok (.iload_n 2, 1) := by decide +kernel
theorem d_Tokens_makeNumber_4 : decode b_Tokens_makeNumber 4 = .ok (.ifCond .le 34, 3) := by decide +kernel
theorem d_Tokens_makeNumber_7 : decode b_Tokens_makeNumber 7 = .ok (.iload_n 1, 1) := by decide +kernel
theorem d_Tokens_makeNumber_8 : decode b_Tokens_makeNumber 8 = .ok (.iload_n 2, 1) := by decide +kernel
theorem d_Tokens_makeNumber_9 : decode b_Tokens_makeNumber 9 = .ok (.if_icmp .ge 8, 3) := by decide +kernel
theorem d_Tokens_makeNumber_12 : decode b_Tokens_makeNumber 12 = .ok (.iload_n 2, 1) := by decide +kernel
theorem d_Tokens_makeNumber_13 : decode b_Tokens_makeNumber 13 = .ok (.iconst 1, 1) := by decide +kernel
theorem d_Tokens_makeNumber_14 : decode b_Tokens_makeNumber 14 = .ok (.if_icmp .ne 16, 3) := by decide +kernel
theorem d_Tokens_makeNumber_17 : decode b_Tokens_makeNumber 17 = .ok (.aload_n 0, 1) := by decide +kernel
theorem d_Tokens_makeNumber_18 : decode b_Tokens_makeNumber 18 = .ok (.bipush 48, 2) := by decide +kernel
theorem d_Tokens_makeNumber_20 : decode b_Tokens_makeNumber 20 = .ok (.iload_n 1, 1) := by decide +kernel
theorem d_Tokens_makeNumber_21 : decode b_Tokens_makeNumber 21 = .ok (.iload_n 2, 1) := by decide +kernel
theorem d_Tokens_makeNumber_22 : decode b_Tokens_makeNumber 22 = .ok (.idiv, 1) := by decide +kernel
theorem d_Tokens_makeNumber_23 : decode b_Tokens_makeNumber 23 = .ok (.bipush 10, 2) := by decide +kernel
theorem d_Tokens_makeNumber_25 : decode b_Tokens_makeNumber 25 = .ok (.irem, 1) := by decide +kernel
theorem d_Tokens_makeNumber_26 : decode b_Tokens_makeNumber 26 = .ok (.iadd, 1) := by decide +kernel
theorem d_Tokens_makeNumber_27 : decode b_Tokens_makeNumber 27 = .ok (.invokevirtual 95, 3) := by decide +kernel
theorem d_Tokens_makeNumber_30 : decode b_Tokens_makeNumber 30 = .ok (.iload_n 2, 1) := by decide +kernel
theorem d_Tokens_makeNumber_31 : decode b_Tokens_makeNumber 31 = .ok (.bipush 10, 2) := by decide +kernel
theorem d_Tokens_makeNumber_33 : decode b_Tokens_makeNumber 33 = .ok (.idiv, 1) := by decide +kernel
theorem d_Tokens_makeNumber_34 : decode b_Tokens_makeNumber 34 = .ok (.istore_n 2, 1) := by decide +kernel
theorem d_Tokens_makeNumber_35 : decode b_Tokens_makeNumber 35 = .ok (.goto (-32), 3) := by decide +kernel
theorem d_Tokens_makeNumber_38 : decode b_Tokens_makeNumber 38 = .ok (.return_, 1) := by decide +kernel
theorem d_Tokens_moved_0 : decode b_Tokens_moved 0 = .ok (.iload_n 0, 1) := by decide +kernel
theorem d_Tokens_moved_1 : decode b_Tokens_moved 1 = .ok (.bipush (-17), 2) := by decide +kernel
theorem d_Tokens_moved_3 : decode b_Tokens_moved 3 = .ok (.iand, 1) := by decide +kernel
theorem d_Tokens_moved_4 : decode b_Tokens_moved 4 = .ok (.ireturn, 1) := by decide +kernel
theorem d_Tokens_nameEnd_0 : decode b_Tokens_nameEnd 0 = .ok (.iload_n 1, 1) := by decide +kernel
theorem d_Tokens_nameEnd_1 : decode b_Tokens_nameEnd 1 = .ok (.iconst 1, 1) := by decide +kernel
theorem d_Tokens_nameEnd_2 : decode b_Tokens_nameEnd 2 = .ok (.iadd, 1) := by decide +kernel
theorem d_Tokens_nameEnd_3 : decode b_Tokens_nameEnd 3 = .ok (.istore_n 3, 1) := by decide +kernel
theorem d_Tokens_nameEnd_4 : decode b_Tokens_nameEnd 4 = .ok (.iload_n 3, 1) := by decide +kernel
theorem d_Tokens_nameEnd_5 : decode b_Tokens_nameEnd 5 = .ok (.iload_n 2, 1) := by decide +kernel
theorem d_Tokens_nameEnd_6 : decode b_Tokens_nameEnd 6 = .ok (.if_icmp .ge 33, 3) := by decide +kernel
theorem d_Tokens_nameEnd_9 : decode b_Tokens_nameEnd 9 = .ok (.aload_n 0, 1) := by decide +kernel
theorem d_Tokens_nameEnd_10 : decode b_Tokens_nameEnd 10 = .ok (.getfield 12, 3) := by decide +kernel
theorem d_Tokens_nameEnd_13 : decode b_Tokens_nameEnd 13 = .ok (.iload_n 3, 1) := by decide +kernel
theorem d_Tokens_nameEnd_14 : decode b_Tokens_nameEnd 14 = .ok (.baload, 1) := by decide +kernel
theorem d_Tokens_nameEnd_15 : decode b_Tokens_nameEnd 15 = .ok (.invokestatic 105, 3) := by decide +kernel
theorem d_Tokens_nameEnd_18 : decode b_Tokens_nameEnd 18 = .ok (.ifCond .ne 15, 3) := by decide +kernel
theorem d_Tokens_nameEnd_21 : decode b_Tokens_nameEnd 21 = .ok (.aload_n 0, 1) := by decide +kernel
theorem d_Tokens_nameEnd_22 : decode b_Tokens_nameEnd 22 = .ok (.getfield 12, 3) := by decide +kernel
theorem d_Tokens_nameEnd_25 : decode b_Tokens_nameEnd 25 = .ok (.iload_n 3, 1) := by decide +kernel
theorem d_Tokens_nameEnd_26 : decode b_Tokens_nameEnd 26 = .ok (.baload, 1) := by decide +kernel
theorem d_Tokens_nameEnd_27 : decode b_Tokens_nameEnd 27 = .ok (.invokestatic 112, 3) := by decide +kernel
theorem d_Tokens_nameEnd_30 : decode b_Tokens_nameEnd 30 = .ok (.ifCond .eq 9, 3) := by decide +kernel
theorem d_Tokens_nameEnd_33 : decode b_Tokens_nameEnd 33 = .ok (.iinc 3 1, 3) := by decide +kernel
theorem d_Tokens_nameEnd_36 : decode b_Tokens_nameEnd 36 = .ok (.goto (-32), 3) := by decide +kernel
theorem d_Tokens_nameEnd_39 : decode b_Tokens_nameEnd 39 = .ok (.iload_n 3, 1) := by decide +kernel
theorem d_Tokens_nameEnd_40 : decode b_Tokens_nameEnd 40 = .ok (.ireturn, 1) := by decide +kernel
theorem d_Tokens_numberEnd_0 : decode b_Tokens_numberEnd 0 = .ok (.iload_n 1, 1) := by decide +kernel
theorem d_Tokens_numberEnd_1 : decode b_Tokens_numberEnd 1 = .ok (.iconst 1, 1) := by decide +kernel
theorem d_Tokens_numberEnd_2 : decode b_Tokens_numberEnd 2 = .ok (.iadd, 1) := by decide +kernel
theorem d_Tokens_numberEnd_3 : decode b_Tokens_numberEnd 3 = .ok (.istore_n 3, 1) := by decide +kernel
theorem d_Tokens_numberEnd_4 : decode b_Tokens_numberEnd 4 = .ok (.iload_n 3, 1) := by decide +kernel
theorem d_Tokens_numberEnd_5 : decode b_Tokens_numberEnd 5 = .ok (.iload_n 2, 1) := by decide +kernel
theorem d_Tokens_numberEnd_6 : decode b_Tokens_numberEnd 6 = .ok (.if_icmp .ge 95, 3) := by decide +kernel
theorem d_Tokens_numberEnd_9 : decode b_Tokens_numberEnd 9 = .ok (.aload_n 0, 1) := by decide +kernel
theorem d_Tokens_numberEnd_10 : decode b_Tokens_numberEnd 10 = .ok (.getfield 12, 3) := by decide +kernel
theorem d_Tokens_numberEnd_13 : decode b_Tokens_numberEnd 13 = .ok (.iload_n 3, 1) := by decide +kernel
theorem d_Tokens_numberEnd_14 : decode b_Tokens_numberEnd 14 = .ok (.baload, 1) := by decide +kernel
theorem d_Tokens_numberEnd_15 : decode b_Tokens_numberEnd 15 = .ok (.istore 4, 2) := by decide +kernel
theorem d_Tokens_numberEnd_17 : decode b_Tokens_numberEnd 17 = .ok (.aload_n 0, 1) := by decide +kernel
theorem d_Tokens_numberEnd_18 : decode b_Tokens_numberEnd 18 = .ok (.getfield 12, 3) := by decide +kernel
theorem d_Tokens_numberEnd_21 : decode b_Tokens_numberEnd 21 = .ok (.iload_n 3, 1) := by decide +kernel
theorem d_Tokens_numberEnd_22 : decode b_Tokens_numberEnd 22 = .ok (.iconst 1, 1) := by decide +kernel
theorem d_Tokens_numberEnd_23 : decode b_Tokens_numberEnd 23 = .ok (.isub, 1) := by decide +kernel
theorem d_Tokens_numberEnd_24 : decode b_Tokens_numberEnd 24 = .ok (.baload, 1) := by decide +kernel
theorem d_Tokens_numberEnd_25 : decode b_Tokens_numberEnd 25 = .ok (.bipush 32, 2) := by decide +kernel
theorem d_Tokens_numberEnd_27 : decode b_Tokens_numberEnd 27 = .ok (.ior, 1) := by decide +kernel
theorem d_Tokens_numberEnd_28 : decode b_Tokens_numberEnd 28 = .ok (.istore 5, 2) := by decide +kernel
theorem d_Tokens_numberEnd_30 : decode b_Tokens_numberEnd 30 = .ok (.iload 4, 2) := by decide +kernel
theorem d_Tokens_numberEnd_32 : decode b_Tokens_numberEnd 32 = .ok (.bipush 43, 2) := by decide +kernel
theorem d_Tokens_numberEnd_34 : decode b_Tokens_numberEnd 34 = .ok (.if_icmp .eq 10, 3) := by decide +kernel
theorem d_Tokens_numberEnd_37 : decode b_Tokens_numberEnd 37 = .ok (.iload 4, 2) := by decide +kernel
theorem d_Tokens_numberEnd_39 : decode b_Tokens_numberEnd 39 = .ok (.bipush 45, 2) := by decide +kernel
theorem d_Tokens_numberEnd_41 : decode b_Tokens_numberEnd 41 = .ok (.if_icmp .ne 21, 3) := by decide +kernel
theorem d_Tokens_numberEnd_44 : decode b_Tokens_numberEnd 44 = .ok (.iload 5, 2) := by decide +kernel
theorem d_Tokens_numberEnd_46 : decode b_Tokens_numberEnd 46 = .ok (.bipush 101, 2) := by decide +kernel
theorem d_Tokens_numberEnd_48 : decode b_Tokens_numberEnd 48 = .ok (.if_icmp .eq 10, 3) := by decide +kernel
theorem d_Tokens_numberEnd_51 : decode b_Tokens_numberEnd 51 = .ok (.iload 5, 2) := by decide +kernel
theorem d_Tokens_numberEnd_53 : decode b_Tokens_numberEnd 53 = .ok (.bipush 112, 2) := by decide +kernel
theorem d_Tokens_numberEnd_55 : decode b_Tokens_numberEnd 55 = .ok (.if_icmp .ne 7, 3) := by decide +kernel
theorem d_Tokens_numberEnd_58 : decode b_Tokens_numberEnd 58 = .ok (.iconst 1, 1) := by decide +kernel
theorem d_Tokens_numberEnd_59 : decode b_Tokens_numberEnd 59 = .ok (.goto 4, 3) := by decide +kernel
theorem d_Tokens_numberEnd_62 : decode b_Tokens_numberEnd 62 = .ok (.iconst 0, 1) := by decide +kernel
theorem d_Tokens_numberEnd_63 : decode b_Tokens_numberEnd 63 = .ok (.istore 6, 2) := by decide +kernel
theorem d_Tokens_numberEnd_65 : decode b_Tokens_numberEnd 65 = .ok (.iload 6, 2) := by decide +kernel
theorem d_Tokens_numberEnd_67 : decode b_Tokens_numberEnd 67 = .ok (.ifCond .ne 28, 3) := by decide +kernel
theorem d_Tokens_numberEnd_70 : decode b_Tokens_numberEnd 70 = .ok (.iload 4, 2) := by decide +kernel
theorem d_Tokens_numberEnd_72 : decode b_Tokens_numberEnd 72 = .ok (.bipush 46, 2) := by decide +kernel
theorem d_Tokens_numberEnd_74 : decode b_Tokens_numberEnd 74 = .ok (.if_icmp .eq 21, 3) := by decide +kernel
theorem d_Tokens_numberEnd_77 : decode b_Tokens_numberEnd 77 = .ok (.iload 4, 2) := by decide +kernel
theorem d_Tokens_numberEnd_79 : decode b_Tokens_numberEnd 79 = .ok (.invokestatic 105, 3) := by decide +kernel
theorem d_Tokens_numberEnd_82 : decode b_Tokens_numberEnd 82 = .ok (.ifCond .ne 13, 3) := by decide +kernel
theorem d_Tokens_numberEnd_85 : decode b_Tokens_numberEnd 85 = .ok (.iload 4, 2) := by decide +kernel
theorem d_Tokens_numberEnd_87 : decode b_Tokens_numberEnd 87 = .ok (.invokestatic 112, 3) := by decide +kernel
theorem d_Tokens_numberEnd_90 : decode b_Tokens_numberEnd 90 = .ok (.ifCond .ne 5, 3) := by decide +kernel
theorem d_Tokens_numberEnd_93 : decode b_Tokens_numberEnd 93 = .ok (.iload_n 3, 1) := by decide +kernel
theorem d_Tokens_numberEnd_94 : decode b_Tokens_numberEnd 94 = .ok (.ireturn, 1) := by decide +kernel
theorem d_Tokens_numberEnd_95 : decode b_Tokens_numberEnd 95 = .ok (.iinc 3 1, 3) := by decide +kernel
theorem d_Tokens_numberEnd_98 : decode b_Tokens_numberEnd 98 = .ok (.goto (-94), 3) := by decide +kernel
theorem d_Tokens_numberEnd_101 : decode b_Tokens_numberEnd 101 = .ok (.iload_n 3, 1) := by decide +kernel
theorem d_Tokens_numberEnd_102 : decode b_Tokens_numberEnd 102 = .ok (.ireturn, 1) := by decide +kernel
theorem d_Tokens_placedAs_0 : decode b_Tokens_placedAs 0 = .ok (.iload_n 0, 1) := by decide +kernel
theorem d_Tokens_placedAs_1 : decode b_Tokens_placedAs 1 = .ok (.bipush (-25), 2) := by decide +kernel
theorem d_Tokens_placedAs_3 : decode b_Tokens_placedAs 3 = .ok (.iand, 1) := by decide +kernel
theorem d_Tokens_placedAs_4 : decode b_Tokens_placedAs 4 = .ok (.iload_n 1, 1) := by decide +kernel
theorem d_Tokens_placedAs_5 : decode b_Tokens_placedAs 5 = .ok (.bipush 24, 2) := by decide +kernel
theorem d_Tokens_placedAs_7 : decode b_Tokens_placedAs 7 = .ok (.iand, 1) := by decide +kernel
theorem d_Tokens_placedAs_8 : decode b_Tokens_placedAs 8 = .ok (.ior, 1) := by decide +kernel
theorem d_Tokens_placedAs_9 : decode b_Tokens_placedAs 9 = .ok (.ireturn, 1) := by decide +kernel
theorem d_Tokens_quoteEnd_0 : decode b_Tokens_quoteEnd 0 = .ok (.iload_n 1, 1) := by decide +kernel
theorem d_Tokens_quoteEnd_1 : decode b_Tokens_quoteEnd 1 = .ok (.iconst 1, 1) := by decide +kernel
theorem d_Tokens_quoteEnd_2 : decode b_Tokens_quoteEnd 2 = .ok (.iadd, 1) := by decide +kernel
theorem d_Tokens_quoteEnd_3 : decode b_Tokens_quoteEnd 3 = .ok (.istore_n 3, 1) := by decide +kernel
theorem d_Tokens_quoteEnd_4 : decode b_Tokens_quoteEnd 4 = .ok (.iload_n 3, 1) := by decide +kernel
theorem d_Tokens_quoteEnd_5 : decode b_Tokens_quoteEnd 5 = .ok (.iload_n 2, 1) := by decide +kernel
theorem d_Tokens_quoteEnd_6 : decode b_Tokens_quoteEnd 6 = .ok (.if_icmp .ge 73, 3) := by decide +kernel
theorem d_Tokens_quoteEnd_9 : decode b_Tokens_quoteEnd 9 = .ok (.aload_n 0, 1) := by decide +kernel
theorem d_Tokens_quoteEnd_10 : decode b_Tokens_quoteEnd 10 = .ok (.getfield 12, 3) := by decide +kernel
theorem d_Tokens_quoteEnd_13 : decode b_Tokens_quoteEnd 13 = .ok (.iload_n 3, 1) := by decide +kernel
theorem d_Tokens_quoteEnd_14 : decode b_Tokens_quoteEnd 14 = .ok (.baload, 1) := by decide +kernel
theorem d_Tokens_quoteEnd_15 : decode b_Tokens_quoteEnd 15 = .ok (.bipush 10, 2) := by decide +kernel
theorem d_Tokens_quoteEnd_17 : decode b_Tokens_quoteEnd 17 = .ok (.if_icmp .eq 62, 3) := by decide +kernel
theorem d_Tokens_quoteEnd_20 : decode b_Tokens_quoteEnd 20 = .ok (.aload_n 0, 1) := by decide +kernel
theorem d_Tokens_quoteEnd_21 : decode b_Tokens_quoteEnd 21 = .ok (.getfield 12, 3) := by decide +kernel
theorem d_Tokens_quoteEnd_24 : decode b_Tokens_quoteEnd 24 = .ok (.iload_n 3, 1) := by decide +kernel
theorem d_Tokens_quoteEnd_25 : decode b_Tokens_quoteEnd 25 = .ok (.baload, 1) := by decide +kernel
theorem d_Tokens_quoteEnd_26 : decode b_Tokens_quoteEnd 26 = .ok (.aload_n 0, 1) := by decide +kernel
theorem d_Tokens_quoteEnd_27 : decode b_Tokens_quoteEnd 27 = .ok (.getfield 12, 3) := by decide +kernel
theorem d_Tokens_quoteEnd_30 : decode b_Tokens_quoteEnd 30 = .ok (.iload_n 1, 1) := by decide +kernel
theorem d_Tokens_quoteEnd_31 : decode b_Tokens_quoteEnd 31 = .ok (.baload, 1) := by decide +kernel
theorem d_Tokens_quoteEnd_32 : decode b_Tokens_quoteEnd 32 = .ok (.if_icmp .ne 7, 3) := by decide +kernel
theorem d_Tokens_quoteEnd_35 : decode b_Tokens_quoteEnd 35 = .ok (.iload_n 3, 1) := by decide +kernel
theorem d_Tokens_quoteEnd_36 : decode b_Tokens_quoteEnd 36 = .ok (.iconst 1, 1) := by decide +kernel
theorem d_Tokens_quoteEnd_37 : decode b_Tokens_quoteEnd 37 = .ok (.iadd, 1) := by decide +kernel
theorem d_Tokens_quoteEnd_38 : decode b_Tokens_quoteEnd 38 = .ok (.ireturn, 1) := by decide +kernel
theorem d_Tokens_quoteEnd_39 : decode b_Tokens_quoteEnd 39 = .ok (.aload_n 0, 1) := by decide +kernel
theorem d_Tokens_quoteEnd_40 : decode b_Tokens_quoteEnd 40 = .ok (.getfield 12, 3) := by decide +kernel
theorem d_Tokens_quoteEnd_43 : decode b_Tokens_quoteEnd 43 = .ok (.iload_n 3, 1) := by decide +kernel
theorem d_Tokens_quoteEnd_44 : decode b_Tokens_quoteEnd 44 = .ok (.baload, 1) := by decide +kernel
theorem d_Tokens_quoteEnd_45 : decode b_Tokens_quoteEnd 45 = .ok (.bipush 92, 2) := by decide +kernel
theorem d_Tokens_quoteEnd_47 : decode b_Tokens_quoteEnd 47 = .ok (.if_icmp .ne 26, 3) := by decide +kernel
theorem d_Tokens_quoteEnd_50 : decode b_Tokens_quoteEnd 50 = .ok (.iload_n 3, 1) := by decide +kernel
theorem d_Tokens_quoteEnd_51 : decode b_Tokens_quoteEnd 51 = .ok (.iconst 1, 1) := by decide +kernel
theorem d_Tokens_quoteEnd_52 : decode b_Tokens_quoteEnd 52 = .ok (.iadd, 1) := by decide +kernel
theorem d_Tokens_quoteEnd_53 : decode b_Tokens_quoteEnd 53 = .ok (.iload_n 2, 1) := by decide +kernel
theorem d_Tokens_quoteEnd_54 : decode b_Tokens_quoteEnd 54 = .ok (.if_icmp .ge 19, 3) := by decide +kernel
theorem d_Tokens_quoteEnd_57 : decode b_Tokens_quoteEnd 57 = .ok (.aload_n 0, 1) := by decide +kernel
theorem d_Tokens_quoteEnd_58 : decode b_Tokens_quoteEnd 58 = .ok (.getfield 12, 3) := by decide +kernel
theorem d_Tokens_quoteEnd_61 : decode b_Tokens_quoteEnd 61 = .ok (.iload_n 3, 1) := by decide +kernel
theorem d_Tokens_quoteEnd_62 : decode b_Tokens_quoteEnd 62 = .ok (.iconst 1, 1) := by decide +kernel
theorem d_Tokens_quoteEnd_63 : decode b_Tokens_quoteEnd 63 = .ok (.iadd, 1) := by decide +kernel
theorem d_Tokens_quoteEnd_64 : decode b_Tokens_quoteEnd 64 = .ok (.baload, 1) := by decide +kernel
theorem d_Tokens_quoteEnd_65 : decode b_Tokens_quoteEnd 65 = .ok (.bipush 10, 2) := by decide +kernel
theorem d_Tokens_quoteEnd_67 : decode b_Tokens_quoteEnd 67 = .ok (.if_icmp .eq 6, 3) := by decide +kernel
theorem d_Tokens_quoteEnd_70 : decode b_Tokens_quoteEnd 70 = .ok (.iinc 3 1, 3) := by decide +kernel
theorem d_Tokens_quoteEnd_73 : decode b_Tokens_quoteEnd 73 = .ok (.iinc 3 1, 3) := by decide +kernel
theorem d_Tokens_quoteEnd_76 : decode b_Tokens_quoteEnd 76 = .ok (.goto (-72), 3) := by decide +kernel
theorem d_Tokens_quoteEnd_79 : decode b_Tokens_quoteEnd 79 = .ok (.iconst 0, 1) := by decide +kernel
theorem d_Tokens_quoteEnd_80 : decode b_Tokens_quoteEnd 80 = .ok (.ireturn, 1) := by decide +kernel
theorem d_Tokens_scannedKind_0 : decode b_Tokens_scannedKind 0 = .ok (.aload_n 0, 1) := by decide +kernel
theorem d_Tokens_scannedKind_1 : decode b_Tokens_scannedKind 1 = .ok (.getfield 102, 3) := by decide +kernel
theorem d_Tokens_scannedKind_4 : decode b_Tokens_scannedKind 4 = .ok (.ireturn, 1) := by decide +kernel
theorem d_Tokens_setOf_0 : decode b_Tokens_setOf 0 = .ok (.iload_n 0, 1) := by decide +kernel
theorem d_Tokens_setOf_1 : decode b_Tokens_setOf 1 = .ok (.iconst 5, 1) := by decide +kernel
theorem d_Tokens_setOf_2 : decode b_Tokens_setOf 2 = .ok (.ishr, 1) := by decide +kernel
theorem d_Tokens_setOf_3 : decode b_Tokens_setOf 3 = .ok (.sipush 1023, 3) := by decide +kernel
theorem d_Tokens_setOf_6 : decode b_Tokens_setOf 6 = .ok (.iand, 1) := by decide +kernel
theorem d_Tokens_setOf_7 : decode b_Tokens_setOf 7 = .ok (.ireturn, 1) := by decide +kernel
theorem d_Tokens_spelled_0 : decode b_Tokens_spelled 0 = .ok (.iload_n 0, 1) := by decide +kernel
theorem d_Tokens_spelled_1 : decode b_Tokens_spelled 1 = .ok (.i2l, 1) := by decide +kernel
theorem d_Tokens_spelled_2 : decode b_Tokens_spelled 2 = .ok (.bipush 32, 2) := by decide +kernel
theorem d_Tokens_spelled_4 : decode b_Tokens_spelled 4 = .ok (.lshl, 1) := by decide +kernel
theorem d_Tokens_spelled_5 : decode b_Tokens_spelled 5 = .ok (.iload_n 1, 1) := by decide +kernel
theorem d_Tokens_spelled_6 : decode b_Tokens_spelled 6 = .ok (.i2l, 1) := by decide +kernel
theorem d_Tokens_spelled_7 : decode b_Tokens_spelled 7 = .ok (.lor, 1) := by decide +kernel
theorem d_Tokens_spelled_8 : decode b_Tokens_spelled 8 = .ok (.lreturn, 1) := by decide +kernel
theorem d_Tokens_withKind_0 : decode b_Tokens_withKind 0 = .ok (.iload_n 0, 1) := by decide +kernel
theorem d_Tokens_withKind_1 : decode b_Tokens_withKind 1 = .ok (.bipush (-8), 2) := by decide +kernel
theorem d_Tokens_withKind_3 : decode b_Tokens_withKind 3 = .ok (.iand, 1) := by decide +kernel
theorem d_Tokens_withKind_4 : decode b_Tokens_withKind 4 = .ok (.iload_n 1, 1) := by decide +kernel
theorem d_Tokens_withKind_5 : decode b_Tokens_withKind 5 = .ok (.ior, 1) := by decide +kernel
theorem d_Tokens_withKind_6 : decode b_Tokens_withKind 6 = .ok (.ireturn, 1) := by decide +kernel
theorem d_Tokens_withLine_0 : decode b_Tokens_withLine 0 = .ok (.iload_n 0, 1) := by decide +kernel
theorem d_Tokens_withLine_1 : decode b_Tokens_withLine 1 = .ok (.sipush 32767, 3) := by decide +kernel
theorem d_Tokens_withLine_4 : decode b_Tokens_withLine 4 = .ok (.iand, 1) := by decide +kernel
theorem d_Tokens_withLine_5 : decode b_Tokens_withLine 5 = .ok (.iload_n 1, 1) := by decide +kernel
theorem d_Tokens_withLine_6 : decode b_Tokens_withLine 6 = .ok (.bipush 15, 2) := by decide +kernel
theorem d_Tokens_withLine_8 : decode b_Tokens_withLine 8 = .ok (.ishl, 1) := by decide +kernel
theorem d_Tokens_withLine_9 : decode b_Tokens_withLine 9 = .ok (.ior, 1) := by decide +kernel
theorem d_Tokens_withLine_10 : decode b_Tokens_withLine 10 = .ok (.ireturn, 1) := by decide +kernel
theorem d_Tokens_withSet_0 : decode b_Tokens_withSet 0 = .ok (.iload_n 0, 1) := by decide +kernel
theorem d_Tokens_withSet_1 : decode b_Tokens_withSet 1 = .ok (.sipush (-32737), 3) := by decide +kernel
theorem d_Tokens_withSet_4 : decode b_Tokens_withSet 4 = .ok (.iand, 1) := by decide +kernel
theorem d_Tokens_withSet_5 : decode b_Tokens_withSet 5 = .ok (.iload_n 1, 1) := by decide +kernel
theorem d_Tokens_withSet_6 : decode b_Tokens_withSet 6 = .ok (.iconst 5, 1) := by decide +kernel
theorem d_Tokens_withSet_7 : decode b_Tokens_withSet 7 = .ok (.ishl, 1) := by decide +kernel
theorem d_Tokens_withSet_8 : decode b_Tokens_withSet 8 = .ok (.ior, 1) := by decide +kernel
theorem d_Tokens_withSet_9 : decode b_Tokens_withSet 9 = .ok (.ireturn, 1) := by decide +kernel

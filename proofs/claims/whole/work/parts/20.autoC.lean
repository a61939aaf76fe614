
theorem d_MM_isBlank_0 : decode b_MM_isBlank 0 = .ok (.iload_n 0, 1) := by decide +kernel
theorem d_MM_isBlank_1 : decode b_MM_isBlank 1 = .ok (.bipush 32, 2) := by decide +kernel
theorem d_MM_isBlank_3 : decode b_MM_isBlank 3 = .ok (.if_icmp .eq 21, 3) := by decide +kernel
theorem d_MM_isBlank_6 : decode b_MM_isBlank 6 = .ok (.iload_n 0, 1) := by decide +kernel
theorem d_MM_isBlank_7 : decode b_MM_isBlank 7 = .ok (.bipush 9, 2) := by decide +kernel
theorem d_MM_isBlank_9 : decode b_MM_isBlank 9 = .ok (.if_icmp .eq 15, 3) := by decide +kernel
theorem d_MM_isBlank_12 : decode b_MM_isBlank 12 = .ok (.iload_n 0, 1) := by decide +kernel
theorem d_MM_isBlank_13 : decode b_MM_isBlank 13 = .ok (.bipush 11, 2) := by decide +kernel
theorem d_MM_isBlank_15 : decode b_MM_isBlank 15 = .ok (.if_icmp .lt 13, 3) := by decide +kernel
theorem d_MM_isBlank_18 : decode b_MM_isBlank 18 = .ok (.iload_n 0, 1) := by decide +kernel
theorem d_MM_isBlank_19 : decode b_MM_isBlank 19 = .ok (.bipush 13, 2) := by decide +kernel
theorem d_MM_isBlank_21 : decode b_MM_isBlank 21 = .ok (.if_icmp .gt 7, 3) := by decide +kernel
theorem d_MM_isBlank_24 : decode b_MM_isBlank 24 = .ok (.iconst 1, 1) := by decide +kernel
theorem d_MM_isBlank_25 : decode b_MM_isBlank 25 = .ok (.goto 4, 3) := by decide +kernel
theorem d_MM_isBlank_28 : decode b_MM_isBlank 28 = .ok (.iconst 0, 1) := by decide +kernel
theorem d_MM_isBlank_29 : decode b_MM_isBlank 29 = .ok (.ireturn, 1) := by decide +kernel
theorem d_MM_isDigit_0 : decode b_MM_isDigit 0 = .ok (.iload_n 0, 1) := by decide +kernel
theorem d_MM_isDigit_1 : decode b_MM_isDigit 1 = .ok (.bipush 48, 2) := by decide +kernel
theorem d_MM_isDigit_3 : decode b_MM_isDigit 3 = .ok (.if_icmp .lt 13, 3) := by decide +kernel
theorem d_MM_isDigit_6 : decode b_MM_isDigit 6 = .ok (.iload_n 0, 1) := by decide +kernel
theorem d_MM_isDigit_7 : decode b_MM_isDigit 7 = .ok (.bipush 57, 2) := by decide +kernel
theorem d_MM_isDigit_9 : decode b_MM_isDigit 9 = .ok (.if_icmp .gt 7, 3) := by decide +kernel
theorem d_MM_isDigit_12 : decode b_MM_isDigit 12 = .ok (.iconst 1, 1) := by decide +kernel
theorem d_MM_isDigit_13 : decode b_MM_isDigit 13 = .ok (.goto 4, 3) := by decide +kernel
theorem d_MM_isDigit_16 : decode b_MM_isDigit 16 = .ok (.iconst 0, 1) := by decide +kernel
theorem d_MM_isDigit_17 : decode b_MM_isDigit 17 = .ok (.ireturn, 1) := by decide +kernel
theorem d_MM_isLetter_0 : decode b_MM_isLetter 0 = .ok (.iload_n 0, 1) := by decide +kernel
theorem d_MM_isLetter_1 : decode b_MM_isLetter 1 = .ok (.bipush 65, 2) := by decide +kernel
theorem d_MM_isLetter_3 : decode b_MM_isLetter 3 = .ok (.if_icmp .lt 9, 3) := by decide +kernel
theorem d_MM_isLetter_6 : decode b_MM_isLetter 6 = .ok (.iload_n 0, 1) := by decide +kernel
theorem d_MM_isLetter_7 : decode b_MM_isLetter 7 = .ok (.bipush 90, 2) := by decide +kernel
theorem d_MM_isLetter_9 : decode b_MM_isLetter 9 = .ok (.if_icmp .le 21, 3) := by decide +kernel
theorem d_MM_isLetter_12 : decode b_MM_isLetter 12 = .ok (.iload_n 0, 1) := by decide +kernel
theorem d_MM_isLetter_13 : decode b_MM_isLetter 13 = .ok (.bipush 97, 2) := by decide +kernel
theorem d_MM_isLetter_15 : decode b_MM_isLetter 15 = .ok (.if_icmp .lt 9, 3) := by decide +kernel
theorem d_MM_isLetter_18 : decode b_MM_isLetter 18 = .ok (.iload_n 0, 1) := by decide +kernel
theorem d_MM_isLetter_19 : decode b_MM_isLetter 19 = .ok (.bipush 122, 2) := by decide +kernel
theorem d_MM_isLetter_21 : decode b_MM_isLetter 21 = .ok (.if_icmp .le 9, 3) := by decide +kernel
theorem d_MM_isLetter_24 : decode b_MM_isLetter 24 = .ok (.iload_n 0, 1) := by decide +kernel
theorem d_MM_isLetter_25 : decode b_MM_isLetter 25 = .ok (.bipush 95, 2) := by decide +kernel
theorem d_MM_isLetter_27 : decode b_MM_isLetter 27 = .ok (.if_icmp .ne 7, 3) := by decide +kernel
theorem d_MM_isLetter_30 : decode b_MM_isLetter 30 = .ok (.iconst 1, 1) := by decide +kernel
theorem d_MM_isLetter_31 : decode b_MM_isLetter 31 = .ok (.goto 4, 3) := by decide +kernel
theorem d_MM_isLetter_34 : decode b_MM_isLetter 34 = .ok (.iconst 0, 1) := by decide +kernel
theorem d_MM_isLetter_35 : decode b_MM_isLetter 35 = .ok (.ireturn, 1) := by decide +kernel
theorem d_Calls_argumentFrom_0 : decode b_Calls_argumentFrom 0 = .ok (.aload_n 0, 1) := by decide +kernel
theorem d_Calls_argumentFrom_1 : decode b_Calls_argumentFrom 1 = .ok (.getfield 42, 3) := by decide +kernel
theorem d_Calls_argumentFrom_4 : decode b_Calls_argumentFrom 4 = .ok (.ifCond .le 19, 3) := by decide +kernel
theorem d_Calls_argumentFrom_7 : decode b_Calls_argumentFrom 7 = .ok (.aload_n 0, 1) := by decide +kernel
theorem d_Calls_argumentFrom_8 : decode b_Calls_argumentFrom 8 = .ok (.getfield 25, 3) := by decide +kernel
theorem d_Calls_argumentFrom_11 : decode b_Calls_argumentFrom 11 = .ok (.aload_n 0, 1) := by decide +kernel
theorem d_Calls_argumentFrom_12 : decode b_Calls_argumentFrom 12 = .ok (.getfield 42, 3) := by decide +kernel
theorem d_Calls_argumentFrom_15 : decode b_Calls_argumentFrom 15 = .ok (.iconst 1, 1) := by decide +kernel
theorem d_Calls_argumentFrom_16 : decode b_Calls_argumentFrom 16 = .ok (.isub, 1) := by decide +kernel
theorem d_Calls_argumentFrom_17 : decode b_Calls_argumentFrom 17 = .ok (.iaload, 1) := by decide +kernel
theorem d_Calls_argumentFrom_18 : decode b_Calls_argumentFrom 18 = .ok (.iload_n 1, 1) := by decide +kernel
theorem d_Calls_argumentFrom_19 : decode b_Calls_argumentFrom 19 = .ok (.iadd, 1) := by decide +kernel
theorem d_Calls_argumentFrom_20 : decode b_Calls_argumentFrom 20 = .ok (.goto 7, 3) := by decide +kernel
theorem d_Calls_argumentFrom_23 : decode b_Calls_argumentFrom 23 = .ok (.aload_n 0, 1) := by decide +kernel
theorem d_Calls_argumentFrom_24 : decode b_Calls_argumentFrom 24 = .ok (.getfield 39, 3) := by decide +kernel
theorem d_Calls_argumentFrom_27 : decode b_Calls_argumentFrom 27 = .ok (.istore_n 2, 1) := by decide +kernel
theorem d_Calls_argumentFrom_28 : decode b_Calls_argumentFrom 28 = .ok (.iload_n 2, 1) := by decide +kernel
theorem d_Calls_argumentFrom_29 : decode b_Calls_argumentFrom 29 = .ok (.aload_n 0, 1) := by decide +kernel
theorem d_Calls_argumentFrom_30 : decode b_Calls_argumentFrom 30 = .ok (.getfield 39, 3) := by decide +kernel
theorem d_Calls_argumentFrom_33 : decode b_Calls_argumentFrom 33 = .ok (.if_icmp .ge 12, 3) := by decide +kernel
theorem d_Calls_argumentFrom_36 : decode b_Calls_argumentFrom 36 = .ok (.aload_n 0, 1) := by decide +kernel
theorem d_Calls_argumentFrom_37 : decode b_Calls_argumentFrom 37 = .ok (.getfield 15, 3) := by decide +kernel
theorem d_Calls_argumentFrom_40 : decode b_Calls_argumentFrom 40 = .ok (.iload_n 2, 1) := by decide +kernel
theorem d_Calls_argumentFrom_41 : decode b_Calls_argumentFrom 41 = .ok (.iaload, 1) := by decide +kernel
theorem d_Calls_argumentFrom_42 : decode b_Calls_argumentFrom 42 = .ok (.goto 7, 3) := by decide +kernel
theorem d_Calls_argumentFrom_45 : decode b_Calls_argumentFrom 45 = .ok (.aload_n 0, 1) := by decide +kernel
theorem d_Calls_argumentFrom_46 : decode b_Calls_argumentFrom 46 = .ok (.getfield 35, 3) := by decide +kernel
theorem d_Calls_argumentFrom_49 : decode b_Calls_argumentFrom 49 = .ok (.ireturn, 1) := by decide +kernel
theorem d_Calls_argumentSize_0 : decode b_Calls_argumentSize 0 = .ok (.aload_n 0, 1) := by decide +kernel
theorem d_Calls_argumentSize_1 : decode b_Calls_argumentSize 1 = .ok (.iload_n 1, 1) := by decide +kernel
theorem d_Calls_argumentSize_2 : decode b_Calls_argumentSize 2 = .ok (.iconst 1, 1) := by decide +kernel
theorem d_Calls_argumentSize_3 : decode b_Calls_argumentSize 3 = .ok (.iadd, 1) := by decide +kernel
theorem d_Calls_argumentSize_4 : decode b_Calls_argumentSize 4 = .ok (.invokevirtual 55, 3) := by decide +kernel
theorem d_Calls_argumentSize_7 : decode b_Calls_argumentSize 7 = .ok (.aload_n 0, 1) := by decide +kernel
theorem d_Calls_argumentSize_8 : decode b_Calls_argumentSize 8 = .ok (.iload_n 1, 1) := by decide +kernel
theorem d_Calls_argumentSize_9 : decode b_Calls_argumentSize 9 = .ok (.invokevirtual 55, 3) := by decide +kernel
theorem d_Calls_argumentSize_12 : decode b_Calls_argumentSize 12 = .ok (.isub, 1) := by decide +kernel
theorem d_Calls_argumentSize_13 : decode b_Calls_argumentSize 13 = .ok (.ireturn, 1) := by decide +kernel
theorem d_Calls_arguments_0 : decode b_Calls_arguments 0 = .ok (.aload_n 0, 1) := by decide +kernel
theorem d_Calls_arguments_1 : decode b_Calls_arguments 1 = .ok (.getfield 42, 3) := by decide +kernel
theorem d_Calls_arguments_4 : decode b_Calls_arguments 4 = .ok (.ifCond .le 22, 3) := by decide +kernel
theorem d_Calls_arguments_7 : decode b_Calls_arguments 7 = .ok (.aload_n 0, 1) := by decide +kernel
theorem d_Calls_arguments_8 : decode b_Calls_arguments 8 = .ok (.getfield 39, 3) := by decide +kernel
theorem d_Calls_arguments_11 : decode b_Calls_arguments 11 = .ok (.aload_n 0, 1) := by decide +kernel
theorem d_Calls_arguments_12 : decode b_Calls_arguments 12 = .ok (.getfield 25, 3) := by decide +kernel
theorem d_Calls_arguments_15 : decode b_Calls_arguments 15 = .ok (.aload_n 0, 1) := by decide +kernel
theorem d_Calls_arguments_16 : decode b_Calls_arguments 16 = .ok (.getfield 42, 3) := by decide +kernel
theorem d_Calls_arguments_19 : decode b_Calls_arguments 19 = .ok (.iconst 1, 1) := by decide +kernel
theorem d_Calls_arguments_20 : decode b_Calls_arguments 20 = .ok (.isub, 1) := by decide +kernel
theorem d_Calls_arguments_21 : decode b_Calls_arguments 21 = .ok (.iaload, 1) := by decide +kernel
theorem d_Calls_arguments_22 : decode b_Calls_arguments 22 = .ok (.isub, 1) := by decide +kernel
theorem d_Calls_arguments_23 : decode b_Calls_arguments 23 = .ok (.goto 4, 3) := by decide +kernel
theorem d_Calls_arguments_26 : decode b_Calls_arguments 26 = .ok (.iconst 0, 1) := by decide +kernel
theorem d_Calls_arguments_27 : decode b_Calls_arguments 27 = .ok (.ireturn, 1) := by decide +kernel
theorem d_Calls_beginArgument_0 : decode b_Calls_beginArgument 0 = .ok (.aload_n 0, 1) := by decide +kernel
theorem d_Calls_beginArgument_1 : decode b_Calls_beginArgument 1 = .ok (.getfield 42, 3) := by decide +kernel
theorem d_Calls_beginArgument_4 : decode b_Calls_beginArgument 4 = .ok (.ifCond .eq 13, 3) := by decide +kernel
theorem d_Calls_beginArgument_7 : decode b_Calls_beginArgument 7 = .ok (.aload_n 0, 1) := by decide +kernel
theorem d_Calls_beginArgument_8 : decode b_Calls_beginArgument 8 = .ok (.getfield 39, 3) := by decide +kernel
theorem d_Calls_beginArgument_11 : decode b_Calls_beginArgument 11 = .ok (.sipush 8192, 3) := by decide +kernel
theorem d_Calls_beginArgument_14 : decode b_Calls_beginArgument 14 = .ok (.if_icmp .lt 5, 3) := by decide +kernel
theorem d_Calls_beginArgument_17 : decode b_Calls_beginArgument 17 = .ok (.iconst 0, 1) := by decide +kernel
theorem d_Calls_beginArgument_18 : decode b_Calls_beginArgument 18 = .ok (.ireturn, 1) := by decide +kernel
theorem d_Calls_beginArgument_19 : decode b_Calls_beginArgument 19 = .ok (.aload_n 0, 1) := by decide +kernel
theorem d_Calls_beginArgument_20 : decode b_Calls_beginArgument 20 = .ok (.getfield 15, 3) := by decide +kernel
theorem d_Calls_beginArgument_23 : decode b_Calls_beginArgument 23 = .ok (.aload_n 0, 1) := by decide +kernel
theorem d_Calls_beginArgument_24 : decode b_Calls_beginArgument 24 = .ok (.getfield 39, 3) := by decide +kernel
theorem d_Calls_beginArgument_27 : decode b_Calls_beginArgument 27 = .ok (.aload_n 0, 1) := by decide +kernel
theorem d_Calls_beginArgument_28 : decode b_Calls_beginArgument 28 = .ok (.getfield 35, 3) := by decide +kernel
theorem d_Calls_beginArgument_31 : decode b_Calls_beginArgument 31 = .ok (.iastore, 1) := by decide +kernel
theorem d_Calls_beginArgument_32 : decode b_Calls_beginArgument 32 = .ok (.aload_n 0, 1) := by decide +kernel
theorem d_Calls_beginArgument_33 : decode b_Calls_beginArgument 33 = .ok (.dup, 1) := by decide +kernel
theorem d_Calls_beginArgument_34 : decode b_Calls_beginArgument 34 = .ok (.getfield 39, 3) := by decide +kernel
theorem d_Calls_beginArgument_37 : decode b_Calls_beginArgument 37 = .ok (.iconst 1, 1) := by decide +kernel
theorem d_Calls_beginArgument_38 : decode b_Calls_beginArgument 38 = .ok (.iadd, 1) := by decide +kernel
theorem d_Calls_beginArgument_39 : decode b_Calls_beginArgument 39 = .ok (.putfield 39, 3) := by decide +kernel
theorem d_Calls_beginArgument_42 : decode b_Calls_beginArgument 42 = .ok (.aload_n 0, 1) := by decide +kernel
theorem d_Calls_beginArgument_43 : decode b_Calls_beginArgument 43 = .ok (.getfield 31, 3) := by decide +kernel
theorem d_Calls_beginArgument_46 : decode b_Calls_beginArgument 46 = .ok (.aload_n 0, 1) := by decide +kernel
theorem d_Calls_beginArgument_47 : decode b_Calls_beginArgument 47 = .ok (.getfield 42, 3) := by decide +kernel
theorem d_Calls_beginArgument_50 : decode b_Calls_beginArgument 50 = .ok (.iconst 1, 1) := by decide +kernel
theorem d_Calls_beginArgument_51 : decode b_Calls_beginArgument 51 = .ok (.isub, 1) := by decide +kernel
theorem d_Calls_beginArgument_52 : decode b_Calls_beginArgument 52 = .ok (.iconst 0, 1) := by decide +kernel
theorem d_Calls_beginArgument_53 : decode b_Calls_beginArgument 53 = .ok (.bastore, 1) := by decide +kernel
theorem d_Calls_beginArgument_54 : decode b_Calls_beginArgument 54 = .ok (.iconst 1, 1) := by decide +kernel
theorem d_Calls_beginArgument_55 : decode b_Calls_beginArgument 55 = .ok (.ireturn, 1) := by decide +kernel
theorem d_Calls_clearAll_0 : decode b_Calls_clearAll 0 = .ok (.aload_n 0, 1) := by decide +kernel
theorem d_Calls_clearAll_1 : decode b_Calls_clearAll 1 = .ok (.iconst 0, 1) := by decide +kernel
theorem d_Calls_clearAll_2 : decode b_Calls_clearAll 2 = .ok (.putfield 35, 3) := by decide +kernel
theorem d_Calls_clearAll_5 : decode b_Calls_clearAll 5 = .ok (.aload_n 0, 1) := by decide +kernel
theorem d_Calls_clearAll_6 : decode b_Calls_clearAll 6 = .ok (.iconst 0, 1) := by decide +kernel
theorem d_Calls_clearAll_7 : decode b_Calls_clearAll 7 = .ok (.putfield 39, 3) := by decide +kernel
theorem d_Calls_clearAll_10 : decode b_Calls_clearAll 10 = .ok (.aload_n 0, 1) := by decide +kernel
theorem d_Calls_clearAll_11 : decode b_Calls_clearAll 11 = .ok (.iconst 0, 1) := by decide +kernel
theorem d_Calls_clearAll_12 : decode b_Calls_clearAll 12 = .ok (.putfield 42, 3) := by decide +kernel
theorem d_Calls_clearAll_15 : decode b_Calls_clearAll 15 = .ok (.return_, 1) := by decide +kernel
theorem d_Calls_closeOne_0 : decode b_Calls_closeOne 0 = .ok (.aload_n 0, 1) := by decide +kernel
theorem d_Calls_closeOne_1 : decode b_Calls_closeOne 1 = .ok (.getfield 42, 3) := by decide +kernel
theorem d_Calls_closeOne_4 : decode b_Calls_closeOne 4 = .ok (.ifCond .le 39, 3) := by decide +kernel
theorem d_Calls_closeOne_7 : decode b_Calls_closeOne 7 = .ok (.aload_n 0, 1) := by decide +kernel
theorem d_Calls_closeOne_8 : decode b_Calls_closeOne 8 = .ok (.dup, 1) := by decide +kernel
theorem d_Calls_closeOne_9 : decode b_Calls_closeOne 9 = .ok (.getfield 42, 3) := by decide +kernel
theorem d_Calls_closeOne_12 : decode b_Calls_closeOne 12 = .ok (.iconst 1, 1) := by decide +kernel
theorem d_Calls_closeOne_13 : decode b_Calls_closeOne 13 = .ok (.isub, 1) := by decide +kernel
theorem d_Calls_closeOne_14 : decode b_Calls_closeOne 14 = .ok (.putfield 42, 3) := by decide +kernel
theorem d_Calls_closeOne_17 : decode b_Calls_closeOne 17 = .ok (.aload_n 0, 1) := by decide +kernel
theorem d_Calls_closeOne_18 : decode b_Calls_closeOne 18 = .ok (.aload_n 0, 1) := by decide +kernel
theorem d_Calls_closeOne_19 : decode b_Calls_closeOne 19 = .ok (.getfield 19, 3) := by decide +kernel
theorem d_Calls_closeOne_22 : decode b_Calls_closeOne 22 = .ok (.aload_n 0, 1) := by decide +kernel
theorem d_Calls_closeOne_23 : decode b_Calls_closeOne 23 = .ok (.getfield 42, 3) := by decide +kernel
theorem d_Calls_closeOne_26 : decode b_Calls_closeOne 26 = .ok (.iaload, 1) := by decide +kernel
theorem d_Calls_closeOne_27 : decode b_Calls_closeOne 27 = .ok (.putfield 35, 3) := by decide +kernel
theorem d_Calls_closeOne_30 : decode b_Calls_closeOne 30 = .ok (.aload_n 0, 1) := by decide +kernel
theorem d_Calls_closeOne_31 : decode b_Calls_closeOne 31 = .ok (.aload_n 0, 1) := by decide +kernel
theorem d_Calls_closeOne_32 : decode b_Calls_closeOne 32 = .ok (.getfield 25, 3) := by decide +kernel
theorem d_Calls_closeOne_35 : decode b_Calls_closeOne 35 = .ok (.aload_n 0, 1) := by decide +kernel
theorem d_Calls_closeOne_36 : decode b_Calls_closeOne 36 = .ok (.getfield 42, 3) := by decide +kernel
theorem d_Calls_closeOne_39 : decode b_Calls_closeOne 39 = .ok (.iaload, 1) := by decide +kernel
theorem d_Calls_closeOne_40 : decode b_Calls_closeOne 40 = .ok (.putfield 39, 3) := by decide +kernel
theorem d_Calls_closeOne_43 : decode b_Calls_closeOne 43 = .ok (.return_, 1) := by decide +kernel
theorem d_Calls_hasBegun_0 : decode b_Calls_hasBegun 0 = .ok (.aload_n 0, 1) := by decide +kernel
theorem d_Calls_hasBegun_1 : decode b_Calls_hasBegun 1 = .ok (.getfield 42, 3) := by decide +kernel
theorem d_Calls_hasBegun_4 : decode b_Calls_hasBegun 4 = .ok (.ifCond .le 21, 3) := by decide +kernel
theorem d_Calls_hasBegun_7 : decode b_Calls_hasBegun 7 = .ok (.aload_n 0, 1) := by decide +kernel
theorem d_Calls_hasBegun_8 : decode b_Calls_hasBegun 8 = .ok (.getfield 31, 3) := by decide +kernel
theorem d_Calls_hasBegun_11 : decode b_Calls_hasBegun 11 = .ok (.aload_n 0, 1) := by decide +kernel
theorem d_Calls_hasBegun_12 : decode b_Calls_hasBegun 12 = .ok (.getfield 42, 3) := by decide +kernel
theorem d_Calls_hasBegun_15 : decode b_Calls_hasBegun 15 = .ok (.iconst 1, 1) := by decide +kernel
theorem d_Calls_hasBegun_16 : decode b_Calls_hasBegun 16 = .ok (.isub, 1) := by decide +kernel
theorem d_Calls_hasBegun_17 : decode b_Calls_hasBegun 17 = .ok (.baload, 1) := by decide +kernel
theorem d_Calls_hasBegun_18 : decode b_Calls_hasBegun 18 = .ok (.ifCond .eq 7, 3) := by decide +kernel
theorem d_Calls_hasBegun_21 : decode b_Calls_hasBegun 21 = .ok (.iconst 1, 1) := by decide +kernel
theorem d_Calls_hasBegun_22 : decode b_Calls_hasBegun 22 = .ok (.goto 4, 3) := by decide +kernel
theorem d_Calls_hasBegun_25 : decode b_Calls_hasBegun 25 = .ok (.iconst 0, 1) := by decide +kernel
theorem d_Calls_hasBegun_26 : decode b_Calls_hasBegun 26 = .ok (.ireturn, 1) := by decide +kernel
theorem d_Calls_isFull_0 : decode b_Calls_isFull 0 = .ok (.aload_n 0, 1) := by decide +kernel
theorem d_Calls_isFull_1 : decode b_Calls_isFull 1 = .ok (.getfield 42, 3) := by decide +kernel
theorem d_Calls_isFull_4 : decode b_Calls_isFull 4 = .ok (.bipush 50, 2) := by decide +kernel
theorem d_Calls_isFull_6 : decode b_Calls_isFull 6 = .ok (.if_icmp .lt 7, 3) := by decide +kernel
theorem d_Calls_isFull_9 : decode b_Calls_isFull 9 = .ok (.iconst 1, 1) := by decide +kernel
theorem d_Calls_isFull_10 : decode b_Calls_isFull 10 = .ok (.goto 4, 3) := by decide +kernel
theorem d_Calls_isFull_13 : decode b_Calls_isFull 13 = .ok (.iconst 0, 1) := by decide +kernel
theorem d_Calls_isFull_14 : decode b_Calls_isFull 14 = .ok (.ireturn, 1) := by decide +kernel
theorem d_Calls_markBegun_0 : decode b_Calls_markBegun 0 = .ok (.aload_n 0, 1) := by decide +kernel
theorem d_Calls_markBegun_1 : decode b_Calls_markBegun 1 = .ok (.getfield 42, 3) := by decide +kernel
theorem d_Calls_markBegun_4 : decode b_Calls_markBegun 4 = .ok (.ifCond .le 15, 3) := by decide +kernel
theorem d_Calls_markBegun_7 : decode b_Calls_markBegun 7 = .ok (.aload_n 0, 1) := by decide +kernel
theorem d_Calls_markBegun_8 : decode b_Calls_markBegun 8 = .ok (.getfield 31, 3) := by decide +kernel
theorem d_Calls_markBegun_11 : decode b_Calls_markBegun 11 = .ok (.aload_n 0, 1) := by decide +kernel
theorem d_Calls_markBegun_12 : decode b_Calls_markBegun 12 = .ok (.getfield 42, 3) := by decide +kernel
theorem d_Calls_markBegun_15 : decode b_Calls_markBegun 15 = .ok (.iconst 1, 1) := by decide +kernel
theorem d_Calls_markBegun_16 : decode b_Calls_markBegun 16 = .ok (.isub, 1) := by decide +kernel
theorem d_Calls_markBegun_17 : decode b_Calls_markBegun 17 = .ok (.iconst 1, 1) := by decide +kernel
theorem d_Calls_markBegun_18 : decode b_Calls_markBegun 18 = .ok (.bastore, 1) := by decide +kernel
theorem d_Calls_markBegun_19 : decode b_Calls_markBegun 19 = .ok (.return_, 1) := by decide +kernel
theorem d_Calls_nameFrom_0 : decode b_Calls_nameFrom 0 = .ok (.aload_n 0, 1) := by decide +kernel
theorem d_Calls_nameFrom_1 : decode b_Calls_nameFrom 1 = .ok (.getfield 42, 3) := by decide +kernel
theorem d_Calls_nameFrom_4 : decode b_Calls_nameFrom 4 = .ok (.ifCond .le 17, 3) := by decide +kernel
theorem d_Calls_nameFrom_7 : decode b_Calls_nameFrom 7 = .ok (.aload_n 0, 1) := by decide +kernel
theorem d_Calls_nameFrom_8 : decode b_Calls_nameFrom 8 = .ok (.getfield 19, 3) := by decide +kernel
theorem d_Calls_nameFrom_11 : decode b_Calls_nameFrom 11 = .ok (.aload_n 0, 1) := by decide +kernel
theorem d_Calls_nameFrom_12 : decode b_Calls_nameFrom 12 = .ok (.getfield 42, 3) := by decide +kernel
theorem d_Calls_nameFrom_15 : decode b_Calls_nameFrom 15 = .ok (.iconst 1, 1) := by decide +kernel
theorem d_Calls_nameFrom_16 : decode b_Calls_nameFrom 16 = .ok (.isub, 1) := by decide +kernel
theorem d_Calls_nameFrom_17 : decode b_Calls_nameFrom 17 = .ok (.iaload, 1) := by decide +kernel
theorem d_Calls_nameFrom_18 : decode b_Calls_nameFrom 18 = .ok (.goto 4, 3) := by decide +kernel
theorem d_Calls_nameFrom_21 : decode b_Calls_nameFrom 21 = .ok (.iconst 0, 1) := by decide +kernel
theorem d_Calls_nameFrom_22 : decode b_Calls_nameFrom 22 = .ok (.ireturn, 1) := by decide +kernel
theorem d_Calls_nameSize_0 : decode b_Calls_nameSize 0 = .ok (.aload_n 0, 1) := by decide +kernel
theorem d_Calls_nameSize_1 : decode b_Calls_nameSize 1 = .ok (.getfield 42, 3) := by decide +kernel
theorem d_Calls_nameSize_4 : decode b_Calls_nameSize 4 = .ok (.ifCond .le 17, 3) := by decide +kernel
theorem d_Calls_nameSize_7 : decode b_Calls_nameSize 7 = .ok (.aload_n 0, 1) := by decide +kernel
theorem d_Calls_nameSize_8 : decode b_Calls_nameSize 8 = .ok (.getfield 22, 3) := by decide +kernel
theorem d_Calls_nameSize_11 : decode b_Calls_nameSize 11 = .ok (.aload_n 0, 1) := by decide +kernel
theorem d_Calls_nameSize_12 : decode b_Calls_nameSize 12 = .ok (.getfield 42, 3) := by decide +kernel
theorem d_Calls_nameSize_15 : decode b_Calls_nameSize 15 = .ok (.iconst 1, 1) := by decide +kernel
theorem d_Calls_nameSize_16 : decode b_Calls_nameSize 16 = .ok (.isub, 1) := by decide +kernel
theorem d_Calls_nameSize_17 : decode b_Calls_nameSize 17 = .ok (.iaload, 1) := by decide +kernel
theorem d_Calls_nameSize_18 : decode b_Calls_nameSize 18 = .ok (.goto 4, 3) := by decide +kernel
theorem d_Calls_nameSize_21 : decode b_Calls_nameSize 21 = .ok (.iconst 0, 1) := by decide +kernel
theorem d_Calls_nameSize_22 : decode b_Calls_nameSize 22 = .ok (.ireturn, 1) := by decide +kernel
theorem d_Calls_nestBy_0 : decode b_Calls_nestBy 0 = .ok (.aload_n 0, 1) := by decide +kernel
theorem d_Calls_nestBy_1 : decode b_Calls_nestBy 1 = .ok (.getfield 42, 3) := by decide +kernel
theorem d_Calls_nestBy_4 : decode b_Calls_nestBy 4 = .ok (.ifCond .le 18, 3) := by decide +kernel
theorem d_Calls_nestBy_7 : decode b_Calls_nestBy 7 = .ok (.aload_n 0, 1) := by decide +kernel
theorem d_Calls_nestBy_8 : decode b_Calls_nestBy 8 = .ok (.getfield 28, 3) := by decide +kernel
theorem d_Calls_nestBy_11 : decode b_Calls_nestBy 11 = .ok (.aload_n 0, 1) := by decide +kernel
theorem d_Calls_nestBy_12 : decode b_Calls_nestBy 12 = .ok (.getfield 42, 3) := by decide +kernel
theorem d_Calls_nestBy_15 : decode b_Calls_nestBy 15 = .ok (.iconst 1, 1) := by decide +kernel
theorem d_Calls_nestBy_16 : decode b_Calls_nestBy 16 = .ok (.isub, 1) := by decide +kernel
theorem d_Calls_nestBy_17 : decode b_Calls_nestBy 17 = .ok (.dup2, 1) := by decide +kernel
theorem d_Calls_nestBy_18 : decode b_Calls_nestBy 18 = .ok (.iaload, 1) := by decide +kernel
theorem d_Calls_nestBy_19 : decode b_Calls_nestBy 19 = .ok (.iload_n 1, 1) := by decide +kernel
theorem d_Calls_nestBy_20 : decode b_Calls_nestBy 20 = .ok (.iadd, 1) := by decide +kernel
theorem d_Calls_nestBy_21 : decode b_Calls_nestBy 21 = .ok (.iastore, 1) := by decide +kernel
theorem d_Calls_nestBy_22 : decode b_Calls_nestBy 22 = .ok (.return_, 1) := by decide +kernel
theorem d_Calls_nestingNow_0 : decode b_Calls_nestingNow 0 = .ok (.aload_n 0, 1) := by decide +kernel
theorem d_Calls_nestingNow_1 : decode b_Calls_nestingNow 1 = .ok (.getfield 42, 3) := by decide +kernel
theorem d_Calls_nestingNow_4 : decode b_Calls_nestingNow 4 = .ok (.ifCond .le 17, 3) := by decide +kernel
theorem d_Calls_nestingNow_7 : decode b_Calls_nestingNow 7 = .ok (.aload_n 0, 1) := by decide +kernel
theorem d_Calls_nestingNow_8 : decode b_Calls_nestingNow 8 = .ok (.getfield 28, 3) := by decide +kernel
theorem d_Calls_nestingNow_11 : decode b_Calls_nestingNow 11 = .ok (.aload_n 0, 1) := by decide +kernel
theorem d_Calls_nestingNow_12 : decode b_Calls_nestingNow 12 = .ok (.getfield 42, 3) := by decide +kernel
theorem d_Calls_nestingNow_15 : decode b_Calls_nestingNow 15 = .ok (.iconst 1, 1) := by decide +kernel
theorem d_Calls_nestingNow_16 : decode b_Calls_nestingNow 16 = .ok (.isub, 1) := by decide +kernel
theorem d_Calls_nestingNow_17 : decode b_Calls_nestingNow 17 = .ok (.iaload, 1) := by decide +kernel
theorem d_Calls_nestingNow_18 : decode b_Calls_nestingNow 18 = .ok (.goto 4, 3) := by decide +kernel
theorem d_Calls_nestingNow_21 : decode b_Calls_nestingNow 21 = .ok (.iconst 0, 1) := by decide +kernel
theorem d_Calls_nestingNow_22 : decode b_Calls_nestingNow 22 = .ok (.ireturn, 1) := by decide +kernel
theorem d_First_fail_0 : decode b_First_fail 0 = .ok (.aload_n 0, 1) := by decide +kernel
theorem d_First_fail_1 : decode b_First_fail 1 = .ok (.getfield 45, 3) := by decide +kernel
theorem d_First_fail_4 : decode b_First_fail 4 = .ok (.iload_n 1, 1) := by decide +kernel
theorem d_First_fail_5 : decode b_First_fail 5 = .ok (.aload_n 0, 1) := by decide +kernel
theorem d_First_fail_6 : decode b_First_fail 6 = .ok (.getfield 56, 3) := by decide +kernel
theorem d_First_fail_9 : decode b_First_fail 9 = .ok (.getfield 122, 3) := by decide +kernel
theorem d_First_fail_12 : decode b_First_fail 12 = .ok (.invokevirtual 125, 3) := by decide +kernel
theorem d_First_fail_15 : decode b_First_fail 15 = .ok (.return_, 1) := by decide +kernel
theorem d_First_giveByte_0 : decode b_First_giveByte 0 = .ok (.aload_n 0, 1) := by decide +kernel
theorem d_First_giveByte_1 : decode b_First_giveByte 1 = .ok (.getfield 191, 3) := by decide +kernel
theorem d_First_giveByte_4 : decode b_First_giveByte 4 = .ok (.ldc 27, 2) := by decide +kernel
theorem d_First_giveByte_6 : decode b_First_giveByte 6 = .ok (.if_icmp .ge 14, 3) := by decide +kernel
theorem d_First_giveByte_9 : decode b_First_giveByte 9 = .ok (.aload_n 0, 1) := by decide +kernel
theorem d_First_giveByte_10 : decode b_First_giveByte 10 = .ok (.getfield 28, 3) := by decide +kernel
theorem d_First_giveByte_13 : decode b_First_giveByte 13 = .ok (.aload_n 0, 1) := by decide +kernel
theorem d_First_giveByte_14 : decode b_First_giveByte 14 = .ok (.getfield 191, 3) := by decide +kernel
theorem d_First_giveByte_17 : decode b_First_giveByte 17 = .ok (.iload_n 1, 1) := by decide +kernel
theorem d_First_giveByte_18 : decode b_First_giveByte 18 = .ok (.i2b, 1) := by decide +kernel
theorem d_First_giveByte_19 : decode b_First_giveByte 19 = .ok (.bastore, 1) := by decide +kernel
theorem d_First_giveByte_20 : decode b_First_giveByte 20 = .ok (.aload_n 0, 1) := by decide +kernel
theorem d_First_giveByte_21 : decode b_First_giveByte 21 = .ok (.dup, 1) := by decide +kernel
theorem d_First_giveByte_22 : decode b_First_giveByte 22 = .ok (.getfield 191, 3) := by decide +kernel
theorem d_First_giveByte_25 : decode b_First_giveByte 25 = .ok (.iconst 1, 1) := by decide +kernel
theorem d_First_giveByte_26 : decode b_First_giveByte 26 = .ok (.iadd, 1) := by decide +kernel
theorem d_First_giveByte_27 : decode b_First_giveByte 27 = .ok (.putfield 191, 3) := by decide +kernel
theorem d_First_giveByte_30 : decode b_First_giveByte 30 = .ok (.return_, 1) := by decide +kernel
theorem d_First_isOperatorOfTwo_0 : decode b_First_isOperatorOfTwo 0 = .ok (.iload_n 1, 1) := by decide +kernel
theorem d_First_isOperatorOfTwo_1 : decode b_First_isOperatorOfTwo 1 = .ok (.bipush 61, 2) := by decide +kernel
theorem d_First_isOperatorOfTwo_3 : decode b_First_isOperatorOfTwo 3 = .ok (.if_icmp .ne 33, 3) := by decide +kernel
theorem d_First_isOperatorOfTwo_6 : decode b_First_isOperatorOfTwo 6 = .ok (.iload_n 0, 1) := by decide +kernel
theorem d_First_isOperatorOfTwo_7 : decode b_First_isOperatorOfTwo 7 = .ok (.bipush 61, 2) := by decide +kernel
theorem d_First_isOperatorOfTwo_9 : decode b_First_isOperatorOfTwo 9 = .ok (.if_icmp .eq 21, 3) := by decide +kernel
theorem d_First_isOperatorOfTwo_12 : decode b_First_isOperatorOfTwo 12 = .ok (.iload_n 0, 1) := by decide +kernel
theorem d_First_isOperatorOfTwo_13 : decode b_First_isOperatorOfTwo 13 = .ok (.bipush 33, 2) := by decide +kernel
theorem d_First_isOperatorOfTwo_15 : decode b_First_isOperatorOfTwo 15 = .ok (.if_icmp .eq 15, 3) := by decide +kernel
theorem d_First_isOperatorOfTwo_18 : decode b_First_isOperatorOfTwo 18 = .ok (.iload_n 0, 1) := by decide +kernel
theorem d_First_isOperatorOfTwo_19 : decode b_First_isOperatorOfTwo 19 = .ok (.bipush 60, 2) := by decide +kernel
theorem d_First_isOperatorOfTwo_21 : decode b_First_isOperatorOfTwo 21 = .ok (.if_icmp .eq 9, 3) := by decide +kernel
theorem d_First_isOperatorOfTwo_24 : decode b_First_isOperatorOfTwo 24 = .ok (.iload_n 0, 1) := by decide +kernel
theorem d_First_isOperatorOfTwo_25 : decode b_First_isOperatorOfTwo 25 = .ok (.bipush 62, 2) := by decide +kernel
theorem d_First_isOperatorOfTwo_27 : decode b_First_isOperatorOfTwo 27 = .ok (.if_icmp .ne 7, 3) := by decide +kernel
theorem d_First_isOperatorOfTwo_30 : decode b_First_isOperatorOfTwo 30 = .ok (.iconst 1, 1) := by decide +kernel
theorem d_First_isOperatorOfTwo_31 : decode b_First_isOperatorOfTwo 31 = .ok (.goto 4, 3) := by decide +kernel
theorem d_First_isOperatorOfTwo_34 : decode b_First_isOperatorOfTwo 34 = .ok (.iconst 0, 1) := by decide +kernel
theorem d_First_isOperatorOfTwo_35 : decode b_First_isOperatorOfTwo 35 = .ok (.ireturn, 1) := by decide +kernel
theorem d_First_isOperatorOfTwo_36 : decode b_First_isOperatorOfTwo 36 = .ok (.iload_n 0, 1) := by decide +kernel
theorem d_First_isOperatorOfTwo_37 : decode b_First_isOperatorOfTwo 37 = .ok (.iload_n 1, 1) := by decide +kernel
theorem d_First_isOperatorOfTwo_38 : decode b_First_isOperatorOfTwo 38 = .ok (.if_icmp .ne 31, 3) := by decide +kernel
theorem d_First_isOperatorOfTwo_41 : decode b_First_isOperatorOfTwo 41 = .ok (.iload_n 0, 1) := by decide +kernel
theorem d_First_isOperatorOfTwo_42 : decode b_First_isOperatorOfTwo 42 = .ok (.bipush 124, 2) := by decide +kernel
theorem d_First_isOperatorOfTwo_44 : decode b_First_isOperatorOfTwo 44 = .ok (.if_icmp .eq 21, 3) := by decide +kernel
theorem d_First_isOperatorOfTwo_47 : decode b_First_isOperatorOfTwo 47 = .ok (.iload_n 0, 1) := by decide +kernel
theorem d_First_isOperatorOfTwo_48 : decode b_First_isOperatorOfTwo 48 = .ok (.bipush 38, 2) := by decide +kernel
theorem d_First_isOperatorOfTwo_50 : decode b_First_isOperatorOfTwo 50 = .ok (.if_icmp .eq 15, 3) := by decide +kernel
theorem d_First_isOperatorOfTwo_53 : decode b_First_isOperatorOfTwo 53 = .ok (.iload_n 0, 1) := by decide +kernel
theorem d_First_isOperatorOfTwo_54 : decode b_First_isOperatorOfTwo 54 = .ok (.bipush 60, 2) := by decide +kernel
theorem d_First_isOperatorOfTwo_56 : decode b_First_isOperatorOfTwo 56 = .ok (.if_icmp .eq 9, 3) := by decide +kernel
theorem d_First_isOperatorOfTwo_59 : decode b_First_isOperatorOfTwo 59 = .ok (.iload_n 0, 1) := by decide +kernel
theorem d_First_isOperatorOfTwo_60 : decode b_First_isOperatorOfTwo 60 = .ok (.bipush 62, 2) := by decide +kernel
theorem d_First_isOperatorOfTwo_62 : decode b_First_isOperatorOfTwo 62 = .ok (.if_icmp .ne 7, 3) := by decide +kernel
theorem d_First_isOperatorOfTwo_65 : decode b_First_isOperatorOfTwo 65 = .ok (.iconst 1, 1) := by decide +kernel
theorem d_First_isOperatorOfTwo_66 : decode b_First_isOperatorOfTwo 66 = .ok (.goto 4, 3) := by decide +kernel
theorem d_First_isOperatorOfTwo_69 : decode b_First_isOperatorOfTwo 69 = .ok (.iconst 0, 1) := by decide +kernel
theorem d_First_isOperatorOfTwo_70 : decode b_First_isOperatorOfTwo 70 = .ok (.ireturn, 1) := by decide +kernel
theorem d_First_join_0 : decode b_First_join 0 = .ok (.aload_n 0, 1) := by decide +kernel
theorem d_First_join_1 : decode b_First_join 1 = .ok (.getfield 39, 3) := by decide +kernel
theorem d_First_join_4 : decode b_First_join 4 = .ok (.iload_n 1, 1) := by decide +kernel
theorem d_First_join_5 : decode b_First_join 5 = .ok (.iaload, 1) := by decide +kernel
theorem d_First_join_6 : decode b_First_join 6 = .ok (.ifCond .ge 13, 3) := by decide +kernel
theorem d_First_join_9 : decode b_First_join 9 = .ok (.aload_n 0, 1) := by decide +kernel
theorem d_First_join_10 : decode b_First_join 10 = .ok (.getfield 39, 3) := by decide +kernel
theorem d_First_join_13 : decode b_First_join 13 = .ok (.iload_n 1, 1) := by decide +kernel
theorem d_First_join_14 : decode b_First_join 14 = .ok (.iload_n 2, 1) := by decide +kernel
theorem d_First_join_15 : decode b_First_join 15 = .ok (.iastore, 1) := by decide +kernel
theorem d_First_join_16 : decode b_First_join 16 = .ok (.goto 15, 3) := by decide +kernel
theorem d_First_join_19 : decode b_First_join 19 = .ok (.aload_n 0, 1) := by decide +kernel
theorem d_First_join_20 : decode b_First_join 20 = .ok (.getfield 35, 3) := by decide +kernel
theorem d_First_join_23 : decode b_First_join 23 = .ok (.aload_n 0, 1) := by decide +kernel
theorem d_First_join_24 : decode b_First_join 24 = .ok (.getfield 42, 3) := by decide +kernel
theorem d_First_join_27 : decode b_First_join 27 = .ok (.iload_n 1, 1) := by decide +kernel
theorem d_First_join_28 : decode b_First_join 28 = .ok (.iaload, 1) := by decide +kernel
theorem d_First_join_29 : decode b_First_join 29 = .ok (.iload_n 2, 1) := by decide +kernel
theorem d_First_join_30 : decode b_First_join 30 = .ok (.iastore, 1) := by decide +kernel
theorem d_First_join_31 : decode b_First_join 31 = .ok (.aload_n 0, 1) := by decide +kernel
theorem d_First_join_32 : decode b_First_join 32 = .ok (.getfield 42, 3) := by decide +kernel
theorem d_First_join_35 : decode b_First_join 35 = .ok (.iload_n 1, 1) := by decide +kernel
theorem d_First_join_36 : decode b_First_join 36 = .ok (.iload_n 3, 1) := by decide +kernel
theorem d_First_join_37 : decode b_First_join 37 = .ok (.iastore, 1) := by decide +kernel
theorem d_First_join_38 : decode b_First_join 38 = .ok (.return_, 1) := by decide +kernel
theorem d_First_setCurrent_0 : decode b_First_setCurrent 0 = .ok (.iload_n 1, 1) := by decide +kernel
theorem d_First_setCurrent_1 : decode b_First_setCurrent 1 = .ok (.bipush 9, 2) := by decide +kernel
theorem d_First_setCurrent_3 : decode b_First_setCurrent 3 = .ok (.if_icmp .le 10, 3) := by decide +kernel
theorem d_First_setCurrent_6 : decode b_First_setCurrent 6 = .ok (.aload_n 0, 1) := by decide +kernel
theorem d_First_setCurrent_7 : decode b_First_setCurrent 7 = .ok (.bipush 36, 2) := by decide +kernel
theorem d_First_setCurrent_9 : decode b_First_setCurrent 9 = .ok (.invokevirtual 111, 3) := by decide +kernel
theorem d_First_setCurrent_12 : decode b_First_setCurrent 12 = .ok (.return_, 1) := by decide +kernel
theorem d_First_setCurrent_13 : decode b_First_setCurrent 13 = .ok (.aload_n 0, 1) := by decide +kernel
theorem d_First_setCurrent_14 : decode b_First_setCurrent 14 = .ok (.iload_n 1, 1) := by decide +kernel
theorem d_First_setCurrent_15 : decode b_First_setCurrent 15 = .ok (.ifCond .ge 7, 3) := by decide +kernel
theorem d_First_setCurrent_18 : decode b_First_setCurrent 18 = .ok (.iconst (-1), 1) := by decide +kernel
theorem d_First_setCurrent_19 : decode b_First_setCurrent 19 = .ok (.goto 4, 3) := by decide +kernel
theorem d_First_setCurrent_22 : decode b_First_setCurrent 22 = .ok (.iload_n 1, 1) := by decide +kernel
theorem d_First_setCurrent_23 : decode b_First_setCurrent 23 = .ok (.putfield 389, 3) := by decide +kernel
theorem d_First_setCurrent_26 : decode b_First_setCurrent 26 = .ok (.return_, 1) := by decide +kernel
theorem d_First_takePlace_0 : decode b_First_takePlace 0 = .ok (.aload_n 0, 1) := by decide +kernel
theorem d_First_takePlace_1 : decode b_First_takePlace 1 = .ok (.dup, 1) := by decide +kernel
theorem d_First_takePlace_2 : decode b_First_takePlace 2 = .ok (.getfield 386, 3) := by decide +kernel
theorem d_First_takePlace_5 : decode b_First_takePlace 5 = .ok (.iconst 1, 1) := by decide +kernel
theorem d_First_takePlace_6 : decode b_First_takePlace 6 = .ok (.iadd, 1) := by decide +kernel
theorem d_First_takePlace_7 : decode b_First_takePlace 7 = .ok (.putfield 386, 3) := by decide +kernel
theorem d_First_takePlace_10 : decode b_First_takePlace 10 = .ok (.aload_n 0, 1) := by decide +kernel
theorem d_First_takePlace_11 : decode b_First_takePlace 11 = .ok (.getfield 380, 3) := by decide +kernel
theorem d_First_takePlace_14 : decode b_First_takePlace 14 = .ok (.istore_n 1, 1) := by decide +kernel
theorem d_First_takePlace_15 : decode b_First_takePlace 15 = .ok (.iload_n 1, 1) := by decide +kernel
theorem d_First_takePlace_16 : decode b_First_takePlace 16 = .ok (.ifCond .lt 15, 3) := by decide +kernel
theorem d_First_takePlace_19 : decode b_First_takePlace 19 = .ok (.aload_n 0, 1) := by decide +kernel
theorem d_First_takePlace_20 : decode b_First_takePlace 20 = .ok (.aload_n 0, 1) := by decide +kernel
theorem d_First_takePlace_21 : decode b_First_takePlace 21 = .ok (.getfield 35, 3) := by decide +kernel
theorem d_First_takePlace_24 : decode b_First_takePlace 24 = .ok (.iload_n 1, 1) := by decide +kernel
theorem d_First_takePlace_25 : decode b_First_takePlace 25 = .ok (.iaload, 1) := by decide +kernel
theorem d_First_takePlace_26 : decode b_First_takePlace 26 = .ok (.putfield 380, 3) := by decide +kernel
theorem d_First_takePlace_29 : decode b_First_takePlace 29 = .ok (.iload_n 1, 1) := by decide +kernel
theorem d_First_takePlace_30 : decode b_First_takePlace 30 = .ok (.ireturn, 1) := by decide +kernel
theorem d_First_takePlace_31 : decode b_First_takePlace 31 = .ok (.aload_n 0, 1) := by decide +kernel
theorem d_First_takePlace_32 : decode b_First_takePlace 32 = .ok (.dup, 1) := by decide +kernel
theorem d_First_takePlace_33 : decode b_First_takePlace 33 = .ok (.getfield 383, 3) := by decide +kernel
theorem d_First_takePlace_36 : decode b_First_takePlace 36 = .ok (.iconst 1, 1) := by decide +kernel
theorem d_First_takePlace_37 : decode b_First_takePlace 37 = .ok (.iadd, 1) := by decide +kernel
theorem d_First_takePlace_38 : decode b_First_takePlace 38 = .ok (.putfield 383, 3) := by decide +kernel
theorem d_First_takePlace_41 : decode b_First_takePlace 41 = .ok (.aload_n 0, 1) := by decide +kernel
theorem d_First_takePlace_42 : decode b_First_takePlace 42 = .ok (.getfield 383, 3) := by decide +kernel
theorem d_First_takePlace_45 : decode b_First_takePlace 45 = .ok (.iconst 1, 1) := by decide +kernel
theorem d_First_takePlace_46 : decode b_First_takePlace 46 = .ok (.isub, 1) := by decide +kernel
theorem d_First_takePlace_47 : decode b_First_takePlace 47 = .ok (.ireturn, 1) := by decide +kernel
theorem d_Input_isAtParenthesis_0 : decode b_Input_isAtParenthesis 0 = .ok (.aload_n 0, 1) := by decide +kernel
theorem d_Input_isAtParenthesis_1 : decode b_Input_isAtParenthesis 1 = .ok (.getfield 23, 3) := by decide +kernel
theorem d_Input_isAtParenthesis_4 : decode b_Input_isAtParenthesis 4 = .ok (.ldc 11, 2) := by decide +kernel
theorem d_Input_isAtParenthesis_6 : decode b_Input_isAtParenthesis 6 = .ok (.if_icmp .ge 21, 3) := by decide +kernel
theorem d_Input_isAtParenthesis_9 : decode b_Input_isAtParenthesis 9 = .ok (.aload_n 0, 1) := by decide +kernel
theorem d_Input_isAtParenthesis_10 : decode b_Input_isAtParenthesis 10 = .ok (.getfield 12, 3) := by decide +kernel
theorem d_Input_isAtParenthesis_13 : decode b_Input_isAtParenthesis 13 = .ok (.aload_n 0, 1) := by decide +kernel
theorem d_Input_isAtParenthesis_14 : decode b_Input_isAtParenthesis 14 = .ok (.getfield 23, 3) := by decide +kernel
theorem d_Input_isAtParenthesis_17 : decode b_Input_isAtParenthesis 17 = .ok (.baload, 1) := by decide +kernel
theorem d_Input_isAtParenthesis_18 : decode b_Input_isAtParenthesis 18 = .ok (.bipush 40, 2) := by decide +kernel
theorem d_Input_isAtParenthesis_20 : decode b_Input_isAtParenthesis 20 = .ok (.if_icmp .ne 7, 3) := by decide +kernel
theorem d_Input_isAtParenthesis_23 : decode b_Input_isAtParenthesis 23 = .ok (.iconst 1, 1) := by decide +kernel
theorem d_Input_isAtParenthesis_24 : decode b_Input_isAtParenthesis 24 = .ok (.goto 4, 3) := by decide +kernel
theorem d_Input_isAtParenthesis_27 : decode b_Input_isAtParenthesis 27 = .ok (.iconst 0, 1) := by decide +kernel
theorem d_Input_isAtParenthesis_28 : decode b_Input_isAtParenthesis 28 = .ok (.ireturn, 1) := by decide +kernel
theorem d_Input_quoteByte_0 : decode b_Input_quoteByte 0 = .ok (.aload_n 0, 1) := by decide +kernel
theorem d_Input_quoteByte_1 : decode b_Input_quoteByte 1 = .ok (.getfield 16, 3) := by decide +kernel
theorem d_Input_quoteByte_4 : decode b_Input_quoteByte 4 = .ok (.iload_n 1, 1) := by decide +kernel
theorem d_Input_quoteByte_5 : decode b_Input_quoteByte 5 = .ok (.ifCond .eq 9, 3) := by decide +kernel
theorem d_Input_quoteByte_8 : decode b_Input_quoteByte 8 = .ok (.iconst 4, 1) := by decide +kernel
theorem d_Input_quoteByte_9 : decode b_Input_quoteByte 9 = .ok (.iload_n 2, 1) := by decide +kernel
theorem d_Input_quoteByte_10 : decode b_Input_quoteByte 10 = .ok (.iadd, 1) := by decide +kernel
theorem d_Input_quoteByte_11 : decode b_Input_quoteByte 11 = .ok (.goto 4, 3) := by decide +kernel
theorem d_Input_quoteByte_14 : decode b_Input_quoteByte 14 = .ok (.iload_n 2, 1) := by decide +kernel
theorem d_Input_quoteByte_15 : decode b_Input_quoteByte 15 = .ok (.baload, 1) := by decide +kernel
theorem d_Input_quoteByte_16 : decode b_Input_quoteByte 16 = .ok (.ireturn, 1) := by decide +kernel
theorem d_Input_quoteLength_0 : decode b_Input_quoteLength 0 = .ok (.iload_n 1, 1) := by decide +kernel
theorem d_Input_quoteLength_1 : decode b_Input_quoteLength 1 = .ok (.ifCond .eq 10, 3) := by decide +kernel
theorem d_Input_quoteLength_4 : decode b_Input_quoteLength 4 = .ok (.aload_n 0, 1) := by decide +kernel
theorem d_Input_quoteLength_5 : decode b_Input_quoteLength 5 = .ok (.getfield 48, 3) := by decide +kernel
theorem d_Input_quoteLength_8 : decode b_Input_quoteLength 8 = .ok (.goto 7, 3) := by decide +kernel
theorem d_Input_quoteLength_11 : decode b_Input_quoteLength 11 = .ok (.aload_n 0, 1) := by decide +kernel
theorem d_Input_quoteLength_12 : decode b_Input_quoteLength 12 = .ok (.getfield 45, 3) := by decide +kernel
theorem d_Input_quoteLength_15 : decode b_Input_quoteLength 15 = .ok (.ireturn, 1) := by decide +kernel
theorem d_Input_setFirstQuotes_0 : decode b_Input_setFirstQuotes 0 = .ok (.aload_n 0, 1) := by decide +kernel
theorem d_Input_setFirstQuotes_1 : decode b_Input_setFirstQuotes 1 = .ok (.getfield 16, 3) := by decide +kernel
theorem d_Input_setFirstQuotes_4 : decode b_Input_setFirstQuotes 4 = .ok (.iconst 0, 1) := by decide +kernel
theorem d_Input_setFirstQuotes_5 : decode b_Input_setFirstQuotes 5 = .ok (.bipush 96, 2) := by decide +kernel
theorem d_Input_setFirstQuotes_7 : decode b_Input_setFirstQuotes 7 = .ok (.bastore, 1) := by decide +kernel
theorem d_Input_setFirstQuotes_8 : decode b_Input_setFirstQuotes 8 = .ok (.aload_n 0, 1) := by decide +kernel
theorem d_Input_setFirstQuotes_9 : decode b_Input_setFirstQuotes 9 = .ok (.getfield 16, 3) := by decide +kernel
theorem d_Input_setFirstQuotes_12 : decode b_Input_setFirstQuotes 12 = .ok (.iconst 4, 1) := by decide +kernel
theorem d_Input_setFirstQuotes_13 : decode b_Input_setFirstQuotes 13 = .ok (.bipush 39, 2) := by decide +kernel
theorem d_Input_setFirstQuotes_15 : decode b_Input_setFirstQuotes 15 = .ok (.bastore, 1) := by decide +kernel
theorem d_Input_setFirstQuotes_16 : decode b_Input_setFirstQuotes 16 = .ok (.aload_n 0, 1) := by decide +kernel
theorem d_Input_setFirstQuotes_17 : decode b_Input_setFirstQuotes 17 = .ok (.iconst 1, 1) := by decide +kernel
theorem d_Input_setFirstQuotes_18 : decode b_Input_setFirstQuotes 18 = .ok (.putfield 45, 3) := by decide +kernel
theorem d_Input_setFirstQuotes_21 : decode b_Input_setFirstQuotes 21 = .ok (.aload_n 0, 1) := by decide +kernel
theorem d_Input_setFirstQuotes_22 : decode b_Input_setFirstQuotes 22 = .ok (.iconst 1, 1) := by decide +kernel
theorem d_Input_setFirstQuotes_23 : decode b_Input_setFirstQuotes 23 = .ok (.putfield 48, 3) := by decide +kernel
theorem d_Input_setFirstQuotes_26 : decode b_Input_setFirstQuotes 26 = .ok (.return_, 1) := by decide +kernel
theorem d_Input_take_0 : decode b_Input_take 0 = .ok (.aload_n 0, 1) := by decide +kernel
theorem d_Input_take_1 : decode b_Input_take 1 = .ok (.getfield 23, 3) := by decide +kernel
theorem d_Input_take_4 : decode b_Input_take 4 = .ok (.ldc 11, 2) := by decide +kernel
theorem d_Input_take_6 : decode b_Input_take 6 = .ok (.if_icmp .lt 5, 3) := by decide +kernel
theorem d_Input_take_9 : decode b_Input_take 9 = .ok (.iconst 0, 1) := by decide +kernel
theorem d_Input_take_10 : decode b_Input_take 10 = .ok (.ireturn, 1) := by decide +kernel
theorem d_Input_take_11 : decode b_Input_take 11 = .ok (.aload_n 0, 1) := by decide +kernel
theorem d_Input_take_12 : decode b_Input_take 12 = .ok (.getfield 39, 3) := by decide +kernel
theorem d_Input_take_15 : decode b_Input_take 15 = .ok (.ifCond .ne 18, 3) := by decide +kernel
theorem d_Input_take_18 : decode b_Input_take 18 = .ok (.aload_n 0, 1) := by decide +kernel
theorem d_Input_take_19 : decode b_Input_take 19 = .ok (.getfield 19, 3) := by decide +kernel
theorem d_Input_take_22 : decode b_Input_take 22 = .ok (.bipush 31, 2) := by decide +kernel
theorem d_Input_take_24 : decode b_Input_take 24 = .ok (.aload_n 0, 1) := by decide +kernel
theorem d_Input_take_25 : decode b_Input_take 25 = .ok (.getfield 36, 3) := by decide +kernel
theorem d_Input_take_28 : decode b_Input_take 28 = .ok (.invokevirtual 51, 3) := by decide +kernel
theorem d_Input_take_31 : decode b_Input_take 31 = .ok (.iconst 0, 1) := by decide +kernel
theorem d_Input_take_32 : decode b_Input_take 32 = .ok (.ireturn, 1) := by decide +kernel
theorem d_Input_take_33 : decode b_Input_take 33 = .ok (.aload_n 0, 1) := by decide +kernel
theorem d_Input_take_34 : decode b_Input_take 34 = .ok (.dup, 1) := by decide +kernel
theorem d_Input_take_35 : decode b_Input_take 35 = .ok (.getfield 39, 3) := by decide +kernel
theorem d_Input_take_38 : decode b_Input_take 38 = .ok (.iconst 1, 1) := by decide +kernel
theorem d_Input_take_39 : decode b_Input_take 39 = .ok (.isub, 1) := by decide +kernel
theorem d_Input_take_40 : decode b_Input_take 40 = .ok (.putfield 39, 3) := by decide +kernel
theorem d_Input_take_43 : decode b_Input_take 43 = .ok (.aload_n 0, 1) := by decide +kernel
theorem d_Input_take_44 : decode b_Input_take 44 = .ok (.getfield 19, 3) := by decide +kernel
theorem d_Input_take_47 : decode b_Input_take 47 = .ok (.dup, 1) := by decide +kernel
theorem d_Input_take_48 : decode b_Input_take 48 = .ok (.getfield 57, 3) := by decide +kernel
theorem d_Input_take_51 : decode b_Input_take 51 = .ok (.iconst 1, 1) := by decide +kernel
theorem d_Input_take_52 : decode b_Input_take 52 = .ok (.iadd, 1) := by decide +kernel
theorem d_Input_take_53 : decode b_Input_take 53 = .ok (.putfield 57, 3) := by decide +kernel
theorem d_Input_take_56 : decode b_Input_take 56 = .ok (.aload_n 0, 1) := by decide +kernel
theorem d_Input_take_57 : decode b_Input_take 57 = .ok (.getfield 23, 3) := by decide +kernel
theorem d_Input_take_60 : decode b_Input_take 60 = .ok (.aload_n 0, 1) := by decide +kernel
theorem d_Input_take_61 : decode b_Input_take 61 = .ok (.getfield 33, 3) := by decide +kernel
theorem d_Input_take_64 : decode b_Input_take 64 = .ok (.if_icmp .ne 37, 3) := by decide +kernel
theorem d_Input_take_67 : decode b_Input_take 67 = .ok (.aload_n 0, 1) := by decide +kernel
theorem d_Input_take_68 : decode b_Input_take 68 = .ok (.dup, 1) := by decide +kernel
theorem d_Input_take_69 : decode b_Input_take 69 = .ok (.getfield 33, 3) := by decide +kernel
theorem d_Input_take_72 : decode b_Input_take 72 = .ok (.iconst 1, 1) := by decide +kernel
theorem d_Input_take_73 : decode b_Input_take 73 = .ok (.iadd, 1) := by decide +kernel
theorem d_Input_take_74 : decode b_Input_take 74 = .ok (.putfield 33, 3) := by decide +kernel
theorem d_Input_take_77 : decode b_Input_take 77 = .ok (.aload_n 0, 1) := by decide +kernel
theorem d_Input_take_78 : decode b_Input_take 78 = .ok (.getfield 12, 3) := by decide +kernel
theorem d_Input_take_81 : decode b_Input_take 81 = .ok (.aload_n 0, 1) := by decide +kernel
theorem d_Input_take_82 : decode b_Input_take 82 = .ok (.getfield 23, 3) := by decide +kernel
theorem d_Input_take_85 : decode b_Input_take 85 = .ok (.baload, 1) := by decide +kernel
theorem d_Input_take_86 : decode b_Input_take 86 = .ok (.bipush 10, 2) := by decide +kernel
theorem d_Input_take_88 : decode b_Input_take 88 = .ok (.if_icmp .ne 13, 3) := by decide +kernel
theorem d_Input_take_91 : decode b_Input_take 91 = .ok (.aload_n 0, 1) := by decide +kernel
theorem d_Input_take_92 : decode b_Input_take 92 = .ok (.dup, 1) := by decide +kernel
theorem d_Input_take_93 : decode b_Input_take 93 = .ok (.getfield 36, 3) := by decide +kernel
theorem d_Input_take_96 : decode b_Input_take 96 = .ok (.iconst 1, 1) := by decide +kernel
theorem d_Input_take_97 : decode b_Input_take 97 = .ok (.iadd, 1) := by decide +kernel
theorem d_Input_take_98 : decode b_Input_take 98 = .ok (.putfield 36, 3) := by decide +kernel
theorem d_Input_take_101 : decode b_Input_take 101 = .ok (.aload_n 0, 1) := by decide +kernel
theorem d_Input_take_102 : decode b_Input_take 102 = .ok (.dup, 1) := by decide +kernel
theorem d_Input_take_103 : decode b_Input_take 103 = .ok (.getfield 23, 3) := by decide +kernel
theorem d_Input_take_106 : decode b_Input_take 106 = .ok (.iconst 1, 1) := by decide +kernel
theorem d_Input_take_107 : decode b_Input_take 107 = .ok (.iadd, 1) := by decide +kernel
theorem d_Input_take_108 : decode b_Input_take 108 = .ok (.putfield 23, 3) := by decide +kernel
theorem d_Input_take_111 : decode b_Input_take 111 = .ok (.iconst 1, 1) := by decide +kernel
theorem d_Input_take_112 : decode b_Input_take 112 = .ok (.ireturn, 1) := by decide +kernel
theorem d_Lines_endFile_0 : decode b_Lines_endFile 0 = .ok (.aload_n 0, 1) := by decide +kernel
theorem d_Lines_endFile_1 : decode b_Lines_endFile 1 = .ok (.getfield 55, 3) := by decide +kernel
theorem d_Lines_endFile_4 : decode b_Lines_endFile 4 = .ok (.ifCond .le 13, 3) := by decide +kernel
theorem d_Lines_endFile_7 : decode b_Lines_endFile 7 = .ok (.aload_n 0, 1) := by decide +kernel
theorem d_Lines_endFile_8 : decode b_Lines_endFile 8 = .ok (.dup, 1) := by decide +kernel
theorem d_Lines_endFile_9 : decode b_Lines_endFile 9 = .ok (.getfield 55, 3) := by decide +kernel
theorem d_Lines_endFile_12 : decode b_Lines_endFile 12 = .ok (.iconst 1, 1) := by decide +kernel
theorem d_Lines_endFile_13 : decode b_Lines_endFile 13 = .ok (.isub, 1) := by decide +kernel
theorem d_Lines_endFile_14 : decode b_Lines_endFile 14 = .ok (.putfield 55, 3) := by decide +kernel
theorem d_Lines_endFile_17 : decode b_Lines_endFile 17 = .ok (.aload_n 0, 1) := by decide +kernel
theorem d_Lines_endFile_18 : decode b_Lines_endFile 18 = .ok (.getfield 55, 3) := by decide +kernel
theorem d_Lines_endFile_21 : decode b_Lines_endFile 21 = .ok (.ifCond .le 21, 3) := by decide +kernel
theorem d_Lines_endFile_24 : decode b_Lines_endFile 24 = .ok (.aload_n 0, 1) := by decide +kernel
theorem d_Lines_endFile_25 : decode b_Lines_endFile 25 = .ok (.getfield 45, 3) := by decide +kernel
theorem d_Lines_endFile_28 : decode b_Lines_endFile 28 = .ok (.aload_n 0, 1) := by decide +kernel
theorem d_Lines_endFile_29 : decode b_Lines_endFile 29 = .ok (.getfield 21, 3) := by decide +kernel
theorem d_Lines_endFile_32 : decode b_Lines_endFile 32 = .ok (.aload_n 0, 1) := by decide +kernel
theorem d_Lines_endFile_33 : decode b_Lines_endFile 33 = .ok (.getfield 55, 3) := by decide +kernel
theorem d_Lines_endFile_36 : decode b_Lines_endFile 36 = .ok (.iconst 1, 1) := by decide +kernel
theorem d_Lines_endFile_37 : decode b_Lines_endFile 37 = .ok (.isub, 1) := by decide +kernel
theorem d_Lines_endFile_38 : decode b_Lines_endFile 38 = .ok (.iaload, 1) := by decide +kernel
theorem d_Lines_endFile_39 : decode b_Lines_endFile 39 = .ok (.putfield 117, 3) := by decide +kernel
theorem d_Lines_endFile_42 : decode b_Lines_endFile 42 = .ok (.return_, 1) := by decide +kernel
theorem d_Lines_setLine_0 : decode b_Lines_setLine 0 = .ok (.aload_n 0, 1) := by decide +kernel
theorem d_Lines_setLine_1 : decode b_Lines_setLine 1 = .ok (.getfield 55, 3) := by decide +kernel
theorem d_Lines_setLine_4 : decode b_Lines_setLine 4 = .ok (.ifCond .le 20, 3) := by decide +kernel
theorem d_Lines_setLine_7 : decode b_Lines_setLine 7 = .ok (.aload_n 0, 1) := by decide +kernel
theorem d_Lines_setLine_8 : decode b_Lines_setLine 8 = .ok (.getfield 27, 3) := by decide +kernel
theorem d_Lines_setLine_11 : decode b_Lines_setLine 11 = .ok (.aload_n 0, 1) := by decide +kernel
theorem d_Lines_setLine_12 : decode b_Lines_setLine 12 = .ok (.getfield 55, 3) := by decide +kernel
theorem d_Lines_setLine_15 : decode b_Lines_setLine 15 = .ok (.iconst 1, 1) := by decide +kernel
theorem d_Lines_setLine_16 : decode b_Lines_setLine 16 = .ok (.isub, 1) := by decide +kernel
theorem d_Lines_setLine_17 : decode b_Lines_setLine 17 = .ok (.iload_n 1, 1) := by decide +kernel
theorem d_Lines_setLine_18 : decode b_Lines_setLine 18 = .ok (.aload_n 0, 1) := by decide +kernel
theorem d_Lines_setLine_19 : decode b_Lines_setLine 19 = .ok (.getfield 77, 3) := by decide +kernel
theorem d_Lines_setLine_22 : decode b_Lines_setLine 22 = .ok (.isub, 1) := by decide +kernel
theorem d_Lines_setLine_23 : decode b_Lines_setLine 23 = .ok (.iastore, 1) := by decide +kernel
theorem d_Lines_setLine_24 : decode b_Lines_setLine 24 = .ok (.return_, 1) := by decide +kernel
theorem d_Lines_titleByte_0 : decode b_Lines_titleByte 0 = .ok (.aload_n 0, 1) := by decide +kernel
theorem d_Lines_titleByte_1 : decode b_Lines_titleByte 1 = .ok (.getfield 55, 3) := by decide +kernel
theorem d_Lines_titleByte_4 : decode b_Lines_titleByte 4 = .ok (.ifCond .eq 18, 3) := by decide +kernel
theorem d_Lines_titleByte_7 : decode b_Lines_titleByte 7 = .ok (.iload_n 1, 1) := by decide +kernel
theorem d_Lines_titleByte_8 : decode b_Lines_titleByte 8 = .ok (.aload_n 0, 1) := by decide +kernel
theorem d_Lines_titleByte_9 : decode b_Lines_titleByte 9 = .ok (.getfield 34, 3) := by decide +kernel
theorem d_Lines_titleByte_12 : decode b_Lines_titleByte 12 = .ok (.aload_n 0, 1) := by decide +kernel
theorem d_Lines_titleByte_13 : decode b_Lines_titleByte 13 = .ok (.getfield 55, 3) := by decide +kernel
theorem d_Lines_titleByte_16 : decode b_Lines_titleByte 16 = .ok (.iconst 1, 1) := by decide +kernel
theorem d_Lines_titleByte_17 : decode b_Lines_titleByte 17 = .ok (.isub, 1) := by decide +kernel
theorem d_Lines_titleByte_18 : decode b_Lines_titleByte 18 = .ok (.iaload, 1) := by decide +kernel
theorem d_Lines_titleByte_19 : decode b_Lines_titleByte 19 = .ok (.if_icmp .lt 5, 3) := by decide +kernel
theorem d_Lines_titleByte_22 : decode b_Lines_titleByte 22 = .ok (.iconst (-1), 1) := by decide +kernel
theorem d_Lines_titleByte_23 : decode b_Lines_titleByte 23 = .ok (.ireturn, 1) := by decide +kernel
theorem d_Lines_titleByte_24 : decode b_Lines_titleByte 24 = .ok (.aload_n 0, 1) := by decide +kernel
theorem d_Lines_titleByte_25 : decode b_Lines_titleByte 25 = .ok (.getfield 30, 3) := by decide +kernel
theorem d_Lines_titleByte_28 : decode b_Lines_titleByte 28 = .ok (.aload_n 0, 1) := by decide +kernel
theorem d_Lines_titleByte_29 : decode b_Lines_titleByte 29 = .ok (.getfield 55, 3) := by decide +kernel
theorem d_Lines_titleByte_32 : decode b_Lines_titleByte 32 = .ok (.iconst 1, 1) := by decide +kernel
theorem d_Lines_titleByte_33 : decode b_Lines_titleByte 33 = .ok (.isub, 1) := by decide +kernel
theorem d_Lines_titleByte_34 : decode b_Lines_titleByte 34 = .ok (.bipush 64, 2) := by decide +kernel
theorem d_Lines_titleByte_36 : decode b_Lines_titleByte 36 = .ok (.imul, 1) := by decide +kernel
theorem d_Lines_titleByte_37 : decode b_Lines_titleByte 37 = .ok (.iload_n 1, 1) := by decide +kernel
theorem d_Lines_titleByte_38 : decode b_Lines_titleByte 38 = .ok (.iadd, 1) := by decide +kernel
theorem d_Lines_titleByte_39 : decode b_Lines_titleByte 39 = .ok (.baload, 1) := by decide +kernel
theorem d_Lines_titleByte_40 : decode b_Lines_titleByte 40 = .ok (.sipush 255, 3) := by decide +kernel
theorem d_Lines_titleByte_43 : decode b_Lines_titleByte 43 = .ok (.iand, 1) := by decide +kernel
theorem d_Lines_titleByte_44 : decode b_Lines_titleByte 44 = .ok (.ireturn, 1) := by decide +kernel
theorem d_Lines_toldLine_0 : decode b_Lines_toldLine 0 = .ok (.aload_n 0, 1) := by decide +kernel
theorem d_Lines_toldLine_1 : decode b_Lines_toldLine 1 = .ok (.getfield 55, 3) := by decide +kernel
theorem d_Lines_toldLine_4 : decode b_Lines_toldLine 4 = .ok (.ifCond .le 19, 3) := by decide +kernel
theorem d_Lines_toldLine_7 : decode b_Lines_toldLine 7 = .ok (.iload_n 1, 1) := by decide +kernel
theorem d_Lines_toldLine_8 : decode b_Lines_toldLine 8 = .ok (.aload_n 0, 1) := by decide +kernel
theorem d_Lines_toldLine_9 : decode b_Lines_toldLine 9 = .ok (.getfield 27, 3) := by decide +kernel
theorem d_Lines_toldLine_12 : decode b_Lines_toldLine 12 = .ok (.aload_n 0, 1) := by decide +kernel
theorem d_Lines_toldLine_13 : decode b_Lines_toldLine 13 = .ok (.getfield 55, 3) := by decide +kernel
theorem d_Lines_toldLine_16 : decode b_Lines_toldLine 16 = .ok (.iconst 1, 1) := by decide +kernel
theorem d_Lines_toldLine_17 : decode b_Lines_toldLine 17 = .ok (.isub, 1) := by decide +kernel
theorem d_Lines_toldLine_18 : decode b_Lines_toldLine 18 = .ok (.iaload, 1) := by decide +kernel
theorem d_Lines_toldLine_19 : decode b_Lines_toldLine 19 = .ok (.iadd, 1) := by decide +kernel
theorem d_Lines_toldLine_20 : decode b_Lines_toldLine 20 = .ok (.goto 4, 3) := by decide +kernel
theorem d_Lines_toldLine_23 : decode b_Lines_toldLine 23 = .ok (.iload_n 1, 1) := by decide +kernel
theorem d_Lines_toldLine_24 : decode b_Lines_toldLine 24 = .ok (.ireturn, 1) := by decide +kernel
theorem d_Macros_bodyEnd_0 : decode b_Macros_bodyEnd 0 = .ok (.aload_n 0, 1) := by decide +kernel
theorem d_Macros_bodyEnd_1 : decode b_Macros_bodyEnd 1 = .ok (.getfield 30, 3) := by decide +kernel
theorem d_Macros_bodyEnd_4 : decode b_Macros_bodyEnd 4 = .ok (.iload_n 1, 1) := by decide +kernel
theorem d_Macros_bodyEnd_5 : decode b_Macros_bodyEnd 5 = .ok (.iaload, 1) := by decide +kernel
theorem d_Macros_bodyEnd_6 : decode b_Macros_bodyEnd 6 = .ok (.ireturn, 1) := by decide +kernel
theorem d_Macros_hasParameters_0 : decode b_Macros_hasParameters 0 = .ok (.aload_n 0, 1) := by decide +kernel
theorem d_Macros_hasParameters_1 : decode b_Macros_hasParameters 1 = .ok (.getfield 20, 3) := by decide +kernel
theorem d_Macros_hasParameters_4 : decode b_Macros_hasParameters 4 = .ok (.iload_n 1, 1) := by decide +kernel
theorem d_Macros_hasParameters_5 : decode b_Macros_hasParameters 5 = .ok (.iaload, 1) := by decide +kernel
theorem d_Macros_hasParameters_6 : decode b_Macros_hasParameters 6 = .ok (.ifCond .lt 7, 3) := by decide +kernel
theorem d_Macros_hasParameters_9 : decode b_Macros_hasParameters 9 = .ok (.iconst 1, 1) := by decide +kernel
theorem d_Macros_hasParameters_10 : decode b_Macros_hasParameters 10 = .ok (.goto 4, 3) := by decide +kernel
theorem d_Macros_hasParameters_13 : decode b_Macros_hasParameters 13 = .ok (.iconst 0, 1) := by decide +kernel
theorem d_Macros_hasParameters_14 : decode b_Macros_hasParameters 14 = .ok (.ireturn, 1) := by decide +kernel
theorem d_Macros_isHidden_0 : decode b_Macros_isHidden 0 = .ok (.aload_n 0, 1) := by decide +kernel
theorem d_Macros_isHidden_1 : decode b_Macros_isHidden 1 = .ok (.getfield 39, 3) := by decide +kernel
theorem d_Macros_isHidden_4 : decode b_Macros_isHidden 4 = .ok (.iload_n 1, 1) := by decide +kernel
theorem d_Macros_isHidden_5 : decode b_Macros_isHidden 5 = .ok (.bipush 7, 2) := by decide +kernel
theorem d_Macros_isHidden_7 : decode b_Macros_isHidden 7 = .ok (.imul, 1) := by decide +kernel
theorem d_Macros_isHidden_8 : decode b_Macros_isHidden 8 = .ok (.iload_n 2, 1) := by decide +kernel
theorem d_Macros_isHidden_9 : decode b_Macros_isHidden 9 = .ok (.bipush 6, 2) := by decide +kernel
theorem d_Macros_isHidden_11 : decode b_Macros_isHidden 11 = .ok (.ishr, 1) := by decide +kernel
theorem d_Macros_isHidden_12 : decode b_Macros_isHidden 12 = .ok (.iadd, 1) := by decide +kernel
theorem d_Macros_isHidden_13 : decode b_Macros_isHidden 13 = .ok (.laload, 1) := by decide +kernel
theorem d_Macros_isHidden_14 : decode b_Macros_isHidden 14 = .ok (.iload_n 2, 1) := by decide +kernel
theorem d_Macros_isHidden_15 : decode b_Macros_isHidden 15 = .ok (.bipush 63, 2) := by decide +kernel
theorem d_Macros_isHidden_17 : decode b_Macros_isHidden 17 = .ok (.iand, 1) := by decide +kernel
theorem d_Macros_isHidden_18 : decode b_Macros_isHidden 18 = .ok (.lushr, 1) := by decide +kernel
theorem d_Macros_isHidden_19 : decode b_Macros_isHidden 19 = .ok (.lconst 1, 1) := by decide +kernel
theorem d_Macros_isHidden_20 : decode b_Macros_isHidden 20 = .ok (.land, 1) := by decide +kernel
theorem d_Macros_isHidden_21 : decode b_Macros_isHidden 21 = .ok (.lconst 0, 1) := by decide +kernel
theorem d_Macros_isHidden_22 : decode b_Macros_isHidden 22 = .ok (.lcmp, 1) := by decide +kernel
theorem d_Macros_isHidden_23 : decode b_Macros_isHidden 23 = .ok (.ifCond .eq 7, 3) := by decide +kernel
theorem d_Macros_isHidden_26 : decode b_Macros_isHidden 26 = .ok (.iconst 1, 1) := by decide +kernel
theorem d_Macros_isHidden_27 : decode b_Macros_isHidden 27 = .ok (.goto 4, 3) := by decide +kernel
theorem d_Macros_isHidden_30 : decode b_Macros_isHidden 30 = .ok (.iconst 0, 1) := by decide +kernel
theorem d_Macros_isHidden_31 : decode b_Macros_isHidden 31 = .ok (.ireturn, 1) := by decide +kernel
theorem d_Macros_isThere_0 : decode b_Macros_isThere 0 = .ok (.aload_n 0, 1) := by decide +kernel
theorem d_Macros_isThere_1 : decode b_Macros_isThere 1 = .ok (.getfield 20, 3) := by decide +kernel
theorem d_Macros_isThere_4 : decode b_Macros_isThere 4 = .ok (.iload_n 1, 1) := by decide +kernel
theorem d_Macros_isThere_5 : decode b_Macros_isThere 5 = .ok (.iaload, 1) := by decide +kernel
theorem d_Macros_isThere_6 : decode b_Macros_isThere 6 = .ok (.bipush (-2), 2) := by decide +kernel
theorem d_Macros_isThere_8 : decode b_Macros_isThere 8 = .ok (.if_icmp .eq 7, 3) := by decide +kernel
theorem d_Macros_isThere_11 : decode b_Macros_isThere 11 = .ok (.iconst 1, 1) := by decide +kernel
theorem d_Macros_isThere_12 : decode b_Macros_isThere 12 = .ok (.goto 4, 3) := by decide +kernel
theorem d_Macros_isThere_15 : decode b_Macros_isThere 15 = .ok (.iconst 0, 1) := by decide +kernel
theorem d_Macros_isThere_16 : decode b_Macros_isThere 16 = .ok (.ireturn, 1) := by decide +kernel
theorem d_Meanings_kindOf_0 : decode b_Meanings_kindOf 0 = .ok (.aload_n 0, 1) := by decide +kernel
theorem d_Meanings_kindOf_1 : decode b_Meanings_kindOf 1 = .ok (.getfield 30, 3) := by decide +kernel
theorem d_Meanings_kindOf_4 : decode b_Meanings_kindOf 4 = .ok (.iload_n 1, 1) := by decide +kernel
theorem d_Meanings_kindOf_5 : decode b_Meanings_kindOf 5 = .ok (.iaload, 1) := by decide +kernel
theorem d_Meanings_kindOf_6 : decode b_Meanings_kindOf 6 = .ok (.ireturn, 1) := by decide +kernel
theorem d_Meanings_release_0 : decode b_Meanings_release 0 = .ok (.aload_n 0, 1) := by decide +kernel
theorem d_Meanings_release_1 : decode b_Meanings_release 1 = .ok (.getfield 30, 3) := by decide +kernel
theorem d_Meanings_release_4 : decode b_Meanings_release 4 = .ok (.iload_n 1, 1) := by decide +kernel
theorem d_Meanings_release_5 : decode b_Meanings_release 5 = .ok (.iaload, 1) := by decide +kernel
theorem d_Meanings_release_6 : decode b_Meanings_release 6 = .ok (.ifCond .ne 35, 3) := by decide +kernel
theorem d_Meanings_release_9 : decode b_Meanings_release 9 = .ok (.aload_n 0, 1) := by decide +kernel
theorem d_Meanings_release_10 : decode b_Meanings_release 10 = .ok (.dup, 1) := by decide +kernel
theorem d_Meanings_release_11 : decode b_Meanings_release 11 = .ok (.getfield 46, 3) := by decide +kernel
theorem d_Meanings_release_14 : decode b_Meanings_release 14 = .ok (.iconst 1, 1) := by decide +kernel
theorem d_Meanings_release_15 : decode b_Meanings_release 15 = .ok (.isub, 1) := by decide +kernel
theorem d_Meanings_release_16 : decode b_Meanings_release 16 = .ok (.putfield 46, 3) := by decide +kernel
theorem d_Meanings_release_19 : decode b_Meanings_release 19 = .ok (.aload_n 0, 1) := by decide +kernel
theorem d_Meanings_release_20 : decode b_Meanings_release 20 = .ok (.dup, 1) := by decide +kernel
theorem d_Meanings_release_21 : decode b_Meanings_release 21 = .ok (.getfield 49, 3) := by decide +kernel
theorem d_Meanings_release_24 : decode b_Meanings_release 24 = .ok (.aload_n 0, 1) := by decide +kernel
theorem d_Meanings_release_25 : decode b_Meanings_release 25 = .ok (.getfield 24, 3) := by decide +kernel
theorem d_Meanings_release_28 : decode b_Meanings_release 28 = .ok (.iload_n 1, 1) := by decide +kernel
theorem d_Meanings_release_29 : decode b_Meanings_release 29 = .ok (.iaload, 1) := by decide +kernel
theorem d_Meanings_release_30 : decode b_Meanings_release 30 = .ok (.aload_n 0, 1) := by decide +kernel
theorem d_Meanings_release_31 : decode b_Meanings_release 31 = .ok (.getfield 27, 3) := by decide +kernel
theorem d_Meanings_release_34 : decode b_Meanings_release 34 = .ok (.iload_n 1, 1) := by decide +kernel
theorem d_Meanings_release_35 : decode b_Meanings_release 35 = .ok (.iaload, 1) := by decide +kernel
theorem d_Meanings_release_36 : decode b_Meanings_release 36 = .ok (.iadd, 1) := by decide +kernel
theorem d_Meanings_release_37 : decode b_Meanings_release 37 = .ok (.isub, 1) := by decide +kernel
theorem d_Meanings_release_38 : decode b_Meanings_release 38 = .ok (.putfield 49, 3) := by decide +kernel
theorem d_Meanings_release_41 : decode b_Meanings_release 41 = .ok (.aload_n 0, 1) := by decide +kernel
theorem d_Meanings_release_42 : decode b_Meanings_release 42 = .ok (.getfield 21, 3) := by decide +kernel
theorem d_Meanings_release_45 : decode b_Meanings_release 45 = .ok (.iload_n 1, 1) := by decide +kernel
theorem d_Meanings_release_46 : decode b_Meanings_release 46 = .ok (.iconst (-1), 1) := by decide +kernel
theorem d_Meanings_release_47 : decode b_Meanings_release 47 = .ok (.iastore, 1) := by decide +kernel
theorem d_Meanings_release_48 : decode b_Meanings_release 48 = .ok (.aload_n 0, 1) := by decide +kernel
theorem d_Meanings_release_49 : decode b_Meanings_release 49 = .ok (.getfield 18, 3) := by decide +kernel
theorem d_Meanings_release_52 : decode b_Meanings_release 52 = .ok (.iload_n 1, 1) := by decide +kernel
theorem d_Meanings_release_53 : decode b_Meanings_release 53 = .ok (.aload_n 0, 1) := by decide +kernel
theorem d_Meanings_release_54 : decode b_Meanings_release 54 = .ok (.getfield 39, 3) := by decide +kernel
theorem d_Meanings_release_57 : decode b_Meanings_release 57 = .ok (.iastore, 1) := by decide +kernel
theorem d_Meanings_release_58 : decode b_Meanings_release 58 = .ok (.aload_n 0, 1) := by decide +kernel
theorem d_Meanings_release_59 : decode b_Meanings_release 59 = .ok (.iload_n 1, 1) := by decide +kernel
theorem d_Meanings_release_60 : decode b_Meanings_release 60 = .ok (.putfield 39, 3) := by decide +kernel
theorem d_Meanings_release_63 : decode b_Meanings_release 63 = .ok (.return_, 1) := by decide +kernel
theorem d_Meanings_takeNode_0 : decode b_Meanings_takeNode 0 = .ok (.aload_n 0, 1) := by decide +kernel
theorem d_Meanings_takeNode_1 : decode b_Meanings_takeNode 1 = .ok (.getfield 39, 3) := by decide +kernel
theorem d_Meanings_takeNode_4 : decode b_Meanings_takeNode 4 = .ok (.istore_n 2, 1) := by decide +kernel
theorem d_Meanings_takeNode_5 : decode b_Meanings_takeNode 5 = .ok (.aload_n 0, 1) := by decide +kernel
theorem d_Meanings_takeNode_6 : decode b_Meanings_takeNode 6 = .ok (.aload_n 0, 1) := by decide +kernel
theorem d_Meanings_takeNode_7 : decode b_Meanings_takeNode 7 = .ok (.getfield 18, 3) := by decide +kernel
theorem d_Meanings_takeNode_10 : decode b_Meanings_takeNode 10 = .ok (.iload_n 2, 1) := by decide +kernel
theorem d_Meanings_takeNode_11 : decode b_Meanings_takeNode 11 = .ok (.iaload, 1) := by decide +kernel
theorem d_Meanings_takeNode_12 : decode b_Meanings_takeNode 12 = .ok (.putfield 39, 3) := by decide +kernel
theorem d_Meanings_takeNode_15 : decode b_Meanings_takeNode 15 = .ok (.aload_n 0, 1) := by decide +kernel
theorem d_Meanings_takeNode_16 : decode b_Meanings_takeNode 16 = .ok (.getfield 18, 3) := by decide +kernel
theorem d_Meanings_takeNode_19 : decode b_Meanings_takeNode 19 = .ok (.iload_n 2, 1) := by decide +kernel
theorem d_Meanings_takeNode_20 : decode b_Meanings_takeNode 20 = .ok (.aload_n 0, 1) := by decide +kernel
theorem d_Meanings_takeNode_21 : decode b_Meanings_takeNode 21 = .ok (.getfield 14, 3) := by decide +kernel
theorem d_Meanings_takeNode_24 : decode b_Meanings_takeNode 24 = .ok (.iload_n 1, 1) := by decide +kernel
theorem d_Meanings_takeNode_25 : decode b_Meanings_takeNode 25 = .ok (.iaload, 1) := by decide +kernel
theorem d_Meanings_takeNode_26 : decode b_Meanings_takeNode 26 = .ok (.iastore, 1) := by decide +kernel
theorem d_Meanings_takeNode_27 : decode b_Meanings_takeNode 27 = .ok (.aload_n 0, 1) := by decide +kernel
theorem d_Meanings_takeNode_28 : decode b_Meanings_takeNode 28 = .ok (.getfield 14, 3) := by decide +kernel
theorem d_Meanings_takeNode_31 : decode b_Meanings_takeNode 31 = .ok (.iload_n 1, 1) := by decide +kernel
theorem d_Meanings_takeNode_32 : decode b_Meanings_takeNode 32 = .ok (.iload_n 2, 1) := by decide +kernel
theorem d_Meanings_takeNode_33 : decode b_Meanings_takeNode 33 = .ok (.iastore, 1) := by decide +kernel
theorem d_Meanings_takeNode_34 : decode b_Meanings_takeNode 34 = .ok (.iload_n 2, 1) := by decide +kernel
theorem d_Meanings_takeNode_35 : decode b_Meanings_takeNode 35 = .ok (.ireturn, 1) := by decide +kernel
theorem d_Meanings_textFrom_0 : decode b_Meanings_textFrom 0 = .ok (.aload_n 0, 1) := by decide +kernel
theorem d_Meanings_textFrom_1 : decode b_Meanings_textFrom 1 = .ok (.getfield 21, 3) := by decide +kernel
theorem d_Meanings_textFrom_4 : decode b_Meanings_textFrom 4 = .ok (.iload_n 1, 1) := by decide +kernel
theorem d_Meanings_textFrom_5 : decode b_Meanings_textFrom 5 = .ok (.iaload, 1) := by decide +kernel
theorem d_Meanings_textFrom_6 : decode b_Meanings_textFrom 6 = .ok (.aload_n 0, 1) := by decide +kernel
theorem d_Meanings_textFrom_7 : decode b_Meanings_textFrom 7 = .ok (.getfield 24, 3) := by decide +kernel
theorem d_Meanings_textFrom_10 : decode b_Meanings_textFrom 10 = .ok (.iload_n 1, 1) := by decide +kernel
theorem d_Meanings_textFrom_11 : decode b_Meanings_textFrom 11 = .ok (.iaload, 1) := by decide +kernel
theorem d_Meanings_textFrom_12 : decode b_Meanings_textFrom 12 = .ok (.iadd, 1) := by decide +kernel
theorem d_Meanings_textFrom_13 : decode b_Meanings_textFrom 13 = .ok (.ireturn, 1) := by decide +kernel
theorem d_Meanings_textSize_0 : decode b_Meanings_textSize 0 = .ok (.aload_n 0, 1) := by decide +kernel
theorem d_Meanings_textSize_1 : decode b_Meanings_textSize 1 = .ok (.getfield 27, 3) := by decide +kernel
theorem d_Meanings_textSize_4 : decode b_Meanings_textSize 4 = .ok (.iload_n 1, 1) := by decide +kernel
theorem d_Meanings_textSize_5 : decode b_Meanings_textSize 5 = .ok (.iaload, 1) := by decide +kernel
theorem d_Meanings_textSize_6 : decode b_Meanings_textSize 6 = .ok (.ireturn, 1) := by decide +kernel
theorem d_Meanings_wantsParenthesis_0 : decode b_Meanings_wantsParenthesis 0 = .ok (.aload_n 0, 1) := by decide +kernel
theorem d_Meanings_wantsParenthesis_1 : decode b_Meanings_wantsParenthesis 1 = .ok (.getfield 30, 3) := by decide +kernel
theorem d_Meanings_wantsParenthesis_4 : decode b_Meanings_wantsParenthesis 4 = .ok (.iload_n 1, 1) := by decide +kernel
theorem d_Meanings_wantsParenthesis_5 : decode b_Meanings_wantsParenthesis 5 = .ok (.iaload, 1) := by decide +kernel
theorem d_Meanings_wantsParenthesis_6 : decode b_Meanings_wantsParenthesis 6 = .ok (.iconst 1, 1) := by decide +kernel
theorem d_Meanings_wantsParenthesis_7 : decode b_Meanings_wantsParenthesis 7 = .ok (.if_icmp .lt 18, 3) := by decide +kernel
theorem d_Meanings_wantsParenthesis_10 : decode b_Meanings_wantsParenthesis 10 = .ok (.aload_n 0, 1) := by decide +kernel
theorem d_Meanings_wantsParenthesis_11 : decode b_Meanings_wantsParenthesis 11 = .ok (.getfield 30, 3) := by decide +kernel
theorem d_Meanings_wantsParenthesis_14 : decode b_Meanings_wantsParenthesis 14 = .ok (.iload_n 1, 1) := by decide +kernel
theorem d_Meanings_wantsParenthesis_15 : decode b_Meanings_wantsParenthesis 15 = .ok (.iaload, 1) := by decide +kernel
theorem d_Meanings_wantsParenthesis_16 : decode b_Meanings_wantsParenthesis 16 = .ok (.bipush 13, 2) := by decide +kernel
theorem d_Meanings_wantsParenthesis_18 : decode b_Meanings_wantsParenthesis 18 = .ok (.if_icmp .gt 7, 3) := by decide +kernel
theorem d_Meanings_wantsParenthesis_21 : decode b_Meanings_wantsParenthesis 21 = .ok (.iconst 1, 1) := by decide +kernel
theorem d_Meanings_wantsParenthesis_22 : decode b_Meanings_wantsParenthesis 22 = .ok (.goto 4, 3) := by decide +kernel
theorem d_Meanings_wantsParenthesis_25 : decode b_Meanings_wantsParenthesis 25 = .ok (.iconst 0, 1) := by decide +kernel
theorem d_Meanings_wantsParenthesis_26 : decode b_Meanings_wantsParenthesis 26 = .ok (.ireturn, 1) := by decide +kernel
theorem d_Outcome_begin_0 : decode b_Outcome_begin 0 = .ok (.aload_n 0, 1) := by decide +kernel
theorem d_Outcome_begin_1 : decode b_Outcome_begin 1 = .ok (.iconst 0, 1) := by decide +kernel
theorem d_Outcome_begin_2 : decode b_Outcome_begin 2 = .ok (.putfield 14, 3) := by decide +kernel
theorem d_Outcome_begin_5 : decode b_Outcome_begin 5 = .ok (.aload_n 0, 1) := by decide +kernel
theorem d_Outcome_begin_6 : decode b_Outcome_begin 6 = .ok (.iconst 0, 1) := by decide +kernel
theorem d_Outcome_begin_7 : decode b_Outcome_begin 7 = .ok (.putfield 18, 3) := by decide +kernel
theorem d_Outcome_begin_10 : decode b_Outcome_begin 10 = .ok (.aload_n 0, 1) := by decide +kernel
theorem d_Outcome_begin_11 : decode b_Outcome_begin 11 = .ok (.iconst 0, 1) := by decide +kernel
theorem d_Outcome_begin_12 : decode b_Outcome_begin 12 = .ok (.putfield 21, 3) := by decide +kernel
theorem d_Outcome_begin_15 : decode b_Outcome_begin 15 = .ok (.aload_n 0, 1) := by decide +kernel
theorem d_Outcome_begin_16 : decode b_Outcome_begin 16 = .ok (.iconst 0, 1) := by decide +kernel
theorem d_Outcome_begin_17 : decode b_Outcome_begin 17 = .ok (.putfield 24, 3) := by decide +kernel
theorem d_Outcome_begin_20 : decode b_Outcome_begin 20 = .ok (.aload_n 0, 1) := by decide +kernel
theorem d_Outcome_begin_21 : decode b_Outcome_begin 21 = .ok (.iload_n 1, 1) := by decide +kernel
theorem d_Outcome_begin_22 : decode b_Outcome_begin 22 = .ok (.putfield 27, 3) := by decide +kernel
theorem d_Outcome_begin_25 : decode b_Outcome_begin 25 = .ok (.aload_n 0, 1) := by decide +kernel
theorem d_Outcome_begin_26 : decode b_Outcome_begin 26 = .ok (.iconst 0, 1) := by decide +kernel
theorem d_Outcome_begin_27 : decode b_Outcome_begin 27 = .ok (.putfield 30, 3) := by decide +kernel
theorem d_Outcome_begin_30 : decode b_Outcome_begin 30 = .ok (.aload_n 0, 1) := by decide +kernel
theorem d_Outcome_begin_31 : decode b_Outcome_begin 31 = .ok (.iconst 0, 1) := by decide +kernel
theorem d_Outcome_begin_32 : decode b_Outcome_begin 32 = .ok (.putfield 33, 3) := by decide +kernel
theorem d_Outcome_begin_35 : decode b_Outcome_begin 35 = .ok (.aload_n 0, 1) := by decide +kernel
theorem d_Outcome_begin_36 : decode b_Outcome_begin 36 = .ok (.iconst 0, 1) := by decide +kernel
theorem d_Outcome_begin_37 : decode b_Outcome_begin 37 = .ok (.putfield 36, 3) := by decide +kernel
theorem d_Outcome_begin_40 : decode b_Outcome_begin 40 = .ok (.aload_n 0, 1) := by decide +kernel
theorem d_Outcome_begin_41 : decode b_Outcome_begin 41 = .ok (.iconst 0, 1) := by decide +kernel
theorem d_Outcome_begin_42 : decode b_Outcome_begin 42 = .ok (.putfield 39, 3) := by decide +kernel
theorem d_Outcome_begin_45 : decode b_Outcome_begin 45 = .ok (.return_, 1) := by decide +kernel
theorem d_Outcome_fail_0 : decode b_Outcome_fail 0 = .ok (.aload_n 0, 1) := by decide +kernel
theorem d_Outcome_fail_1 : decode b_Outcome_fail 1 = .ok (.getfield 18, 3) := by decide +kernel
theorem d_Outcome_fail_4 : decode b_Outcome_fail 4 = .ok (.ifCond .ne 21, 3) := by decide +kernel
theorem d_Outcome_fail_7 : decode b_Outcome_fail 7 = .ok (.aload_n 0, 1) := by decide +kernel
theorem d_Outcome_fail_8 : decode b_Outcome_fail 8 = .ok (.iload_n 1, 1) := by decide +kernel
theorem d_Outcome_fail_9 : decode b_Outcome_fail 9 = .ok (.putfield 18, 3) := by decide +kernel
theorem d_Outcome_fail_12 : decode b_Outcome_fail 12 = .ok (.aload_n 0, 1) := by decide +kernel
theorem d_Outcome_fail_13 : decode b_Outcome_fail 13 = .ok (.aload_n 0, 1) := by decide +kernel
theorem d_Outcome_fail_14 : decode b_Outcome_fail 14 = .ok (.getfield 27, 3) := by decide +kernel
theorem d_Outcome_fail_17 : decode b_Outcome_fail 17 = .ok (.putfield 21, 3) := by decide +kernel
theorem d_Outcome_fail_20 : decode b_Outcome_fail 20 = .ok (.aload_n 0, 1) := by decide +kernel
theorem d_Outcome_fail_21 : decode b_Outcome_fail 21 = .ok (.iload_n 2, 1) := by decide +kernel
theorem d_Outcome_fail_22 : decode b_Outcome_fail 22 = .ok (.putfield 24, 3) := by decide +kernel
theorem d_Outcome_fail_25 : decode b_Outcome_fail 25 = .ok (.return_, 1) := by decide +kernel
theorem d_Outcome_isFine_0 : decode b_Outcome_isFine 0 = .ok (.aload_n 0, 1) := by decide +kernel
theorem d_Outcome_isFine_1 : decode b_Outcome_isFine 1 = .ok (.getfield 18, 3) := by decide +kernel
theorem d_Outcome_isFine_4 : decode b_Outcome_isFine 4 = .ok (.ifCond .ne 7, 3) := by decide +kernel
theorem d_Outcome_isFine_7 : decode b_Outcome_isFine 7 = .ok (.iconst 1, 1) := by decide +kernel
theorem d_Outcome_isFine_8 : decode b_Outcome_isFine 8 = .ok (.goto 4, 3) := by decide +kernel
theorem d_Outcome_isFine_11 : decode b_Outcome_isFine 11 = .ok (.iconst 0, 1) := by decide +kernel
theorem d_Outcome_isFine_12 : decode b_Outcome_isFine 12 = .ok (.ireturn, 1) := by decide +kernel
theorem d_Reckoner_beIdleBehind_0 : decode b_Reckoner_beIdleBehind 0 = .ok (.aload_n 0, 1) := by decide +kernel
theorem d_Reckoner_beIdleBehind_1 : decode b_Reckoner_beIdleBehind 1 = .ok (.getfield 9, 3) := by decide +kernel
theorem d_Reckoner_beIdleBehind_4 : decode b_Reckoner_beIdleBehind 4 = .ok (.aload_n 0, 1) := by decide +kernel
theorem d_Reckoner_beIdleBehind_5 : decode b_Reckoner_beIdleBehind 5 = .ok (.getfield 31, 3) := by decide +kernel
theorem d_Reckoner_beIdleBehind_8 : decode b_Reckoner_beIdleBehind 8 = .ok (.iconst 1, 1) := by decide +kernel
theorem d_Reckoner_beIdleBehind_9 : decode b_Reckoner_beIdleBehind 9 = .ok (.isub, 1) := by decide +kernel
theorem d_Reckoner_beIdleBehind_10 : decode b_Reckoner_beIdleBehind 10 = .ok (.laload, 1) := by decide +kernel
theorem d_Reckoner_beIdleBehind_11 : decode b_Reckoner_beIdleBehind 11 = .ok (.lconst 0, 1) := by decide +kernel
theorem d_Reckoner_beIdleBehind_12 : decode b_Reckoner_beIdleBehind 12 = .ok (.lcmp, 1) := by decide +kernel
theorem d_Reckoner_beIdleBehind_13 : decode b_Reckoner_beIdleBehind 13 = .ok (.ifCond .ne 7, 3) := by decide +kernel
theorem d_Reckoner_beIdleBehind_16 : decode b_Reckoner_beIdleBehind 16 = .ok (.iconst 1, 1) := by decide +kernel
theorem d_Reckoner_beIdleBehind_17 : decode b_Reckoner_beIdleBehind 17 = .ok (.goto 4, 3) := by decide +kernel
theorem d_Reckoner_beIdleBehind_20 : decode b_Reckoner_beIdleBehind 20 = .ok (.iconst 0, 1) := by decide +kernel
theorem d_Reckoner_beIdleBehind_21 : decode b_Reckoner_beIdleBehind 21 = .ok (.istore_n 2, 1) := by decide +kernel
theorem d_Reckoner_beIdleBehind_22 : decode b_Reckoner_beIdleBehind 22 = .ok (.aload_n 0, 1) := by decide +kernel
theorem d_Reckoner_beIdleBehind_23 : decode b_Reckoner_beIdleBehind 23 = .ok (.getfield 27, 3) := by decide +kernel
theorem d_Reckoner_beIdleBehind_26 : decode b_Reckoner_beIdleBehind 26 = .ok (.ifCond .eq 39, 3) := by decide +kernel
theorem d_Reckoner_beIdleBehind_29 : decode b_Reckoner_beIdleBehind 29 = .ok (.iload_n 1, 1) := by decide +kernel
theorem d_Reckoner_beIdleBehind_30 : decode b_Reckoner_beIdleBehind 30 = .ok (.sipush 9766, 3) := by decide +kernel
theorem d_Reckoner_beIdleBehind_33 : decode b_Reckoner_beIdleBehind 33 = .ok (.if_icmp .eq 9, 3) := by decide +kernel
theorem d_Reckoner_beIdleBehind_36 : decode b_Reckoner_beIdleBehind 36 = .ok (.iload_n 1, 1) := by decide +kernel
theorem d_Reckoner_beIdleBehind_37 : decode b_Reckoner_beIdleBehind 37 = .ok (.bipush 63, 2) := by decide +kernel
theorem d_Reckoner_beIdleBehind_39 : decode b_Reckoner_beIdleBehind 39 = .ok (.if_icmp .ne 26, 3) := by decide +kernel
theorem d_Reckoner_beIdleBehind_42 : decode b_Reckoner_beIdleBehind 42 = .ok (.aload_n 0, 1) := by decide +kernel
theorem d_Reckoner_beIdleBehind_43 : decode b_Reckoner_beIdleBehind 43 = .ok (.aload_n 0, 1) := by decide +kernel
theorem d_Reckoner_beIdleBehind_44 : decode b_Reckoner_beIdleBehind 44 = .ok (.getfield 44, 3) := by decide +kernel
theorem d_Reckoner_beIdleBehind_47 : decode b_Reckoner_beIdleBehind 47 = .ok (.ifCond .ne 7, 3) := by decide +kernel
theorem d_Reckoner_beIdleBehind_50 : decode b_Reckoner_beIdleBehind 50 = .ok (.iload_n 2, 1) := by decide +kernel
theorem d_Reckoner_beIdleBehind_51 : decode b_Reckoner_beIdleBehind 51 = .ok (.ifCond .eq 7, 3) := by decide +kernel
theorem d_Reckoner_beIdleBehind_54 : decode b_Reckoner_beIdleBehind 54 = .ok (.iconst 1, 1) := by decide +kernel
theorem d_Reckoner_beIdleBehind_55 : decode b_Reckoner_beIdleBehind 55 = .ok (.goto 4, 3) := by decide +kernel
theorem d_Reckoner_beIdleBehind_58 : decode b_Reckoner_beIdleBehind 58 = .ok (.iconst 0, 1) := by decide +kernel
theorem d_Reckoner_beIdleBehind_59 : decode b_Reckoner_beIdleBehind 59 = .ok (.putfield 44, 3) := by decide +kernel
theorem d_Reckoner_beIdleBehind_62 : decode b_Reckoner_beIdleBehind 62 = .ok (.goto 37, 3) := by decide +kernel
theorem d_Reckoner_beIdleBehind_65 : decode b_Reckoner_beIdleBehind 65 = .ok (.aload_n 0, 1) := by decide +kernel
theorem d_Reckoner_beIdleBehind_66 : decode b_Reckoner_beIdleBehind 66 = .ok (.getfield 27, 3) := by decide +kernel
theorem d_Reckoner_beIdleBehind_69 : decode b_Reckoner_beIdleBehind 69 = .ok (.ifCond .eq 30, 3) := by decide +kernel
theorem d_Reckoner_beIdleBehind_72 : decode b_Reckoner_beIdleBehind 72 = .ok (.iload_n 1, 1) := by decide +kernel
theorem d_Reckoner_beIdleBehind_73 : decode b_Reckoner_beIdleBehind 73 = .ok (.sipush 31868, 3) := by decide +kernel
theorem d_Reckoner_beIdleBehind_76 : decode b_Reckoner_beIdleBehind 76 = .ok (.if_icmp .ne 23, 3) := by decide +kernel
theorem d_Reckoner_beIdleBehind_79 : decode b_Reckoner_beIdleBehind 79 = .ok (.aload_n 0, 1) := by decide +kernel
theorem d_Reckoner_beIdleBehind_80 : decode b_Reckoner_beIdleBehind 80 = .ok (.aload_n 0, 1) := by decide +kernel
theorem d_Reckoner_beIdleBehind_81 : decode b_Reckoner_beIdleBehind 81 = .ok (.getfield 44, 3) := by decide +kernel
theorem d_Reckoner_beIdleBehind_84 : decode b_Reckoner_beIdleBehind 84 = .ok (.ifCond .ne 7, 3) := by decide +kernel
theorem d_Reckoner_beIdleBehind_87 : decode b_Reckoner_beIdleBehind 87 = .ok (.iload_n 2, 1) := by decide +kernel
theorem d_Reckoner_beIdleBehind_88 : decode b_Reckoner_beIdleBehind 88 = .ok (.ifCond .ne 7, 3) := by decide +kernel
theorem d_Reckoner_beIdleBehind_91 : decode b_Reckoner_beIdleBehind 91 = .ok (.iconst 1, 1) := by decide +kernel
theorem d_Reckoner_beIdleBehind_92 : decode b_Reckoner_beIdleBehind 92 = .ok (.goto 4, 3) := by decide +kernel
theorem d_Reckoner_beIdleBehind_95 : decode b_Reckoner_beIdleBehind 95 = .ok (.iconst 0, 1) := by decide +kernel
theorem d_Reckoner_beIdleBehind_96 : decode b_Reckoner_beIdleBehind 96 = .ok (.putfield 44, 3) := by decide +kernel
theorem d_Reckoner_beIdleBehind_99 : decode b_Reckoner_beIdleBehind 99 = .ok (.return_, 1) := by decide +kernel
theorem d_Reckoner_begin_0 : decode b_Reckoner_begin 0 = .ok (.aload_n 0, 1) := by decide +kernel
theorem d_Reckoner_begin_1 : decode b_Reckoner_begin 1 = .ok (.iload_n 1, 1) := by decide +kernel
theorem d_Reckoner_begin_2 : decode b_Reckoner_begin 2 = .ok (.putfield 27, 3) := by decide +kernel
theorem d_Reckoner_begin_5 : decode b_Reckoner_begin 5 = .ok (.aload_n 0, 1) := by decide +kernel
theorem d_Reckoner_begin_6 : decode b_Reckoner_begin 6 = .ok (.iconst 0, 1) := by decide +kernel
theorem d_Reckoner_begin_7 : decode b_Reckoner_begin 7 = .ok (.putfield 31, 3) := by decide +kernel
theorem d_Reckoner_begin_10 : decode b_Reckoner_begin 10 = .ok (.aload_n 0, 1) := by decide +kernel
theorem d_Reckoner_begin_11 : decode b_Reckoner_begin 11 = .ok (.iconst 0, 1) := by decide +kernel
theorem d_Reckoner_begin_12 : decode b_Reckoner_begin 12 = .ok (.putfield 35, 3) := by decide +kernel
theorem d_Reckoner_begin_15 : decode b_Reckoner_begin 15 = .ok (.aload_n 0, 1) := by decide +kernel
theorem d_Reckoner_begin_16 : decode b_Reckoner_begin 16 = .ok (.iconst 0, 1) := by decide +kernel
theorem d_Reckoner_begin_17 : decode b_Reckoner_begin 17 = .ok (.putfield 38, 3) := by decide +kernel
theorem d_Reckoner_begin_20 : decode b_Reckoner_begin 20 = .ok (.aload_n 0, 1) := by decide +kernel
theorem d_Reckoner_begin_21 : decode b_Reckoner_begin 21 = .ok (.iconst 1, 1) := by decide +kernel
theorem d_Reckoner_begin_22 : decode b_Reckoner_begin 22 = .ok (.putfield 41, 3) := by decide +kernel
theorem d_Reckoner_begin_25 : decode b_Reckoner_begin 25 = .ok (.aload_n 0, 1) := by decide +kernel
theorem d_Reckoner_begin_26 : decode b_Reckoner_begin 26 = .ok (.iconst 0, 1) := by decide +kernel
theorem d_Reckoner_begin_27 : decode b_Reckoner_begin 27 = .ok (.putfield 44, 3) := by decide +kernel
theorem d_Reckoner_begin_30 : decode b_Reckoner_begin 30 = .ok (.aload_n 0, 1) := by decide +kernel
theorem d_Reckoner_begin_31 : decode b_Reckoner_begin 31 = .ok (.iconst 0, 1) := by decide +kernel
theorem d_Reckoner_begin_32 : decode b_Reckoner_begin 32 = .ok (.putfield 47, 3) := by decide +kernel
theorem d_Reckoner_begin_35 : decode b_Reckoner_begin 35 = .ok (.aload_n 0, 1) := by decide +kernel
theorem d_Reckoner_begin_36 : decode b_Reckoner_begin 36 = .ok (.iconst 0, 1) := by decide +kernel
theorem d_Reckoner_begin_37 : decode b_Reckoner_begin 37 = .ok (.putfield 50, 3) := by decide +kernel
theorem d_Reckoner_begin_40 : decode b_Reckoner_begin 40 = .ok (.return_, 1) := by decide +kernel
theorem d_Reckoner_choose_0 : decode b_Reckoner_choose 0 = .ok (.aload_n 0, 1) := by decide +kernel
theorem d_Reckoner_choose_1 : decode b_Reckoner_choose 1 = .ok (.dup, 1) := by decide +kernel
theorem d_Reckoner_choose_2 : decode b_Reckoner_choose 2 = .ok (.getfield 38, 3) := by decide +kernel
theorem d_Reckoner_choose_5 : decode b_Reckoner_choose 5 = .ok (.iconst 1, 1) := by decide +kernel
theorem d_Reckoner_choose_6 : decode b_Reckoner_choose 6 = .ok (.isub, 1) := by decide +kernel
theorem d_Reckoner_choose_7 : decode b_Reckoner_choose 7 = .ok (.putfield 38, 3) := by decide +kernel
theorem d_Reckoner_choose_10 : decode b_Reckoner_choose 10 = .ok (.aload_n 0, 1) := by decide +kernel
theorem d_Reckoner_choose_11 : decode b_Reckoner_choose 11 = .ok (.dup, 1) := by decide +kernel
theorem d_Reckoner_choose_12 : decode b_Reckoner_choose 12 = .ok (.getfield 31, 3) := by decide +kernel
theorem d_Reckoner_choose_15 : decode b_Reckoner_choose 15 = .ok (.iconst 2, 1) := by decide +kernel
theorem d_Reckoner_choose_16 : decode b_Reckoner_choose 16 = .ok (.isub, 1) := by decide +kernel
theorem d_Reckoner_choose_17 : decode b_Reckoner_choose 17 = .ok (.putfield 31, 3) := by decide +kernel
theorem d_Reckoner_choose_20 : decode b_Reckoner_choose 20 = .ok (.aload_n 0, 1) := by decide +kernel
theorem d_Reckoner_choose_21 : decode b_Reckoner_choose 21 = .ok (.getfield 31, 3) := by decide +kernel
theorem d_Reckoner_choose_24 : decode b_Reckoner_choose 24 = .ok (.iconst 1, 1) := by decide +kernel
theorem d_Reckoner_choose_25 : decode b_Reckoner_choose 25 = .ok (.isub, 1) := by decide +kernel
theorem d_Reckoner_choose_26 : decode b_Reckoner_choose 26 = .ok (.istore_n 1, 1) := by decide +kernel
theorem d_Reckoner_choose_27 : decode b_Reckoner_choose 27 = .ok (.aload_n 0, 1) := by decide +kernel
theorem d_Reckoner_choose_28 : decode b_Reckoner_choose 28 = .ok (.getfield 9, 3) := by decide +kernel
theorem d_Reckoner_choose_31 : decode b_Reckoner_choose 31 = .ok (.iload_n 1, 1) := by decide +kernel
theorem d_Reckoner_choose_32 : decode b_Reckoner_choose 32 = .ok (.aload_n 0, 1) := by decide +kernel
theorem d_Reckoner_choose_33 : decode b_Reckoner_choose 33 = .ok (.getfield 9, 3) := by decide +kernel
theorem d_Reckoner_choose_36 : decode b_Reckoner_choose 36 = .ok (.iload_n 1, 1) := by decide +kernel
theorem d_Reckoner_choose_37 : decode b_Reckoner_choose 37 = .ok (.laload, 1) := by decide +kernel
theorem d_Reckoner_choose_38 : decode b_Reckoner_choose 38 = .ok (.lconst 0, 1) := by decide +kernel
theorem d_Reckoner_choose_39 : decode b_Reckoner_choose 39 = .ok (.lcmp, 1) := by decide +kernel
theorem d_Reckoner_choose_40 : decode b_Reckoner_choose 40 = .ok (.ifCond .eq 14, 3) := by decide +kernel
theorem d_Reckoner_choose_43 : decode b_Reckoner_choose 43 = .ok (.aload_n 0, 1) := by decide +kernel
theorem d_Reckoner_choose_44 : decode b_Reckoner_choose 44 = .ok (.getfield 9, 3) := by decide +kernel
theorem d_Reckoner_choose_47 : decode b_Reckoner_choose 47 = .ok (.iload_n 1, 1) := by decide +kernel
theorem d_Reckoner_choose_48 : decode b_Reckoner_choose 48 = .ok (.iconst 1, 1) := by decide +kernel
theorem d_Reckoner_choose_49 : decode b_Reckoner_choose 49 = .ok (.iadd, 1) := by decide +kernel
theorem d_Reckoner_choose_50 : decode b_Reckoner_choose 50 = .ok (.laload, 1) := by decide +kernel
theorem d_Reckoner_choose_51 : decode b_Reckoner_choose 51 = .ok (.goto 11, 3) := by decide +kernel
theorem d_Reckoner_choose_54 : decode b_Reckoner_choose 54 = .ok (.aload_n 0, 1) := by decide +kernel
theorem d_Reckoner_choose_55 : decode b_Reckoner_choose 55 = .ok (.getfield 9, 3) := by decide +kernel
theorem d_Reckoner_choose_58 : decode b_Reckoner_choose 58 = .ok (.iload_n 1, 1) := by decide +kernel
theorem d_Reckoner_choose_59 : decode b_Reckoner_choose 59 = .ok (.iconst 2, 1) := by decide +kernel
theorem d_Reckoner_choose_60 : decode b_Reckoner_choose 60 = .ok (.iadd, 1) := by decide +kernel
theorem d_Reckoner_choose_61 : decode b_Reckoner_choose 61 = .ok (.laload, 1) := by decide +kernel
theorem d_Reckoner_choose_62 : decode b_Reckoner_choose 62 = .ok (.lastore, 1) := by decide +kernel
theorem d_Reckoner_choose_63 : decode b_Reckoner_choose 63 = .ok (.aload_n 0, 1) := by decide +kernel
theorem d_Reckoner_choose_64 : decode b_Reckoner_choose 64 = .ok (.getfield 13, 3) := by decide +kernel
theorem d_Reckoner_choose_67 : decode b_Reckoner_choose 67 = .ok (.iload_n 1, 1) := by decide +kernel
theorem d_Reckoner_choose_68 : decode b_Reckoner_choose 68 = .ok (.aload_n 0, 1) := by decide +kernel
theorem d_Reckoner_choose_69 : decode b_Reckoner_choose 69 = .ok (.getfield 13, 3) := by decide +kernel
theorem d_Reckoner_choose_72 : decode b_Reckoner_choose 72 = .ok (.iload_n 1, 1) := by decide +kernel
theorem d_Reckoner_choose_73 : decode b_Reckoner_choose 73 = .ok (.iconst 1, 1) := by decide +kernel
theorem d_Reckoner_choose_74 : decode b_Reckoner_choose 74 = .ok (.iadd, 1) := by decide +kernel
theorem d_Reckoner_choose_75 : decode b_Reckoner_choose 75 = .ok (.baload, 1) := by decide +kernel
theorem d_Reckoner_choose_76 : decode b_Reckoner_choose 76 = .ok (.ifCond .ne 14, 3) := by decide +kernel
theorem d_Reckoner_choose_79 : decode b_Reckoner_choose 79 = .ok (.aload_n 0, 1) := by decide +kernel
theorem d_Reckoner_choose_80 : decode b_Reckoner_choose 80 = .ok (.getfield 13, 3) := by decide +kernel
theorem d_Reckoner_choose_83 : decode b_Reckoner_choose 83 = .ok (.iload_n 1, 1) := by decide +kernel
theorem d_Reckoner_choose_84 : decode b_Reckoner_choose 84 = .ok (.iconst 2, 1) := by decide +kernel
theorem d_Reckoner_choose_85 : decode b_Reckoner_choose 85 = .ok (.iadd, 1) := by decide +kernel
theorem d_Reckoner_choose_86 : decode b_Reckoner_choose 86 = .ok (.baload, 1) := by decide +kernel
theorem d_Reckoner_choose_87 : decode b_Reckoner_choose 87 = .ok (.ifCond .eq 7, 3) := by decide +kernel
theorem d_Reckoner_choose_90 : decode b_Reckoner_choose 90 = .ok (.iconst 1, 1) := by decide +kernel
theorem d_Reckoner_choose_91 : decode b_Reckoner_choose 91 = .ok (.goto 4, 3) := by decide +kernel
theorem d_Reckoner_choose_94 : decode b_Reckoner_choose 94 = .ok (.iconst 0, 1) := by decide +kernel
theorem d_Reckoner_choose_95 : decode b_Reckoner_choose 95 = .ok (.bastore, 1) := by decide +kernel
theorem d_Reckoner_choose_96 : decode b_Reckoner_choose 96 = .ok (.return_, 1) := by decide +kernel
theorem d_Reckoner_divide_0 : decode b_Reckoner_divide 0 = .ok (.lload_n 3, 1) := by decide +kernel
theorem d_Reckoner_divide_1 : decode b_Reckoner_divide 1 = .ok (.lconst 0, 1) := by decide +kernel
theorem d_Reckoner_divide_2 : decode b_Reckoner_divide 2 = .ok (.lcmp, 1) := by decide +kernel
theorem d_Reckoner_divide_3 : decode b_Reckoner_divide 3 = .ok (.ifCond .ne 28, 3) := by decide +kernel
theorem d_Reckoner_divide_6 : decode b_Reckoner_divide 6 = .ok (.aload_n 0, 1) := by decide +kernel
theorem d_Reckoner_divide_7 : decode b_Reckoner_divide 7 = .ok (.aload_n 0, 1) := by decide +kernel
theorem d_Reckoner_divide_8 : decode b_Reckoner_divide 8 = .ok (.getfield 50, 3) := by decide +kernel
theorem d_Reckoner_divide_11 : decode b_Reckoner_divide 11 = .ok (.ifCond .ne 10, 3) := by decide +kernel
theorem d_Reckoner_divide_14 : decode b_Reckoner_divide 14 = .ok (.aload_n 0, 1) := by decide +kernel
theorem d_Reckoner_divide_15 : decode b_Reckoner_divide 15 = .ok (.getfield 44, 3) := by decide +kernel
theorem d_Reckoner_divide_18 : decode b_Reckoner_divide 18 = .ok (.ifCond .ne 7, 3) := by decide +kernel
theorem d_Reckoner_divide_21 : decode b_Reckoner_divide 21 = .ok (.iconst 1, 1) := by decide +kernel
theorem d_Reckoner_divide_22 : decode b_Reckoner_divide 22 = .ok (.goto 4, 3) := by decide +kernel
theorem d_Reckoner_divide_25 : decode b_Reckoner_divide 25 = .ok (.iconst 0, 1) := by decide +kernel
theorem d_Reckoner_divide_26 : decode b_Reckoner_divide 26 = .ok (.putfield 50, 3) := by decide +kernel
theorem d_Reckoner_divide_29 : decode b_Reckoner_divide 29 = .ok (.lconst 0, 1) := by decide +kernel
theorem d_Reckoner_divide_30 : decode b_Reckoner_divide 30 = .ok (.lreturn, 1) := by decide +kernel
theorem d_Reckoner_divide_31 : decode b_Reckoner_divide 31 = .ok (.lload_n 1, 1) := by decide +kernel
theorem d_Reckoner_divide_32 : decode b_Reckoner_divide 32 = .ok (.lload_n 3, 1) := by decide +kernel
theorem d_Reckoner_divide_33 : decode b_Reckoner_divide 33 = .ok (.ldiv, 1) := by decide +kernel
theorem d_Reckoner_divide_34 : decode b_Reckoner_divide 34 = .ok (.lstore 7, 2) := by decide +kernel
theorem d_Reckoner_divide_36 : decode b_Reckoner_divide 36 = .ok (.iload 5, 2) := by decide +kernel
theorem d_Reckoner_divide_38 : decode b_Reckoner_divide 38 = .ok (.ifCond .eq 33, 3) := by decide +kernel
theorem d_Reckoner_divide_41 : decode b_Reckoner_divide 41 = .ok (.lload_n 3, 1) := by decide +kernel
theorem d_Reckoner_divide_42 : decode b_Reckoner_divide 42 = .ok (.lconst 0, 1) := by decide +kernel
theorem d_Reckoner_divide_43 : decode b_Reckoner_divide 43 = .ok (.lcmp, 1) := by decide +kernel
theorem d_Reckoner_divide_44 : decode b_Reckoner_divide 44 = .ok (.ifCond .ge 27, 3) := by decide +kernel
theorem d_Reckoner_divide_47 : decode b_Reckoner_divide 47 = .ok (.lload_n 1, 1) := by decide +kernel
theorem d_Reckoner_divide_48 : decode b_Reckoner_divide 48 = .ok (.ldc2_w 103, 3) := by decide +kernel
theorem d_Reckoner_divide_51 : decode b_Reckoner_divide 51 = .ok (.lxor, 1) := by decide +kernel
theorem d_Reckoner_divide_52 : decode b_Reckoner_divide 52 = .ok (.lload_n 3, 1) := by decide +kernel
theorem d_Reckoner_divide_53 : decode b_Reckoner_divide 53 = .ok (.ldc2_w 103, 3) := by decide +kernel
theorem d_Reckoner_divide_56 : decode b_Reckoner_divide 56 = .ok (.lxor, 1) := by decide +kernel
theorem d_Reckoner_divide_57 : decode b_Reckoner_divide 57 = .ok (.lcmp, 1) := by decide +kernel
theorem d_Reckoner_divide_58 : decode b_Reckoner_divide 58 = .ok (.ifCond .lt 7, 3) := by decide +kernel
theorem d_Reckoner_divide_61 : decode b_Reckoner_divide 61 = .ok (.lconst 1, 1) := by decide +kernel
theorem d_Reckoner_divide_62 : decode b_Reckoner_divide 62 = .ok (.goto 4, 3) := by decide +kernel
theorem d_Reckoner_divide_65 : decode b_Reckoner_divide 65 = .ok (.lconst 0, 1) := by decide +kernel
theorem d_Reckoner_divide_66 : decode b_Reckoner_divide 66 = .ok (.lstore 7, 2) := by decide +kernel
theorem d_Reckoner_divide_68 : decode b_Reckoner_divide 68 = .ok (.goto 48, 3) := by decide +kernel
theorem d_Reckoner_divide_71 : decode b_Reckoner_divide 71 = .ok (.iload 5, 2) := by decide +kernel
theorem d_Reckoner_divide_73 : decode b_Reckoner_divide 73 = .ok (.ifCond .eq 43, 3) := by decide +kernel
theorem d_Reckoner_divide_76 : decode b_Reckoner_divide 76 = .ok (.lload_n 1, 1) := by decide +kernel
theorem d_Reckoner_divide_77 : decode b_Reckoner_divide 77 = .ok (.lconst 0, 1) := by decide +kernel
theorem d_Reckoner_divide_78 : decode b_Reckoner_divide 78 = .ok (.lcmp, 1) := by decide +kernel
theorem d_Reckoner_divide_79 : decode b_Reckoner_divide 79 = .ok (.ifCond .ge 37, 3) := by decide +kernel
theorem d_Reckoner_divide_82 : decode b_Reckoner_divide 82 = .ok (.lload_n 1, 1) := by decide +kernel
theorem d_Reckoner_divide_83 : decode b_Reckoner_divide 83 = .ok (.iconst 1, 1) := by decide +kernel
theorem d_Reckoner_divide_84 : decode b_Reckoner_divide 84 = .ok (.lushr, 1) := by decide +kernel
theorem d_Reckoner_divide_85 : decode b_Reckoner_divide 85 = .ok (.lload_n 3, 1) := by decide +kernel
theorem d_Reckoner_divide_86 : decode b_Reckoner_divide 86 = .ok (.ldiv, 1) := by decide +kernel
theorem d_Reckoner_divide_87 : decode b_Reckoner_divide 87 = .ok (.iconst 1, 1) := by decide +kernel
theorem d_Reckoner_divide_88 : decode b_Reckoner_divide 88 = .ok (.lshl, 1) := by decide +kernel
theorem d_Reckoner_divide_89 : decode b_Reckoner_divide 89 = .ok (.lstore 7, 2) := by decide +kernel
theorem d_Reckoner_divide_91 : decode b_Reckoner_divide 91 = .ok (.lload_n 1, 1) := by decide +kernel
theorem d_Reckoner_divide_92 : decode b_Reckoner_divide 92 = .ok (.lload 7, 2) := by decide +kernel
theorem d_Reckoner_divide_94 : decode b_Reckoner_divide 94 = .ok (.lload_n 3, 1) := by decide +kernel
theorem d_Reckoner_divide_95 : decode b_Reckoner_divide 95 = .ok (.lmul, 1) := by decide +kernel
theorem d_Reckoner_divide_96 : decode b_Reckoner_divide 96 = .ok (.lsub, 1) := by decide +kernel
theorem d_Reckoner_divide_97 : decode b_Reckoner_divide 97 = .ok (.ldc2_w 103, 3) := by decide +kernel
theorem d_Reckoner_divide_100 : decode b_Reckoner_divide 100 = .ok (.lxor, 1) := by decide +kernel
theorem d_Reckoner_divide_101 : decode b_Reckoner_divide 101 = .ok (.lload_n 3, 1) := by decide +kernel
theorem d_Reckoner_divide_102 : decode b_Reckoner_divide 102 = .ok (.ldc2_w 103, 3) := by decide +kernel
theorem d_Reckoner_divide_105 : decode b_Reckoner_divide 105 = .ok (.lxor, 1) := by decide +kernel
theorem d_Reckoner_divide_106 : decode b_Reckoner_divide 106 = .ok (.lcmp, 1) := by decide +kernel
theorem d_Reckoner_divide_107 : decode b_Reckoner_divide 107 = .ok (.ifCond .lt 9, 3) := by decide +kernel
theorem d_Reckoner_divide_110 : decode b_Reckoner_divide 110 = .ok (.lload 7, 2) := by decide +kernel
theorem d_Reckoner_divide_112 : decode b_Reckoner_divide 112 = .ok (.lconst 1, 1) := by decide +kernel
theorem d_Reckoner_divide_113 : decode b_Reckoner_divide 113 = .ok (.ladd, 1) := by decide +kernel
theorem d_Reckoner_divide_114 : decode b_Reckoner_divide 114 = .ok (.lstore 7, 2) := by decide +kernel
theorem d_Reckoner_divide_116 : decode b_Reckoner_divide 116 = .ok (.iload 6, 2) := by decide +kernel
theorem d_Reckoner_divide_118 : decode b_Reckoner_divide 118 = .ok (.ifCond .eq 12, 3) := by decide +kernel
theorem d_Reckoner_divide_121 : decode b_Reckoner_divide 121 = .ok (.lload_n 1, 1) := by decide +kernel
theorem d_Reckoner_divide_122 : decode b_Reckoner_divide 122 = .ok (.lload 7, 2) := by decide +kernel
theorem d_Reckoner_divide_124 : decode b_Reckoner_divide 124 = .ok (.lload_n 3, 1) := by decide +kernel
theorem d_Reckoner_divide_125 : decode b_Reckoner_divide 125 = .ok (.lmul, 1) := by decide +kernel
theorem d_Reckoner_divide_126 : decode b_Reckoner_divide 126 = .ok (.lsub, 1) := by decide +kernel
theorem d_Reckoner_divide_127 : decode b_Reckoner_divide 127 = .ok (.goto 5, 3) := by decide +kernel
theorem d_Reckoner_divide_130 : decode b_Reckoner_divide 130 = .ok (.lload 7, 2) := by decide +kernel
theorem d_Reckoner_divide_132 : decode b_Reckoner_divide 132 = .ok (.lreturn, 1) := by decide +kernel
theorem d_Reckoner_hasDividedByZero_0 : decode b_Reckoner_hasDividedByZero 0 = .ok (.aload_n 0, 1) := by decide +kernel
theorem d_Reckoner_hasDividedByZero_1 : decode b_Reckoner_hasDividedByZero 1 = .ok (.getfield 50, 3) := by decide +kernel
theorem d_Reckoner_hasDividedByZero_4 : decode b_Reckoner_hasDividedByZero 4 = .ok (.ireturn, 1) := by decide +kernel
theorem d_Reckoner_isTop_0 : decode b_Reckoner_isTop 0 = .ok (.aload_n 0, 1) := by decide +kernel
theorem d_Reckoner_isTop_1 : decode b_Reckoner_isTop 1 = .ok (.getfield 35, 3) := by decide +kernel
theorem d_Reckoner_isTop_4 : decode b_Reckoner_isTop 4 = .ok (.ifCond .le 22, 3) := by decide +kernel
theorem d_Reckoner_isTop_7 : decode b_Reckoner_isTop 7 = .ok (.aload_n 0, 1) := by decide +kernel
theorem d_Reckoner_isTop_8 : decode b_Reckoner_isTop 8 = .ok (.getfield 21, 3) := by decide +kernel
theorem d_Reckoner_isTop_11 : decode b_Reckoner_isTop 11 = .ok (.aload_n 0, 1) := by decide +kernel
theorem d_Reckoner_isTop_12 : decode b_Reckoner_isTop 12 = .ok (.getfield 35, 3) := by decide +kernel
theorem d_Reckoner_isTop_15 : decode b_Reckoner_isTop 15 = .ok (.iconst 1, 1) := by decide +kernel
theorem d_Reckoner_isTop_16 : decode b_Reckoner_isTop 16 = .ok (.isub, 1) := by decide +kernel
theorem d_Reckoner_isTop_17 : decode b_Reckoner_isTop 17 = .ok (.iaload, 1) := by decide +kernel
theorem d_Reckoner_isTop_18 : decode b_Reckoner_isTop 18 = .ok (.iload_n 1, 1) := by decide +kernel
theorem d_Reckoner_isTop_19 : decode b_Reckoner_isTop 19 = .ok (.if_icmp .ne 7, 3) := by decide +kernel
theorem d_Reckoner_isTop_22 : decode b_Reckoner_isTop 22 = .ok (.iconst 1, 1) := by decide +kernel
theorem d_Reckoner_isTop_23 : decode b_Reckoner_isTop 23 = .ok (.goto 4, 3) := by decide +kernel
theorem d_Reckoner_isTop_26 : decode b_Reckoner_isTop 26 = .ok (.iconst 0, 1) := by decide +kernel
theorem d_Reckoner_isTop_27 : decode b_Reckoner_isTop 27 = .ok (.ireturn, 1) := by decide +kernel
theorem d_Reckoner_push_0 : decode b_Reckoner_push 0 = .ok (.iload_n 2, 1) := by decide +kernel
theorem d_Reckoner_push_1 : decode b_Reckoner_push 1 = .ok (.ifCond .eq 14, 3) := by decide +kernel
theorem d_Reckoner_push_4 : decode b_Reckoner_push 4 = .ok (.iload_n 2, 1) := by decide +kernel
theorem d_Reckoner_push_5 : decode b_Reckoner_push 5 = .ok (.iconst 1, 1) := by decide +kernel
theorem d_Reckoner_push_6 : decode b_Reckoner_push 6 = .ok (.if_icmp .eq 9, 3) := by decide +kernel
theorem d_Reckoner_push_9 : decode b_Reckoner_push 9 = .ok (.iload_n 2, 1) := by decide +kernel
theorem d_Reckoner_push_10 : decode b_Reckoner_push 10 = .ok (.bipush 20, 2) := by decide +kernel
theorem d_Reckoner_push_12 : decode b_Reckoner_push 12 = .ok (.if_icmp .ne 13, 3) := by decide +kernel
theorem d_Reckoner_push_15 : decode b_Reckoner_push 15 = .ok (.aload_n 0, 1) := by decide +kernel
theorem d_Reckoner_push_16 : decode b_Reckoner_push 16 = .ok (.dup, 1) := by decide +kernel
theorem d_Reckoner_push_17 : decode b_Reckoner_push 17 = .ok (.getfield 38, 3) := by decide +kernel
theorem d_Reckoner_push_20 : decode b_Reckoner_push 20 = .ok (.iconst 1, 1) := by decide +kernel
theorem d_Reckoner_push_21 : decode b_Reckoner_push 21 = .ok (.iadd, 1) := by decide +kernel
theorem d_Reckoner_push_22 : decode b_Reckoner_push 22 = .ok (.putfield 38, 3) := by decide +kernel
theorem d_Reckoner_push_25 : decode b_Reckoner_push 25 = .ok (.aload_n 0, 1) := by decide +kernel
theorem d_Reckoner_push_26 : decode b_Reckoner_push 26 = .ok (.getfield 35, 3) := by decide +kernel
theorem d_Reckoner_push_29 : decode b_Reckoner_push 29 = .ok (.sipush 1000, 3) := by decide +kernel
theorem d_Reckoner_push_32 : decode b_Reckoner_push 32 = .ok (.if_icmp .ge 24, 3) := by decide +kernel
theorem d_Reckoner_push_35 : decode b_Reckoner_push 35 = .ok (.aload_n 0, 1) := by decide +kernel
theorem d_Reckoner_push_36 : decode b_Reckoner_push 36 = .ok (.getfield 38, 3) := by decide +kernel
theorem d_Reckoner_push_39 : decode b_Reckoner_push 39 = .ok (.aload_n 0, 1) := by decide +kernel
theorem d_Reckoner_push_40 : decode b_Reckoner_push 40 = .ok (.getfield 27, 3) := by decide +kernel
theorem d_Reckoner_push_43 : decode b_Reckoner_push 43 = .ok (.ifCond .eq 8, 3) := by decide +kernel
theorem d_Reckoner_push_46 : decode b_Reckoner_push 46 = .ok (.bipush 60, 2) := by decide +kernel
theorem d_Reckoner_push_48 : decode b_Reckoner_push 48 = .ok (.goto 5, 3) := by decide +kernel
theorem d_Reckoner_push_51 : decode b_Reckoner_push 51 = .ok (.bipush 30, 2) := by decide +kernel
theorem d_Reckoner_push_53 : decode b_Reckoner_push 53 = .ok (.if_icmp .le 9, 3) := by decide +kernel
theorem d_Reckoner_push_56 : decode b_Reckoner_push 56 = .ok (.aload_n 0, 1) := by decide +kernel
theorem d_Reckoner_push_57 : decode b_Reckoner_push 57 = .ok (.iconst 1, 1) := by decide +kernel
theorem d_Reckoner_push_58 : decode b_Reckoner_push 58 = .ok (.putfield 47, 3) := by decide +kernel
theorem d_Reckoner_push_61 : decode b_Reckoner_push 61 = .ok (.return_, 1) := by decide +kernel
theorem d_Reckoner_push_62 : decode b_Reckoner_push 62 = .ok (.aload_n 0, 1) := by decide +kernel
theorem d_Reckoner_push_63 : decode b_Reckoner_push 63 = .ok (.getfield 17, 3) := by decide +kernel
theorem d_Reckoner_push_66 : decode b_Reckoner_push 66 = .ok (.aload_n 0, 1) := by decide +kernel
theorem d_Reckoner_push_67 : decode b_Reckoner_push 67 = .ok (.getfield 35, 3) := by decide +kernel
theorem d_Reckoner_push_70 : decode b_Reckoner_push 70 = .ok (.iload_n 1, 1) := by decide +kernel
theorem d_Reckoner_push_71 : decode b_Reckoner_push 71 = .ok (.iastore, 1) := by decide +kernel
theorem d_Reckoner_push_72 : decode b_Reckoner_push 72 = .ok (.aload_n 0, 1) := by decide +kernel
theorem d_Reckoner_push_73 : decode b_Reckoner_push 73 = .ok (.getfield 21, 3) := by decide +kernel
theorem d_Reckoner_push_76 : decode b_Reckoner_push 76 = .ok (.aload_n 0, 1) := by decide +kernel
theorem d_Reckoner_push_77 : decode b_Reckoner_push 77 = .ok (.getfield 35, 3) := by decide +kernel
theorem d_Reckoner_push_80 : decode b_Reckoner_push 80 = .ok (.iload_n 2, 1) := by decide +kernel
theorem d_Reckoner_push_81 : decode b_Reckoner_push 81 = .ok (.iastore, 1) := by decide +kernel
theorem d_Reckoner_push_82 : decode b_Reckoner_push 82 = .ok (.aload_n 0, 1) := by decide +kernel
theorem d_Reckoner_push_83 : decode b_Reckoner_push 83 = .ok (.getfield 24, 3) := by decide +kernel
theorem d_Reckoner_push_86 : decode b_Reckoner_push 86 = .ok (.aload_n 0, 1) := by decide +kernel
theorem d_Reckoner_push_87 : decode b_Reckoner_push 87 = .ok (.getfield 35, 3) := by decide +kernel
theorem d_Reckoner_push_90 : decode b_Reckoner_push 90 = .ok (.aload_n 0, 1) := by decide +kernel
theorem d_Reckoner_push_91 : decode b_Reckoner_push 91 = .ok (.getfield 44, 3) := by decide +kernel
theorem d_Reckoner_push_94 : decode b_Reckoner_push 94 = .ok (.bastore, 1) := by decide +kernel
theorem d_Reckoner_push_95 : decode b_Reckoner_push 95 = .ok (.aload_n 0, 1) := by decide +kernel
theorem d_Reckoner_push_96 : decode b_Reckoner_push 96 = .ok (.dup, 1) := by decide +kernel
theorem d_Reckoner_push_97 : decode b_Reckoner_push 97 = .ok (.getfield 35, 3) := by decide +kernel
theorem d_Reckoner_push_100 : decode b_Reckoner_push 100 = .ok (.iconst 1, 1) := by decide +kernel
theorem d_Reckoner_push_101 : decode b_Reckoner_push 101 = .ok (.iadd, 1) := by decide +kernel
theorem d_Reckoner_push_102 : decode b_Reckoner_push 102 = .ok (.putfield 35, 3) := by decide +kernel
theorem d_Reckoner_push_105 : decode b_Reckoner_push 105 = .ok (.aload_n 0, 1) := by decide +kernel
theorem d_Reckoner_push_106 : decode b_Reckoner_push 106 = .ok (.iconst 1, 1) := by decide +kernel
theorem d_Reckoner_push_107 : decode b_Reckoner_push 107 = .ok (.putfield 41, 3) := by decide +kernel
theorem d_Reckoner_push_110 : decode b_Reckoner_push 110 = .ok (.return_, 1) := by decide +kernel
theorem d_Reckoner_spoil_0 : decode b_Reckoner_spoil 0 = .ok (.aload_n 0, 1) := by decide +kernel
theorem d_Reckoner_spoil_1 : decode b_Reckoner_spoil 1 = .ok (.iconst 1, 1) := by decide +kernel
theorem d_Reckoner_spoil_2 : decode b_Reckoner_spoil 2 = .ok (.putfield 47, 3) := by decide +kernel
theorem d_Reckoner_spoil_5 : decode b_Reckoner_spoil 5 = .ok (.return_, 1) := by decide +kernel
theorem d_Reckoner_takeColon_0 : decode b_Reckoner_takeColon 0 = .ok (.aload_n 0, 1) := by decide +kernel
theorem d_Reckoner_takeColon_1 : decode b_Reckoner_takeColon 1 = .ok (.iconst 1, 1) := by decide +kernel
theorem d_Reckoner_takeColon_2 : decode b_Reckoner_takeColon 2 = .ok (.invokevirtual 86, 3) := by decide +kernel
theorem d_Reckoner_takeColon_5 : decode b_Reckoner_takeColon 5 = .ok (.ifCond .ne 9, 3) := by decide +kernel
theorem d_Reckoner_takeColon_8 : decode b_Reckoner_takeColon 8 = .ok (.aload_n 0, 1) := by decide +kernel
theorem d_Reckoner_takeColon_9 : decode b_Reckoner_takeColon 9 = .ok (.iconst 1, 1) := by decide +kernel
theorem d_Reckoner_takeColon_10 : decode b_Reckoner_takeColon 10 = .ok (.putfield 47, 3) := by decide +kernel
theorem d_Reckoner_takeColon_13 : decode b_Reckoner_takeColon 13 = .ok (.return_, 1) := by decide +kernel
theorem d_Reckoner_takeColon_14 : decode b_Reckoner_takeColon 14 = .ok (.aload_n 0, 1) := by decide +kernel
theorem d_Reckoner_takeColon_15 : decode b_Reckoner_takeColon 15 = .ok (.getfield 21, 3) := by decide +kernel
theorem d_Reckoner_takeColon_18 : decode b_Reckoner_takeColon 18 = .ok (.aload_n 0, 1) := by decide +kernel
theorem d_Reckoner_takeColon_19 : decode b_Reckoner_takeColon 19 = .ok (.getfield 35, 3) := by decide +kernel
theorem d_Reckoner_takeColon_22 : decode b_Reckoner_takeColon 22 = .ok (.iconst 1, 1) := by decide +kernel
theorem d_Reckoner_takeColon_23 : decode b_Reckoner_takeColon 23 = .ok (.isub, 1) := by decide +kernel
theorem d_Reckoner_takeColon_24 : decode b_Reckoner_takeColon 24 = .ok (.iconst 2, 1) := by decide +kernel
theorem d_Reckoner_takeColon_25 : decode b_Reckoner_takeColon 25 = .ok (.iastore, 1) := by decide +kernel
theorem d_Reckoner_takeColon_26 : decode b_Reckoner_takeColon 26 = .ok (.aload_n 0, 1) := by decide +kernel
theorem d_Reckoner_takeColon_27 : decode b_Reckoner_takeColon 27 = .ok (.aload_n 0, 1) := by decide +kernel
theorem d_Reckoner_takeColon_28 : decode b_Reckoner_takeColon 28 = .ok (.getfield 24, 3) := by decide +kernel
theorem d_Reckoner_takeColon_31 : decode b_Reckoner_takeColon 31 = .ok (.aload_n 0, 1) := by decide +kernel
theorem d_Reckoner_takeColon_32 : decode b_Reckoner_takeColon 32 = .ok (.getfield 35, 3) := by decide +kernel
theorem d_Reckoner_takeColon_35 : decode b_Reckoner_takeColon 35 = .ok (.iconst 1, 1) := by decide +kernel
theorem d_Reckoner_takeColon_36 : decode b_Reckoner_takeColon 36 = .ok (.isub, 1) := by decide +kernel
theorem d_Reckoner_takeColon_37 : decode b_Reckoner_takeColon 37 = .ok (.baload, 1) := by decide +kernel
theorem d_Reckoner_takeColon_38 : decode b_Reckoner_takeColon 38 = .ok (.ifCond .ne 19, 3) := by decide +kernel
theorem d_Reckoner_takeColon_41 : decode b_Reckoner_takeColon 41 = .ok (.aload_n 0, 1) := by decide +kernel
theorem d_Reckoner_takeColon_42 : decode b_Reckoner_takeColon 42 = .ok (.getfield 9, 3) := by decide +kernel
theorem d_Reckoner_takeColon_45 : decode b_Reckoner_takeColon 45 = .ok (.aload_n 0, 1) := by decide +kernel
theorem d_Reckoner_takeColon_46 : decode b_Reckoner_takeColon 46 = .ok (.getfield 31, 3) := by decide +kernel
theorem d_Reckoner_takeColon_49 : decode b_Reckoner_takeColon 49 = .ok (.iconst 2, 1) := by decide +kernel
theorem d_Reckoner_takeColon_50 : decode b_Reckoner_takeColon 50 = .ok (.isub, 1) := by decide +kernel
theorem d_Reckoner_takeColon_51 : decode b_Reckoner_takeColon 51 = .ok (.laload, 1) := by decide +kernel
theorem d_Reckoner_takeColon_52 : decode b_Reckoner_takeColon 52 = .ok (.lconst 0, 1) := by decide +kernel
theorem d_Reckoner_takeColon_53 : decode b_Reckoner_takeColon 53 = .ok (.lcmp, 1) := by decide +kernel
theorem d_Reckoner_takeColon_54 : decode b_Reckoner_takeColon 54 = .ok (.ifCond .eq 7, 3) := by decide +kernel
theorem d_Reckoner_takeColon_57 : decode b_Reckoner_takeColon 57 = .ok (.iconst 1, 1) := by decide +kernel
theorem d_Reckoner_takeColon_58 : decode b_Reckoner_takeColon 58 = .ok (.goto 4, 3) := by decide +kernel
theorem d_Reckoner_takeColon_61 : decode b_Reckoner_takeColon 61 = .ok (.iconst 0, 1) := by decide +kernel
theorem d_Reckoner_takeColon_62 : decode b_Reckoner_takeColon 62 = .ok (.putfield 44, 3) := by decide +kernel
theorem d_Reckoner_takeColon_65 : decode b_Reckoner_takeColon 65 = .ok (.aload_n 0, 1) := by decide +kernel
theorem d_Reckoner_takeColon_66 : decode b_Reckoner_takeColon 66 = .ok (.iconst 1, 1) := by decide +kernel
theorem d_Reckoner_takeColon_67 : decode b_Reckoner_takeColon 67 = .ok (.putfield 41, 3) := by decide +kernel
theorem d_Reckoner_takeColon_70 : decode b_Reckoner_takeColon 70 = .ok (.return_, 1) := by decide +kernel
theorem d_Reckoner_takeSignInFront_0 : decode b_Reckoner_takeSignInFront 0 = .ok (.iload_n 1, 1) := by decide +kernel
theorem d_Reckoner_takeSignInFront_1 : decode b_Reckoner_takeSignInFront 1 = .ok (.bipush 40, 2) := by decide +kernel
theorem d_Reckoner_takeSignInFront_3 : decode b_Reckoner_takeSignInFront 3 = .ok (.if_icmp .ne 12, 3) := by decide +kernel
theorem d_Reckoner_takeSignInFront_6 : decode b_Reckoner_takeSignInFront 6 = .ok (.aload_n 0, 1) := by decide +kernel
theorem d_Reckoner_takeSignInFront_7 : decode b_Reckoner_takeSignInFront 7 = .ok (.iload_n 1, 1) := by decide +kernel
theorem d_Reckoner_takeSignInFront_8 : decode b_Reckoner_takeSignInFront 8 = .ok (.iconst 0, 1) := by decide +kernel
theorem d_Reckoner_takeSignInFront_9 : decode b_Reckoner_takeSignInFront 9 = .ok (.invokevirtual 79, 3) := by decide +kernel
theorem d_Reckoner_takeSignInFront_12 : decode b_Reckoner_takeSignInFront 12 = .ok (.goto 42, 3) := by decide +kernel
theorem d_Reckoner_takeSignInFront_15 : decode b_Reckoner_takeSignInFront 15 = .ok (.iload_n 1, 1) := by decide +kernel
theorem d_Reckoner_takeSignInFront_16 : decode b_Reckoner_takeSignInFront 16 = .ok (.bipush 43, 2) := by decide +kernel
theorem d_Reckoner_takeSignInFront_18 : decode b_Reckoner_takeSignInFront 18 = .ok (.if_icmp .eq 21, 3) := by decide +kernel
theorem d_Reckoner_takeSignInFront_21 : decode b_Reckoner_takeSignInFront 21 = .ok (.iload_n 1, 1) := by decide +kernel
theorem d_Reckoner_takeSignInFront_22 : decode b_Reckoner_takeSignInFront 22 = .ok (.bipush 45, 2) := by decide +kernel
theorem d_Reckoner_takeSignInFront_24 : decode b_Reckoner_takeSignInFront 24 = .ok (.if_icmp .eq 15, 3) := by decide +kernel
theorem d_Reckoner_takeSignInFront_27 : decode b_Reckoner_takeSignInFront 27 = .ok (.iload_n 1, 1) := by decide +kernel
theorem d_Reckoner_takeSignInFront_28 : decode b_Reckoner_takeSignInFront 28 = .ok (.bipush 126, 2) := by decide +kernel
theorem d_Reckoner_takeSignInFront_30 : decode b_Reckoner_takeSignInFront 30 = .ok (.if_icmp .eq 9, 3) := by decide +kernel
theorem d_Reckoner_takeSignInFront_33 : decode b_Reckoner_takeSignInFront 33 = .ok (.iload_n 1, 1) := by decide +kernel
theorem d_Reckoner_takeSignInFront_34 : decode b_Reckoner_takeSignInFront 34 = .ok (.bipush 33, 2) := by decide +kernel
theorem d_Reckoner_takeSignInFront_36 : decode b_Reckoner_takeSignInFront 36 = .ok (.if_icmp .ne 13, 3) := by decide +kernel
theorem d_Reckoner_takeSignInFront_39 : decode b_Reckoner_takeSignInFront 39 = .ok (.aload_n 0, 1) := by decide +kernel
theorem d_Reckoner_takeSignInFront_40 : decode b_Reckoner_takeSignInFront 40 = .ok (.iload_n 1, 1) := by decide +kernel
theorem d_Reckoner_takeSignInFront_41 : decode b_Reckoner_takeSignInFront 41 = .ok (.bipush 20, 2) := by decide +kernel
theorem d_Reckoner_takeSignInFront_43 : decode b_Reckoner_takeSignInFront 43 = .ok (.invokevirtual 79, 3) := by decide +kernel
theorem d_Reckoner_takeSignInFront_46 : decode b_Reckoner_takeSignInFront 46 = .ok (.goto 8, 3) := by decide +kernel
theorem d_Reckoner_takeSignInFront_49 : decode b_Reckoner_takeSignInFront 49 = .ok (.aload_n 0, 1) := by decide +kernel
theorem d_Reckoner_takeSignInFront_50 : decode b_Reckoner_takeSignInFront 50 = .ok (.iconst 1, 1) := by decide +kernel
theorem d_Reckoner_takeSignInFront_51 : decode b_Reckoner_takeSignInFront 51 = .ok (.putfield 47, 3) := by decide +kernel
theorem d_Reckoner_takeSignInFront_54 : decode b_Reckoner_takeSignInFront 54 = .ok (.return_, 1) := by decide +kernel
theorem d_Reckoner_value_0 : decode b_Reckoner_value 0 = .ok (.aload_n 0, 1) := by decide +kernel
theorem d_Reckoner_value_1 : decode b_Reckoner_value 1 = .ok (.getfield 31, 3) := by decide +kernel
theorem d_Reckoner_value_4 : decode b_Reckoner_value 4 = .ok (.iconst 1, 1) := by decide +kernel
theorem d_Reckoner_value_5 : decode b_Reckoner_value 5 = .ok (.if_icmp .ne 12, 3) := by decide +kernel
theorem d_Reckoner_value_8 : decode b_Reckoner_value 8 = .ok (.aload_n 0, 1) := by decide +kernel
theorem d_Reckoner_value_9 : decode b_Reckoner_value 9 = .ok (.getfield 9, 3) := by decide +kernel
theorem d_Reckoner_value_12 : decode b_Reckoner_value 12 = .ok (.iconst 0, 1) := by decide +kernel
theorem d_Reckoner_value_13 : decode b_Reckoner_value 13 = .ok (.laload, 1) := by decide +kernel
theorem d_Reckoner_value_14 : decode b_Reckoner_value 14 = .ok (.goto 4, 3) := by decide +kernel
theorem d_Reckoner_value_17 : decode b_Reckoner_value 17 = .ok (.lconst 0, 1) := by decide +kernel
theorem d_Reckoner_value_18 : decode b_Reckoner_value 18 = .ok (.lreturn, 1) := by decide +kernel
theorem d_Replacer_append_0 : decode b_Replacer_append 0 = .ok (.aload_n 0, 1) := by decide +kernel
theorem d_Replacer_append_1 : decode b_Replacer_append 1 = .ok (.getfield 44, 3) := by decide +kernel
theorem d_Replacer_append_4 : decode b_Replacer_append 4 = .ok (.lload_n 2, 1) := by decide +kernel
theorem d_Replacer_append_5 : decode b_Replacer_append 5 = .ok (.iload 4, 2) := by decide +kernel
theorem d_Replacer_append_7 : decode b_Replacer_append 7 = .ok (.invokevirtual 238, 3) := by decide +kernel
theorem d_Replacer_append_10 : decode b_Replacer_append 10 = .ok (.istore 5, 2) := by decide +kernel
theorem d_Replacer_append_12 : decode b_Replacer_append 12 = .ok (.iload 5, 2) := by decide +kernel
theorem d_Replacer_append_14 : decode b_Replacer_append 14 = .ok (.ifCond .ge 18, 3) := by decide +kernel
theorem d_Replacer_append_17 : decode b_Replacer_append 17 = .ok (.aload_n 0, 1) := by decide +kernel
theorem d_Replacer_append_18 : decode b_Replacer_append 18 = .ok (.getfield 56, 3) := by decide +kernel
theorem d_Replacer_append_21 : decode b_Replacer_append 21 = .ok (.bipush 21, 2) := by decide +kernel
theorem d_Replacer_append_23 : decode b_Replacer_append 23 = .ok (.iload 4, 2) := by decide +kernel
theorem d_Replacer_append_25 : decode b_Replacer_append 25 = .ok (.invokestatic 220, 3) := by decide +kernel
theorem d_Replacer_append_28 : decode b_Replacer_append 28 = .ok (.invokevirtual 203, 3) := by decide +kernel
theorem d_Replacer_append_31 : decode b_Replacer_append 31 = .ok (.return_, 1) := by decide +kernel
theorem d_Replacer_append_32 : decode b_Replacer_append 32 = .ok (.aload_n 0, 1) := by decide +kernel
theorem d_Replacer_append_33 : decode b_Replacer_append 33 = .ok (.getfield 38, 3) := by decide +kernel
theorem d_Replacer_append_36 : decode b_Replacer_append 36 = .ok (.iload_n 1, 1) := by decide +kernel
theorem d_Replacer_append_37 : decode b_Replacer_append 37 = .ok (.iaload, 1) := by decide +kernel
theorem d_Replacer_append_38 : decode b_Replacer_append 38 = .ok (.iconst (-1), 1) := by decide +kernel
theorem d_Replacer_append_39 : decode b_Replacer_append 39 = .ok (.if_icmp .ne 14, 3) := by decide +kernel
theorem d_Replacer_append_42 : decode b_Replacer_append 42 = .ok (.aload_n 0, 1) := by decide +kernel
theorem d_Replacer_append_43 : decode b_Replacer_append 43 = .ok (.getfield 35, 3) := by decide +kernel
theorem d_Replacer_append_46 : decode b_Replacer_append 46 = .ok (.iload_n 1, 1) := by decide +kernel
theorem d_Replacer_append_47 : decode b_Replacer_append 47 = .ok (.iload 5, 2) := by decide +kernel
theorem d_Replacer_append_49 : decode b_Replacer_append 49 = .ok (.iastore, 1) := by decide +kernel
theorem d_Replacer_append_50 : decode b_Replacer_append 50 = .ok (.goto 19, 3) := by decide +kernel
theorem d_Replacer_append_53 : decode b_Replacer_append 53 = .ok (.aload_n 0, 1) := by decide +kernel
theorem d_Replacer_append_54 : decode b_Replacer_append 54 = .ok (.getfield 44, 3) := by decide +kernel
theorem d_Replacer_append_57 : decode b_Replacer_append 57 = .ok (.getfield 96, 3) := by decide +kernel
theorem d_Replacer_append_60 : decode b_Replacer_append 60 = .ok (.aload_n 0, 1) := by decide +kernel
theorem d_Replacer_append_61 : decode b_Replacer_append 61 = .ok (.getfield 38, 3) := by decide +kernel
theorem d_Replacer_append_64 : decode b_Replacer_append 64 = .ok (.iload_n 1, 1) := by decide +kernel
theorem d_Replacer_append_65 : decode b_Replacer_append 65 = .ok (.iaload, 1) := by decide +kernel
theorem d_Replacer_append_66 : decode b_Replacer_append 66 = .ok (.iload 5, 2) := by decide +kernel
theorem d_Replacer_append_68 : decode b_Replacer_append 68 = .ok (.iastore, 1) := by decide +kernel
theorem d_Replacer_append_69 : decode b_Replacer_append 69 = .ok (.aload_n 0, 1) := by decide +kernel
theorem d_Replacer_append_70 : decode b_Replacer_append 70 = .ok (.getfield 38, 3) := by decide +kernel
theorem d_Replacer_append_73 : decode b_Replacer_append 73 = .ok (.iload_n 1, 1) := by decide +kernel
theorem d_Replacer_append_74 : decode b_Replacer_append 74 = .ok (.iload 5, 2) := by decide +kernel
theorem d_Replacer_append_76 : decode b_Replacer_append 76 = .ok (.iastore, 1) := by decide +kernel
theorem d_Replacer_append_77 : decode b_Replacer_append 77 = .ok (.aload_n 0, 1) := by decide +kernel
theorem d_Replacer_append_78 : decode b_Replacer_append 78 = .ok (.getfield 41, 3) := by decide +kernel
theorem d_Replacer_append_81 : decode b_Replacer_append 81 = .ok (.iload_n 1, 1) := by decide +kernel
theorem d_Replacer_append_82 : decode b_Replacer_append 82 = .ok (.dup2, 1) := by decide +kernel
theorem d_Replacer_append_83 : decode b_Replacer_append 83 = .ok (.iaload, 1) := by decide +kernel
theorem d_Replacer_append_84 : decode b_Replacer_append 84 = .ok (.iconst 1, 1) := by decide +kernel
theorem d_Replacer_append_85 : decode b_Replacer_append 85 = .ok (.iadd, 1) := by decide +kernel
theorem d_Replacer_append_86 : decode b_Replacer_append 86 = .ok (.iastore, 1) := by decide +kernel
theorem d_Replacer_append_87 : decode b_Replacer_append 87 = .ok (.return_, 1) := by decide +kernel
theorem d_Replacer_clearRow_0 : decode b_Replacer_clearRow 0 = .ok (.aload_n 0, 1) := by decide +kernel
theorem d_Replacer_clearRow_1 : decode b_Replacer_clearRow 1 = .ok (.getfield 35, 3) := by decide +kernel
theorem d_Replacer_clearRow_4 : decode b_Replacer_clearRow 4 = .ok (.iload_n 1, 1) := by decide +kernel
theorem d_Replacer_clearRow_5 : decode b_Replacer_clearRow 5 = .ok (.iconst (-1), 1) := by decide +kernel
theorem d_Replacer_clearRow_6 : decode b_Replacer_clearRow 6 = .ok (.iastore, 1) := by decide +kernel
theorem d_Replacer_clearRow_7 : decode b_Replacer_clearRow 7 = .ok (.aload_n 0, 1) := by decide +kernel
theorem d_Replacer_clearRow_8 : decode b_Replacer_clearRow 8 = .ok (.getfield 38, 3) := by decide +kernel
theorem d_Replacer_clearRow_11 : decode b_Replacer_clearRow 11 = .ok (.iload_n 1, 1) := by decide +kernel
theorem d_Replacer_clearRow_12 : decode b_Replacer_clearRow 12 = .ok (.iconst (-1), 1) := by decide +kernel
theorem d_Replacer_clearRow_13 : decode b_Replacer_clearRow 13 = .ok (.iastore, 1) := by decide +kernel
theorem d_Replacer_clearRow_14 : decode b_Replacer_clearRow 14 = .ok (.aload_n 0, 1) := by decide +kernel
theorem d_Replacer_clearRow_15 : decode b_Replacer_clearRow 15 = .ok (.getfield 41, 3) := by decide +kernel
theorem d_Replacer_clearRow_18 : decode b_Replacer_clearRow 18 = .ok (.iload_n 1, 1) := by decide +kernel
theorem d_Replacer_clearRow_19 : decode b_Replacer_clearRow 19 = .ok (.iconst 0, 1) := by decide +kernel
theorem d_Replacer_clearRow_20 : decode b_Replacer_clearRow 20 = .ok (.iastore, 1) := by decide +kernel
theorem d_Replacer_clearRow_21 : decode b_Replacer_clearRow 21 = .ok (.return_, 1) := by decide +kernel
theorem d_Replacer_endArgument_0 : decode b_Replacer_endArgument 0 = .ok (.iload_n 2, 1) := by decide +kernel
theorem d_Replacer_endArgument_1 : decode b_Replacer_endArgument 1 = .ok (.bipush 30, 2) := by decide +kernel
theorem d_Replacer_endArgument_3 : decode b_Replacer_endArgument 3 = .ok (.if_icmp .ge 21, 3) := by decide +kernel
theorem d_Replacer_endArgument_6 : decode b_Replacer_endArgument 6 = .ok (.aload_n 0, 1) := by decide +kernel
theorem d_Replacer_endArgument_7 : decode b_Replacer_endArgument 7 = .ok (.getfield 17, 3) := by decide +kernel
theorem d_Replacer_endArgument_10 : decode b_Replacer_endArgument 10 = .ok (.iload_n 1, 1) := by decide +kernel
theorem d_Replacer_endArgument_11 : decode b_Replacer_endArgument 11 = .ok (.iload_n 2, 1) := by decide +kernel
theorem d_Replacer_endArgument_12 : decode b_Replacer_endArgument 12 = .ok (.iadd, 1) := by decide +kernel
theorem d_Replacer_endArgument_13 : decode b_Replacer_endArgument 13 = .ok (.iload_n 3, 1) := by decide +kernel
theorem d_Replacer_endArgument_14 : decode b_Replacer_endArgument 14 = .ok (.iastore, 1) := by decide +kernel
theorem d_Replacer_endArgument_15 : decode b_Replacer_endArgument 15 = .ok (.aload_n 0, 1) := by decide +kernel
theorem d_Replacer_endArgument_16 : decode b_Replacer_endArgument 16 = .ok (.getfield 26, 3) := by decide +kernel
theorem d_Replacer_endArgument_19 : decode b_Replacer_endArgument 19 = .ok (.iload_n 1, 1) := by decide +kernel
theorem d_Replacer_endArgument_20 : decode b_Replacer_endArgument 20 = .ok (.iload_n 2, 1) := by decide +kernel
theorem d_Replacer_endArgument_21 : decode b_Replacer_endArgument 21 = .ok (.iadd, 1) := by decide +kernel
theorem d_Replacer_endArgument_22 : decode b_Replacer_endArgument 22 = .ok (.iconst (-1), 1) := by decide +kernel
theorem d_Replacer_endArgument_23 : decode b_Replacer_endArgument 23 = .ok (.iastore, 1) := by decide +kernel
theorem d_Replacer_endArgument_24 : decode b_Replacer_endArgument 24 = .ok (.iload_n 2, 1) := by decide +kernel
theorem d_Replacer_endArgument_25 : decode b_Replacer_endArgument 25 = .ok (.iconst 1, 1) := by decide +kernel
theorem d_Replacer_endArgument_26 : decode b_Replacer_endArgument 26 = .ok (.iadd, 1) := by decide +kernel
theorem d_Replacer_endArgument_27 : decode b_Replacer_endArgument 27 = .ok (.bipush 30, 2) := by decide +kernel
theorem d_Replacer_endArgument_29 : decode b_Replacer_endArgument 29 = .ok (.if_icmp .ge 22, 3) := by decide +kernel
theorem d_Replacer_endArgument_32 : decode b_Replacer_endArgument 32 = .ok (.aload_n 0, 1) := by decide +kernel
theorem d_Replacer_endArgument_33 : decode b_Replacer_endArgument 33 = .ok (.getfield 13, 3) := by decide +kernel
theorem d_Replacer_endArgument_36 : decode b_Replacer_endArgument 36 = .ok (.iload_n 1, 1) := by decide +kernel
theorem d_Replacer_endArgument_37 : decode b_Replacer_endArgument 37 = .ok (.iload_n 2, 1) := by decide +kernel
theorem d_Replacer_endArgument_38 : decode b_Replacer_endArgument 38 = .ok (.iadd, 1) := by decide +kernel
theorem d_Replacer_endArgument_39 : decode b_Replacer_endArgument 39 = .ok (.iconst 1, 1) := by decide +kernel
theorem d_Replacer_endArgument_40 : decode b_Replacer_endArgument 40 = .ok (.iadd, 1) := by decide +kernel
theorem d_Replacer_endArgument_41 : decode b_Replacer_endArgument 41 = .ok (.aload_n 0, 1) := by decide +kernel
theorem d_Replacer_endArgument_42 : decode b_Replacer_endArgument 42 = .ok (.getfield 44, 3) := by decide +kernel
theorem d_Replacer_endArgument_45 : decode b_Replacer_endArgument 45 = .ok (.getfield 96, 3) := by decide +kernel
theorem d_Replacer_endArgument_48 : decode b_Replacer_endArgument 48 = .ok (.iload_n 3, 1) := by decide +kernel
theorem d_Replacer_endArgument_49 : decode b_Replacer_endArgument 49 = .ok (.iaload, 1) := by decide +kernel
theorem d_Replacer_endArgument_50 : decode b_Replacer_endArgument 50 = .ok (.iastore, 1) := by decide +kernel
theorem d_Replacer_endArgument_51 : decode b_Replacer_endArgument 51 = .ok (.return_, 1) := by decide +kernel
theorem d_Replacer_hasRoomForKept_0 : decode b_Replacer_hasRoomForKept 0 = .ok (.aload_n 0, 1) := by decide +kernel
theorem d_Replacer_hasRoomForKept_1 : decode b_Replacer_hasRoomForKept 1 = .ok (.getfield 56, 3) := by decide +kernel
theorem d_Replacer_hasRoomForKept_4 : decode b_Replacer_hasRoomForKept 4 = .ok (.getfield 242, 3) := by decide +kernel
theorem d_Replacer_hasRoomForKept_7 : decode b_Replacer_hasRoomForKept 7 = .ok (.aload_n 0, 1) := by decide +kernel
theorem d_Replacer_hasRoomForKept_8 : decode b_Replacer_hasRoomForKept 8 = .ok (.getfield 29, 3) := by decide +kernel
theorem d_Replacer_hasRoomForKept_11 : decode b_Replacer_hasRoomForKept 11 = .ok (.iload_n 1, 1) := by decide +kernel
theorem d_Replacer_hasRoomForKept_12 : decode b_Replacer_hasRoomForKept 12 = .ok (.iaload, 1) := by decide +kernel
theorem d_Replacer_hasRoomForKept_13 : decode b_Replacer_hasRoomForKept 13 = .ok (.iadd, 1) := by decide +kernel
theorem d_Replacer_hasRoomForKept_14 : decode b_Replacer_hasRoomForKept 14 = .ok (.ldc 245, 2) := by decide +kernel
theorem d_Replacer_hasRoomForKept_16 : decode b_Replacer_hasRoomForKept 16 = .ok (.if_icmp .gt 27, 3) := by decide +kernel
theorem d_Replacer_hasRoomForKept_19 : decode b_Replacer_hasRoomForKept 19 = .ok (.aload_n 0, 1) := by decide +kernel
theorem d_Replacer_hasRoomForKept_20 : decode b_Replacer_hasRoomForKept 20 = .ok (.getfield 44, 3) := by decide +kernel
theorem d_Replacer_hasRoomForKept_23 : decode b_Replacer_hasRoomForKept 23 = .ok (.getfield 176, 3) := by decide +kernel
theorem d_Replacer_hasRoomForKept_26 : decode b_Replacer_hasRoomForKept 26 = .ok (.aload_n 0, 1) := by decide +kernel
theorem d_Replacer_hasRoomForKept_27 : decode b_Replacer_hasRoomForKept 27 = .ok (.getfield 32, 3) := by decide +kernel
theorem d_Replacer_hasRoomForKept_30 : decode b_Replacer_hasRoomForKept 30 = .ok (.iload_n 1, 1) := by decide +kernel
theorem d_Replacer_hasRoomForKept_31 : decode b_Replacer_hasRoomForKept 31 = .ok (.iaload, 1) := by decide +kernel
theorem d_Replacer_hasRoomForKept_32 : decode b_Replacer_hasRoomForKept 32 = .ok (.iadd, 1) := by decide +kernel
theorem d_Replacer_hasRoomForKept_33 : decode b_Replacer_hasRoomForKept 33 = .ok (.ldc_w 311, 3) := by decide +kernel
theorem d_Replacer_hasRoomForKept_36 : decode b_Replacer_hasRoomForKept 36 = .ok (.if_icmp .gt 7, 3) := by decide +kernel
theorem d_Replacer_hasRoomForKept_39 : decode b_Replacer_hasRoomForKept 39 = .ok (.iconst 1, 1) := by decide +kernel
theorem d_Replacer_hasRoomForKept_40 : decode b_Replacer_hasRoomForKept 40 = .ok (.goto 4, 3) := by decide +kernel
theorem d_Replacer_hasRoomForKept_43 : decode b_Replacer_hasRoomForKept 43 = .ok (.iconst 0, 1) := by decide +kernel
theorem d_Replacer_hasRoomForKept_44 : decode b_Replacer_hasRoomForKept 44 = .ok (.ireturn, 1) := by decide +kernel
theorem d_Replacer_isEmpty_0 : decode b_Replacer_isEmpty 0 = .ok (.iload_n 1, 1) := by decide +kernel
theorem d_Replacer_isEmpty_1 : decode b_Replacer_isEmpty 1 = .ok (.bipush 30, 2) := by decide +kernel
theorem d_Replacer_isEmpty_3 : decode b_Replacer_isEmpty 3 = .ok (.imul, 1) := by decide +kernel
theorem d_Replacer_isEmpty_4 : decode b_Replacer_isEmpty 4 = .ok (.iload_n 2, 1) := by decide +kernel
theorem d_Replacer_isEmpty_5 : decode b_Replacer_isEmpty 5 = .ok (.iadd, 1) := by decide +kernel
theorem d_Replacer_isEmpty_6 : decode b_Replacer_isEmpty 6 = .ok (.istore_n 3, 1) := by decide +kernel
theorem d_Replacer_isEmpty_7 : decode b_Replacer_isEmpty 7 = .ok (.aload_n 0, 1) := by decide +kernel
theorem d_Replacer_isEmpty_8 : decode b_Replacer_isEmpty 8 = .ok (.getfield 13, 3) := by decide +kernel
theorem d_Replacer_isEmpty_11 : decode b_Replacer_isEmpty 11 = .ok (.iload_n 3, 1) := by decide +kernel
theorem d_Replacer_isEmpty_12 : decode b_Replacer_isEmpty 12 = .ok (.iaload, 1) := by decide +kernel
theorem d_Replacer_isEmpty_13 : decode b_Replacer_isEmpty 13 = .ok (.aload_n 0, 1) := by decide +kernel
theorem d_Replacer_isEmpty_14 : decode b_Replacer_isEmpty 14 = .ok (.getfield 17, 3) := by decide +kernel
theorem d_Replacer_isEmpty_17 : decode b_Replacer_isEmpty 17 = .ok (.iload_n 3, 1) := by decide +kernel
theorem d_Replacer_isEmpty_18 : decode b_Replacer_isEmpty 18 = .ok (.iaload, 1) := by decide +kernel
theorem d_Replacer_isEmpty_19 : decode b_Replacer_isEmpty 19 = .ok (.if_icmp .ne 7, 3) := by decide +kernel
theorem d_Replacer_isEmpty_22 : decode b_Replacer_isEmpty 22 = .ok (.iconst 1, 1) := by decide +kernel
theorem d_Replacer_isEmpty_23 : decode b_Replacer_isEmpty 23 = .ok (.goto 4, 3) := by decide +kernel
theorem d_Replacer_isEmpty_26 : decode b_Replacer_isEmpty 26 = .ok (.iconst 0, 1) := by decide +kernel
theorem d_Replacer_isEmpty_27 : decode b_Replacer_isEmpty 27 = .ok (.ireturn, 1) := by decide +kernel
theorem d_Replacer_isHash_0 : decode b_Replacer_isHash 0 = .ok (.aload_n 0, 1) := by decide +kernel
theorem d_Replacer_isHash_1 : decode b_Replacer_isHash 1 = .ok (.getfield 48, 3) := by decide +kernel
theorem d_Replacer_isHash_4 : decode b_Replacer_isHash 4 = .ok (.getfield 269, 3) := by decide +kernel
theorem d_Replacer_isHash_7 : decode b_Replacer_isHash 7 = .ok (.iload_n 1, 1) := by decide +kernel
theorem d_Replacer_isHash_8 : decode b_Replacer_isHash 8 = .ok (.laload, 1) := by decide +kernel
theorem d_Replacer_isHash_9 : decode b_Replacer_isHash 9 = .ok (.invokestatic 210, 3) := by decide +kernel
theorem d_Replacer_isHash_12 : decode b_Replacer_isHash 12 = .ok (.iconst 1, 1) := by decide +kernel
theorem d_Replacer_isHash_13 : decode b_Replacer_isHash 13 = .ok (.if_icmp .ne 32, 3) := by decide +kernel
theorem d_Replacer_isHash_16 : decode b_Replacer_isHash 16 = .ok (.aload_n 0, 1) := by decide +kernel
theorem d_Replacer_isHash_17 : decode b_Replacer_isHash 17 = .ok (.getfield 44, 3) := by decide +kernel
theorem d_Replacer_isHash_20 : decode b_Replacer_isHash 20 = .ok (.getfield 106, 3) := by decide +kernel
theorem d_Replacer_isHash_23 : decode b_Replacer_isHash 23 = .ok (.aload_n 0, 1) := by decide +kernel
theorem d_Replacer_isHash_24 : decode b_Replacer_isHash 24 = .ok (.getfield 48, 3) := by decide +kernel
theorem d_Replacer_isHash_27 : decode b_Replacer_isHash 27 = .ok (.getfield 269, 3) := by decide +kernel
theorem d_Replacer_isHash_30 : decode b_Replacer_isHash 30 = .ok (.iload_n 1, 1) := by decide +kernel
theorem d_Replacer_isHash_31 : decode b_Replacer_isHash 31 = .ok (.laload, 1) := by decide +kernel
theorem d_Replacer_isHash_32 : decode b_Replacer_isHash 32 = .ok (.invokestatic 229, 3) := by decide +kernel
theorem d_Replacer_isHash_35 : decode b_Replacer_isHash 35 = .ok (.baload, 1) := by decide +kernel
theorem d_Replacer_isHash_36 : decode b_Replacer_isHash 36 = .ok (.bipush 35, 2) := by decide +kernel
theorem d_Replacer_isHash_38 : decode b_Replacer_isHash 38 = .ok (.if_icmp .ne 7, 3) := by decide +kernel
theorem d_Replacer_isHash_41 : decode b_Replacer_isHash 41 = .ok (.iconst 1, 1) := by decide +kernel
theorem d_Replacer_isHash_42 : decode b_Replacer_isHash 42 = .ok (.goto 4, 3) := by decide +kernel
theorem d_Replacer_isHash_45 : decode b_Replacer_isHash 45 = .ok (.iconst 0, 1) := by decide +kernel
theorem d_Replacer_isHash_46 : decode b_Replacer_isHash 46 = .ok (.ireturn, 1) := by decide +kernel
theorem d_Replacer_isPasting_0 : decode b_Replacer_isPasting 0 = .ok (.iload_n 1, 1) := by decide +kernel
theorem d_Replacer_isPasting_1 : decode b_Replacer_isPasting 1 = .ok (.iconst 1, 1) := by decide +kernel
theorem d_Replacer_isPasting_2 : decode b_Replacer_isPasting 2 = .ok (.iadd, 1) := by decide +kernel
theorem d_Replacer_isPasting_3 : decode b_Replacer_isPasting 3 = .ok (.iload_n 2, 1) := by decide +kernel
theorem d_Replacer_isPasting_4 : decode b_Replacer_isPasting 4 = .ok (.if_icmp .ge 19, 3) := by decide +kernel
theorem d_Replacer_isPasting_7 : decode b_Replacer_isPasting 7 = .ok (.aload_n 0, 1) := by decide +kernel
theorem d_Replacer_isPasting_8 : decode b_Replacer_isPasting 8 = .ok (.getfield 48, 3) := by decide +kernel
theorem d_Replacer_isPasting_11 : decode b_Replacer_isPasting 11 = .ok (.getfield 269, 3) := by decide +kernel
theorem d_Replacer_isPasting_14 : decode b_Replacer_isPasting 14 = .ok (.iload_n 1, 1) := by decide +kernel
theorem d_Replacer_isPasting_15 : decode b_Replacer_isPasting 15 = .ok (.laload, 1) := by decide +kernel
theorem d_Replacer_isPasting_16 : decode b_Replacer_isPasting 16 = .ok (.invokestatic 210, 3) := by decide +kernel
theorem d_Replacer_isPasting_19 : decode b_Replacer_isPasting 19 = .ok (.iconst 2, 1) := by decide +kernel
theorem d_Replacer_isPasting_20 : decode b_Replacer_isPasting 20 = .ok (.if_icmp .eq 5, 3) := by decide +kernel
theorem d_Replacer_isPasting_23 : decode b_Replacer_isPasting 23 = .ok (.iconst 0, 1) := by decide +kernel
theorem d_Replacer_isPasting_24 : decode b_Replacer_isPasting 24 = .ok (.ireturn, 1) := by decide +kernel
theorem d_Replacer_isPasting_25 : decode b_Replacer_isPasting 25 = .ok (.aload_n 0, 1) := by decide +kernel
theorem d_Replacer_isPasting_26 : decode b_Replacer_isPasting 26 = .ok (.getfield 48, 3) := by decide +kernel
theorem d_Replacer_isPasting_29 : decode b_Replacer_isPasting 29 = .ok (.getfield 269, 3) := by decide +kernel
theorem d_Replacer_isPasting_32 : decode b_Replacer_isPasting 32 = .ok (.iload_n 1, 1) := by decide +kernel
theorem d_Replacer_isPasting_33 : decode b_Replacer_isPasting 33 = .ok (.laload, 1) := by decide +kernel
theorem d_Replacer_isPasting_34 : decode b_Replacer_isPasting 34 = .ok (.invokestatic 229, 3) := by decide +kernel
theorem d_Replacer_isPasting_37 : decode b_Replacer_isPasting 37 = .ok (.istore_n 3, 1) := by decide +kernel
theorem d_Replacer_isPasting_38 : decode b_Replacer_isPasting 38 = .ok (.aload_n 0, 1) := by decide +kernel
theorem d_Replacer_isPasting_39 : decode b_Replacer_isPasting 39 = .ok (.getfield 44, 3) := by decide +kernel
theorem d_Replacer_isPasting_42 : decode b_Replacer_isPasting 42 = .ok (.getfield 106, 3) := by decide +kernel
theorem d_Replacer_isPasting_45 : decode b_Replacer_isPasting 45 = .ok (.iload_n 3, 1) := by decide +kernel
theorem d_Replacer_isPasting_46 : decode b_Replacer_isPasting 46 = .ok (.baload, 1) := by decide +kernel
theorem d_Replacer_isPasting_47 : decode b_Replacer_isPasting 47 = .ok (.bipush 35, 2) := by decide +kernel
theorem d_Replacer_isPasting_49 : decode b_Replacer_isPasting 49 = .ok (.if_icmp .ne 23, 3) := by decide +kernel
theorem d_Replacer_isPasting_52 : decode b_Replacer_isPasting 52 = .ok (.aload_n 0, 1) := by decide +kernel
theorem d_Replacer_isPasting_53 : decode b_Replacer_isPasting 53 = .ok (.getfield 44, 3) := by decide +kernel
theorem d_Replacer_isPasting_56 : decode b_Replacer_isPasting 56 = .ok (.getfield 106, 3) := by decide +kernel
theorem d_Replacer_isPasting_59 : decode b_Replacer_isPasting 59 = .ok (.iload_n 3, 1) := by decide +kernel
theorem d_Replacer_isPasting_60 : decode b_Replacer_isPasting 60 = .ok (.iconst 1, 1) := by decide +kernel
theorem d_Replacer_isPasting_61 : decode b_Replacer_isPasting 61 = .ok (.iadd, 1) := by decide +kernel
theorem d_Replacer_isPasting_62 : decode b_Replacer_isPasting 62 = .ok (.baload, 1) := by decide +kernel
theorem d_Replacer_isPasting_63 : decode b_Replacer_isPasting 63 = .ok (.bipush 35, 2) := by decide +kernel
theorem d_Replacer_isPasting_65 : decode b_Replacer_isPasting 65 = .ok (.if_icmp .ne 7, 3) := by decide +kernel
theorem d_Replacer_isPasting_68 : decode b_Replacer_isPasting 68 = .ok (.iconst 1, 1) := by decide +kernel
theorem d_Replacer_isPasting_69 : decode b_Replacer_isPasting 69 = .ok (.goto 4, 3) := by decide +kernel
theorem d_Replacer_isPasting_72 : decode b_Replacer_isPasting 72 = .ok (.iconst 0, 1) := by decide +kernel
theorem d_Replacer_isPasting_73 : decode b_Replacer_isPasting 73 = .ok (.ireturn, 1) := by decide +kernel
theorem d_Replacer_keepForDirective_0 : decode b_Replacer_keepForDirective 0 = .ok (.aload_n 0, 1) := by decide +kernel
theorem d_Replacer_keepForDirective_1 : decode b_Replacer_keepForDirective 1 = .ok (.getfield 41, 3) := by decide +kernel
theorem d_Replacer_keepForDirective_4 : decode b_Replacer_keepForDirective 4 = .ok (.bipush 61, 2) := by decide +kernel
theorem d_Replacer_keepForDirective_6 : decode b_Replacer_keepForDirective 6 = .ok (.iaload, 1) := by decide +kernel
theorem d_Replacer_keepForDirective_7 : decode b_Replacer_keepForDirective 7 = .ok (.sipush 8000, 3) := by decide +kernel
theorem d_Replacer_keepForDirective_10 : decode b_Replacer_keepForDirective 10 = .ok (.if_icmp .lt 19, 3) := by decide +kernel
theorem d_Replacer_keepForDirective_13 : decode b_Replacer_keepForDirective 13 = .ok (.aload_n 0, 1) := by decide +kernel
theorem d_Replacer_keepForDirective_14 : decode b_Replacer_keepForDirective 14 = .ok (.getfield 56, 3) := by decide +kernel
theorem d_Replacer_keepForDirective_17 : decode b_Replacer_keepForDirective 17 = .ok (.bipush 21, 2) := by decide +kernel
theorem d_Replacer_keepForDirective_19 : decode b_Replacer_keepForDirective 19 = .ok (.aload_n 0, 1) := by decide +kernel
theorem d_Replacer_keepForDirective_20 : decode b_Replacer_keepForDirective 20 = .ok (.getfield 70, 3) := by decide +kernel
theorem d_Replacer_keepForDirective_23 : decode b_Replacer_keepForDirective 23 = .ok (.invokevirtual 203, 3) := by decide +kernel
theorem d_Replacer_keepForDirective_26 : decode b_Replacer_keepForDirective 26 = .ok (.goto 11, 3) := by decide +kernel
theorem d_Replacer_keepForDirective_29 : decode b_Replacer_keepForDirective 29 = .ok (.aload_n 0, 1) := by decide +kernel
theorem d_Replacer_keepForDirective_30 : decode b_Replacer_keepForDirective 30 = .ok (.bipush 61, 2) := by decide +kernel
theorem d_Replacer_keepForDirective_32 : decode b_Replacer_keepForDirective 32 = .ok (.lload_n 1, 1) := by decide +kernel
theorem d_Replacer_keepForDirective_33 : decode b_Replacer_keepForDirective 33 = .ok (.iload_n 3, 1) := by decide +kernel
theorem d_Replacer_keepForDirective_34 : decode b_Replacer_keepForDirective 34 = .ok (.invokevirtual 162, 3) := by decide +kernel
theorem d_Replacer_keepForDirective_37 : decode b_Replacer_keepForDirective 37 = .ok (.return_, 1) := by decide +kernel
theorem d_Replacer_parameterAt_0 : decode b_Replacer_parameterAt 0 = .ok (.iload_n 1, 1) := by decide +kernel
theorem d_Replacer_parameterAt_1 : decode b_Replacer_parameterAt 1 = .ok (.iload_n 2, 1) := by decide +kernel
theorem d_Replacer_parameterAt_2 : decode b_Replacer_parameterAt 2 = .ok (.if_icmp .ge 20, 3) := by decide +kernel
theorem d_Replacer_parameterAt_5 : decode b_Replacer_parameterAt 5 = .ok (.aload_n 0, 1) := by decide +kernel
theorem d_Replacer_parameterAt_6 : decode b_Replacer_parameterAt 6 = .ok (.getfield 48, 3) := by decide +kernel
theorem d_Replacer_parameterAt_9 : decode b_Replacer_parameterAt 9 = .ok (.getfield 261, 3) := by decide +kernel
theorem d_Replacer_parameterAt_12 : decode b_Replacer_parameterAt 12 = .ok (.iload_n 1, 1) := by decide +kernel
theorem d_Replacer_parameterAt_13 : decode b_Replacer_parameterAt 13 = .ok (.iaload, 1) := by decide +kernel
theorem d_Replacer_parameterAt_14 : decode b_Replacer_parameterAt 14 = .ok (.invokestatic 124, 3) := by decide +kernel
theorem d_Replacer_parameterAt_17 : decode b_Replacer_parameterAt 17 = .ok (.iconst 1, 1) := by decide +kernel
theorem d_Replacer_parameterAt_18 : decode b_Replacer_parameterAt 18 = .ok (.isub, 1) := by decide +kernel
theorem d_Replacer_parameterAt_19 : decode b_Replacer_parameterAt 19 = .ok (.goto 4, 3) := by decide +kernel
theorem d_Replacer_parameterAt_22 : decode b_Replacer_parameterAt 22 = .ok (.iconst (-1), 1) := by decide +kernel
theorem d_Replacer_parameterAt_23 : decode b_Replacer_parameterAt 23 = .ok (.ireturn, 1) := by decide +kernel
theorem d_Replacer_put_0 : decode b_Replacer_put 0 = .ok (.aload_n 0, 1) := by decide +kernel
theorem d_Replacer_put_1 : decode b_Replacer_put 1 = .ok (.getfield 56, 3) := by decide +kernel
theorem d_Replacer_put_4 : decode b_Replacer_put 4 = .ok (.getfield 242, 3) := by decide +kernel
theorem d_Replacer_put_7 : decode b_Replacer_put 7 = .ok (.ldc 245, 2) := by decide +kernel
theorem d_Replacer_put_9 : decode b_Replacer_put 9 = .ok (.if_icmp .lt 15, 3) := by decide +kernel
theorem d_Replacer_put_12 : decode b_Replacer_put 12 = .ok (.aload_n 0, 1) := by decide +kernel
theorem d_Replacer_put_13 : decode b_Replacer_put 13 = .ok (.getfield 56, 3) := by decide +kernel
theorem d_Replacer_put_16 : decode b_Replacer_put 16 = .ok (.bipush 21, 2) := by decide +kernel
theorem d_Replacer_put_18 : decode b_Replacer_put 18 = .ok (.iload 5, 2) := by decide +kernel
theorem d_Replacer_put_20 : decode b_Replacer_put 20 = .ok (.invokevirtual 203, 3) := by decide +kernel
theorem d_Replacer_put_23 : decode b_Replacer_put 23 = .ok (.return_, 1) := by decide +kernel
theorem d_Replacer_put_24 : decode b_Replacer_put 24 = .ok (.aload_n 0, 1) := by decide +kernel
theorem d_Replacer_put_25 : decode b_Replacer_put 25 = .ok (.getfield 56, 3) := by decide +kernel
theorem d_Replacer_put_28 : decode b_Replacer_put 28 = .ok (.dup, 1) := by decide +kernel
theorem d_Replacer_put_29 : decode b_Replacer_put 29 = .ok (.getfield 242, 3) := by decide +kernel
theorem d_Replacer_put_32 : decode b_Replacer_put 32 = .ok (.iconst 1, 1) := by decide +kernel
theorem d_Replacer_put_33 : decode b_Replacer_put 33 = .ok (.iadd, 1) := by decide +kernel
theorem d_Replacer_put_34 : decode b_Replacer_put 34 = .ok (.putfield 242, 3) := by decide +kernel
theorem d_Replacer_put_37 : decode b_Replacer_put 37 = .ok (.aload_n 0, 1) := by decide +kernel
theorem d_Replacer_put_38 : decode b_Replacer_put 38 = .ok (.iload_n 1, 1) := by decide +kernel
theorem d_Replacer_put_39 : decode b_Replacer_put 39 = .ok (.lload_n 2, 1) := by decide +kernel
theorem d_Replacer_put_40 : decode b_Replacer_put 40 = .ok (.iload 4, 2) := by decide +kernel
theorem d_Replacer_put_42 : decode b_Replacer_put 42 = .ok (.invokestatic 159, 3) := by decide +kernel
theorem d_Replacer_put_45 : decode b_Replacer_put 45 = .ok (.invokevirtual 162, 3) := by decide +kernel
theorem d_Replacer_put_48 : decode b_Replacer_put 48 = .ok (.return_, 1) := by decide +kernel
theorem d_Replacer_spelledSince_0 : decode b_Replacer_spelledSince 0 = .ok (.aload_n 0, 1) := by decide +kernel
theorem d_Replacer_spelledSince_1 : decode b_Replacer_spelledSince 1 = .ok (.getfield 44, 3) := by decide +kernel
theorem d_Replacer_spelledSince_4 : decode b_Replacer_spelledSince 4 = .ok (.invokevirtual 200, 3) := by decide +kernel
theorem d_Replacer_spelledSince_7 : decode b_Replacer_spelledSince 7 = .ok (.ifCond .eq 13, 3) := by decide +kernel
theorem d_Replacer_spelledSince_10 : decode b_Replacer_spelledSince 10 = .ok (.aload_n 0, 1) := by decide +kernel
theorem d_Replacer_spelledSince_11 : decode b_Replacer_spelledSince 11 = .ok (.getfield 56, 3) := by decide +kernel
theorem d_Replacer_spelledSince_14 : decode b_Replacer_spelledSince 14 = .ok (.bipush 21, 2) := by decide +kernel
theorem d_Replacer_spelledSince_16 : decode b_Replacer_spelledSince 16 = .ok (.iload_n 2, 1) := by decide +kernel
theorem d_Replacer_spelledSince_17 : decode b_Replacer_spelledSince 17 = .ok (.invokevirtual 203, 3) := by decide +kernel
theorem d_Replacer_spelledSince_20 : decode b_Replacer_spelledSince 20 = .ok (.iload_n 1, 1) := by decide +kernel
theorem d_Replacer_spelledSince_21 : decode b_Replacer_spelledSince 21 = .ok (.aload_n 0, 1) := by decide +kernel
theorem d_Replacer_spelledSince_22 : decode b_Replacer_spelledSince 22 = .ok (.getfield 44, 3) := by decide +kernel
theorem d_Replacer_spelledSince_25 : decode b_Replacer_spelledSince 25 = .ok (.getfield 176, 3) := by decide +kernel
theorem d_Replacer_spelledSince_28 : decode b_Replacer_spelledSince 28 = .ok (.iload_n 1, 1) := by decide +kernel
theorem d_Replacer_spelledSince_29 : decode b_Replacer_spelledSince 29 = .ok (.isub, 1) := by decide +kernel
theorem d_Replacer_spelledSince_30 : decode b_Replacer_spelledSince 30 = .ok (.invokestatic 207, 3) := by decide +kernel
theorem d_Replacer_spelledSince_33 : decode b_Replacer_spelledSince 33 = .ok (.lreturn, 1) := by decide +kernel
theorem d_Second_addBlankToTitle_0 : decode b_Second_addBlankToTitle 0 = .ok (.aload_n 0, 1) := by decide +kernel
theorem d_Second_addBlankToTitle_1 : decode b_Second_addBlankToTitle 1 = .ok (.getfield 343, 3) := by decide +kernel
theorem d_Second_addBlankToTitle_4 : decode b_Second_addBlankToTitle 4 = .ok (.bipush 64, 2) := by decide +kernel
theorem d_Second_addBlankToTitle_6 : decode b_Second_addBlankToTitle 6 = .ok (.if_icmp .ge 14, 3) := by decide +kernel
theorem d_Second_addBlankToTitle_9 : decode b_Second_addBlankToTitle 9 = .ok (.aload_n 0, 1) := by decide +kernel
theorem d_Second_addBlankToTitle_10 : decode b_Second_addBlankToTitle 10 = .ok (.getfield 40, 3) := by decide +kernel
theorem d_Second_addBlankToTitle_13 : decode b_Second_addBlankToTitle 13 = .ok (.aload_n 0, 1) := by decide +kernel
theorem d_Second_addBlankToTitle_14 : decode b_Second_addBlankToTitle 14 = .ok (.getfield 343, 3) := by decide +kernel
theorem d_Second_addBlankToTitle_17 : decode b_Second_addBlankToTitle 17 = .ok (.bipush 32, 2) := by decide +kernel
theorem d_Second_addBlankToTitle_19 : decode b_Second_addBlankToTitle 19 = .ok (.bastore, 1) := by decide +kernel
theorem d_Second_addBlankToTitle_20 : decode b_Second_addBlankToTitle 20 = .ok (.aload_n 0, 1) := by decide +kernel
theorem d_Second_addBlankToTitle_21 : decode b_Second_addBlankToTitle 21 = .ok (.dup, 1) := by decide +kernel
theorem d_Second_addBlankToTitle_22 : decode b_Second_addBlankToTitle 22 = .ok (.getfield 343, 3) := by decide +kernel
theorem d_Second_addBlankToTitle_25 : decode b_Second_addBlankToTitle 25 = .ok (.iconst 1, 1) := by decide +kernel
theorem d_Second_addBlankToTitle_26 : decode b_Second_addBlankToTitle 26 = .ok (.iadd, 1) := by decide +kernel
theorem d_Second_addBlankToTitle_27 : decode b_Second_addBlankToTitle 27 = .ok (.putfield 343, 3) := by decide +kernel
theorem d_Second_addBlankToTitle_30 : decode b_Second_addBlankToTitle 30 = .ok (.return_, 1) := by decide +kernel
theorem d_Second_continueCondition_0 : decode b_Second_continueCondition 0 = .ok (.aload_n 0, 1) := by decide +kernel
theorem d_Second_continueCondition_1 : decode b_Second_continueCondition 1 = .ok (.getfield 82, 3) := by decide +kernel
theorem d_Second_continueCondition_4 : decode b_Second_continueCondition 4 = .ok (.aload_n 0, 1) := by decide +kernel
theorem d_Second_continueCondition_5 : decode b_Second_continueCondition 5 = .ok (.getfield 34, 3) := by decide +kernel
theorem d_Second_continueCondition_8 : decode b_Second_continueCondition 8 = .ok (.aload_n 0, 1) := by decide +kernel
theorem d_Second_continueCondition_9 : decode b_Second_continueCondition 9 = .ok (.getfield 61, 3) := by decide +kernel
theorem d_Second_continueCondition_12 : decode b_Second_continueCondition 12 = .ok (.getfield 106, 3) := by decide +kernel
theorem d_Second_continueCondition_15 : decode b_Second_continueCondition 15 = .ok (.iconst 1, 1) := by decide +kernel
theorem d_Second_continueCondition_16 : decode b_Second_continueCondition 16 = .ok (.isub, 1) := by decide +kernel
theorem d_Second_continueCondition_17 : decode b_Second_continueCondition 17 = .ok (.iaload, 1) := by decide +kernel
theorem d_Second_continueCondition_18 : decode b_Second_continueCondition 18 = .ok (.if_icmp .le 7, 3) := by decide +kernel
theorem d_Second_continueCondition_21 : decode b_Second_continueCondition 21 = .ok (.iconst 1, 1) := by decide +kernel
theorem d_Second_continueCondition_22 : decode b_Second_continueCondition 22 = .ok (.goto 4, 3) := by decide +kernel
theorem d_Second_continueCondition_25 : decode b_Second_continueCondition 25 = .ok (.iconst 0, 1) := by decide +kernel
theorem d_Second_continueCondition_26 : decode b_Second_continueCondition 26 = .ok (.istore_n 2, 1) := by decide +kernel
theorem d_Second_continueCondition_27 : decode b_Second_continueCondition 27 = .ok (.iload_n 2, 1) := by decide +kernel
theorem d_Second_continueCondition_28 : decode b_Second_continueCondition 28 = .ok (.ifCond .eq 17, 3) := by decide +kernel
theorem d_Second_continueCondition_31 : decode b_Second_continueCondition 31 = .ok (.aload_n 0, 1) := by decide +kernel
theorem d_Second_continueCondition_32 : decode b_Second_continueCondition 32 = .ok (.getfield 31, 3) := by decide +kernel
theorem d_Second_continueCondition_35 : decode b_Second_continueCondition 35 = .ok (.aload_n 0, 1) := by decide +kernel
theorem d_Second_continueCondition_36 : decode b_Second_continueCondition 36 = .ok (.getfield 82, 3) := by decide +kernel
theorem d_Second_continueCondition_39 : decode b_Second_continueCondition 39 = .ok (.iconst 1, 1) := by decide +kernel
theorem d_Second_continueCondition_40 : decode b_Second_continueCondition 40 = .ok (.isub, 1) := by decide +kernel
theorem d_Second_continueCondition_41 : decode b_Second_continueCondition 41 = .ok (.iaload, 1) := by decide +kernel
theorem d_Second_continueCondition_42 : decode b_Second_continueCondition 42 = .ok (.goto 4, 3) := by decide +kernel
theorem d_Second_continueCondition_45 : decode b_Second_continueCondition 45 = .ok (.iconst 0, 1) := by decide +kernel
theorem d_Second_continueCondition_46 : decode b_Second_continueCondition 46 = .ok (.istore_n 3, 1) := by decide +kernel
theorem d_Second_continueCondition_47 : decode b_Second_continueCondition 47 = .ok (.iload_n 3, 1) := by decide +kernel
theorem d_Second_continueCondition_48 : decode b_Second_continueCondition 48 = .ok (.iconst 2, 1) := by decide +kernel
theorem d_Second_continueCondition_49 : decode b_Second_continueCondition 49 = .ok (.iand, 1) := by decide +kernel
theorem d_Second_continueCondition_50 : decode b_Second_continueCondition 50 = .ok (.ifCond .eq 7, 3) := by decide +kernel
theorem d_Second_continueCondition_53 : decode b_Second_continueCondition 53 = .ok (.iconst 1, 1) := by decide +kernel
theorem d_Second_continueCondition_54 : decode b_Second_continueCondition 54 = .ok (.goto 4, 3) := by decide +kernel
theorem d_Second_continueCondition_57 : decode b_Second_continueCondition 57 = .ok (.iconst 0, 1) := by decide +kernel
theorem d_Second_continueCondition_58 : decode b_Second_continueCondition 58 = .ok (.istore 4, 2) := by decide +kernel
theorem d_Second_continueCondition_60 : decode b_Second_continueCondition 60 = .ok (.iload_n 3, 1) := by decide +kernel
theorem d_Second_continueCondition_61 : decode b_Second_continueCondition 61 = .ok (.bipush 8, 2) := by decide +kernel
theorem d_Second_continueCondition_63 : decode b_Second_continueCondition 63 = .ok (.iand, 1) := by decide +kernel
theorem d_Second_continueCondition_64 : decode b_Second_continueCondition 64 = .ok (.ifCond .eq 26, 3) := by decide +kernel
theorem d_Second_continueCondition_67 : decode b_Second_continueCondition 67 = .ok (.aload_n 0, 1) := by decide +kernel
theorem d_Second_continueCondition_68 : decode b_Second_continueCondition 68 = .ok (.dup, 1) := by decide +kernel
theorem d_Second_continueCondition_69 : decode b_Second_continueCondition 69 = .ok (.getfield 82, 3) := by decide +kernel
theorem d_Second_continueCondition_72 : decode b_Second_continueCondition 72 = .ok (.iload_n 1, 1) := by decide +kernel
theorem d_Second_continueCondition_73 : decode b_Second_continueCondition 73 = .ok (.bipush 9, 2) := by decide +kernel
theorem d_Second_continueCondition_75 : decode b_Second_continueCondition 75 = .ok (.if_icmp .ne 7, 3) := by decide +kernel
theorem d_Second_continueCondition_78 : decode b_Second_continueCondition 78 = .ok (.iconst 1, 1) := by decide +kernel
theorem d_Second_continueCondition_79 : decode b_Second_continueCondition 79 = .ok (.goto 4, 3) := by decide +kernel
theorem d_Second_continueCondition_82 : decode b_Second_continueCondition 82 = .ok (.iconst 0, 1) := by decide +kernel
theorem d_Second_continueCondition_83 : decode b_Second_continueCondition 83 = .ok (.isub, 1) := by decide +kernel
theorem d_Second_continueCondition_84 : decode b_Second_continueCondition 84 = .ok (.putfield 82, 3) := by decide +kernel
theorem d_Second_continueCondition_87 : decode b_Second_continueCondition 87 = .ok (.goto 130, 3) := by decide +kernel
theorem d_Second_continueCondition_90 : decode b_Second_continueCondition 90 = .ok (.iload_n 1, 1) := by decide +kernel
theorem d_Second_continueCondition_91 : decode b_Second_continueCondition 91 = .ok (.bipush 7, 2) := by decide +kernel
theorem d_Second_continueCondition_93 : decode b_Second_continueCondition 93 = .ok (.if_icmp .eq 25, 3) := by decide +kernel
theorem d_Second_continueCondition_96 : decode b_Second_continueCondition 96 = .ok (.aload_n 0, 1) := by decide +kernel
theorem d_Second_continueCondition_97 : decode b_Second_continueCondition 97 = .ok (.getfield 129, 3) := by decide +kernel
theorem d_Second_continueCondition_100 : decode b_Second_continueCondition 100 = .ok (.aload_n 0, 1) := by decide +kernel
theorem d_Second_continueCondition_101 : decode b_Second_continueCondition 101 = .ok (.getfield 123, 3) := by decide +kernel
theorem d_Second_continueCondition_104 : decode b_Second_continueCondition 104 = .ok (.isub, 1) := by decide +kernel
theorem d_Second_continueCondition_105 : decode b_Second_continueCondition 105 = .ok (.iconst 2, 1) := by decide +kernel
theorem d_Second_continueCondition_106 : decode b_Second_continueCondition 106 = .ok (.if_icmp .le 12, 3) := by decide +kernel
theorem d_Second_continueCondition_109 : decode b_Second_continueCondition 109 = .ok (.aload_n 0, 1) := by decide +kernel
theorem d_Second_continueCondition_110 : decode b_Second_continueCondition 110 = .ok (.bipush 7, 2) := by decide +kernel
theorem d_Second_continueCondition_112 : decode b_Second_continueCondition 112 = .ok (.invokevirtual 239, 3) := by decide +kernel
theorem d_Second_continueCondition_115 : decode b_Second_continueCondition 115 = .ok (.goto 102, 3) := by decide +kernel
theorem d_Second_continueCondition_118 : decode b_Second_continueCondition 118 = .ok (.iload_n 2, 1) := by decide +kernel
theorem d_Second_continueCondition_119 : decode b_Second_continueCondition 119 = .ok (.ifCond .eq 15, 3) := by decide +kernel
theorem d_Second_continueCondition_122 : decode b_Second_continueCondition 122 = .ok (.iload_n 1, 1) := by decide +kernel
theorem d_Second_continueCondition_123 : decode b_Second_continueCondition 123 = .ok (.bipush 9, 2) := by decide +kernel
theorem d_Second_continueCondition_125 : decode b_Second_continueCondition 125 = .ok (.if_icmp .eq 18, 3) := by decide +kernel
theorem d_Second_continueCondition_128 : decode b_Second_continueCondition 128 = .ok (.iload_n 3, 1) := by decide +kernel
theorem d_Second_continueCondition_129 : decode b_Second_continueCondition 129 = .ok (.iconst 4, 1) := by decide +kernel
theorem d_Second_continueCondition_130 : decode b_Second_continueCondition 130 = .ok (.iand, 1) := by decide +kernel
theorem d_Second_continueCondition_131 : decode b_Second_continueCondition 131 = .ok (.ifCond .eq 12, 3) := by decide +kernel
theorem d_Second_continueCondition_134 : decode b_Second_continueCondition 134 = .ok (.aload_n 0, 1) := by decide +kernel
theorem d_Second_continueCondition_135 : decode b_Second_continueCondition 135 = .ok (.bipush 13, 2) := by decide +kernel
theorem d_Second_continueCondition_137 : decode b_Second_continueCondition 137 = .ok (.invokevirtual 239, 3) := by decide +kernel
theorem d_Second_continueCondition_140 : decode b_Second_continueCondition 140 = .ok (.goto 77, 3) := by decide +kernel
theorem d_Second_continueCondition_143 : decode b_Second_continueCondition 143 = .ok (.iload_n 1, 1) := by decide +kernel
theorem d_Second_continueCondition_144 : decode b_Second_continueCondition 144 = .ok (.bipush 9, 2) := by decide +kernel
theorem d_Second_continueCondition_146 : decode b_Second_continueCondition 146 = .ok (.if_icmp .ne 16, 3) := by decide +kernel
theorem d_Second_continueCondition_149 : decode b_Second_continueCondition 149 = .ok (.aload_n 0, 1) := by decide +kernel
theorem d_Second_continueCondition_150 : decode b_Second_continueCondition 150 = .ok (.dup, 1) := by decide +kernel
theorem d_Second_continueCondition_151 : decode b_Second_continueCondition 151 = .ok (.getfield 82, 3) := by decide +kernel
theorem d_Second_continueCondition_154 : decode b_Second_continueCondition 154 = .ok (.iconst 1, 1) := by decide +kernel
theorem d_Second_continueCondition_155 : decode b_Second_continueCondition 155 = .ok (.isub, 1) := by decide +kernel
theorem d_Second_continueCondition_156 : decode b_Second_continueCondition 156 = .ok (.putfield 82, 3) := by decide +kernel
theorem d_Second_continueCondition_159 : decode b_Second_continueCondition 159 = .ok (.goto 58, 3) := by decide +kernel
theorem d_Second_continueCondition_162 : decode b_Second_continueCondition 162 = .ok (.iload_n 1, 1) := by decide +kernel
theorem d_Second_continueCondition_163 : decode b_Second_continueCondition 163 = .ok (.bipush 8, 2) := by decide +kernel
theorem d_Second_continueCondition_165 : decode b_Second_continueCondition 165 = .ok (.if_icmp .ne 30, 3) := by decide +kernel
theorem d_Second_continueCondition_168 : decode b_Second_continueCondition 168 = .ok (.aload_n 0, 1) := by decide +kernel
theorem d_Second_continueCondition_169 : decode b_Second_continueCondition 169 = .ok (.getfield 31, 3) := by decide +kernel
theorem d_Second_continueCondition_172 : decode b_Second_continueCondition 172 = .ok (.aload_n 0, 1) := by decide +kernel
theorem d_Second_continueCondition_173 : decode b_Second_continueCondition 173 = .ok (.getfield 82, 3) := by decide +kernel
theorem d_Second_continueCondition_176 : decode b_Second_continueCondition 176 = .ok (.iconst 1, 1) := by decide +kernel
theorem d_Second_continueCondition_177 : decode b_Second_continueCondition 177 = .ok (.isub, 1) := by decide +kernel
theorem d_Second_continueCondition_178 : decode b_Second_continueCondition 178 = .ok (.bipush 6, 2) := by decide +kernel
theorem d_Second_continueCondition_180 : decode b_Second_continueCondition 180 = .ok (.iload 4, 2) := by decide +kernel
theorem d_Second_continueCondition_182 : decode b_Second_continueCondition 182 = .ok (.ifCond .eq 7, 3) := by decide +kernel
theorem d_Second_continueCondition_185 : decode b_Second_continueCondition 185 = .ok (.iconst 0, 1) := by decide +kernel
theorem d_Second_continueCondition_186 : decode b_Second_continueCondition 186 = .ok (.goto 4, 3) := by decide +kernel
theorem d_Second_continueCondition_189 : decode b_Second_continueCondition 189 = .ok (.iconst 1, 1) := by decide +kernel
theorem d_Second_continueCondition_190 : decode b_Second_continueCondition 190 = .ok (.ior, 1) := by decide +kernel
theorem d_Second_continueCondition_191 : decode b_Second_continueCondition 191 = .ok (.iastore, 1) := by decide +kernel
theorem d_Second_continueCondition_192 : decode b_Second_continueCondition 192 = .ok (.goto 25, 3) := by decide +kernel
theorem d_Second_continueCondition_195 : decode b_Second_continueCondition 195 = .ok (.iload 4, 2) := by decide +kernel
theorem d_Second_continueCondition_197 : decode b_Second_continueCondition 197 = .ok (.ifCond .eq 18, 3) := by decide +kernel
theorem d_Second_continueCondition_200 : decode b_Second_continueCondition 200 = .ok (.aload_n 0, 1) := by decide +kernel
theorem d_Second_continueCondition_201 : decode b_Second_continueCondition 201 = .ok (.getfield 31, 3) := by decide +kernel
theorem d_Second_continueCondition_204 : decode b_Second_continueCondition 204 = .ok (.aload_n 0, 1) := by decide +kernel
theorem d_Second_continueCondition_205 : decode b_Second_continueCondition 205 = .ok (.getfield 82, 3) := by decide +kernel
theorem d_Second_continueCondition_208 : decode b_Second_continueCondition 208 = .ok (.iconst 1, 1) := by decide +kernel
theorem d_Second_continueCondition_209 : decode b_Second_continueCondition 209 = .ok (.isub, 1) := by decide +kernel
theorem d_Second_continueCondition_210 : decode b_Second_continueCondition 210 = .ok (.iconst 2, 1) := by decide +kernel
theorem d_Second_continueCondition_211 : decode b_Second_continueCondition 211 = .ok (.iastore, 1) := by decide +kernel
theorem d_Second_continueCondition_212 : decode b_Second_continueCondition 212 = .ok (.goto 5, 3) := by decide +kernel
theorem d_Second_continueCondition_215 : decode b_Second_continueCondition 215 = .ok (.iconst 1, 1) := by decide +kernel
theorem d_Second_continueCondition_216 : decode b_Second_continueCondition 216 = .ok (.ireturn, 1) := by decide +kernel
theorem d_Second_continueCondition_217 : decode b_Second_continueCondition 217 = .ok (.iconst 0, 1) := by decide +kernel
theorem d_Second_continueCondition_218 : decode b_Second_continueCondition 218 = .ok (.ireturn, 1) := by decide +kernel
theorem d_Second_digitOf_0 : decode b_Second_digitOf 0 = .ok (.iload_n 0, 1) := by decide +kernel
theorem d_Second_digitOf_1 : decode b_Second_digitOf 1 = .ok (.invokestatic 322, 3) := by decide +kernel
theorem d_Second_digitOf_4 : decode b_Second_digitOf 4 = .ok (.ifCond .eq 8, 3) := by decide +kernel
theorem d_Second_digitOf_7 : decode b_Second_digitOf 7 = .ok (.iload_n 0, 1) := by decide +kernel
theorem d_Second_digitOf_8 : decode b_Second_digitOf 8 = .ok (.bipush 48, 2) := by decide +kernel
theorem d_Second_digitOf_10 : decode b_Second_digitOf 10 = .ok (.isub, 1) := by decide +kernel
theorem d_Second_digitOf_11 : decode b_Second_digitOf 11 = .ok (.ireturn, 1) := by decide +kernel
theorem d_Second_digitOf_12 : decode b_Second_digitOf 12 = .ok (.iload_n 0, 1) := by decide +kernel
theorem d_Second_digitOf_13 : decode b_Second_digitOf 13 = .ok (.bipush 32, 2) := by decide +kernel
theorem d_Second_digitOf_15 : decode b_Second_digitOf 15 = .ok (.ior, 1) := by decide +kernel
theorem d_Second_digitOf_16 : decode b_Second_digitOf 16 = .ok (.istore_n 1, 1) := by decide +kernel
theorem d_Second_digitOf_17 : decode b_Second_digitOf 17 = .ok (.iload_n 1, 1) := by decide +kernel
theorem d_Second_digitOf_18 : decode b_Second_digitOf 18 = .ok (.bipush 97, 2) := by decide +kernel
theorem d_Second_digitOf_20 : decode b_Second_digitOf 20 = .ok (.if_icmp .lt 19, 3) := by decide +kernel
theorem d_Second_digitOf_23 : decode b_Second_digitOf 23 = .ok (.iload_n 1, 1) := by decide +kernel
theorem d_Second_digitOf_24 : decode b_Second_digitOf 24 = .ok (.bipush 102, 2) := by decide +kernel
theorem d_Second_digitOf_26 : decode b_Second_digitOf 26 = .ok (.if_icmp .gt 13, 3) := by decide +kernel
theorem d_Second_digitOf_29 : decode b_Second_digitOf 29 = .ok (.iload_n 1, 1) := by decide +kernel
theorem d_Second_digitOf_30 : decode b_Second_digitOf 30 = .ok (.bipush 97, 2) := by decide +kernel
theorem d_Second_digitOf_32 : decode b_Second_digitOf 32 = .ok (.isub, 1) := by decide +kernel
theorem d_Second_digitOf_33 : decode b_Second_digitOf 33 = .ok (.bipush 10, 2) := by decide +kernel
theorem d_Second_digitOf_35 : decode b_Second_digitOf 35 = .ok (.iadd, 1) := by decide +kernel
theorem d_Second_digitOf_36 : decode b_Second_digitOf 36 = .ok (.goto 5, 3) := by decide +kernel
theorem d_Second_digitOf_39 : decode b_Second_digitOf 39 = .ok (.bipush 99, 2) := by decide +kernel
theorem d_Second_digitOf_41 : decode b_Second_digitOf 41 = .ok (.ireturn, 1) := by decide +kernel
theorem d_Second_endFile_0 : decode b_Second_endFile 0 = .ok (.aload_n 0, 1) := by decide +kernel
theorem d_Second_endFile_1 : decode b_Second_endFile 1 = .ok (.getfield 61, 3) := by decide +kernel
theorem d_Second_endFile_4 : decode b_Second_endFile 4 = .ok (.iconst 0, 1) := by decide +kernel
theorem d_Second_endFile_5 : decode b_Second_endFile 5 = .ok (.putfield 116, 3) := by decide +kernel
theorem d_Second_endFile_8 : decode b_Second_endFile 8 = .ok (.aload_n 0, 1) := by decide +kernel
theorem d_Second_endFile_9 : decode b_Second_endFile 9 = .ok (.getfield 82, 3) := by decide +kernel
theorem d_Second_endFile_12 : decode b_Second_endFile 12 = .ok (.aload_n 0, 1) := by decide +kernel
theorem d_Second_endFile_13 : decode b_Second_endFile 13 = .ok (.getfield 34, 3) := by decide +kernel
theorem d_Second_endFile_16 : decode b_Second_endFile 16 = .ok (.aload_n 0, 1) := by decide +kernel
theorem d_Second_endFile_17 : decode b_Second_endFile 17 = .ok (.getfield 61, 3) := by decide +kernel
theorem d_Second_endFile_20 : decode b_Second_endFile 20 = .ok (.getfield 106, 3) := by decide +kernel
theorem d_Second_endFile_23 : decode b_Second_endFile 23 = .ok (.iconst 1, 1) := by decide +kernel
theorem d_Second_endFile_24 : decode b_Second_endFile 24 = .ok (.isub, 1) := by decide +kernel
theorem d_Second_endFile_25 : decode b_Second_endFile 25 = .ok (.iaload, 1) := by decide +kernel
theorem d_Second_endFile_26 : decode b_Second_endFile 26 = .ok (.if_icmp .le 24, 3) := by decide +kernel
theorem d_Second_endFile_29 : decode b_Second_endFile 29 = .ok (.aload_n 0, 1) := by decide +kernel
theorem d_Second_endFile_30 : decode b_Second_endFile 30 = .ok (.getfield 48, 3) := by decide +kernel
theorem d_Second_endFile_33 : decode b_Second_endFile 33 = .ok (.bipush 14, 2) := by decide +kernel
theorem d_Second_endFile_35 : decode b_Second_endFile 35 = .ok (.aload_n 0, 1) := by decide +kernel
theorem d_Second_endFile_36 : decode b_Second_endFile 36 = .ok (.getfield 27, 3) := by decide +kernel
theorem d_Second_endFile_39 : decode b_Second_endFile 39 = .ok (.aload_n 0, 1) := by decide +kernel
theorem d_Second_endFile_40 : decode b_Second_endFile 40 = .ok (.getfield 82, 3) := by decide +kernel
theorem d_Second_endFile_43 : decode b_Second_endFile 43 = .ok (.iconst 1, 1) := by decide +kernel
theorem d_Second_endFile_44 : decode b_Second_endFile 44 = .ok (.isub, 1) := by decide +kernel
theorem d_Second_endFile_45 : decode b_Second_endFile 45 = .ok (.iaload, 1) := by decide +kernel
theorem d_Second_endFile_46 : decode b_Second_endFile 46 = .ok (.invokevirtual 176, 3) := by decide +kernel
theorem d_Second_endFile_49 : decode b_Second_endFile 49 = .ok (.return_, 1) := by decide +kernel
theorem d_Second_endFile_50 : decode b_Second_endFile 50 = .ok (.aload_n 0, 1) := by decide +kernel
theorem d_Second_endFile_51 : decode b_Second_endFile 51 = .ok (.getfield 61, 3) := by decide +kernel
theorem d_Second_endFile_54 : decode b_Second_endFile 54 = .ok (.invokevirtual 182, 3) := by decide +kernel
theorem d_Second_endFile_57 : decode b_Second_endFile 57 = .ok (.return_, 1) := by decide +kernel
theorem d_Second_fail_0 : decode b_Second_fail 0 = .ok (.aload_n 0, 1) := by decide +kernel
theorem d_Second_fail_1 : decode b_Second_fail 1 = .ok (.getfield 48, 3) := by decide +kernel
theorem d_Second_fail_4 : decode b_Second_fail 4 = .ok (.iload_n 1, 1) := by decide +kernel
theorem d_Second_fail_5 : decode b_Second_fail 5 = .ok (.aload_n 0, 1) := by decide +kernel
theorem d_Second_fail_6 : decode b_Second_fail 6 = .ok (.getfield 149, 3) := by decide +kernel
theorem d_Second_fail_9 : decode b_Second_fail 9 = .ok (.invokevirtual 176, 3) := by decide +kernel
theorem d_Second_fail_12 : decode b_Second_fail 12 = .ok (.return_, 1) := by decide +kernel
theorem d_Second_failIfTooLong_0 : decode b_Second_failIfTooLong 0 = .ok (.aload_n 0, 1) := by decide +kernel
theorem d_Second_failIfTooLong_1 : decode b_Second_failIfTooLong 1 = .ok (.getfield 129, 3) := by decide +kernel
theorem d_Second_failIfTooLong_4 : decode b_Second_failIfTooLong 4 = .ok (.aload_n 0, 1) := by decide +kernel
theorem d_Second_failIfTooLong_5 : decode b_Second_failIfTooLong 5 = .ok (.getfield 123, 3) := by decide +kernel
theorem d_Second_failIfTooLong_8 : decode b_Second_failIfTooLong 8 = .ok (.isub, 1) := by decide +kernel
theorem d_Second_failIfTooLong_9 : decode b_Second_failIfTooLong 9 = .ok (.sipush 8000, 3) := by decide +kernel
theorem d_Second_failIfTooLong_12 : decode b_Second_failIfTooLong 12 = .ok (.if_icmp .le 9, 3) := by decide +kernel
theorem d_Second_failIfTooLong_15 : decode b_Second_failIfTooLong 15 = .ok (.aload_n 0, 1) := by decide +kernel
theorem d_Second_failIfTooLong_16 : decode b_Second_failIfTooLong 16 = .ok (.bipush 21, 2) := by decide +kernel
theorem d_Second_failIfTooLong_18 : decode b_Second_failIfTooLong 18 = .ok (.invokevirtual 239, 3) := by decide +kernel
theorem d_Second_failIfTooLong_21 : decode b_Second_failIfTooLong 21 = .ok (.return_, 1) := by decide +kernel
theorem d_Second_isCounting_0 : decode b_Second_isCounting 0 = .ok (.aload_n 0, 1) := by decide +kernel
theorem d_Second_isCounting_1 : decode b_Second_isCounting 1 = .ok (.getfield 82, 3) := by decide +kernel
theorem d_Second_isCounting_4 : decode b_Second_isCounting 4 = .ok (.ifCond .eq 19, 3) := by decide +kernel
theorem d_Second_isCounting_7 : decode b_Second_isCounting 7 = .ok (.aload_n 0, 1) := by decide +kernel
theorem d_Second_isCounting_8 : decode b_Second_isCounting 8 = .ok (.getfield 31, 3) := by decide +kernel
theorem d_Second_isCounting_11 : decode b_Second_isCounting 11 = .ok (.aload_n 0, 1) := by decide +kernel
theorem d_Second_isCounting_12 : decode b_Second_isCounting 12 = .ok (.getfield 82, 3) := by decide +kernel
theorem d_Second_isCounting_15 : decode b_Second_isCounting 15 = .ok (.iconst 1, 1) := by decide +kernel
theorem d_Second_isCounting_16 : decode b_Second_isCounting 16 = .ok (.isub, 1) := by decide +kernel
theorem d_Second_isCounting_17 : decode b_Second_isCounting 17 = .ok (.iaload, 1) := by decide +kernel
theorem d_Second_isCounting_18 : decode b_Second_isCounting 18 = .ok (.iconst 1, 1) := by decide +kernel
theorem d_Second_isCounting_19 : decode b_Second_isCounting 19 = .ok (.iand, 1) := by decide +kernel
theorem d_Second_isCounting_20 : decode b_Second_isCounting 20 = .ok (.ifCond .eq 7, 3) := by decide +kernel
theorem d_Second_isCounting_23 : decode b_Second_isCounting 23 = .ok (.iconst 1, 1) := by decide +kernel
theorem d_Second_isCounting_24 : decode b_Second_isCounting 24 = .ok (.goto 4, 3) := by decide +kernel
theorem d_Second_isCounting_27 : decode b_Second_isCounting 27 = .ok (.iconst 0, 1) := by decide +kernel
theorem d_Second_isCounting_28 : decode b_Second_isCounting 28 = .ok (.ireturn, 1) := by decide +kernel
theorem d_Second_isTooLarge_0 : decode b_Second_isTooLarge 0 = .ok (.iload_n 2, 1) := by decide +kernel
theorem d_Second_isTooLarge_1 : decode b_Second_isTooLarge 1 = .ok (.bipush 10, 2) := by decide +kernel
theorem d_Second_isTooLarge_3 : decode b_Second_isTooLarge 3 = .ok (.if_icmp .ne 39, 3) := by decide +kernel
theorem d_Second_isTooLarge_6 : decode b_Second_isTooLarge 6 = .ok (.ldc2_w 325, 3) := by decide +kernel
theorem d_Second_isTooLarge_9 : decode b_Second_isTooLarge 9 = .ok (.lstore 4, 2) := by decide +kernel
theorem d_Second_isTooLarge_11 : decode b_Second_isTooLarge 11 = .ok (.lload_n 0, 1) := by decide +kernel
theorem d_Second_isTooLarge_12 : decode b_Second_isTooLarge 12 = .ok (.lconst 0, 1) := by decide +kernel
theorem d_Second_isTooLarge_13 : decode b_Second_isTooLarge 13 = .ok (.lcmp, 1) := by decide +kernel
theorem d_Second_isTooLarge_14 : decode b_Second_isTooLarge 14 = .ok (.ifCond .lt 22, 3) := by decide +kernel
theorem d_Second_isTooLarge_17 : decode b_Second_isTooLarge 17 = .ok (.lload_n 0, 1) := by decide +kernel
theorem d_Second_isTooLarge_18 : decode b_Second_isTooLarge 18 = .ok (.lload 4, 2) := by decide +kernel
theorem d_Second_isTooLarge_20 : decode b_Second_isTooLarge 20 = .ok (.lcmp, 1) := by decide +kernel
theorem d_Second_isTooLarge_21 : decode b_Second_isTooLarge 21 = .ok (.ifCond .gt 15, 3) := by decide +kernel
theorem d_Second_isTooLarge_24 : decode b_Second_isTooLarge 24 = .ok (.lload_n 0, 1) := by decide +kernel
theorem d_Second_isTooLarge_25 : decode b_Second_isTooLarge 25 = .ok (.lload 4, 2) := by decide +kernel
theorem d_Second_isTooLarge_27 : decode b_Second_isTooLarge 27 = .ok (.lcmp, 1) := by decide +kernel
theorem d_Second_isTooLarge_28 : decode b_Second_isTooLarge 28 = .ok (.ifCond .ne 12, 3) := by decide +kernel
theorem d_Second_isTooLarge_31 : decode b_Second_isTooLarge 31 = .ok (.iload_n 3, 1) := by decide +kernel
theorem d_Second_isTooLarge_32 : decode b_Second_isTooLarge 32 = .ok (.iconst 5, 1) := by decide +kernel
theorem d_Second_isTooLarge_33 : decode b_Second_isTooLarge 33 = .ok (.if_icmp .le 7, 3) := by decide +kernel
theorem d_Second_isTooLarge_36 : decode b_Second_isTooLarge 36 = .ok (.iconst 1, 1) := by decide +kernel
theorem d_Second_isTooLarge_37 : decode b_Second_isTooLarge 37 = .ok (.goto 4, 3) := by decide +kernel
theorem d_Second_isTooLarge_40 : decode b_Second_isTooLarge 40 = .ok (.iconst 0, 1) := by decide +kernel
theorem d_Second_isTooLarge_41 : decode b_Second_isTooLarge 41 = .ok (.ireturn, 1) := by decide +kernel
theorem d_Second_isTooLarge_42 : decode b_Second_isTooLarge 42 = .ok (.lload_n 0, 1) := by decide +kernel
theorem d_Second_isTooLarge_43 : decode b_Second_isTooLarge 43 = .ok (.iload_n 2, 1) := by decide +kernel
theorem d_Second_isTooLarge_44 : decode b_Second_isTooLarge 44 = .ok (.bipush 16, 2) := by decide +kernel
theorem d_Second_isTooLarge_46 : decode b_Second_isTooLarge 46 = .ok (.if_icmp .ne 8, 3) := by decide +kernel
theorem d_Second_isTooLarge_49 : decode b_Second_isTooLarge 49 = .ok (.bipush 60, 2) := by decide +kernel
theorem d_Second_isTooLarge_51 : decode b_Second_isTooLarge 51 = .ok (.goto 5, 3) := by decide +kernel
theorem d_Second_isTooLarge_54 : decode b_Second_isTooLarge 54 = .ok (.bipush 61, 2) := by decide +kernel
theorem d_Second_isTooLarge_56 : decode b_Second_isTooLarge 56 = .ok (.lushr, 1) := by decide +kernel
theorem d_Second_isTooLarge_57 : decode b_Second_isTooLarge 57 = .ok (.lconst 0, 1) := by decide +kernel
theorem d_Second_isTooLarge_58 : decode b_Second_isTooLarge 58 = .ok (.lcmp, 1) := by decide +kernel
theorem d_Second_isTooLarge_59 : decode b_Second_isTooLarge 59 = .ok (.ifCond .eq 7, 3) := by decide +kernel
theorem d_Second_isTooLarge_62 : decode b_Second_isTooLarge 62 = .ok (.iconst 1, 1) := by decide +kernel
theorem d_Second_isTooLarge_63 : decode b_Second_isTooLarge 63 = .ok (.goto 4, 3) := by decide +kernel
theorem d_Second_isTooLarge_66 : decode b_Second_isTooLarge 66 = .ok (.iconst 0, 1) := by decide +kernel
theorem d_Second_isTooLarge_67 : decode b_Second_isTooLarge 67 = .ok (.ireturn, 1) := by decide +kernel
theorem d_Second_keepText_0 : decode b_Second_keepText 0 = .ok (.aload_n 0, 1) := by decide +kernel
theorem d_Second_keepText_1 : decode b_Second_keepText 1 = .ok (.invokevirtual 179, 3) := by decide +kernel
theorem d_Second_keepText_4 : decode b_Second_keepText 4 = .ok (.ifCond .ne 4, 3) := by decide +kernel
theorem d_Second_keepText_7 : decode b_Second_keepText 7 = .ok (.return_, 1) := by decide +kernel
theorem d_Second_keepText_8 : decode b_Second_keepText 8 = .ok (.aload_n 0, 1) := by decide +kernel
theorem d_Second_keepText_9 : decode b_Second_keepText 9 = .ok (.getfield 129, 3) := by decide +kernel
theorem d_Second_keepText_12 : decode b_Second_keepText 12 = .ok (.sipush 8000, 3) := by decide +kernel
theorem d_Second_keepText_15 : decode b_Second_keepText 15 = .ok (.if_icmp .le 23, 3) := by decide +kernel
theorem d_Second_keepText_18 : decode b_Second_keepText 18 = .ok (.aload_n 0, 1) := by decide +kernel
theorem d_Second_keepText_19 : decode b_Second_keepText 19 = .ok (.getfield 48, 3) := by decide +kernel
theorem d_Second_keepText_22 : decode b_Second_keepText 22 = .ok (.bipush 21, 2) := by decide +kernel
theorem d_Second_keepText_24 : decode b_Second_keepText 24 = .ok (.aload_n 0, 1) := by decide +kernel
theorem d_Second_keepText_25 : decode b_Second_keepText 25 = .ok (.getfield 12, 3) := by decide +kernel
theorem d_Second_keepText_28 : decode b_Second_keepText 28 = .ok (.sipush 8000, 3) := by decide +kernel
theorem d_Second_keepText_31 : decode b_Second_keepText 31 = .ok (.invokevirtual 145, 3) := by decide +kernel
theorem d_Second_keepText_34 : decode b_Second_keepText 34 = .ok (.invokevirtual 176, 3) := by decide +kernel
theorem d_Second_keepText_37 : decode b_Second_keepText 37 = .ok (.return_, 1) := by decide +kernel
theorem d_Second_keepText_38 : decode b_Second_keepText 38 = .ok (.aload_n 0, 1) := by decide +kernel
theorem d_Second_keepText_39 : decode b_Second_keepText 39 = .ok (.getfield 61, 3) := by decide +kernel
theorem d_Second_keepText_42 : decode b_Second_keepText 42 = .ok (.aload_n 0, 1) := by decide +kernel
theorem d_Second_keepText_43 : decode b_Second_keepText 43 = .ok (.getfield 129, 3) := by decide +kernel
theorem d_Second_keepText_46 : decode b_Second_keepText 46 = .ok (.putfield 116, 3) := by decide +kernel
theorem d_Second_keepText_49 : decode b_Second_keepText 49 = .ok (.return_, 1) := by decide +kernel
theorem d_Second_openCondition_0 : decode b_Second_openCondition 0 = .ok (.aload_n 0, 1) := by decide +kernel
theorem d_Second_openCondition_1 : decode b_Second_openCondition 1 = .ok (.getfield 82, 3) := by decide +kernel
theorem d_Second_openCondition_4 : decode b_Second_openCondition 4 = .ok (.bipush 100, 2) := by decide +kernel
theorem d_Second_openCondition_6 : decode b_Second_openCondition 6 = .ok (.if_icmp .lt 10, 3) := by decide +kernel
theorem d_Second_openCondition_9 : decode b_Second_openCondition 9 = .ok (.aload_n 0, 1) := by decide +kernel
theorem d_Second_openCondition_10 : decode b_Second_openCondition 10 = .ok (.bipush 21, 2) := by decide +kernel
theorem d_Second_openCondition_12 : decode b_Second_openCondition 12 = .ok (.invokevirtual 239, 3) := by decide +kernel
theorem d_Second_openCondition_15 : decode b_Second_openCondition 15 = .ok (.return_, 1) := by decide +kernel
theorem d_Second_openCondition_16 : decode b_Second_openCondition 16 = .ok (.aload_n 0, 1) := by decide +kernel
theorem d_Second_openCondition_17 : decode b_Second_openCondition 17 = .ok (.getfield 31, 3) := by decide +kernel
theorem d_Second_openCondition_20 : decode b_Second_openCondition 20 = .ok (.aload_n 0, 1) := by decide +kernel
theorem d_Second_openCondition_21 : decode b_Second_openCondition 21 = .ok (.getfield 82, 3) := by decide +kernel
theorem d_Second_openCondition_24 : decode b_Second_openCondition 24 = .ok (.iload_n 1, 1) := by decide +kernel
theorem d_Second_openCondition_25 : decode b_Second_openCondition 25 = .ok (.iastore, 1) := by decide +kernel
theorem d_Second_openCondition_26 : decode b_Second_openCondition 26 = .ok (.aload_n 0, 1) := by decide +kernel
theorem d_Second_openCondition_27 : decode b_Second_openCondition 27 = .ok (.getfield 27, 3) := by decide +kernel
theorem d_Second_openCondition_30 : decode b_Second_openCondition 30 = .ok (.aload_n 0, 1) := by decide +kernel
theorem d_Second_openCondition_31 : decode b_Second_openCondition 31 = .ok (.getfield 82, 3) := by decide +kernel
theorem d_Second_openCondition_34 : decode b_Second_openCondition 34 = .ok (.aload_n 0, 1) := by decide +kernel
theorem d_Second_openCondition_35 : decode b_Second_openCondition 35 = .ok (.getfield 149, 3) := by decide +kernel
theorem d_Second_openCondition_38 : decode b_Second_openCondition 38 = .ok (.iastore, 1) := by decide +kernel
theorem d_Second_openCondition_39 : decode b_Second_openCondition 39 = .ok (.aload_n 0, 1) := by decide +kernel
theorem d_Second_openCondition_40 : decode b_Second_openCondition 40 = .ok (.dup, 1) := by decide +kernel
theorem d_Second_openCondition_41 : decode b_Second_openCondition 41 = .ok (.getfield 82, 3) := by decide +kernel
theorem d_Second_openCondition_44 : decode b_Second_openCondition 44 = .ok (.iconst 1, 1) := by decide +kernel
theorem d_Second_openCondition_45 : decode b_Second_openCondition 45 = .ok (.iadd, 1) := by decide +kernel
theorem d_Second_openCondition_46 : decode b_Second_openCondition 46 = .ok (.putfield 82, 3) := by decide +kernel
theorem d_Second_openCondition_49 : decode b_Second_openCondition 49 = .ok (.return_, 1) := by decide +kernel
theorem d_Second_suffixOf_0 : decode b_Second_suffixOf 0 = .ok (.aload_n 0, 1) := by decide +kernel
theorem d_Second_suffixOf_1 : decode b_Second_suffixOf 1 = .ok (.getfield 12, 3) := by decide +kernel
theorem d_Second_suffixOf_4 : decode b_Second_suffixOf 4 = .ok (.getfield 225, 3) := by decide +kernel
theorem d_Second_suffixOf_7 : decode b_Second_suffixOf 7 = .ok (.astore_n 3, 1) := by decide +kernel
theorem d_Second_suffixOf_8 : decode b_Second_suffixOf 8 = .ok (.iload_n 1, 1) := by decide +kernel
theorem d_Second_suffixOf_9 : decode b_Second_suffixOf 9 = .ok (.istore 4, 2) := by decide +kernel
theorem d_Second_suffixOf_11 : decode b_Second_suffixOf 11 = .ok (.iload 4, 2) := by decide +kernel
theorem d_Second_suffixOf_13 : decode b_Second_suffixOf 13 = .ok (.iload_n 2, 1) := by decide +kernel
theorem d_Second_suffixOf_14 : decode b_Second_suffixOf 14 = .ok (.if_icmp .ge 19, 3) := by decide +kernel
theorem d_Second_suffixOf_17 : decode b_Second_suffixOf 17 = .ok (.aload_n 3, 1) := by decide +kernel
theorem d_Second_suffixOf_18 : decode b_Second_suffixOf 18 = .ok (.iload 4, 2) := by decide +kernel
theorem d_Second_suffixOf_20 : decode b_Second_suffixOf 20 = .ok (.baload, 1) := by decide +kernel
theorem d_Second_suffixOf_21 : decode b_Second_suffixOf 21 = .ok (.bipush 32, 2) := by decide +kernel
theorem d_Second_suffixOf_23 : decode b_Second_suffixOf 23 = .ok (.ior, 1) := by decide +kernel
theorem d_Second_suffixOf_24 : decode b_Second_suffixOf 24 = .ok (.bipush 117, 2) := by decide +kernel
theorem d_Second_suffixOf_26 : decode b_Second_suffixOf 26 = .ok (.if_icmp .ne 7, 3) := by decide +kernel
theorem d_Second_suffixOf_29 : decode b_Second_suffixOf 29 = .ok (.iconst 1, 1) := by decide +kernel
theorem d_Second_suffixOf_30 : decode b_Second_suffixOf 30 = .ok (.goto 4, 3) := by decide +kernel
theorem d_Second_suffixOf_33 : decode b_Second_suffixOf 33 = .ok (.iconst 0, 1) := by decide +kernel
theorem d_Second_suffixOf_34 : decode b_Second_suffixOf 34 = .ok (.istore 5, 2) := by decide +kernel
theorem d_Second_suffixOf_36 : decode b_Second_suffixOf 36 = .ok (.iload 4, 2) := by decide +kernel
theorem d_Second_suffixOf_38 : decode b_Second_suffixOf 38 = .ok (.iload 5, 2) := by decide +kernel
theorem d_Second_suffixOf_40 : decode b_Second_suffixOf 40 = .ok (.ifCond .eq 7, 3) := by decide +kernel
theorem d_Second_suffixOf_43 : decode b_Second_suffixOf 43 = .ok (.iconst 1, 1) := by decide +kernel
theorem d_Second_suffixOf_44 : decode b_Second_suffixOf 44 = .ok (.goto 4, 3) := by decide +kernel
theorem d_Second_suffixOf_47 : decode b_Second_suffixOf 47 = .ok (.iconst 0, 1) := by decide +kernel
theorem d_Second_suffixOf_48 : decode b_Second_suffixOf 48 = .ok (.iadd, 1) := by decide +kernel
theorem d_Second_suffixOf_49 : decode b_Second_suffixOf 49 = .ok (.istore 4, 2) := by decide +kernel
theorem d_Second_suffixOf_51 : decode b_Second_suffixOf 51 = .ok (.iload 4, 2) := by decide +kernel
theorem d_Second_suffixOf_53 : decode b_Second_suffixOf 53 = .ok (.iload_n 2, 1) := by decide +kernel
theorem d_Second_suffixOf_54 : decode b_Second_suffixOf 54 = .ok (.if_icmp .ge 46, 3) := by decide +kernel
theorem d_Second_suffixOf_57 : decode b_Second_suffixOf 57 = .ok (.aload_n 3, 1) := by decide +kernel
theorem d_Second_suffixOf_58 : decode b_Second_suffixOf 58 = .ok (.iload 4, 2) := by decide +kernel
theorem d_Second_suffixOf_60 : decode b_Second_suffixOf 60 = .ok (.baload, 1) := by decide +kernel
theorem d_Second_suffixOf_61 : decode b_Second_suffixOf 61 = .ok (.bipush 32, 2) := by decide +kernel
theorem d_Second_suffixOf_63 : decode b_Second_suffixOf 63 = .ok (.ior, 1) := by decide +kernel
theorem d_Second_suffixOf_64 : decode b_Second_suffixOf 64 = .ok (.bipush 108, 2) := by decide +kernel
theorem d_Second_suffixOf_66 : decode b_Second_suffixOf 66 = .ok (.if_icmp .ne 34, 3) := by decide +kernel
theorem d_Second_suffixOf_69 : decode b_Second_suffixOf 69 = .ok (.iload 4, 2) := by decide +kernel
theorem d_Second_suffixOf_71 : decode b_Second_suffixOf 71 = .ok (.iload 4, 2) := by decide +kernel
theorem d_Second_suffixOf_73 : decode b_Second_suffixOf 73 = .ok (.iconst 1, 1) := by decide +kernel
theorem d_Second_suffixOf_74 : decode b_Second_suffixOf 74 = .ok (.iadd, 1) := by decide +kernel
theorem d_Second_suffixOf_75 : decode b_Second_suffixOf 75 = .ok (.iload_n 2, 1) := by decide +kernel
theorem d_Second_suffixOf_76 : decode b_Second_suffixOf 76 = .ok (.if_icmp .ge 20, 3) := by decide +kernel
theorem d_Second_suffixOf_79 : decode b_Second_suffixOf 79 = .ok (.aload_n 3, 1) := by decide +kernel
theorem d_Second_suffixOf_80 : decode b_Second_suffixOf 80 = .ok (.iload 4, 2) := by decide +kernel
theorem d_Second_suffixOf_82 : decode b_Second_suffixOf 82 = .ok (.iconst 1, 1) := by decide +kernel
theorem d_Second_suffixOf_83 : decode b_Second_suffixOf 83 = .ok (.iadd, 1) := by decide +kernel
theorem d_Second_suffixOf_84 : decode b_Second_suffixOf 84 = .ok (.baload, 1) := by decide +kernel
theorem d_Second_suffixOf_85 : decode b_Second_suffixOf 85 = .ok (.aload_n 3, 1) := by decide +kernel
theorem d_Second_suffixOf_86 : decode b_Second_suffixOf 86 = .ok (.iload 4, 2) := by decide +kernel
theorem d_Second_suffixOf_88 : decode b_Second_suffixOf 88 = .ok (.baload, 1) := by decide +kernel
theorem d_Second_suffixOf_89 : decode b_Second_suffixOf 89 = .ok (.if_icmp .ne 7, 3) := by decide +kernel
theorem d_Second_suffixOf_92 : decode b_Second_suffixOf 92 = .ok (.iconst 2, 1) := by decide +kernel
theorem d_Second_suffixOf_93 : decode b_Second_suffixOf 93 = .ok (.goto 4, 3) := by decide +kernel
theorem d_Second_suffixOf_96 : decode b_Second_suffixOf 96 = .ok (.iconst 1, 1) := by decide +kernel
theorem d_Second_suffixOf_97 : decode b_Second_suffixOf 97 = .ok (.iadd, 1) := by decide +kernel
theorem d_Second_suffixOf_98 : decode b_Second_suffixOf 98 = .ok (.istore 4, 2) := by decide +kernel
theorem d_Second_suffixOf_100 : decode b_Second_suffixOf 100 = .ok (.iload 5, 2) := by decide +kernel
theorem d_Second_suffixOf_102 : decode b_Second_suffixOf 102 = .ok (.ifCond .ne 27, 3) := by decide +kernel
theorem d_Second_suffixOf_105 : decode b_Second_suffixOf 105 = .ok (.iload 4, 2) := by decide +kernel
theorem d_Second_suffixOf_107 : decode b_Second_suffixOf 107 = .ok (.iload_n 2, 1) := by decide +kernel
theorem d_Second_suffixOf_108 : decode b_Second_suffixOf 108 = .ok (.if_icmp .ge 21, 3) := by decide +kernel
theorem d_Second_suffixOf_111 : decode b_Second_suffixOf 111 = .ok (.aload_n 3, 1) := by decide +kernel
theorem d_Second_suffixOf_112 : decode b_Second_suffixOf 112 = .ok (.iload 4, 2) := by decide +kernel
theorem d_Second_suffixOf_114 : decode b_Second_suffixOf 114 = .ok (.baload, 1) := by decide +kernel
theorem d_Second_suffixOf_115 : decode b_Second_suffixOf 115 = .ok (.bipush 32, 2) := by decide +kernel
theorem d_Second_suffixOf_117 : decode b_Second_suffixOf 117 = .ok (.ior, 1) := by decide +kernel
theorem d_Second_suffixOf_118 : decode b_Second_suffixOf 118 = .ok (.bipush 117, 2) := by decide +kernel
theorem d_Second_suffixOf_120 : decode b_Second_suffixOf 120 = .ok (.if_icmp .ne 9, 3) := by decide +kernel
theorem d_Second_suffixOf_123 : decode b_Second_suffixOf 123 = .ok (.iconst 1, 1) := by decide +kernel
theorem d_Second_suffixOf_124 : decode b_Second_suffixOf 124 = .ok (.istore 5, 2) := by decide +kernel
theorem d_Second_suffixOf_126 : decode b_Second_suffixOf 126 = .ok (.iinc 4 1, 3) := by decide +kernel
theorem d_Second_suffixOf_129 : decode b_Second_suffixOf 129 = .ok (.iload 4, 2) := by decide +kernel
theorem d_Second_suffixOf_131 : decode b_Second_suffixOf 131 = .ok (.iload_n 2, 1) := by decide +kernel
theorem d_Second_suffixOf_132 : decode b_Second_suffixOf 132 = .ok (.if_icmp .ge 7, 3) := by decide +kernel
theorem d_Second_suffixOf_135 : decode b_Second_suffixOf 135 = .ok (.iconst (-1), 1) := by decide +kernel
theorem d_Second_suffixOf_136 : decode b_Second_suffixOf 136 = .ok (.goto 13, 3) := by decide +kernel
theorem d_Second_suffixOf_139 : decode b_Second_suffixOf 139 = .ok (.iload 5, 2) := by decide +kernel
theorem d_Second_suffixOf_141 : decode b_Second_suffixOf 141 = .ok (.ifCond .eq 7, 3) := by decide +kernel
theorem d_Second_suffixOf_144 : decode b_Second_suffixOf 144 = .ok (.iconst 1, 1) := by decide +kernel
theorem d_Second_suffixOf_145 : decode b_Second_suffixOf 145 = .ok (.goto 4, 3) := by decide +kernel
theorem d_Second_suffixOf_148 : decode b_Second_suffixOf 148 = .ok (.iconst 0, 1) := by decide +kernel
theorem d_Second_suffixOf_149 : decode b_Second_suffixOf 149 = .ok (.ireturn, 1) := by decide +kernel
theorem d_Second_waitForTokens_0 : decode b_Second_waitForTokens 0 = .ok (.aload_n 0, 1) := by decide +kernel
theorem d_Second_waitForTokens_1 : decode b_Second_waitForTokens 1 = .ok (.invokevirtual 241, 3) := by decide +kernel
theorem d_Second_waitForTokens_4 : decode b_Second_waitForTokens 4 = .ok (.aload_n 0, 1) := by decide +kernel
theorem d_Second_waitForTokens_5 : decode b_Second_waitForTokens 5 = .ok (.aload_n 0, 1) := by decide +kernel
theorem d_Second_waitForTokens_6 : decode b_Second_waitForTokens 6 = .ok (.getfield 123, 3) := by decide +kernel
theorem d_Second_waitForTokens_9 : decode b_Second_waitForTokens 9 = .ok (.iconst 2, 1) := by decide +kernel
theorem d_Second_waitForTokens_10 : decode b_Second_waitForTokens 10 = .ok (.iadd, 1) := by decide +kernel
theorem d_Second_waitForTokens_11 : decode b_Second_waitForTokens 11 = .ok (.aload_n 0, 1) := by decide +kernel
theorem d_Second_waitForTokens_12 : decode b_Second_waitForTokens 12 = .ok (.getfield 129, 3) := by decide +kernel
theorem d_Second_waitForTokens_15 : decode b_Second_waitForTokens 15 = .ok (.if_icmp .ge 12, 3) := by decide +kernel
theorem d_Second_waitForTokens_18 : decode b_Second_waitForTokens 18 = .ok (.aload_n 0, 1) := by decide +kernel
theorem d_Second_waitForTokens_19 : decode b_Second_waitForTokens 19 = .ok (.getfield 123, 3) := by decide +kernel
theorem d_Second_waitForTokens_22 : decode b_Second_waitForTokens 22 = .ok (.iconst 2, 1) := by decide +kernel
theorem d_Second_waitForTokens_23 : decode b_Second_waitForTokens 23 = .ok (.iadd, 1) := by decide +kernel
theorem d_Second_waitForTokens_24 : decode b_Second_waitForTokens 24 = .ok (.goto 4, 3) := by decide +kernel
theorem d_Second_waitForTokens_27 : decode b_Second_waitForTokens 27 = .ok (.iconst (-1), 1) := by decide +kernel
theorem d_Second_waitForTokens_28 : decode b_Second_waitForTokens 28 = .ok (.putfield 163, 3) := by decide +kernel
theorem d_Second_waitForTokens_31 : decode b_Second_waitForTokens 31 = .ok (.aload_n 0, 1) := by decide +kernel
theorem d_Second_waitForTokens_32 : decode b_Second_waitForTokens 32 = .ok (.getfield 12, 3) := by decide +kernel
theorem d_Second_waitForTokens_35 : decode b_Second_waitForTokens 35 = .ok (.getfield 138, 3) := by decide +kernel
theorem d_Second_waitForTokens_38 : decode b_Second_waitForTokens 38 = .ok (.aload_n 0, 1) := by decide +kernel
theorem d_Second_waitForTokens_39 : decode b_Second_waitForTokens 39 = .ok (.getfield 129, 3) := by decide +kernel
theorem d_Second_waitForTokens_42 : decode b_Second_waitForTokens 42 = .ok (.iconst 1, 1) := by decide +kernel
theorem d_Second_waitForTokens_43 : decode b_Second_waitForTokens 43 = .ok (.isub, 1) := by decide +kernel
theorem d_Second_waitForTokens_44 : decode b_Second_waitForTokens 44 = .ok (.iconst (-1), 1) := by decide +kernel
theorem d_Second_waitForTokens_45 : decode b_Second_waitForTokens 45 = .ok (.iastore, 1) := by decide +kernel
theorem d_Second_waitForTokens_46 : decode b_Second_waitForTokens 46 = .ok (.aload_n 0, 1) := by decide +kernel
theorem d_Second_waitForTokens_47 : decode b_Second_waitForTokens 47 = .ok (.iload_n 1, 1) := by decide +kernel
theorem d_Second_waitForTokens_48 : decode b_Second_waitForTokens 48 = .ok (.putfield 132, 3) := by decide +kernel
theorem d_Second_waitForTokens_51 : decode b_Second_waitForTokens 51 = .ok (.return_, 1) := by decide +kernel
theorem d_Tokens_add_0 : decode b_Tokens_add 0 = .ok (.aload_n 0, 1) := by decide +kernel
theorem d_Tokens_add_1 : decode b_Tokens_add 1 = .ok (.getfield 47, 3) := by decide +kernel
theorem d_Tokens_add_4 : decode b_Tokens_add 4 = .ok (.ldc 21, 2) := by decide +kernel
theorem d_Tokens_add_6 : decode b_Tokens_add 6 = .ok (.if_icmp .lt 5, 3) := by decide +kernel
theorem d_Tokens_add_9 : decode b_Tokens_add 9 = .ok (.iconst (-1), 1) := by decide +kernel
theorem d_Tokens_add_10 : decode b_Tokens_add 10 = .ok (.ireturn, 1) := by decide +kernel
theorem d_Tokens_add_11 : decode b_Tokens_add 11 = .ok (.aload_n 0, 1) := by decide +kernel
theorem d_Tokens_add_12 : decode b_Tokens_add 12 = .ok (.getfield 22, 3) := by decide +kernel
theorem d_Tokens_add_15 : decode b_Tokens_add 15 = .ok (.aload_n 0, 1) := by decide +kernel
theorem d_Tokens_add_16 : decode b_Tokens_add 16 = .ok (.getfield 47, 3) := by decide +kernel
theorem d_Tokens_add_19 : decode b_Tokens_add 19 = .ok (.lload_n 1, 1) := by decide +kernel
theorem d_Tokens_add_20 : decode b_Tokens_add 20 = .ok (.lastore, 1) := by decide +kernel
theorem d_Tokens_add_21 : decode b_Tokens_add 21 = .ok (.aload_n 0, 1) := by decide +kernel
theorem d_Tokens_add_22 : decode b_Tokens_add 22 = .ok (.getfield 26, 3) := by decide +kernel
theorem d_Tokens_add_25 : decode b_Tokens_add 25 = .ok (.aload_n 0, 1) := by decide +kernel
theorem d_Tokens_add_26 : decode b_Tokens_add 26 = .ok (.getfield 47, 3) := by decide +kernel
theorem d_Tokens_add_29 : decode b_Tokens_add 29 = .ok (.iload_n 3, 1) := by decide +kernel
theorem d_Tokens_add_30 : decode b_Tokens_add 30 = .ok (.iastore, 1) := by decide +kernel
theorem d_Tokens_add_31 : decode b_Tokens_add 31 = .ok (.aload_n 0, 1) := by decide +kernel
theorem d_Tokens_add_32 : decode b_Tokens_add 32 = .ok (.getfield 30, 3) := by decide +kernel
theorem d_Tokens_add_35 : decode b_Tokens_add 35 = .ok (.aload_n 0, 1) := by decide +kernel
theorem d_Tokens_add_36 : decode b_Tokens_add 36 = .ok (.getfield 47, 3) := by decide +kernel
theorem d_Tokens_add_39 : decode b_Tokens_add 39 = .ok (.iconst (-1), 1) := by decide +kernel
theorem d_Tokens_add_40 : decode b_Tokens_add 40 = .ok (.iastore, 1) := by decide +kernel
theorem d_Tokens_add_41 : decode b_Tokens_add 41 = .ok (.aload_n 0, 1) := by decide +kernel
theorem d_Tokens_add_42 : decode b_Tokens_add 42 = .ok (.dup, 1) := by decide +kernel
theorem d_Tokens_add_43 : decode b_Tokens_add 43 = .ok (.getfield 47, 3) := by decide +kernel
theorem d_Tokens_add_46 : decode b_Tokens_add 46 = .ok (.iconst 1, 1) := by decide +kernel
theorem d_Tokens_add_47 : decode b_Tokens_add 47 = .ok (.iadd, 1) := by decide +kernel
theorem d_Tokens_add_48 : decode b_Tokens_add 48 = .ok (.putfield 47, 3) := by decide +kernel
theorem d_Tokens_add_51 : decode b_Tokens_add 51 = .ok (.aload_n 0, 1) := by decide +kernel
theorem d_Tokens_add_52 : decode b_Tokens_add 52 = .ok (.getfield 47, 3) := by decide +kernel
theorem d_Tokens_add_55 : decode b_Tokens_add 55 = .ok (.iconst 1, 1) := by decide +kernel
theorem d_Tokens_add_56 : decode b_Tokens_add 56 = .ok (.isub, 1) := by decide +kernel
theorem d_Tokens_add_57 : decode b_Tokens_add 57 = .ok (.ireturn, 1) := by decide +kernel
theorem d_Tokens_becomeTruth_0 : decode b_Tokens_becomeTruth 0 = .ok (.aload_n 0, 1) := by decide +kernel
theorem d_Tokens_becomeTruth_1 : decode b_Tokens_becomeTruth 1 = .ok (.getfield 22, 3) := by decide +kernel
theorem d_Tokens_becomeTruth_4 : decode b_Tokens_becomeTruth 4 = .ok (.iload_n 1, 1) := by decide +kernel
theorem d_Tokens_becomeTruth_5 : decode b_Tokens_becomeTruth 5 = .ok (.iload_n 2, 1) := by decide +kernel
theorem d_Tokens_becomeTruth_6 : decode b_Tokens_becomeTruth 6 = .ok (.ifCond .eq 8, 3) := by decide +kernel
theorem d_Tokens_becomeTruth_9 : decode b_Tokens_becomeTruth 9 = .ok (.ldc 34, 2) := by decide +kernel
theorem d_Tokens_becomeTruth_11 : decode b_Tokens_becomeTruth 11 = .ok (.goto 5, 3) := by decide +kernel
theorem d_Tokens_becomeTruth_14 : decode b_Tokens_becomeTruth 14 = .ok (.ldc 33, 2) := by decide +kernel
theorem d_Tokens_becomeTruth_16 : decode b_Tokens_becomeTruth 16 = .ok (.iconst 1, 1) := by decide +kernel
theorem d_Tokens_becomeTruth_17 : decode b_Tokens_becomeTruth 17 = .ok (.invokestatic 80, 3) := by decide +kernel
theorem d_Tokens_becomeTruth_20 : decode b_Tokens_becomeTruth 20 = .ok (.lastore, 1) := by decide +kernel
theorem d_Tokens_becomeTruth_21 : decode b_Tokens_becomeTruth 21 = .ok (.aload_n 0, 1) := by decide +kernel
theorem d_Tokens_becomeTruth_22 : decode b_Tokens_becomeTruth 22 = .ok (.getfield 26, 3) := by decide +kernel
theorem d_Tokens_becomeTruth_25 : decode b_Tokens_becomeTruth 25 = .ok (.iload_n 1, 1) := by decide +kernel
theorem d_Tokens_becomeTruth_26 : decode b_Tokens_becomeTruth 26 = .ok (.aload_n 0, 1) := by decide +kernel
theorem d_Tokens_becomeTruth_27 : decode b_Tokens_becomeTruth 27 = .ok (.getfield 26, 3) := by decide +kernel
theorem d_Tokens_becomeTruth_30 : decode b_Tokens_becomeTruth 30 = .ok (.iload_n 1, 1) := by decide +kernel
theorem d_Tokens_becomeTruth_31 : decode b_Tokens_becomeTruth 31 = .ok (.iaload, 1) := by decide +kernel
theorem d_Tokens_becomeTruth_32 : decode b_Tokens_becomeTruth 32 = .ok (.iconst 2, 1) := by decide +kernel
theorem d_Tokens_becomeTruth_33 : decode b_Tokens_becomeTruth 33 = .ok (.invokestatic 84, 3) := by decide +kernel
theorem d_Tokens_becomeTruth_36 : decode b_Tokens_becomeTruth 36 = .ok (.iastore, 1) := by decide +kernel
theorem d_Tokens_becomeTruth_37 : decode b_Tokens_becomeTruth 37 = .ok (.return_, 1) := by decide +kernel
theorem d_Tokens_clearAll_0 : decode b_Tokens_clearAll 0 = .ok (.aload_n 0, 1) := by decide +kernel
theorem d_Tokens_clearAll_1 : decode b_Tokens_clearAll 1 = .ok (.iconst 0, 1) := by decide +kernel
theorem d_Tokens_clearAll_2 : decode b_Tokens_clearAll 2 = .ok (.putfield 35, 3) := by decide +kernel
theorem d_Tokens_clearAll_5 : decode b_Tokens_clearAll 5 = .ok (.aload_n 0, 1) := by decide +kernel
theorem d_Tokens_clearAll_6 : decode b_Tokens_clearAll 6 = .ok (.iconst 0, 1) := by decide +kernel
theorem d_Tokens_clearAll_7 : decode b_Tokens_clearAll 7 = .ok (.putfield 39, 3) := by decide +kernel
theorem d_Tokens_clearAll_10 : decode b_Tokens_clearAll 10 = .ok (.aload_n 0, 1) := by decide +kernel
theorem d_Tokens_clearAll_11 : decode b_Tokens_clearAll 11 = .ok (.ldc 43, 2) := by decide +kernel
theorem d_Tokens_clearAll_13 : decode b_Tokens_clearAll 13 = .ok (.putfield 44, 3) := by decide +kernel
theorem d_Tokens_clearAll_16 : decode b_Tokens_clearAll 16 = .ok (.aload_n 0, 1) := by decide +kernel
theorem d_Tokens_clearAll_17 : decode b_Tokens_clearAll 17 = .ok (.iconst 0, 1) := by decide +kernel
theorem d_Tokens_clearAll_18 : decode b_Tokens_clearAll 18 = .ok (.putfield 47, 3) := by decide +kernel
theorem d_Tokens_clearAll_21 : decode b_Tokens_clearAll 21 = .ok (.return_, 1) := by decide +kernel
theorem d_Tokens_from_0 : decode b_Tokens_from 0 = .ok (.aload_n 0, 1) := by decide +kernel
theorem d_Tokens_from_1 : decode b_Tokens_from 1 = .ok (.getfield 22, 3) := by decide +kernel
theorem d_Tokens_from_4 : decode b_Tokens_from 4 = .ok (.iload_n 1, 1) := by decide +kernel
theorem d_Tokens_from_5 : decode b_Tokens_from 5 = .ok (.laload, 1) := by decide +kernel
theorem d_Tokens_from_6 : decode b_Tokens_from 6 = .ok (.bipush 32, 2) := by decide +kernel
theorem d_Tokens_from_8 : decode b_Tokens_from 8 = .ok (.lushr, 1) := by decide +kernel
theorem d_Tokens_from_9 : decode b_Tokens_from 9 = .ok (.l2i, 1) := by decide +kernel
theorem d_Tokens_from_10 : decode b_Tokens_from 10 = .ok (.ireturn, 1) := by decide +kernel
theorem d_Tokens_fromOf_0 : decode b_Tokens_fromOf 0 = .ok (.lload_n 0, 1) := by decide +kernel
theorem d_Tokens_fromOf_1 : decode b_Tokens_fromOf 1 = .ok (.bipush 32, 2) := by decide +kernel
theorem d_Tokens_fromOf_3 : decode b_Tokens_fromOf 3 = .ok (.lushr, 1) := by decide +kernel
theorem d_Tokens_fromOf_4 : decode b_Tokens_fromOf 4 = .ok (.l2i, 1) := by decide +kernel
theorem d_Tokens_fromOf_5 : decode b_Tokens_fromOf 5 = .ok (.ireturn, 1) := by decide +kernel
theorem d_Tokens_isBehindBlank_0 : decode b_Tokens_isBehindBlank 0 = .ok (.iload_n 0, 1) := by decide +kernel
theorem d_Tokens_isBehindBlank_1 : decode b_Tokens_isBehindBlank 1 = .ok (.bipush 8, 2) := by decide +kernel
theorem d_Tokens_isBehindBlank_3 : decode b_Tokens_isBehindBlank 3 = .ok (.iand, 1) := by decide +kernel
theorem d_Tokens_isBehindBlank_4 : decode b_Tokens_isBehindBlank 4 = .ok (.ifCond .eq 7, 3) := by decide +kernel
theorem d_Tokens_isBehindBlank_7 : decode b_Tokens_isBehindBlank 7 = .ok (.iconst 1, 1) := by decide +kernel
theorem d_Tokens_isBehindBlank_8 : decode b_Tokens_isBehindBlank 8 = .ok (.goto 4, 3) := by decide +kernel
theorem d_Tokens_isBehindBlank_11 : decode b_Tokens_isBehindBlank 11 = .ok (.iconst 0, 1) := by decide +kernel
theorem d_Tokens_isBehindBlank_12 : decode b_Tokens_isBehindBlank 12 = .ok (.ireturn, 1) := by decide +kernel
theorem d_Tokens_isFirstLook_0 : decode b_Tokens_isFirstLook 0 = .ok (.iload_n 0, 1) := by decide +kernel
theorem d_Tokens_isFirstLook_1 : decode b_Tokens_isFirstLook 1 = .ok (.bipush 16, 2) := by decide +kernel
theorem d_Tokens_isFirstLook_3 : decode b_Tokens_isFirstLook 3 = .ok (.iand, 1) := by decide +kernel
theorem d_Tokens_isFirstLook_4 : decode b_Tokens_isFirstLook 4 = .ok (.ifCond .eq 7, 3) := by decide +kernel
theorem d_Tokens_isFirstLook_7 : decode b_Tokens_isFirstLook 7 = .ok (.iconst 1, 1) := by decide +kernel
theorem d_Tokens_isFirstLook_8 : decode b_Tokens_isFirstLook 8 = .ok (.goto 4, 3) := by decide +kernel
theorem d_Tokens_isFirstLook_11 : decode b_Tokens_isFirstLook 11 = .ok (.iconst 0, 1) := by decide +kernel
theorem d_Tokens_isFirstLook_12 : decode b_Tokens_isFirstLook 12 = .ok (.ireturn, 1) := by decide +kernel
theorem d_Tokens_isNarrow_0 : decode b_Tokens_isNarrow 0 = .ok (.aload_n 0, 1) := by decide +kernel
theorem d_Tokens_isNarrow_1 : decode b_Tokens_isNarrow 1 = .ok (.iload_n 1, 1) := by decide +kernel
theorem d_Tokens_isNarrow_2 : decode b_Tokens_isNarrow 2 = .ok (.invokevirtual 77, 3) := by decide +kernel
theorem d_Tokens_isNarrow_5 : decode b_Tokens_isNarrow 5 = .ok (.iload_n 2, 1) := by decide +kernel
theorem d_Tokens_isNarrow_6 : decode b_Tokens_isNarrow 6 = .ok (.if_icmp .ne 22, 3) := by decide +kernel
theorem d_Tokens_isNarrow_9 : decode b_Tokens_isNarrow 9 = .ok (.aload_n 0, 1) := by decide +kernel
theorem d_Tokens_isNarrow_10 : decode b_Tokens_isNarrow 10 = .ok (.getfield 12, 3) := by decide +kernel
theorem d_Tokens_isNarrow_13 : decode b_Tokens_isNarrow 13 = .ok (.aload_n 0, 1) := by decide +kernel
theorem d_Tokens_isNarrow_14 : decode b_Tokens_isNarrow 14 = .ok (.iload_n 1, 1) := by decide +kernel
theorem d_Tokens_isNarrow_15 : decode b_Tokens_isNarrow 15 = .ok (.invokevirtual 54, 3) := by decide +kernel
theorem d_Tokens_isNarrow_18 : decode b_Tokens_isNarrow 18 = .ok (.baload, 1) := by decide +kernel
theorem d_Tokens_isNarrow_19 : decode b_Tokens_isNarrow 19 = .ok (.bipush 76, 2) := by decide +kernel
theorem d_Tokens_isNarrow_21 : decode b_Tokens_isNarrow 21 = .ok (.if_icmp .eq 7, 3) := by decide +kernel
theorem d_Tokens_isNarrow_24 : decode b_Tokens_isNarrow 24 = .ok (.iconst 1, 1) := by decide +kernel
theorem d_Tokens_isNarrow_25 : decode b_Tokens_isNarrow 25 = .ok (.goto 4, 3) := by decide +kernel
theorem d_Tokens_isNarrow_28 : decode b_Tokens_isNarrow 28 = .ok (.iconst 0, 1) := by decide +kernel
theorem d_Tokens_isNarrow_29 : decode b_Tokens_isNarrow 29 = .ok (.ireturn, 1) := by decide +kernel
theorem d_Tokens_isOverfull_0 : decode b_Tokens_isOverfull 0 = .ok (.aload_n 0, 1) := by decide +kernel
theorem d_Tokens_isOverfull_1 : decode b_Tokens_isOverfull 1 = .ok (.getfield 39, 3) := by decide +kernel
theorem d_Tokens_isOverfull_4 : decode b_Tokens_isOverfull 4 = .ok (.ireturn, 1) := by decide +kernel
theorem d_Tokens_isSign_0 : decode b_Tokens_isSign 0 = .ok (.aload_n 0, 1) := by decide +kernel
theorem d_Tokens_isSign_1 : decode b_Tokens_isSign 1 = .ok (.iload_n 1, 1) := by decide +kernel
theorem d_Tokens_isSign_2 : decode b_Tokens_isSign 2 = .ok (.invokevirtual 50, 3) := by decide +kernel
theorem d_Tokens_isSign_5 : decode b_Tokens_isSign 5 = .ok (.iconst 1, 1) := by decide +kernel
theorem d_Tokens_isSign_6 : decode b_Tokens_isSign 6 = .ok (.if_icmp .ne 21, 3) := by decide +kernel
theorem d_Tokens_isSign_9 : decode b_Tokens_isSign 9 = .ok (.aload_n 0, 1) := by decide +kernel
theorem d_Tokens_isSign_10 : decode b_Tokens_isSign 10 = .ok (.getfield 12, 3) := by decide +kernel
theorem d_Tokens_isSign_13 : decode b_Tokens_isSign 13 = .ok (.aload_n 0, 1) := by decide +kernel
theorem d_Tokens_isSign_14 : decode b_Tokens_isSign 14 = .ok (.iload_n 1, 1) := by decide +kernel
theorem d_Tokens_isSign_15 : decode b_Tokens_isSign 15 = .ok (.invokevirtual 54, 3) := by decide +kernel
theorem d_Tokens_isSign_18 : decode b_Tokens_isSign 18 = .ok (.baload, 1) := by decide +kernel
theorem d_Tokens_isSign_19 : decode b_Tokens_isSign 19 = .ok (.iload_n 2, 1) := by decide +kernel
theorem d_Tokens_isSign_20 : decode b_Tokens_isSign 20 = .ok (.if_icmp .ne 7, 3) := by decide +kernel
theorem d_Tokens_isSign_23 : decode b_Tokens_isSign 23 = .ok (.iconst 1, 1) := by decide +kernel
theorem d_Tokens_isSign_24 : decode b_Tokens_isSign 24 = .ok (.goto 4, 3) := by decide +kernel
theorem d_Tokens_isSign_27 : decode b_Tokens_isSign 27 = .ok (.iconst 0, 1) := by decide +kernel
theorem d_Tokens_isSign_28 : decode b_Tokens_isSign 28 = .ok (.ireturn, 1) := by decide +kernel
theorem d_Tokens_kind_0 : decode b_Tokens_kind 0 = .ok (.aload_n 0, 1) := by decide +kernel
theorem d_Tokens_kind_1 : decode b_Tokens_kind 1 = .ok (.getfield 26, 3) := by decide +kernel
theorem d_Tokens_kind_4 : decode b_Tokens_kind 4 = .ok (.iload_n 1, 1) := by decide +kernel
theorem d_Tokens_kind_5 : decode b_Tokens_kind 5 = .ok (.iaload, 1) := by decide +kernel
theorem d_Tokens_kind_6 : decode b_Tokens_kind 6 = .ok (.bipush 7, 2) := by decide +kernel
theorem d_Tokens_kind_8 : decode b_Tokens_kind 8 = .ok (.iand, 1) := by decide +kernel
theorem d_Tokens_kind_9 : decode b_Tokens_kind 9 = .ok (.ireturn, 1) := by decide +kernel
theorem d_Tokens_kindOf_0 : decode b_Tokens_kindOf 0 = .ok (.iload_n 0, 1) := by decide +kernel
theorem d_Tokens_kindOf_1 : decode b_Tokens_kindOf 1 = .ok (.bipush 7, 2) := by decide +kernel
theorem d_Tokens_kindOf_3 : decode b_Tokens_kindOf 3 = .ok (.iand, 1) := by decide +kernel
theorem d_Tokens_kindOf_4 : decode b_Tokens_kindOf 4 = .ok (.ireturn, 1) := by decide +kernel
theorem d_Tokens_length_0 : decode b_Tokens_length 0 = .ok (.aload_n 0, 1) := by decide +kernel
theorem d_Tokens_length_1 : decode b_Tokens_length 1 = .ok (.getfield 22, 3) := by decide +kernel
theorem d_Tokens_length_4 : decode b_Tokens_length 4 = .ok (.iload_n 1, 1) := by decide +kernel
theorem d_Tokens_length_5 : decode b_Tokens_length 5 = .ok (.laload, 1) := by decide +kernel
theorem d_Tokens_length_6 : decode b_Tokens_length 6 = .ok (.l2i, 1) := by decide +kernel
theorem d_Tokens_length_7 : decode b_Tokens_length 7 = .ok (.ireturn, 1) := by decide +kernel
theorem d_Tokens_lengthOf_0 : decode b_Tokens_lengthOf 0 = .ok (.lload_n 0, 1) := by decide +kernel
theorem d_Tokens_lengthOf_1 : decode b_Tokens_lengthOf 1 = .ok (.l2i, 1) := by decide +kernel
theorem d_Tokens_lengthOf_2 : decode b_Tokens_lengthOf 2 = .ok (.ireturn, 1) := by decide +kernel
theorem d_Tokens_line_0 : decode b_Tokens_line 0 = .ok (.aload_n 0, 1) := by decide +kernel
theorem d_Tokens_line_1 : decode b_Tokens_line 1 = .ok (.getfield 26, 3) := by decide +kernel
theorem d_Tokens_line_4 : decode b_Tokens_line 4 = .ok (.iload_n 1, 1) := by decide +kernel
theorem d_Tokens_line_5 : decode b_Tokens_line 5 = .ok (.iaload, 1) := by decide +kernel
theorem d_Tokens_line_6 : decode b_Tokens_line 6 = .ok (.bipush 15, 2) := by decide +kernel
theorem d_Tokens_line_8 : decode b_Tokens_line 8 = .ok (.iushr, 1) := by decide +kernel
theorem d_Tokens_line_9 : decode b_Tokens_line 9 = .ok (.ireturn, 1) := by decide +kernel
theorem d_Tokens_lineAt_0 : decode b_Tokens_lineAt 0 = .ok (.aload_n 0, 1) := by decide +kernel
theorem d_Tokens_lineAt_1 : decode b_Tokens_lineAt 1 = .ok (.getfield 17, 3) := by decide +kernel
theorem d_Tokens_lineAt_4 : decode b_Tokens_lineAt 4 = .ok (.iload_n 1, 1) := by decide +kernel
theorem d_Tokens_lineAt_5 : decode b_Tokens_lineAt 5 = .ok (.ldc 43, 2) := by decide +kernel
theorem d_Tokens_lineAt_7 : decode b_Tokens_lineAt 7 = .ok (.isub, 1) := by decide +kernel
theorem d_Tokens_lineAt_8 : decode b_Tokens_lineAt 8 = .ok (.caload, 1) := by decide +kernel
theorem d_Tokens_lineAt_9 : decode b_Tokens_lineAt 9 = .ok (.ireturn, 1) := by decide +kernel
theorem d_Tokens_lineOf_0 : decode b_Tokens_lineOf 0 = .ok (.iload_n 0, 1) := by decide +kernel
theorem d_Tokens_lineOf_1 : decode b_Tokens_lineOf 1 = .ok (.bipush 15, 2) := by decide +kernel
theorem d_Tokens_lineOf_3 : decode b_Tokens_lineOf 3 = .ok (.iushr, 1) := by decide +kernel
theorem d_Tokens_lineOf_4 : decode b_Tokens_lineOf 4 = .ok (.ireturn, 1) := by decide +kernel
theorem d_Tokens_looking_0 : decode b_Tokens_looking 0 = .ok (.iload_n 0, 1) := by decide +kernel
theorem d_Tokens_looking_1 : decode b_Tokens_looking 1 = .ok (.iload_n 1, 1) := by decide +kernel
theorem d_Tokens_looking_2 : decode b_Tokens_looking 2 = .ok (.ifCond .eq 8, 3) := by decide +kernel
theorem d_Tokens_looking_5 : decode b_Tokens_looking 5 = .ok (.bipush 8, 2) := by decide +kernel
theorem d_Tokens_looking_7 : decode b_Tokens_looking 7 = .ok (.goto 4, 3) := by decide +kernel
theorem d_Tokens_looking_10 : decode b_Tokens_looking 10 = .ok (.iconst 0, 1) := by decide +kernel
theorem d_Tokens_looking_11 : decode b_Tokens_looking 11 = .ok (.ior, 1) := by decide +kernel
theorem d_Tokens_looking_12 : decode b_Tokens_looking 12 = .ok (.iload_n 2, 1) := by decide +kernel
theorem d_Tokens_looking_13 : decode b_Tokens_looking 13 = .ok (.ifCond .eq 8, 3) := by decide +kernel
theorem d_Tokens_looking_16 : decode b_Tokens_looking 16 = .ok (.bipush 16, 2) := by decide +kernel
theorem d_Tokens_looking_18 : decode b_Tokens_looking 18 = .ok (.goto 4, 3) := by decide +kernel
theorem d_Tokens_looking_21 : decode b_Tokens_looking 21 = .ok (.iconst 0, 1) := by decide +kernel
theorem d_Tokens_looking_22 : decode b_Tokens_looking 22 = .ok (.ior, 1) := by decide +kernel
theorem d_Tokens_looking_23 : decode b_Tokens_looking 23 = .ok (.iload_n 3, 1) := by decide +kernel
theorem d_Tokens_looking_24 : decode b_Tokens_looking 24 = .ok (.bipush 15, 2) := by decide +kernel
theorem d_Tokens_looking_26 : decode b_Tokens_looking 26 = .ok (.ishl, 1) := by decide +kernel
theorem d_Tokens_looking_27 : decode b_Tokens_looking 27 = .ok (.ior, 1) := by decide +kernel
theorem d_Tokens_looking_28 : decode b_Tokens_looking 28 = .ok (.ireturn, 1) := by decide +kernel
theorem d_Tokens_make_0 : decode b_Tokens_make 0 = .ok (.aload_n 0, 1) := by decide +kernel
theorem d_Tokens_make_1 : decode b_Tokens_make 1 = .ok (.getfield 35, 3) := by decide +kernel
theorem d_Tokens_make_4 : decode b_Tokens_make 4 = .ok (.ldc 33, 2) := by decide +kernel
theorem d_Tokens_make_6 : decode b_Tokens_make 6 = .ok (.if_icmp .lt 9, 3) := by decide +kernel
theorem d_Tokens_make_9 : decode b_Tokens_make 9 = .ok (.aload_n 0, 1) := by decide +kernel
theorem d_Tokens_make_10 : decode b_Tokens_make 10 = .ok (.iconst 1, 1) := by decide +kernel
theorem d_Tokens_make_11 : decode b_Tokens_make 11 = .ok (.putfield 39, 3) := by decide +kernel
theorem d_Tokens_make_14 : decode b_Tokens_make 14 = .ok (.return_, 1) := by decide +kernel
theorem d_Tokens_make_15 : decode b_Tokens_make 15 = .ok (.aload_n 0, 1) := by decide +kernel
theorem d_Tokens_make_16 : decode b_Tokens_make 16 = .ok (.getfield 12, 3) := by decide +kernel
theorem d_Tokens_make_19 : decode b_Tokens_make 19 = .ok (.aload_n 0, 1) := by decide +kernel
theorem d_Tokens_make_20 : decode b_Tokens_make 20 = .ok (.getfield 35, 3) := by decide +kernel
theorem d_Tokens_make_23 : decode b_Tokens_make 23 = .ok (.iload_n 1, 1) := by decide +kernel
theorem d_Tokens_make_24 : decode b_Tokens_make 24 = .ok (.i2b, 1) := by decide +kernel
theorem d_Tokens_make_25 : decode b_Tokens_make 25 = .ok (.bastore, 1) := by decide +kernel
theorem d_Tokens_make_26 : decode b_Tokens_make 26 = .ok (.aload_n 0, 1) := by decide +kernel
theorem d_Tokens_make_27 : decode b_Tokens_make 27 = .ok (.dup, 1) := by decide +kernel
theorem d_Tokens_make_28 : decode b_Tokens_make 28 = .ok (.getfield 35, 3) := by decide +kernel
theorem d_Tokens_make_31 : decode b_Tokens_make 31 = .ok (.iconst 1, 1) := by decide +kernel
theorem d_Tokens_make_32 : decode b_Tokens_make 32 = .ok (.iadd, 1) := by decide +kernel
theorem d_Tokens_make_33 : decode b_Tokens_make 33 = .ok (.putfield 35, 3) := by decide +kernel
theorem d_Tokens_make_36 : decode b_Tokens_make 36 = .ok (.return_, 1) := by decide +kernel
theorem d_Tokens_moved_0 : decode b_Tokens_moved 0 = .ok (.iload_n 0, 1) := by decide +kernel
theorem d_Tokens_moved_1 : decode b_Tokens_moved 1 = .ok (.bipush (-17), 2) := by decide +kernel
theorem d_Tokens_moved_3 : decode b_Tokens_moved 3 = .ok (.iand, 1) := by decide +kernel
theorem d_Tokens_moved_4 : decode b_Tokens_moved 4 = .ok (.ireturn, 1) := by decide +kernel
theorem d_Tokens_placedAs_0 : decode b_Tokens_placedAs 0 = .ok (.iload_n 0, 1) := by decide +kernel
theorem d_Tokens_placedAs_1 : decode b_Tokens_placedAs 1 = .ok (.bipush (-25), 2) := by decide +kernel
theorem d_Tokens_placedAs_3 : decode b_Tokens_placedAs 3 = .ok (.iand, 1) := by decide +kernel
theorem d_Tokens_placedAs_4 : decode b_Tokens_placedAs 4 = .ok (.iload_n 1, 1) := by decide +kernel
theorem d_Tokens_placedAs_5 : decode b_Tokens_placedAs 5 = .ok (.bipush 24, 2) := by decide +kernel
theorem d_Tokens_placedAs_7 : decode b_Tokens_placedAs 7 = .ok (.iand, 1) := by decide +kernel
theorem d_Tokens_placedAs_8 : decode b_Tokens_placedAs 8 = .ok (.ior, 1) := by decide +kernel
theorem d_Tokens_placedAs_9 : decode b_Tokens_placedAs 9 = .ok (.ireturn, 1) := by decide +kernel
theorem d_Tokens_scannedKind_0 : decode b_Tokens_scannedKind 0 = .ok (.aload_n 0, 1) := by decide +kernel
theorem d_Tokens_scannedKind_1 : decode b_Tokens_scannedKind 1 = .ok (.getfield 102, 3) := by decide +kernel
theorem d_Tokens_scannedKind_4 : decode b_Tokens_scannedKind 4 = .ok (.ireturn, 1) := by decide +kernel
theorem d_Tokens_setOf_0 : decode b_Tokens_setOf 0 = .ok (.iload_n 0, 1) := by decide +kernel
theorem d_Tokens_setOf_1 : decode b_Tokens_setOf 1 = .ok (.iconst 5, 1) := by decide +kernel
theorem d_Tokens_setOf_2 : decode b_Tokens_setOf 2 = .ok (.ishr, 1) := by decide +kernel
theorem d_Tokens_setOf_3 : decode b_Tokens_setOf 3 = .ok (.sipush 1023, 3) := by decide +kernel
theorem d_Tokens_setOf_6 : decode b_Tokens_setOf 6 = .ok (.iand, 1) := by decide +kernel
theorem d_Tokens_setOf_7 : decode b_Tokens_setOf 7 = .ok (.ireturn, 1) := by decide +kernel
theorem d_Tokens_spelled_0 : decode b_Tokens_spelled 0 = .ok (.iload_n 0, 1) := by decide +kernel
theorem d_Tokens_spelled_1 : decode b_Tokens_spelled 1 = .ok (.i2l, 1) := by decide +kernel
theorem d_Tokens_spelled_2 : decode b_Tokens_spelled 2 = .ok (.bipush 32, 2) := by decide +kernel
theorem d_Tokens_spelled_4 : decode b_Tokens_spelled 4 = .ok (.lshl, 1) := by decide +kernel
theorem d_Tokens_spelled_5 : decode b_Tokens_spelled 5 = .ok (.iload_n 1, 1) := by decide +kernel
theorem d_Tokens_spelled_6 : decode b_Tokens_spelled 6 = .ok (.i2l, 1) := by decide +kernel
theorem d_Tokens_spelled_7 : decode b_Tokens_spelled 7 = .ok (.lor, 1) := by decide +kernel
theorem d_Tokens_spelled_8 : decode b_Tokens_spelled 8 = .ok (.lreturn, 1) := by decide +kernel
theorem d_Tokens_withKind_0 : decode b_Tokens_withKind 0 = .ok (.iload_n 0, 1) := by decide +kernel
theorem d_Tokens_withKind_1 : decode b_Tokens_withKind 1 = .ok (.bipush (-8), 2) := by decide +kernel
theorem d_Tokens_withKind_3 : decode b_Tokens_withKind 3 = .ok (.iand, 1) := by decide +kernel
theorem d_Tokens_withKind_4 : decode b_Tokens_withKind 4 = .ok (.iload_n 1, 1) := by decide +kernel
theorem d_Tokens_withKind_5 : decode b_Tokens_withKind 5 = .ok (.ior, 1) := by decide +kernel
theorem d_Tokens_withKind_6 : decode b_Tokens_withKind 6 = .ok (.ireturn, 1) := by decide +kernel
theorem d_Tokens_withLine_0 : decode b_Tokens_withLine 0 = .ok (.iload_n 0, 1) := by decide +kernel
theorem d_Tokens_withLine_1 : decode b_Tokens_withLine 1 = .ok (.sipush 32767, 3) := by decide +kernel
theorem d_Tokens_withLine_4 : decode b_Tokens_withLine 4 = .ok (.iand, 1) := by decide +kernel
theorem d_Tokens_withLine_5 : decode b_Tokens_withLine 5 = .ok (.iload_n 1, 1) := by decide +kernel
theorem d_Tokens_withLine_6 : decode b_Tokens_withLine 6 = .ok (.bipush 15, 2) := by decide +kernel
theorem d_Tokens_withLine_8 : decode b_Tokens_withLine 8 = .ok (.ishl, 1) := by decide +kernel
theorem d_Tokens_withLine_9 : decode b_Tokens_withLine 9 = .ok (.ior, 1) := by decide +kernel
theorem d_Tokens_withLine_10 : decode b_Tokens_withLine 10 = .ok (.ireturn, 1) := by decide +kernel
theorem d_Tokens_withSet_0 : decode b_Tokens_withSet 0 = .ok (.iload_n 0, 1) := by decide +kernel
theorem d_Tokens_withSet_1 : decode b_Tokens_withSet 1 = .ok (.sipush (-32737), 3) := by decide +kernel
theorem d_Tokens_withSet_4 : decode b_Tokens_withSet 4 = .ok (.iand, 1) := by decide +kernel
theorem d_Tokens_withSet_5 : decode b_Tokens_withSet 5 = .ok (.iload_n 1, 1) := by decide +kernel
theorem d_Tokens_withSet_6 : decode b_Tokens_withSet 6 = .ok (.iconst 5, 1) := by decide +kernel
theorem d_Tokens_withSet_7 : decode b_Tokens_withSet 7 = .ok (.ishl, 1) := by decide +kernel
theorem d_Tokens_withSet_8 : decode b_Tokens_withSet 8 = .ok (.ior, 1) := by decide +kernel
theorem d_Tokens_withSet_9 : decode b_Tokens_withSet 9 = .ok (.ireturn, 1) := by decide +kernel
def r_MM_isLetter (S : sS) (v1 : Int32) : Int32 := if v1 < (65 : Int32) then (if v1 < (97 : Int32) then (if v1 = (95 : Int32) then 1 else 0) else (if v1 ≤ (122 : Int32) then 1 else (if v1 = (95 : Int32) then 1 else 0))) else (if v1 ≤ (90 : Int32) then 1 else (if v1 < (97 : Int32) then (if v1 = (95 : Int32) then 1 else 0) else (if v1 ≤ (122 : Int32) then 1 else (if v1 = (95 : Int32) then 1 else 0))))
abbrev rm_a_MM_isLetter : Room := { frames := 0, cells := 0, slots := 0, locals := 0 }
set_option maxHeartbeats 4000000 in
set_option maxRecDepth 100000 in
theorem a_MM_isLetter (l : Launch) (g : gG) (sz : Nat) (ad : Nat → Nat) (S : sS) (v1 : Int32) : Cz l y_MM_isLetter b_MM_isLetter 1 rm_a_MM_isLetter g [.int v1] (Sw shC g ad S) sz (fun r w => ∃ S' : sS, w = Sw shC g ad S' ∧ r = r_MM_isLetter S v1 ∧ S' = S) := by
  refine startZ (by decide) (Nat.le_of_ble_eq_true rfl) ?_
  intro p e s m below meth c A ls hx hb hr hml hlocks hmn hown htt hN hA hP hK hD hS hl
  have hown : s.vm.findClass "MacroMill" = some m.cls := hown
  have hl : lv_has ls 1 [(0, .int v1)] := hl
  refine lv_iload_n hx hb d_MM_isLetter_0 rfl (lv_at hl 0 rfl) ?_
  refine lv_bipush (v := 65) hx hb d_MM_isLetter_1 (by decide) ?_
  refine lv_icmp_lt (tgt := 12) hx hb d_MM_isLetter_3 (by decide) (fun hc1 => ?_) (fun hc1 => ?_)
  · refine lv_iload_n hx hb d_MM_isLetter_12 rfl (lv_at hl 0 rfl) ?_
    refine lv_bipush (v := 97) hx hb d_MM_isLetter_13 (by decide) ?_
    refine lv_icmp_lt (tgt := 24) hx hb d_MM_isLetter_15 (by decide) (fun hc2 => ?_) (fun hc2 => ?_)
    · refine lv_iload_n hx hb d_MM_isLetter_24 rfl (lv_at hl 0 rfl) ?_
      refine lv_bipush (v := 95) hx hb d_MM_isLetter_25 (by decide) ?_
      refine lv_icmp_ne (tgt := 34) hx hb d_MM_isLetter_27 (by decide) (fun hc3 => ?_) (fun hc3 => ?_)
      · refine lv_iconst (v := 0) hx hb d_MM_isLetter_34 (by decide) ?_
        exact fin_z (g := g) (ws := Sw shC g ad S) (v := 0) hx hb hr hlocks rfl (by decide +kernel) (by decide +kernel) hP hD hS ⟨_, rfl, (by unfold r_MM_isLetter; rw [if_pos hc1, if_pos hc2, if_neg hc3]), rfl⟩ d_MM_isLetter_35
      · refine lv_iconst (v := 1) hx hb d_MM_isLetter_30 (by decide) ?_
        refine lv_goto (tgt := 35) hx hb d_MM_isLetter_31 (by decide) ?_
        exact fin_z (g := g) (ws := Sw shC g ad S) (v := 1) hx hb hr hlocks rfl (by decide +kernel) (by decide +kernel) hP hD hS ⟨_, rfl, (by unfold r_MM_isLetter; rw [if_pos hc1, if_pos hc2, if_pos hc3]), rfl⟩ d_MM_isLetter_35
    · refine lv_iload_n hx hb d_MM_isLetter_18 rfl (lv_at hl 0 rfl) ?_
      refine lv_bipush (v := 122) hx hb d_MM_isLetter_19 (by decide) ?_
      refine lv_icmp_le (tgt := 30) hx hb d_MM_isLetter_21 (by decide) (fun hc4 => ?_) (fun hc4 => ?_)
      · refine lv_iconst (v := 1) hx hb d_MM_isLetter_30 (by decide) ?_
        refine lv_goto (tgt := 35) hx hb d_MM_isLetter_31 (by decide) ?_
        exact fin_z (g := g) (ws := Sw shC g ad S) (v := 1) hx hb hr hlocks rfl (by decide +kernel) (by decide +kernel) hP hD hS ⟨_, rfl, (by unfold r_MM_isLetter; rw [if_pos hc1, if_neg hc2, if_pos hc4]), rfl⟩ d_MM_isLetter_35
      · refine lv_iload_n hx hb d_MM_isLetter_24 rfl (lv_at hl 0 rfl) ?_
        refine lv_bipush (v := 95) hx hb d_MM_isLetter_25 (by decide) ?_
        refine lv_icmp_ne (tgt := 34) hx hb d_MM_isLetter_27 (by decide) (fun hc5 => ?_) (fun hc5 => ?_)
        · refine lv_iconst (v := 0) hx hb d_MM_isLetter_34 (by decide) ?_
          exact fin_z (g := g) (ws := Sw shC g ad S) (v := 0) hx hb hr hlocks rfl (by decide +kernel) (by decide +kernel) hP hD hS ⟨_, rfl, (by unfold r_MM_isLetter; rw [if_pos hc1, if_neg hc2, if_neg hc4, if_neg hc5]), rfl⟩ d_MM_isLetter_35
        · refine lv_iconst (v := 1) hx hb d_MM_isLetter_30 (by decide) ?_
          refine lv_goto (tgt := 35) hx hb d_MM_isLetter_31 (by decide) ?_
          exact fin_z (g := g) (ws := Sw shC g ad S) (v := 1) hx hb hr hlocks rfl (by decide +kernel) (by decide +kernel) hP hD hS ⟨_, rfl, (by unfold r_MM_isLetter; rw [if_pos hc1, if_neg hc2, if_neg hc4, if_pos hc5]), rfl⟩ d_MM_isLetter_35
  · refine lv_iload_n hx hb d_MM_isLetter_6 rfl (lv_at hl 0 rfl) ?_
    refine lv_bipush (v := 90) hx hb d_MM_isLetter_7 (by decide) ?_
    refine lv_icmp_le (tgt := 30) hx hb d_MM_isLetter_9 (by decide) (fun hc6 => ?_) (fun hc6 => ?_)
    · refine lv_iconst (v := 1) hx hb d_MM_isLetter_30 (by decide) ?_
      refine lv_goto (tgt := 35) hx hb d_MM_isLetter_31 (by decide) ?_
      exact fin_z (g := g) (ws := Sw shC g ad S) (v := 1) hx hb hr hlocks rfl (by decide +kernel) (by decide +kernel) hP hD hS ⟨_, rfl, (by unfold r_MM_isLetter; rw [if_neg hc1, if_pos hc6]), rfl⟩ d_MM_isLetter_35
    · refine lv_iload_n hx hb d_MM_isLetter_12 rfl (lv_at hl 0 rfl) ?_
      refine lv_bipush (v := 97) hx hb d_MM_isLetter_13 (by decide) ?_
      refine lv_icmp_lt (tgt := 24) hx hb d_MM_isLetter_15 (by decide) (fun hc7 => ?_) (fun hc7 => ?_)
      · refine lv_iload_n hx hb d_MM_isLetter_24 rfl (lv_at hl 0 rfl) ?_
        refine lv_bipush (v := 95) hx hb d_MM_isLetter_25 (by decide) ?_
        refine lv_icmp_ne (tgt := 34) hx hb d_MM_isLetter_27 (by decide) (fun hc8 => ?_) (fun hc8 => ?_)
        · refine lv_iconst (v := 0) hx hb d_MM_isLetter_34 (by decide) ?_
          exact fin_z (g := g) (ws := Sw shC g ad S) (v := 0) hx hb hr hlocks rfl (by decide +kernel) (by decide +kernel) hP hD hS ⟨_, rfl, (by unfold r_MM_isLetter; rw [if_neg hc1, if_neg hc6, if_pos hc7, if_neg hc8]), rfl⟩ d_MM_isLetter_35
        · refine lv_iconst (v := 1) hx hb d_MM_isLetter_30 (by decide) ?_
          refine lv_goto (tgt := 35) hx hb d_MM_isLetter_31 (by decide) ?_
          exact fin_z (g := g) (ws := Sw shC g ad S) (v := 1) hx hb hr hlocks rfl (by decide +kernel) (by decide +kernel) hP hD hS ⟨_, rfl, (by unfold r_MM_isLetter; rw [if_neg hc1, if_neg hc6, if_pos hc7, if_pos hc8]), rfl⟩ d_MM_isLetter_35
      · refine lv_iload_n hx hb d_MM_isLetter_18 rfl (lv_at hl 0 rfl) ?_
        refine lv_bipush (v := 122) hx hb d_MM_isLetter_19 (by decide) ?_
        refine lv_icmp_le (tgt := 30) hx hb d_MM_isLetter_21 (by decide) (fun hc9 => ?_) (fun hc9 => ?_)
        · refine lv_iconst (v := 1) hx hb d_MM_isLetter_30 (by decide) ?_
          refine lv_goto (tgt := 35) hx hb d_MM_isLetter_31 (by decide) ?_
          exact fin_z (g := g) (ws := Sw shC g ad S) (v := 1) hx hb hr hlocks rfl (by decide +kernel) (by decide +kernel) hP hD hS ⟨_, rfl, (by unfold r_MM_isLetter; rw [if_neg hc1, if_neg hc6, if_neg hc7, if_pos hc9]), rfl⟩ d_MM_isLetter_35
        · refine lv_iload_n hx hb d_MM_isLetter_24 rfl (lv_at hl 0 rfl) ?_
          refine lv_bipush (v := 95) hx hb d_MM_isLetter_25 (by decide) ?_
          refine lv_icmp_ne (tgt := 34) hx hb d_MM_isLetter_27 (by decide) (fun hc10 => ?_) (fun hc10 => ?_)
          · refine lv_iconst (v := 0) hx hb d_MM_isLetter_34 (by decide) ?_
            show W _ _ _ _ _ _ _ _ _ _ _ _ _ _ _ (F0 _ 35 _ _)
            exact fin_z (g := g) (ws := Sw shC g ad S) (v := 0) hx hb hr hlocks rfl (by decide +kernel) (by decide +kernel) hP hD hS ⟨_, rfl, (by unfold r_MM_isLetter; rw [if_neg hc1, if_neg hc6, if_neg hc7, if_neg hc9, if_neg hc10]), rfl⟩ d_MM_isLetter_35
          · refine lv_iconst (v := 1) hx hb d_MM_isLetter_30 (by decide) ?_
            show W _ _ _ _ _ _ _ _ _ _ _ _ _ _ _ (F0 _ 31 _ _)
            refine lv_goto (tgt := 35) hx hb d_MM_isLetter_31 (by decide) ?_
            exact fin_z (g := g) (ws := Sw shC g ad S) (v := 1) hx hb hr hlocks rfl (by decide +kernel) (by decide +kernel) hP hD hS ⟨_, rfl, (by unfold r_MM_isLetter; rw [if_neg hc1, if_neg hc6, if_neg hc7, if_neg hc9, if_pos hc10]), rfl⟩ d_MM_isLetter_35
def r_MM_isDigit (S : sS) (v1 : Int32) : Int32 := if v1 < (48 : Int32) then 0 else (if (57 : Int32) < v1 then 0 else 1)
abbrev rm_a_MM_isDigit : Room := { frames := 0, cells := 0, slots := 0, locals := 0 }
set_option maxHeartbeats 4000000 in
set_option maxRecDepth 100000 in
theorem a_MM_isDigit (l : Launch) (g : gG) (sz : Nat) (ad : Nat → Nat) (S : sS) (v1 : Int32) : Cz l y_MM_isDigit b_MM_isDigit 1 rm_a_MM_isDigit g [.int v1] (Sw shC g ad S) sz (fun r w => ∃ S' : sS, w = Sw shC g ad S' ∧ r = r_MM_isDigit S v1 ∧ S' = S) := by
  refine startZ (by decide) (Nat.le_of_ble_eq_true rfl) ?_
  intro p e s m below meth c A ls hx hb hr hml hlocks hmn hown htt hN hA hP hK hD hS hl
  have hown : s.vm.findClass "MacroMill" = some m.cls := hown
  have hl : lv_has ls 1 [(0, .int v1)] := hl
  refine lv_iload_n hx hb d_MM_isDigit_0 rfl (lv_at hl 0 rfl) ?_
  refine lv_bipush (v := 48) hx hb d_MM_isDigit_1 (by decide) ?_
  refine lv_icmp_lt (tgt := 16) hx hb d_MM_isDigit_3 (by decide) (fun hc1 => ?_) (fun hc1 => ?_)
  · refine lv_iconst (v := 0) hx hb d_MM_isDigit_16 (by decide) ?_
    exact fin_z (g := g) (ws := Sw shC g ad S) (v := 0) hx hb hr hlocks rfl (by decide +kernel) (by decide +kernel) hP hD hS ⟨_, rfl, (by unfold r_MM_isDigit; rw [if_pos hc1]), rfl⟩ d_MM_isDigit_17
  · refine lv_iload_n hx hb d_MM_isDigit_6 rfl (lv_at hl 0 rfl) ?_
    refine lv_bipush (v := 57) hx hb d_MM_isDigit_7 (by decide) ?_
    refine lv_icmp_gt (tgt := 16) hx hb d_MM_isDigit_9 (by decide) (fun hc2 => ?_) (fun hc2 => ?_)
    · refine lv_iconst (v := 0) hx hb d_MM_isDigit_16 (by decide) ?_
      exact fin_z (g := g) (ws := Sw shC g ad S) (v := 0) hx hb hr hlocks rfl (by decide +kernel) (by decide +kernel) hP hD hS ⟨_, rfl, (by unfold r_MM_isDigit; rw [if_neg hc1, if_pos hc2]), rfl⟩ d_MM_isDigit_17
    · refine lv_iconst (v := 1) hx hb d_MM_isDigit_12 (by decide) ?_
      refine lv_goto (tgt := 17) hx hb d_MM_isDigit_13 (by decide) ?_
      exact fin_z (g := g) (ws := Sw shC g ad S) (v := 1) hx hb hr hlocks rfl (by decide +kernel) (by decide +kernel) hP hD hS ⟨_, rfl, (by unfold r_MM_isDigit; rw [if_neg hc1, if_neg hc2]), rfl⟩ d_MM_isDigit_17
def r_MM_isBlank (S : sS) (v1 : Int32) : Int32 := if v1 = (32 : Int32) then 1 else (if v1 = (9 : Int32) then 1 else (if v1 < (11 : Int32) then 0 else (if (13 : Int32) < v1 then 0 else 1)))
abbrev rm_a_MM_isBlank : Room := { frames := 0, cells := 0, slots := 0, locals := 0 }
set_option maxHeartbeats 4000000 in
set_option maxRecDepth 100000 in
theorem a_MM_isBlank (l : Launch) (g : gG) (sz : Nat) (ad : Nat → Nat) (S : sS) (v1 : Int32) : Cz l y_MM_isBlank b_MM_isBlank 1 rm_a_MM_isBlank g [.int v1] (Sw shC g ad S) sz (fun r w => ∃ S' : sS, w = Sw shC g ad S' ∧ r = r_MM_isBlank S v1 ∧ S' = S) := by
  refine startZ (by decide) (Nat.le_of_ble_eq_true rfl) ?_
  intro p e s m below meth c A ls hx hb hr hml hlocks hmn hown htt hN hA hP hK hD hS hl
  have hown : s.vm.findClass "MacroMill" = some m.cls := hown
  have hl : lv_has ls 1 [(0, .int v1)] := hl
  refine lv_iload_n hx hb d_MM_isBlank_0 rfl (lv_at hl 0 rfl) ?_
  refine lv_bipush (v := 32) hx hb d_MM_isBlank_1 (by decide) ?_
  refine lv_icmp_eq (tgt := 24) hx hb d_MM_isBlank_3 (by decide) (fun hc1 => ?_) (fun hc1 => ?_)
  · refine lv_iconst (v := 1) hx hb d_MM_isBlank_24 (by decide) ?_
    refine lv_goto (tgt := 29) hx hb d_MM_isBlank_25 (by decide) ?_
    exact fin_z (g := g) (ws := Sw shC g ad S) (v := 1) hx hb hr hlocks rfl (by decide +kernel) (by decide +kernel) hP hD hS ⟨_, rfl, (by unfold r_MM_isBlank; rw [if_pos hc1]), rfl⟩ d_MM_isBlank_29
  · refine lv_iload_n hx hb d_MM_isBlank_6 rfl (lv_at hl 0 rfl) ?_
    refine lv_bipush (v := 9) hx hb d_MM_isBlank_7 (by decide) ?_
    refine lv_icmp_eq (tgt := 24) hx hb d_MM_isBlank_9 (by decide) (fun hc2 => ?_) (fun hc2 => ?_)
    · refine lv_iconst (v := 1) hx hb d_MM_isBlank_24 (by decide) ?_
      refine lv_goto (tgt := 29) hx hb d_MM_isBlank_25 (by decide) ?_
      exact fin_z (g := g) (ws := Sw shC g ad S) (v := 1) hx hb hr hlocks rfl (by decide +kernel) (by decide +kernel) hP hD hS ⟨_, rfl, (by unfold r_MM_isBlank; rw [if_neg hc1, if_pos hc2]), rfl⟩ d_MM_isBlank_29
    · refine lv_iload_n hx hb d_MM_isBlank_12 rfl (lv_at hl 0 rfl) ?_
      refine lv_bipush (v := 11) hx hb d_MM_isBlank_13 (by decide) ?_
      refine lv_icmp_lt (tgt := 28) hx hb d_MM_isBlank_15 (by decide) (fun hc3 => ?_) (fun hc3 => ?_)
      · refine lv_iconst (v := 0) hx hb d_MM_isBlank_28 (by decide) ?_
        exact fin_z (g := g) (ws := Sw shC g ad S) (v := 0) hx hb hr hlocks rfl (by decide +kernel) (by decide +kernel) hP hD hS ⟨_, rfl, (by unfold r_MM_isBlank; rw [if_neg hc1, if_neg hc2, if_pos hc3]), rfl⟩ d_MM_isBlank_29
      · refine lv_iload_n hx hb d_MM_isBlank_18 rfl (lv_at hl 0 rfl) ?_
        refine lv_bipush (v := 13) hx hb d_MM_isBlank_19 (by decide) ?_
        refine lv_icmp_gt (tgt := 28) hx hb d_MM_isBlank_21 (by decide) (fun hc4 => ?_) (fun hc4 => ?_)
        · refine lv_iconst (v := 0) hx hb d_MM_isBlank_28 (by decide) ?_
          exact fin_z (g := g) (ws := Sw shC g ad S) (v := 0) hx hb hr hlocks rfl (by decide +kernel) (by decide +kernel) hP hD hS ⟨_, rfl, (by unfold r_MM_isBlank; rw [if_neg hc1, if_neg hc2, if_neg hc3, if_pos hc4]), rfl⟩ d_MM_isBlank_29
        · refine lv_iconst (v := 1) hx hb d_MM_isBlank_24 (by decide) ?_
          refine lv_goto (tgt := 29) hx hb d_MM_isBlank_25 (by decide) ?_
          exact fin_z (g := g) (ws := Sw shC g ad S) (v := 1) hx hb hr hlocks rfl (by decide +kernel) (by decide +kernel) hP hD hS ⟨_, rfl, (by unfold r_MM_isBlank; rw [if_neg hc1, if_neg hc2, if_neg hc3, if_neg hc4]), rfl⟩ d_MM_isBlank_29
def s_Outcome_begin (S : sS) (v1 : Int32) : sS := (putI (putI (putI (putI (putI (putI (putI (putI (putI S 2 1 0) 2 2 0) 2 3 0) 2 4 0) 2 5 v1) 2 6 0) 2 7 0) 2 8 0) 2 9 0)
abbrev rm_a_Outcome_begin : Room := { frames := 0, cells := 0, slots := 0, locals := 0 }
set_option maxHeartbeats 4000000 in
set_option maxRecDepth 100000 in
theorem a_Outcome_begin (l : Launch) (g : gG) (sz : Nat) (ad : Nat → Nat) (S : sS) (v1 : Int32) : Cv l y_Outcome_begin b_Outcome_begin 2 rm_a_Outcome_begin g [.ref (ad 2), .int v1] (Sw shC g ad S) sz (fun w => ∃ S' : sS, w = Sw shC g ad S' ∧ S' = s_Outcome_begin S v1) := by
  refine startV (by decide) (Nat.le_of_ble_eq_true rfl) ?_
  intro p e s m below meth c A ls hx hb hr hml hlocks hmn hown htt hN hA hP hK hD hS hl
  have hown : s.vm.findClass "MacroMill$Outcome" = some m.cls := hown
  have hl : lv_has ls 2 [(0, .ref (ad 2)), (1, .int v1)] := hl
  refine lv_aload_n hx hb d_Outcome_begin_0 rfl (lv_at hl 0 rfl) ?_
  refine lv_iconst (v := 0) hx hb d_Outcome_begin_1 (by decide) ?_
  refine S_put (h := shC) (C := "MacroMill$Outcome") (T := F_Outcome) (v := 0) hx hb htt in_Outcome t_Outcome t_Outcome_ok n_Outcome hown hK hP hD hS 2 1 rfl rfl rfl (by decide) (htt _ k_338) (fun _ h9 => h9) rfl rfl rfl d_Outcome_begin_2 (fun H locs hP hD hS => ?_)
  refine lv_aload_n hx hb d_Outcome_begin_5 rfl (lv_at hl 0 rfl) ?_
  refine lv_iconst (v := 0) hx hb d_Outcome_begin_6 (by decide) ?_
  refine S_put (h := shC) (C := "MacroMill$Outcome") (T := F_Outcome) (v := 0) hx hb htt in_Outcome t_Outcome t_Outcome_ok n_Outcome hown hK hP hD hS 2 2 rfl rfl rfl (by decide) (htt _ k_343) (fun _ h9 => h9) rfl rfl rfl d_Outcome_begin_7 (fun H locs hP hD hS => ?_)
  refine lv_aload_n hx hb d_Outcome_begin_10 rfl (lv_at hl 0 rfl) ?_
  refine lv_iconst (v := 0) hx hb d_Outcome_begin_11 (by decide) ?_
  refine S_put (h := shC) (C := "MacroMill$Outcome") (T := F_Outcome) (v := 0) hx hb htt in_Outcome t_Outcome t_Outcome_ok n_Outcome hown hK hP hD hS 2 3 rfl rfl rfl (by decide) (htt _ k_345) (fun _ h9 => h9) rfl rfl rfl d_Outcome_begin_12 (fun H locs hP hD hS => ?_)
  refine lv_aload_n hx hb d_Outcome_begin_15 rfl (lv_at hl 0 rfl) ?_
  refine lv_iconst (v := 0) hx hb d_Outcome_begin_16 (by decide) ?_
  show W _ _ _ _ _ _ _ _ _ _ _ _ _ _ _ (F0 _ 17 _ _)
  refine S_put (h := shC) (C := "MacroMill$Outcome") (T := F_Outcome) (v := 0) hx hb htt in_Outcome t_Outcome t_Outcome_ok n_Outcome hown hK hP hD hS 2 4 rfl rfl rfl (by decide) (htt _ k_347) (fun _ h9 => h9) rfl rfl rfl d_Outcome_begin_17 (fun H locs hP hD hS => ?_)
  refine lv_aload_n hx hb d_Outcome_begin_20 rfl (lv_at hl 0 rfl) ?_
  refine lv_iload_n hx hb d_Outcome_begin_21 rfl (lv_at hl 1 rfl) ?_
  refine S_put (h := shC) (C := "MacroMill$Outcome") (T := F_Outcome) (v := v1) hx hb htt in_Outcome t_Outcome t_Outcome_ok n_Outcome hown hK hP hD hS 2 5 rfl rfl rfl (by decide) (htt _ k_349) (fun _ h9 => h9) rfl rfl rfl d_Outcome_begin_22 (fun H locs hP hD hS => ?_)
  refine lv_aload_n hx hb d_Outcome_begin_25 rfl (lv_at hl 0 rfl) ?_
  refine lv_iconst (v := 0) hx hb d_Outcome_begin_26 (by decide) ?_
  refine S_put (h := shC) (C := "MacroMill$Outcome") (T := F_Outcome) (v := 0) hx hb htt in_Outcome t_Outcome t_Outcome_ok n_Outcome hown hK hP hD hS 2 6 rfl rfl rfl (by decide) (htt _ k_351) (fun _ h9 => h9) rfl rfl rfl d_Outcome_begin_27 (fun H locs hP hD hS => ?_)
  refine lv_aload_n hx hb d_Outcome_begin_30 rfl (lv_at hl 0 rfl) ?_
  refine lv_iconst (v := 0) hx hb d_Outcome_begin_31 (by decide) ?_
  refine S_put (h := shC) (C := "MacroMill$Outcome") (T := F_Outcome) (v := 0) hx hb htt in_Outcome t_Outcome t_Outcome_ok n_Outcome hown hK hP hD hS 2 7 rfl rfl rfl (by decide) (htt _ k_354) (fun _ h9 => h9) rfl rfl rfl d_Outcome_begin_32 (fun H locs hP hD hS => ?_)
  refine lv_aload_n hx hb d_Outcome_begin_35 rfl (lv_at hl 0 rfl) ?_
  refine lv_iconst (v := 0) hx hb d_Outcome_begin_36 (by decide) ?_
  show W _ _ _ _ _ _ _ _ _ _ _ _ _ _ _ (F0 _ 37 _ _)
  refine S_put (h := shC) (C := "MacroMill$Outcome") (T := F_Outcome) (v := 0) hx hb htt in_Outcome t_Outcome t_Outcome_ok n_Outcome hown hK hP hD hS 2 8 rfl rfl rfl (by decide) (htt _ k_358) (fun _ h9 => h9) rfl rfl rfl d_Outcome_begin_37 (fun H locs hP hD hS => ?_)
  refine lv_aload_n hx hb d_Outcome_begin_40 rfl (lv_at hl 0 rfl) ?_
  refine lv_iconst (v := 0) hx hb d_Outcome_begin_41 (by decide) ?_
  refine S_put (h := shC) (C := "MacroMill$Outcome") (T := F_Outcome) (v := 0) hx hb htt in_Outcome t_Outcome t_Outcome_ok n_Outcome hown hK hP hD hS 2 9 rfl rfl rfl (by decide) (htt _ k_361) (fun _ h9 => h9) rfl rfl rfl d_Outcome_begin_42 (fun H locs hP hD hS => ?_)
  exact fin_v (g := g) (ws := Sw shC g ad (putI (putI (putI (putI (putI (putI (putI (putI (putI S 2 1 0) 2 2 0) 2 3 0) 2 4 0) 2 5 v1) 2 6 0) 2 7 0) 2 8 0) 2 9 0)) hx hb hr hlocks (by decide +kernel) (by decide +kernel) hP hD hS ⟨_, rfl, rfl⟩ d_Outcome_begin_45
def r_Outcome_isFine (S : sS) : Int32 := if (S.1 2 2) = (0 : Int32) then 1 else 0
abbrev rm_a_Outcome_isFine : Room := { frames := 0, cells := 0, slots := 0, locals := 0 }
set_option maxHeartbeats 4000000 in
set_option maxRecDepth 100000 in
theorem a_Outcome_isFine (l : Launch) (g : gG) (sz : Nat) (ad : Nat → Nat) (S : sS) : Cz l y_Outcome_isFine b_Outcome_isFine 1 rm_a_Outcome_isFine g [.ref (ad 2)] (Sw shC g ad S) sz (fun r w => ∃ S' : sS, w = Sw shC g ad S' ∧ r = r_Outcome_isFine S ∧ S' = S) := by
  refine startZ (by decide) (Nat.le_of_ble_eq_true rfl) ?_
  intro p e s m below meth c A ls hx hb hr hml hlocks hmn hown htt hN hA hP hK hD hS hl
  have hown : s.vm.findClass "MacroMill$Outcome" = some m.cls := hown
  have hl : lv_has ls 1 [(0, .ref (ad 2))] := hl
  refine lv_aload_n hx hb d_Outcome_isFine_0 rfl (lv_at hl 0 rfl) ?_
  refine S_getI (h := shC) (C := "MacroMill$Outcome") (T := F_Outcome) hx hb htt in_Outcome hown hK hP 2 2 rfl rfl rfl (by decide) (htt _ k_343) (fun _ h9 => h9) d_Outcome_isFine_1 ?_
  refine lv_if_ne (tgt := 11) hx hb d_Outcome_isFine_4 (by decide) (fun hc1 => ?_) (fun hc1 => ?_)
  · refine lv_iconst (v := 0) hx hb d_Outcome_isFine_11 (by decide) ?_
    exact fin_z (g := g) (ws := Sw shC g ad S) (v := 0) hx hb hr hlocks rfl (by decide +kernel) (by decide +kernel) hP hD hS ⟨_, rfl, (by unfold r_Outcome_isFine; rw [if_neg hc1]), rfl⟩ d_Outcome_isFine_12
  · refine lv_iconst (v := 1) hx hb d_Outcome_isFine_7 (by decide) ?_
    refine lv_goto (tgt := 12) hx hb d_Outcome_isFine_8 (by decide) ?_
    exact fin_z (g := g) (ws := Sw shC g ad S) (v := 1) hx hb hr hlocks rfl (by decide +kernel) (by decide +kernel) hP hD hS ⟨_, rfl, (by unfold r_Outcome_isFine; rw [if_pos hc1]), rfl⟩ d_Outcome_isFine_12
def s_Outcome_fail (S : sS) (v1 : Int32) (v2 : Int32) : sS := if (S.1 2 2) = (0 : Int32) then ((putI (putI (putI S 2 2 v1) 2 3 (S.1 2 5)) 2 4 v2)) else S
abbrev rm_a_Outcome_fail : Room := { frames := 0, cells := 0, slots := 0, locals := 0 }
set_option maxHeartbeats 4000000 in
set_option maxRecDepth 100000 in
theorem a_Outcome_fail (l : Launch) (g : gG) (sz : Nat) (ad : Nat → Nat) (S : sS) (v1 : Int32) (v2 : Int32) : Cv l y_Outcome_fail b_Outcome_fail 3 rm_a_Outcome_fail g [.ref (ad 2), .int v1, .int v2] (Sw shC g ad S) sz (fun w => ∃ S' : sS, w = Sw shC g ad S' ∧ S' = s_Outcome_fail S v1 v2) := by
  refine startV (by decide) (Nat.le_of_ble_eq_true rfl) ?_
  intro p e s m below meth c A ls hx hb hr hml hlocks hmn hown htt hN hA hP hK hD hS hl
  have hown : s.vm.findClass "MacroMill$Outcome" = some m.cls := hown
  have hl : lv_has ls 3 [(0, .ref (ad 2)), (1, .int v1), (2, .int v2)] := hl
  refine lv_aload_n hx hb d_Outcome_fail_0 rfl (lv_at hl 0 rfl) ?_
  refine S_getI (h := shC) (C := "MacroMill$Outcome") (T := F_Outcome) hx hb htt in_Outcome hown hK hP 2 2 rfl rfl rfl (by decide) (htt _ k_343) (fun _ h9 => h9) d_Outcome_fail_1 ?_
  refine lv_if_ne (tgt := 25) hx hb d_Outcome_fail_4 (by decide) (fun hc1 => ?_) (fun hc1 => ?_)
  · exact fin_v (g := g) (ws := Sw shC g ad S) hx hb hr hlocks (by decide +kernel) (by decide +kernel) hP hD hS ⟨_, rfl, (by unfold s_Outcome_fail; rw [if_neg hc1])⟩ d_Outcome_fail_25
  · refine lv_aload_n hx hb d_Outcome_fail_7 rfl (lv_at hl 0 rfl) ?_
    refine lv_iload_n hx hb d_Outcome_fail_8 rfl (lv_at hl 1 rfl) ?_
    refine S_put (h := shC) (C := "MacroMill$Outcome") (T := F_Outcome) (v := v1) hx hb htt in_Outcome t_Outcome t_Outcome_ok n_Outcome hown hK hP hD hS 2 2 rfl rfl rfl (by decide) (htt _ k_343) (fun _ h9 => h9) rfl rfl rfl d_Outcome_fail_9 (fun H locs hP hD hS => ?_)
    refine lv_aload_n hx hb d_Outcome_fail_12 rfl (lv_at hl 0 rfl) ?_
    refine lv_aload_n hx hb d_Outcome_fail_13 rfl (lv_at hl 0 rfl) ?_
    refine S_getI (h := shC) (C := "MacroMill$Outcome") (T := F_Outcome) hx hb htt in_Outcome hown hK hP 2 5 rfl rfl rfl (by decide) (htt _ k_349) (fun _ h9 => h9) d_Outcome_fail_14 ?_
    refine toI (y := S.1 2 5) rfl ?_
    refine S_put (h := shC) (C := "MacroMill$Outcome") (T := F_Outcome) (v := S.1 2 5) hx hb htt in_Outcome t_Outcome t_Outcome_ok n_Outcome hown hK hP hD hS 2 3 rfl rfl rfl (by decide) (htt _ k_345) (fun _ h9 => h9) rfl rfl rfl d_Outcome_fail_17 (fun H locs hP hD hS => ?_)
    refine lv_aload_n hx hb d_Outcome_fail_20 rfl (lv_at hl 0 rfl) ?_
    refine lv_iload_n hx hb d_Outcome_fail_21 rfl (lv_at hl 2 rfl) ?_
    show W _ _ _ _ _ _ _ _ _ _ _ _ _ _ _ (F0 _ 22 _ _)
    refine S_put (h := shC) (C := "MacroMill$Outcome") (T := F_Outcome) (v := v2) hx hb htt in_Outcome t_Outcome t_Outcome_ok n_Outcome hown hK hP hD hS 2 4 rfl rfl rfl (by decide) (htt _ k_347) (fun _ h9 => h9) rfl rfl rfl d_Outcome_fail_22 (fun H locs hP hD hS => ?_)
    exact fin_v (g := g) (ws := Sw shC g ad (putI (putI (putI S 2 2 v1) 2 3 (S.1 2 5)) 2 4 v2)) hx hb hr hlocks (by decide +kernel) (by decide +kernel) hP hD hS ⟨_, rfl, (by unfold s_Outcome_fail; rw [if_pos hc1])⟩ d_Outcome_fail_25
def s_Reckoner_begin (S : sS) (v1 : Int32) : sS := (putI (putI (putI (putI (putI (putI (putI (putI S 3 8 v1) 3 2 0) 3 6 0) 3 7 0) 3 9 1) 3 10 0) 3 11 0) 3 12 0)
abbrev rm_a_Reckoner_begin : Room := { frames := 0, cells := 0, slots := 0, locals := 0 }
set_option maxHeartbeats 4000000 in
set_option maxRecDepth 100000 in
theorem a_Reckoner_begin (l : Launch) (g : gG) (sz : Nat) (ad : Nat → Nat) (S : sS) (v1 : Int32) (hb0 : narrow .boolean (.int (v1)) = .int (v1)) (hb1 : fits .boolean (.int (v1)) = true) : Cv l y_Reckoner_begin b_Reckoner_begin 2 rm_a_Reckoner_begin g [.ref (ad 3), .int v1] (Sw shC g ad S) sz (fun w => ∃ S' : sS, w = Sw shC g ad S' ∧ S' = s_Reckoner_begin S v1) := by
  refine startV (by decide) (Nat.le_of_ble_eq_true rfl) ?_
  intro p e s m below meth c A ls hx hb hr hml hlocks hmn hown htt hN hA hP hK hD hS hl
  have hown : s.vm.findClass "MacroMill$Reckoner" = some m.cls := hown
  have hl : lv_has ls 2 [(0, .ref (ad 3)), (1, .int v1)] := hl
  refine lv_aload_n hx hb d_Reckoner_begin_0 rfl (lv_at hl 0 rfl) ?_
  refine lv_iload_n hx hb d_Reckoner_begin_1 rfl (lv_at hl 1 rfl) ?_
  refine S_put (h := shC) (C := "MacroMill$Reckoner") (T := F_Reckoner) (v := v1) hx hb htt in_Reckoner t_Reckoner t_Reckoner_ok n_Reckoner hown hK hP hD hS 3 8 rfl rfl rfl (by decide) (htt _ k_399) (fun _ h9 => h9) rfl hb0 hb1 d_Reckoner_begin_2 (fun H locs hP hD hS => ?_)
  refine lv_aload_n hx hb d_Reckoner_begin_5 rfl (lv_at hl 0 rfl) ?_
  refine lv_iconst (v := 0) hx hb d_Reckoner_begin_6 (by decide) ?_
  refine S_put (h := shC) (C := "MacroMill$Reckoner") (T := F_Reckoner) (v := 0) hx hb htt in_Reckoner t_Reckoner t_Reckoner_ok n_Reckoner hown hK hP hD hS 3 2 rfl rfl rfl (by decide) (htt _ k_393) (fun _ h9 => h9) rfl rfl rfl d_Reckoner_begin_7 (fun H locs hP hD hS => ?_)
  refine lv_aload_n hx hb d_Reckoner_begin_10 rfl (lv_at hl 0 rfl) ?_
  refine lv_iconst (v := 0) hx hb d_Reckoner_begin_11 (by decide) ?_
  refine S_put (h := shC) (C := "MacroMill$Reckoner") (T := F_Reckoner) (v := 0) hx hb htt in_Reckoner t_Reckoner t_Reckoner_ok n_Reckoner hown hK hP hD hS 3 6 rfl rfl rfl (by decide) (htt _ k_397) (fun _ h9 => h9) rfl rfl rfl d_Reckoner_begin_12 (fun H locs hP hD hS => ?_)
  refine lv_aload_n hx hb d_Reckoner_begin_15 rfl (lv_at hl 0 rfl) ?_
  refine lv_iconst (v := 0) hx hb d_Reckoner_begin_16 (by decide) ?_
  show W _ _ _ _ _ _ _ _ _ _ _ _ _ _ _ (F0 _ 17 _ _)
  refine S_put (h := shC) (C := "MacroMill$Reckoner") (T := F_Reckoner) (v := 0) hx hb htt in_Reckoner t_Reckoner t_Reckoner_ok n_Reckoner hown hK hP hD hS 3 7 rfl rfl rfl (by decide) (htt _ k_398) (fun _ h9 => h9) rfl rfl rfl d_Reckoner_begin_17 (fun H locs hP hD hS => ?_)
  refine lv_aload_n hx hb d_Reckoner_begin_20 rfl (lv_at hl 0 rfl) ?_
  refine lv_iconst (v := 1) hx hb d_Reckoner_begin_21 (by decide) ?_
  refine S_put (h := shC) (C := "MacroMill$Reckoner") (T := F_Reckoner) (v := 1) hx hb htt in_Reckoner t_Reckoner t_Reckoner_ok n_Reckoner hown hK hP hD hS 3 9 rfl rfl rfl (by decide) (htt _ k_400) (fun _ h9 => h9) rfl rfl rfl d_Reckoner_begin_22 (fun H locs hP hD hS => ?_)
  refine lv_aload_n hx hb d_Reckoner_begin_25 rfl (lv_at hl 0 rfl) ?_
  refine lv_iconst (v := 0) hx hb d_Reckoner_begin_26 (by decide) ?_
  refine S_put (h := shC) (C := "MacroMill$Reckoner") (T := F_Reckoner) (v := 0) hx hb htt in_Reckoner t_Reckoner t_Reckoner_ok n_Reckoner hown hK hP hD hS 3 10 rfl rfl rfl (by decide) (htt _ k_401) (fun _ h9 => h9) rfl rfl rfl d_Reckoner_begin_27 (fun H locs hP hD hS => ?_)
  refine lv_aload_n hx hb d_Reckoner_begin_30 rfl (lv_at hl 0 rfl) ?_
  refine lv_iconst (v := 0) hx hb d_Reckoner_begin_31 (by decide) ?_
  refine S_put (h := shC) (C := "MacroMill$Reckoner") (T := F_Reckoner) (v := 0) hx hb htt in_Reckoner t_Reckoner t_Reckoner_ok n_Reckoner hown hK hP hD hS 3 11 rfl rfl rfl (by decide) (htt _ k_402) (fun _ h9 => h9) rfl rfl rfl d_Reckoner_begin_32 (fun H locs hP hD hS => ?_)
  refine lv_aload_n hx hb d_Reckoner_begin_35 rfl (lv_at hl 0 rfl) ?_
  refine lv_iconst (v := 0) hx hb d_Reckoner_begin_36 (by decide) ?_
  show W _ _ _ _ _ _ _ _ _ _ _ _ _ _ _ (F0 _ 37 _ _)
  refine S_put (h := shC) (C := "MacroMill$Reckoner") (T := F_Reckoner) (v := 0) hx hb htt in_Reckoner t_Reckoner t_Reckoner_ok n_Reckoner hown hK hP hD hS 3 12 rfl rfl rfl (by decide) (htt _ k_403) (fun _ h9 => h9) rfl rfl rfl d_Reckoner_begin_37 (fun H locs hP hD hS => ?_)
  exact fin_v (g := g) (ws := Sw shC g ad (putI (putI (putI (putI (putI (putI (putI (putI S 3 8 v1) 3 2 0) 3 6 0) 3 7 0) 3 9 1) 3 10 0) 3 11 0) 3 12 0)) hx hb hr hlocks (by decide +kernel) (by decide +kernel) hP hD hS ⟨_, rfl, rfl⟩ d_Reckoner_begin_40
def s_Reckoner_spoil (S : sS) : sS := (putI S 3 11 1)
abbrev rm_a_Reckoner_spoil : Room := { frames := 0, cells := 0, slots := 0, locals := 0 }
set_option maxHeartbeats 4000000 in
set_option maxRecDepth 100000 in
theorem a_Reckoner_spoil (l : Launch) (g : gG) (sz : Nat) (ad : Nat → Nat) (S : sS) : Cv l y_Reckoner_spoil b_Reckoner_spoil 1 rm_a_Reckoner_spoil g [.ref (ad 3)] (Sw shC g ad S) sz (fun w => ∃ S' : sS, w = Sw shC g ad S' ∧ S' = s_Reckoner_spoil S) := by
  refine startV (by decide) (Nat.le_of_ble_eq_true rfl) ?_
  intro p e s m below meth c A ls hx hb hr hml hlocks hmn hown htt hN hA hP hK hD hS hl
  have hown : s.vm.findClass "MacroMill$Reckoner" = some m.cls := hown
  have hl : lv_has ls 1 [(0, .ref (ad 3))] := hl
  refine lv_aload_n hx hb d_Reckoner_spoil_0 rfl (lv_at hl 0 rfl) ?_
  refine lv_iconst (v := 1) hx hb d_Reckoner_spoil_1 (by decide) ?_
  refine S_put (h := shC) (C := "MacroMill$Reckoner") (T := F_Reckoner) (v := 1) hx hb htt in_Reckoner t_Reckoner t_Reckoner_ok n_Reckoner hown hK hP hD hS 3 11 rfl rfl rfl (by decide) (htt _ k_402) (fun _ h9 => h9) rfl rfl rfl d_Reckoner_spoil_2 (fun H locs hP hD hS => ?_)
  exact fin_v (g := g) (ws := Sw shC g ad (putI S 3 11 1)) hx hb hr hlocks (by decide +kernel) (by decide +kernel) hP hD hS ⟨_, rfl, rfl⟩ d_Reckoner_spoil_5
def r_Reckoner_hasDividedByZero (S : sS) : Int32 := S.1 3 12
abbrev rm_a_Reckoner_hasDividedByZero : Room := { frames := 0, cells := 0, slots := 0, locals := 0 }
set_option maxHeartbeats 4000000 in
set_option maxRecDepth 100000 in
theorem a_Reckoner_hasDividedByZero (l : Launch) (g : gG) (sz : Nat) (ad : Nat → Nat) (S : sS) (hb0 : narrow .boolean (.int (S.1 3 12)) = .int (S.1 3 12)) : Cz l y_Reckoner_hasDividedByZero b_Reckoner_hasDividedByZero 1 rm_a_Reckoner_hasDividedByZero g [.ref (ad 3)] (Sw shC g ad S) sz (fun r w => ∃ S' : sS, w = Sw shC g ad S' ∧ r = r_Reckoner_hasDividedByZero S ∧ S' = S) := by
  refine startZ (by decide) (Nat.le_of_ble_eq_true rfl) ?_
  intro p e s m below meth c A ls hx hb hr hml hlocks hmn hown htt hN hA hP hK hD hS hl
  have hown : s.vm.findClass "MacroMill$Reckoner" = some m.cls := hown
  have hl : lv_has ls 1 [(0, .ref (ad 3))] := hl
  refine lv_aload_n hx hb d_Reckoner_hasDividedByZero_0 rfl (lv_at hl 0 rfl) ?_
  refine S_getI (h := shC) (C := "MacroMill$Reckoner") (T := F_Reckoner) hx hb htt in_Reckoner hown hK hP 3 12 rfl rfl rfl (by decide) (htt _ k_403) (fun _ h9 => h9) d_Reckoner_hasDividedByZero_1 ?_
  exact fin_z (g := g) (ws := Sw shC g ad S) (v := S.1 3 12) hx hb hr hlocks hb0 (by decide +kernel) (by decide +kernel) hP hD hS ⟨_, rfl, rfl, rfl⟩ d_Reckoner_hasDividedByZero_4
def r_Reckoner_value (S : sS) : Int64 := if (S.1 3 2) = (1 : Int32) then (S.2.2 6 (0 : Int32).toNatClampNeg) else 0
abbrev rm_a_Reckoner_value : Room := { frames := 0, cells := 0, slots := 0, locals := 0 }
set_option maxHeartbeats 4000000 in
set_option maxRecDepth 100000 in
theorem a_Reckoner_value (l : Launch) (g : gG) (sz : Nat) (ad : Nat → Nat) (S : sS) (hb0 : (S.1 3 2) = (1 : Int32) → vp_in (0) 1000) : Cl l y_Reckoner_value b_Reckoner_value 1 rm_a_Reckoner_value g [.ref (ad 3)] (Sw shC g ad S) sz (fun r w => ∃ S' : sS, w = Sw shC g ad S' ∧ r = r_Reckoner_value S ∧ S' = S) := by
  refine startL (by decide) (Nat.le_of_ble_eq_true rfl) ?_
  intro p e s m below meth c A ls hx hb hr hml hlocks hmn hown htt hN hA hP hK hD hS hl
  have hown : s.vm.findClass "MacroMill$Reckoner" = some m.cls := hown
  have hl : lv_has ls 1 [(0, .ref (ad 3))] := hl
  refine lv_aload_n hx hb d_Reckoner_value_0 rfl (lv_at hl 0 rfl) ?_
  refine S_getI (h := shC) (C := "MacroMill$Reckoner") (T := F_Reckoner) hx hb htt in_Reckoner hown hK hP 3 2 rfl rfl rfl (by decide) (htt _ k_393) (fun _ h9 => h9) d_Reckoner_value_1 ?_
  refine lv_iconst (v := 1) hx hb d_Reckoner_value_4 (by decide) ?_
  refine lv_icmp_ne (tgt := 17) hx hb d_Reckoner_value_5 (by decide) (fun hc1 => ?_) (fun hc1 => ?_)
  · refine lv_lconst (v := 0) hx hb d_Reckoner_value_17 (by decide) ?_
    exact fin_l (g := g) (ws := Sw shC g ad S) (v := 0) hx hb hr hlocks (by decide +kernel) (by decide +kernel) hP hD hS ⟨_, rfl, (by unfold r_Reckoner_value; rw [if_neg hc1]), rfl⟩ d_Reckoner_value_18
  · refine lv_aload_n hx hb d_Reckoner_value_8 rfl (lv_at hl 0 rfl) ?_
    refine S_getR (h := shC) (C := "MacroMill$Reckoner") (T := F_Reckoner) hx hb htt in_Reckoner hown hK hP 3 0 rfl 19 rfl rfl (by decide) (htt _ k_391) (fun _ h9 => h9) d_Reckoner_value_9 ?_
    refine lv_iconst (v := 0) hx hb d_Reckoner_value_12 (by decide) ?_
    refine S_lald (h := shC) (i := 0) hx hb hK hP 6 rfl (hb0 hc1) d_Reckoner_value_13 ?_
    refine lv_goto (tgt := 18) hx hb d_Reckoner_value_14 (by decide) ?_
    exact fin_l (g := g) (ws := Sw shC g ad S) (v := S.2.2 6 (0 : Int32).toNatClampNeg) hx hb hr hlocks (by decide +kernel) (by decide +kernel) hP hD hS ⟨_, rfl, (by unfold r_Reckoner_value; rw [if_pos hc1]), rfl⟩ d_Reckoner_value_18
def s_Reckoner_push (S : sS) (v1 : Int32) (v2 : Int32) : sS := if v2 = (0 : Int32) then (if (1000 : Int32) ≤ (S.1 3 6) then ((putI (putI S 3 7 ((S.1 3 7) + (1 : Int32))) 3 11 1)) else (if (S.1 3 8) = (0 : Int32) then (if ((S.1 3 7) + (1 : Int32)) ≤ (30 : Int32) then ((putI (putI (putA (putA (putA (putI S 3 7 ((S.1 3 7) + (1 : Int32))) 8 (S.1 3 6 : Int32).toNatClampNeg v1) 9 (S.1 3 6 : Int32).toNatClampNeg v2) 10 (S.1 3 6 : Int32).toNatClampNeg (vp_nar .boolean (S.1 3 10))) 3 6 ((S.1 3 6) + (1 : Int32))) 3 9 1)) else ((putI (putI S 3 7 ((S.1 3 7) + (1 : Int32))) 3 11 1))) else (if ((S.1 3 7) + (1 : Int32)) ≤ (60 : Int32) then ((putI (putI (putA (putA (putA (putI S 3 7 ((S.1 3 7) + (1 : Int32))) 8 (S.1 3 6 : Int32).toNatClampNeg v1) 9 (S.1 3 6 : Int32).toNatClampNeg v2) 10 (S.1 3 6 : Int32).toNatClampNeg (vp_nar .boolean (S.1 3 10))) 3 6 ((S.1 3 6) + (1 : Int32))) 3 9 1)) else ((putI (putI S 3 7 ((S.1 3 7) + (1 : Int32))) 3 11 1))))) else (if v2 = (1 : Int32) then (if (1000 : Int32) ≤ (S.1 3 6) then ((putI (putI S 3 7 ((S.1 3 7) + (1 : Int32))) 3 11 1)) else (if (S.1 3 8) = (0 : Int32) then (if ((S.1 3 7) + (1 : Int32)) ≤ (30 : Int32) then ((putI (putI (putA (putA (putA (putI S 3 7 ((S.1 3 7) + (1 : Int32))) 8 (S.1 3 6 : Int32).toNatClampNeg v1) 9 (S.1 3 6 : Int32).toNatClampNeg v2) 10 (S.1 3 6 : Int32).toNatClampNeg (vp_nar .boolean (S.1 3 10))) 3 6 ((S.1 3 6) + (1 : Int32))) 3 9 1)) else ((putI (putI S 3 7 ((S.1 3 7) + (1 : Int32))) 3 11 1))) else (if ((S.1 3 7) + (1 : Int32)) ≤ (60 : Int32) then ((putI (putI (putA (putA (putA (putI S 3 7 ((S.1 3 7) + (1 : Int32))) 8 (S.1 3 6 : Int32).toNatClampNeg v1) 9 (S.1 3 6 : Int32).toNatClampNeg v2) 10 (S.1 3 6 : Int32).toNatClampNeg (vp_nar .boolean (S.1 3 10))) 3 6 ((S.1 3 6) + (1 : Int32))) 3 9 1)) else ((putI (putI S 3 7 ((S.1 3 7) + (1 : Int32))) 3 11 1))))) else (if v2 = (20 : Int32) then (if (1000 : Int32) ≤ (S.1 3 6) then ((putI (putI S 3 7 ((S.1 3 7) + (1 : Int32))) 3 11 1)) else (if (S.1 3 8) = (0 : Int32) then (if ((S.1 3 7) + (1 : Int32)) ≤ (30 : Int32) then ((putI (putI (putA (putA (putA (putI S 3 7 ((S.1 3 7) + (1 : Int32))) 8 (S.1 3 6 : Int32).toNatClampNeg v1) 9 (S.1 3 6 : Int32).toNatClampNeg v2) 10 (S.1 3 6 : Int32).toNatClampNeg (vp_nar .boolean (S.1 3 10))) 3 6 ((S.1 3 6) + (1 : Int32))) 3 9 1)) else ((putI (putI S 3 7 ((S.1 3 7) + (1 : Int32))) 3 11 1))) else (if ((S.1 3 7) + (1 : Int32)) ≤ (60 : Int32) then ((putI (putI (putA (putA (putA (putI S 3 7 ((S.1 3 7) + (1 : Int32))) 8 (S.1 3 6 : Int32).toNatClampNeg v1) 9 (S.1 3 6 : Int32).toNatClampNeg v2) 10 (S.1 3 6 : Int32).toNatClampNeg (vp_nar .boolean (S.1 3 10))) 3 6 ((S.1 3 6) + (1 : Int32))) 3 9 1)) else ((putI (putI S 3 7 ((S.1 3 7) + (1 : Int32))) 3 11 1))))) else (if (1000 : Int32) ≤ (S.1 3 6) then ((putI S 3 11 1)) else (if (S.1 3 8) = (0 : Int32) then (if (S.1 3 7) ≤ (30 : Int32) then ((putI (putI (putA (putA (putA S 8 (S.1 3 6 : Int32).toNatClampNeg v1) 9 (S.1 3 6 : Int32).toNatClampNeg v2) 10 (S.1 3 6 : Int32).toNatClampNeg (vp_nar .boolean (S.1 3 10))) 3 6 ((S.1 3 6) + (1 : Int32))) 3 9 1)) else ((putI S 3 11 1))) else (if (S.1 3 7) ≤ (60 : Int32) then ((putI (putI (putA (putA (putA S 8 (S.1 3 6 : Int32).toNatClampNeg v1) 9 (S.1 3 6 : Int32).toNatClampNeg v2) 10 (S.1 3 6 : Int32).toNatClampNeg (vp_nar .boolean (S.1 3 10))) 3 6 ((S.1 3 6) + (1 : Int32))) 3 9 1)) else ((putI S 3 11 1)))))))
abbrev rm_a_Reckoner_push : Room := { frames := 0, cells := 0, slots := 0, locals := 0 }
set_option maxHeartbeats 4000000 in
set_option maxRecDepth 100000 in
theorem a_Reckoner_push (l : Launch) (g : gG) (sz : Nat) (ad : Nat → Nat) (S : sS) (v1 : Int32) (v2 : Int32) (hb0 : v2 = (0 : Int32) → ¬ ((1000 : Int32) ≤ (S.1 3 6)) → (S.1 3 8) = (0 : Int32) → ((S.1 3 7) + (1 : Int32)) ≤ (30 : Int32) → vp_in (S.1 3 6) 1000) (hb1 : v2 = (0 : Int32) → ¬ ((1000 : Int32) ≤ (S.1 3 6)) → ¬ ((S.1 3 8) = (0 : Int32)) → ((S.1 3 7) + (1 : Int32)) ≤ (60 : Int32) → vp_in (S.1 3 6) 1000) (hb2 : ¬ (v2 = (0 : Int32)) → v2 = (1 : Int32) → ¬ ((1000 : Int32) ≤ (S.1 3 6)) → (S.1 3 8) = (0 : Int32) → ((S.1 3 7) + (1 : Int32)) ≤ (30 : Int32) → vp_in (S.1 3 6) 1000) (hb3 : ¬ (v2 = (0 : Int32)) → v2 = (1 : Int32) → ¬ ((1000 : Int32) ≤ (S.1 3 6)) → ¬ ((S.1 3 8) = (0 : Int32)) → ((S.1 3 7) + (1 : Int32)) ≤ (60 : Int32) → vp_in (S.1 3 6) 1000) (hb4 : ¬ (v2 = (0 : Int32)) → ¬ (v2 = (1 : Int32)) → ¬ (v2 = (20 : Int32)) → ¬ ((1000 : Int32) ≤ (S.1 3 6)) → (S.1 3 8) = (0 : Int32) → (S.1 3 7) ≤ (30 : Int32) → vp_in (S.1 3 6) 1000) (hb5 : ¬ (v2 = (0 : Int32)) → ¬ (v2 = (1 : Int32)) → ¬ (v2 = (20 : Int32)) → ¬ ((1000 : Int32) ≤ (S.1 3 6)) → ¬ ((S.1 3 8) = (0 : Int32)) → (S.1 3 7) ≤ (60 : Int32) → vp_in (S.1 3 6) 1000) (hb6 : ¬ (v2 = (0 : Int32)) → ¬ (v2 = (1 : Int32)) → v2 = (20 : Int32) → ¬ ((1000 : Int32) ≤ (S.1 3 6)) → (S.1 3 8) = (0 : Int32) → ((S.1 3 7) + (1 : Int32)) ≤ (30 : Int32) → vp_in (S.1 3 6) 1000) (hb7 : ¬ (v2 = (0 : Int32)) → ¬ (v2 = (1 : Int32)) → v2 = (20 : Int32) → ¬ ((1000 : Int32) ≤ (S.1 3 6)) → ¬ ((S.1 3 8) = (0 : Int32)) → ((S.1 3 7) + (1 : Int32)) ≤ (60 : Int32) → vp_in (S.1 3 6) 1000) : Cv l y_Reckoner_push b_Reckoner_push 3 rm_a_Reckoner_push g [.ref (ad 3), .int v1, .int v2] (Sw shC g ad S) sz (fun w => ∃ S' : sS, w = Sw shC g ad S' ∧ S' = s_Reckoner_push S v1 v2) := by
  refine startV (by decide) (Nat.le_of_ble_eq_true rfl) ?_
  intro p e s m below meth c A ls hx hb hr hml hlocks hmn hown htt hN hA hP hK hD hS hl
  have hown : s.vm.findClass "MacroMill$Reckoner" = some m.cls := hown
  have hl : lv_has ls 3 [(0, .ref (ad 3)), (1, .int v1), (2, .int v2)] := hl
  refine lv_iload_n hx hb d_Reckoner_push_0 rfl (lv_at hl 2 rfl) ?_
  refine lv_if_eq (tgt := 15) hx hb d_Reckoner_push_1 (by decide) (fun hc1 => ?_) (fun hc1 => ?_)
  · refine lv_aload_n hx hb d_Reckoner_push_15 rfl (lv_at hl 0 rfl) ?_
    refine lv_dup hx hb d_Reckoner_push_16 rfl ?_
    refine S_getI (h := shC) (C := "MacroMill$Reckoner") (T := F_Reckoner) hx hb htt in_Reckoner hown hK hP 3 7 rfl rfl rfl (by decide) (htt _ k_398) (fun _ h9 => h9) d_Reckoner_push_17 ?_
    refine lv_iconst (v := 1) hx hb d_Reckoner_push_20 (by decide) ?_
    refine lv_iadd hx hb d_Reckoner_push_21 ?_
    refine S_put (h := shC) (C := "MacroMill$Reckoner") (T := F_Reckoner) (v := (S.1 3 7) + (1 : Int32)) hx hb htt in_Reckoner t_Reckoner t_Reckoner_ok n_Reckoner hown hK hP hD hS 3 7 rfl rfl rfl (by decide) (htt _ k_398) (fun _ h9 => h9) rfl rfl rfl d_Reckoner_push_22 (fun H locs hP hD hS => ?_)
    refine lv_aload_n hx hb d_Reckoner_push_25 rfl (lv_at hl 0 rfl) ?_
    refine S_getI (h := shC) (C := "MacroMill$Reckoner") (T := F_Reckoner) hx hb htt in_Reckoner hown hK hP 3 6 rfl rfl rfl (by decide) (htt _ k_397) (fun _ h9 => h9) d_Reckoner_push_26 ?_
    refine toI (y := S.1 3 6) rfl ?_
    refine lv_sipush (v := 1000) hx hb d_Reckoner_push_29 (by decide) ?_
    refine lv_icmp_ge (tgt := 56) hx hb d_Reckoner_push_32 (by decide) (fun hc2 => ?_) (fun hc2 => ?_)
    · refine lv_aload_n hx hb d_Reckoner_push_56 rfl (lv_at hl 0 rfl) ?_
      show W _ _ _ _ _ _ _ _ _ _ _ _ _ _ _ (F0 _ 57 _ _)
      refine lv_iconst (v := 1) hx hb d_Reckoner_push_57 (by decide) ?_
      refine S_put (h := shC) (C := "MacroMill$Reckoner") (T := F_Reckoner) (v := 1) hx hb htt in_Reckoner t_Reckoner t_Reckoner_ok n_Reckoner hown hK hP hD hS 3 11 rfl rfl rfl (by decide) (htt _ k_402) (fun _ h9 => h9) rfl rfl rfl d_Reckoner_push_58 (fun H locs hP hD hS => ?_)
      exact fin_v (g := g) (ws := Sw shC g ad (putI (putI S 3 7 ((S.1 3 7) + (1 : Int32))) 3 11 1)) hx hb hr hlocks (by decide +kernel) (by decide +kernel) hP hD hS ⟨_, rfl, (by unfold s_Reckoner_push; rw [if_pos hc1, if_pos hc2])⟩ d_Reckoner_push_61
    · refine lv_aload_n hx hb d_Reckoner_push_35 rfl (lv_at hl 0 rfl) ?_
      show W _ _ _ _ _ _ _ _ _ _ _ _ _ _ _ (F0 _ 36 _ _)
      refine S_getI (h := shC) (C := "MacroMill$Reckoner") (T := F_Reckoner) hx hb htt in_Reckoner hown hK hP 3 7 rfl rfl rfl (by decide) (htt _ k_398) (fun _ h9 => h9) d_Reckoner_push_36 ?_
      refine toI (y := (S.1 3 7) + (1 : Int32)) rfl ?_
      refine lv_aload_n hx hb d_Reckoner_push_39 rfl (lv_at hl 0 rfl) ?_
      refine S_getI (h := shC) (C := "MacroMill$Reckoner") (T := F_Reckoner) hx hb htt in_Reckoner hown hK hP 3 8 rfl rfl rfl (by decide) (htt _ k_399) (fun _ h9 => h9) d_Reckoner_push_40 ?_
      refine toI (y := S.1 3 8) rfl ?_
      refine lv_if_eq (tgt := 51) hx hb d_Reckoner_push_43 (by decide) (fun hc3 => ?_) (fun hc3 => ?_)
      · refine lv_bipush (v := 30) hx hb d_Reckoner_push_51 (by decide) ?_
        refine lv_icmp_le (tgt := 62) hx hb d_Reckoner_push_53 (by decide) (fun hc4 => ?_) (fun hc4 => ?_)
        · refine lv_aload_n hx hb d_Reckoner_push_62 rfl (lv_at hl 0 rfl) ?_
          refine S_getR (h := shC) (C := "MacroMill$Reckoner") (T := F_Reckoner) hx hb htt in_Reckoner hown hK hP 3 3 rfl 21 rfl rfl (by decide) (htt _ k_394) (fun _ h9 => h9) d_Reckoner_push_63 ?_
          refine lv_aload_n hx hb d_Reckoner_push_66 rfl (lv_at hl 0 rfl) ?_
          refine S_getI (h := shC) (C := "MacroMill$Reckoner") (T := F_Reckoner) hx hb htt in_Reckoner hown hK hP 3 6 rfl rfl rfl (by decide) (htt _ k_397) (fun _ h9 => h9) d_Reckoner_push_67 ?_
          refine toI (y := S.1 3 6) rfl ?_
          refine lv_iload_n hx hb d_Reckoner_push_70 rfl (lv_at hl 1 rfl) ?_
          refine S_iast (h := shC) (i := S.1 3 6) (v := v1) hx hb hK hP hD hS 8 rfl (hb0 hc1 hc2 hc3 hc4) d_Reckoner_push_71 (fun H locs hP hD hS => ?_)
          refine lv_aload_n hx hb d_Reckoner_push_72 rfl (lv_at hl 0 rfl) ?_
          refine S_getR (h := shC) (C := "MacroMill$Reckoner") (T := F_Reckoner) hx hb htt in_Reckoner hown hK hP 3 4 rfl 22 rfl rfl (by decide) (htt _ k_395) (fun _ h9 => h9) d_Reckoner_push_73 ?_
          show W _ _ _ _ _ _ _ _ _ _ _ _ _ _ _ (F0 _ 76 _ _)
          refine lv_aload_n hx hb d_Reckoner_push_76 rfl (lv_at hl 0 rfl) ?_
          refine S_getI (h := shC) (C := "MacroMill$Reckoner") (T := F_Reckoner) hx hb htt in_Reckoner hown hK hP 3 6 rfl rfl rfl (by decide) (htt _ k_397) (fun _ h9 => h9) d_Reckoner_push_77 ?_
          refine toI (y := S.1 3 6) rfl ?_
          refine lv_iload_n hx hb d_Reckoner_push_80 rfl (lv_at hl 2 rfl) ?_
          refine S_iast (h := shC) (i := S.1 3 6) (v := v2) hx hb hK hP hD hS 9 rfl (hb0 hc1 hc2 hc3 hc4) d_Reckoner_push_81 (fun H locs hP hD hS => ?_)
          refine lv_aload_n hx hb d_Reckoner_push_82 rfl (lv_at hl 0 rfl) ?_
          refine S_getR (h := shC) (C := "MacroMill$Reckoner") (T := F_Reckoner) hx hb htt in_Reckoner hown hK hP 3 5 rfl 23 rfl rfl (by decide) (htt _ k_396) (fun _ h9 => h9) d_Reckoner_push_83 ?_
          refine lv_aload_n hx hb d_Reckoner_push_86 rfl (lv_at hl 0 rfl) ?_
          refine S_getI (h := shC) (C := "MacroMill$Reckoner") (T := F_Reckoner) hx hb htt in_Reckoner hown hK hP 3 6 rfl rfl rfl (by decide) (htt _ k_397) (fun _ h9 => h9) d_Reckoner_push_87 ?_
          refine toI (y := S.1 3 6) rfl ?_
          refine lv_aload_n hx hb d_Reckoner_push_90 rfl (lv_at hl 0 rfl) ?_
          refine S_getI (h := shC) (C := "MacroMill$Reckoner") (T := F_Reckoner) hx hb htt in_Reckoner hown hK hP 3 10 rfl rfl rfl (by decide) (htt _ k_401) (fun _ h9 => h9) d_Reckoner_push_91 ?_
          refine toI (y := S.1 3 10) rfl ?_
          refine S_zast (h := shC) (i := S.1 3 6) (v := S.1 3 10) hx hb hK hP hD hS 10 rfl (hb0 hc1 hc2 hc3 hc4) d_Reckoner_push_94 (fun H locs hP hD hS => ?_)
          refine lv_aload_n hx hb d_Reckoner_push_95 rfl (lv_at hl 0 rfl) ?_
          show W _ _ _ _ _ _ _ _ _ _ _ _ _ _ _ (F0 _ 96 _ _)
          refine lv_dup hx hb d_Reckoner_push_96 rfl ?_
          refine S_getI (h := shC) (C := "MacroMill$Reckoner") (T := F_Reckoner) hx hb htt in_Reckoner hown hK hP 3 6 rfl rfl rfl (by decide) (htt _ k_397) (fun _ h9 => h9) d_Reckoner_push_97 ?_
          refine toI (y := S.1 3 6) rfl ?_
          refine lv_iconst (v := 1) hx hb d_Reckoner_push_100 (by decide) ?_
          refine lv_iadd hx hb d_Reckoner_push_101 ?_
          refine S_put (h := shC) (C := "MacroMill$Reckoner") (T := F_Reckoner) (v := (S.1 3 6) + (1 : Int32)) hx hb htt in_Reckoner t_Reckoner t_Reckoner_ok n_Reckoner hown hK hP hD hS 3 6 rfl rfl rfl (by decide) (htt _ k_397) (fun _ h9 => h9) rfl rfl rfl d_Reckoner_push_102 (fun H locs hP hD hS => ?_)
          refine lv_aload_n hx hb d_Reckoner_push_105 rfl (lv_at hl 0 rfl) ?_
          refine lv_iconst (v := 1) hx hb d_Reckoner_push_106 (by decide) ?_
          refine S_put (h := shC) (C := "MacroMill$Reckoner") (T := F_Reckoner) (v := 1) hx hb htt in_Reckoner t_Reckoner t_Reckoner_ok n_Reckoner hown hK hP hD hS 3 9 rfl rfl rfl (by decide) (htt _ k_400) (fun _ h9 => h9) rfl rfl rfl d_Reckoner_push_107 (fun H locs hP hD hS => ?_)
          exact fin_v (g := g) (ws := Sw shC g ad (putI (putI (putA (putA (putA (putI S 3 7 ((S.1 3 7) + (1 : Int32))) 8 (S.1 3 6 : Int32).toNatClampNeg v1) 9 (S.1 3 6 : Int32).toNatClampNeg v2) 10 (S.1 3 6 : Int32).toNatClampNeg (vp_nar .boolean (S.1 3 10))) 3 6 ((S.1 3 6) + (1 : Int32))) 3 9 1)) hx hb hr hlocks (by decide +kernel) (by decide +kernel) hP hD hS ⟨_, rfl, (by unfold s_Reckoner_push; rw [if_pos hc1, if_neg hc2, if_pos hc3, if_pos hc4])⟩ d_Reckoner_push_110
        · refine lv_aload_n hx hb d_Reckoner_push_56 rfl (lv_at hl 0 rfl) ?_
          refine lv_iconst (v := 1) hx hb d_Reckoner_push_57 (by decide) ?_
          refine S_put (h := shC) (C := "MacroMill$Reckoner") (T := F_Reckoner) (v := 1) hx hb htt in_Reckoner t_Reckoner t_Reckoner_ok n_Reckoner hown hK hP hD hS 3 11 rfl rfl rfl (by decide) (htt _ k_402) (fun _ h9 => h9) rfl rfl rfl d_Reckoner_push_58 (fun H locs hP hD hS => ?_)
          exact fin_v (g := g) (ws := Sw shC g ad (putI (putI S 3 7 ((S.1 3 7) + (1 : Int32))) 3 11 1)) hx hb hr hlocks (by decide +kernel) (by decide +kernel) hP hD hS ⟨_, rfl, (by unfold s_Reckoner_push; rw [if_pos hc1, if_neg hc2, if_pos hc3, if_neg hc4])⟩ d_Reckoner_push_61
      · refine lv_bipush (v := 60) hx hb d_Reckoner_push_46 (by decide) ?_
        refine lv_goto (tgt := 53) hx hb d_Reckoner_push_48 (by decide) ?_
        refine lv_icmp_le (tgt := 62) hx hb d_Reckoner_push_53 (by decide) (fun hc5 => ?_) (fun hc5 => ?_)
        · refine lv_aload_n hx hb d_Reckoner_push_62 rfl (lv_at hl 0 rfl) ?_
          refine S_getR (h := shC) (C := "MacroMill$Reckoner") (T := F_Reckoner) hx hb htt in_Reckoner hown hK hP 3 3 rfl 21 rfl rfl (by decide) (htt _ k_394) (fun _ h9 => h9) d_Reckoner_push_63 ?_
          refine lv_aload_n hx hb d_Reckoner_push_66 rfl (lv_at hl 0 rfl) ?_
          refine S_getI (h := shC) (C := "MacroMill$Reckoner") (T := F_Reckoner) hx hb htt in_Reckoner hown hK hP 3 6 rfl rfl rfl (by decide) (htt _ k_397) (fun _ h9 => h9) d_Reckoner_push_67 ?_
          refine toI (y := S.1 3 6) rfl ?_
          refine lv_iload_n hx hb d_Reckoner_push_70 rfl (lv_at hl 1 rfl) ?_
          refine S_iast (h := shC) (i := S.1 3 6) (v := v1) hx hb hK hP hD hS 8 rfl (hb1 hc1 hc2 hc3 hc5) d_Reckoner_push_71 (fun H locs hP hD hS => ?_)
          refine lv_aload_n hx hb d_Reckoner_push_72 rfl (lv_at hl 0 rfl) ?_
          show W _ _ _ _ _ _ _ _ _ _ _ _ _ _ _ (F0 _ 73 _ _)
          refine S_getR (h := shC) (C := "MacroMill$Reckoner") (T := F_Reckoner) hx hb htt in_Reckoner hown hK hP 3 4 rfl 22 rfl rfl (by decide) (htt _ k_395) (fun _ h9 => h9) d_Reckoner_push_73 ?_
          refine lv_aload_n hx hb d_Reckoner_push_76 rfl (lv_at hl 0 rfl) ?_
          refine S_getI (h := shC) (C := "MacroMill$Reckoner") (T := F_Reckoner) hx hb htt in_Reckoner hown hK hP 3 6 rfl rfl rfl (by decide) (htt _ k_397) (fun _ h9 => h9) d_Reckoner_push_77 ?_
          refine toI (y := S.1 3 6) rfl ?_
          refine lv_iload_n hx hb d_Reckoner_push_80 rfl (lv_at hl 2 rfl) ?_
          refine S_iast (h := shC) (i := S.1 3 6) (v := v2) hx hb hK hP hD hS 9 rfl (hb1 hc1 hc2 hc3 hc5) d_Reckoner_push_81 (fun H locs hP hD hS => ?_)
          refine lv_aload_n hx hb d_Reckoner_push_82 rfl (lv_at hl 0 rfl) ?_
          refine S_getR (h := shC) (C := "MacroMill$Reckoner") (T := F_Reckoner) hx hb htt in_Reckoner hown hK hP 3 5 rfl 23 rfl rfl (by decide) (htt _ k_396) (fun _ h9 => h9) d_Reckoner_push_83 ?_
          refine lv_aload_n hx hb d_Reckoner_push_86 rfl (lv_at hl 0 rfl) ?_
          refine S_getI (h := shC) (C := "MacroMill$Reckoner") (T := F_Reckoner) hx hb htt in_Reckoner hown hK hP 3 6 rfl rfl rfl (by decide) (htt _ k_397) (fun _ h9 => h9) d_Reckoner_push_87 ?_
          refine toI (y := S.1 3 6) rfl ?_
          refine lv_aload_n hx hb d_Reckoner_push_90 rfl (lv_at hl 0 rfl) ?_
          refine S_getI (h := shC) (C := "MacroMill$Reckoner") (T := F_Reckoner) hx hb htt in_Reckoner hown hK hP 3 10 rfl rfl rfl (by decide) (htt _ k_401) (fun _ h9 => h9) d_Reckoner_push_91 ?_
          refine toI (y := S.1 3 10) rfl ?_
          refine S_zast (h := shC) (i := S.1 3 6) (v := S.1 3 10) hx hb hK hP hD hS 10 rfl (hb1 hc1 hc2 hc3 hc5) d_Reckoner_push_94 (fun H locs hP hD hS => ?_)
          show W _ _ _ _ _ _ _ _ _ _ _ _ _ _ _ (F0 _ 95 _ _)
          refine lv_aload_n hx hb d_Reckoner_push_95 rfl (lv_at hl 0 rfl) ?_
          refine lv_dup hx hb d_Reckoner_push_96 rfl ?_
          refine S_getI (h := shC) (C := "MacroMill$Reckoner") (T := F_Reckoner) hx hb htt in_Reckoner hown hK hP 3 6 rfl rfl rfl (by decide) (htt _ k_397) (fun _ h9 => h9) d_Reckoner_push_97 ?_
          refine toI (y := S.1 3 6) rfl ?_
          refine lv_iconst (v := 1) hx hb d_Reckoner_push_100 (by decide) ?_
          refine lv_iadd hx hb d_Reckoner_push_101 ?_
          refine S_put (h := shC) (C := "MacroMill$Reckoner") (T := F_Reckoner) (v := (S.1 3 6) + (1 : Int32)) hx hb htt in_Reckoner t_Reckoner t_Reckoner_ok n_Reckoner hown hK hP hD hS 3 6 rfl rfl rfl (by decide) (htt _ k_397) (fun _ h9 => h9) rfl rfl rfl d_Reckoner_push_102 (fun H locs hP hD hS => ?_)
          refine lv_aload_n hx hb d_Reckoner_push_105 rfl (lv_at hl 0 rfl) ?_
          refine lv_iconst (v := 1) hx hb d_Reckoner_push_106 (by decide) ?_
          refine S_put (h := shC) (C := "MacroMill$Reckoner") (T := F_Reckoner) (v := 1) hx hb htt in_Reckoner t_Reckoner t_Reckoner_ok n_Reckoner hown hK hP hD hS 3 9 rfl rfl rfl (by decide) (htt _ k_400) (fun _ h9 => h9) rfl rfl rfl d_Reckoner_push_107 (fun H locs hP hD hS => ?_)
          exact fin_v (g := g) (ws := Sw shC g ad (putI (putI (putA (putA (putA (putI S 3 7 ((S.1 3 7) + (1 : Int32))) 8 (S.1 3 6 : Int32).toNatClampNeg v1) 9 (S.1 3 6 : Int32).toNatClampNeg v2) 10 (S.1 3 6 : Int32).toNatClampNeg (vp_nar .boolean (S.1 3 10))) 3 6 ((S.1 3 6) + (1 : Int32))) 3 9 1)) hx hb hr hlocks (by decide +kernel) (by decide +kernel) hP hD hS ⟨_, rfl, (by unfold s_Reckoner_push; rw [if_pos hc1, if_neg hc2, if_neg hc3, if_pos hc5])⟩ d_Reckoner_push_110
        · refine lv_aload_n hx hb d_Reckoner_push_56 rfl (lv_at hl 0 rfl) ?_
          refine lv_iconst (v := 1) hx hb d_Reckoner_push_57 (by decide) ?_
          refine S_put (h := shC) (C := "MacroMill$Reckoner") (T := F_Reckoner) (v := 1) hx hb htt in_Reckoner t_Reckoner t_Reckoner_ok n_Reckoner hown hK hP hD hS 3 11 rfl rfl rfl (by decide) (htt _ k_402) (fun _ h9 => h9) rfl rfl rfl d_Reckoner_push_58 (fun H locs hP hD hS => ?_)
          exact fin_v (g := g) (ws := Sw shC g ad (putI (putI S 3 7 ((S.1 3 7) + (1 : Int32))) 3 11 1)) hx hb hr hlocks (by decide +kernel) (by decide +kernel) hP hD hS ⟨_, rfl, (by unfold s_Reckoner_push; rw [if_pos hc1, if_neg hc2, if_neg hc3, if_neg hc5])⟩ d_Reckoner_push_61
  · refine lv_iload_n hx hb d_Reckoner_push_4 rfl (lv_at hl 2 rfl) ?_
    refine lv_iconst (v := 1) hx hb d_Reckoner_push_5 (by decide) ?_
    refine lv_icmp_eq (tgt := 15) hx hb d_Reckoner_push_6 (by decide) (fun hc6 => ?_) (fun hc6 => ?_)
    · refine lv_aload_n hx hb d_Reckoner_push_15 rfl (lv_at hl 0 rfl) ?_
      refine lv_dup hx hb d_Reckoner_push_16 rfl ?_
      refine S_getI (h := shC) (C := "MacroMill$Reckoner") (T := F_Reckoner) hx hb htt in_Reckoner hown hK hP 3 7 rfl rfl rfl (by decide) (htt _ k_398) (fun _ h9 => h9) d_Reckoner_push_17 ?_
      refine lv_iconst (v := 1) hx hb d_Reckoner_push_20 (by decide) ?_
      refine lv_iadd hx hb d_Reckoner_push_21 ?_
      refine S_put (h := shC) (C := "MacroMill$Reckoner") (T := F_Reckoner) (v := (S.1 3 7) + (1 : Int32)) hx hb htt in_Reckoner t_Reckoner t_Reckoner_ok n_Reckoner hown hK hP hD hS 3 7 rfl rfl rfl (by decide) (htt _ k_398) (fun _ h9 => h9) rfl rfl rfl d_Reckoner_push_22 (fun H locs hP hD hS => ?_)
      refine lv_aload_n hx hb d_Reckoner_push_25 rfl (lv_at hl 0 rfl) ?_
      refine S_getI (h := shC) (C := "MacroMill$Reckoner") (T := F_Reckoner) hx hb htt in_Reckoner hown hK hP 3 6 rfl rfl rfl (by decide) (htt _ k_397) (fun _ h9 => h9) d_Reckoner_push_26 ?_
      refine toI (y := S.1 3 6) rfl ?_
      show W _ _ _ _ _ _ _ _ _ _ _ _ _ _ _ (F0 _ 29 _ _)
      refine lv_sipush (v := 1000) hx hb d_Reckoner_push_29 (by decide) ?_
      refine lv_icmp_ge (tgt := 56) hx hb d_Reckoner_push_32 (by decide) (fun hc7 => ?_) (fun hc7 => ?_)
      · refine lv_aload_n hx hb d_Reckoner_push_56 rfl (lv_at hl 0 rfl) ?_
        refine lv_iconst (v := 1) hx hb d_Reckoner_push_57 (by decide) ?_
        refine S_put (h := shC) (C := "MacroMill$Reckoner") (T := F_Reckoner) (v := 1) hx hb htt in_Reckoner t_Reckoner t_Reckoner_ok n_Reckoner hown hK hP hD hS 3 11 rfl rfl rfl (by decide) (htt _ k_402) (fun _ h9 => h9) rfl rfl rfl d_Reckoner_push_58 (fun H locs hP hD hS => ?_)
        exact fin_v (g := g) (ws := Sw shC g ad (putI (putI S 3 7 ((S.1 3 7) + (1 : Int32))) 3 11 1)) hx hb hr hlocks (by decide +kernel) (by decide +kernel) hP hD hS ⟨_, rfl, (by unfold s_Reckoner_push; rw [if_neg hc1, if_pos hc6, if_pos hc7])⟩ d_Reckoner_push_61
      · refine lv_aload_n hx hb d_Reckoner_push_35 rfl (lv_at hl 0 rfl) ?_
        refine S_getI (h := shC) (C := "MacroMill$Reckoner") (T := F_Reckoner) hx hb htt in_Reckoner hown hK hP 3 7 rfl rfl rfl (by decide) (htt _ k_398) (fun _ h9 => h9) d_Reckoner_push_36 ?_
        refine toI (y := (S.1 3 7) + (1 : Int32)) rfl ?_
        refine lv_aload_n hx hb d_Reckoner_push_39 rfl (lv_at hl 0 rfl) ?_
        refine S_getI (h := shC) (C := "MacroMill$Reckoner") (T := F_Reckoner) hx hb htt in_Reckoner hown hK hP 3 8 rfl rfl rfl (by decide) (htt _ k_399) (fun _ h9 => h9) d_Reckoner_push_40 ?_
        refine toI (y := S.1 3 8) rfl ?_
        refine lv_if_eq (tgt := 51) hx hb d_Reckoner_push_43 (by decide) (fun hc8 => ?_) (fun hc8 => ?_)
        · refine lv_bipush (v := 30) hx hb d_Reckoner_push_51 (by decide) ?_
          refine lv_icmp_le (tgt := 62) hx hb d_Reckoner_push_53 (by decide) (fun hc9 => ?_) (fun hc9 => ?_)
          · refine lv_aload_n hx hb d_Reckoner_push_62 rfl (lv_at hl 0 rfl) ?_
            refine S_getR (h := shC) (C := "MacroMill$Reckoner") (T := F_Reckoner) hx hb htt in_Reckoner hown hK hP 3 3 rfl 21 rfl rfl (by decide) (htt _ k_394) (fun _ h9 => h9) d_Reckoner_push_63 ?_
            refine lv_aload_n hx hb d_Reckoner_push_66 rfl (lv_at hl 0 rfl) ?_
            refine S_getI (h := shC) (C := "MacroMill$Reckoner") (T := F_Reckoner) hx hb htt in_Reckoner hown hK hP 3 6 rfl rfl rfl (by decide) (htt _ k_397) (fun _ h9 => h9) d_Reckoner_push_67 ?_
            refine toI (y := S.1 3 6) rfl ?_
            refine lv_iload_n hx hb d_Reckoner_push_70 rfl (lv_at hl 1 rfl) ?_
            refine S_iast (h := shC) (i := S.1 3 6) (v := v1) hx hb hK hP hD hS 8 rfl (hb2 hc1 hc6 hc7 hc8 hc9) d_Reckoner_push_71 (fun H locs hP hD hS => ?_)
            show W _ _ _ _ _ _ _ _ _ _ _ _ _ _ _ (F0 _ 72 _ _)
            refine lv_aload_n hx hb d_Reckoner_push_72 rfl (lv_at hl 0 rfl) ?_
            refine S_getR (h := shC) (C := "MacroMill$Reckoner") (T := F_Reckoner) hx hb htt in_Reckoner hown hK hP 3 4 rfl 22 rfl rfl (by decide) (htt _ k_395) (fun _ h9 => h9) d_Reckoner_push_73 ?_
            refine lv_aload_n hx hb d_Reckoner_push_76 rfl (lv_at hl 0 rfl) ?_
            refine S_getI (h := shC) (C := "MacroMill$Reckoner") (T := F_Reckoner) hx hb htt in_Reckoner hown hK hP 3 6 rfl rfl rfl (by decide) (htt _ k_397) (fun _ h9 => h9) d_Reckoner_push_77 ?_
            refine toI (y := S.1 3 6) rfl ?_
            refine lv_iload_n hx hb d_Reckoner_push_80 rfl (lv_at hl 2 rfl) ?_
            refine S_iast (h := shC) (i := S.1 3 6) (v := v2) hx hb hK hP hD hS 9 rfl (hb2 hc1 hc6 hc7 hc8 hc9) d_Reckoner_push_81 (fun H locs hP hD hS => ?_)
            refine lv_aload_n hx hb d_Reckoner_push_82 rfl (lv_at hl 0 rfl) ?_
            refine S_getR (h := shC) (C := "MacroMill$Reckoner") (T := F_Reckoner) hx hb htt in_Reckoner hown hK hP 3 5 rfl 23 rfl rfl (by decide) (htt _ k_396) (fun _ h9 => h9) d_Reckoner_push_83 ?_
            refine lv_aload_n hx hb d_Reckoner_push_86 rfl (lv_at hl 0 rfl) ?_
            refine S_getI (h := shC) (C := "MacroMill$Reckoner") (T := F_Reckoner) hx hb htt in_Reckoner hown hK hP 3 6 rfl rfl rfl (by decide) (htt _ k_397) (fun _ h9 => h9) d_Reckoner_push_87 ?_
            refine toI (y := S.1 3 6) rfl ?_
            refine lv_aload_n hx hb d_Reckoner_push_90 rfl (lv_at hl 0 rfl) ?_
            refine S_getI (h := shC) (C := "MacroMill$Reckoner") (T := F_Reckoner) hx hb htt in_Reckoner hown hK hP 3 10 rfl rfl rfl (by decide) (htt _ k_401) (fun _ h9 => h9) d_Reckoner_push_91 ?_
            refine toI (y := S.1 3 10) rfl ?_
            show W _ _ _ _ _ _ _ _ _ _ _ _ _ _ _ (F0 _ 94 _ _)
            refine S_zast (h := shC) (i := S.1 3 6) (v := S.1 3 10) hx hb hK hP hD hS 10 rfl (hb2 hc1 hc6 hc7 hc8 hc9) d_Reckoner_push_94 (fun H locs hP hD hS => ?_)
            refine lv_aload_n hx hb d_Reckoner_push_95 rfl (lv_at hl 0 rfl) ?_
            refine lv_dup hx hb d_Reckoner_push_96 rfl ?_
            refine S_getI (h := shC) (C := "MacroMill$Reckoner") (T := F_Reckoner) hx hb htt in_Reckoner hown hK hP 3 6 rfl rfl rfl (by decide) (htt _ k_397) (fun _ h9 => h9) d_Reckoner_push_97 ?_
            refine toI (y := S.1 3 6) rfl ?_
            refine lv_iconst (v := 1) hx hb d_Reckoner_push_100 (by decide) ?_
            refine lv_iadd hx hb d_Reckoner_push_101 ?_
            refine S_put (h := shC) (C := "MacroMill$Reckoner") (T := F_Reckoner) (v := (S.1 3 6) + (1 : Int32)) hx hb htt in_Reckoner t_Reckoner t_Reckoner_ok n_Reckoner hown hK hP hD hS 3 6 rfl rfl rfl (by decide) (htt _ k_397) (fun _ h9 => h9) rfl rfl rfl d_Reckoner_push_102 (fun H locs hP hD hS => ?_)
            refine lv_aload_n hx hb d_Reckoner_push_105 rfl (lv_at hl 0 rfl) ?_
            refine lv_iconst (v := 1) hx hb d_Reckoner_push_106 (by decide) ?_
            refine S_put (h := shC) (C := "MacroMill$Reckoner") (T := F_Reckoner) (v := 1) hx hb htt in_Reckoner t_Reckoner t_Reckoner_ok n_Reckoner hown hK hP hD hS 3 9 rfl rfl rfl (by decide) (htt _ k_400) (fun _ h9 => h9) rfl rfl rfl d_Reckoner_push_107 (fun H locs hP hD hS => ?_)
            exact fin_v (g := g) (ws := Sw shC g ad (putI (putI (putA (putA (putA (putI S 3 7 ((S.1 3 7) + (1 : Int32))) 8 (S.1 3 6 : Int32).toNatClampNeg v1) 9 (S.1 3 6 : Int32).toNatClampNeg v2) 10 (S.1 3 6 : Int32).toNatClampNeg (vp_nar .boolean (S.1 3 10))) 3 6 ((S.1 3 6) + (1 : Int32))) 3 9 1)) hx hb hr hlocks (by decide +kernel) (by decide +kernel) hP hD hS ⟨_, rfl, (by unfold s_Reckoner_push; rw [if_neg hc1, if_pos hc6, if_neg hc7, if_pos hc8, if_pos hc9])⟩ d_Reckoner_push_110
          · refine lv_aload_n hx hb d_Reckoner_push_56 rfl (lv_at hl 0 rfl) ?_
            refine lv_iconst (v := 1) hx hb d_Reckoner_push_57 (by decide) ?_
            refine S_put (h := shC) (C := "MacroMill$Reckoner") (T := F_Reckoner) (v := 1) hx hb htt in_Reckoner t_Reckoner t_Reckoner_ok n_Reckoner hown hK hP hD hS 3 11 rfl rfl rfl (by decide) (htt _ k_402) (fun _ h9 => h9) rfl rfl rfl d_Reckoner_push_58 (fun H locs hP hD hS => ?_)
            exact fin_v (g := g) (ws := Sw shC g ad (putI (putI S 3 7 ((S.1 3 7) + (1 : Int32))) 3 11 1)) hx hb hr hlocks (by decide +kernel) (by decide +kernel) hP hD hS ⟨_, rfl, (by unfold s_Reckoner_push; rw [if_neg hc1, if_pos hc6, if_neg hc7, if_pos hc8, if_neg hc9])⟩ d_Reckoner_push_61
        · refine lv_bipush (v := 60) hx hb d_Reckoner_push_46 (by decide) ?_
          refine lv_goto (tgt := 53) hx hb d_Reckoner_push_48 (by decide) ?_
          refine lv_icmp_le (tgt := 62) hx hb d_Reckoner_push_53 (by decide) (fun hc10 => ?_) (fun hc10 => ?_)
          · refine lv_aload_n hx hb d_Reckoner_push_62 rfl (lv_at hl 0 rfl) ?_
            refine S_getR (h := shC) (C := "MacroMill$Reckoner") (T := F_Reckoner) hx hb htt in_Reckoner hown hK hP 3 3 rfl 21 rfl rfl (by decide) (htt _ k_394) (fun _ h9 => h9) d_Reckoner_push_63 ?_
            refine lv_aload_n hx hb d_Reckoner_push_66 rfl (lv_at hl 0 rfl) ?_
            refine S_getI (h := shC) (C := "MacroMill$Reckoner") (T := F_Reckoner) hx hb htt in_Reckoner hown hK hP 3 6 rfl rfl rfl (by decide) (htt _ k_397) (fun _ h9 => h9) d_Reckoner_push_67 ?_
            refine toI (y := S.1 3 6) rfl ?_
            refine lv_iload_n hx hb d_Reckoner_push_70 rfl (lv_at hl 1 rfl) ?_
            show W _ _ _ _ _ _ _ _ _ _ _ _ _ _ _ (F0 _ 71 _ _)
            refine S_iast (h := shC) (i := S.1 3 6) (v := v1) hx hb hK hP hD hS 8 rfl (hb3 hc1 hc6 hc7 hc8 hc10) d_Reckoner_push_71 (fun H locs hP hD hS => ?_)
            refine lv_aload_n hx hb d_Reckoner_push_72 rfl (lv_at hl 0 rfl) ?_
            refine S_getR (h := shC) (C := "MacroMill$Reckoner") (T := F_Reckoner) hx hb htt in_Reckoner hown hK hP 3 4 rfl 22 rfl rfl (by decide) (htt _ k_395) (fun _ h9 => h9) d_Reckoner_push_73 ?_
            refine lv_aload_n hx hb d_Reckoner_push_76 rfl (lv_at hl 0 rfl) ?_
            refine S_getI (h := shC) (C := "MacroMill$Reckoner") (T := F_Reckoner) hx hb htt in_Reckoner hown hK hP 3 6 rfl rfl rfl (by decide) (htt _ k_397) (fun _ h9 => h9) d_Reckoner_push_77 ?_
            refine toI (y := S.1 3 6) rfl ?_
            refine lv_iload_n hx hb d_Reckoner_push_80 rfl (lv_at hl 2 rfl) ?_
            refine S_iast (h := shC) (i := S.1 3 6) (v := v2) hx hb hK hP hD hS 9 rfl (hb3 hc1 hc6 hc7 hc8 hc10) d_Reckoner_push_81 (fun H locs hP hD hS => ?_)
            refine lv_aload_n hx hb d_Reckoner_push_82 rfl (lv_at hl 0 rfl) ?_
            refine S_getR (h := shC) (C := "MacroMill$Reckoner") (T := F_Reckoner) hx hb htt in_Reckoner hown hK hP 3 5 rfl 23 rfl rfl (by decide) (htt _ k_396) (fun _ h9 => h9) d_Reckoner_push_83 ?_
            refine lv_aload_n hx hb d_Reckoner_push_86 rfl (lv_at hl 0 rfl) ?_
            refine S_getI (h := shC) (C := "MacroMill$Reckoner") (T := F_Reckoner) hx hb htt in_Reckoner hown hK hP 3 6 rfl rfl rfl (by decide) (htt _ k_397) (fun _ h9 => h9) d_Reckoner_push_87 ?_
            refine toI (y := S.1 3 6) rfl ?_
            refine lv_aload_n hx hb d_Reckoner_push_90 rfl (lv_at hl 0 rfl) ?_
            show W _ _ _ _ _ _ _ _ _ _ _ _ _ _ _ (F0 _ 91 _ _)
            refine S_getI (h := shC) (C := "MacroMill$Reckoner") (T := F_Reckoner) hx hb htt in_Reckoner hown hK hP 3 10 rfl rfl rfl (by decide) (htt _ k_401) (fun _ h9 => h9) d_Reckoner_push_91 ?_
            refine toI (y := S.1 3 10) rfl ?_
            refine S_zast (h := shC) (i := S.1 3 6) (v := S.1 3 10) hx hb hK hP hD hS 10 rfl (hb3 hc1 hc6 hc7 hc8 hc10) d_Reckoner_push_94 (fun H locs hP hD hS => ?_)
            refine lv_aload_n hx hb d_Reckoner_push_95 rfl (lv_at hl 0 rfl) ?_
            refine lv_dup hx hb d_Reckoner_push_96 rfl ?_
            refine S_getI (h := shC) (C := "MacroMill$Reckoner") (T := F_Reckoner) hx hb htt in_Reckoner hown hK hP 3 6 rfl rfl rfl (by decide) (htt _ k_397) (fun _ h9 => h9) d_Reckoner_push_97 ?_
            refine toI (y := S.1 3 6) rfl ?_
            refine lv_iconst (v := 1) hx hb d_Reckoner_push_100 (by decide) ?_
            refine lv_iadd hx hb d_Reckoner_push_101 ?_
            refine S_put (h := shC) (C := "MacroMill$Reckoner") (T := F_Reckoner) (v := (S.1 3 6) + (1 : Int32)) hx hb htt in_Reckoner t_Reckoner t_Reckoner_ok n_Reckoner hown hK hP hD hS 3 6 rfl rfl rfl (by decide) (htt _ k_397) (fun _ h9 => h9) rfl rfl rfl d_Reckoner_push_102 (fun H locs hP hD hS => ?_)
            refine lv_aload_n hx hb d_Reckoner_push_105 rfl (lv_at hl 0 rfl) ?_
            refine lv_iconst (v := 1) hx hb d_Reckoner_push_106 (by decide) ?_
            refine S_put (h := shC) (C := "MacroMill$Reckoner") (T := F_Reckoner) (v := 1) hx hb htt in_Reckoner t_Reckoner t_Reckoner_ok n_Reckoner hown hK hP hD hS 3 9 rfl rfl rfl (by decide) (htt _ k_400) (fun _ h9 => h9) rfl rfl rfl d_Reckoner_push_107 (fun H locs hP hD hS => ?_)
            exact fin_v (g := g) (ws := Sw shC g ad (putI (putI (putA (putA (putA (putI S 3 7 ((S.1 3 7) + (1 : Int32))) 8 (S.1 3 6 : Int32).toNatClampNeg v1) 9 (S.1 3 6 : Int32).toNatClampNeg v2) 10 (S.1 3 6 : Int32).toNatClampNeg (vp_nar .boolean (S.1 3 10))) 3 6 ((S.1 3 6) + (1 : Int32))) 3 9 1)) hx hb hr hlocks (by decide +kernel) (by decide +kernel) hP hD hS ⟨_, rfl, (by unfold s_Reckoner_push; rw [if_neg hc1, if_pos hc6, if_neg hc7, if_neg hc8, if_pos hc10])⟩ d_Reckoner_push_110
          · refine lv_aload_n hx hb d_Reckoner_push_56 rfl (lv_at hl 0 rfl) ?_
            refine lv_iconst (v := 1) hx hb d_Reckoner_push_57 (by decide) ?_
            refine S_put (h := shC) (C := "MacroMill$Reckoner") (T := F_Reckoner) (v := 1) hx hb htt in_Reckoner t_Reckoner t_Reckoner_ok n_Reckoner hown hK hP hD hS 3 11 rfl rfl rfl (by decide) (htt _ k_402) (fun _ h9 => h9) rfl rfl rfl d_Reckoner_push_58 (fun H locs hP hD hS => ?_)
            exact fin_v (g := g) (ws := Sw shC g ad (putI (putI S 3 7 ((S.1 3 7) + (1 : Int32))) 3 11 1)) hx hb hr hlocks (by decide +kernel) (by decide +kernel) hP hD hS ⟨_, rfl, (by unfold s_Reckoner_push; rw [if_neg hc1, if_pos hc6, if_neg hc7, if_neg hc8, if_neg hc10])⟩ d_Reckoner_push_61
    · refine lv_iload_n hx hb d_Reckoner_push_9 rfl (lv_at hl 2 rfl) ?_
      refine lv_bipush (v := 20) hx hb d_Reckoner_push_10 (by decide) ?_
      refine lv_icmp_ne (tgt := 25) hx hb d_Reckoner_push_12 (by decide) (fun hc11 => ?_) (fun hc11 => ?_)
      · refine lv_aload_n hx hb d_Reckoner_push_25 rfl (lv_at hl 0 rfl) ?_
        refine S_getI (h := shC) (C := "MacroMill$Reckoner") (T := F_Reckoner) hx hb htt in_Reckoner hown hK hP 3 6 rfl rfl rfl (by decide) (htt _ k_397) (fun _ h9 => h9) d_Reckoner_push_26 ?_
        refine lv_sipush (v := 1000) hx hb d_Reckoner_push_29 (by decide) ?_
        refine lv_icmp_ge (tgt := 56) hx hb d_Reckoner_push_32 (by decide) (fun hc12 => ?_) (fun hc12 => ?_)
        · refine lv_aload_n hx hb d_Reckoner_push_56 rfl (lv_at hl 0 rfl) ?_
          refine lv_iconst (v := 1) hx hb d_Reckoner_push_57 (by decide) ?_
          refine S_put (h := shC) (C := "MacroMill$Reckoner") (T := F_Reckoner) (v := 1) hx hb htt in_Reckoner t_Reckoner t_Reckoner_ok n_Reckoner hown hK hP hD hS 3 11 rfl rfl rfl (by decide) (htt _ k_402) (fun _ h9 => h9) rfl rfl rfl d_Reckoner_push_58 (fun H locs hP hD hS => ?_)
          show W _ _ _ _ _ _ _ _ _ _ _ _ _ _ _ (F0 _ 61 _ _)
          exact fin_v (g := g) (ws := Sw shC g ad (putI S 3 11 1)) hx hb hr hlocks (by decide +kernel) (by decide +kernel) hP hD hS ⟨_, rfl, (by unfold s_Reckoner_push; rw [if_neg hc1, if_neg hc6, if_neg hc11, if_pos hc12])⟩ d_Reckoner_push_61
        · refine lv_aload_n hx hb d_Reckoner_push_35 rfl (lv_at hl 0 rfl) ?_
          refine S_getI (h := shC) (C := "MacroMill$Reckoner") (T := F_Reckoner) hx hb htt in_Reckoner hown hK hP 3 7 rfl rfl rfl (by decide) (htt _ k_398) (fun _ h9 => h9) d_Reckoner_push_36 ?_
          refine lv_aload_n hx hb d_Reckoner_push_39 rfl (lv_at hl 0 rfl) ?_
          show W _ _ _ _ _ _ _ _ _ _ _ _ _ _ _ (F0 _ 40 _ _)
          refine S_getI (h := shC) (C := "MacroMill$Reckoner") (T := F_Reckoner) hx hb htt in_Reckoner hown hK hP 3 8 rfl rfl rfl (by decide) (htt _ k_399) (fun _ h9 => h9) d_Reckoner_push_40 ?_
          refine lv_if_eq (tgt := 51) hx hb d_Reckoner_push_43 (by decide) (fun hc13 => ?_) (fun hc13 => ?_)
          · refine lv_bipush (v := 30) hx hb d_Reckoner_push_51 (by decide) ?_
            refine lv_icmp_le (tgt := 62) hx hb d_Reckoner_push_53 (by decide) (fun hc14 => ?_) (fun hc14 => ?_)
            · refine lv_aload_n hx hb d_Reckoner_push_62 rfl (lv_at hl 0 rfl) ?_
              refine S_getR (h := shC) (C := "MacroMill$Reckoner") (T := F_Reckoner) hx hb htt in_Reckoner hown hK hP 3 3 rfl 21 rfl rfl (by decide) (htt _ k_394) (fun _ h9 => h9) d_Reckoner_push_63 ?_
              refine lv_aload_n hx hb d_Reckoner_push_66 rfl (lv_at hl 0 rfl) ?_
              refine S_getI (h := shC) (C := "MacroMill$Reckoner") (T := F_Reckoner) hx hb htt in_Reckoner hown hK hP 3 6 rfl rfl rfl (by decide) (htt _ k_397) (fun _ h9 => h9) d_Reckoner_push_67 ?_
              refine lv_iload_n hx hb d_Reckoner_push_70 rfl (lv_at hl 1 rfl) ?_
              refine S_iast (h := shC) (i := S.1 3 6) (v := v1) hx hb hK hP hD hS 8 rfl (hb4 hc1 hc6 hc11 hc12 hc13 hc14) d_Reckoner_push_71 (fun H locs hP hD hS => ?_)
              refine lv_aload_n hx hb d_Reckoner_push_72 rfl (lv_at hl 0 rfl) ?_
              refine S_getR (h := shC) (C := "MacroMill$Reckoner") (T := F_Reckoner) hx hb htt in_Reckoner hown hK hP 3 4 rfl 22 rfl rfl (by decide) (htt _ k_395) (fun _ h9 => h9) d_Reckoner_push_73 ?_
              refine lv_aload_n hx hb d_Reckoner_push_76 rfl (lv_at hl 0 rfl) ?_
              refine S_getI (h := shC) (C := "MacroMill$Reckoner") (T := F_Reckoner) hx hb htt in_Reckoner hown hK hP 3 6 rfl rfl rfl (by decide) (htt _ k_397) (fun _ h9 => h9) d_Reckoner_push_77 ?_
              refine toI (y := S.1 3 6) rfl ?_
              show W _ _ _ _ _ _ _ _ _ _ _ _ _ _ _ (F0 _ 80 _ _)
              refine lv_iload_n hx hb d_Reckoner_push_80 rfl (lv_at hl 2 rfl) ?_
              refine S_iast (h := shC) (i := S.1 3 6) (v := v2) hx hb hK hP hD hS 9 rfl (hb4 hc1 hc6 hc11 hc12 hc13 hc14) d_Reckoner_push_81 (fun H locs hP hD hS => ?_)
              refine lv_aload_n hx hb d_Reckoner_push_82 rfl (lv_at hl 0 rfl) ?_
              refine S_getR (h := shC) (C := "MacroMill$Reckoner") (T := F_Reckoner) hx hb htt in_Reckoner hown hK hP 3 5 rfl 23 rfl rfl (by decide) (htt _ k_396) (fun _ h9 => h9) d_Reckoner_push_83 ?_
              refine lv_aload_n hx hb d_Reckoner_push_86 rfl (lv_at hl 0 rfl) ?_
              refine S_getI (h := shC) (C := "MacroMill$Reckoner") (T := F_Reckoner) hx hb htt in_Reckoner hown hK hP 3 6 rfl rfl rfl (by decide) (htt _ k_397) (fun _ h9 => h9) d_Reckoner_push_87 ?_
              refine toI (y := S.1 3 6) rfl ?_
              refine lv_aload_n hx hb d_Reckoner_push_90 rfl (lv_at hl 0 rfl) ?_
              refine S_getI (h := shC) (C := "MacroMill$Reckoner") (T := F_Reckoner) hx hb htt in_Reckoner hown hK hP 3 10 rfl rfl rfl (by decide) (htt _ k_401) (fun _ h9 => h9) d_Reckoner_push_91 ?_
              refine toI (y := S.1 3 10) rfl ?_
              refine S_zast (h := shC) (i := S.1 3 6) (v := S.1 3 10) hx hb hK hP hD hS 10 rfl (hb4 hc1 hc6 hc11 hc12 hc13 hc14) d_Reckoner_push_94 (fun H locs hP hD hS => ?_)
              refine lv_aload_n hx hb d_Reckoner_push_95 rfl (lv_at hl 0 rfl) ?_
              refine lv_dup hx hb d_Reckoner_push_96 rfl ?_
              refine S_getI (h := shC) (C := "MacroMill$Reckoner") (T := F_Reckoner) hx hb htt in_Reckoner hown hK hP 3 6 rfl rfl rfl (by decide) (htt _ k_397) (fun _ h9 => h9) d_Reckoner_push_97 ?_
              refine toI (y := S.1 3 6) rfl ?_
              show W _ _ _ _ _ _ _ _ _ _ _ _ _ _ _ (F0 _ 100 _ _)
              refine lv_iconst (v := 1) hx hb d_Reckoner_push_100 (by decide) ?_
              refine lv_iadd hx hb d_Reckoner_push_101 ?_
              refine S_put (h := shC) (C := "MacroMill$Reckoner") (T := F_Reckoner) (v := (S.1 3 6) + (1 : Int32)) hx hb htt in_Reckoner t_Reckoner t_Reckoner_ok n_Reckoner hown hK hP hD hS 3 6 rfl rfl rfl (by decide) (htt _ k_397) (fun _ h9 => h9) rfl rfl rfl d_Reckoner_push_102 (fun H locs hP hD hS => ?_)
              refine lv_aload_n hx hb d_Reckoner_push_105 rfl (lv_at hl 0 rfl) ?_
              refine lv_iconst (v := 1) hx hb d_Reckoner_push_106 (by decide) ?_
              refine S_put (h := shC) (C := "MacroMill$Reckoner") (T := F_Reckoner) (v := 1) hx hb htt in_Reckoner t_Reckoner t_Reckoner_ok n_Reckoner hown hK hP hD hS 3 9 rfl rfl rfl (by decide) (htt _ k_400) (fun _ h9 => h9) rfl rfl rfl d_Reckoner_push_107 (fun H locs hP hD hS => ?_)
              exact fin_v (g := g) (ws := Sw shC g ad (putI (putI (putA (putA (putA S 8 (S.1 3 6 : Int32).toNatClampNeg v1) 9 (S.1 3 6 : Int32).toNatClampNeg v2) 10 (S.1 3 6 : Int32).toNatClampNeg (vp_nar .boolean (S.1 3 10))) 3 6 ((S.1 3 6) + (1 : Int32))) 3 9 1)) hx hb hr hlocks (by decide +kernel) (by decide +kernel) hP hD hS ⟨_, rfl, (by unfold s_Reckoner_push; rw [if_neg hc1, if_neg hc6, if_neg hc11, if_neg hc12, if_pos hc13, if_pos hc14])⟩ d_Reckoner_push_110
            · refine lv_aload_n hx hb d_Reckoner_push_56 rfl (lv_at hl 0 rfl) ?_
              refine lv_iconst (v := 1) hx hb d_Reckoner_push_57 (by decide) ?_
              refine S_put (h := shC) (C := "MacroMill$Reckoner") (T := F_Reckoner) (v := 1) hx hb htt in_Reckoner t_Reckoner t_Reckoner_ok n_Reckoner hown hK hP hD hS 3 11 rfl rfl rfl (by decide) (htt _ k_402) (fun _ h9 => h9) rfl rfl rfl d_Reckoner_push_58 (fun H locs hP hD hS => ?_)
              exact fin_v (g := g) (ws := Sw shC g ad (putI S 3 11 1)) hx hb hr hlocks (by decide +kernel) (by decide +kernel) hP hD hS ⟨_, rfl, (by unfold s_Reckoner_push; rw [if_neg hc1, if_neg hc6, if_neg hc11, if_neg hc12, if_pos hc13, if_neg hc14])⟩ d_Reckoner_push_61
          · refine lv_bipush (v := 60) hx hb d_Reckoner_push_46 (by decide) ?_
            refine lv_goto (tgt := 53) hx hb d_Reckoner_push_48 (by decide) ?_
            refine lv_icmp_le (tgt := 62) hx hb d_Reckoner_push_53 (by decide) (fun hc15 => ?_) (fun hc15 => ?_)
            · refine lv_aload_n hx hb d_Reckoner_push_62 rfl (lv_at hl 0 rfl) ?_
              refine S_getR (h := shC) (C := "MacroMill$Reckoner") (T := F_Reckoner) hx hb htt in_Reckoner hown hK hP 3 3 rfl 21 rfl rfl (by decide) (htt _ k_394) (fun _ h9 => h9) d_Reckoner_push_63 ?_
              refine lv_aload_n hx hb d_Reckoner_push_66 rfl (lv_at hl 0 rfl) ?_
              refine S_getI (h := shC) (C := "MacroMill$Reckoner") (T := F_Reckoner) hx hb htt in_Reckoner hown hK hP 3 6 rfl rfl rfl (by decide) (htt _ k_397) (fun _ h9 => h9) d_Reckoner_push_67 ?_
              refine lv_iload_n hx hb d_Reckoner_push_70 rfl (lv_at hl 1 rfl) ?_
              refine S_iast (h := shC) (i := S.1 3 6) (v := v1) hx hb hK hP hD hS 8 rfl (hb5 hc1 hc6 hc11 hc12 hc13 hc15) d_Reckoner_push_71 (fun H locs hP hD hS => ?_)
              refine lv_aload_n hx hb d_Reckoner_push_72 rfl (lv_at hl 0 rfl) ?_
              refine S_getR (h := shC) (C := "MacroMill$Reckoner") (T := F_Reckoner) hx hb htt in_Reckoner hown hK hP 3 4 rfl 22 rfl rfl (by decide) (htt _ k_395) (fun _ h9 => h9) d_Reckoner_push_73 ?_
              refine lv_aload_n hx hb d_Reckoner_push_76 rfl (lv_at hl 0 rfl) ?_
              show W _ _ _ _ _ _ _ _ _ _ _ _ _ _ _ (F0 _ 77 _ _)
              refine S_getI (h := shC) (C := "MacroMill$Reckoner") (T := F_Reckoner) hx hb htt in_Reckoner hown hK hP 3 6 rfl rfl rfl (by decide) (htt _ k_397) (fun _ h9 => h9) d_Reckoner_push_77 ?_
              refine toI (y := S.1 3 6) rfl ?_
              refine lv_iload_n hx hb d_Reckoner_push_80 rfl (lv_at hl 2 rfl) ?_
              refine S_iast (h := shC) (i := S.1 3 6) (v := v2) hx hb hK hP hD hS 9 rfl (hb5 hc1 hc6 hc11 hc12 hc13 hc15) d_Reckoner_push_81 (fun H locs hP hD hS => ?_)
              refine lv_aload_n hx hb d_Reckoner_push_82 rfl (lv_at hl 0 rfl) ?_
              refine S_getR (h := shC) (C := "MacroMill$Reckoner") (T := F_Reckoner) hx hb htt in_Reckoner hown hK hP 3 5 rfl 23 rfl rfl (by decide) (htt _ k_396) (fun _ h9 => h9) d_Reckoner_push_83 ?_
              refine lv_aload_n hx hb d_Reckoner_push_86 rfl (lv_at hl 0 rfl) ?_
              refine S_getI (h := shC) (C := "MacroMill$Reckoner") (T := F_Reckoner) hx hb htt in_Reckoner hown hK hP 3 6 rfl rfl rfl (by decide) (htt _ k_397) (fun _ h9 => h9) d_Reckoner_push_87 ?_
              refine toI (y := S.1 3 6) rfl ?_
              refine lv_aload_n hx hb d_Reckoner_push_90 rfl (lv_at hl 0 rfl) ?_
              refine S_getI (h := shC) (C := "MacroMill$Reckoner") (T := F_Reckoner) hx hb htt in_Reckoner hown hK hP 3 10 rfl rfl rfl (by decide) (htt _ k_401) (fun _ h9 => h9) d_Reckoner_push_91 ?_
              refine toI (y := S.1 3 10) rfl ?_
              refine S_zast (h := shC) (i := S.1 3 6) (v := S.1 3 10) hx hb hK hP hD hS 10 rfl (hb5 hc1 hc6 hc11 hc12 hc13 hc15) d_Reckoner_push_94 (fun H locs hP hD hS => ?_)
              refine lv_aload_n hx hb d_Reckoner_push_95 rfl (lv_at hl 0 rfl) ?_
              refine lv_dup hx hb d_Reckoner_push_96 rfl ?_
              show W _ _ _ _ _ _ _ _ _ _ _ _ _ _ _ (F0 _ 97 _ _)
              refine S_getI (h := shC) (C := "MacroMill$Reckoner") (T := F_Reckoner) hx hb htt in_Reckoner hown hK hP 3 6 rfl rfl rfl (by decide) (htt _ k_397) (fun _ h9 => h9) d_Reckoner_push_97 ?_
              refine toI (y := S.1 3 6) rfl ?_
              refine lv_iconst (v := 1) hx hb d_Reckoner_push_100 (by decide) ?_
              refine lv_iadd hx hb d_Reckoner_push_101 ?_
              refine S_put (h := shC) (C := "MacroMill$Reckoner") (T := F_Reckoner) (v := (S.1 3 6) + (1 : Int32)) hx hb htt in_Reckoner t_Reckoner t_Reckoner_ok n_Reckoner hown hK hP hD hS 3 6 rfl rfl rfl (by decide) (htt _ k_397) (fun _ h9 => h9) rfl rfl rfl d_Reckoner_push_102 (fun H locs hP hD hS => ?_)
              refine lv_aload_n hx hb d_Reckoner_push_105 rfl (lv_at hl 0 rfl) ?_
              refine lv_iconst (v := 1) hx hb d_Reckoner_push_106 (by decide) ?_
              refine S_put (h := shC) (C := "MacroMill$Reckoner") (T := F_Reckoner) (v := 1) hx hb htt in_Reckoner t_Reckoner t_Reckoner_ok n_Reckoner hown hK hP hD hS 3 9 rfl rfl rfl (by decide) (htt _ k_400) (fun _ h9 => h9) rfl rfl rfl d_Reckoner_push_107 (fun H locs hP hD hS => ?_)
              exact fin_v (g := g) (ws := Sw shC g ad (putI (putI (putA (putA (putA S 8 (S.1 3 6 : Int32).toNatClampNeg v1) 9 (S.1 3 6 : Int32).toNatClampNeg v2) 10 (S.1 3 6 : Int32).toNatClampNeg (vp_nar .boolean (S.1 3 10))) 3 6 ((S.1 3 6) + (1 : Int32))) 3 9 1)) hx hb hr hlocks (by decide +kernel) (by decide +kernel) hP hD hS ⟨_, rfl, (by unfold s_Reckoner_push; rw [if_neg hc1, if_neg hc6, if_neg hc11, if_neg hc12, if_neg hc13, if_pos hc15])⟩ d_Reckoner_push_110
            · refine lv_aload_n hx hb d_Reckoner_push_56 rfl (lv_at hl 0 rfl) ?_
              refine lv_iconst (v := 1) hx hb d_Reckoner_push_57 (by decide) ?_
              refine S_put (h := shC) (C := "MacroMill$Reckoner") (T := F_Reckoner) (v := 1) hx hb htt in_Reckoner t_Reckoner t_Reckoner_ok n_Reckoner hown hK hP hD hS 3 11 rfl rfl rfl (by decide) (htt _ k_402) (fun _ h9 => h9) rfl rfl rfl d_Reckoner_push_58 (fun H locs hP hD hS => ?_)
              exact fin_v (g := g) (ws := Sw shC g ad (putI S 3 11 1)) hx hb hr hlocks (by decide +kernel) (by decide +kernel) hP hD hS ⟨_, rfl, (by unfold s_Reckoner_push; rw [if_neg hc1, if_neg hc6, if_neg hc11, if_neg hc12, if_neg hc13, if_neg hc15])⟩ d_Reckoner_push_61
      · refine lv_aload_n hx hb d_Reckoner_push_15 rfl (lv_at hl 0 rfl) ?_
        refine lv_dup hx hb d_Reckoner_push_16 rfl ?_
        refine S_getI (h := shC) (C := "MacroMill$Reckoner") (T := F_Reckoner) hx hb htt in_Reckoner hown hK hP 3 7 rfl rfl rfl (by decide) (htt _ k_398) (fun _ h9 => h9) d_Reckoner_push_17 ?_
        refine lv_iconst (v := 1) hx hb d_Reckoner_push_20 (by decide) ?_
        refine lv_iadd hx hb d_Reckoner_push_21 ?_
        refine S_put (h := shC) (C := "MacroMill$Reckoner") (T := F_Reckoner) (v := (S.1 3 7) + (1 : Int32)) hx hb htt in_Reckoner t_Reckoner t_Reckoner_ok n_Reckoner hown hK hP hD hS 3 7 rfl rfl rfl (by decide) (htt _ k_398) (fun _ h9 => h9) rfl rfl rfl d_Reckoner_push_22 (fun H locs hP hD hS => ?_)
        show W _ _ _ _ _ _ _ _ _ _ _ _ _ _ _ (F0 _ 25 _ _)
        refine lv_aload_n hx hb d_Reckoner_push_25 rfl (lv_at hl 0 rfl) ?_
        refine S_getI (h := shC) (C := "MacroMill$Reckoner") (T := F_Reckoner) hx hb htt in_Reckoner hown hK hP 3 6 rfl rfl rfl (by decide) (htt _ k_397) (fun _ h9 => h9) d_Reckoner_push_26 ?_
        refine toI (y := S.1 3 6) rfl ?_
        refine lv_sipush (v := 1000) hx hb d_Reckoner_push_29 (by decide) ?_
        refine lv_icmp_ge (tgt := 56) hx hb d_Reckoner_push_32 (by decide) (fun hc16 => ?_) (fun hc16 => ?_)
        · refine lv_aload_n hx hb d_Reckoner_push_56 rfl (lv_at hl 0 rfl) ?_
          refine lv_iconst (v := 1) hx hb d_Reckoner_push_57 (by decide) ?_
          refine S_put (h := shC) (C := "MacroMill$Reckoner") (T := F_Reckoner) (v := 1) hx hb htt in_Reckoner t_Reckoner t_Reckoner_ok n_Reckoner hown hK hP hD hS 3 11 rfl rfl rfl (by decide) (htt _ k_402) (fun _ h9 => h9) rfl rfl rfl d_Reckoner_push_58 (fun H locs hP hD hS => ?_)
          exact fin_v (g := g) (ws := Sw shC g ad (putI (putI S 3 7 ((S.1 3 7) + (1 : Int32))) 3 11 1)) hx hb hr hlocks (by decide +kernel) (by decide +kernel) hP hD hS ⟨_, rfl, (by unfold s_Reckoner_push; rw [if_neg hc1, if_neg hc6, if_pos hc11, if_pos hc16])⟩ d_Reckoner_push_61
        · refine lv_aload_n hx hb d_Reckoner_push_35 rfl (lv_at hl 0 rfl) ?_
          refine S_getI (h := shC) (C := "MacroMill$Reckoner") (T := F_Reckoner) hx hb htt in_Reckoner hown hK hP 3 7 rfl rfl rfl (by decide) (htt _ k_398) (fun _ h9 => h9) d_Reckoner_push_36 ?_
          refine toI (y := (S.1 3 7) + (1 : Int32)) rfl ?_
          refine lv_aload_n hx hb d_Reckoner_push_39 rfl (lv_at hl 0 rfl) ?_
          refine S_getI (h := shC) (C := "MacroMill$Reckoner") (T := F_Reckoner) hx hb htt in_Reckoner hown hK hP 3 8 rfl rfl rfl (by decide) (htt _ k_399) (fun _ h9 => h9) d_Reckoner_push_40 ?_
          refine toI (y := S.1 3 8) rfl ?_
          refine lv_if_eq (tgt := 51) hx hb d_Reckoner_push_43 (by decide) (fun hc17 => ?_) (fun hc17 => ?_)
          · refine lv_bipush (v := 30) hx hb d_Reckoner_push_51 (by decide) ?_
            refine lv_icmp_le (tgt := 62) hx hb d_Reckoner_push_53 (by decide) (fun hc18 => ?_) (fun hc18 => ?_)
            · refine lv_aload_n hx hb d_Reckoner_push_62 rfl (lv_at hl 0 rfl) ?_
              refine S_getR (h := shC) (C := "MacroMill$Reckoner") (T := F_Reckoner) hx hb htt in_Reckoner hown hK hP 3 3 rfl 21 rfl rfl (by decide) (htt _ k_394) (fun _ h9 => h9) d_Reckoner_push_63 ?_
              refine lv_aload_n hx hb d_Reckoner_push_66 rfl (lv_at hl 0 rfl) ?_
              refine S_getI (h := shC) (C := "MacroMill$Reckoner") (T := F_Reckoner) hx hb htt in_Reckoner hown hK hP 3 6 rfl rfl rfl (by decide) (htt _ k_397) (fun _ h9 => h9) d_Reckoner_push_67 ?_
              refine toI (y := S.1 3 6) rfl ?_
              show W _ _ _ _ _ _ _ _ _ _ _ _ _ _ _ (F0 _ 70 _ _)
              refine lv_iload_n hx hb d_Reckoner_push_70 rfl (lv_at hl 1 rfl) ?_
              refine S_iast (h := shC) (i := S.1 3 6) (v := v1) hx hb hK hP hD hS 8 rfl (hb6 hc1 hc6 hc11 hc16 hc17 hc18) d_Reckoner_push_71 (fun H locs hP hD hS => ?_)
              refine lv_aload_n hx hb d_Reckoner_push_72 rfl (lv_at hl 0 rfl) ?_
              refine S_getR (h := shC) (C := "MacroMill$Reckoner") (T := F_Reckoner) hx hb htt in_Reckoner hown hK hP 3 4 rfl 22 rfl rfl (by decide) (htt _ k_395) (fun _ h9 => h9) d_Reckoner_push_73 ?_
              refine lv_aload_n hx hb d_Reckoner_push_76 rfl (lv_at hl 0 rfl) ?_
              refine S_getI (h := shC) (C := "MacroMill$Reckoner") (T := F_Reckoner) hx hb htt in_Reckoner hown hK hP 3 6 rfl rfl rfl (by decide) (htt _ k_397) (fun _ h9 => h9) d_Reckoner_push_77 ?_
              refine toI (y := S.1 3 6) rfl ?_
              refine lv_iload_n hx hb d_Reckoner_push_80 rfl (lv_at hl 2 rfl) ?_
              refine S_iast (h := shC) (i := S.1 3 6) (v := v2) hx hb hK hP hD hS 9 rfl (hb6 hc1 hc6 hc11 hc16 hc17 hc18) d_Reckoner_push_81 (fun H locs hP hD hS => ?_)
              refine lv_aload_n hx hb d_Reckoner_push_82 rfl (lv_at hl 0 rfl) ?_
              refine S_getR (h := shC) (C := "MacroMill$Reckoner") (T := F_Reckoner) hx hb htt in_Reckoner hown hK hP 3 5 rfl 23 rfl rfl (by decide) (htt _ k_396) (fun _ h9 => h9) d_Reckoner_push_83 ?_
              refine lv_aload_n hx hb d_Reckoner_push_86 rfl (lv_at hl 0 rfl) ?_
              refine S_getI (h := shC) (C := "MacroMill$Reckoner") (T := F_Reckoner) hx hb htt in_Reckoner hown hK hP 3 6 rfl rfl rfl (by decide) (htt _ k_397) (fun _ h9 => h9) d_Reckoner_push_87 ?_
              refine toI (y := S.1 3 6) rfl ?_
              show W _ _ _ _ _ _ _ _ _ _ _ _ _ _ _ (F0 _ 90 _ _)
              refine lv_aload_n hx hb d_Reckoner_push_90 rfl (lv_at hl 0 rfl) ?_
              refine S_getI (h := shC) (C := "MacroMill$Reckoner") (T := F_Reckoner) hx hb htt in_Reckoner hown hK hP 3 10 rfl rfl rfl (by decide) (htt _ k_401) (fun _ h9 => h9) d_Reckoner_push_91 ?_
              refine toI (y := S.1 3 10) rfl ?_
              refine S_zast (h := shC) (i := S.1 3 6) (v := S.1 3 10) hx hb hK hP hD hS 10 rfl (hb6 hc1 hc6 hc11 hc16 hc17 hc18) d_Reckoner_push_94 (fun H locs hP hD hS => ?_)
              refine lv_aload_n hx hb d_Reckoner_push_95 rfl (lv_at hl 0 rfl) ?_
              refine lv_dup hx hb d_Reckoner_push_96 rfl ?_
              refine S_getI (h := shC) (C := "MacroMill$Reckoner") (T := F_Reckoner) hx hb htt in_Reckoner hown hK hP 3 6 rfl rfl rfl (by decide) (htt _ k_397) (fun _ h9 => h9) d_Reckoner_push_97 ?_
              refine toI (y := S.1 3 6) rfl ?_
              refine lv_iconst (v := 1) hx hb d_Reckoner_push_100 (by decide) ?_
              refine lv_iadd hx hb d_Reckoner_push_101 ?_
              refine S_put (h := shC) (C := "MacroMill$Reckoner") (T := F_Reckoner) (v := (S.1 3 6) + (1 : Int32)) hx hb htt in_Reckoner t_Reckoner t_Reckoner_ok n_Reckoner hown hK hP hD hS 3 6 rfl rfl rfl (by decide) (htt _ k_397) (fun _ h9 => h9) rfl rfl rfl d_Reckoner_push_102 (fun H locs hP hD hS => ?_)
              refine lv_aload_n hx hb d_Reckoner_push_105 rfl (lv_at hl 0 rfl) ?_
              refine lv_iconst (v := 1) hx hb d_Reckoner_push_106 (by decide) ?_
              refine S_put (h := shC) (C := "MacroMill$Reckoner") (T := F_Reckoner) (v := 1) hx hb htt in_Reckoner t_Reckoner t_Reckoner_ok n_Reckoner hown hK hP hD hS 3 9 rfl rfl rfl (by decide) (htt _ k_400) (fun _ h9 => h9) rfl rfl rfl d_Reckoner_push_107 (fun H locs hP hD hS => ?_)
              show W _ _ _ _ _ _ _ _ _ _ _ _ _ _ _ (F0 _ 110 _ _)
              exact fin_v (g := g) (ws := Sw shC g ad (putI (putI (putA (putA (putA (putI S 3 7 ((S.1 3 7) + (1 : Int32))) 8 (S.1 3 6 : Int32).toNatClampNeg v1) 9 (S.1 3 6 : Int32).toNatClampNeg v2) 10 (S.1 3 6 : Int32).toNatClampNeg (vp_nar .boolean (S.1 3 10))) 3 6 ((S.1 3 6) + (1 : Int32))) 3 9 1)) hx hb hr hlocks (by decide +kernel) (by decide +kernel) hP hD hS ⟨_, rfl, (by unfold s_Reckoner_push; rw [if_neg hc1, if_neg hc6, if_pos hc11, if_neg hc16, if_pos hc17, if_pos hc18])⟩ d_Reckoner_push_110
            · refine lv_aload_n hx hb d_Reckoner_push_56 rfl (lv_at hl 0 rfl) ?_
              refine lv_iconst (v := 1) hx hb d_Reckoner_push_57 (by decide) ?_
              refine S_put (h := shC) (C := "MacroMill$Reckoner") (T := F_Reckoner) (v := 1) hx hb htt in_Reckoner t_Reckoner t_Reckoner_ok n_Reckoner hown hK hP hD hS 3 11 rfl rfl rfl (by decide) (htt _ k_402) (fun _ h9 => h9) rfl rfl rfl d_Reckoner_push_58 (fun H locs hP hD hS => ?_)
              exact fin_v (g := g) (ws := Sw shC g ad (putI (putI S 3 7 ((S.1 3 7) + (1 : Int32))) 3 11 1)) hx hb hr hlocks (by decide +kernel) (by decide +kernel) hP hD hS ⟨_, rfl, (by unfold s_Reckoner_push; rw [if_neg hc1, if_neg hc6, if_pos hc11, if_neg hc16, if_pos hc17, if_neg hc18])⟩ d_Reckoner_push_61
          · refine lv_bipush (v := 60) hx hb d_Reckoner_push_46 (by decide) ?_
            refine lv_goto (tgt := 53) hx hb d_Reckoner_push_48 (by decide) ?_
            refine lv_icmp_le (tgt := 62) hx hb d_Reckoner_push_53 (by decide) (fun hc19 => ?_) (fun hc19 => ?_)
            · refine lv_aload_n hx hb d_Reckoner_push_62 rfl (lv_at hl 0 rfl) ?_
              refine S_getR (h := shC) (C := "MacroMill$Reckoner") (T := F_Reckoner) hx hb htt in_Reckoner hown hK hP 3 3 rfl 21 rfl rfl (by decide) (htt _ k_394) (fun _ h9 => h9) d_Reckoner_push_63 ?_
              refine lv_aload_n hx hb d_Reckoner_push_66 rfl (lv_at hl 0 rfl) ?_
              show W _ _ _ _ _ _ _ _ _ _ _ _ _ _ _ (F0 _ 67 _ _)
              refine S_getI (h := shC) (C := "MacroMill$Reckoner") (T := F_Reckoner) hx hb htt in_Reckoner hown hK hP 3 6 rfl rfl rfl (by decide) (htt _ k_397) (fun _ h9 => h9) d_Reckoner_push_67 ?_
              refine toI (y := S.1 3 6) rfl ?_
              refine lv_iload_n hx hb d_Reckoner_push_70 rfl (lv_at hl 1 rfl) ?_
              refine S_iast (h := shC) (i := S.1 3 6) (v := v1) hx hb hK hP hD hS 8 rfl (hb7 hc1 hc6 hc11 hc16 hc17 hc19) d_Reckoner_push_71 (fun H locs hP hD hS => ?_)
              refine lv_aload_n hx hb d_Reckoner_push_72 rfl (lv_at hl 0 rfl) ?_
              refine S_getR (h := shC) (C := "MacroMill$Reckoner") (T := F_Reckoner) hx hb htt in_Reckoner hown hK hP 3 4 rfl 22 rfl rfl (by decide) (htt _ k_395) (fun _ h9 => h9) d_Reckoner_push_73 ?_
              refine lv_aload_n hx hb d_Reckoner_push_76 rfl (lv_at hl 0 rfl) ?_
              refine S_getI (h := shC) (C := "MacroMill$Reckoner") (T := F_Reckoner) hx hb htt in_Reckoner hown hK hP 3 6 rfl rfl rfl (by decide) (htt _ k_397) (fun _ h9 => h9) d_Reckoner_push_77 ?_
              refine toI (y := S.1 3 6) rfl ?_
              refine lv_iload_n hx hb d_Reckoner_push_80 rfl (lv_at hl 2 rfl) ?_
              refine S_iast (h := shC) (i := S.1 3 6) (v := v2) hx hb hK hP hD hS 9 rfl (hb7 hc1 hc6 hc11 hc16 hc17 hc19) d_Reckoner_push_81 (fun H locs hP hD hS => ?_)
              refine lv_aload_n hx hb d_Reckoner_push_82 rfl (lv_at hl 0 rfl) ?_
              refine S_getR (h := shC) (C := "MacroMill$Reckoner") (T := F_Reckoner) hx hb htt in_Reckoner hown hK hP 3 5 rfl 23 rfl rfl (by decide) (htt _ k_396) (fun _ h9 => h9) d_Reckoner_push_83 ?_
              refine lv_aload_n hx hb d_Reckoner_push_86 rfl (lv_at hl 0 rfl) ?_
              show W _ _ _ _ _ _ _ _ _ _ _ _ _ _ _ (F0 _ 87 _ _)
              refine S_getI (h := shC) (C := "MacroMill$Reckoner") (T := F_Reckoner) hx hb htt in_Reckoner hown hK hP 3 6 rfl rfl rfl (by decide) (htt _ k_397) (fun _ h9 => h9) d_Reckoner_push_87 ?_
              refine toI (y := S.1 3 6) rfl ?_
              refine lv_aload_n hx hb d_Reckoner_push_90 rfl (lv_at hl 0 rfl) ?_
              refine S_getI (h := shC) (C := "MacroMill$Reckoner") (T := F_Reckoner) hx hb htt in_Reckoner hown hK hP 3 10 rfl rfl rfl (by decide) (htt _ k_401) (fun _ h9 => h9) d_Reckoner_push_91 ?_
              refine toI (y := S.1 3 10) rfl ?_
              refine S_zast (h := shC) (i := S.1 3 6) (v := S.1 3 10) hx hb hK hP hD hS 10 rfl (hb7 hc1 hc6 hc11 hc16 hc17 hc19) d_Reckoner_push_94 (fun H locs hP hD hS => ?_)
              refine lv_aload_n hx hb d_Reckoner_push_95 rfl (lv_at hl 0 rfl) ?_
              refine lv_dup hx hb d_Reckoner_push_96 rfl ?_
              refine S_getI (h := shC) (C := "MacroMill$Reckoner") (T := F_Reckoner) hx hb htt in_Reckoner hown hK hP 3 6 rfl rfl rfl (by decide) (htt _ k_397) (fun _ h9 => h9) d_Reckoner_push_97 ?_
              refine toI (y := S.1 3 6) rfl ?_
              refine lv_iconst (v := 1) hx hb d_Reckoner_push_100 (by decide) ?_
              refine lv_iadd hx hb d_Reckoner_push_101 ?_
              refine S_put (h := shC) (C := "MacroMill$Reckoner") (T := F_Reckoner) (v := (S.1 3 6) + (1 : Int32)) hx hb htt in_Reckoner t_Reckoner t_Reckoner_ok n_Reckoner hown hK hP hD hS 3 6 rfl rfl rfl (by decide) (htt _ k_397) (fun _ h9 => h9) rfl rfl rfl d_Reckoner_push_102 (fun H locs hP hD hS => ?_)
              refine lv_aload_n hx hb d_Reckoner_push_105 rfl (lv_at hl 0 rfl) ?_
              refine lv_iconst (v := 1) hx hb d_Reckoner_push_106 (by decide) ?_
              show W _ _ _ _ _ _ _ _ _ _ _ _ _ _ _ (F0 _ 107 _ _)
              refine S_put (h := shC) (C := "MacroMill$Reckoner") (T := F_Reckoner) (v := 1) hx hb htt in_Reckoner t_Reckoner t_Reckoner_ok n_Reckoner hown hK hP hD hS 3 9 rfl rfl rfl (by decide) (htt _ k_400) (fun _ h9 => h9) rfl rfl rfl d_Reckoner_push_107 (fun H locs hP hD hS => ?_)
              exact fin_v (g := g) (ws := Sw shC g ad (putI (putI (putA (putA (putA (putI S 3 7 ((S.1 3 7) + (1 : Int32))) 8 (S.1 3 6 : Int32).toNatClampNeg v1) 9 (S.1 3 6 : Int32).toNatClampNeg v2) 10 (S.1 3 6 : Int32).toNatClampNeg (vp_nar .boolean (S.1 3 10))) 3 6 ((S.1 3 6) + (1 : Int32))) 3 9 1)) hx hb hr hlocks (by decide +kernel) (by decide +kernel) hP hD hS ⟨_, rfl, (by unfold s_Reckoner_push; rw [if_neg hc1, if_neg hc6, if_pos hc11, if_neg hc16, if_neg hc17, if_pos hc19])⟩ d_Reckoner_push_110
            · refine lv_aload_n hx hb d_Reckoner_push_56 rfl (lv_at hl 0 rfl) ?_
              refine lv_iconst (v := 1) hx hb d_Reckoner_push_57 (by decide) ?_
              refine S_put (h := shC) (C := "MacroMill$Reckoner") (T := F_Reckoner) (v := 1) hx hb htt in_Reckoner t_Reckoner t_Reckoner_ok n_Reckoner hown hK hP hD hS 3 11 rfl rfl rfl (by decide) (htt _ k_402) (fun _ h9 => h9) rfl rfl rfl d_Reckoner_push_58 (fun H locs hP hD hS => ?_)
              show W _ _ _ _ _ _ _ _ _ _ _ _ _ _ _ (F0 _ 61 _ _)
              exact fin_v (g := g) (ws := Sw shC g ad (putI (putI S 3 7 ((S.1 3 7) + (1 : Int32))) 3 11 1)) hx hb hr hlocks (by decide +kernel) (by decide +kernel) hP hD hS ⟨_, rfl, (by unfold s_Reckoner_push; rw [if_neg hc1, if_neg hc6, if_pos hc11, if_neg hc16, if_neg hc17, if_neg hc19])⟩ d_Reckoner_push_61
def r_Reckoner_isTop (S : sS) (v1 : Int32) : Int32 := if (S.1 3 6) ≤ (0 : Int32) then 0 else (if (S.2.1 9 ((S.1 3 6) - (1 : Int32) : Int32).toNatClampNeg) = v1 then 1 else 0)
abbrev rm_a_Reckoner_isTop : Room := { frames := 0, cells := 0, slots := 0, locals := 0 }
set_option maxHeartbeats 4000000 in
set_option maxRecDepth 100000 in
theorem a_Reckoner_isTop (l : Launch) (g : gG) (sz : Nat) (ad : Nat → Nat) (S : sS) (v1 : Int32) (hb0 : ¬ ((S.1 3 6) ≤ (0 : Int32)) → vp_in ((S.1 3 6) - (1 : Int32)) 1000) : Cz l y_Reckoner_isTop b_Reckoner_isTop 2 rm_a_Reckoner_isTop g [.ref (ad 3), .int v1] (Sw shC g ad S) sz (fun r w => ∃ S' : sS, w = Sw shC g ad S' ∧ r = r_Reckoner_isTop S v1 ∧ S' = S) := by
  refine startZ (by decide) (Nat.le_of_ble_eq_true rfl) ?_
  intro p e s m below meth c A ls hx hb hr hml hlocks hmn hown htt hN hA hP hK hD hS hl
  have hown : s.vm.findClass "MacroMill$Reckoner" = some m.cls := hown
  have hl : lv_has ls 2 [(0, .ref (ad 3)), (1, .int v1)] := hl
  refine lv_aload_n hx hb d_Reckoner_isTop_0 rfl (lv_at hl 0 rfl) ?_
  refine S_getI (h := shC) (C := "MacroMill$Reckoner") (T := F_Reckoner) hx hb htt in_Reckoner hown hK hP 3 6 rfl rfl rfl (by decide) (htt _ k_397) (fun _ h9 => h9) d_Reckoner_isTop_1 ?_
  refine lv_if_le (tgt := 26) hx hb d_Reckoner_isTop_4 (by decide) (fun hc1 => ?_) (fun hc1 => ?_)
  · refine lv_iconst (v := 0) hx hb d_Reckoner_isTop_26 (by decide) ?_
    exact fin_z (g := g) (ws := Sw shC g ad S) (v := 0) hx hb hr hlocks rfl (by decide +kernel) (by decide +kernel) hP hD hS ⟨_, rfl, (by unfold r_Reckoner_isTop; rw [if_pos hc1]), rfl⟩ d_Reckoner_isTop_27
  · refine lv_aload_n hx hb d_Reckoner_isTop_7 rfl (lv_at hl 0 rfl) ?_
    refine S_getR (h := shC) (C := "MacroMill$Reckoner") (T := F_Reckoner) hx hb htt in_Reckoner hown hK hP 3 4 rfl 22 rfl rfl (by decide) (htt _ k_395) (fun _ h9 => h9) d_Reckoner_isTop_8 ?_
    refine lv_aload_n hx hb d_Reckoner_isTop_11 rfl (lv_at hl 0 rfl) ?_
    refine S_getI (h := shC) (C := "MacroMill$Reckoner") (T := F_Reckoner) hx hb htt in_Reckoner hown hK hP 3 6 rfl rfl rfl (by decide) (htt _ k_397) (fun _ h9 => h9) d_Reckoner_isTop_12 ?_
    refine lv_iconst (v := 1) hx hb d_Reckoner_isTop_15 (by decide) ?_
    refine lv_isub hx hb d_Reckoner_isTop_16 ?_
    refine S_iald (h := shC) (i := (S.1 3 6) - (1 : Int32)) hx hb hK hP 9 rfl (hb0 hc1) d_Reckoner_isTop_17 ?_
    refine lv_iload_n hx hb d_Reckoner_isTop_18 rfl (lv_at hl 1 rfl) ?_
    refine lv_icmp_ne (tgt := 26) hx hb d_Reckoner_isTop_19 (by decide) (fun hc2 => ?_) (fun hc2 => ?_)
    · refine lv_iconst (v := 0) hx hb d_Reckoner_isTop_26 (by decide) ?_
      show W _ _ _ _ _ _ _ _ _ _ _ _ _ _ _ (F0 _ 27 _ _)
      exact fin_z (g := g) (ws := Sw shC g ad S) (v := 0) hx hb hr hlocks rfl (by decide +kernel) (by decide +kernel) hP hD hS ⟨_, rfl, (by unfold r_Reckoner_isTop; rw [if_neg hc1, if_neg hc2]), rfl⟩ d_Reckoner_isTop_27
    · refine lv_iconst (v := 1) hx hb d_Reckoner_isTop_22 (by decide) ?_
      show W _ _ _ _ _ _ _ _ _ _ _ _ _ _ _ (F0 _ 23 _ _)
      refine lv_goto (tgt := 27) hx hb d_Reckoner_isTop_23 (by decide) ?_
      exact fin_z (g := g) (ws := Sw shC g ad S) (v := 1) hx hb hr hlocks rfl (by decide +kernel) (by decide +kernel) hP hD hS ⟨_, rfl, (by unfold r_Reckoner_isTop; rw [if_neg hc1, if_pos hc2]), rfl⟩ d_Reckoner_isTop_27
def s_Reckoner_takeColon (S : sS) : sS := if (r_Reckoner_isTop S (1 : Int32)) = (0 : Int32) then ((putI S 3 11 1)) else (if ((putA S 9 ((S.1 3 6) - (1 : Int32) : Int32).toNatClampNeg 2).2.1 10 ((S.1 3 6) - (1 : Int32) : Int32).toNatClampNeg) = (0 : Int32) then (if (lg_cmp ((putA S 9 ((S.1 3 6) - (1 : Int32) : Int32).toNatClampNeg 2).2.2 6 ((S.1 3 2) - (2 : Int32) : Int32).toNatClampNeg) (0 : Int64)) = (0 : Int32) then ((putI (putI (putA S 9 ((S.1 3 6) - (1 : Int32) : Int32).toNatClampNeg 2) 3 10 0) 3 9 1)) else ((putI (putI (putA S 9 ((S.1 3 6) - (1 : Int32) : Int32).toNatClampNeg 2) 3 10 1) 3 9 1))) else ((putI (putI (putA S 9 ((S.1 3 6) - (1 : Int32) : Int32).toNatClampNeg 2) 3 10 1) 3 9 1)))
abbrev rm_a_Reckoner_takeColon : Room := { frames := 1, cells := 0, slots := 0, locals := 21 }
set_option maxHeartbeats 4000000 in
set_option maxRecDepth 100000 in
theorem a_Reckoner_takeColon (l : Launch) (g : gG) (sz : Nat) (ad : Nat → Nat) (S : sS) (hb0 : ¬ ((S.1 3 6) ≤ (0 : Int32)) → vp_in ((S.1 3 6) - (1 : Int32)) 1000) (hb1 : ¬ ((r_Reckoner_isTop S (1 : Int32)) = (0 : Int32)) → vp_in ((S.1 3 6) - (1 : Int32)) 1000) (hb2 : ¬ ((r_Reckoner_isTop S (1 : Int32)) = (0 : Int32)) → ((putA S 9 ((S.1 3 6) - (1 : Int32) : Int32).toNatClampNeg 2).2.1 10 ((S.1 3 6) - (1 : Int32) : Int32).toNatClampNeg) = (0 : Int32) → vp_in ((S.1 3 2) - (2 : Int32)) 1000) : Cv l y_Reckoner_takeColon b_Reckoner_takeColon 1 rm_a_Reckoner_takeColon g [.ref (ad 3)] (Sw shC g ad S) sz (fun w => ∃ S' : sS, w = Sw shC g ad S' ∧ S' = s_Reckoner_takeColon S) := by
  refine startV (by decide) (Nat.le_of_ble_eq_true rfl) ?_
  intro p e s m below meth c A ls hx hb hr hml hlocks hmn hown htt hN hA hP hK hD hS hl
  have hown : s.vm.findClass "MacroMill$Reckoner" = some m.cls := hown
  have hl : lv_has ls 1 [(0, .ref (ad 3))] := hl
  refine lv_aload_n hx hb d_Reckoner_takeColon_0 rfl (lv_at hl 0 rfl) ?_
  refine lv_iconst (v := 1) hx hb d_Reckoner_takeColon_1 (by decide) ?_
  refine go_iS (As := [.ref (ad 3), .int 1]) (g := g) (A := A) (h := shC) hP hK hD hS hA hN (fun hp => va_runV (As := [.int 1]) (rest := []) ⟨hx, hb, hml, hown, htt⟩ (a_Reckoner_isTop l g _ ad S (1 : Int32) hb0) ⟨(cb_L htt k_1377 k_265 k_1374 hd_Reckoner_isTop ⟨(by decide +kernel), (by decide +kernel)⟩), htt _ k_1376, htt _ k_30⟩ ⟨hp.1, S_recv hK hP 3 rfl rfl, hp.2⟩ rfl rfl hl.1 rfl (lv_room (Nat.le_of_ble_eq_true rfl)) d_Reckoner_takeColon_2 ⟨(by decide +kernel), (by decide +kernel)⟩) (fun r9 Sn H locs hw9 hP hD hS => ?_)
  obtain ⟨rfl, e9⟩ := hw9
  rw [e9] at hP hD
  refine W.widen (k := 0) (n := 0) (by decide +kernel) (by decide +kernel) ?_
  refine lv_if_ne (tgt := 14) hx hb d_Reckoner_takeColon_5 (by decide) (fun hc1 => ?_) (fun hc1 => ?_)
  · refine lv_aload_n hx hb d_Reckoner_takeColon_14 rfl (lv_at hl 0 rfl) ?_
    refine S_getR (h := shC) (C := "MacroMill$Reckoner") (T := F_Reckoner) hx hb htt in_Reckoner hown hK hP 3 4 rfl 22 rfl rfl (by decide) (htt _ k_395) (fun _ h9 => h9) d_Reckoner_takeColon_15 ?_
    refine lv_aload_n hx hb d_Reckoner_takeColon_18 rfl (lv_at hl 0 rfl) ?_
    refine S_getI (h := shC) (C := "MacroMill$Reckoner") (T := F_Reckoner) hx hb htt in_Reckoner hown hK hP 3 6 rfl rfl rfl (by decide) (htt _ k_397) (fun _ h9 => h9) d_Reckoner_takeColon_19 ?_
    refine lv_iconst (v := 1) hx hb d_Reckoner_takeColon_22 (by decide) ?_
    refine lv_isub hx hb d_Reckoner_takeColon_23 ?_
    refine lv_iconst (v := 2) hx hb d_Reckoner_takeColon_24 (by decide) ?_
    refine S_iast (h := shC) (i := (S.1 3 6) - (1 : Int32)) (v := 2) hx hb hK hP hD hS 9 rfl (hb1 hc1) d_Reckoner_takeColon_25 (fun H locs hP hD hS => ?_)
    show W _ _ _ _ _ _ _ _ _ _ _ _ _ _ _ (F0 _ 26 _ _)
    refine lv_aload_n hx hb d_Reckoner_takeColon_26 rfl (lv_at hl 0 rfl) ?_
    refine lv_aload_n hx hb d_Reckoner_takeColon_27 rfl (lv_at hl 0 rfl) ?_
    refine S_getR (h := shC) (C := "MacroMill$Reckoner") (T := F_Reckoner) hx hb htt in_Reckoner hown hK hP 3 5 rfl 23 rfl rfl (by decide) (htt _ k_396) (fun _ h9 => h9) d_Reckoner_takeColon_28 ?_
    refine lv_aload_n hx hb d_Reckoner_takeColon_31 rfl (lv_at hl 0 rfl) ?_
    refine S_getI (h := shC) (C := "MacroMill$Reckoner") (T := F_Reckoner) hx hb htt in_Reckoner hown hK hP 3 6 rfl rfl rfl (by decide) (htt _ k_397) (fun _ h9 => h9) d_Reckoner_takeColon_32 ?_
    refine toI (y := S.1 3 6) rfl ?_
    refine lv_iconst (v := 1) hx hb d_Reckoner_takeColon_35 (by decide) ?_
    refine lv_isub hx hb d_Reckoner_takeColon_36 ?_
    refine S_zald (h := shC) (i := (S.1 3 6) - (1 : Int32)) hx hb hK hP 10 rfl (hb1 hc1) d_Reckoner_takeColon_37 ?_
    refine lv_if_ne (tgt := 57) hx hb d_Reckoner_takeColon_38 (by decide) (fun hc2 => ?_) (fun hc2 => ?_)
    · refine lv_iconst (v := 1) hx hb d_Reckoner_takeColon_57 (by decide) ?_
      refine lv_goto (tgt := 62) hx hb d_Reckoner_takeColon_58 (by decide) ?_
      refine S_put (h := shC) (C := "MacroMill$Reckoner") (T := F_Reckoner) (v := 1) hx hb htt in_Reckoner t_Reckoner t_Reckoner_ok n_Reckoner hown hK hP hD hS 3 10 rfl rfl rfl (by decide) (htt _ k_401) (fun _ h9 => h9) rfl rfl rfl d_Reckoner_takeColon_62 (fun H locs hP hD hS => ?_)
      refine lv_aload_n hx hb d_Reckoner_takeColon_65 rfl (lv_at hl 0 rfl) ?_
      show W _ _ _ _ _ _ _ _ _ _ _ _ _ _ _ (F0 _ 66 _ _)
      refine lv_iconst (v := 1) hx hb d_Reckoner_takeColon_66 (by decide) ?_
      refine S_put (h := shC) (C := "MacroMill$Reckoner") (T := F_Reckoner) (v := 1) hx hb htt in_Reckoner t_Reckoner t_Reckoner_ok n_Reckoner hown hK hP hD hS 3 9 rfl rfl rfl (by decide) (htt _ k_400) (fun _ h9 => h9) rfl rfl rfl d_Reckoner_takeColon_67 (fun H locs hP hD hS => ?_)
      exact fin_v (g := g) (ws := Sw shC g ad (putI (putI (putA S 9 ((S.1 3 6) - (1 : Int32) : Int32).toNatClampNeg 2) 3 10 1) 3 9 1)) hx hb hr hlocks (by decide +kernel) (by decide +kernel) hP hD hS ⟨_, rfl, (by unfold s_Reckoner_takeColon; rw [if_neg hc1, if_neg hc2])⟩ d_Reckoner_takeColon_70
    · refine lv_aload_n hx hb d_Reckoner_takeColon_41 rfl (lv_at hl 0 rfl) ?_
      refine S_getR (h := shC) (C := "MacroMill$Reckoner") (T := F_Reckoner) hx hb htt in_Reckoner hown hK hP 3 0 rfl 19 rfl rfl (by decide) (htt _ k_391) (fun _ h9 => h9) d_Reckoner_takeColon_42 ?_
      refine lv_aload_n hx hb d_Reckoner_takeColon_45 rfl (lv_at hl 0 rfl) ?_
      refine S_getI (h := shC) (C := "MacroMill$Reckoner") (T := F_Reckoner) hx hb htt in_Reckoner hown hK hP 3 2 rfl rfl rfl (by decide) (htt _ k_393) (fun _ h9 => h9) d_Reckoner_takeColon_46 ?_
      refine toI (y := S.1 3 2) rfl ?_
      show W _ _ _ _ _ _ _ _ _ _ _ _ _ _ _ (F0 _ 49 _ _)
      refine lv_iconst (v := 2) hx hb d_Reckoner_takeColon_49 (by decide) ?_
      refine lv_isub hx hb d_Reckoner_takeColon_50 ?_
      refine S_lald (h := shC) (i := (S.1 3 2) - (2 : Int32)) hx hb hK hP 6 rfl (hb2 hc1 hc2) d_Reckoner_takeColon_51 ?_
      refine lv_lconst (v := 0) hx hb d_Reckoner_takeColon_52 (by decide) ?_
      refine W.lcmp hx hb d_Reckoner_takeColon_53 ?_
      refine lv_if_eq (tgt := 61) hx hb d_Reckoner_takeColon_54 (by decide) (fun hc3 => ?_) (fun hc3 => ?_)
      · refine lv_iconst (v := 0) hx hb d_Reckoner_takeColon_61 (by decide) ?_
        refine S_put (h := shC) (C := "MacroMill$Reckoner") (T := F_Reckoner) (v := 0) hx hb htt in_Reckoner t_Reckoner t_Reckoner_ok n_Reckoner hown hK hP hD hS 3 10 rfl rfl rfl (by decide) (htt _ k_401) (fun _ h9 => h9) rfl rfl rfl d_Reckoner_takeColon_62 (fun H locs hP hD hS => ?_)
        refine lv_aload_n hx hb d_Reckoner_takeColon_65 rfl (lv_at hl 0 rfl) ?_
        refine lv_iconst (v := 1) hx hb d_Reckoner_takeColon_66 (by decide) ?_
        refine S_put (h := shC) (C := "MacroMill$Reckoner") (T := F_Reckoner) (v := 1) hx hb htt in_Reckoner t_Reckoner t_Reckoner_ok n_Reckoner hown hK hP hD hS 3 9 rfl rfl rfl (by decide) (htt _ k_400) (fun _ h9 => h9) rfl rfl rfl d_Reckoner_takeColon_67 (fun H locs hP hD hS => ?_)
        exact fin_v (g := g) (ws := Sw shC g ad (putI (putI (putA S 9 ((S.1 3 6) - (1 : Int32) : Int32).toNatClampNeg 2) 3 10 0) 3 9 1)) hx hb hr hlocks (by decide +kernel) (by decide +kernel) hP hD hS ⟨_, rfl, (by unfold s_Reckoner_takeColon; rw [if_neg hc1, if_pos hc2, if_pos hc3])⟩ d_Reckoner_takeColon_70
      · refine lv_iconst (v := 1) hx hb d_Reckoner_takeColon_57 (by decide) ?_
        refine lv_goto (tgt := 62) hx hb d_Reckoner_takeColon_58 (by decide) ?_
        refine S_put (h := shC) (C := "MacroMill$Reckoner") (T := F_Reckoner) (v := 1) hx hb htt in_Reckoner t_Reckoner t_Reckoner_ok n_Reckoner hown hK hP hD hS 3 10 rfl rfl rfl (by decide) (htt _ k_401) (fun _ h9 => h9) rfl rfl rfl d_Reckoner_takeColon_62 (fun H locs hP hD hS => ?_)
        refine lv_aload_n hx hb d_Reckoner_takeColon_65 rfl (lv_at hl 0 rfl) ?_
        refine lv_iconst (v := 1) hx hb d_Reckoner_takeColon_66 (by decide) ?_
        refine S_put (h := shC) (C := "MacroMill$Reckoner") (T := F_Reckoner) (v := 1) hx hb htt in_Reckoner t_Reckoner t_Reckoner_ok n_Reckoner hown hK hP hD hS 3 9 rfl rfl rfl (by decide) (htt _ k_400) (fun _ h9 => h9) rfl rfl rfl d_Reckoner_takeColon_67 (fun H locs hP hD hS => ?_)
        exact fin_v (g := g) (ws := Sw shC g ad (putI (putI (putA S 9 ((S.1 3 6) - (1 : Int32) : Int32).toNatClampNeg 2) 3 10 1) 3 9 1)) hx hb hr hlocks (by decide +kernel) (by decide +kernel) hP hD hS ⟨_, rfl, (by unfold s_Reckoner_takeColon; rw [if_neg hc1, if_pos hc2, if_neg hc3])⟩ d_Reckoner_takeColon_70
  · refine lv_aload_n hx hb d_Reckoner_takeColon_8 rfl (lv_at hl 0 rfl) ?_
    refine lv_iconst (v := 1) hx hb d_Reckoner_takeColon_9 (by decide) ?_
    refine S_put (h := shC) (C := "MacroMill$Reckoner") (T := F_Reckoner) (v := 1) hx hb htt in_Reckoner t_Reckoner t_Reckoner_ok n_Reckoner hown hK hP hD hS 3 11 rfl rfl rfl (by decide) (htt _ k_402) (fun _ h9 => h9) rfl rfl rfl d_Reckoner_takeColon_10 (fun H locs hP hD hS => ?_)
    exact fin_v (g := g) (ws := Sw shC g ad (putI S 3 11 1)) hx hb hr hlocks (by decide +kernel) (by decide +kernel) hP hD hS ⟨_, rfl, (by unfold s_Reckoner_takeColon; rw [if_pos hc1])⟩ d_Reckoner_takeColon_13
def s_Reckoner_beIdleBehind (S : sS) (v1 : Int32) : sS := if (lg_cmp (S.2.2 6 ((S.1 3 2) - (1 : Int32) : Int32).toNatClampNeg) (0 : Int64)) = (0 : Int32) then (if (S.1 3 8) = (0 : Int32) then S else (if v1 = (9766 : Int32) then ((putI S 3 10 1)) else (if v1 = (63 : Int32) then ((putI S 3 10 1)) else (if v1 = (31868 : Int32) then (if (S.1 3 10) = (0 : Int32) then ((putI S 3 10 0)) else ((putI S 3 10 1))) else S)))) else (if (S.1 3 8) = (0 : Int32) then S else (if v1 = (9766 : Int32) then (if (S.1 3 10) = (0 : Int32) then ((putI S 3 10 0)) else ((putI S 3 10 1))) else (if v1 = (63 : Int32) then (if (S.1 3 10) = (0 : Int32) then ((putI S 3 10 0)) else ((putI S 3 10 1))) else (if v1 = (31868 : Int32) then ((putI S 3 10 1)) else S))))
abbrev rm_a_Reckoner_beIdleBehind : Room := { frames := 0, cells := 0, slots := 0, locals := 0 }
set_option maxHeartbeats 4000000 in
set_option maxRecDepth 100000 in
theorem a_Reckoner_beIdleBehind (l : Launch) (g : gG) (sz : Nat) (ad : Nat → Nat) (S : sS) (v1 : Int32) (hb0 : vp_in ((S.1 3 2) - (1 : Int32)) 1000) : Cv l y_Reckoner_beIdleBehind b_Reckoner_beIdleBehind 3 rm_a_Reckoner_beIdleBehind g [.ref (ad 3), .int v1] (Sw shC g ad S) sz (fun w => ∃ S' : sS, w = Sw shC g ad S' ∧ S' = s_Reckoner_beIdleBehind S v1) := by
  refine startV (by decide) (Nat.le_of_ble_eq_true rfl) ?_
  intro p e s m below meth c A ls hx hb hr hml hlocks hmn hown htt hN hA hP hK hD hS hl
  have hown : s.vm.findClass "MacroMill$Reckoner" = some m.cls := hown
  have hl : lv_has ls 3 [(0, .ref (ad 3)), (1, .int v1)] := hl
  refine lv_aload_n hx hb d_Reckoner_beIdleBehind_0 rfl (lv_at hl 0 rfl) ?_
  refine S_getR (h := shC) (C := "MacroMill$Reckoner") (T := F_Reckoner) hx hb htt in_Reckoner hown hK hP 3 0 rfl 19 rfl rfl (by decide) (htt _ k_391) (fun _ h9 => h9) d_Reckoner_beIdleBehind_1 ?_
  refine lv_aload_n hx hb d_Reckoner_beIdleBehind_4 rfl (lv_at hl 0 rfl) ?_
  refine S_getI (h := shC) (C := "MacroMill$Reckoner") (T := F_Reckoner) hx hb htt in_Reckoner hown hK hP 3 2 rfl rfl rfl (by decide) (htt _ k_393) (fun _ h9 => h9) d_Reckoner_beIdleBehind_5 ?_
  refine lv_iconst (v := 1) hx hb d_Reckoner_beIdleBehind_8 (by decide) ?_
  refine lv_isub hx hb d_Reckoner_beIdleBehind_9 ?_
  refine S_lald (h := shC) (i := (S.1 3 2) - (1 : Int32)) hx hb hK hP 6 rfl hb0 d_Reckoner_beIdleBehind_10 ?_
  refine lv_lconst (v := 0) hx hb d_Reckoner_beIdleBehind_11 (by decide) ?_
  refine W.lcmp hx hb d_Reckoner_beIdleBehind_12 ?_
  refine lv_if_ne (tgt := 20) hx hb d_Reckoner_beIdleBehind_13 (by decide) (fun hc1 => ?_) (fun hc1 => ?_)
  · refine lv_iconst (v := 0) hx hb d_Reckoner_beIdleBehind_20 (by decide) ?_
    refine lv_istore_n (lv' := [(2, .int 0), (0, .ref (ad 3)), (1, .int v1)]) hx hb d_Reckoner_beIdleBehind_21 rfl hl (by decide) rfl (fun ls hl => ?_)
    show W _ _ _ _ _ _ _ _ _ _ _ _ _ _ _ (F0 _ 22 _ _)
    refine lv_aload_n hx hb d_Reckoner_beIdleBehind_22 rfl (lv_at hl 1 rfl) ?_
    refine S_getI (h := shC) (C := "MacroMill$Reckoner") (T := F_Reckoner) hx hb htt in_Reckoner hown hK hP 3 8 rfl rfl rfl (by decide) (htt _ k_399) (fun _ h9 => h9) d_Reckoner_beIdleBehind_23 ?_
    refine lv_if_eq (tgt := 65) hx hb d_Reckoner_beIdleBehind_26 (by decide) (fun hc2 => ?_) (fun hc2 => ?_)
    · refine lv_aload_n hx hb d_Reckoner_beIdleBehind_65 rfl (lv_at hl 1 rfl) ?_
      refine S_getI (h := shC) (C := "MacroMill$Reckoner") (T := F_Reckoner) hx hb htt in_Reckoner hown hK hP 3 8 rfl rfl rfl (by decide) (htt _ k_399) (fun _ h9 => h9) d_Reckoner_beIdleBehind_66 ?_
      refine lv_if_eq (tgt := 99) hx hb d_Reckoner_beIdleBehind_69 (by decide) (fun _ => ?_) (fun h9 => absurd hc2 h9)
      exact fin_v (g := g) (ws := Sw shC g ad S) hx hb hr hlocks (by decide +kernel) (by decide +kernel) hP hD hS ⟨_, rfl, (by unfold s_Reckoner_beIdleBehind; rw [if_neg hc1, if_pos hc2])⟩ d_Reckoner_beIdleBehind_99
    · refine lv_iload_n hx hb d_Reckoner_beIdleBehind_29 rfl (lv_at hl 2 rfl) ?_
      refine lv_sipush (v := 9766) hx hb d_Reckoner_beIdleBehind_30 (by decide) ?_
      refine lv_icmp_eq (tgt := 42) hx hb d_Reckoner_beIdleBehind_33 (by decide) (fun hc3 => ?_) (fun hc3 => ?_)
      · refine lv_aload_n hx hb d_Reckoner_beIdleBehind_42 rfl (lv_at hl 1 rfl) ?_
        refine lv_aload_n hx hb d_Reckoner_beIdleBehind_43 rfl (lv_at hl 1 rfl) ?_
        refine S_getI (h := shC) (C := "MacroMill$Reckoner") (T := F_Reckoner) hx hb htt in_Reckoner hown hK hP 3 10 rfl rfl rfl (by decide) (htt _ k_401) (fun _ h9 => h9) d_Reckoner_beIdleBehind_44 ?_
        refine lv_if_ne (tgt := 54) hx hb d_Reckoner_beIdleBehind_47 (by decide) (fun hc4 => ?_) (fun hc4 => ?_)
        · refine lv_iconst (v := 1) hx hb d_Reckoner_beIdleBehind_54 (by decide) ?_
          refine lv_goto (tgt := 59) hx hb d_Reckoner_beIdleBehind_55 (by decide) ?_
          refine S_put (h := shC) (C := "MacroMill$Reckoner") (T := F_Reckoner) (v := 1) hx hb htt in_Reckoner t_Reckoner t_Reckoner_ok n_Reckoner hown hK hP hD hS 3 10 rfl rfl rfl (by decide) (htt _ k_401) (fun _ h9 => h9) rfl rfl rfl d_Reckoner_beIdleBehind_59 (fun H locs hP hD hS => ?_)
          refine lv_goto (tgt := 99) hx hb d_Reckoner_beIdleBehind_62 (by decide) ?_
          exact fin_v (g := g) (ws := Sw shC g ad (putI S 3 10 1)) hx hb hr hlocks (by decide +kernel) (by decide +kernel) hP hD hS ⟨_, rfl, (by unfold s_Reckoner_beIdleBehind; rw [if_neg hc1, if_neg hc2, if_pos hc3, if_neg hc4])⟩ d_Reckoner_beIdleBehind_99
        · refine lv_iload_n hx hb d_Reckoner_beIdleBehind_50 rfl (lv_at hl 0 rfl) ?_
          refine lv_if_eq (tgt := 58) hx hb d_Reckoner_beIdleBehind_51 (by decide) (fun _ => ?_) (fun h9 => absurd (by decide) h9)
          refine lv_iconst (v := 0) hx hb d_Reckoner_beIdleBehind_58 (by decide) ?_
          refine S_put (h := shC) (C := "MacroMill$Reckoner") (T := F_Reckoner) (v := 0) hx hb htt in_Reckoner t_Reckoner t_Reckoner_ok n_Reckoner hown hK hP hD hS 3 10 rfl rfl rfl (by decide) (htt _ k_401) (fun _ h9 => h9) rfl rfl rfl d_Reckoner_beIdleBehind_59 (fun H locs hP hD hS => ?_)
          refine lv_goto (tgt := 99) hx hb d_Reckoner_beIdleBehind_62 (by decide) ?_
          show W _ _ _ _ _ _ _ _ _ _ _ _ _ _ _ (F0 _ 99 _ _)
          exact fin_v (g := g) (ws := Sw shC g ad (putI S 3 10 0)) hx hb hr hlocks (by decide +kernel) (by decide +kernel) hP hD hS ⟨_, rfl, (by unfold s_Reckoner_beIdleBehind; rw [if_neg hc1, if_neg hc2, if_pos hc3, if_pos hc4])⟩ d_Reckoner_beIdleBehind_99
      · refine lv_iload_n hx hb d_Reckoner_beIdleBehind_36 rfl (lv_at hl 2 rfl) ?_
        refine lv_bipush (v := 63) hx hb d_Reckoner_beIdleBehind_37 (by decide) ?_
        refine lv_icmp_ne (tgt := 65) hx hb d_Reckoner_beIdleBehind_39 (by decide) (fun hc5 => ?_) (fun hc5 => ?_)
        · refine lv_aload_n hx hb d_Reckoner_beIdleBehind_65 rfl (lv_at hl 1 rfl) ?_
          refine S_getI (h := shC) (C := "MacroMill$Reckoner") (T := F_Reckoner) hx hb htt in_Reckoner hown hK hP 3 8 rfl rfl rfl (by decide) (htt _ k_399) (fun _ h9 => h9) d_Reckoner_beIdleBehind_66 ?_
          refine lv_if_eq (tgt := 99) hx hb d_Reckoner_beIdleBehind_69 (by decide) (fun h9 => absurd h9 hc2) (fun _ => ?_)
          refine lv_iload_n hx hb d_Reckoner_beIdleBehind_72 rfl (lv_at hl 2 rfl) ?_
          refine lv_sipush (v := 31868) hx hb d_Reckoner_beIdleBehind_73 (by decide) ?_
          refine lv_icmp_ne (tgt := 99) hx hb d_Reckoner_beIdleBehind_76 (by decide) (fun hc6 => ?_) (fun hc6 => ?_)
          · exact fin_v (g := g) (ws := Sw shC g ad S) hx hb hr hlocks (by decide +kernel) (by decide +kernel) hP hD hS ⟨_, rfl, (by unfold s_Reckoner_beIdleBehind; rw [if_neg hc1, if_neg hc2, if_neg hc3, if_neg hc5, if_neg hc6])⟩ d_Reckoner_beIdleBehind_99
          · refine lv_aload_n hx hb d_Reckoner_beIdleBehind_79 rfl (lv_at hl 1 rfl) ?_
            refine lv_aload_n hx hb d_Reckoner_beIdleBehind_80 rfl (lv_at hl 1 rfl) ?_
            show W _ _ _ _ _ _ _ _ _ _ _ _ _ _ _ (F0 _ 81 _ _)
            refine S_getI (h := shC) (C := "MacroMill$Reckoner") (T := F_Reckoner) hx hb htt in_Reckoner hown hK hP 3 10 rfl rfl rfl (by decide) (htt _ k_401) (fun _ h9 => h9) d_Reckoner_beIdleBehind_81 ?_
            refine lv_if_ne (tgt := 91) hx hb d_Reckoner_beIdleBehind_84 (by decide) (fun hc7 => ?_) (fun hc7 => ?_)
            · refine lv_iconst (v := 1) hx hb d_Reckoner_beIdleBehind_91 (by decide) ?_
              refine lv_goto (tgt := 96) hx hb d_Reckoner_beIdleBehind_92 (by decide) ?_
              refine S_put (h := shC) (C := "MacroMill$Reckoner") (T := F_Reckoner) (v := 1) hx hb htt in_Reckoner t_Reckoner t_Reckoner_ok n_Reckoner hown hK hP hD hS 3 10 rfl rfl rfl (by decide) (htt _ k_401) (fun _ h9 => h9) rfl rfl rfl d_Reckoner_beIdleBehind_96 (fun H locs hP hD hS => ?_)
              exact fin_v (g := g) (ws := Sw shC g ad (putI S 3 10 1)) hx hb hr hlocks (by decide +kernel) (by decide +kernel) hP hD hS ⟨_, rfl, (by unfold s_Reckoner_beIdleBehind; rw [if_neg hc1, if_neg hc2, if_neg hc3, if_neg hc5, if_pos hc6])⟩ d_Reckoner_beIdleBehind_99
            · refine lv_iload_n hx hb d_Reckoner_beIdleBehind_87 rfl (lv_at hl 0 rfl) ?_
              refine lv_if_ne (tgt := 95) hx hb d_Reckoner_beIdleBehind_88 (by decide) (fun h9 => absurd (by decide) h9) (fun _ => ?_)
              refine lv_iconst (v := 1) hx hb d_Reckoner_beIdleBehind_91 (by decide) ?_
              refine lv_goto (tgt := 96) hx hb d_Reckoner_beIdleBehind_92 (by decide) ?_
              refine S_put (h := shC) (C := "MacroMill$Reckoner") (T := F_Reckoner) (v := 1) hx hb htt in_Reckoner t_Reckoner t_Reckoner_ok n_Reckoner hown hK hP hD hS 3 10 rfl rfl rfl (by decide) (htt _ k_401) (fun _ h9 => h9) rfl rfl rfl d_Reckoner_beIdleBehind_96 (fun H locs hP hD hS => ?_)
              exact fin_v (g := g) (ws := Sw shC g ad (putI S 3 10 1)) hx hb hr hlocks (by decide +kernel) (by decide +kernel) hP hD hS ⟨_, rfl, (by unfold s_Reckoner_beIdleBehind; rw [if_neg hc1, if_neg hc2, if_neg hc3, if_neg hc5, if_pos hc6])⟩ d_Reckoner_beIdleBehind_99
        · refine lv_aload_n hx hb d_Reckoner_beIdleBehind_42 rfl (lv_at hl 1 rfl) ?_
          refine lv_aload_n hx hb d_Reckoner_beIdleBehind_43 rfl (lv_at hl 1 rfl) ?_
          refine S_getI (h := shC) (C := "MacroMill$Reckoner") (T := F_Reckoner) hx hb htt in_Reckoner hown hK hP 3 10 rfl rfl rfl (by decide) (htt _ k_401) (fun _ h9 => h9) d_Reckoner_beIdleBehind_44 ?_
          refine lv_if_ne (tgt := 54) hx hb d_Reckoner_beIdleBehind_47 (by decide) (fun hc8 => ?_) (fun hc8 => ?_)
          · refine lv_iconst (v := 1) hx hb d_Reckoner_beIdleBehind_54 (by decide) ?_
            refine lv_goto (tgt := 59) hx hb d_Reckoner_beIdleBehind_55 (by decide) ?_
            refine S_put (h := shC) (C := "MacroMill$Reckoner") (T := F_Reckoner) (v := 1) hx hb htt in_Reckoner t_Reckoner t_Reckoner_ok n_Reckoner hown hK hP hD hS 3 10 rfl rfl rfl (by decide) (htt _ k_401) (fun _ h9 => h9) rfl rfl rfl d_Reckoner_beIdleBehind_59 (fun H locs hP hD hS => ?_)
            show W _ _ _ _ _ _ _ _ _ _ _ _ _ _ _ (F0 _ 62 _ _)
            refine lv_goto (tgt := 99) hx hb d_Reckoner_beIdleBehind_62 (by decide) ?_
            exact fin_v (g := g) (ws := Sw shC g ad (putI S 3 10 1)) hx hb hr hlocks (by decide +kernel) (by decide +kernel) hP hD hS ⟨_, rfl, (by unfold s_Reckoner_beIdleBehind; rw [if_neg hc1, if_neg hc2, if_neg hc3, if_pos hc5, if_neg hc8])⟩ d_Reckoner_beIdleBehind_99
          · refine lv_iload_n hx hb d_Reckoner_beIdleBehind_50 rfl (lv_at hl 0 rfl) ?_
            refine lv_if_eq (tgt := 58) hx hb d_Reckoner_beIdleBehind_51 (by decide) (fun _ => ?_) (fun h9 => absurd (by decide) h9)
            refine lv_iconst (v := 0) hx hb d_Reckoner_beIdleBehind_58 (by decide) ?_
            show W _ _ _ _ _ _ _ _ _ _ _ _ _ _ _ (F0 _ 59 _ _)
            refine S_put (h := shC) (C := "MacroMill$Reckoner") (T := F_Reckoner) (v := 0) hx hb htt in_Reckoner t_Reckoner t_Reckoner_ok n_Reckoner hown hK hP hD hS 3 10 rfl rfl rfl (by decide) (htt _ k_401) (fun _ h9 => h9) rfl rfl rfl d_Reckoner_beIdleBehind_59 (fun H locs hP hD hS => ?_)
            refine lv_goto (tgt := 99) hx hb d_Reckoner_beIdleBehind_62 (by decide) ?_
            exact fin_v (g := g) (ws := Sw shC g ad (putI S 3 10 0)) hx hb hr hlocks (by decide +kernel) (by decide +kernel) hP hD hS ⟨_, rfl, (by unfold s_Reckoner_beIdleBehind; rw [if_neg hc1, if_neg hc2, if_neg hc3, if_pos hc5, if_pos hc8])⟩ d_Reckoner_beIdleBehind_99
  · refine lv_iconst (v := 1) hx hb d_Reckoner_beIdleBehind_16 (by decide) ?_
    refine lv_goto (tgt := 21) hx hb d_Reckoner_beIdleBehind_17 (by decide) ?_
    show W _ _ _ _ _ _ _ _ _ _ _ _ _ _ _ (F0 _ 21 _ _)
    refine lv_istore_n (lv' := [(2, .int 1), (0, .ref (ad 3)), (1, .int v1)]) hx hb d_Reckoner_beIdleBehind_21 rfl hl (by decide) rfl (fun ls hl => ?_)
    refine lv_aload_n hx hb d_Reckoner_beIdleBehind_22 rfl (lv_at hl 1 rfl) ?_
    refine S_getI (h := shC) (C := "MacroMill$Reckoner") (T := F_Reckoner) hx hb htt in_Reckoner hown hK hP 3 8 rfl rfl rfl (by decide) (htt _ k_399) (fun _ h9 => h9) d_Reckoner_beIdleBehind_23 ?_
    refine lv_if_eq (tgt := 65) hx hb d_Reckoner_beIdleBehind_26 (by decide) (fun hc9 => ?_) (fun hc9 => ?_)
    · refine lv_aload_n hx hb d_Reckoner_beIdleBehind_65 rfl (lv_at hl 1 rfl) ?_
      refine S_getI (h := shC) (C := "MacroMill$Reckoner") (T := F_Reckoner) hx hb htt in_Reckoner hown hK hP 3 8 rfl rfl rfl (by decide) (htt _ k_399) (fun _ h9 => h9) d_Reckoner_beIdleBehind_66 ?_
      refine lv_if_eq (tgt := 99) hx hb d_Reckoner_beIdleBehind_69 (by decide) (fun _ => ?_) (fun h9 => absurd hc9 h9)
      exact fin_v (g := g) (ws := Sw shC g ad S) hx hb hr hlocks (by decide +kernel) (by decide +kernel) hP hD hS ⟨_, rfl, (by unfold s_Reckoner_beIdleBehind; rw [if_pos hc1, if_pos hc9])⟩ d_Reckoner_beIdleBehind_99
    · refine lv_iload_n hx hb d_Reckoner_beIdleBehind_29 rfl (lv_at hl 2 rfl) ?_
      refine lv_sipush (v := 9766) hx hb d_Reckoner_beIdleBehind_30 (by decide) ?_
      refine lv_icmp_eq (tgt := 42) hx hb d_Reckoner_beIdleBehind_33 (by decide) (fun hc10 => ?_) (fun hc10 => ?_)
      · refine lv_aload_n hx hb d_Reckoner_beIdleBehind_42 rfl (lv_at hl 1 rfl) ?_
        refine lv_aload_n hx hb d_Reckoner_beIdleBehind_43 rfl (lv_at hl 1 rfl) ?_
        refine S_getI (h := shC) (C := "MacroMill$Reckoner") (T := F_Reckoner) hx hb htt in_Reckoner hown hK hP 3 10 rfl rfl rfl (by decide) (htt _ k_401) (fun _ h9 => h9) d_Reckoner_beIdleBehind_44 ?_
        refine lv_if_ne (tgt := 54) hx hb d_Reckoner_beIdleBehind_47 (by decide) (fun hc11 => ?_) (fun hc11 => ?_)
        · refine lv_iconst (v := 1) hx hb d_Reckoner_beIdleBehind_54 (by decide) ?_
          refine lv_goto (tgt := 59) hx hb d_Reckoner_beIdleBehind_55 (by decide) ?_
          refine S_put (h := shC) (C := "MacroMill$Reckoner") (T := F_Reckoner) (v := 1) hx hb htt in_Reckoner t_Reckoner t_Reckoner_ok n_Reckoner hown hK hP hD hS 3 10 rfl rfl rfl (by decide) (htt _ k_401) (fun _ h9 => h9) rfl rfl rfl d_Reckoner_beIdleBehind_59 (fun H locs hP hD hS => ?_)
          refine lv_goto (tgt := 99) hx hb d_Reckoner_beIdleBehind_62 (by decide) ?_
          show W _ _ _ _ _ _ _ _ _ _ _ _ _ _ _ (F0 _ 99 _ _)
          exact fin_v (g := g) (ws := Sw shC g ad (putI S 3 10 1)) hx hb hr hlocks (by decide +kernel) (by decide +kernel) hP hD hS ⟨_, rfl, (by unfold s_Reckoner_beIdleBehind; rw [if_pos hc1, if_neg hc9, if_pos hc10])⟩ d_Reckoner_beIdleBehind_99
        · refine lv_iload_n hx hb d_Reckoner_beIdleBehind_50 rfl (lv_at hl 0 rfl) ?_
          refine lv_if_eq (tgt := 58) hx hb d_Reckoner_beIdleBehind_51 (by decide) (fun h9 => absurd h9 (by decide)) (fun _ => ?_)
          refine lv_iconst (v := 1) hx hb d_Reckoner_beIdleBehind_54 (by decide) ?_
          refine lv_goto (tgt := 59) hx hb d_Reckoner_beIdleBehind_55 (by decide) ?_
          show W _ _ _ _ _ _ _ _ _ _ _ _ _ _ _ (F0 _ 59 _ _)
          refine S_put (h := shC) (C := "MacroMill$Reckoner") (T := F_Reckoner) (v := 1) hx hb htt in_Reckoner t_Reckoner t_Reckoner_ok n_Reckoner hown hK hP hD hS 3 10 rfl rfl rfl (by decide) (htt _ k_401) (fun _ h9 => h9) rfl rfl rfl d_Reckoner_beIdleBehind_59 (fun H locs hP hD hS => ?_)
          refine lv_goto (tgt := 99) hx hb d_Reckoner_beIdleBehind_62 (by decide) ?_
          exact fin_v (g := g) (ws := Sw shC g ad (putI S 3 10 1)) hx hb hr hlocks (by decide +kernel) (by decide +kernel) hP hD hS ⟨_, rfl, (by unfold s_Reckoner_beIdleBehind; rw [if_pos hc1, if_neg hc9, if_pos hc10])⟩ d_Reckoner_beIdleBehind_99
      · refine lv_iload_n hx hb d_Reckoner_beIdleBehind_36 rfl (lv_at hl 2 rfl) ?_
        refine lv_bipush (v := 63) hx hb d_Reckoner_beIdleBehind_37 (by decide) ?_
        refine lv_icmp_ne (tgt := 65) hx hb d_Reckoner_beIdleBehind_39 (by decide) (fun hc12 => ?_) (fun hc12 => ?_)
        · refine lv_aload_n hx hb d_Reckoner_beIdleBehind_65 rfl (lv_at hl 1 rfl) ?_
          refine S_getI (h := shC) (C := "MacroMill$Reckoner") (T := F_Reckoner) hx hb htt in_Reckoner hown hK hP 3 8 rfl rfl rfl (by decide) (htt _ k_399) (fun _ h9 => h9) d_Reckoner_beIdleBehind_66 ?_
          refine lv_if_eq (tgt := 99) hx hb d_Reckoner_beIdleBehind_69 (by decide) (fun h9 => absurd h9 hc9) (fun _ => ?_)
          refine lv_iload_n hx hb d_Reckoner_beIdleBehind_72 rfl (lv_at hl 2 rfl) ?_
          refine lv_sipush (v := 31868) hx hb d_Reckoner_beIdleBehind_73 (by decide) ?_
          refine lv_icmp_ne (tgt := 99) hx hb d_Reckoner_beIdleBehind_76 (by decide) (fun hc13 => ?_) (fun hc13 => ?_)
          · exact fin_v (g := g) (ws := Sw shC g ad S) hx hb hr hlocks (by decide +kernel) (by decide +kernel) hP hD hS ⟨_, rfl, (by unfold s_Reckoner_beIdleBehind; rw [if_pos hc1, if_neg hc9, if_neg hc10, if_neg hc12, if_neg hc13])⟩ d_Reckoner_beIdleBehind_99
          · refine lv_aload_n hx hb d_Reckoner_beIdleBehind_79 rfl (lv_at hl 1 rfl) ?_
            show W _ _ _ _ _ _ _ _ _ _ _ _ _ _ _ (F0 _ 80 _ _)
            refine lv_aload_n hx hb d_Reckoner_beIdleBehind_80 rfl (lv_at hl 1 rfl) ?_
            refine S_getI (h := shC) (C := "MacroMill$Reckoner") (T := F_Reckoner) hx hb htt in_Reckoner hown hK hP 3 10 rfl rfl rfl (by decide) (htt _ k_401) (fun _ h9 => h9) d_Reckoner_beIdleBehind_81 ?_
            refine lv_if_ne (tgt := 91) hx hb d_Reckoner_beIdleBehind_84 (by decide) (fun hc14 => ?_) (fun hc14 => ?_)
            · refine lv_iconst (v := 1) hx hb d_Reckoner_beIdleBehind_91 (by decide) ?_
              refine lv_goto (tgt := 96) hx hb d_Reckoner_beIdleBehind_92 (by decide) ?_
              refine S_put (h := shC) (C := "MacroMill$Reckoner") (T := F_Reckoner) (v := 1) hx hb htt in_Reckoner t_Reckoner t_Reckoner_ok n_Reckoner hown hK hP hD hS 3 10 rfl rfl rfl (by decide) (htt _ k_401) (fun _ h9 => h9) rfl rfl rfl d_Reckoner_beIdleBehind_96 (fun H locs hP hD hS => ?_)
              exact fin_v (g := g) (ws := Sw shC g ad (putI S 3 10 1)) hx hb hr hlocks (by decide +kernel) (by decide +kernel) hP hD hS ⟨_, rfl, (by unfold s_Reckoner_beIdleBehind; rw [if_pos hc1, if_neg hc9, if_neg hc10, if_neg hc12, if_pos hc13, if_neg hc14])⟩ d_Reckoner_beIdleBehind_99
            · refine lv_iload_n hx hb d_Reckoner_beIdleBehind_87 rfl (lv_at hl 0 rfl) ?_
              refine lv_if_ne (tgt := 95) hx hb d_Reckoner_beIdleBehind_88 (by decide) (fun _ => ?_) (fun h9 => absurd h9 (by decide))
              refine lv_iconst (v := 0) hx hb d_Reckoner_beIdleBehind_95 (by decide) ?_
              refine S_put (h := shC) (C := "MacroMill$Reckoner") (T := F_Reckoner) (v := 0) hx hb htt in_Reckoner t_Reckoner t_Reckoner_ok n_Reckoner hown hK hP hD hS 3 10 rfl rfl rfl (by decide) (htt _ k_401) (fun _ h9 => h9) rfl rfl rfl d_Reckoner_beIdleBehind_96 (fun H locs hP hD hS => ?_)
              exact fin_v (g := g) (ws := Sw shC g ad (putI S 3 10 0)) hx hb hr hlocks (by decide +kernel) (by decide +kernel) hP hD hS ⟨_, rfl, (by unfold s_Reckoner_beIdleBehind; rw [if_pos hc1, if_neg hc9, if_neg hc10, if_neg hc12, if_pos hc13, if_pos hc14])⟩ d_Reckoner_beIdleBehind_99
        · refine lv_aload_n hx hb d_Reckoner_beIdleBehind_42 rfl (lv_at hl 1 rfl) ?_
          refine lv_aload_n hx hb d_Reckoner_beIdleBehind_43 rfl (lv_at hl 1 rfl) ?_
          refine S_getI (h := shC) (C := "MacroMill$Reckoner") (T := F_Reckoner) hx hb htt in_Reckoner hown hK hP 3 10 rfl rfl rfl (by decide) (htt _ k_401) (fun _ h9 => h9) d_Reckoner_beIdleBehind_44 ?_
          refine lv_if_ne (tgt := 54) hx hb d_Reckoner_beIdleBehind_47 (by decide) (fun hc15 => ?_) (fun hc15 => ?_)
          · refine lv_iconst (v := 1) hx hb d_Reckoner_beIdleBehind_54 (by decide) ?_
            refine lv_goto (tgt := 59) hx hb d_Reckoner_beIdleBehind_55 (by decide) ?_
            show W _ _ _ _ _ _ _ _ _ _ _ _ _ _ _ (F0 _ 59 _ _)
            refine S_put (h := shC) (C := "MacroMill$Reckoner") (T := F_Reckoner) (v := 1) hx hb htt in_Reckoner t_Reckoner t_Reckoner_ok n_Reckoner hown hK hP hD hS 3 10 rfl rfl rfl (by decide) (htt _ k_401) (fun _ h9 => h9) rfl rfl rfl d_Reckoner_beIdleBehind_59 (fun H locs hP hD hS => ?_)
            refine lv_goto (tgt := 99) hx hb d_Reckoner_beIdleBehind_62 (by decide) ?_
            exact fin_v (g := g) (ws := Sw shC g ad (putI S 3 10 1)) hx hb hr hlocks (by decide +kernel) (by decide +kernel) hP hD hS ⟨_, rfl, (by unfold s_Reckoner_beIdleBehind; rw [if_pos hc1, if_neg hc9, if_neg hc10, if_pos hc12])⟩ d_Reckoner_beIdleBehind_99
          · refine lv_iload_n hx hb d_Reckoner_beIdleBehind_50 rfl (lv_at hl 0 rfl) ?_
            refine lv_if_eq (tgt := 58) hx hb d_Reckoner_beIdleBehind_51 (by decide) (fun h9 => absurd h9 (by decide)) (fun _ => ?_)
            show W _ _ _ _ _ _ _ _ _ _ _ _ _ _ _ (F0 _ 54 _ _)
            refine lv_iconst (v := 1) hx hb d_Reckoner_beIdleBehind_54 (by decide) ?_
            refine lv_goto (tgt := 59) hx hb d_Reckoner_beIdleBehind_55 (by decide) ?_
            refine S_put (h := shC) (C := "MacroMill$Reckoner") (T := F_Reckoner) (v := 1) hx hb htt in_Reckoner t_Reckoner t_Reckoner_ok n_Reckoner hown hK hP hD hS 3 10 rfl rfl rfl (by decide) (htt _ k_401) (fun _ h9 => h9) rfl rfl rfl d_Reckoner_beIdleBehind_59 (fun H locs hP hD hS => ?_)
            refine lv_goto (tgt := 99) hx hb d_Reckoner_beIdleBehind_62 (by decide) ?_
            exact fin_v (g := g) (ws := Sw shC g ad (putI S 3 10 1)) hx hb hr hlocks (by decide +kernel) (by decide +kernel) hP hD hS ⟨_, rfl, (by unfold s_Reckoner_beIdleBehind; rw [if_pos hc1, if_neg hc9, if_neg hc10, if_pos hc12])⟩ d_Reckoner_beIdleBehind_99
def s_Reckoner_choose (S : sS) : sS := if (lg_cmp ((putI (putI S 3 7 ((S.1 3 7) - (1 : Int32))) 3 2 ((S.1 3 2) - (2 : Int32))).2.2 6 (((S.1 3 2) - (2 : Int32)) - (1 : Int32) : Int32).toNatClampNeg) (0 : Int64)) = (0 : Int32) then (if ((putL (putI (putI S 3 7 ((S.1 3 7) - (1 : Int32))) 3 2 ((S.1 3 2) - (2 : Int32))) 6 (((S.1 3 2) - (2 : Int32)) - (1 : Int32) : Int32).toNatClampNeg ((putI (putI S 3 7 ((S.1 3 7) - (1 : Int32))) 3 2 ((S.1 3 2) - (2 : Int32))).2.2 6 ((((S.1 3 2) - (2 : Int32)) - (1 : Int32)) + (2 : Int32) : Int32).toNatClampNeg)).2.1 7 ((((S.1 3 2) - (2 : Int32)) - (1 : Int32)) + (1 : Int32) : Int32).toNatClampNeg) = (0 : Int32) then (if ((putL (putI (putI S 3 7 ((S.1 3 7) - (1 : Int32))) 3 2 ((S.1 3 2) - (2 : Int32))) 6 (((S.1 3 2) - (2 : Int32)) - (1 : Int32) : Int32).toNatClampNeg ((putI (putI S 3 7 ((S.1 3 7) - (1 : Int32))) 3 2 ((S.1 3 2) - (2 : Int32))).2.2 6 ((((S.1 3 2) - (2 : Int32)) - (1 : Int32)) + (2 : Int32) : Int32).toNatClampNeg)).2.1 7 ((((S.1 3 2) - (2 : Int32)) - (1 : Int32)) + (2 : Int32) : Int32).toNatClampNeg) = (0 : Int32) then ((putA (putL (putI (putI S 3 7 ((S.1 3 7) - (1 : Int32))) 3 2 ((S.1 3 2) - (2 : Int32))) 6 (((S.1 3 2) - (2 : Int32)) - (1 : Int32) : Int32).toNatClampNeg ((putI (putI S 3 7 ((S.1 3 7) - (1 : Int32))) 3 2 ((S.1 3 2) - (2 : Int32))).2.2 6 ((((S.1 3 2) - (2 : Int32)) - (1 : Int32)) + (2 : Int32) : Int32).toNatClampNeg)) 7 (((S.1 3 2) - (2 : Int32)) - (1 : Int32) : Int32).toNatClampNeg (vp_nar .boolean 0))) else ((putA (putL (putI (putI S 3 7 ((S.1 3 7) - (1 : Int32))) 3 2 ((S.1 3 2) - (2 : Int32))) 6 (((S.1 3 2) - (2 : Int32)) - (1 : Int32) : Int32).toNatClampNeg ((putI (putI S 3 7 ((S.1 3 7) - (1 : Int32))) 3 2 ((S.1 3 2) - (2 : Int32))).2.2 6 ((((S.1 3 2) - (2 : Int32)) - (1 : Int32)) + (2 : Int32) : Int32).toNatClampNeg)) 7 (((S.1 3 2) - (2 : Int32)) - (1 : Int32) : Int32).toNatClampNeg (vp_nar .boolean 1)))) else ((putA (putL (putI (putI S 3 7 ((S.1 3 7) - (1 : Int32))) 3 2 ((S.1 3 2) - (2 : Int32))) 6 (((S.1 3 2) - (2 : Int32)) - (1 : Int32) : Int32).toNatClampNeg ((putI (putI S 3 7 ((S.1 3 7) - (1 : Int32))) 3 2 ((S.1 3 2) - (2 : Int32))).2.2 6 ((((S.1 3 2) - (2 : Int32)) - (1 : Int32)) + (2 : Int32) : Int32).toNatClampNeg)) 7 (((S.1 3 2) - (2 : Int32)) - (1 : Int32) : Int32).toNatClampNeg (vp_nar .boolean 1)))) else (if ((putL (putI (putI S 3 7 ((S.1 3 7) - (1 : Int32))) 3 2 ((S.1 3 2) - (2 : Int32))) 6 (((S.1 3 2) - (2 : Int32)) - (1 : Int32) : Int32).toNatClampNeg ((putI (putI S 3 7 ((S.1 3 7) - (1 : Int32))) 3 2 ((S.1 3 2) - (2 : Int32))).2.2 6 ((((S.1 3 2) - (2 : Int32)) - (1 : Int32)) + (1 : Int32) : Int32).toNatClampNeg)).2.1 7 ((((S.1 3 2) - (2 : Int32)) - (1 : Int32)) + (1 : Int32) : Int32).toNatClampNeg) = (0 : Int32) then (if ((putL (putI (putI S 3 7 ((S.1 3 7) - (1 : Int32))) 3 2 ((S.1 3 2) - (2 : Int32))) 6 (((S.1 3 2) - (2 : Int32)) - (1 : Int32) : Int32).toNatClampNeg ((putI (putI S 3 7 ((S.1 3 7) - (1 : Int32))) 3 2 ((S.1 3 2) - (2 : Int32))).2.2 6 ((((S.1 3 2) - (2 : Int32)) - (1 : Int32)) + (1 : Int32) : Int32).toNatClampNeg)).2.1 7 ((((S.1 3 2) - (2 : Int32)) - (1 : Int32)) + (2 : Int32) : Int32).toNatClampNeg) = (0 : Int32) then ((putA (putL (putI (putI S 3 7 ((S.1 3 7) - (1 : Int32))) 3 2 ((S.1 3 2) - (2 : Int32))) 6 (((S.1 3 2) - (2 : Int32)) - (1 : Int32) : Int32).toNatClampNeg ((putI (putI S 3 7 ((S.1 3 7) - (1 : Int32))) 3 2 ((S.1 3 2) - (2 : Int32))).2.2 6 ((((S.1 3 2) - (2 : Int32)) - (1 : Int32)) + (1 : Int32) : Int32).toNatClampNeg)) 7 (((S.1 3 2) - (2 : Int32)) - (1 : Int32) : Int32).toNatClampNeg (vp_nar .boolean 0))) else ((putA (putL (putI (putI S 3 7 ((S.1 3 7) - (1 : Int32))) 3 2 ((S.1 3 2) - (2 : Int32))) 6 (((S.1 3 2) - (2 : Int32)) - (1 : Int32) : Int32).toNatClampNeg ((putI (putI S 3 7 ((S.1 3 7) - (1 : Int32))) 3 2 ((S.1 3 2) - (2 : Int32))).2.2 6 ((((S.1 3 2) - (2 : Int32)) - (1 : Int32)) + (1 : Int32) : Int32).toNatClampNeg)) 7 (((S.1 3 2) - (2 : Int32)) - (1 : Int32) : Int32).toNatClampNeg (vp_nar .boolean 1)))) else ((putA (putL (putI (putI S 3 7 ((S.1 3 7) - (1 : Int32))) 3 2 ((S.1 3 2) - (2 : Int32))) 6 (((S.1 3 2) - (2 : Int32)) - (1 : Int32) : Int32).toNatClampNeg ((putI (putI S 3 7 ((S.1 3 7) - (1 : Int32))) 3 2 ((S.1 3 2) - (2 : Int32))).2.2 6 ((((S.1 3 2) - (2 : Int32)) - (1 : Int32)) + (1 : Int32) : Int32).toNatClampNeg)) 7 (((S.1 3 2) - (2 : Int32)) - (1 : Int32) : Int32).toNatClampNeg (vp_nar .boolean 1))))
abbrev rm_a_Reckoner_choose : Room := { frames := 0, cells := 0, slots := 0, locals := 0 }
set_option maxHeartbeats 4000000 in
set_option maxRecDepth 100000 in
theorem a_Reckoner_choose (l : Launch) (g : gG) (sz : Nat) (ad : Nat → Nat) (S : sS) (hb0 : vp_in (((S.1 3 2) - (2 : Int32)) - (1 : Int32)) 1000) (hb1 : (lg_cmp ((putI (putI S 3 7 ((S.1 3 7) - (1 : Int32))) 3 2 ((S.1 3 2) - (2 : Int32))).2.2 6 (((S.1 3 2) - (2 : Int32)) - (1 : Int32) : Int32).toNatClampNeg) (0 : Int64)) = (0 : Int32) → vp_in ((((S.1 3 2) - (2 : Int32)) - (1 : Int32)) + (2 : Int32)) 1000) (hb2 : (lg_cmp ((putI (putI S 3 7 ((S.1 3 7) - (1 : Int32))) 3 2 ((S.1 3 2) - (2 : Int32))).2.2 6 (((S.1 3 2) - (2 : Int32)) - (1 : Int32) : Int32).toNatClampNeg) (0 : Int64)) = (0 : Int32) → vp_in (((S.1 3 2) - (2 : Int32)) - (1 : Int32)) 1000) (hb3 : (lg_cmp ((putI (putI S 3 7 ((S.1 3 7) - (1 : Int32))) 3 2 ((S.1 3 2) - (2 : Int32))).2.2 6 (((S.1 3 2) - (2 : Int32)) - (1 : Int32) : Int32).toNatClampNeg) (0 : Int64)) = (0 : Int32) → vp_in ((((S.1 3 2) - (2 : Int32)) - (1 : Int32)) + (1 : Int32)) 1000) (hb4 : (lg_cmp ((putI (putI S 3 7 ((S.1 3 7) - (1 : Int32))) 3 2 ((S.1 3 2) - (2 : Int32))).2.2 6 (((S.1 3 2) - (2 : Int32)) - (1 : Int32) : Int32).toNatClampNeg) (0 : Int64)) = (0 : Int32) → ¬ (((putL (putI (putI S 3 7 ((S.1 3 7) - (1 : Int32))) 3 2 ((S.1 3 2) - (2 : Int32))) 6 (((S.1 3 2) - (2 : Int32)) - (1 : Int32) : Int32).toNatClampNeg ((putI (putI S 3 7 ((S.1 3 7) - (1 : Int32))) 3 2 ((S.1 3 2) - (2 : Int32))).2.2 6 ((((S.1 3 2) - (2 : Int32)) - (1 : Int32)) + (2 : Int32) : Int32).toNatClampNeg)).2.1 7 ((((S.1 3 2) - (2 : Int32)) - (1 : Int32)) + (1 : Int32) : Int32).toNatClampNeg) = (0 : Int32)) → vp_in (((S.1 3 2) - (2 : Int32)) - (1 : Int32)) 1000) (hb5 : (lg_cmp ((putI (putI S 3 7 ((S.1 3 7) - (1 : Int32))) 3 2 ((S.1 3 2) - (2 : Int32))).2.2 6 (((S.1 3 2) - (2 : Int32)) - (1 : Int32) : Int32).toNatClampNeg) (0 : Int64)) = (0 : Int32) → ((putL (putI (putI S 3 7 ((S.1 3 7) - (1 : Int32))) 3 2 ((S.1 3 2) - (2 : Int32))) 6 (((S.1 3 2) - (2 : Int32)) - (1 : Int32) : Int32).toNatClampNeg ((putI (putI S 3 7 ((S.1 3 7) - (1 : Int32))) 3 2 ((S.1 3 2) - (2 : Int32))).2.2 6 ((((S.1 3 2) - (2 : Int32)) - (1 : Int32)) + (2 : Int32) : Int32).toNatClampNeg)).2.1 7 ((((S.1 3 2) - (2 : Int32)) - (1 : Int32)) + (1 : Int32) : Int32).toNatClampNeg) = (0 : Int32) → vp_in ((((S.1 3 2) - (2 : Int32)) - (1 : Int32)) + (2 : Int32)) 1000) (hb6 : (lg_cmp ((putI (putI S 3 7 ((S.1 3 7) - (1 : Int32))) 3 2 ((S.1 3 2) - (2 : Int32))).2.2 6 (((S.1 3 2) - (2 : Int32)) - (1 : Int32) : Int32).toNatClampNeg) (0 : Int64)) = (0 : Int32) → ((putL (putI (putI S 3 7 ((S.1 3 7) - (1 : Int32))) 3 2 ((S.1 3 2) - (2 : Int32))) 6 (((S.1 3 2) - (2 : Int32)) - (1 : Int32) : Int32).toNatClampNeg ((putI (putI S 3 7 ((S.1 3 7) - (1 : Int32))) 3 2 ((S.1 3 2) - (2 : Int32))).2.2 6 ((((S.1 3 2) - (2 : Int32)) - (1 : Int32)) + (2 : Int32) : Int32).toNatClampNeg)).2.1 7 ((((S.1 3 2) - (2 : Int32)) - (1 : Int32)) + (1 : Int32) : Int32).toNatClampNeg) = (0 : Int32) → ((putL (putI (putI S 3 7 ((S.1 3 7) - (1 : Int32))) 3 2 ((S.1 3 2) - (2 : Int32))) 6 (((S.1 3 2) - (2 : Int32)) - (1 : Int32) : Int32).toNatClampNeg ((putI (putI S 3 7 ((S.1 3 7) - (1 : Int32))) 3 2 ((S.1 3 2) - (2 : Int32))).2.2 6 ((((S.1 3 2) - (2 : Int32)) - (1 : Int32)) + (2 : Int32) : Int32).toNatClampNeg)).2.1 7 ((((S.1 3 2) - (2 : Int32)) - (1 : Int32)) + (2 : Int32) : Int32).toNatClampNeg) = (0 : Int32) → vp_in (((S.1 3 2) - (2 : Int32)) - (1 : Int32)) 1000) (hb7 : (lg_cmp ((putI (putI S 3 7 ((S.1 3 7) - (1 : Int32))) 3 2 ((S.1 3 2) - (2 : Int32))).2.2 6 (((S.1 3 2) - (2 : Int32)) - (1 : Int32) : Int32).toNatClampNeg) (0 : Int64)) = (0 : Int32) → ((putL (putI (putI S 3 7 ((S.1 3 7) - (1 : Int32))) 3 2 ((S.1 3 2) - (2 : Int32))) 6 (((S.1 3 2) - (2 : Int32)) - (1 : Int32) : Int32).toNatClampNeg ((putI (putI S 3 7 ((S.1 3 7) - (1 : Int32))) 3 2 ((S.1 3 2) - (2 : Int32))).2.2 6 ((((S.1 3 2) - (2 : Int32)) - (1 : Int32)) + (2 : Int32) : Int32).toNatClampNeg)).2.1 7 ((((S.1 3 2) - (2 : Int32)) - (1 : Int32)) + (1 : Int32) : Int32).toNatClampNeg) = (0 : Int32) → ¬ (((putL (putI (putI S 3 7 ((S.1 3 7) - (1 : Int32))) 3 2 ((S.1 3 2) - (2 : Int32))) 6 (((S.1 3 2) - (2 : Int32)) - (1 : Int32) : Int32).toNatClampNeg ((putI (putI S 3 7 ((S.1 3 7) - (1 : Int32))) 3 2 ((S.1 3 2) - (2 : Int32))).2.2 6 ((((S.1 3 2) - (2 : Int32)) - (1 : Int32)) + (2 : Int32) : Int32).toNatClampNeg)).2.1 7 ((((S.1 3 2) - (2 : Int32)) - (1 : Int32)) + (2 : Int32) : Int32).toNatClampNeg) = (0 : Int32)) → vp_in (((S.1 3 2) - (2 : Int32)) - (1 : Int32)) 1000) (hb8 : ¬ ((lg_cmp ((putI (putI S 3 7 ((S.1 3 7) - (1 : Int32))) 3 2 ((S.1 3 2) - (2 : Int32))).2.2 6 (((S.1 3 2) - (2 : Int32)) - (1 : Int32) : Int32).toNatClampNeg) (0 : Int64)) = (0 : Int32)) → vp_in ((((S.1 3 2) - (2 : Int32)) - (1 : Int32)) + (1 : Int32)) 1000) (hb9 : ¬ ((lg_cmp ((putI (putI S 3 7 ((S.1 3 7) - (1 : Int32))) 3 2 ((S.1 3 2) - (2 : Int32))).2.2 6 (((S.1 3 2) - (2 : Int32)) - (1 : Int32) : Int32).toNatClampNeg) (0 : Int64)) = (0 : Int32)) → vp_in (((S.1 3 2) - (2 : Int32)) - (1 : Int32)) 1000) (hb10 : ¬ ((lg_cmp ((putI (putI S 3 7 ((S.1 3 7) - (1 : Int32))) 3 2 ((S.1 3 2) - (2 : Int32))).2.2 6 (((S.1 3 2) - (2 : Int32)) - (1 : Int32) : Int32).toNatClampNeg) (0 : Int64)) = (0 : Int32)) → ¬ (((putL (putI (putI S 3 7 ((S.1 3 7) - (1 : Int32))) 3 2 ((S.1 3 2) - (2 : Int32))) 6 (((S.1 3 2) - (2 : Int32)) - (1 : Int32) : Int32).toNatClampNeg ((putI (putI S 3 7 ((S.1 3 7) - (1 : Int32))) 3 2 ((S.1 3 2) - (2 : Int32))).2.2 6 ((((S.1 3 2) - (2 : Int32)) - (1 : Int32)) + (1 : Int32) : Int32).toNatClampNeg)).2.1 7 ((((S.1 3 2) - (2 : Int32)) - (1 : Int32)) + (1 : Int32) : Int32).toNatClampNeg) = (0 : Int32)) → vp_in (((S.1 3 2) - (2 : Int32)) - (1 : Int32)) 1000) (hb11 : ¬ ((lg_cmp ((putI (putI S 3 7 ((S.1 3 7) - (1 : Int32))) 3 2 ((S.1 3 2) - (2 : Int32))).2.2 6 (((S.1 3 2) - (2 : Int32)) - (1 : Int32) : Int32).toNatClampNeg) (0 : Int64)) = (0 : Int32)) → ((putL (putI (putI S 3 7 ((S.1 3 7) - (1 : Int32))) 3 2 ((S.1 3 2) - (2 : Int32))) 6 (((S.1 3 2) - (2 : Int32)) - (1 : Int32) : Int32).toNatClampNeg ((putI (putI S 3 7 ((S.1 3 7) - (1 : Int32))) 3 2 ((S.1 3 2) - (2 : Int32))).2.2 6 ((((S.1 3 2) - (2 : Int32)) - (1 : Int32)) + (1 : Int32) : Int32).toNatClampNeg)).2.1 7 ((((S.1 3 2) - (2 : Int32)) - (1 : Int32)) + (1 : Int32) : Int32).toNatClampNeg) = (0 : Int32) → vp_in ((((S.1 3 2) - (2 : Int32)) - (1 : Int32)) + (2 : Int32)) 1000) (hb12 : ¬ ((lg_cmp ((putI (putI S 3 7 ((S.1 3 7) - (1 : Int32))) 3 2 ((S.1 3 2) - (2 : Int32))).2.2 6 (((S.1 3 2) - (2 : Int32)) - (1 : Int32) : Int32).toNatClampNeg) (0 : Int64)) = (0 : Int32)) → ((putL (putI (putI S 3 7 ((S.1 3 7) - (1 : Int32))) 3 2 ((S.1 3 2) - (2 : Int32))) 6 (((S.1 3 2) - (2 : Int32)) - (1 : Int32) : Int32).toNatClampNeg ((putI (putI S 3 7 ((S.1 3 7) - (1 : Int32))) 3 2 ((S.1 3 2) - (2 : Int32))).2.2 6 ((((S.1 3 2) - (2 : Int32)) - (1 : Int32)) + (1 : Int32) : Int32).toNatClampNeg)).2.1 7 ((((S.1 3 2) - (2 : Int32)) - (1 : Int32)) + (1 : Int32) : Int32).toNatClampNeg) = (0 : Int32) → ((putL (putI (putI S 3 7 ((S.1 3 7) - (1 : Int32))) 3 2 ((S.1 3 2) - (2 : Int32))) 6 (((S.1 3 2) - (2 : Int32)) - (1 : Int32) : Int32).toNatClampNeg ((putI (putI S 3 7 ((S.1 3 7) - (1 : Int32))) 3 2 ((S.1 3 2) - (2 : Int32))).2.2 6 ((((S.1 3 2) - (2 : Int32)) - (1 : Int32)) + (1 : Int32) : Int32).toNatClampNeg)).2.1 7 ((((S.1 3 2) - (2 : Int32)) - (1 : Int32)) + (2 : Int32) : Int32).toNatClampNeg) = (0 : Int32) → vp_in (((S.1 3 2) - (2 : Int32)) - (1 : Int32)) 1000) (hb13 : ¬ ((lg_cmp ((putI (putI S 3 7 ((S.1 3 7) - (1 : Int32))) 3 2 ((S.1 3 2) - (2 : Int32))).2.2 6 (((S.1 3 2) - (2 : Int32)) - (1 : Int32) : Int32).toNatClampNeg) (0 : Int64)) = (0 : Int32)) → ((putL (putI (putI S 3 7 ((S.1 3 7) - (1 : Int32))) 3 2 ((S.1 3 2) - (2 : Int32))) 6 (((S.1 3 2) - (2 : Int32)) - (1 : Int32) : Int32).toNatClampNeg ((putI (putI S 3 7 ((S.1 3 7) - (1 : Int32))) 3 2 ((S.1 3 2) - (2 : Int32))).2.2 6 ((((S.1 3 2) - (2 : Int32)) - (1 : Int32)) + (1 : Int32) : Int32).toNatClampNeg)).2.1 7 ((((S.1 3 2) - (2 : Int32)) - (1 : Int32)) + (1 : Int32) : Int32).toNatClampNeg) = (0 : Int32) → ¬ (((putL (putI (putI S 3 7 ((S.1 3 7) - (1 : Int32))) 3 2 ((S.1 3 2) - (2 : Int32))) 6 (((S.1 3 2) - (2 : Int32)) - (1 : Int32) : Int32).toNatClampNeg ((putI (putI S 3 7 ((S.1 3 7) - (1 : Int32))) 3 2 ((S.1 3 2) - (2 : Int32))).2.2 6 ((((S.1 3 2) - (2 : Int32)) - (1 : Int32)) + (1 : Int32) : Int32).toNatClampNeg)).2.1 7 ((((S.1 3 2) - (2 : Int32)) - (1 : Int32)) + (2 : Int32) : Int32).toNatClampNeg) = (0 : Int32)) → vp_in (((S.1 3 2) - (2 : Int32)) - (1 : Int32)) 1000) : Cv l y_Reckoner_choose b_Reckoner_choose 2 rm_a_Reckoner_choose g [.ref (ad 3)] (Sw shC g ad S) sz (fun w => ∃ S' : sS, w = Sw shC g ad S' ∧ S' = s_Reckoner_choose S) := by
  refine startV (by decide) (Nat.le_of_ble_eq_true rfl) ?_
  intro p e s m below meth c A ls hx hb hr hml hlocks hmn hown htt hN hA hP hK hD hS hl
  have hown : s.vm.findClass "MacroMill$Reckoner" = some m.cls := hown
  have hl : lv_has ls 2 [(0, .ref (ad 3))] := hl
  refine lv_aload_n hx hb d_Reckoner_choose_0 rfl (lv_at hl 0 rfl) ?_
  refine lv_dup hx hb d_Reckoner_choose_1 rfl ?_
  refine S_getI (h := shC) (C := "MacroMill$Reckoner") (T := F_Reckoner) hx hb htt in_Reckoner hown hK hP 3 7 rfl rfl rfl (by decide) (htt _ k_398) (fun _ h9 => h9) d_Reckoner_choose_2 ?_
  refine lv_iconst (v := 1) hx hb d_Reckoner_choose_5 (by decide) ?_
  refine lv_isub hx hb d_Reckoner_choose_6 ?_
  refine S_put (h := shC) (C := "MacroMill$Reckoner") (T := F_Reckoner) (v := (S.1 3 7) - (1 : Int32)) hx hb htt in_Reckoner t_Reckoner t_Reckoner_ok n_Reckoner hown hK hP hD hS 3 7 rfl rfl rfl (by decide) (htt _ k_398) (fun _ h9 => h9) rfl rfl rfl d_Reckoner_choose_7 (fun H locs hP hD hS => ?_)
  refine lv_aload_n hx hb d_Reckoner_choose_10 rfl (lv_at hl 0 rfl) ?_
  refine lv_dup hx hb d_Reckoner_choose_11 rfl ?_
  refine S_getI (h := shC) (C := "MacroMill$Reckoner") (T := F_Reckoner) hx hb htt in_Reckoner hown hK hP 3 2 rfl rfl rfl (by decide) (htt _ k_393) (fun _ h9 => h9) d_Reckoner_choose_12 ?_
  refine toI (y := S.1 3 2) rfl ?_
  refine lv_iconst (v := 2) hx hb d_Reckoner_choose_15 (by decide) ?_
  refine lv_isub hx hb d_Reckoner_choose_16 ?_
  show W _ _ _ _ _ _ _ _ _ _ _ _ _ _ _ (F0 _ 17 _ _)
  refine S_put (h := shC) (C := "MacroMill$Reckoner") (T := F_Reckoner) (v := (S.1 3 2) - (2 : Int32)) hx hb htt in_Reckoner t_Reckoner t_Reckoner_ok n_Reckoner hown hK hP hD hS 3 2 rfl rfl rfl (by decide) (htt _ k_393) (fun _ h9 => h9) rfl rfl rfl d_Reckoner_choose_17 (fun H locs hP hD hS => ?_)
  refine lv_aload_n hx hb d_Reckoner_choose_20 rfl (lv_at hl 0 rfl) ?_
  refine S_getI (h := shC) (C := "MacroMill$Reckoner") (T := F_Reckoner) hx hb htt in_Reckoner hown hK hP 3 2 rfl rfl rfl (by decide) (htt _ k_393) (fun _ h9 => h9) d_Reckoner_choose_21 ?_
  refine toI (y := (S.1 3 2) - (2 : Int32)) rfl ?_
  refine lv_iconst (v := 1) hx hb d_Reckoner_choose_24 (by decide) ?_
  refine lv_isub hx hb d_Reckoner_choose_25 ?_
  refine lv_istore_n (lv' := [(1, .int (((S.1 3 2) - (2 : Int32)) - (1 : Int32))), (0, .ref (ad 3))]) hx hb d_Reckoner_choose_26 rfl hl (by decide) rfl (fun ls hl => ?_)
  refine lv_aload_n hx hb d_Reckoner_choose_27 rfl (lv_at hl 1 rfl) ?_
  refine S_getR (h := shC) (C := "MacroMill$Reckoner") (T := F_Reckoner) hx hb htt in_Reckoner hown hK hP 3 0 rfl 19 rfl rfl (by decide) (htt _ k_391) (fun _ h9 => h9) d_Reckoner_choose_28 ?_
  refine lv_iload_n hx hb d_Reckoner_choose_31 rfl (lv_at hl 0 rfl) ?_
  refine lv_aload_n hx hb d_Reckoner_choose_32 rfl (lv_at hl 1 rfl) ?_
  refine S_getR (h := shC) (C := "MacroMill$Reckoner") (T := F_Reckoner) hx hb htt in_Reckoner hown hK hP 3 0 rfl 19 rfl rfl (by decide) (htt _ k_391) (fun _ h9 => h9) d_Reckoner_choose_33 ?_
  refine lv_iload_n hx hb d_Reckoner_choose_36 rfl (lv_at hl 0 rfl) ?_
  show W _ _ _ _ _ _ _ _ _ _ _ _ _ _ _ (F0 _ 37 _ _)
  refine S_lald (h := shC) (i := ((S.1 3 2) - (2 : Int32)) - (1 : Int32)) hx hb hK hP 6 rfl hb0 d_Reckoner_choose_37 ?_
  refine lv_lconst (v := 0) hx hb d_Reckoner_choose_38 (by decide) ?_
  refine W.lcmp hx hb d_Reckoner_choose_39 ?_
  refine lv_if_eq (tgt := 54) hx hb d_Reckoner_choose_40 (by decide) (fun hc1 => ?_) (fun hc1 => ?_)
  · refine lv_aload_n hx hb d_Reckoner_choose_54 rfl (lv_at hl 1 rfl) ?_
    refine S_getR (h := shC) (C := "MacroMill$Reckoner") (T := F_Reckoner) hx hb htt in_Reckoner hown hK hP 3 0 rfl 19 rfl rfl (by decide) (htt _ k_391) (fun _ h9 => h9) d_Reckoner_choose_55 ?_
    refine lv_iload_n hx hb d_Reckoner_choose_58 rfl (lv_at hl 0 rfl) ?_
    refine lv_iconst (v := 2) hx hb d_Reckoner_choose_59 (by decide) ?_
    refine lv_iadd hx hb d_Reckoner_choose_60 ?_
    refine S_lald (h := shC) (i := (((S.1 3 2) - (2 : Int32)) - (1 : Int32)) + (2 : Int32)) hx hb hK hP 6 rfl (hb1 hc1) d_Reckoner_choose_61 ?_
    refine S_last (h := shC) (i := ((S.1 3 2) - (2 : Int32)) - (1 : Int32)) (v := (putI (putI S 3 7 ((S.1 3 7) - (1 : Int32))) 3 2 ((S.1 3 2) - (2 : Int32))).2.2 6 ((((S.1 3 2) - (2 : Int32)) - (1 : Int32)) + (2 : Int32) : Int32).toNatClampNeg) hx hb hK hP hD hS 6 rfl (hb2 hc1) d_Reckoner_choose_62 (fun H locs hP hD hS => ?_)
    refine lv_aload_n hx hb d_Reckoner_choose_63 rfl (lv_at hl 1 rfl) ?_
    refine S_getR (h := shC) (C := "MacroMill$Reckoner") (T := F_Reckoner) hx hb htt in_Reckoner hown hK hP 3 1 rfl 20 rfl rfl (by decide) (htt _ k_392) (fun _ h9 => h9) d_Reckoner_choose_64 ?_
    show W _ _ _ _ _ _ _ _ _ _ _ _ _ _ _ (F0 _ 67 _ _)
    refine lv_iload_n hx hb d_Reckoner_choose_67 rfl (lv_at hl 0 rfl) ?_
    refine lv_aload_n hx hb d_Reckoner_choose_68 rfl (lv_at hl 1 rfl) ?_
    refine S_getR (h := shC) (C := "MacroMill$Reckoner") (T := F_Reckoner) hx hb htt in_Reckoner hown hK hP 3 1 rfl 20 rfl rfl (by decide) (htt _ k_392) (fun _ h9 => h9) d_Reckoner_choose_69 ?_
    refine lv_iload_n hx hb d_Reckoner_choose_72 rfl (lv_at hl 0 rfl) ?_
    refine lv_iconst (v := 1) hx hb d_Reckoner_choose_73 (by decide) ?_
    refine lv_iadd hx hb d_Reckoner_choose_74 ?_
    refine S_zald (h := shC) (i := (((S.1 3 2) - (2 : Int32)) - (1 : Int32)) + (1 : Int32)) hx hb hK hP 7 rfl (hb3 hc1) d_Reckoner_choose_75 ?_
    refine lv_if_ne (tgt := 90) hx hb d_Reckoner_choose_76 (by decide) (fun hc2 => ?_) (fun hc2 => ?_)
    · refine lv_iconst (v := 1) hx hb d_Reckoner_choose_90 (by decide) ?_
      refine lv_goto (tgt := 95) hx hb d_Reckoner_choose_91 (by decide) ?_
      refine S_zast (h := shC) (i := ((S.1 3 2) - (2 : Int32)) - (1 : Int32)) (v := 1) hx hb hK hP hD hS 7 rfl (hb4 hc1 hc2) d_Reckoner_choose_95 (fun H locs hP hD hS => ?_)
      exact fin_v (g := g) (ws := Sw shC g ad (putA (putL (putI (putI S 3 7 ((S.1 3 7) - (1 : Int32))) 3 2 ((S.1 3 2) - (2 : Int32))) 6 (((S.1 3 2) - (2 : Int32)) - (1 : Int32) : Int32).toNatClampNeg ((putI (putI S 3 7 ((S.1 3 7) - (1 : Int32))) 3 2 ((S.1 3 2) - (2 : Int32))).2.2 6 ((((S.1 3 2) - (2 : Int32)) - (1 : Int32)) + (2 : Int32) : Int32).toNatClampNeg)) 7 (((S.1 3 2) - (2 : Int32)) - (1 : Int32) : Int32).toNatClampNeg (vp_nar .boolean 1))) hx hb hr hlocks (by decide +kernel) (by decide +kernel) hP hD hS ⟨_, rfl, (by unfold s_Reckoner_choose; rw [if_pos hc1, if_neg hc2])⟩ d_Reckoner_choose_96
    · refine lv_aload_n hx hb d_Reckoner_choose_79 rfl (lv_at hl 1 rfl) ?_
      refine S_getR (h := shC) (C := "MacroMill$Reckoner") (T := F_Reckoner) hx hb htt in_Reckoner hown hK hP 3 1 rfl 20 rfl rfl (by decide) (htt _ k_392) (fun _ h9 => h9) d_Reckoner_choose_80 ?_
      refine lv_iload_n hx hb d_Reckoner_choose_83 rfl (lv_at hl 0 rfl) ?_
      refine lv_iconst (v := 2) hx hb d_Reckoner_choose_84 (by decide) ?_
      refine lv_iadd hx hb d_Reckoner_choose_85 ?_
      show W _ _ _ _ _ _ _ _ _ _ _ _ _ _ _ (F0 _ 86 _ _)
      refine S_zald (h := shC) (i := (((S.1 3 2) - (2 : Int32)) - (1 : Int32)) + (2 : Int32)) hx hb hK hP 7 rfl (hb5 hc1 hc2) d_Reckoner_choose_86 ?_
      refine lv_if_eq (tgt := 94) hx hb d_Reckoner_choose_87 (by decide) (fun hc3 => ?_) (fun hc3 => ?_)
      · refine lv_iconst (v := 0) hx hb d_Reckoner_choose_94 (by decide) ?_
        refine S_zast (h := shC) (i := ((S.1 3 2) - (2 : Int32)) - (1 : Int32)) (v := 0) hx hb hK hP hD hS 7 rfl (hb6 hc1 hc2 hc3) d_Reckoner_choose_95 (fun H locs hP hD hS => ?_)
        exact fin_v (g := g) (ws := Sw shC g ad (putA (putL (putI (putI S 3 7 ((S.1 3 7) - (1 : Int32))) 3 2 ((S.1 3 2) - (2 : Int32))) 6 (((S.1 3 2) - (2 : Int32)) - (1 : Int32) : Int32).toNatClampNeg ((putI (putI S 3 7 ((S.1 3 7) - (1 : Int32))) 3 2 ((S.1 3 2) - (2 : Int32))).2.2 6 ((((S.1 3 2) - (2 : Int32)) - (1 : Int32)) + (2 : Int32) : Int32).toNatClampNeg)) 7 (((S.1 3 2) - (2 : Int32)) - (1 : Int32) : Int32).toNatClampNeg (vp_nar .boolean 0))) hx hb hr hlocks (by decide +kernel) (by decide +kernel) hP hD hS ⟨_, rfl, (by unfold s_Reckoner_choose; rw [if_pos hc1, if_pos hc2, if_pos hc3])⟩ d_Reckoner_choose_96
      · refine lv_iconst (v := 1) hx hb d_Reckoner_choose_90 (by decide) ?_
        refine lv_goto (tgt := 95) hx hb d_Reckoner_choose_91 (by decide) ?_
        refine S_zast (h := shC) (i := ((S.1 3 2) - (2 : Int32)) - (1 : Int32)) (v := 1) hx hb hK hP hD hS 7 rfl (hb7 hc1 hc2 hc3) d_Reckoner_choose_95 (fun H locs hP hD hS => ?_)
        exact fin_v (g := g) (ws := Sw shC g ad (putA (putL (putI (putI S 3 7 ((S.1 3 7) - (1 : Int32))) 3 2 ((S.1 3 2) - (2 : Int32))) 6 (((S.1 3 2) - (2 : Int32)) - (1 : Int32) : Int32).toNatClampNeg ((putI (putI S 3 7 ((S.1 3 7) - (1 : Int32))) 3 2 ((S.1 3 2) - (2 : Int32))).2.2 6 ((((S.1 3 2) - (2 : Int32)) - (1 : Int32)) + (2 : Int32) : Int32).toNatClampNeg)) 7 (((S.1 3 2) - (2 : Int32)) - (1 : Int32) : Int32).toNatClampNeg (vp_nar .boolean 1))) hx hb hr hlocks (by decide +kernel) (by decide +kernel) hP hD hS ⟨_, rfl, (by unfold s_Reckoner_choose; rw [if_pos hc1, if_pos hc2, if_neg hc3])⟩ d_Reckoner_choose_96
  · refine lv_aload_n hx hb d_Reckoner_choose_43 rfl (lv_at hl 1 rfl) ?_
    refine S_getR (h := shC) (C := "MacroMill$Reckoner") (T := F_Reckoner) hx hb htt in_Reckoner hown hK hP 3 0 rfl 19 rfl rfl (by decide) (htt _ k_391) (fun _ h9 => h9) d_Reckoner_choose_44 ?_
    refine lv_iload_n hx hb d_Reckoner_choose_47 rfl (lv_at hl 0 rfl) ?_
    refine lv_iconst (v := 1) hx hb d_Reckoner_choose_48 (by decide) ?_
    refine lv_iadd hx hb d_Reckoner_choose_49 ?_
    refine S_lald (h := shC) (i := (((S.1 3 2) - (2 : Int32)) - (1 : Int32)) + (1 : Int32)) hx hb hK hP 6 rfl (hb8 hc1) d_Reckoner_choose_50 ?_
    refine lv_goto (tgt := 62) hx hb d_Reckoner_choose_51 (by decide) ?_
    refine S_last (h := shC) (i := ((S.1 3 2) - (2 : Int32)) - (1 : Int32)) (v := (putI (putI S 3 7 ((S.1 3 7) - (1 : Int32))) 3 2 ((S.1 3 2) - (2 : Int32))).2.2 6 ((((S.1 3 2) - (2 : Int32)) - (1 : Int32)) + (1 : Int32) : Int32).toNatClampNeg) hx hb hK hP hD hS 6 rfl (hb9 hc1) d_Reckoner_choose_62 (fun H locs hP hD hS => ?_)
    refine lv_aload_n hx hb d_Reckoner_choose_63 rfl (lv_at hl 1 rfl) ?_
    show W _ _ _ _ _ _ _ _ _ _ _ _ _ _ _ (F0 _ 64 _ _)
    refine S_getR (h := shC) (C := "MacroMill$Reckoner") (T := F_Reckoner) hx hb htt in_Reckoner hown hK hP 3 1 rfl 20 rfl rfl (by decide) (htt _ k_392) (fun _ h9 => h9) d_Reckoner_choose_64 ?_
    refine lv_iload_n hx hb d_Reckoner_choose_67 rfl (lv_at hl 0 rfl) ?_
    refine lv_aload_n hx hb d_Reckoner_choose_68 rfl (lv_at hl 1 rfl) ?_
    refine S_getR (h := shC) (C := "MacroMill$Reckoner") (T := F_Reckoner) hx hb htt in_Reckoner hown hK hP 3 1 rfl 20 rfl rfl (by decide) (htt _ k_392) (fun _ h9 => h9) d_Reckoner_choose_69 ?_
    refine lv_iload_n hx hb d_Reckoner_choose_72 rfl (lv_at hl 0 rfl) ?_
    refine lv_iconst (v := 1) hx hb d_Reckoner_choose_73 (by decide) ?_
    refine lv_iadd hx hb d_Reckoner_choose_74 ?_
    refine S_zald (h := shC) (i := (((S.1 3 2) - (2 : Int32)) - (1 : Int32)) + (1 : Int32)) hx hb hK hP 7 rfl (hb8 hc1) d_Reckoner_choose_75 ?_
    refine lv_if_ne (tgt := 90) hx hb d_Reckoner_choose_76 (by decide) (fun hc4 => ?_) (fun hc4 => ?_)
    · refine lv_iconst (v := 1) hx hb d_Reckoner_choose_90 (by decide) ?_
      refine lv_goto (tgt := 95) hx hb d_Reckoner_choose_91 (by decide) ?_
      refine S_zast (h := shC) (i := ((S.1 3 2) - (2 : Int32)) - (1 : Int32)) (v := 1) hx hb hK hP hD hS 7 rfl (hb10 hc1 hc4) d_Reckoner_choose_95 (fun H locs hP hD hS => ?_)
      exact fin_v (g := g) (ws := Sw shC g ad (putA (putL (putI (putI S 3 7 ((S.1 3 7) - (1 : Int32))) 3 2 ((S.1 3 2) - (2 : Int32))) 6 (((S.1 3 2) - (2 : Int32)) - (1 : Int32) : Int32).toNatClampNeg ((putI (putI S 3 7 ((S.1 3 7) - (1 : Int32))) 3 2 ((S.1 3 2) - (2 : Int32))).2.2 6 ((((S.1 3 2) - (2 : Int32)) - (1 : Int32)) + (1 : Int32) : Int32).toNatClampNeg)) 7 (((S.1 3 2) - (2 : Int32)) - (1 : Int32) : Int32).toNatClampNeg (vp_nar .boolean 1))) hx hb hr hlocks (by decide +kernel) (by decide +kernel) hP hD hS ⟨_, rfl, (by unfold s_Reckoner_choose; rw [if_neg hc1, if_neg hc4])⟩ d_Reckoner_choose_96
    · refine lv_aload_n hx hb d_Reckoner_choose_79 rfl (lv_at hl 1 rfl) ?_
      refine S_getR (h := shC) (C := "MacroMill$Reckoner") (T := F_Reckoner) hx hb htt in_Reckoner hown hK hP 3 1 rfl 20 rfl rfl (by decide) (htt _ k_392) (fun _ h9 => h9) d_Reckoner_choose_80 ?_
      refine lv_iload_n hx hb d_Reckoner_choose_83 rfl (lv_at hl 0 rfl) ?_
      refine lv_iconst (v := 2) hx hb d_Reckoner_choose_84 (by decide) ?_
      show W _ _ _ _ _ _ _ _ _ _ _ _ _ _ _ (F0 _ 85 _ _)
      refine lv_iadd hx hb d_Reckoner_choose_85 ?_
      refine S_zald (h := shC) (i := (((S.1 3 2) - (2 : Int32)) - (1 : Int32)) + (2 : Int32)) hx hb hK hP 7 rfl (hb11 hc1 hc4) d_Reckoner_choose_86 ?_
      refine lv_if_eq (tgt := 94) hx hb d_Reckoner_choose_87 (by decide) (fun hc5 => ?_) (fun hc5 => ?_)
      · refine lv_iconst (v := 0) hx hb d_Reckoner_choose_94 (by decide) ?_
        refine S_zast (h := shC) (i := ((S.1 3 2) - (2 : Int32)) - (1 : Int32)) (v := 0) hx hb hK hP hD hS 7 rfl (hb12 hc1 hc4 hc5) d_Reckoner_choose_95 (fun H locs hP hD hS => ?_)
        exact fin_v (g := g) (ws := Sw shC g ad (putA (putL (putI (putI S 3 7 ((S.1 3 7) - (1 : Int32))) 3 2 ((S.1 3 2) - (2 : Int32))) 6 (((S.1 3 2) - (2 : Int32)) - (1 : Int32) : Int32).toNatClampNeg ((putI (putI S 3 7 ((S.1 3 7) - (1 : Int32))) 3 2 ((S.1 3 2) - (2 : Int32))).2.2 6 ((((S.1 3 2) - (2 : Int32)) - (1 : Int32)) + (1 : Int32) : Int32).toNatClampNeg)) 7 (((S.1 3 2) - (2 : Int32)) - (1 : Int32) : Int32).toNatClampNeg (vp_nar .boolean 0))) hx hb hr hlocks (by decide +kernel) (by decide +kernel) hP hD hS ⟨_, rfl, (by unfold s_Reckoner_choose; rw [if_neg hc1, if_pos hc4, if_pos hc5])⟩ d_Reckoner_choose_96
      · refine lv_iconst (v := 1) hx hb d_Reckoner_choose_90 (by decide) ?_
        refine lv_goto (tgt := 95) hx hb d_Reckoner_choose_91 (by decide) ?_
        refine S_zast (h := shC) (i := ((S.1 3 2) - (2 : Int32)) - (1 : Int32)) (v := 1) hx hb hK hP hD hS 7 rfl (hb13 hc1 hc4 hc5) d_Reckoner_choose_95 (fun H locs hP hD hS => ?_)
        exact fin_v (g := g) (ws := Sw shC g ad (putA (putL (putI (putI S 3 7 ((S.1 3 7) - (1 : Int32))) 3 2 ((S.1 3 2) - (2 : Int32))) 6 (((S.1 3 2) - (2 : Int32)) - (1 : Int32) : Int32).toNatClampNeg ((putI (putI S 3 7 ((S.1 3 7) - (1 : Int32))) 3 2 ((S.1 3 2) - (2 : Int32))).2.2 6 ((((S.1 3 2) - (2 : Int32)) - (1 : Int32)) + (1 : Int32) : Int32).toNatClampNeg)) 7 (((S.1 3 2) - (2 : Int32)) - (1 : Int32) : Int32).toNatClampNeg (vp_nar .boolean 1))) hx hb hr hlocks (by decide +kernel) (by decide +kernel) hP hD hS ⟨_, rfl, (by unfold s_Reckoner_choose; rw [if_neg hc1, if_pos hc4, if_neg hc5])⟩ d_Reckoner_choose_96
def r_Reckoner_divide (S : sS) (v1 : Int64) (v2 : Int64) (v3 : Int32) (v4 : Int32) : Int64 := if (lg_cmp v2 (0 : Int64)) = (0 : Int32) then 0 else (if v3 = (0 : Int32) then (if v4 = (0 : Int32) then (v1 / v2) else (v1 - ((v1 / v2) * v2))) else (if (0 : Int32) ≤ (lg_cmp v2 (0 : Int64)) then (if (0 : Int32) ≤ (lg_cmp v1 (0 : Int64)) then (if v4 = (0 : Int32) then (v1 / v2) else (v1 - ((v1 / v2) * v2))) else (if (lg_cmp ((v1 - (((((v1.toUInt64 >>> ((1 : Int32).toInt64.toUInt64 &&& Int64.toUInt64 63)).toInt64) / v2) <<< ((1 : Int32).toInt64 &&& 63)) * v2)) ^^^ ((-9223372036854775808) : Int64)) (v2 ^^^ ((-9223372036854775808) : Int64))) < (0 : Int32) then (if v4 = (0 : Int32) then ((((v1.toUInt64 >>> ((1 : Int32).toInt64.toUInt64 &&& Int64.toUInt64 63)).toInt64) / v2) <<< ((1 : Int32).toInt64 &&& 63)) else (v1 - (((((v1.toUInt64 >>> ((1 : Int32).toInt64.toUInt64 &&& Int64.toUInt64 63)).toInt64) / v2) <<< ((1 : Int32).toInt64 &&& 63)) * v2))) else (if v4 = (0 : Int32) then (((((v1.toUInt64 >>> ((1 : Int32).toInt64.toUInt64 &&& Int64.toUInt64 63)).toInt64) / v2) <<< ((1 : Int32).toInt64 &&& 63)) + (1 : Int64)) else (v1 - ((((((v1.toUInt64 >>> ((1 : Int32).toInt64.toUInt64 &&& Int64.toUInt64 63)).toInt64) / v2) <<< ((1 : Int32).toInt64 &&& 63)) + (1 : Int64)) * v2))))) else (if (lg_cmp (v1 ^^^ ((-9223372036854775808) : Int64)) (v2 ^^^ ((-9223372036854775808) : Int64))) < (0 : Int32) then (if v4 = (0 : Int32) then 0 else (v1 - ((0 : Int64) * v2))) else (if v4 = (0 : Int32) then 1 else (v1 - ((1 : Int64) * v2))))))
def s_Reckoner_divide (S : sS) (v1 : Int64) (v2 : Int64) (v3 : Int32) (v4 : Int32) : sS := if (lg_cmp v2 (0 : Int64)) = (0 : Int32) then (if (S.1 3 12) = (0 : Int32) then (if (S.1 3 10) = (0 : Int32) then ((putI S 3 12 1)) else ((putI S 3 12 0))) else ((putI S 3 12 1))) else S
abbrev rm_a_Reckoner_divide : Room := { frames := 0, cells := 0, slots := 0, locals := 0 }
set_option maxHeartbeats 4000000 in
set_option maxRecDepth 100000 in
theorem a_Reckoner_divide (l : Launch) (g : gG) (sz : Nat) (ad : Nat → Nat) (S : sS) (v1 : Int64) (v2 : Int64) (v3 : Int32) (v4 : Int32) (hb0 : ¬ ((lg_cmp v2 (0 : Int64)) = (0 : Int32)) → ¬ v2 = 0) (hb1 : ¬ ((lg_cmp v2 (0 : Int64)) = (0 : Int32)) → ¬ (v3 = (0 : Int32)) → (0 : Int32) ≤ (lg_cmp v2 (0 : Int64)) → ¬ ((0 : Int32) ≤ (lg_cmp v1 (0 : Int64))) → ¬ v2 = 0) : Cl l y_Reckoner_divide b_Reckoner_divide 9 rm_a_Reckoner_divide g [.ref (ad 3), .long v1, .long v2, .int v3, .int v4] (Sw shC g ad S) sz (fun r w => ∃ S' : sS, w = Sw shC g ad S' ∧ r = r_Reckoner_divide S v1 v2 v3 v4 ∧ S' = s_Reckoner_divide S v1 v2 v3 v4) := by
  refine startL (by decide) (Nat.le_of_ble_eq_true rfl) ?_
  intro p e s m below meth c A ls hx hb hr hml hlocks hmn hown htt hN hA hP hK hD hS hl
  have hown : s.vm.findClass "MacroMill$Reckoner" = some m.cls := hown
  have hl : lv_has ls 9 [(0, .ref (ad 3)), (1, .long v1), (3, .long v2), (5, .int v3), (6, .int v4)] := hl
  refine lv_lload_n hx hb d_Reckoner_divide_0 rfl (lv_at hl 2 rfl) ?_
  refine lv_lconst (v := 0) hx hb d_Reckoner_divide_1 (by decide) ?_
  refine W.lcmp hx hb d_Reckoner_divide_2 ?_
  refine lv_if_ne (tgt := 31) hx hb d_Reckoner_divide_3 (by decide) (fun hc1 => ?_) (fun hc1 => ?_)
  · refine lv_lload_n hx hb d_Reckoner_divide_31 rfl (lv_at hl 1 rfl) ?_
    refine lv_lload_n hx hb d_Reckoner_divide_32 rfl (lv_at hl 2 rfl) ?_
    refine lv_ldiv hx hb d_Reckoner_divide_33 (hb0 hc1) ?_
    refine lv_lstore (lv' := [(7, .long (v1 / v2)), (0, .ref (ad 3)), (1, .long v1), (3, .long v2), (5, .int v3), (6, .int v4)]) hx hb d_Reckoner_divide_34 hl (by decide) rfl (fun ls hl => ?_)
    refine lv_iload hx hb d_Reckoner_divide_36 (lv_at hl 4 rfl) ?_
    refine lv_if_eq (tgt := 71) hx hb d_Reckoner_divide_38 (by decide) (fun hc2 => ?_) (fun hc2 => ?_)
    · refine lv_iload hx hb d_Reckoner_divide_71 (lv_at hl 4 rfl) ?_
      refine lv_if_eq (tgt := 116) hx hb d_Reckoner_divide_73 (by decide) (fun _ => ?_) (fun h9 => absurd hc2 h9)
      refine lv_iload hx hb d_Reckoner_divide_116 (lv_at hl 5 rfl) ?_
      refine lv_if_eq (tgt := 130) hx hb d_Reckoner_divide_118 (by decide) (fun hc3 => ?_) (fun hc3 => ?_)
      · refine lv_lload hx hb d_Reckoner_divide_130 (lv_at hl 0 rfl) ?_
        show W _ _ _ _ _ _ _ _ _ _ _ _ _ _ _ (F0 _ 132 _ _)
        exact fin_l (g := g) (ws := Sw shC g ad S) (v := v1 / v2) hx hb hr hlocks (by decide +kernel) (by decide +kernel) hP hD hS ⟨_, rfl, (by unfold r_Reckoner_divide; rw [if_neg hc1, if_pos hc2, if_pos hc3]), (by unfold s_Reckoner_divide; rw [if_neg hc1])⟩ d_Reckoner_divide_132
      · refine lv_lload_n hx hb d_Reckoner_divide_121 rfl (lv_at hl 2 rfl) ?_
        show W _ _ _ _ _ _ _ _ _ _ _ _ _ _ _ (F0 _ 122 _ _)
        refine lv_lload hx hb d_Reckoner_divide_122 (lv_at hl 0 rfl) ?_
        refine lv_lload_n hx hb d_Reckoner_divide_124 rfl (lv_at hl 3 rfl) ?_
        refine lv_lmul hx hb d_Reckoner_divide_125 ?_
        refine lv_lsub hx hb d_Reckoner_divide_126 ?_
        refine lv_goto (tgt := 132) hx hb d_Reckoner_divide_127 (by decide) ?_
        exact fin_l (g := g) (ws := Sw shC g ad S) (v := v1 - ((v1 / v2) * v2)) hx hb hr hlocks (by decide +kernel) (by decide +kernel) hP hD hS ⟨_, rfl, (by unfold r_Reckoner_divide; rw [if_neg hc1, if_pos hc2, if_neg hc3]), (by unfold s_Reckoner_divide; rw [if_neg hc1])⟩ d_Reckoner_divide_132
    · refine lv_lload_n hx hb d_Reckoner_divide_41 rfl (lv_at hl 3 rfl) ?_
      refine lv_lconst (v := 0) hx hb d_Reckoner_divide_42 (by decide) ?_
      refine W.lcmp hx hb d_Reckoner_divide_43 ?_
      refine lv_if_ge (tgt := 71) hx hb d_Reckoner_divide_44 (by decide) (fun hc4 => ?_) (fun hc4 => ?_)
      · show W _ _ _ _ _ _ _ _ _ _ _ _ _ _ _ (F0 _ 71 _ _)
        refine lv_iload hx hb d_Reckoner_divide_71 (lv_at hl 4 rfl) ?_
        refine lv_if_eq (tgt := 116) hx hb d_Reckoner_divide_73 (by decide) (fun h9 => absurd h9 hc2) (fun _ => ?_)
        refine lv_lload_n hx hb d_Reckoner_divide_76 rfl (lv_at hl 2 rfl) ?_
        refine lv_lconst (v := 0) hx hb d_Reckoner_divide_77 (by decide) ?_
        refine W.lcmp hx hb d_Reckoner_divide_78 ?_
        refine lv_if_ge (tgt := 116) hx hb d_Reckoner_divide_79 (by decide) (fun hc5 => ?_) (fun hc5 => ?_)
        · refine lv_iload hx hb d_Reckoner_divide_116 (lv_at hl 5 rfl) ?_
          refine lv_if_eq (tgt := 130) hx hb d_Reckoner_divide_118 (by decide) (fun hc6 => ?_) (fun hc6 => ?_)
          · refine lv_lload hx hb d_Reckoner_divide_130 (lv_at hl 0 rfl) ?_
            exact fin_l (g := g) (ws := Sw shC g ad S) (v := v1 / v2) hx hb hr hlocks (by decide +kernel) (by decide +kernel) hP hD hS ⟨_, rfl, (by unfold r_Reckoner_divide; rw [if_neg hc1, if_neg hc2, if_pos hc4, if_pos hc5, if_pos hc6]), (by unfold s_Reckoner_divide; rw [if_neg hc1])⟩ d_Reckoner_divide_132
          · refine lv_lload_n hx hb d_Reckoner_divide_121 rfl (lv_at hl 2 rfl) ?_
            refine lv_lload hx hb d_Reckoner_divide_122 (lv_at hl 0 rfl) ?_
            refine lv_lload_n hx hb d_Reckoner_divide_124 rfl (lv_at hl 3 rfl) ?_
            refine lv_lmul hx hb d_Reckoner_divide_125 ?_
            refine lv_lsub hx hb d_Reckoner_divide_126 ?_
            refine lv_goto (tgt := 132) hx hb d_Reckoner_divide_127 (by decide) ?_
            exact fin_l (g := g) (ws := Sw shC g ad S) (v := v1 - ((v1 / v2) * v2)) hx hb hr hlocks (by decide +kernel) (by decide +kernel) hP hD hS ⟨_, rfl, (by unfold r_Reckoner_divide; rw [if_neg hc1, if_neg hc2, if_pos hc4, if_pos hc5, if_neg hc6]), (by unfold s_Reckoner_divide; rw [if_neg hc1])⟩ d_Reckoner_divide_132
        · refine lv_lload_n hx hb d_Reckoner_divide_82 rfl (lv_at hl 2 rfl) ?_
          refine lv_iconst (v := 1) hx hb d_Reckoner_divide_83 (by decide) ?_
          refine lv_lushr (v := (v1.toUInt64 >>> ((1 : Int32).toInt64.toUInt64 &&& Int64.toUInt64 63)).toInt64) hx hb d_Reckoner_divide_84 rfl ?_
          refine lv_lload_n hx hb d_Reckoner_divide_85 rfl (lv_at hl 3 rfl) ?_
          refine lv_ldiv hx hb d_Reckoner_divide_86 (hb1 hc1 hc2 hc4 hc5) ?_
          refine lv_iconst (v := 1) hx hb d_Reckoner_divide_87 (by decide) ?_
          refine lv_lshl (v := (((v1.toUInt64 >>> ((1 : Int32).toInt64.toUInt64 &&& Int64.toUInt64 63)).toInt64) / v2) <<< ((1 : Int32).toInt64 &&& 63)) hx hb d_Reckoner_divide_88 rfl ?_
          refine lv_lstore (lv' := [(7, .long ((((v1.toUInt64 >>> ((1 : Int32).toInt64.toUInt64 &&& Int64.toUInt64 63)).toInt64) / v2) <<< ((1 : Int32).toInt64 &&& 63))), (0, .ref (ad 3)), (1, .long v1), (3, .long v2), (5, .int v3), (6, .int v4)]) hx hb d_Reckoner_divide_89 hl (by decide) rfl (fun ls hl => ?_)
          show W _ _ _ _ _ _ _ _ _ _ _ _ _ _ _ (F0 _ 91 _ _)
          refine lv_lload_n hx hb d_Reckoner_divide_91 rfl (lv_at hl 2 rfl) ?_
          refine lv_lload hx hb d_Reckoner_divide_92 (lv_at hl 0 rfl) ?_
          refine lv_lload_n hx hb d_Reckoner_divide_94 rfl (lv_at hl 3 rfl) ?_
          refine lv_lmul hx hb d_Reckoner_divide_95 ?_
          refine lv_lsub hx hb d_Reckoner_divide_96 ?_
          refine lv_ldc2 (v := (-9223372036854775808)) hx hb hown (htt _ k_1412) d_Reckoner_divide_97 ?_
          refine lv_lxor hx hb d_Reckoner_divide_100 ?_
          refine lv_lload_n hx hb d_Reckoner_divide_101 rfl (lv_at hl 3 rfl) ?_
          refine lv_ldc2 (v := (-9223372036854775808)) hx hb hown (htt _ k_1412) d_Reckoner_divide_102 ?_
          refine lv_lxor hx hb d_Reckoner_divide_105 ?_
          refine W.lcmp hx hb d_Reckoner_divide_106 ?_
          refine lv_if_lt (tgt := 116) hx hb d_Reckoner_divide_107 (by decide) (fun hc7 => ?_) (fun hc7 => ?_)
          · refine lv_iload hx hb d_Reckoner_divide_116 (lv_at hl 5 rfl) ?_
            refine lv_if_eq (tgt := 130) hx hb d_Reckoner_divide_118 (by decide) (fun hc8 => ?_) (fun hc8 => ?_)
            · show W _ _ _ _ _ _ _ _ _ _ _ _ _ _ _ (F0 _ 130 _ _)
              refine lv_lload hx hb d_Reckoner_divide_130 (lv_at hl 0 rfl) ?_
              exact fin_l (g := g) (ws := Sw shC g ad S) (v := (((v1.toUInt64 >>> ((1 : Int32).toInt64.toUInt64 &&& Int64.toUInt64 63)).toInt64) / v2) <<< ((1 : Int32).toInt64 &&& 63)) hx hb hr hlocks (by decide +kernel) (by decide +kernel) hP hD hS ⟨_, rfl, (by unfold r_Reckoner_divide; rw [if_neg hc1, if_neg hc2, if_pos hc4, if_neg hc5, if_pos hc7, if_pos hc8]), (by unfold s_Reckoner_divide; rw [if_neg hc1])⟩ d_Reckoner_divide_132
            · show W _ _ _ _ _ _ _ _ _ _ _ _ _ _ _ (F0 _ 121 _ _)
              refine lv_lload_n hx hb d_Reckoner_divide_121 rfl (lv_at hl 2 rfl) ?_
              refine lv_lload hx hb d_Reckoner_divide_122 (lv_at hl 0 rfl) ?_
              refine lv_lload_n hx hb d_Reckoner_divide_124 rfl (lv_at hl 3 rfl) ?_
              refine lv_lmul hx hb d_Reckoner_divide_125 ?_
              refine lv_lsub hx hb d_Reckoner_divide_126 ?_
              refine lv_goto (tgt := 132) hx hb d_Reckoner_divide_127 (by decide) ?_
              exact fin_l (g := g) (ws := Sw shC g ad S) (v := v1 - (((((v1.toUInt64 >>> ((1 : Int32).toInt64.toUInt64 &&& Int64.toUInt64 63)).toInt64) / v2) <<< ((1 : Int32).toInt64 &&& 63)) * v2)) hx hb hr hlocks (by decide +kernel) (by decide +kernel) hP hD hS ⟨_, rfl, (by unfold r_Reckoner_divide; rw [if_neg hc1, if_neg hc2, if_pos hc4, if_neg hc5, if_pos hc7, if_neg hc8]), (by unfold s_Reckoner_divide; rw [if_neg hc1])⟩ d_Reckoner_divide_132
          · refine lv_lload hx hb d_Reckoner_divide_110 (lv_at hl 0 rfl) ?_
            show W _ _ _ _ _ _ _ _ _ _ _ _ _ _ _ (F0 _ 112 _ _)
            refine lv_lconst (v := 1) hx hb d_Reckoner_divide_112 (by decide) ?_
            refine lv_ladd hx hb d_Reckoner_divide_113 ?_
            refine lv_lstore (lv' := [(7, .long (((((v1.toUInt64 >>> ((1 : Int32).toInt64.toUInt64 &&& Int64.toUInt64 63)).toInt64) / v2) <<< ((1 : Int32).toInt64 &&& 63)) + (1 : Int64))), (0, .ref (ad 3)), (1, .long v1), (3, .long v2), (5, .int v3), (6, .int v4)]) hx hb d_Reckoner_divide_114 hl (by decide) rfl (fun ls hl => ?_)
            refine lv_iload hx hb d_Reckoner_divide_116 (lv_at hl 5 rfl) ?_
            refine lv_if_eq (tgt := 130) hx hb d_Reckoner_divide_118 (by decide) (fun hc9 => ?_) (fun hc9 => ?_)
            · refine lv_lload hx hb d_Reckoner_divide_130 (lv_at hl 0 rfl) ?_
              exact fin_l (g := g) (ws := Sw shC g ad S) (v := ((((v1.toUInt64 >>> ((1 : Int32).toInt64.toUInt64 &&& Int64.toUInt64 63)).toInt64) / v2) <<< ((1 : Int32).toInt64 &&& 63)) + (1 : Int64)) hx hb hr hlocks (by decide +kernel) (by decide +kernel) hP hD hS ⟨_, rfl, (by unfold r_Reckoner_divide; rw [if_neg hc1, if_neg hc2, if_pos hc4, if_neg hc5, if_neg hc7, if_pos hc9]), (by unfold s_Reckoner_divide; rw [if_neg hc1])⟩ d_Reckoner_divide_132
            · refine lv_lload_n hx hb d_Reckoner_divide_121 rfl (lv_at hl 2 rfl) ?_
              refine lv_lload hx hb d_Reckoner_divide_122 (lv_at hl 0 rfl) ?_
              refine lv_lload_n hx hb d_Reckoner_divide_124 rfl (lv_at hl 3 rfl) ?_
              refine lv_lmul hx hb d_Reckoner_divide_125 ?_
              refine lv_lsub hx hb d_Reckoner_divide_126 ?_
              refine lv_goto (tgt := 132) hx hb d_Reckoner_divide_127 (by decide) ?_
              exact fin_l (g := g) (ws := Sw shC g ad S) (v := v1 - ((((((v1.toUInt64 >>> ((1 : Int32).toInt64.toUInt64 &&& Int64.toUInt64 63)).toInt64) / v2) <<< ((1 : Int32).toInt64 &&& 63)) + (1 : Int64)) * v2)) hx hb hr hlocks (by decide +kernel) (by decide +kernel) hP hD hS ⟨_, rfl, (by unfold r_Reckoner_divide; rw [if_neg hc1, if_neg hc2, if_pos hc4, if_neg hc5, if_neg hc7, if_neg hc9]), (by unfold s_Reckoner_divide; rw [if_neg hc1])⟩ d_Reckoner_divide_132
      · show W _ _ _ _ _ _ _ _ _ _ _ _ _ _ _ (F0 _ 47 _ _)
        refine lv_lload_n hx hb d_Reckoner_divide_47 rfl (lv_at hl 2 rfl) ?_
        refine lv_ldc2 (v := (-9223372036854775808)) hx hb hown (htt _ k_1412) d_Reckoner_divide_48 ?_
        refine lv_lxor hx hb d_Reckoner_divide_51 ?_
        refine lv_lload_n hx hb d_Reckoner_divide_52 rfl (lv_at hl 3 rfl) ?_
        refine lv_ldc2 (v := (-9223372036854775808)) hx hb hown (htt _ k_1412) d_Reckoner_divide_53 ?_
        refine lv_lxor hx hb d_Reckoner_divide_56 ?_
        refine W.lcmp hx hb d_Reckoner_divide_57 ?_
        refine lv_if_lt (tgt := 65) hx hb d_Reckoner_divide_58 (by decide) (fun hc10 => ?_) (fun hc10 => ?_)
        · refine lv_lconst (v := 0) hx hb d_Reckoner_divide_65 (by decide) ?_
          refine lv_lstore (lv' := [(7, .long 0), (0, .ref (ad 3)), (1, .long v1), (3, .long v2), (5, .int v3), (6, .int v4)]) hx hb d_Reckoner_divide_66 hl (by decide) rfl (fun ls hl => ?_)
          refine lv_goto (tgt := 116) hx hb d_Reckoner_divide_68 (by decide) ?_
          refine lv_iload hx hb d_Reckoner_divide_116 (lv_at hl 5 rfl) ?_
          refine lv_if_eq (tgt := 130) hx hb d_Reckoner_divide_118 (by decide) (fun hc11 => ?_) (fun hc11 => ?_)
          · refine lv_lload hx hb d_Reckoner_divide_130 (lv_at hl 0 rfl) ?_
            show W _ _ _ _ _ _ _ _ _ _ _ _ _ _ _ (F0 _ 132 _ _)
            exact fin_l (g := g) (ws := Sw shC g ad S) (v := 0) hx hb hr hlocks (by decide +kernel) (by decide +kernel) hP hD hS ⟨_, rfl, (by unfold r_Reckoner_divide; rw [if_neg hc1, if_neg hc2, if_neg hc4, if_pos hc10, if_pos hc11]), (by unfold s_Reckoner_divide; rw [if_neg hc1])⟩ d_Reckoner_divide_132
          · refine lv_lload_n hx hb d_Reckoner_divide_121 rfl (lv_at hl 2 rfl) ?_
            show W _ _ _ _ _ _ _ _ _ _ _ _ _ _ _ (F0 _ 122 _ _)
            refine lv_lload hx hb d_Reckoner_divide_122 (lv_at hl 0 rfl) ?_
            refine lv_lload_n hx hb d_Reckoner_divide_124 rfl (lv_at hl 3 rfl) ?_
            refine lv_lmul hx hb d_Reckoner_divide_125 ?_
            refine lv_lsub hx hb d_Reckoner_divide_126 ?_
            refine lv_goto (tgt := 132) hx hb d_Reckoner_divide_127 (by decide) ?_
            exact fin_l (g := g) (ws := Sw shC g ad S) (v := v1 - ((0 : Int64) * v2)) hx hb hr hlocks (by decide +kernel) (by decide +kernel) hP hD hS ⟨_, rfl, (by unfold r_Reckoner_divide; rw [if_neg hc1, if_neg hc2, if_neg hc4, if_pos hc10, if_neg hc11]), (by unfold s_Reckoner_divide; rw [if_neg hc1])⟩ d_Reckoner_divide_132
        · refine lv_lconst (v := 1) hx hb d_Reckoner_divide_61 (by decide) ?_
          refine lv_goto (tgt := 66) hx hb d_Reckoner_divide_62 (by decide) ?_
          refine lv_lstore (lv' := [(7, .long 1), (0, .ref (ad 3)), (1, .long v1), (3, .long v2), (5, .int v3), (6, .int v4)]) hx hb d_Reckoner_divide_66 hl (by decide) rfl (fun ls hl => ?_)
          refine lv_goto (tgt := 116) hx hb d_Reckoner_divide_68 (by decide) ?_
          refine lv_iload hx hb d_Reckoner_divide_116 (lv_at hl 5 rfl) ?_
          refine lv_if_eq (tgt := 130) hx hb d_Reckoner_divide_118 (by decide) (fun hc12 => ?_) (fun hc12 => ?_)
          · show W _ _ _ _ _ _ _ _ _ _ _ _ _ _ _ (F0 _ 130 _ _)
            refine lv_lload hx hb d_Reckoner_divide_130 (lv_at hl 0 rfl) ?_
            exact fin_l (g := g) (ws := Sw shC g ad S) (v := 1) hx hb hr hlocks (by decide +kernel) (by decide +kernel) hP hD hS ⟨_, rfl, (by unfold r_Reckoner_divide; rw [if_neg hc1, if_neg hc2, if_neg hc4, if_neg hc10, if_pos hc12]), (by unfold s_Reckoner_divide; rw [if_neg hc1])⟩ d_Reckoner_divide_132
          · show W _ _ _ _ _ _ _ _ _ _ _ _ _ _ _ (F0 _ 121 _ _)
            refine lv_lload_n hx hb d_Reckoner_divide_121 rfl (lv_at hl 2 rfl) ?_
            refine lv_lload hx hb d_Reckoner_divide_122 (lv_at hl 0 rfl) ?_
            refine lv_lload_n hx hb d_Reckoner_divide_124 rfl (lv_at hl 3 rfl) ?_
            refine lv_lmul hx hb d_Reckoner_divide_125 ?_
            refine lv_lsub hx hb d_Reckoner_divide_126 ?_
            refine lv_goto (tgt := 132) hx hb d_Reckoner_divide_127 (by decide) ?_
            exact fin_l (g := g) (ws := Sw shC g ad S) (v := v1 - ((1 : Int64) * v2)) hx hb hr hlocks (by decide +kernel) (by decide +kernel) hP hD hS ⟨_, rfl, (by unfold r_Reckoner_divide; rw [if_neg hc1, if_neg hc2, if_neg hc4, if_neg hc10, if_neg hc12]), (by unfold s_Reckoner_divide; rw [if_neg hc1])⟩ d_Reckoner_divide_132
  · refine lv_aload_n hx hb d_Reckoner_divide_6 rfl (lv_at hl 0 rfl) ?_
    refine lv_aload_n hx hb d_Reckoner_divide_7 rfl (lv_at hl 0 rfl) ?_
    refine S_getI (h := shC) (C := "MacroMill$Reckoner") (T := F_Reckoner) hx hb htt in_Reckoner hown hK hP 3 12 rfl rfl rfl (by decide) (htt _ k_403) (fun _ h9 => h9) d_Reckoner_divide_8 ?_
    refine lv_if_ne (tgt := 21) hx hb d_Reckoner_divide_11 (by decide) (fun hc13 => ?_) (fun hc13 => ?_)
    · refine lv_iconst (v := 1) hx hb d_Reckoner_divide_21 (by decide) ?_
      refine lv_goto (tgt := 26) hx hb d_Reckoner_divide_22 (by decide) ?_
      refine S_put (h := shC) (C := "MacroMill$Reckoner") (T := F_Reckoner) (v := 1) hx hb htt in_Reckoner t_Reckoner t_Reckoner_ok n_Reckoner hown hK hP hD hS 3 12 rfl rfl rfl (by decide) (htt _ k_403) (fun _ h9 => h9) rfl rfl rfl d_Reckoner_divide_26 (fun H locs hP hD hS => ?_)
      refine lv_lconst (v := 0) hx hb d_Reckoner_divide_29 (by decide) ?_
      exact fin_l (g := g) (ws := Sw shC g ad (putI S 3 12 1)) (v := 0) hx hb hr hlocks (by decide +kernel) (by decide +kernel) hP hD hS ⟨_, rfl, (by unfold r_Reckoner_divide; rw [if_pos hc1]), (by unfold s_Reckoner_divide; rw [if_pos hc1, if_neg hc13])⟩ d_Reckoner_divide_30
    · refine lv_aload_n hx hb d_Reckoner_divide_14 rfl (lv_at hl 0 rfl) ?_
      refine S_getI (h := shC) (C := "MacroMill$Reckoner") (T := F_Reckoner) hx hb htt in_Reckoner hown hK hP 3 10 rfl rfl rfl (by decide) (htt _ k_401) (fun _ h9 => h9) d_Reckoner_divide_15 ?_
      refine lv_if_ne (tgt := 25) hx hb d_Reckoner_divide_18 (by decide) (fun hc14 => ?_) (fun hc14 => ?_)
      · refine lv_iconst (v := 0) hx hb d_Reckoner_divide_25 (by decide) ?_
        refine S_put (h := shC) (C := "MacroMill$Reckoner") (T := F_Reckoner) (v := 0) hx hb htt in_Reckoner t_Reckoner t_Reckoner_ok n_Reckoner hown hK hP hD hS 3 12 rfl rfl rfl (by decide) (htt _ k_403) (fun _ h9 => h9) rfl rfl rfl d_Reckoner_divide_26 (fun H locs hP hD hS => ?_)
        refine lv_lconst (v := 0) hx hb d_Reckoner_divide_29 (by decide) ?_
        show W _ _ _ _ _ _ _ _ _ _ _ _ _ _ _ (F0 _ 30 _ _)
        exact fin_l (g := g) (ws := Sw shC g ad (putI S 3 12 0)) (v := 0) hx hb hr hlocks (by decide +kernel) (by decide +kernel) hP hD hS ⟨_, rfl, (by unfold r_Reckoner_divide; rw [if_pos hc1]), (by unfold s_Reckoner_divide; rw [if_pos hc1, if_pos hc13, if_neg hc14])⟩ d_Reckoner_divide_30
      · refine lv_iconst (v := 1) hx hb d_Reckoner_divide_21 (by decide) ?_
        refine lv_goto (tgt := 26) hx hb d_Reckoner_divide_22 (by decide) ?_
        refine S_put (h := shC) (C := "MacroMill$Reckoner") (T := F_Reckoner) (v := 1) hx hb htt in_Reckoner t_Reckoner t_Reckoner_ok n_Reckoner hown hK hP hD hS 3 12 rfl rfl rfl (by decide) (htt _ k_403) (fun _ h9 => h9) rfl rfl rfl d_Reckoner_divide_26 (fun H locs hP hD hS => ?_)
        show W _ _ _ _ _ _ _ _ _ _ _ _ _ _ _ (F0 _ 29 _ _)
        refine lv_lconst (v := 0) hx hb d_Reckoner_divide_29 (by decide) ?_
        exact fin_l (g := g) (ws := Sw shC g ad (putI S 3 12 1)) (v := 0) hx hb hr hlocks (by decide +kernel) (by decide +kernel) hP hD hS ⟨_, rfl, (by unfold r_Reckoner_divide; rw [if_pos hc1]), (by unfold s_Reckoner_divide; rw [if_pos hc1, if_pos hc13, if_pos hc14])⟩ d_Reckoner_divide_30
def s_First_fail (S : sS) (v1 : Int32) : sS := (s_Outcome_fail S (v1) (S.1 5 4))
abbrev rm_a_First_fail : Room := { frames := 1, cells := 0, slots := 0, locals := 22 }
set_option maxHeartbeats 4000000 in
set_option maxRecDepth 100000 in
theorem a_First_fail (l : Launch) (g : gG) (sz : Nat) (ad : Nat → Nat) (S : sS) (v1 : Int32) : Cv l y_First_fail b_First_fail 2 rm_a_First_fail g [.ref (ad 4), .int v1] (Sw shC g ad S) sz (fun w => ∃ S' : sS, w = Sw shC g ad S' ∧ S' = s_First_fail S v1) := by
  refine startV (by decide) (Nat.le_of_ble_eq_true rfl) ?_
  intro p e s m below meth c A ls hx hb hr hml hlocks hmn hown htt hN hA hP hK hD hS hl
  have hown : s.vm.findClass "MacroMill$First" = some m.cls := hown
  have hl : lv_has ls 2 [(0, .ref (ad 4)), (1, .int v1)] := hl
  refine lv_aload_n hx hb d_First_fail_0 rfl (lv_at hl 0 rfl) ?_
  refine S_getR (h := shC) (C := "MacroMill$First") (T := F_First) hx hb htt in_First hown hK hP 4 0 rfl 2 rfl rfl (by decide) (htt _ k_570) (fun _ h9 => h9) d_First_fail_1 ?_
  refine lv_iload_n hx hb d_First_fail_4 rfl (lv_at hl 1 rfl) ?_
  refine lv_aload_n hx hb d_First_fail_5 rfl (lv_at hl 0 rfl) ?_
  refine S_getR (h := shC) (C := "MacroMill$First") (T := F_First) hx hb htt in_First hown hK hP 4 2 rfl 5 rfl rfl (by decide) (htt _ k_572) (fun _ h9 => h9) d_First_fail_6 ?_
  refine S_getI (h := shC) (C := "MacroMill$Input") (T := F_Input) hx hb htt in_Input hown hK hP 5 4 rfl rfl rfl (by decide) (htt _ k_534) (fun _ h9 => h9) d_First_fail_9 ?_
  refine go_vS (As := [.ref (ad 2), .int v1, .int (S.1 5 4)]) (g := g) (A := A) (h := shC) hP hK hD hS hA hN (fun hp => va_runV (As := [.int v1, .int (S.1 5 4)]) (rest := []) ⟨hx, hb, hml, hown, htt⟩ (a_Outcome_fail l g _ ad S (v1) (S.1 5 4)) ⟨(cb_L htt k_1163 k_264 k_1190 hd_Outcome_fail ⟨(by decide +kernel), (by decide +kernel)⟩), htt _ k_1161, htt _ k_1162⟩ ⟨hp.1, S_recv hK hP 2 rfl rfl, hp.2⟩ rfl rfl hl.1 rfl (lv_room (Nat.le_of_ble_eq_true rfl)) d_First_fail_12 ⟨(by decide +kernel), (by decide +kernel)⟩) (fun Sn H locs hw9 hP hD hS => ?_)
  obtain rfl := hw9
  refine W.widen (k := 0) (n := 0) (by decide +kernel) (by decide +kernel) ?_
  exact fin_v (g := g) (ws := Sw shC g ad (s_Outcome_fail S (v1) (S.1 5 4))) hx hb hr hlocks (by decide +kernel) (by decide +kernel) hP hD hS ⟨_, rfl, rfl⟩ d_First_fail_15
def s_First_giveByte (S : sS) (v1 : Int32) : sS := if (32768 : Int32) ≤ (S.1 4 6) then ((putI S 4 6 ((S.1 4 6) + (1 : Int32)))) else ((putI (putA S 11 (S.1 4 6 : Int32).toNatClampNeg (vp_nar .byte v1.toInt8.toInt32)) 4 6 ((S.1 4 6) + (1 : Int32))))
abbrev rm_a_First_giveByte : Room := { frames := 0, cells := 0, slots := 0, locals := 0 }
set_option maxHeartbeats 4000000 in
set_option maxRecDepth 100000 in
theorem a_First_giveByte (l : Launch) (g : gG) (sz : Nat) (ad : Nat → Nat) (S : sS) (v1 : Int32) (hb0 : ¬ ((32768 : Int32) ≤ (S.1 4 6)) → vp_in (S.1 4 6) 32768) : Cv l y_First_giveByte b_First_giveByte 2 rm_a_First_giveByte g [.ref (ad 4), .int v1] (Sw shC g ad S) sz (fun w => ∃ S' : sS, w = Sw shC g ad S' ∧ S' = s_First_giveByte S v1) := by
  refine startV (by decide) (Nat.le_of_ble_eq_true rfl) ?_
  intro p e s m below meth c A ls hx hb hr hml hlocks hmn hown htt hN hA hP hK hD hS hl
  have hown : s.vm.findClass "MacroMill$First" = some m.cls := hown
  have hl : lv_has ls 2 [(0, .ref (ad 4)), (1, .int v1)] := hl
  refine lv_aload_n hx hb d_First_giveByte_0 rfl (lv_at hl 0 rfl) ?_
  refine S_getI (h := shC) (C := "MacroMill$First") (T := F_First) hx hb htt in_First hown hK hP 4 6 rfl rfl rfl (by decide) (htt _ k_576) (fun _ h9 => h9) d_First_giveByte_1 ?_
  refine lv_ldc (v := 32768) hx hb hown (htt _ k_520) d_First_giveByte_4 ?_
  refine lv_icmp_ge (tgt := 20) hx hb d_First_giveByte_6 (by decide) (fun hc1 => ?_) (fun hc1 => ?_)
  · refine lv_aload_n hx hb d_First_giveByte_20 rfl (lv_at hl 0 rfl) ?_
    refine lv_dup hx hb d_First_giveByte_21 rfl ?_
    refine S_getI (h := shC) (C := "MacroMill$First") (T := F_First) hx hb htt in_First hown hK hP 4 6 rfl rfl rfl (by decide) (htt _ k_576) (fun _ h9 => h9) d_First_giveByte_22 ?_
    refine lv_iconst (v := 1) hx hb d_First_giveByte_25 (by decide) ?_
    refine lv_iadd hx hb d_First_giveByte_26 ?_
    refine S_put (h := shC) (C := "MacroMill$First") (T := F_First) (v := (S.1 4 6) + (1 : Int32)) hx hb htt in_First t_First t_First_ok n_First hown hK hP hD hS 4 6 rfl rfl rfl (by decide) (htt _ k_576) (fun _ h9 => h9) rfl rfl rfl d_First_giveByte_27 (fun H locs hP hD hS => ?_)
    exact fin_v (g := g) (ws := Sw shC g ad (putI S 4 6 ((S.1 4 6) + (1 : Int32)))) hx hb hr hlocks (by decide +kernel) (by decide +kernel) hP hD hS ⟨_, rfl, (by unfold s_First_giveByte; rw [if_pos hc1])⟩ d_First_giveByte_30
  · refine lv_aload_n hx hb d_First_giveByte_9 rfl (lv_at hl 0 rfl) ?_
    refine S_getR (h := shC) (C := "MacroMill$First") (T := F_First) hx hb htt in_First hown hK hP 4 5 rfl 24 rfl rfl (by decide) (htt _ k_575) (fun _ h9 => h9) d_First_giveByte_10 ?_
    refine lv_aload_n hx hb d_First_giveByte_13 rfl (lv_at hl 0 rfl) ?_
    refine S_getI (h := shC) (C := "MacroMill$First") (T := F_First) hx hb htt in_First hown hK hP 4 6 rfl rfl rfl (by decide) (htt _ k_576) (fun _ h9 => h9) d_First_giveByte_14 ?_
    refine lv_iload_n hx hb d_First_giveByte_17 rfl (lv_at hl 1 rfl) ?_
    refine lv_i2b (v := v1.toInt8.toInt32) hx hb d_First_giveByte_18 rfl ?_
    refine S_bast (h := shC) (i := S.1 4 6) (v := v1.toInt8.toInt32) hx hb hK hP hD hS 11 rfl (hb0 hc1) d_First_giveByte_19 (fun H locs hP hD hS => ?_)
    refine lv_aload_n hx hb d_First_giveByte_20 rfl (lv_at hl 0 rfl) ?_
    show W _ _ _ _ _ _ _ _ _ _ _ _ _ _ _ (F0 _ 21 _ _)
    refine lv_dup hx hb d_First_giveByte_21 rfl ?_
    refine S_getI (h := shC) (C := "MacroMill$First") (T := F_First) hx hb htt in_First hown hK hP 4 6 rfl rfl rfl (by decide) (htt _ k_576) (fun _ h9 => h9) d_First_giveByte_22 ?_
    refine toI (y := S.1 4 6) rfl ?_
    refine lv_iconst (v := 1) hx hb d_First_giveByte_25 (by decide) ?_
    refine lv_iadd hx hb d_First_giveByte_26 ?_
    refine S_put (h := shC) (C := "MacroMill$First") (T := F_First) (v := (S.1 4 6) + (1 : Int32)) hx hb htt in_First t_First t_First_ok n_First hown hK hP hD hS 4 6 rfl rfl rfl (by decide) (htt _ k_576) (fun _ h9 => h9) rfl rfl rfl d_First_giveByte_27 (fun H locs hP hD hS => ?_)
    exact fin_v (g := g) (ws := Sw shC g ad (putI (putA S 11 (S.1 4 6 : Int32).toNatClampNeg (vp_nar .byte v1.toInt8.toInt32)) 4 6 ((S.1 4 6) + (1 : Int32)))) hx hb hr hlocks (by decide +kernel) (by decide +kernel) hP hD hS ⟨_, rfl, (by unfold s_First_giveByte; rw [if_neg hc1])⟩ d_First_giveByte_30
def r_First_isOperatorOfTwo (S : sS) (v1 : Int32) (v2 : Int32) : Int32 := if v2 = (61 : Int32) then (if v1 = (61 : Int32) then 1 else (if v1 = (33 : Int32) then 1 else (if v1 = (60 : Int32) then 1 else (if v1 = (62 : Int32) then 1 else 0)))) else (if v1 = v2 then (if v1 = (124 : Int32) then 1 else (if v1 = (38 : Int32) then 1 else (if v1 = (60 : Int32) then 1 else (if v1 = (62 : Int32) then 1 else 0)))) else 0)
abbrev rm_a_First_isOperatorOfTwo : Room := { frames := 0, cells := 0, slots := 0, locals := 0 }
set_option maxHeartbeats 4000000 in
set_option maxRecDepth 100000 in
theorem a_First_isOperatorOfTwo (l : Launch) (g : gG) (sz : Nat) (ad : Nat → Nat) (S : sS) (v1 : Int32) (v2 : Int32) : Cz l y_First_isOperatorOfTwo b_First_isOperatorOfTwo 2 rm_a_First_isOperatorOfTwo g [.int v1, .int v2] (Sw shC g ad S) sz (fun r w => ∃ S' : sS, w = Sw shC g ad S' ∧ r = r_First_isOperatorOfTwo S v1 v2 ∧ S' = S) := by
  refine startZ (by decide) (Nat.le_of_ble_eq_true rfl) ?_
  intro p e s m below meth c A ls hx hb hr hml hlocks hmn hown htt hN hA hP hK hD hS hl
  have hown : s.vm.findClass "MacroMill$First" = some m.cls := hown
  have hl : lv_has ls 2 [(0, .int v1), (1, .int v2)] := hl
  refine lv_iload_n hx hb d_First_isOperatorOfTwo_0 rfl (lv_at hl 1 rfl) ?_
  refine lv_bipush (v := 61) hx hb d_First_isOperatorOfTwo_1 (by decide) ?_
  refine lv_icmp_ne (tgt := 36) hx hb d_First_isOperatorOfTwo_3 (by decide) (fun hc1 => ?_) (fun hc1 => ?_)
  · refine lv_iload_n hx hb d_First_isOperatorOfTwo_36 rfl (lv_at hl 0 rfl) ?_
    refine lv_iload_n hx hb d_First_isOperatorOfTwo_37 rfl (lv_at hl 1 rfl) ?_
    refine lv_icmp_ne (tgt := 69) hx hb d_First_isOperatorOfTwo_38 (by decide) (fun hc2 => ?_) (fun hc2 => ?_)
    · refine lv_iconst (v := 0) hx hb d_First_isOperatorOfTwo_69 (by decide) ?_
      exact fin_z (g := g) (ws := Sw shC g ad S) (v := 0) hx hb hr hlocks rfl (by decide +kernel) (by decide +kernel) hP hD hS ⟨_, rfl, (by unfold r_First_isOperatorOfTwo; rw [if_neg hc1, if_neg hc2]), rfl⟩ d_First_isOperatorOfTwo_70
    · refine lv_iload_n hx hb d_First_isOperatorOfTwo_41 rfl (lv_at hl 0 rfl) ?_
      refine lv_bipush (v := 124) hx hb d_First_isOperatorOfTwo_42 (by decide) ?_
      refine lv_icmp_eq (tgt := 65) hx hb d_First_isOperatorOfTwo_44 (by decide) (fun hc3 => ?_) (fun hc3 => ?_)
      · refine lv_iconst (v := 1) hx hb d_First_isOperatorOfTwo_65 (by decide) ?_
        refine lv_goto (tgt := 70) hx hb d_First_isOperatorOfTwo_66 (by decide) ?_
        exact fin_z (g := g) (ws := Sw shC g ad S) (v := 1) hx hb hr hlocks rfl (by decide +kernel) (by decide +kernel) hP hD hS ⟨_, rfl, (by unfold r_First_isOperatorOfTwo; rw [if_neg hc1, if_pos hc2, if_pos hc3]), rfl⟩ d_First_isOperatorOfTwo_70
      · refine lv_iload_n hx hb d_First_isOperatorOfTwo_47 rfl (lv_at hl 0 rfl) ?_
        refine lv_bipush (v := 38) hx hb d_First_isOperatorOfTwo_48 (by decide) ?_
        refine lv_icmp_eq (tgt := 65) hx hb d_First_isOperatorOfTwo_50 (by decide) (fun hc4 => ?_) (fun hc4 => ?_)
        · refine lv_iconst (v := 1) hx hb d_First_isOperatorOfTwo_65 (by decide) ?_
          refine lv_goto (tgt := 70) hx hb d_First_isOperatorOfTwo_66 (by decide) ?_
          exact fin_z (g := g) (ws := Sw shC g ad S) (v := 1) hx hb hr hlocks rfl (by decide +kernel) (by decide +kernel) hP hD hS ⟨_, rfl, (by unfold r_First_isOperatorOfTwo; rw [if_neg hc1, if_pos hc2, if_neg hc3, if_pos hc4]), rfl⟩ d_First_isOperatorOfTwo_70
        · refine lv_iload_n hx hb d_First_isOperatorOfTwo_53 rfl (lv_at hl 0 rfl) ?_
          refine lv_bipush (v := 60) hx hb d_First_isOperatorOfTwo_54 (by decide) ?_
          refine lv_icmp_eq (tgt := 65) hx hb d_First_isOperatorOfTwo_56 (by decide) (fun hc5 => ?_) (fun hc5 => ?_)
          · refine lv_iconst (v := 1) hx hb d_First_isOperatorOfTwo_65 (by decide) ?_
            show W _ _ _ _ _ _ _ _ _ _ _ _ _ _ _ (F0 _ 66 _ _)
            refine lv_goto (tgt := 70) hx hb d_First_isOperatorOfTwo_66 (by decide) ?_
            exact fin_z (g := g) (ws := Sw shC g ad S) (v := 1) hx hb hr hlocks rfl (by decide +kernel) (by decide +kernel) hP hD hS ⟨_, rfl, (by unfold r_First_isOperatorOfTwo; rw [if_neg hc1, if_pos hc2, if_neg hc3, if_neg hc4, if_pos hc5]), rfl⟩ d_First_isOperatorOfTwo_70
          · refine lv_iload_n hx hb d_First_isOperatorOfTwo_59 rfl (lv_at hl 0 rfl) ?_
            show W _ _ _ _ _ _ _ _ _ _ _ _ _ _ _ (F0 _ 60 _ _)
            refine lv_bipush (v := 62) hx hb d_First_isOperatorOfTwo_60 (by decide) ?_
            refine lv_icmp_ne (tgt := 69) hx hb d_First_isOperatorOfTwo_62 (by decide) (fun hc6 => ?_) (fun hc6 => ?_)
            · refine lv_iconst (v := 0) hx hb d_First_isOperatorOfTwo_69 (by decide) ?_
              exact fin_z (g := g) (ws := Sw shC g ad S) (v := 0) hx hb hr hlocks rfl (by decide +kernel) (by decide +kernel) hP hD hS ⟨_, rfl, (by unfold r_First_isOperatorOfTwo; rw [if_neg hc1, if_pos hc2, if_neg hc3, if_neg hc4, if_neg hc5, if_neg hc6]), rfl⟩ d_First_isOperatorOfTwo_70
            · refine lv_iconst (v := 1) hx hb d_First_isOperatorOfTwo_65 (by decide) ?_
              refine lv_goto (tgt := 70) hx hb d_First_isOperatorOfTwo_66 (by decide) ?_
              exact fin_z (g := g) (ws := Sw shC g ad S) (v := 1) hx hb hr hlocks rfl (by decide +kernel) (by decide +kernel) hP hD hS ⟨_, rfl, (by unfold r_First_isOperatorOfTwo; rw [if_neg hc1, if_pos hc2, if_neg hc3, if_neg hc4, if_neg hc5, if_pos hc6]), rfl⟩ d_First_isOperatorOfTwo_70
  · refine lv_iload_n hx hb d_First_isOperatorOfTwo_6 rfl (lv_at hl 0 rfl) ?_
    refine lv_bipush (v := 61) hx hb d_First_isOperatorOfTwo_7 (by decide) ?_
    refine lv_icmp_eq (tgt := 30) hx hb d_First_isOperatorOfTwo_9 (by decide) (fun hc7 => ?_) (fun hc7 => ?_)
    · refine lv_iconst (v := 1) hx hb d_First_isOperatorOfTwo_30 (by decide) ?_
      refine lv_goto (tgt := 35) hx hb d_First_isOperatorOfTwo_31 (by decide) ?_
      exact fin_z (g := g) (ws := Sw shC g ad S) (v := 1) hx hb hr hlocks rfl (by decide +kernel) (by decide +kernel) hP hD hS ⟨_, rfl, (by unfold r_First_isOperatorOfTwo; rw [if_pos hc1, if_pos hc7]), rfl⟩ d_First_isOperatorOfTwo_35
    · refine lv_iload_n hx hb d_First_isOperatorOfTwo_12 rfl (lv_at hl 0 rfl) ?_
      refine lv_bipush (v := 33) hx hb d_First_isOperatorOfTwo_13 (by decide) ?_
      refine lv_icmp_eq (tgt := 30) hx hb d_First_isOperatorOfTwo_15 (by decide) (fun hc8 => ?_) (fun hc8 => ?_)
      · refine lv_iconst (v := 1) hx hb d_First_isOperatorOfTwo_30 (by decide) ?_
        refine lv_goto (tgt := 35) hx hb d_First_isOperatorOfTwo_31 (by decide) ?_
        exact fin_z (g := g) (ws := Sw shC g ad S) (v := 1) hx hb hr hlocks rfl (by decide +kernel) (by decide +kernel) hP hD hS ⟨_, rfl, (by unfold r_First_isOperatorOfTwo; rw [if_pos hc1, if_neg hc7, if_pos hc8]), rfl⟩ d_First_isOperatorOfTwo_35
      · refine lv_iload_n hx hb d_First_isOperatorOfTwo_18 rfl (lv_at hl 0 rfl) ?_
        refine lv_bipush (v := 60) hx hb d_First_isOperatorOfTwo_19 (by decide) ?_
        refine lv_icmp_eq (tgt := 30) hx hb d_First_isOperatorOfTwo_21 (by decide) (fun hc9 => ?_) (fun hc9 => ?_)
        · refine lv_iconst (v := 1) hx hb d_First_isOperatorOfTwo_30 (by decide) ?_
          refine lv_goto (tgt := 35) hx hb d_First_isOperatorOfTwo_31 (by decide) ?_
          exact fin_z (g := g) (ws := Sw shC g ad S) (v := 1) hx hb hr hlocks rfl (by decide +kernel) (by decide +kernel) hP hD hS ⟨_, rfl, (by unfold r_First_isOperatorOfTwo; rw [if_pos hc1, if_neg hc7, if_neg hc8, if_pos hc9]), rfl⟩ d_First_isOperatorOfTwo_35
        · refine lv_iload_n hx hb d_First_isOperatorOfTwo_24 rfl (lv_at hl 0 rfl) ?_
          refine lv_bipush (v := 62) hx hb d_First_isOperatorOfTwo_25 (by decide) ?_
          refine lv_icmp_ne (tgt := 34) hx hb d_First_isOperatorOfTwo_27 (by decide) (fun hc10 => ?_) (fun hc10 => ?_)
          · refine lv_iconst (v := 0) hx hb d_First_isOperatorOfTwo_34 (by decide) ?_
            show W _ _ _ _ _ _ _ _ _ _ _ _ _ _ _ (F0 _ 35 _ _)
            exact fin_z (g := g) (ws := Sw shC g ad S) (v := 0) hx hb hr hlocks rfl (by decide +kernel) (by decide +kernel) hP hD hS ⟨_, rfl, (by unfold r_First_isOperatorOfTwo; rw [if_pos hc1, if_neg hc7, if_neg hc8, if_neg hc9, if_neg hc10]), rfl⟩ d_First_isOperatorOfTwo_35
          · refine lv_iconst (v := 1) hx hb d_First_isOperatorOfTwo_30 (by decide) ?_
            show W _ _ _ _ _ _ _ _ _ _ _ _ _ _ _ (F0 _ 31 _ _)
            refine lv_goto (tgt := 35) hx hb d_First_isOperatorOfTwo_31 (by decide) ?_
            exact fin_z (g := g) (ws := Sw shC g ad S) (v := 1) hx hb hr hlocks rfl (by decide +kernel) (by decide +kernel) hP hD hS ⟨_, rfl, (by unfold r_First_isOperatorOfTwo; rw [if_pos hc1, if_neg hc7, if_neg hc8, if_neg hc9, if_pos hc10]), rfl⟩ d_First_isOperatorOfTwo_35
def s_First_setCurrent (S : sS) (v1 : Int32) : sS := if v1 ≤ (9 : Int32) then (if (0 : Int32) ≤ v1 then ((putI S 4 14 v1)) else ((putI S 4 14 (-1)))) else ((s_First_fail S (36 : Int32)))
abbrev rm_a_First_setCurrent : Room := { frames := 2, cells := 0, slots := 0, locals := 43 }
set_option maxHeartbeats 4000000 in
set_option maxRecDepth 100000 in
theorem a_First_setCurrent (l : Launch) (g : gG) (sz : Nat) (ad : Nat → Nat) (S : sS) (v1 : Int32) : Cv l y_First_setCurrent b_First_setCurrent 2 rm_a_First_setCurrent g [.ref (ad 4), .int v1] (Sw shC g ad S) sz (fun w => ∃ S' : sS, w = Sw shC g ad S' ∧ S' = s_First_setCurrent S v1) := by
  refine startV (by decide) (Nat.le_of_ble_eq_true rfl) ?_
  intro p e s m below meth c A ls hx hb hr hml hlocks hmn hown htt hN hA hP hK hD hS hl
  have hown : s.vm.findClass "MacroMill$First" = some m.cls := hown
  have hl : lv_has ls 2 [(0, .ref (ad 4)), (1, .int v1)] := hl
  refine lv_iload_n hx hb d_First_setCurrent_0 rfl (lv_at hl 1 rfl) ?_
  refine lv_bipush (v := 9) hx hb d_First_setCurrent_1 (by decide) ?_
  refine lv_icmp_le (tgt := 13) hx hb d_First_setCurrent_3 (by decide) (fun hc1 => ?_) (fun hc1 => ?_)
  · refine lv_aload_n hx hb d_First_setCurrent_13 rfl (lv_at hl 0 rfl) ?_
    refine lv_iload_n hx hb d_First_setCurrent_14 rfl (lv_at hl 1 rfl) ?_
    refine lv_if_ge (tgt := 22) hx hb d_First_setCurrent_15 (by decide) (fun hc2 => ?_) (fun hc2 => ?_)
    · refine lv_iload_n hx hb d_First_setCurrent_22 rfl (lv_at hl 1 rfl) ?_
      refine S_put (h := shC) (C := "MacroMill$First") (T := F_First) (v := v1) hx hb htt in_First t_First t_First_ok n_First hown hK hP hD hS 4 14 rfl rfl rfl (by decide) (htt _ k_584) (fun _ h9 => h9) rfl rfl rfl d_First_setCurrent_23 (fun H locs hP hD hS => ?_)
      exact fin_v (g := g) (ws := Sw shC g ad (putI S 4 14 v1)) hx hb hr hlocks (by decide +kernel) (by decide +kernel) hP hD hS ⟨_, rfl, (by unfold s_First_setCurrent; rw [if_pos hc1, if_pos hc2])⟩ d_First_setCurrent_26
    · refine lv_iconst (v := (-1)) hx hb d_First_setCurrent_18 (by decide) ?_
      refine lv_goto (tgt := 23) hx hb d_First_setCurrent_19 (by decide) ?_
      refine S_put (h := shC) (C := "MacroMill$First") (T := F_First) (v := (-1)) hx hb htt in_First t_First t_First_ok n_First hown hK hP hD hS 4 14 rfl rfl rfl (by decide) (htt _ k_584) (fun _ h9 => h9) rfl rfl rfl d_First_setCurrent_23 (fun H locs hP hD hS => ?_)
      exact fin_v (g := g) (ws := Sw shC g ad (putI S 4 14 (-1))) hx hb hr hlocks (by decide +kernel) (by decide +kernel) hP hD hS ⟨_, rfl, (by unfold s_First_setCurrent; rw [if_pos hc1, if_neg hc2])⟩ d_First_setCurrent_26
  · refine lv_aload_n hx hb d_First_setCurrent_6 rfl (lv_at hl 0 rfl) ?_
    refine lv_bipush (v := 36) hx hb d_First_setCurrent_7 (by decide) ?_
    refine go_vS (As := [.ref (ad 4), .int 36]) (g := g) (A := A) (h := shC) hP hK hD hS hA hN (fun hp => va_runV (As := [.int 36]) (rest := []) ⟨hx, hb, hml, hown, htt⟩ (a_First_fail l g _ ad S (36 : Int32)) ⟨(cb_L htt k_1189 k_266 k_1186 hd_First_fail ⟨(by decide +kernel), (by decide +kernel)⟩), htt _ k_1188, htt _ k_10⟩ ⟨hp.1, S_recv hK hP 4 rfl rfl, hp.2⟩ rfl rfl hl.1 rfl (lv_room (Nat.le_of_ble_eq_true rfl)) d_First_setCurrent_9 ⟨(by decide +kernel), (by decide +kernel)⟩) (fun Sn H locs hw9 hP hD hS => ?_)
    obtain rfl := hw9
    refine W.widen (k := 0) (n := 0) (by decide +kernel) (by decide +kernel) ?_
    exact fin_v (g := g) (ws := Sw shC g ad (s_First_fail S (36 : Int32))) hx hb hr hlocks (by decide +kernel) (by decide +kernel) hP hD hS ⟨_, rfl, (by unfold s_First_setCurrent; rw [if_neg hc1])⟩ d_First_setCurrent_12
def r_First_takePlace (S : sS) : Int32 := if (S.1 4 11) < (0 : Int32) then (((S.1 4 12) + (1 : Int32)) - (1 : Int32)) else (S.1 4 11)
def s_First_takePlace (S : sS) : sS := if (S.1 4 11) < (0 : Int32) then ((putI (putI S 4 13 ((S.1 4 13) + (1 : Int32))) 4 12 ((S.1 4 12) + (1 : Int32)))) else ((putI (putI S 4 13 ((S.1 4 13) + (1 : Int32))) 4 11 ((putI S 4 13 ((S.1 4 13) + (1 : Int32))).2.1 13 (S.1 4 11 : Int32).toNatClampNeg)))
abbrev rm_a_First_takePlace : Room := { frames := 0, cells := 0, slots := 0, locals := 0 }
set_option maxHeartbeats 4000000 in
set_option maxRecDepth 100000 in
theorem a_First_takePlace (l : Launch) (g : gG) (sz : Nat) (ad : Nat → Nat) (S : sS) (hb0 : ¬ ((S.1 4 11) < (0 : Int32)) → vp_in (S.1 4 11) 32768) : Ci l y_First_takePlace b_First_takePlace 2 rm_a_First_takePlace g [.ref (ad 4)] (Sw shC g ad S) sz (fun r w => ∃ S' : sS, w = Sw shC g ad S' ∧ r = r_First_takePlace S ∧ S' = s_First_takePlace S) := by
  refine startI (by decide) (Nat.le_of_ble_eq_true rfl) ?_
  intro p e s m below meth c A ls hx hb hr hml hlocks hmn hown htt hN hA hP hK hD hS hl
  have hown : s.vm.findClass "MacroMill$First" = some m.cls := hown
  have hl : lv_has ls 2 [(0, .ref (ad 4))] := hl
  refine lv_aload_n hx hb d_First_takePlace_0 rfl (lv_at hl 0 rfl) ?_
  refine lv_dup hx hb d_First_takePlace_1 rfl ?_
  refine S_getI (h := shC) (C := "MacroMill$First") (T := F_First) hx hb htt in_First hown hK hP 4 13 rfl rfl rfl (by decide) (htt _ k_583) (fun _ h9 => h9) d_First_takePlace_2 ?_
  refine lv_iconst (v := 1) hx hb d_First_takePlace_5 (by decide) ?_
  refine lv_iadd hx hb d_First_takePlace_6 ?_
  refine S_put (h := shC) (C := "MacroMill$First") (T := F_First) (v := (S.1 4 13) + (1 : Int32)) hx hb htt in_First t_First t_First_ok n_First hown hK hP hD hS 4 13 rfl rfl rfl (by decide) (htt _ k_583) (fun _ h9 => h9) rfl rfl rfl d_First_takePlace_7 (fun H locs hP hD hS => ?_)
  refine lv_aload_n hx hb d_First_takePlace_10 rfl (lv_at hl 0 rfl) ?_
  refine S_getI (h := shC) (C := "MacroMill$First") (T := F_First) hx hb htt in_First hown hK hP 4 11 rfl rfl rfl (by decide) (htt _ k_581) (fun _ h9 => h9) d_First_takePlace_11 ?_
  refine toI (y := S.1 4 11) rfl ?_
  refine lv_istore_n (lv' := [(1, .int (S.1 4 11)), (0, .ref (ad 4))]) hx hb d_First_takePlace_14 rfl hl (by decide) rfl (fun ls hl => ?_)
  refine lv_iload_n hx hb d_First_takePlace_15 rfl (lv_at hl 0 rfl) ?_
  refine lv_if_lt (tgt := 31) hx hb d_First_takePlace_16 (by decide) (fun hc1 => ?_) (fun hc1 => ?_)
  · refine lv_aload_n hx hb d_First_takePlace_31 rfl (lv_at hl 1 rfl) ?_
    show W _ _ _ _ _ _ _ _ _ _ _ _ _ _ _ (F0 _ 32 _ _)
    refine lv_dup hx hb d_First_takePlace_32 rfl ?_
    refine S_getI (h := shC) (C := "MacroMill$First") (T := F_First) hx hb htt in_First hown hK hP 4 12 rfl rfl rfl (by decide) (htt _ k_582) (fun _ h9 => h9) d_First_takePlace_33 ?_
    refine toI (y := S.1 4 12) rfl ?_
    refine lv_iconst (v := 1) hx hb d_First_takePlace_36 (by decide) ?_
    refine lv_iadd hx hb d_First_takePlace_37 ?_
    refine S_put (h := shC) (C := "MacroMill$First") (T := F_First) (v := (S.1 4 12) + (1 : Int32)) hx hb htt in_First t_First t_First_ok n_First hown hK hP hD hS 4 12 rfl rfl rfl (by decide) (htt _ k_582) (fun _ h9 => h9) rfl rfl rfl d_First_takePlace_38 (fun H locs hP hD hS => ?_)
    refine lv_aload_n hx hb d_First_takePlace_41 rfl (lv_at hl 1 rfl) ?_
    refine S_getI (h := shC) (C := "MacroMill$First") (T := F_First) hx hb htt in_First hown hK hP 4 12 rfl rfl rfl (by decide) (htt _ k_582) (fun _ h9 => h9) d_First_takePlace_42 ?_
    refine toI (y := (S.1 4 12) + (1 : Int32)) rfl ?_
    refine lv_iconst (v := 1) hx hb d_First_takePlace_45 (by decide) ?_
    refine lv_isub hx hb d_First_takePlace_46 ?_
    exact fin_i (g := g) (ws := Sw shC g ad (putI (putI S 4 13 ((S.1 4 13) + (1 : Int32))) 4 12 ((S.1 4 12) + (1 : Int32)))) (v := ((S.1 4 12) + (1 : Int32)) - (1 : Int32)) hx hb hr hlocks (by decide +kernel) (by decide +kernel) hP hD hS ⟨_, rfl, (by unfold r_First_takePlace; rw [if_pos hc1]), (by unfold s_First_takePlace; rw [if_pos hc1])⟩ d_First_takePlace_47
  · refine lv_aload_n hx hb d_First_takePlace_19 rfl (lv_at hl 1 rfl) ?_
    show W _ _ _ _ _ _ _ _ _ _ _ _ _ _ _ (F0 _ 20 _ _)
    refine lv_aload_n hx hb d_First_takePlace_20 rfl (lv_at hl 1 rfl) ?_
    refine S_getR (h := shC) (C := "MacroMill$First") (T := F_First) hx hb htt in_First hown hK hP 4 8 rfl 26 rfl rfl (by decide) (htt _ k_578) (fun _ h9 => h9) d_First_takePlace_21 ?_
    refine lv_iload_n hx hb d_First_takePlace_24 rfl (lv_at hl 0 rfl) ?_
    refine S_iald (h := shC) (i := S.1 4 11) hx hb hK hP 13 rfl (hb0 hc1) d_First_takePlace_25 ?_
    refine S_put (h := shC) (C := "MacroMill$First") (T := F_First) (v := (putI S 4 13 ((S.1 4 13) + (1 : Int32))).2.1 13 (S.1 4 11 : Int32).toNatClampNeg) hx hb htt in_First t_First t_First_ok n_First hown hK hP hD hS 4 11 rfl rfl rfl (by decide) (htt _ k_581) (fun _ h9 => h9) rfl rfl rfl d_First_takePlace_26 (fun H locs hP hD hS => ?_)
    refine lv_iload_n hx hb d_First_takePlace_29 rfl (lv_at hl 0 rfl) ?_
    exact fin_i (g := g) (ws := Sw shC g ad (putI (putI S 4 13 ((S.1 4 13) + (1 : Int32))) 4 11 ((putI S 4 13 ((S.1 4 13) + (1 : Int32))).2.1 13 (S.1 4 11 : Int32).toNatClampNeg))) (v := S.1 4 11) hx hb hr hlocks (by decide +kernel) (by decide +kernel) hP hD hS ⟨_, rfl, (by unfold r_First_takePlace; rw [if_neg hc1]), (by unfold s_First_takePlace; rw [if_neg hc1])⟩ d_First_takePlace_30
def s_First_join (S : sS) (v1 : Int32) (v2 : Int32) (v3 : Int32) : sS := if (0 : Int32) ≤ (S.2.1 14 (v1 : Int32).toNatClampNeg) then ((putA (putA S 13 (S.2.1 15 (v1 : Int32).toNatClampNeg : Int32).toNatClampNeg v2) 15 (v1 : Int32).toNatClampNeg v3)) else ((putA (putA S 14 (v1 : Int32).toNatClampNeg v2) 15 (v1 : Int32).toNatClampNeg v3))
abbrev rm_a_First_join : Room := { frames := 0, cells := 0, slots := 0, locals := 0 }
set_option maxHeartbeats 4000000 in
set_option maxRecDepth 100000 in
theorem a_First_join (l : Launch) (g : gG) (sz : Nat) (ad : Nat → Nat) (S : sS) (v1 : Int32) (v2 : Int32) (v3 : Int32) (hb0 : vp_in (v1) 10) (hb1 : (0 : Int32) ≤ (S.2.1 14 (v1 : Int32).toNatClampNeg) → vp_in (v1) 10) (hb2 : (0 : Int32) ≤ (S.2.1 14 (v1 : Int32).toNatClampNeg) → vp_in (S.2.1 15 (v1 : Int32).toNatClampNeg) 32768) (hb3 : ¬ ((0 : Int32) ≤ (S.2.1 14 (v1 : Int32).toNatClampNeg)) → vp_in (v1) 10) : Cv l y_First_join b_First_join 4 rm_a_First_join g [.ref (ad 4), .int v1, .int v2, .int v3] (Sw shC g ad S) sz (fun w => ∃ S' : sS, w = Sw shC g ad S' ∧ S' = s_First_join S v1 v2 v3) := by
  refine startV (by decide) (Nat.le_of_ble_eq_true rfl) ?_
  intro p e s m below meth c A ls hx hb hr hml hlocks hmn hown htt hN hA hP hK hD hS hl
  have hown : s.vm.findClass "MacroMill$First" = some m.cls := hown
  have hl : lv_has ls 4 [(0, .ref (ad 4)), (1, .int v1), (2, .int v2), (3, .int v3)] := hl
  refine lv_aload_n hx hb d_First_join_0 rfl (lv_at hl 0 rfl) ?_
  refine S_getR (h := shC) (C := "MacroMill$First") (T := F_First) hx hb htt in_First hown hK hP 4 9 rfl 27 rfl rfl (by decide) (htt _ k_579) (fun _ h9 => h9) d_First_join_1 ?_
  refine lv_iload_n hx hb d_First_join_4 rfl (lv_at hl 1 rfl) ?_
  refine S_iald (h := shC) (i := v1) hx hb hK hP 14 rfl hb0 d_First_join_5 ?_
  refine lv_if_ge (tgt := 19) hx hb d_First_join_6 (by decide) (fun hc1 => ?_) (fun hc1 => ?_)
  · refine lv_aload_n hx hb d_First_join_19 rfl (lv_at hl 0 rfl) ?_
    refine S_getR (h := shC) (C := "MacroMill$First") (T := F_First) hx hb htt in_First hown hK hP 4 8 rfl 26 rfl rfl (by decide) (htt _ k_578) (fun _ h9 => h9) d_First_join_20 ?_
    refine lv_aload_n hx hb d_First_join_23 rfl (lv_at hl 0 rfl) ?_
    refine S_getR (h := shC) (C := "MacroMill$First") (T := F_First) hx hb htt in_First hown hK hP 4 10 rfl 28 rfl rfl (by decide) (htt _ k_580) (fun _ h9 => h9) d_First_join_24 ?_
    refine lv_iload_n hx hb d_First_join_27 rfl (lv_at hl 1 rfl) ?_
    refine S_iald (h := shC) (i := v1) hx hb hK hP 15 rfl (hb1 hc1) d_First_join_28 ?_
    refine lv_iload_n hx hb d_First_join_29 rfl (lv_at hl 2 rfl) ?_
    show W _ _ _ _ _ _ _ _ _ _ _ _ _ _ _ (F0 _ 30 _ _)
    refine S_iast (h := shC) (i := S.2.1 15 (v1 : Int32).toNatClampNeg) (v := v2) hx hb hK hP hD hS 13 rfl (hb2 hc1) d_First_join_30 (fun H locs hP hD hS => ?_)
    refine lv_aload_n hx hb d_First_join_31 rfl (lv_at hl 0 rfl) ?_
    refine S_getR (h := shC) (C := "MacroMill$First") (T := F_First) hx hb htt in_First hown hK hP 4 10 rfl 28 rfl rfl (by decide) (htt _ k_580) (fun _ h9 => h9) d_First_join_32 ?_
    refine lv_iload_n hx hb d_First_join_35 rfl (lv_at hl 1 rfl) ?_
    refine lv_iload_n hx hb d_First_join_36 rfl (lv_at hl 3 rfl) ?_
    refine S_iast (h := shC) (i := v1) (v := v3) hx hb hK hP hD hS 15 rfl (hb1 hc1) d_First_join_37 (fun H locs hP hD hS => ?_)
    exact fin_v (g := g) (ws := Sw shC g ad (putA (putA S 13 (S.2.1 15 (v1 : Int32).toNatClampNeg : Int32).toNatClampNeg v2) 15 (v1 : Int32).toNatClampNeg v3)) hx hb hr hlocks (by decide +kernel) (by decide +kernel) hP hD hS ⟨_, rfl, (by unfold s_First_join; rw [if_pos hc1])⟩ d_First_join_38
  · refine lv_aload_n hx hb d_First_join_9 rfl (lv_at hl 0 rfl) ?_
    refine S_getR (h := shC) (C := "MacroMill$First") (T := F_First) hx hb htt in_First hown hK hP 4 9 rfl 27 rfl rfl (by decide) (htt _ k_579) (fun _ h9 => h9) d_First_join_10 ?_
    refine lv_iload_n hx hb d_First_join_13 rfl (lv_at hl 1 rfl) ?_
    refine lv_iload_n hx hb d_First_join_14 rfl (lv_at hl 2 rfl) ?_
    refine S_iast (h := shC) (i := v1) (v := v2) hx hb hK hP hD hS 14 rfl (hb3 hc1) d_First_join_15 (fun H locs hP hD hS => ?_)
    refine lv_goto (tgt := 31) hx hb d_First_join_16 (by decide) ?_
    refine lv_aload_n hx hb d_First_join_31 rfl (lv_at hl 0 rfl) ?_
    show W _ _ _ _ _ _ _ _ _ _ _ _ _ _ _ (F0 _ 32 _ _)
    refine S_getR (h := shC) (C := "MacroMill$First") (T := F_First) hx hb htt in_First hown hK hP 4 10 rfl 28 rfl rfl (by decide) (htt _ k_580) (fun _ h9 => h9) d_First_join_32 ?_
    refine lv_iload_n hx hb d_First_join_35 rfl (lv_at hl 1 rfl) ?_
    refine lv_iload_n hx hb d_First_join_36 rfl (lv_at hl 3 rfl) ?_
    refine S_iast (h := shC) (i := v1) (v := v3) hx hb hK hP hD hS 15 rfl (hb3 hc1) d_First_join_37 (fun H locs hP hD hS => ?_)
    exact fin_v (g := g) (ws := Sw shC g ad (putA (putA S 14 (v1 : Int32).toNatClampNeg v2) 15 (v1 : Int32).toNatClampNeg v3)) hx hb hr hlocks (by decide +kernel) (by decide +kernel) hP hD hS ⟨_, rfl, (by unfold s_First_join; rw [if_neg hc1])⟩ d_First_join_38
def s_Input_setFirstQuotes (S : sS) : sS := (putI (putI (putA (putA S 17 (0 : Int32).toNatClampNeg (vp_nar .byte 96)) 17 (4 : Int32).toNatClampNeg (vp_nar .byte 39)) 5 7 1) 5 8 1)
abbrev rm_a_Input_setFirstQuotes : Room := { frames := 0, cells := 0, slots := 0, locals := 0 }
set_option maxHeartbeats 4000000 in
set_option maxRecDepth 100000 in
theorem a_Input_setFirstQuotes (l : Launch) (g : gG) (sz : Nat) (ad : Nat → Nat) (S : sS) (hb0 : vp_in (0) 8) (hb1 : vp_in (4) 8) : Cv l y_Input_setFirstQuotes b_Input_setFirstQuotes 1 rm_a_Input_setFirstQuotes g [.ref (ad 5)] (Sw shC g ad S) sz (fun w => ∃ S' : sS, w = Sw shC g ad S' ∧ S' = s_Input_setFirstQuotes S) := by
  refine startV (by decide) (Nat.le_of_ble_eq_true rfl) ?_
  intro p e s m below meth c A ls hx hb hr hml hlocks hmn hown htt hN hA hP hK hD hS hl
  have hown : s.vm.findClass "MacroMill$Input" = some m.cls := hown
  have hl : lv_has ls 1 [(0, .ref (ad 5))] := hl
  refine lv_aload_n hx hb d_Input_setFirstQuotes_0 rfl (lv_at hl 0 rfl) ?_
  refine S_getR (h := shC) (C := "MacroMill$Input") (T := F_Input) hx hb htt in_Input hown hK hP 5 6 rfl 30 rfl rfl (by decide) (htt _ k_536) (fun _ h9 => h9) d_Input_setFirstQuotes_1 ?_
  refine lv_iconst (v := 0) hx hb d_Input_setFirstQuotes_4 (by decide) ?_
  refine lv_bipush (v := 96) hx hb d_Input_setFirstQuotes_5 (by decide) ?_
  refine S_bast (h := shC) (i := 0) (v := 96) hx hb hK hP hD hS 17 rfl hb0 d_Input_setFirstQuotes_7 (fun H locs hP hD hS => ?_)
  refine lv_aload_n hx hb d_Input_setFirstQuotes_8 rfl (lv_at hl 0 rfl) ?_
  refine S_getR (h := shC) (C := "MacroMill$Input") (T := F_Input) hx hb htt in_Input hown hK hP 5 6 rfl 30 rfl rfl (by decide) (htt _ k_536) (fun _ h9 => h9) d_Input_setFirstQuotes_9 ?_
  refine lv_iconst (v := 4) hx hb d_Input_setFirstQuotes_12 (by decide) ?_
  refine lv_bipush (v := 39) hx hb d_Input_setFirstQuotes_13 (by decide) ?_
  refine S_bast (h := shC) (i := 4) (v := 39) hx hb hK hP hD hS 17 rfl hb1 d_Input_setFirstQuotes_15 (fun H locs hP hD hS => ?_)
  refine lv_aload_n hx hb d_Input_setFirstQuotes_16 rfl (lv_at hl 0 rfl) ?_
  show W _ _ _ _ _ _ _ _ _ _ _ _ _ _ _ (F0 _ 17 _ _)
  refine lv_iconst (v := 1) hx hb d_Input_setFirstQuotes_17 (by decide) ?_
  refine S_put (h := shC) (C := "MacroMill$Input") (T := F_Input) (v := 1) hx hb htt in_Input t_Input t_Input_ok n_Input hown hK hP hD hS 5 7 rfl rfl rfl (by decide) (htt _ k_537) (fun _ h9 => h9) rfl rfl rfl d_Input_setFirstQuotes_18 (fun H locs hP hD hS => ?_)
  refine lv_aload_n hx hb d_Input_setFirstQuotes_21 rfl (lv_at hl 0 rfl) ?_
  refine lv_iconst (v := 1) hx hb d_Input_setFirstQuotes_22 (by decide) ?_
  refine S_put (h := shC) (C := "MacroMill$Input") (T := F_Input) (v := 1) hx hb htt in_Input t_Input t_Input_ok n_Input hown hK hP hD hS 5 8 rfl rfl rfl (by decide) (htt _ k_538) (fun _ h9 => h9) rfl rfl rfl d_Input_setFirstQuotes_23 (fun H locs hP hD hS => ?_)
  exact fin_v (g := g) (ws := Sw shC g ad (putI (putI (putA (putA S 17 (0 : Int32).toNatClampNeg (vp_nar .byte 96)) 17 (4 : Int32).toNatClampNeg (vp_nar .byte 39)) 5 7 1) 5 8 1)) hx hb hr hlocks (by decide +kernel) (by decide +kernel) hP hD hS ⟨_, rfl, rfl⟩ d_Input_setFirstQuotes_26
def r_Input_quoteLength (S : sS) (v1 : Int32) : Int32 := if v1 = (0 : Int32) then (S.1 5 7) else (S.1 5 8)
abbrev rm_a_Input_quoteLength : Room := { frames := 0, cells := 0, slots := 0, locals := 0 }
set_option maxHeartbeats 4000000 in
set_option maxRecDepth 100000 in
theorem a_Input_quoteLength (l : Launch) (g : gG) (sz : Nat) (ad : Nat → Nat) (S : sS) (v1 : Int32) : Ci l y_Input_quoteLength b_Input_quoteLength 2 rm_a_Input_quoteLength g [.ref (ad 5), .int v1] (Sw shC g ad S) sz (fun r w => ∃ S' : sS, w = Sw shC g ad S' ∧ r = r_Input_quoteLength S v1 ∧ S' = S) := by
  refine startI (by decide) (Nat.le_of_ble_eq_true rfl) ?_
  intro p e s m below meth c A ls hx hb hr hml hlocks hmn hown htt hN hA hP hK hD hS hl
  have hown : s.vm.findClass "MacroMill$Input" = some m.cls := hown
  have hl : lv_has ls 2 [(0, .ref (ad 5)), (1, .int v1)] := hl
  refine lv_iload_n hx hb d_Input_quoteLength_0 rfl (lv_at hl 1 rfl) ?_
  refine lv_if_eq (tgt := 11) hx hb d_Input_quoteLength_1 (by decide) (fun hc1 => ?_) (fun hc1 => ?_)
  · refine lv_aload_n hx hb d_Input_quoteLength_11 rfl (lv_at hl 0 rfl) ?_
    refine S_getI (h := shC) (C := "MacroMill$Input") (T := F_Input) hx hb htt in_Input hown hK hP 5 7 rfl rfl rfl (by decide) (htt _ k_537) (fun _ h9 => h9) d_Input_quoteLength_12 ?_
    exact fin_i (g := g) (ws := Sw shC g ad S) (v := S.1 5 7) hx hb hr hlocks (by decide +kernel) (by decide +kernel) hP hD hS ⟨_, rfl, (by unfold r_Input_quoteLength; rw [if_pos hc1]), rfl⟩ d_Input_quoteLength_15
  · refine lv_aload_n hx hb d_Input_quoteLength_4 rfl (lv_at hl 0 rfl) ?_
    refine S_getI (h := shC) (C := "MacroMill$Input") (T := F_Input) hx hb htt in_Input hown hK hP 5 8 rfl rfl rfl (by decide) (htt _ k_538) (fun _ h9 => h9) d_Input_quoteLength_5 ?_
    refine lv_goto (tgt := 15) hx hb d_Input_quoteLength_8 (by decide) ?_
    exact fin_i (g := g) (ws := Sw shC g ad S) (v := S.1 5 8) hx hb hr hlocks (by decide +kernel) (by decide +kernel) hP hD hS ⟨_, rfl, (by unfold r_Input_quoteLength; rw [if_neg hc1]), rfl⟩ d_Input_quoteLength_15
def r_Input_quoteByte (S : sS) (v1 : Int32) (v2 : Int32) : Int32 := if v1 = (0 : Int32) then (S.2.1 17 (v2 : Int32).toNatClampNeg) else (S.2.1 17 ((4 : Int32) + v2 : Int32).toNatClampNeg)
abbrev rm_a_Input_quoteByte : Room := { frames := 0, cells := 0, slots := 0, locals := 0 }
set_option maxHeartbeats 4000000 in
set_option maxRecDepth 100000 in
theorem a_Input_quoteByte (l : Launch) (g : gG) (sz : Nat) (ad : Nat → Nat) (S : sS) (v1 : Int32) (v2 : Int32) (hb0 : v1 = (0 : Int32) → vp_in (v2) 8) (hb1 : ¬ (v1 = (0 : Int32)) → vp_in ((4 : Int32) + v2) 8) : Ci l y_Input_quoteByte b_Input_quoteByte 3 rm_a_Input_quoteByte g [.ref (ad 5), .int v1, .int v2] (Sw shC g ad S) sz (fun r w => ∃ S' : sS, w = Sw shC g ad S' ∧ r = r_Input_quoteByte S v1 v2 ∧ S' = S) := by
  refine startI (by decide) (Nat.le_of_ble_eq_true rfl) ?_
  intro p e s m below meth c A ls hx hb hr hml hlocks hmn hown htt hN hA hP hK hD hS hl
  have hown : s.vm.findClass "MacroMill$Input" = some m.cls := hown
  have hl : lv_has ls 3 [(0, .ref (ad 5)), (1, .int v1), (2, .int v2)] := hl
  refine lv_aload_n hx hb d_Input_quoteByte_0 rfl (lv_at hl 0 rfl) ?_
  refine S_getR (h := shC) (C := "MacroMill$Input") (T := F_Input) hx hb htt in_Input hown hK hP 5 6 rfl 30 rfl rfl (by decide) (htt _ k_536) (fun _ h9 => h9) d_Input_quoteByte_1 ?_
  refine lv_iload_n hx hb d_Input_quoteByte_4 rfl (lv_at hl 1 rfl) ?_
  refine lv_if_eq (tgt := 14) hx hb d_Input_quoteByte_5 (by decide) (fun hc1 => ?_) (fun hc1 => ?_)
  · refine lv_iload_n hx hb d_Input_quoteByte_14 rfl (lv_at hl 2 rfl) ?_
    refine S_bald (h := shC) (i := v2) hx hb hK hP 17 rfl (hb0 hc1) d_Input_quoteByte_15 ?_
    exact fin_i (g := g) (ws := Sw shC g ad S) (v := S.2.1 17 (v2 : Int32).toNatClampNeg) hx hb hr hlocks (by decide +kernel) (by decide +kernel) hP hD hS ⟨_, rfl, (by unfold r_Input_quoteByte; rw [if_pos hc1]), rfl⟩ d_Input_quoteByte_16
  · refine lv_iconst (v := 4) hx hb d_Input_quoteByte_8 (by decide) ?_
    refine lv_iload_n hx hb d_Input_quoteByte_9 rfl (lv_at hl 2 rfl) ?_
    refine lv_iadd hx hb d_Input_quoteByte_10 ?_
    refine lv_goto (tgt := 15) hx hb d_Input_quoteByte_11 (by decide) ?_
    refine S_bald (h := shC) (i := (4 : Int32) + v2) hx hb hK hP 17 rfl (hb1 hc1) d_Input_quoteByte_15 ?_
    exact fin_i (g := g) (ws := Sw shC g ad S) (v := S.2.1 17 ((4 : Int32) + v2 : Int32).toNatClampNeg) hx hb hr hlocks (by decide +kernel) (by decide +kernel) hP hD hS ⟨_, rfl, (by unfold r_Input_quoteByte; rw [if_neg hc1]), rfl⟩ d_Input_quoteByte_16
def r_Input_isAtParenthesis (S : sS) : Int32 := if (32768 : Int32) ≤ (S.1 5 2) then 0 else (if (S.2.1 16 (S.1 5 2 : Int32).toNatClampNeg) = (40 : Int32) then 1 else 0)
abbrev rm_a_Input_isAtParenthesis : Room := { frames := 0, cells := 0, slots := 0, locals := 0 }
set_option maxHeartbeats 4000000 in
set_option maxRecDepth 100000 in
theorem a_Input_isAtParenthesis (l : Launch) (g : gG) (sz : Nat) (ad : Nat → Nat) (S : sS) (hb0 : ¬ ((32768 : Int32) ≤ (S.1 5 2)) → vp_in (S.1 5 2) 32768) : Cz l y_Input_isAtParenthesis b_Input_isAtParenthesis 1 rm_a_Input_isAtParenthesis g [.ref (ad 5)] (Sw shC g ad S) sz (fun r w => ∃ S' : sS, w = Sw shC g ad S' ∧ r = r_Input_isAtParenthesis S ∧ S' = S) := by
  refine startZ (by decide) (Nat.le_of_ble_eq_true rfl) ?_
  intro p e s m below meth c A ls hx hb hr hml hlocks hmn hown htt hN hA hP hK hD hS hl
  have hown : s.vm.findClass "MacroMill$Input" = some m.cls := hown
  have hl : lv_has ls 1 [(0, .ref (ad 5))] := hl
  refine lv_aload_n hx hb d_Input_isAtParenthesis_0 rfl (lv_at hl 0 rfl) ?_
  refine S_getI (h := shC) (C := "MacroMill$Input") (T := F_Input) hx hb htt in_Input hown hK hP 5 2 rfl rfl rfl (by decide) (htt _ k_531) (fun _ h9 => h9) d_Input_isAtParenthesis_1 ?_
  refine lv_ldc (v := 32768) hx hb hown (htt _ k_527) d_Input_isAtParenthesis_4 ?_
  refine lv_icmp_ge (tgt := 27) hx hb d_Input_isAtParenthesis_6 (by decide) (fun hc1 => ?_) (fun hc1 => ?_)
  · refine lv_iconst (v := 0) hx hb d_Input_isAtParenthesis_27 (by decide) ?_
    exact fin_z (g := g) (ws := Sw shC g ad S) (v := 0) hx hb hr hlocks rfl (by decide +kernel) (by decide +kernel) hP hD hS ⟨_, rfl, (by unfold r_Input_isAtParenthesis; rw [if_pos hc1]), rfl⟩ d_Input_isAtParenthesis_28
  · refine lv_aload_n hx hb d_Input_isAtParenthesis_9 rfl (lv_at hl 0 rfl) ?_
    refine S_getR (h := shC) (C := "MacroMill$Input") (T := F_Input) hx hb htt in_Input hown hK hP 5 0 rfl 29 rfl rfl (by decide) (htt _ k_528) (fun _ h9 => h9) d_Input_isAtParenthesis_10 ?_
    refine lv_aload_n hx hb d_Input_isAtParenthesis_13 rfl (lv_at hl 0 rfl) ?_
    refine S_getI (h := shC) (C := "MacroMill$Input") (T := F_Input) hx hb htt in_Input hown hK hP 5 2 rfl rfl rfl (by decide) (htt _ k_531) (fun _ h9 => h9) d_Input_isAtParenthesis_14 ?_
    refine S_bald (h := shC) (i := S.1 5 2) hx hb hK hP 16 rfl (hb0 hc1) d_Input_isAtParenthesis_17 ?_
    refine lv_bipush (v := 40) hx hb d_Input_isAtParenthesis_18 (by decide) ?_
    refine lv_icmp_ne (tgt := 27) hx hb d_Input_isAtParenthesis_20 (by decide) (fun hc2 => ?_) (fun hc2 => ?_)
    · refine lv_iconst (v := 0) hx hb d_Input_isAtParenthesis_27 (by decide) ?_
      exact fin_z (g := g) (ws := Sw shC g ad S) (v := 0) hx hb hr hlocks rfl (by decide +kernel) (by decide +kernel) hP hD hS ⟨_, rfl, (by unfold r_Input_isAtParenthesis; rw [if_neg hc1, if_neg hc2]), rfl⟩ d_Input_isAtParenthesis_28
    · refine lv_iconst (v := 1) hx hb d_Input_isAtParenthesis_23 (by decide) ?_
      refine lv_goto (tgt := 28) hx hb d_Input_isAtParenthesis_24 (by decide) ?_
      show W _ _ _ _ _ _ _ _ _ _ _ _ _ _ _ (F0 _ 28 _ _)
      exact fin_z (g := g) (ws := Sw shC g ad S) (v := 1) hx hb hr hlocks rfl (by decide +kernel) (by decide +kernel) hP hD hS ⟨_, rfl, (by unfold r_Input_isAtParenthesis; rw [if_neg hc1, if_pos hc2]), rfl⟩ d_Input_isAtParenthesis_28
def r_Input_take (S : sS) : Int32 := if (S.1 5 2) < (32768 : Int32) then (if (S.1 5 5) = (0 : Int32) then 0 else 1) else 0
def s_Input_take (S : sS) : sS := if (S.1 5 2) < (32768 : Int32) then (if (S.1 5 5) = (0 : Int32) then ((s_Outcome_fail S (31 : Int32) (S.1 5 4))) else (if (S.1 5 2) = (S.1 5 3) then (if ((putI (putI (putI S 5 5 ((S.1 5 5) - (1 : Int32))) 2 6 ((S.1 2 6) + (1 : Int32))) 5 3 ((S.1 5 3) + (1 : Int32))).2.1 16 (S.1 5 2 : Int32).toNatClampNeg) = (10 : Int32) then ((putI (putI (putI (putI (putI S 5 5 ((S.1 5 5) - (1 : Int32))) 2 6 ((S.1 2 6) + (1 : Int32))) 5 3 ((S.1 5 3) + (1 : Int32))) 5 4 ((S.1 5 4) + (1 : Int32))) 5 2 ((S.1 5 2) + (1 : Int32)))) else ((putI (putI (putI (putI S 5 5 ((S.1 5 5) - (1 : Int32))) 2 6 ((S.1 2 6) + (1 : Int32))) 5 3 ((S.1 5 3) + (1 : Int32))) 5 2 ((S.1 5 2) + (1 : Int32))))) else ((putI (putI (putI S 5 5 ((S.1 5 5) - (1 : Int32))) 2 6 ((S.1 2 6) + (1 : Int32))) 5 2 ((S.1 5 2) + (1 : Int32)))))) else S
abbrev rm_a_Input_take : Room := { frames := 1, cells := 0, slots := 0, locals := 22 }
set_option maxHeartbeats 4000000 in
set_option maxRecDepth 100000 in
theorem a_Input_take (l : Launch) (g : gG) (sz : Nat) (ad : Nat → Nat) (S : sS) (hb0 : (S.1 5 2) < (32768 : Int32) → ¬ ((S.1 5 5) = (0 : Int32)) → (S.1 5 2) = (S.1 5 3) → vp_in (S.1 5 2) 32768) : Cz l y_Input_take b_Input_take 1 rm_a_Input_take g [.ref (ad 5)] (Sw shC g ad S) sz (fun r w => ∃ S' : sS, w = Sw shC g ad S' ∧ r = r_Input_take S ∧ S' = s_Input_take S) := by
  refine startZ (by decide) (Nat.le_of_ble_eq_true rfl) ?_
  intro p e s m below meth c A ls hx hb hr hml hlocks hmn hown htt hN hA hP hK hD hS hl
  have hown : s.vm.findClass "MacroMill$Input" = some m.cls := hown
  have hl : lv_has ls 1 [(0, .ref (ad 5))] := hl
  refine lv_aload_n hx hb d_Input_take_0 rfl (lv_at hl 0 rfl) ?_
  refine S_getI (h := shC) (C := "MacroMill$Input") (T := F_Input) hx hb htt in_Input hown hK hP 5 2 rfl rfl rfl (by decide) (htt _ k_531) (fun _ h9 => h9) d_Input_take_1 ?_
  refine lv_ldc (v := 32768) hx hb hown (htt _ k_527) d_Input_take_4 ?_
  refine lv_icmp_lt (tgt := 11) hx hb d_Input_take_6 (by decide) (fun hc1 => ?_) (fun hc1 => ?_)
  · refine lv_aload_n hx hb d_Input_take_11 rfl (lv_at hl 0 rfl) ?_
    refine S_getI (h := shC) (C := "MacroMill$Input") (T := F_Input) hx hb htt in_Input hown hK hP 5 5 rfl rfl rfl (by decide) (htt _ k_535) (fun _ h9 => h9) d_Input_take_12 ?_
    refine lv_if_ne (tgt := 33) hx hb d_Input_take_15 (by decide) (fun hc2 => ?_) (fun hc2 => ?_)
    · refine lv_aload_n hx hb d_Input_take_33 rfl (lv_at hl 0 rfl) ?_
      refine lv_dup hx hb d_Input_take_34 rfl ?_
      refine S_getI (h := shC) (C := "MacroMill$Input") (T := F_Input) hx hb htt in_Input hown hK hP 5 5 rfl rfl rfl (by decide) (htt _ k_535) (fun _ h9 => h9) d_Input_take_35 ?_
      refine lv_iconst (v := 1) hx hb d_Input_take_38 (by decide) ?_
      refine lv_isub hx hb d_Input_take_39 ?_
      refine S_put (h := shC) (C := "MacroMill$Input") (T := F_Input) (v := (S.1 5 5) - (1 : Int32)) hx hb htt in_Input t_Input t_Input_ok n_Input hown hK hP hD hS 5 5 rfl rfl rfl (by decide) (htt _ k_535) (fun _ h9 => h9) rfl rfl rfl d_Input_take_40 (fun H locs hP hD hS => ?_)
      show W _ _ _ _ _ _ _ _ _ _ _ _ _ _ _ (F0 _ 43 _ _)
      refine lv_aload_n hx hb d_Input_take_43 rfl (lv_at hl 0 rfl) ?_
      refine S_getR (h := shC) (C := "MacroMill$Input") (T := F_Input) hx hb htt in_Input hown hK hP 5 1 rfl 2 rfl rfl (by decide) (htt _ k_530) (fun _ h9 => h9) d_Input_take_44 ?_
      refine lv_dup hx hb d_Input_take_47 rfl ?_
      refine S_getI (h := shC) (C := "MacroMill$Outcome") (T := F_Outcome) hx hb htt in_Outcome hown hK hP 2 6 rfl rfl rfl (by decide) (htt _ k_352) (fun _ h9 => h9) d_Input_take_48 ?_
      refine toI (y := S.1 2 6) rfl ?_
      refine lv_iconst (v := 1) hx hb d_Input_take_51 (by decide) ?_
      refine lv_iadd hx hb d_Input_take_52 ?_
      refine S_put (h := shC) (C := "MacroMill$Outcome") (T := F_Outcome) (v := (S.1 2 6) + (1 : Int32)) hx hb htt in_Outcome t_Outcome t_Outcome_ok n_Outcome hown hK hP hD hS 2 6 rfl rfl rfl (by decide) (htt _ k_352) (fun _ h9 => h9) rfl rfl rfl d_Input_take_53 (fun H locs hP hD hS => ?_)
      refine lv_aload_n hx hb d_Input_take_56 rfl (lv_at hl 0 rfl) ?_
      refine S_getI (h := shC) (C := "MacroMill$Input") (T := F_Input) hx hb htt in_Input hown hK hP 5 2 rfl rfl rfl (by decide) (htt _ k_531) (fun _ h9 => h9) d_Input_take_57 ?_
      refine toI (y := S.1 5 2) rfl ?_
      refine lv_aload_n hx hb d_Input_take_60 rfl (lv_at hl 0 rfl) ?_
      refine S_getI (h := shC) (C := "MacroMill$Input") (T := F_Input) hx hb htt in_Input hown hK hP 5 3 rfl rfl rfl (by decide) (htt _ k_532) (fun _ h9 => h9) d_Input_take_61 ?_
      refine toI (y := S.1 5 3) rfl ?_
      refine lv_icmp_ne (tgt := 101) hx hb d_Input_take_64 (by decide) (fun hc3 => ?_) (fun hc3 => ?_)
      · refine lv_aload_n hx hb d_Input_take_101 rfl (lv_at hl 0 rfl) ?_
        show W _ _ _ _ _ _ _ _ _ _ _ _ _ _ _ (F0 _ 102 _ _)
        refine lv_dup hx hb d_Input_take_102 rfl ?_
        refine S_getI (h := shC) (C := "MacroMill$Input") (T := F_Input) hx hb htt in_Input hown hK hP 5 2 rfl rfl rfl (by decide) (htt _ k_531) (fun _ h9 => h9) d_Input_take_103 ?_
        refine toI (y := S.1 5 2) rfl ?_
        refine lv_iconst (v := 1) hx hb d_Input_take_106 (by decide) ?_
        refine lv_iadd hx hb d_Input_take_107 ?_
        refine S_put (h := shC) (C := "MacroMill$Input") (T := F_Input) (v := (S.1 5 2) + (1 : Int32)) hx hb htt in_Input t_Input t_Input_ok n_Input hown hK hP hD hS 5 2 rfl rfl rfl (by decide) (htt _ k_531) (fun _ h9 => h9) rfl rfl rfl d_Input_take_108 (fun H locs hP hD hS => ?_)
        refine lv_iconst (v := 1) hx hb d_Input_take_111 (by decide) ?_
        exact fin_z (g := g) (ws := Sw shC g ad (putI (putI (putI S 5 5 ((S.1 5 5) - (1 : Int32))) 2 6 ((S.1 2 6) + (1 : Int32))) 5 2 ((S.1 5 2) + (1 : Int32)))) (v := 1) hx hb hr hlocks rfl (by decide +kernel) (by decide +kernel) hP hD hS ⟨_, rfl, (by unfold r_Input_take; rw [if_pos hc1, if_neg hc2]), (by unfold s_Input_take; rw [if_pos hc1, if_neg hc2, if_neg hc3])⟩ d_Input_take_112
      · refine lv_aload_n hx hb d_Input_take_67 rfl (lv_at hl 0 rfl) ?_
        show W _ _ _ _ _ _ _ _ _ _ _ _ _ _ _ (F0 _ 68 _ _)
        refine lv_dup hx hb d_Input_take_68 rfl ?_
        refine S_getI (h := shC) (C := "MacroMill$Input") (T := F_Input) hx hb htt in_Input hown hK hP 5 3 rfl rfl rfl (by decide) (htt _ k_532) (fun _ h9 => h9) d_Input_take_69 ?_
        refine toI (y := S.1 5 3) rfl ?_
        refine lv_iconst (v := 1) hx hb d_Input_take_72 (by decide) ?_
        refine lv_iadd hx hb d_Input_take_73 ?_
        refine S_put (h := shC) (C := "MacroMill$Input") (T := F_Input) (v := (S.1 5 3) + (1 : Int32)) hx hb htt in_Input t_Input t_Input_ok n_Input hown hK hP hD hS 5 3 rfl rfl rfl (by decide) (htt _ k_532) (fun _ h9 => h9) rfl rfl rfl d_Input_take_74 (fun H locs hP hD hS => ?_)
        refine lv_aload_n hx hb d_Input_take_77 rfl (lv_at hl 0 rfl) ?_
        refine S_getR (h := shC) (C := "MacroMill$Input") (T := F_Input) hx hb htt in_Input hown hK hP 5 0 rfl 29 rfl rfl (by decide) (htt _ k_528) (fun _ h9 => h9) d_Input_take_78 ?_
        refine lv_aload_n hx hb d_Input_take_81 rfl (lv_at hl 0 rfl) ?_
        refine S_getI (h := shC) (C := "MacroMill$Input") (T := F_Input) hx hb htt in_Input hown hK hP 5 2 rfl rfl rfl (by decide) (htt _ k_531) (fun _ h9 => h9) d_Input_take_82 ?_
        refine toI (y := S.1 5 2) rfl ?_
        refine S_bald (h := shC) (i := S.1 5 2) hx hb hK hP 16 rfl (hb0 hc1 hc2 hc3) d_Input_take_85 ?_
        refine lv_bipush (v := 10) hx hb d_Input_take_86 (by decide) ?_
        refine lv_icmp_ne (tgt := 101) hx hb d_Input_take_88 (by decide) (fun hc4 => ?_) (fun hc4 => ?_)
        · refine lv_aload_n hx hb d_Input_take_101 rfl (lv_at hl 0 rfl) ?_
          show W _ _ _ _ _ _ _ _ _ _ _ _ _ _ _ (F0 _ 102 _ _)
          refine lv_dup hx hb d_Input_take_102 rfl ?_
          refine S_getI (h := shC) (C := "MacroMill$Input") (T := F_Input) hx hb htt in_Input hown hK hP 5 2 rfl rfl rfl (by decide) (htt _ k_531) (fun _ h9 => h9) d_Input_take_103 ?_
          refine toI (y := S.1 5 2) rfl ?_
          refine lv_iconst (v := 1) hx hb d_Input_take_106 (by decide) ?_
          refine lv_iadd hx hb d_Input_take_107 ?_
          refine S_put (h := shC) (C := "MacroMill$Input") (T := F_Input) (v := (S.1 5 2) + (1 : Int32)) hx hb htt in_Input t_Input t_Input_ok n_Input hown hK hP hD hS 5 2 rfl rfl rfl (by decide) (htt _ k_531) (fun _ h9 => h9) rfl rfl rfl d_Input_take_108 (fun H locs hP hD hS => ?_)
          refine lv_iconst (v := 1) hx hb d_Input_take_111 (by decide) ?_
          exact fin_z (g := g) (ws := Sw shC g ad (putI (putI (putI (putI S 5 5 ((S.1 5 5) - (1 : Int32))) 2 6 ((S.1 2 6) + (1 : Int32))) 5 3 ((S.1 5 3) + (1 : Int32))) 5 2 ((S.1 5 2) + (1 : Int32)))) (v := 1) hx hb hr hlocks rfl (by decide +kernel) (by decide +kernel) hP hD hS ⟨_, rfl, (by unfold r_Input_take; rw [if_pos hc1, if_neg hc2]), (by unfold s_Input_take; rw [if_pos hc1, if_neg hc2, if_pos hc3, if_neg hc4])⟩ d_Input_take_112
        · refine lv_aload_n hx hb d_Input_take_91 rfl (lv_at hl 0 rfl) ?_
          show W _ _ _ _ _ _ _ _ _ _ _ _ _ _ _ (F0 _ 92 _ _)
          refine lv_dup hx hb d_Input_take_92 rfl ?_
          refine S_getI (h := shC) (C := "MacroMill$Input") (T := F_Input) hx hb htt in_Input hown hK hP 5 4 rfl rfl rfl (by decide) (htt _ k_533) (fun _ h9 => h9) d_Input_take_93 ?_
          refine toI (y := S.1 5 4) rfl ?_
          refine lv_iconst (v := 1) hx hb d_Input_take_96 (by decide) ?_
          refine lv_iadd hx hb d_Input_take_97 ?_
          refine S_put (h := shC) (C := "MacroMill$Input") (T := F_Input) (v := (S.1 5 4) + (1 : Int32)) hx hb htt in_Input t_Input t_Input_ok n_Input hown hK hP hD hS 5 4 rfl rfl rfl (by decide) (htt _ k_533) (fun _ h9 => h9) rfl rfl rfl d_Input_take_98 (fun H locs hP hD hS => ?_)
          refine lv_aload_n hx hb d_Input_take_101 rfl (lv_at hl 0 rfl) ?_
          refine lv_dup hx hb d_Input_take_102 rfl ?_
          refine S_getI (h := shC) (C := "MacroMill$Input") (T := F_Input) hx hb htt in_Input hown hK hP 5 2 rfl rfl rfl (by decide) (htt _ k_531) (fun _ h9 => h9) d_Input_take_103 ?_
          refine toI (y := S.1 5 2) rfl ?_
          refine lv_iconst (v := 1) hx hb d_Input_take_106 (by decide) ?_
          refine lv_iadd hx hb d_Input_take_107 ?_
          refine S_put (h := shC) (C := "MacroMill$Input") (T := F_Input) (v := (S.1 5 2) + (1 : Int32)) hx hb htt in_Input t_Input t_Input_ok n_Input hown hK hP hD hS 5 2 rfl rfl rfl (by decide) (htt _ k_531) (fun _ h9 => h9) rfl rfl rfl d_Input_take_108 (fun H locs hP hD hS => ?_)
          refine lv_iconst (v := 1) hx hb d_Input_take_111 (by decide) ?_
          show W _ _ _ _ _ _ _ _ _ _ _ _ _ _ _ (F0 _ 112 _ _)
          exact fin_z (g := g) (ws := Sw shC g ad (putI (putI (putI (putI (putI S 5 5 ((S.1 5 5) - (1 : Int32))) 2 6 ((S.1 2 6) + (1 : Int32))) 5 3 ((S.1 5 3) + (1 : Int32))) 5 4 ((S.1 5 4) + (1 : Int32))) 5 2 ((S.1 5 2) + (1 : Int32)))) (v := 1) hx hb hr hlocks rfl (by decide +kernel) (by decide +kernel) hP hD hS ⟨_, rfl, (by unfold r_Input_take; rw [if_pos hc1, if_neg hc2]), (by unfold s_Input_take; rw [if_pos hc1, if_neg hc2, if_pos hc3, if_pos hc4])⟩ d_Input_take_112
    · refine lv_aload_n hx hb d_Input_take_18 rfl (lv_at hl 0 rfl) ?_
      refine S_getR (h := shC) (C := "MacroMill$Input") (T := F_Input) hx hb htt in_Input hown hK hP 5 1 rfl 2 rfl rfl (by decide) (htt _ k_530) (fun _ h9 => h9) d_Input_take_19 ?_
      refine lv_bipush (v := 31) hx hb d_Input_take_22 (by decide) ?_
      refine lv_aload_n hx hb d_Input_take_24 rfl (lv_at hl 0 rfl) ?_
      refine S_getI (h := shC) (C := "MacroMill$Input") (T := F_Input) hx hb htt in_Input hown hK hP 5 4 rfl rfl rfl (by decide) (htt _ k_533) (fun _ h9 => h9) d_Input_take_25 ?_
      refine go_vS (As := [.ref (ad 2), .int 31, .int (S.1 5 4)]) (g := g) (A := A) (h := shC) hP hK hD hS hA hN (fun hp => va_runV (As := [.int 31, .int (S.1 5 4)]) (rest := []) ⟨hx, hb, hml, hown, htt⟩ (a_Outcome_fail l g _ ad S (31 : Int32) (S.1 5 4)) ⟨(cb_L htt k_1163 k_264 k_1160 hd_Outcome_fail ⟨(by decide +kernel), (by decide +kernel)⟩), htt _ k_1161, htt _ k_1162⟩ ⟨hp.1, S_recv hK hP 2 rfl rfl, hp.2⟩ rfl rfl hl.1 rfl (lv_room (Nat.le_of_ble_eq_true rfl)) d_Input_take_28 ⟨(by decide +kernel), (by decide +kernel)⟩) (fun Sn H locs hw9 hP hD hS => ?_)
      obtain rfl := hw9
      refine W.widen (k := 0) (n := 0) (by decide +kernel) (by decide +kernel) ?_
      show W _ _ _ _ _ _ _ _ _ _ _ _ _ _ _ (F0 _ 31 _ _)
      refine lv_iconst (v := 0) hx hb d_Input_take_31 (by decide) ?_
      exact fin_z (g := g) (ws := Sw shC g ad (s_Outcome_fail S (31 : Int32) (S.1 5 4))) (v := 0) hx hb hr hlocks rfl (by decide +kernel) (by decide +kernel) hP hD hS ⟨_, rfl, (by unfold r_Input_take; rw [if_pos hc1, if_pos hc2]), (by unfold s_Input_take; rw [if_pos hc1, if_pos hc2])⟩ d_Input_take_32
  · refine lv_iconst (v := 0) hx hb d_Input_take_9 (by decide) ?_
    exact fin_z (g := g) (ws := Sw shC g ad S) (v := 0) hx hb hr hlocks rfl (by decide +kernel) (by decide +kernel) hP hD hS ⟨_, rfl, (by unfold r_Input_take; rw [if_neg hc1]), (by unfold s_Input_take; rw [if_neg hc1])⟩ d_Input_take_10
def s_Calls_clearAll (S : sS) : sS := (putI (putI (putI S 6 1 0) 6 3 0) 6 9 0)
abbrev rm_a_Calls_clearAll : Room := { frames := 0, cells := 0, slots := 0, locals := 0 }
set_option maxHeartbeats 4000000 in
set_option maxRecDepth 100000 in
theorem a_Calls_clearAll (l : Launch) (g : gG) (sz : Nat) (ad : Nat → Nat) (S : sS) : Cv l y_Calls_clearAll b_Calls_clearAll 1 rm_a_Calls_clearAll g [.ref (ad 6)] (Sw shC g ad S) sz (fun w => ∃ S' : sS, w = Sw shC g ad S' ∧ S' = s_Calls_clearAll S) := by
  refine startV (by decide) (Nat.le_of_ble_eq_true rfl) ?_
  intro p e s m below meth c A ls hx hb hr hml hlocks hmn hown htt hN hA hP hK hD hS hl
  have hown : s.vm.findClass "MacroMill$Calls" = some m.cls := hown
  have hl : lv_has ls 1 [(0, .ref (ad 6))] := hl
  refine lv_aload_n hx hb d_Calls_clearAll_0 rfl (lv_at hl 0 rfl) ?_
  refine lv_iconst (v := 0) hx hb d_Calls_clearAll_1 (by decide) ?_
  refine S_put (h := shC) (C := "MacroMill$Calls") (T := F_Calls) (v := 0) hx hb htt in_Calls t_Calls t_Calls_ok n_Calls hown hK hP hD hS 6 1 rfl rfl rfl (by decide) (htt _ k_447) (fun _ h9 => h9) rfl rfl rfl d_Calls_clearAll_2 (fun H locs hP hD hS => ?_)
  refine lv_aload_n hx hb d_Calls_clearAll_5 rfl (lv_at hl 0 rfl) ?_
  refine lv_iconst (v := 0) hx hb d_Calls_clearAll_6 (by decide) ?_
  refine S_put (h := shC) (C := "MacroMill$Calls") (T := F_Calls) (v := 0) hx hb htt in_Calls t_Calls t_Calls_ok n_Calls hown hK hP hD hS 6 3 rfl rfl rfl (by decide) (htt _ k_449) (fun _ h9 => h9) rfl rfl rfl d_Calls_clearAll_7 (fun H locs hP hD hS => ?_)
  refine lv_aload_n hx hb d_Calls_clearAll_10 rfl (lv_at hl 0 rfl) ?_
  refine lv_iconst (v := 0) hx hb d_Calls_clearAll_11 (by decide) ?_
  refine S_put (h := shC) (C := "MacroMill$Calls") (T := F_Calls) (v := 0) hx hb htt in_Calls t_Calls t_Calls_ok n_Calls hown hK hP hD hS 6 9 rfl rfl rfl (by decide) (htt _ k_455) (fun _ h9 => h9) rfl rfl rfl d_Calls_clearAll_12 (fun H locs hP hD hS => ?_)
  exact fin_v (g := g) (ws := Sw shC g ad (putI (putI (putI S 6 1 0) 6 3 0) 6 9 0)) hx hb hr hlocks (by decide +kernel) (by decide +kernel) hP hD hS ⟨_, rfl, rfl⟩ d_Calls_clearAll_15
def r_Calls_isFull (S : sS) : Int32 := if (S.1 6 9) < (50 : Int32) then 0 else 1
abbrev rm_a_Calls_isFull : Room := { frames := 0, cells := 0, slots := 0, locals := 0 }
set_option maxHeartbeats 4000000 in
set_option maxRecDepth 100000 in
theorem a_Calls_isFull (l : Launch) (g : gG) (sz : Nat) (ad : Nat → Nat) (S : sS) : Cz l y_Calls_isFull b_Calls_isFull 1 rm_a_Calls_isFull g [.ref (ad 6)] (Sw shC g ad S) sz (fun r w => ∃ S' : sS, w = Sw shC g ad S' ∧ r = r_Calls_isFull S ∧ S' = S) := by
  refine startZ (by decide) (Nat.le_of_ble_eq_true rfl) ?_
  intro p e s m below meth c A ls hx hb hr hml hlocks hmn hown htt hN hA hP hK hD hS hl
  have hown : s.vm.findClass "MacroMill$Calls" = some m.cls := hown
  have hl : lv_has ls 1 [(0, .ref (ad 6))] := hl
  refine lv_aload_n hx hb d_Calls_isFull_0 rfl (lv_at hl 0 rfl) ?_
  refine S_getI (h := shC) (C := "MacroMill$Calls") (T := F_Calls) hx hb htt in_Calls hown hK hP 6 9 rfl rfl rfl (by decide) (htt _ k_455) (fun _ h9 => h9) d_Calls_isFull_1 ?_
  refine lv_bipush (v := 50) hx hb d_Calls_isFull_4 (by decide) ?_
  refine lv_icmp_lt (tgt := 13) hx hb d_Calls_isFull_6 (by decide) (fun hc1 => ?_) (fun hc1 => ?_)
  · refine lv_iconst (v := 0) hx hb d_Calls_isFull_13 (by decide) ?_
    exact fin_z (g := g) (ws := Sw shC g ad S) (v := 0) hx hb hr hlocks rfl (by decide +kernel) (by decide +kernel) hP hD hS ⟨_, rfl, (by unfold r_Calls_isFull; rw [if_pos hc1]), rfl⟩ d_Calls_isFull_14
  · refine lv_iconst (v := 1) hx hb d_Calls_isFull_9 (by decide) ?_
    refine lv_goto (tgt := 14) hx hb d_Calls_isFull_10 (by decide) ?_
    exact fin_z (g := g) (ws := Sw shC g ad S) (v := 1) hx hb hr hlocks rfl (by decide +kernel) (by decide +kernel) hP hD hS ⟨_, rfl, (by unfold r_Calls_isFull; rw [if_neg hc1]), rfl⟩ d_Calls_isFull_14
def s_Calls_closeOne (S : sS) : sS := if (S.1 6 9) ≤ (0 : Int32) then S else ((putI (putI (putI S 6 9 ((S.1 6 9) - (1 : Int32))) 6 1 ((putI S 6 9 ((S.1 6 9) - (1 : Int32))).2.1 20 ((S.1 6 9) - (1 : Int32) : Int32).toNatClampNeg)) 6 3 ((putI (putI S 6 9 ((S.1 6 9) - (1 : Int32))) 6 1 ((putI S 6 9 ((S.1 6 9) - (1 : Int32))).2.1 20 ((S.1 6 9) - (1 : Int32) : Int32).toNatClampNeg)).2.1 22 ((S.1 6 9) - (1 : Int32) : Int32).toNatClampNeg)))
abbrev rm_a_Calls_closeOne : Room := { frames := 0, cells := 0, slots := 0, locals := 0 }
set_option maxHeartbeats 4000000 in
set_option maxRecDepth 100000 in
theorem a_Calls_closeOne (l : Launch) (g : gG) (sz : Nat) (ad : Nat → Nat) (S : sS) (hb0 : ¬ ((S.1 6 9) ≤ (0 : Int32)) → vp_in ((S.1 6 9) - (1 : Int32)) 50) : Cv l y_Calls_closeOne b_Calls_closeOne 1 rm_a_Calls_closeOne g [.ref (ad 6)] (Sw shC g ad S) sz (fun w => ∃ S' : sS, w = Sw shC g ad S' ∧ S' = s_Calls_closeOne S) := by
  refine startV (by decide) (Nat.le_of_ble_eq_true rfl) ?_
  intro p e s m below meth c A ls hx hb hr hml hlocks hmn hown htt hN hA hP hK hD hS hl
  have hown : s.vm.findClass "MacroMill$Calls" = some m.cls := hown
  have hl : lv_has ls 1 [(0, .ref (ad 6))] := hl
  refine lv_aload_n hx hb d_Calls_closeOne_0 rfl (lv_at hl 0 rfl) ?_
  refine S_getI (h := shC) (C := "MacroMill$Calls") (T := F_Calls) hx hb htt in_Calls hown hK hP 6 9 rfl rfl rfl (by decide) (htt _ k_455) (fun _ h9 => h9) d_Calls_closeOne_1 ?_
  refine lv_if_le (tgt := 43) hx hb d_Calls_closeOne_4 (by decide) (fun hc1 => ?_) (fun hc1 => ?_)
  · exact fin_v (g := g) (ws := Sw shC g ad S) hx hb hr hlocks (by decide +kernel) (by decide +kernel) hP hD hS ⟨_, rfl, (by unfold s_Calls_closeOne; rw [if_pos hc1])⟩ d_Calls_closeOne_43
  · refine lv_aload_n hx hb d_Calls_closeOne_7 rfl (lv_at hl 0 rfl) ?_
    refine lv_dup hx hb d_Calls_closeOne_8 rfl ?_
    refine S_getI (h := shC) (C := "MacroMill$Calls") (T := F_Calls) hx hb htt in_Calls hown hK hP 6 9 rfl rfl rfl (by decide) (htt _ k_455) (fun _ h9 => h9) d_Calls_closeOne_9 ?_
    refine lv_iconst (v := 1) hx hb d_Calls_closeOne_12 (by decide) ?_
    refine lv_isub hx hb d_Calls_closeOne_13 ?_
    refine S_put (h := shC) (C := "MacroMill$Calls") (T := F_Calls) (v := (S.1 6 9) - (1 : Int32)) hx hb htt in_Calls t_Calls t_Calls_ok n_Calls hown hK hP hD hS 6 9 rfl rfl rfl (by decide) (htt _ k_455) (fun _ h9 => h9) rfl rfl rfl d_Calls_closeOne_14 (fun H locs hP hD hS => ?_)
    refine lv_aload_n hx hb d_Calls_closeOne_17 rfl (lv_at hl 0 rfl) ?_
    refine lv_aload_n hx hb d_Calls_closeOne_18 rfl (lv_at hl 0 rfl) ?_
    refine S_getR (h := shC) (C := "MacroMill$Calls") (T := F_Calls) hx hb htt in_Calls hown hK hP 6 4 rfl 33 rfl rfl (by decide) (htt _ k_450) (fun _ h9 => h9) d_Calls_closeOne_19 ?_
    show W _ _ _ _ _ _ _ _ _ _ _ _ _ _ _ (F0 _ 22 _ _)
    refine lv_aload_n hx hb d_Calls_closeOne_22 rfl (lv_at hl 0 rfl) ?_
    refine S_getI (h := shC) (C := "MacroMill$Calls") (T := F_Calls) hx hb htt in_Calls hown hK hP 6 9 rfl rfl rfl (by decide) (htt _ k_455) (fun _ h9 => h9) d_Calls_closeOne_23 ?_
    refine toI (y := (S.1 6 9) - (1 : Int32)) rfl ?_
    refine S_iald (h := shC) (i := (S.1 6 9) - (1 : Int32)) hx hb hK hP 20 rfl (hb0 hc1) d_Calls_closeOne_26 ?_
    refine S_put (h := shC) (C := "MacroMill$Calls") (T := F_Calls) (v := (putI S 6 9 ((S.1 6 9) - (1 : Int32))).2.1 20 ((S.1 6 9) - (1 : Int32) : Int32).toNatClampNeg) hx hb htt in_Calls t_Calls t_Calls_ok n_Calls hown hK hP hD hS 6 1 rfl rfl rfl (by decide) (htt _ k_447) (fun _ h9 => h9) rfl rfl rfl d_Calls_closeOne_27 (fun H locs hP hD hS => ?_)
    refine lv_aload_n hx hb d_Calls_closeOne_30 rfl (lv_at hl 0 rfl) ?_
    refine lv_aload_n hx hb d_Calls_closeOne_31 rfl (lv_at hl 0 rfl) ?_
    refine S_getR (h := shC) (C := "MacroMill$Calls") (T := F_Calls) hx hb htt in_Calls hown hK hP 6 6 rfl 35 rfl rfl (by decide) (htt _ k_452) (fun _ h9 => h9) d_Calls_closeOne_32 ?_
    refine lv_aload_n hx hb d_Calls_closeOne_35 rfl (lv_at hl 0 rfl) ?_
    refine S_getI (h := shC) (C := "MacroMill$Calls") (T := F_Calls) hx hb htt in_Calls hown hK hP 6 9 rfl rfl rfl (by decide) (htt _ k_455) (fun _ h9 => h9) d_Calls_closeOne_36 ?_
    refine toI (y := (S.1 6 9) - (1 : Int32)) rfl ?_
    refine S_iald (h := shC) (i := (S.1 6 9) - (1 : Int32)) hx hb hK hP 22 rfl (hb0 hc1) d_Calls_closeOne_39 ?_
    refine S_put (h := shC) (C := "MacroMill$Calls") (T := F_Calls) (v := (putI (putI S 6 9 ((S.1 6 9) - (1 : Int32))) 6 1 ((putI S 6 9 ((S.1 6 9) - (1 : Int32))).2.1 20 ((S.1 6 9) - (1 : Int32) : Int32).toNatClampNeg)).2.1 22 ((S.1 6 9) - (1 : Int32) : Int32).toNatClampNeg) hx hb htt in_Calls t_Calls t_Calls_ok n_Calls hown hK hP hD hS 6 3 rfl rfl rfl (by decide) (htt _ k_449) (fun _ h9 => h9) rfl rfl rfl d_Calls_closeOne_40 (fun H locs hP hD hS => ?_)
    exact fin_v (g := g) (ws := Sw shC g ad (putI (putI (putI S 6 9 ((S.1 6 9) - (1 : Int32))) 6 1 ((putI S 6 9 ((S.1 6 9) - (1 : Int32))).2.1 20 ((S.1 6 9) - (1 : Int32) : Int32).toNatClampNeg)) 6 3 ((putI (putI S 6 9 ((S.1 6 9) - (1 : Int32))) 6 1 ((putI S 6 9 ((S.1 6 9) - (1 : Int32))).2.1 20 ((S.1 6 9) - (1 : Int32) : Int32).toNatClampNeg)).2.1 22 ((S.1 6 9) - (1 : Int32) : Int32).toNatClampNeg))) hx hb hr hlocks (by decide +kernel) (by decide +kernel) hP hD hS ⟨_, rfl, (by unfold s_Calls_closeOne; rw [if_neg hc1])⟩ d_Calls_closeOne_43
def r_Calls_beginArgument (S : sS) : Int32 := if (S.1 6 9) = (0 : Int32) then 0 else (if (S.1 6 3) < (8192 : Int32) then 1 else 0)
def s_Calls_beginArgument (S : sS) : sS := if (S.1 6 9) = (0 : Int32) then S else (if (S.1 6 3) < (8192 : Int32) then ((putA (putI (putA S 19 (S.1 6 3 : Int32).toNatClampNeg (S.1 6 1)) 6 3 ((S.1 6 3) + (1 : Int32))) 24 ((S.1 6 9) - (1 : Int32) : Int32).toNatClampNeg (vp_nar .boolean 0))) else S)
abbrev rm_a_Calls_beginArgument : Room := { frames := 0, cells := 0, slots := 0, locals := 0 }
set_option maxHeartbeats 4000000 in
set_option maxRecDepth 100000 in
theorem a_Calls_beginArgument (l : Launch) (g : gG) (sz : Nat) (ad : Nat → Nat) (S : sS) (hb0 : ¬ ((S.1 6 9) = (0 : Int32)) → (S.1 6 3) < (8192 : Int32) → vp_in (S.1 6 3) 8192) (hb1 : ¬ ((S.1 6 9) = (0 : Int32)) → (S.1 6 3) < (8192 : Int32) → vp_in ((S.1 6 9) - (1 : Int32)) 50) : Cz l y_Calls_beginArgument b_Calls_beginArgument 1 rm_a_Calls_beginArgument g [.ref (ad 6)] (Sw shC g ad S) sz (fun r w => ∃ S' : sS, w = Sw shC g ad S' ∧ r = r_Calls_beginArgument S ∧ S' = s_Calls_beginArgument S) := by
  refine startZ (by decide) (Nat.le_of_ble_eq_true rfl) ?_
  intro p e s m below meth c A ls hx hb hr hml hlocks hmn hown htt hN hA hP hK hD hS hl
  have hown : s.vm.findClass "MacroMill$Calls" = some m.cls := hown
  have hl : lv_has ls 1 [(0, .ref (ad 6))] := hl
  refine lv_aload_n hx hb d_Calls_beginArgument_0 rfl (lv_at hl 0 rfl) ?_
  refine S_getI (h := shC) (C := "MacroMill$Calls") (T := F_Calls) hx hb htt in_Calls hown hK hP 6 9 rfl rfl rfl (by decide) (htt _ k_455) (fun _ h9 => h9) d_Calls_beginArgument_1 ?_
  refine lv_if_eq (tgt := 17) hx hb d_Calls_beginArgument_4 (by decide) (fun hc1 => ?_) (fun hc1 => ?_)
  · refine lv_iconst (v := 0) hx hb d_Calls_beginArgument_17 (by decide) ?_
    exact fin_z (g := g) (ws := Sw shC g ad S) (v := 0) hx hb hr hlocks rfl (by decide +kernel) (by decide +kernel) hP hD hS ⟨_, rfl, (by unfold r_Calls_beginArgument; rw [if_pos hc1]), (by unfold s_Calls_beginArgument; rw [if_pos hc1])⟩ d_Calls_beginArgument_18
  · refine lv_aload_n hx hb d_Calls_beginArgument_7 rfl (lv_at hl 0 rfl) ?_
    refine S_getI (h := shC) (C := "MacroMill$Calls") (T := F_Calls) hx hb htt in_Calls hown hK hP 6 3 rfl rfl rfl (by decide) (htt _ k_449) (fun _ h9 => h9) d_Calls_beginArgument_8 ?_
    refine lv_sipush (v := 8192) hx hb d_Calls_beginArgument_11 (by decide) ?_
    refine lv_icmp_lt (tgt := 19) hx hb d_Calls_beginArgument_14 (by decide) (fun hc2 => ?_) (fun hc2 => ?_)
    · refine lv_aload_n hx hb d_Calls_beginArgument_19 rfl (lv_at hl 0 rfl) ?_
      refine S_getR (h := shC) (C := "MacroMill$Calls") (T := F_Calls) hx hb htt in_Calls hown hK hP 6 2 rfl 32 rfl rfl (by decide) (htt _ k_448) (fun _ h9 => h9) d_Calls_beginArgument_20 ?_
      refine lv_aload_n hx hb d_Calls_beginArgument_23 rfl (lv_at hl 0 rfl) ?_
      refine S_getI (h := shC) (C := "MacroMill$Calls") (T := F_Calls) hx hb htt in_Calls hown hK hP 6 3 rfl rfl rfl (by decide) (htt _ k_449) (fun _ h9 => h9) d_Calls_beginArgument_24 ?_
      refine lv_aload_n hx hb d_Calls_beginArgument_27 rfl (lv_at hl 0 rfl) ?_
      refine S_getI (h := shC) (C := "MacroMill$Calls") (T := F_Calls) hx hb htt in_Calls hown hK hP 6 1 rfl rfl rfl (by decide) (htt _ k_447) (fun _ h9 => h9) d_Calls_beginArgument_28 ?_
      show W _ _ _ _ _ _ _ _ _ _ _ _ _ _ _ (F0 _ 31 _ _)
      refine S_iast (h := shC) (i := S.1 6 3) (v := S.1 6 1) hx hb hK hP hD hS 19 rfl (hb0 hc1 hc2) d_Calls_beginArgument_31 (fun H locs hP hD hS => ?_)
      refine lv_aload_n hx hb d_Calls_beginArgument_32 rfl (lv_at hl 0 rfl) ?_
      refine lv_dup hx hb d_Calls_beginArgument_33 rfl ?_
      refine S_getI (h := shC) (C := "MacroMill$Calls") (T := F_Calls) hx hb htt in_Calls hown hK hP 6 3 rfl rfl rfl (by decide) (htt _ k_449) (fun _ h9 => h9) d_Calls_beginArgument_34 ?_
      refine toI (y := S.1 6 3) rfl ?_
      refine lv_iconst (v := 1) hx hb d_Calls_beginArgument_37 (by decide) ?_
      refine lv_iadd hx hb d_Calls_beginArgument_38 ?_
      refine S_put (h := shC) (C := "MacroMill$Calls") (T := F_Calls) (v := (S.1 6 3) + (1 : Int32)) hx hb htt in_Calls t_Calls t_Calls_ok n_Calls hown hK hP hD hS 6 3 rfl rfl rfl (by decide) (htt _ k_449) (fun _ h9 => h9) rfl rfl rfl d_Calls_beginArgument_39 (fun H locs hP hD hS => ?_)
      refine lv_aload_n hx hb d_Calls_beginArgument_42 rfl (lv_at hl 0 rfl) ?_
      refine S_getR (h := shC) (C := "MacroMill$Calls") (T := F_Calls) hx hb htt in_Calls hown hK hP 6 8 rfl 37 rfl rfl (by decide) (htt _ k_454) (fun _ h9 => h9) d_Calls_beginArgument_43 ?_
      refine lv_aload_n hx hb d_Calls_beginArgument_46 rfl (lv_at hl 0 rfl) ?_
      refine S_getI (h := shC) (C := "MacroMill$Calls") (T := F_Calls) hx hb htt in_Calls hown hK hP 6 9 rfl rfl rfl (by decide) (htt _ k_455) (fun _ h9 => h9) d_Calls_beginArgument_47 ?_
      refine toI (y := S.1 6 9) rfl ?_
      refine lv_iconst (v := 1) hx hb d_Calls_beginArgument_50 (by decide) ?_
      show W _ _ _ _ _ _ _ _ _ _ _ _ _ _ _ (F0 _ 51 _ _)
      refine lv_isub hx hb d_Calls_beginArgument_51 ?_
      refine lv_iconst (v := 0) hx hb d_Calls_beginArgument_52 (by decide) ?_
      refine S_zast (h := shC) (i := (S.1 6 9) - (1 : Int32)) (v := 0) hx hb hK hP hD hS 24 rfl (hb1 hc1 hc2) d_Calls_beginArgument_53 (fun H locs hP hD hS => ?_)
      refine lv_iconst (v := 1) hx hb d_Calls_beginArgument_54 (by decide) ?_
      exact fin_z (g := g) (ws := Sw shC g ad (putA (putI (putA S 19 (S.1 6 3 : Int32).toNatClampNeg (S.1 6 1)) 6 3 ((S.1 6 3) + (1 : Int32))) 24 ((S.1 6 9) - (1 : Int32) : Int32).toNatClampNeg (vp_nar .boolean 0))) (v := 1) hx hb hr hlocks rfl (by decide +kernel) (by decide +kernel) hP hD hS ⟨_, rfl, (by unfold r_Calls_beginArgument; rw [if_neg hc1, if_pos hc2]), (by unfold s_Calls_beginArgument; rw [if_neg hc1, if_pos hc2])⟩ d_Calls_beginArgument_55
    · refine lv_iconst (v := 0) hx hb d_Calls_beginArgument_17 (by decide) ?_
      exact fin_z (g := g) (ws := Sw shC g ad S) (v := 0) hx hb hr hlocks rfl (by decide +kernel) (by decide +kernel) hP hD hS ⟨_, rfl, (by unfold r_Calls_beginArgument; rw [if_neg hc1, if_neg hc2]), (by unfold s_Calls_beginArgument; rw [if_neg hc1, if_neg hc2])⟩ d_Calls_beginArgument_18
def r_Calls_hasBegun (S : sS) : Int32 := if (S.1 6 9) ≤ (0 : Int32) then 0 else (if (S.2.1 24 ((S.1 6 9) - (1 : Int32) : Int32).toNatClampNeg) = (0 : Int32) then 0 else 1)
abbrev rm_a_Calls_hasBegun : Room := { frames := 0, cells := 0, slots := 0, locals := 0 }
set_option maxHeartbeats 4000000 in
set_option maxRecDepth 100000 in
theorem a_Calls_hasBegun (l : Launch) (g : gG) (sz : Nat) (ad : Nat → Nat) (S : sS) (hb0 : ¬ ((S.1 6 9) ≤ (0 : Int32)) → vp_in ((S.1 6 9) - (1 : Int32)) 50) : Cz l y_Calls_hasBegun b_Calls_hasBegun 1 rm_a_Calls_hasBegun g [.ref (ad 6)] (Sw shC g ad S) sz (fun r w => ∃ S' : sS, w = Sw shC g ad S' ∧ r = r_Calls_hasBegun S ∧ S' = S) := by
  refine startZ (by decide) (Nat.le_of_ble_eq_true rfl) ?_
  intro p e s m below meth c A ls hx hb hr hml hlocks hmn hown htt hN hA hP hK hD hS hl
  have hown : s.vm.findClass "MacroMill$Calls" = some m.cls := hown
  have hl : lv_has ls 1 [(0, .ref (ad 6))] := hl
  refine lv_aload_n hx hb d_Calls_hasBegun_0 rfl (lv_at hl 0 rfl) ?_
  refine S_getI (h := shC) (C := "MacroMill$Calls") (T := F_Calls) hx hb htt in_Calls hown hK hP 6 9 rfl rfl rfl (by decide) (htt _ k_455) (fun _ h9 => h9) d_Calls_hasBegun_1 ?_
  refine lv_if_le (tgt := 25) hx hb d_Calls_hasBegun_4 (by decide) (fun hc1 => ?_) (fun hc1 => ?_)
  · refine lv_iconst (v := 0) hx hb d_Calls_hasBegun_25 (by decide) ?_
    exact fin_z (g := g) (ws := Sw shC g ad S) (v := 0) hx hb hr hlocks rfl (by decide +kernel) (by decide +kernel) hP hD hS ⟨_, rfl, (by unfold r_Calls_hasBegun; rw [if_pos hc1]), rfl⟩ d_Calls_hasBegun_26
  · refine lv_aload_n hx hb d_Calls_hasBegun_7 rfl (lv_at hl 0 rfl) ?_
    refine S_getR (h := shC) (C := "MacroMill$Calls") (T := F_Calls) hx hb htt in_Calls hown hK hP 6 8 rfl 37 rfl rfl (by decide) (htt _ k_454) (fun _ h9 => h9) d_Calls_hasBegun_8 ?_
    refine lv_aload_n hx hb d_Calls_hasBegun_11 rfl (lv_at hl 0 rfl) ?_
    refine S_getI (h := shC) (C := "MacroMill$Calls") (T := F_Calls) hx hb htt in_Calls hown hK hP 6 9 rfl rfl rfl (by decide) (htt _ k_455) (fun _ h9 => h9) d_Calls_hasBegun_12 ?_
    refine lv_iconst (v := 1) hx hb d_Calls_hasBegun_15 (by decide) ?_
    refine lv_isub hx hb d_Calls_hasBegun_16 ?_
    refine S_zald (h := shC) (i := (S.1 6 9) - (1 : Int32)) hx hb hK hP 24 rfl (hb0 hc1) d_Calls_hasBegun_17 ?_
    refine lv_if_eq (tgt := 25) hx hb d_Calls_hasBegun_18 (by decide) (fun hc2 => ?_) (fun hc2 => ?_)
    · refine lv_iconst (v := 0) hx hb d_Calls_hasBegun_25 (by decide) ?_
      exact fin_z (g := g) (ws := Sw shC g ad S) (v := 0) hx hb hr hlocks rfl (by decide +kernel) (by decide +kernel) hP hD hS ⟨_, rfl, (by unfold r_Calls_hasBegun; rw [if_neg hc1, if_pos hc2]), rfl⟩ d_Calls_hasBegun_26
    · refine lv_iconst (v := 1) hx hb d_Calls_hasBegun_21 (by decide) ?_
      refine lv_goto (tgt := 26) hx hb d_Calls_hasBegun_22 (by decide) ?_
      show W _ _ _ _ _ _ _ _ _ _ _ _ _ _ _ (F0 _ 26 _ _)
      exact fin_z (g := g) (ws := Sw shC g ad S) (v := 1) hx hb hr hlocks rfl (by decide +kernel) (by decide +kernel) hP hD hS ⟨_, rfl, (by unfold r_Calls_hasBegun; rw [if_neg hc1, if_neg hc2]), rfl⟩ d_Calls_hasBegun_26
def s_Calls_markBegun (S : sS) : sS := if (S.1 6 9) ≤ (0 : Int32) then S else ((putA S 24 ((S.1 6 9) - (1 : Int32) : Int32).toNatClampNeg (vp_nar .boolean 1)))
abbrev rm_a_Calls_markBegun : Room := { frames := 0, cells := 0, slots := 0, locals := 0 }
set_option maxHeartbeats 4000000 in
set_option maxRecDepth 100000 in
theorem a_Calls_markBegun (l : Launch) (g : gG) (sz : Nat) (ad : Nat → Nat) (S : sS) (hb0 : ¬ ((S.1 6 9) ≤ (0 : Int32)) → vp_in ((S.1 6 9) - (1 : Int32)) 50) : Cv l y_Calls_markBegun b_Calls_markBegun 1 rm_a_Calls_markBegun g [.ref (ad 6)] (Sw shC g ad S) sz (fun w => ∃ S' : sS, w = Sw shC g ad S' ∧ S' = s_Calls_markBegun S) := by
  refine startV (by decide) (Nat.le_of_ble_eq_true rfl) ?_
  intro p e s m below meth c A ls hx hb hr hml hlocks hmn hown htt hN hA hP hK hD hS hl
  have hown : s.vm.findClass "MacroMill$Calls" = some m.cls := hown
  have hl : lv_has ls 1 [(0, .ref (ad 6))] := hl
  refine lv_aload_n hx hb d_Calls_markBegun_0 rfl (lv_at hl 0 rfl) ?_
  refine S_getI (h := shC) (C := "MacroMill$Calls") (T := F_Calls) hx hb htt in_Calls hown hK hP 6 9 rfl rfl rfl (by decide) (htt _ k_455) (fun _ h9 => h9) d_Calls_markBegun_1 ?_
  refine lv_if_le (tgt := 19) hx hb d_Calls_markBegun_4 (by decide) (fun hc1 => ?_) (fun hc1 => ?_)
  · exact fin_v (g := g) (ws := Sw shC g ad S) hx hb hr hlocks (by decide +kernel) (by decide +kernel) hP hD hS ⟨_, rfl, (by unfold s_Calls_markBegun; rw [if_pos hc1])⟩ d_Calls_markBegun_19
  · refine lv_aload_n hx hb d_Calls_markBegun_7 rfl (lv_at hl 0 rfl) ?_
    refine S_getR (h := shC) (C := "MacroMill$Calls") (T := F_Calls) hx hb htt in_Calls hown hK hP 6 8 rfl 37 rfl rfl (by decide) (htt _ k_454) (fun _ h9 => h9) d_Calls_markBegun_8 ?_
    refine lv_aload_n hx hb d_Calls_markBegun_11 rfl (lv_at hl 0 rfl) ?_
    refine S_getI (h := shC) (C := "MacroMill$Calls") (T := F_Calls) hx hb htt in_Calls hown hK hP 6 9 rfl rfl rfl (by decide) (htt _ k_455) (fun _ h9 => h9) d_Calls_markBegun_12 ?_
    refine lv_iconst (v := 1) hx hb d_Calls_markBegun_15 (by decide) ?_
    refine lv_isub hx hb d_Calls_markBegun_16 ?_
    refine lv_iconst (v := 1) hx hb d_Calls_markBegun_17 (by decide) ?_
    refine S_zast (h := shC) (i := (S.1 6 9) - (1 : Int32)) (v := 1) hx hb hK hP hD hS 24 rfl (hb0 hc1) d_Calls_markBegun_18 (fun H locs hP hD hS => ?_)
    exact fin_v (g := g) (ws := Sw shC g ad (putA S 24 ((S.1 6 9) - (1 : Int32) : Int32).toNatClampNeg (vp_nar .boolean 1))) hx hb hr hlocks (by decide +kernel) (by decide +kernel) hP hD hS ⟨_, rfl, (by unfold s_Calls_markBegun; rw [if_neg hc1])⟩ d_Calls_markBegun_19
def r_Calls_nestingNow (S : sS) : Int32 := if (S.1 6 9) ≤ (0 : Int32) then 0 else (S.2.1 23 ((S.1 6 9) - (1 : Int32) : Int32).toNatClampNeg)
abbrev rm_a_Calls_nestingNow : Room := { frames := 0, cells := 0, slots := 0, locals := 0 }
set_option maxHeartbeats 4000000 in
set_option maxRecDepth 100000 in
theorem a_Calls_nestingNow (l : Launch) (g : gG) (sz : Nat) (ad : Nat → Nat) (S : sS) (hb0 : ¬ ((S.1 6 9) ≤ (0 : Int32)) → vp_in ((S.1 6 9) - (1 : Int32)) 50) : Ci l y_Calls_nestingNow b_Calls_nestingNow 1 rm_a_Calls_nestingNow g [.ref (ad 6)] (Sw shC g ad S) sz (fun r w => ∃ S' : sS, w = Sw shC g ad S' ∧ r = r_Calls_nestingNow S ∧ S' = S) := by
  refine startI (by decide) (Nat.le_of_ble_eq_true rfl) ?_
  intro p e s m below meth c A ls hx hb hr hml hlocks hmn hown htt hN hA hP hK hD hS hl
  have hown : s.vm.findClass "MacroMill$Calls" = some m.cls := hown
  have hl : lv_has ls 1 [(0, .ref (ad 6))] := hl
  refine lv_aload_n hx hb d_Calls_nestingNow_0 rfl (lv_at hl 0 rfl) ?_
  refine S_getI (h := shC) (C := "MacroMill$Calls") (T := F_Calls) hx hb htt in_Calls hown hK hP 6 9 rfl rfl rfl (by decide) (htt _ k_455) (fun _ h9 => h9) d_Calls_nestingNow_1 ?_
  refine lv_if_le (tgt := 21) hx hb d_Calls_nestingNow_4 (by decide) (fun hc1 => ?_) (fun hc1 => ?_)
  · refine lv_iconst (v := 0) hx hb d_Calls_nestingNow_21 (by decide) ?_
    exact fin_i (g := g) (ws := Sw shC g ad S) (v := 0) hx hb hr hlocks (by decide +kernel) (by decide +kernel) hP hD hS ⟨_, rfl, (by unfold r_Calls_nestingNow; rw [if_pos hc1]), rfl⟩ d_Calls_nestingNow_22
  · refine lv_aload_n hx hb d_Calls_nestingNow_7 rfl (lv_at hl 0 rfl) ?_
    refine S_getR (h := shC) (C := "MacroMill$Calls") (T := F_Calls) hx hb htt in_Calls hown hK hP 6 7 rfl 36 rfl rfl (by decide) (htt _ k_453) (fun _ h9 => h9) d_Calls_nestingNow_8 ?_
    refine lv_aload_n hx hb d_Calls_nestingNow_11 rfl (lv_at hl 0 rfl) ?_
    refine S_getI (h := shC) (C := "MacroMill$Calls") (T := F_Calls) hx hb htt in_Calls hown hK hP 6 9 rfl rfl rfl (by decide) (htt _ k_455) (fun _ h9 => h9) d_Calls_nestingNow_12 ?_
    refine lv_iconst (v := 1) hx hb d_Calls_nestingNow_15 (by decide) ?_
    refine lv_isub hx hb d_Calls_nestingNow_16 ?_
    refine S_iald (h := shC) (i := (S.1 6 9) - (1 : Int32)) hx hb hK hP 23 rfl (hb0 hc1) d_Calls_nestingNow_17 ?_
    refine lv_goto (tgt := 22) hx hb d_Calls_nestingNow_18 (by decide) ?_
    exact fin_i (g := g) (ws := Sw shC g ad S) (v := S.2.1 23 ((S.1 6 9) - (1 : Int32) : Int32).toNatClampNeg) hx hb hr hlocks (by decide +kernel) (by decide +kernel) hP hD hS ⟨_, rfl, (by unfold r_Calls_nestingNow; rw [if_neg hc1]), rfl⟩ d_Calls_nestingNow_22
def s_Calls_nestBy (S : sS) (v1 : Int32) : sS := if (S.1 6 9) ≤ (0 : Int32) then S else ((putA S 23 ((S.1 6 9) - (1 : Int32) : Int32).toNatClampNeg ((S.2.1 23 ((S.1 6 9) - (1 : Int32) : Int32).toNatClampNeg) + v1)))
abbrev rm_a_Calls_nestBy : Room := { frames := 0, cells := 0, slots := 0, locals := 0 }
set_option maxHeartbeats 4000000 in
set_option maxRecDepth 100000 in
theorem a_Calls_nestBy (l : Launch) (g : gG) (sz : Nat) (ad : Nat → Nat) (S : sS) (v1 : Int32) (hb0 : ¬ ((S.1 6 9) ≤ (0 : Int32)) → vp_in ((S.1 6 9) - (1 : Int32)) 50) : Cv l y_Calls_nestBy b_Calls_nestBy 2 rm_a_Calls_nestBy g [.ref (ad 6), .int v1] (Sw shC g ad S) sz (fun w => ∃ S' : sS, w = Sw shC g ad S' ∧ S' = s_Calls_nestBy S v1) := by
  refine startV (by decide) (Nat.le_of_ble_eq_true rfl) ?_
  intro p e s m below meth c A ls hx hb hr hml hlocks hmn hown htt hN hA hP hK hD hS hl
  have hown : s.vm.findClass "MacroMill$Calls" = some m.cls := hown
  have hl : lv_has ls 2 [(0, .ref (ad 6)), (1, .int v1)] := hl
  refine lv_aload_n hx hb d_Calls_nestBy_0 rfl (lv_at hl 0 rfl) ?_
  refine S_getI (h := shC) (C := "MacroMill$Calls") (T := F_Calls) hx hb htt in_Calls hown hK hP 6 9 rfl rfl rfl (by decide) (htt _ k_455) (fun _ h9 => h9) d_Calls_nestBy_1 ?_
  refine lv_if_le (tgt := 22) hx hb d_Calls_nestBy_4 (by decide) (fun hc1 => ?_) (fun hc1 => ?_)
  · exact fin_v (g := g) (ws := Sw shC g ad S) hx hb hr hlocks (by decide +kernel) (by decide +kernel) hP hD hS ⟨_, rfl, (by unfold s_Calls_nestBy; rw [if_pos hc1])⟩ d_Calls_nestBy_22
  · refine lv_aload_n hx hb d_Calls_nestBy_7 rfl (lv_at hl 0 rfl) ?_
    refine S_getR (h := shC) (C := "MacroMill$Calls") (T := F_Calls) hx hb htt in_Calls hown hK hP 6 7 rfl 36 rfl rfl (by decide) (htt _ k_453) (fun _ h9 => h9) d_Calls_nestBy_8 ?_
    refine lv_aload_n hx hb d_Calls_nestBy_11 rfl (lv_at hl 0 rfl) ?_
    refine S_getI (h := shC) (C := "MacroMill$Calls") (T := F_Calls) hx hb htt in_Calls hown hK hP 6 9 rfl rfl rfl (by decide) (htt _ k_455) (fun _ h9 => h9) d_Calls_nestBy_12 ?_
    refine lv_iconst (v := 1) hx hb d_Calls_nestBy_15 (by decide) ?_
    refine lv_isub hx hb d_Calls_nestBy_16 ?_
    refine lv_dup2_11 hx hb d_Calls_nestBy_17 rfl rfl ?_
    refine S_iald (h := shC) (i := (S.1 6 9) - (1 : Int32)) hx hb hK hP 23 rfl (hb0 hc1) d_Calls_nestBy_18 ?_
    refine lv_iload_n hx hb d_Calls_nestBy_19 rfl (lv_at hl 1 rfl) ?_
    show W _ _ _ _ _ _ _ _ _ _ _ _ _ _ _ (F0 _ 20 _ _)
    refine lv_iadd hx hb d_Calls_nestBy_20 ?_
    refine S_iast (h := shC) (i := (S.1 6 9) - (1 : Int32)) (v := (S.2.1 23 ((S.1 6 9) - (1 : Int32) : Int32).toNatClampNeg) + v1) hx hb hK hP hD hS 23 rfl (hb0 hc1) d_Calls_nestBy_21 (fun H locs hP hD hS => ?_)
    exact fin_v (g := g) (ws := Sw shC g ad (putA S 23 ((S.1 6 9) - (1 : Int32) : Int32).toNatClampNeg ((S.2.1 23 ((S.1 6 9) - (1 : Int32) : Int32).toNatClampNeg) + v1))) hx hb hr hlocks (by decide +kernel) (by decide +kernel) hP hD hS ⟨_, rfl, (by unfold s_Calls_nestBy; rw [if_neg hc1])⟩ d_Calls_nestBy_22
def r_Calls_nameFrom (S : sS) : Int32 := if (S.1 6 9) ≤ (0 : Int32) then 0 else (S.2.1 20 ((S.1 6 9) - (1 : Int32) : Int32).toNatClampNeg)
abbrev rm_a_Calls_nameFrom : Room := { frames := 0, cells := 0, slots := 0, locals := 0 }
set_option maxHeartbeats 4000000 in
set_option maxRecDepth 100000 in
theorem a_Calls_nameFrom (l : Launch) (g : gG) (sz : Nat) (ad : Nat → Nat) (S : sS) (hb0 : ¬ ((S.1 6 9) ≤ (0 : Int32)) → vp_in ((S.1 6 9) - (1 : Int32)) 50) : Ci l y_Calls_nameFrom b_Calls_nameFrom 1 rm_a_Calls_nameFrom g [.ref (ad 6)] (Sw shC g ad S) sz (fun r w => ∃ S' : sS, w = Sw shC g ad S' ∧ r = r_Calls_nameFrom S ∧ S' = S) := by
  refine startI (by decide) (Nat.le_of_ble_eq_true rfl) ?_
  intro p e s m below meth c A ls hx hb hr hml hlocks hmn hown htt hN hA hP hK hD hS hl
  have hown : s.vm.findClass "MacroMill$Calls" = some m.cls := hown
  have hl : lv_has ls 1 [(0, .ref (ad 6))] := hl
  refine lv_aload_n hx hb d_Calls_nameFrom_0 rfl (lv_at hl 0 rfl) ?_
  refine S_getI (h := shC) (C := "MacroMill$Calls") (T := F_Calls) hx hb htt in_Calls hown hK hP 6 9 rfl rfl rfl (by decide) (htt _ k_455) (fun _ h9 => h9) d_Calls_nameFrom_1 ?_
  refine lv_if_le (tgt := 21) hx hb d_Calls_nameFrom_4 (by decide) (fun hc1 => ?_) (fun hc1 => ?_)
  · refine lv_iconst (v := 0) hx hb d_Calls_nameFrom_21 (by decide) ?_
    exact fin_i (g := g) (ws := Sw shC g ad S) (v := 0) hx hb hr hlocks (by decide +kernel) (by decide +kernel) hP hD hS ⟨_, rfl, (by unfold r_Calls_nameFrom; rw [if_pos hc1]), rfl⟩ d_Calls_nameFrom_22
  · refine lv_aload_n hx hb d_Calls_nameFrom_7 rfl (lv_at hl 0 rfl) ?_
    refine S_getR (h := shC) (C := "MacroMill$Calls") (T := F_Calls) hx hb htt in_Calls hown hK hP 6 4 rfl 33 rfl rfl (by decide) (htt _ k_450) (fun _ h9 => h9) d_Calls_nameFrom_8 ?_
    refine lv_aload_n hx hb d_Calls_nameFrom_11 rfl (lv_at hl 0 rfl) ?_
    refine S_getI (h := shC) (C := "MacroMill$Calls") (T := F_Calls) hx hb htt in_Calls hown hK hP 6 9 rfl rfl rfl (by decide) (htt _ k_455) (fun _ h9 => h9) d_Calls_nameFrom_12 ?_
    refine lv_iconst (v := 1) hx hb d_Calls_nameFrom_15 (by decide) ?_
    refine lv_isub hx hb d_Calls_nameFrom_16 ?_
    refine S_iald (h := shC) (i := (S.1 6 9) - (1 : Int32)) hx hb hK hP 20 rfl (hb0 hc1) d_Calls_nameFrom_17 ?_
    refine lv_goto (tgt := 22) hx hb d_Calls_nameFrom_18 (by decide) ?_
    exact fin_i (g := g) (ws := Sw shC g ad S) (v := S.2.1 20 ((S.1 6 9) - (1 : Int32) : Int32).toNatClampNeg) hx hb hr hlocks (by decide +kernel) (by decide +kernel) hP hD hS ⟨_, rfl, (by unfold r_Calls_nameFrom; rw [if_neg hc1]), rfl⟩ d_Calls_nameFrom_22
def r_Calls_nameSize (S : sS) : Int32 := if (S.1 6 9) ≤ (0 : Int32) then 0 else (S.2.1 21 ((S.1 6 9) - (1 : Int32) : Int32).toNatClampNeg)
abbrev rm_a_Calls_nameSize : Room := { frames := 0, cells := 0, slots := 0, locals := 0 }
set_option maxHeartbeats 4000000 in
set_option maxRecDepth 100000 in
theorem a_Calls_nameSize (l : Launch) (g : gG) (sz : Nat) (ad : Nat → Nat) (S : sS) (hb0 : ¬ ((S.1 6 9) ≤ (0 : Int32)) → vp_in ((S.1 6 9) - (1 : Int32)) 50) : Ci l y_Calls_nameSize b_Calls_nameSize 1 rm_a_Calls_nameSize g [.ref (ad 6)] (Sw shC g ad S) sz (fun r w => ∃ S' : sS, w = Sw shC g ad S' ∧ r = r_Calls_nameSize S ∧ S' = S) := by
  refine startI (by decide) (Nat.le_of_ble_eq_true rfl) ?_
  intro p e s m below meth c A ls hx hb hr hml hlocks hmn hown htt hN hA hP hK hD hS hl
  have hown : s.vm.findClass "MacroMill$Calls" = some m.cls := hown
  have hl : lv_has ls 1 [(0, .ref (ad 6))] := hl
  refine lv_aload_n hx hb d_Calls_nameSize_0 rfl (lv_at hl 0 rfl) ?_
  refine S_getI (h := shC) (C := "MacroMill$Calls") (T := F_Calls) hx hb htt in_Calls hown hK hP 6 9 rfl rfl rfl (by decide) (htt _ k_455) (fun _ h9 => h9) d_Calls_nameSize_1 ?_
  refine lv_if_le (tgt := 21) hx hb d_Calls_nameSize_4 (by decide) (fun hc1 => ?_) (fun hc1 => ?_)
  · refine lv_iconst (v := 0) hx hb d_Calls_nameSize_21 (by decide) ?_
    exact fin_i (g := g) (ws := Sw shC g ad S) (v := 0) hx hb hr hlocks (by decide +kernel) (by decide +kernel) hP hD hS ⟨_, rfl, (by unfold r_Calls_nameSize; rw [if_pos hc1]), rfl⟩ d_Calls_nameSize_22
  · refine lv_aload_n hx hb d_Calls_nameSize_7 rfl (lv_at hl 0 rfl) ?_
    refine S_getR (h := shC) (C := "MacroMill$Calls") (T := F_Calls) hx hb htt in_Calls hown hK hP 6 5 rfl 34 rfl rfl (by decide) (htt _ k_451) (fun _ h9 => h9) d_Calls_nameSize_8 ?_
    refine lv_aload_n hx hb d_Calls_nameSize_11 rfl (lv_at hl 0 rfl) ?_
    refine S_getI (h := shC) (C := "MacroMill$Calls") (T := F_Calls) hx hb htt in_Calls hown hK hP 6 9 rfl rfl rfl (by decide) (htt _ k_455) (fun _ h9 => h9) d_Calls_nameSize_12 ?_
    refine lv_iconst (v := 1) hx hb d_Calls_nameSize_15 (by decide) ?_
    refine lv_isub hx hb d_Calls_nameSize_16 ?_
    refine S_iald (h := shC) (i := (S.1 6 9) - (1 : Int32)) hx hb hK hP 21 rfl (hb0 hc1) d_Calls_nameSize_17 ?_
    refine lv_goto (tgt := 22) hx hb d_Calls_nameSize_18 (by decide) ?_
    exact fin_i (g := g) (ws := Sw shC g ad S) (v := S.2.1 21 ((S.1 6 9) - (1 : Int32) : Int32).toNatClampNeg) hx hb hr hlocks (by decide +kernel) (by decide +kernel) hP hD hS ⟨_, rfl, (by unfold r_Calls_nameSize; rw [if_neg hc1]), rfl⟩ d_Calls_nameSize_22
def r_Calls_arguments (S : sS) : Int32 := if (S.1 6 9) ≤ (0 : Int32) then 0 else ((S.1 6 3) - (S.2.1 22 ((S.1 6 9) - (1 : Int32) : Int32).toNatClampNeg))
abbrev rm_a_Calls_arguments : Room := { frames := 0, cells := 0, slots := 0, locals := 0 }
set_option maxHeartbeats 4000000 in
set_option maxRecDepth 100000 in
theorem a_Calls_arguments (l : Launch) (g : gG) (sz : Nat) (ad : Nat → Nat) (S : sS) (hb0 : ¬ ((S.1 6 9) ≤ (0 : Int32)) → vp_in ((S.1 6 9) - (1 : Int32)) 50) : Ci l y_Calls_arguments b_Calls_arguments 1 rm_a_Calls_arguments g [.ref (ad 6)] (Sw shC g ad S) sz (fun r w => ∃ S' : sS, w = Sw shC g ad S' ∧ r = r_Calls_arguments S ∧ S' = S) := by
  refine startI (by decide) (Nat.le_of_ble_eq_true rfl) ?_
  intro p e s m below meth c A ls hx hb hr hml hlocks hmn hown htt hN hA hP hK hD hS hl
  have hown : s.vm.findClass "MacroMill$Calls" = some m.cls := hown
  have hl : lv_has ls 1 [(0, .ref (ad 6))] := hl
  refine lv_aload_n hx hb d_Calls_arguments_0 rfl (lv_at hl 0 rfl) ?_
  refine S_getI (h := shC) (C := "MacroMill$Calls") (T := F_Calls) hx hb htt in_Calls hown hK hP 6 9 rfl rfl rfl (by decide) (htt _ k_455) (fun _ h9 => h9) d_Calls_arguments_1 ?_
  refine lv_if_le (tgt := 26) hx hb d_Calls_arguments_4 (by decide) (fun hc1 => ?_) (fun hc1 => ?_)
  · refine lv_iconst (v := 0) hx hb d_Calls_arguments_26 (by decide) ?_
    exact fin_i (g := g) (ws := Sw shC g ad S) (v := 0) hx hb hr hlocks (by decide +kernel) (by decide +kernel) hP hD hS ⟨_, rfl, (by unfold r_Calls_arguments; rw [if_pos hc1]), rfl⟩ d_Calls_arguments_27
  · refine lv_aload_n hx hb d_Calls_arguments_7 rfl (lv_at hl 0 rfl) ?_
    refine S_getI (h := shC) (C := "MacroMill$Calls") (T := F_Calls) hx hb htt in_Calls hown hK hP 6 3 rfl rfl rfl (by decide) (htt _ k_449) (fun _ h9 => h9) d_Calls_arguments_8 ?_
    refine lv_aload_n hx hb d_Calls_arguments_11 rfl (lv_at hl 0 rfl) ?_
    refine S_getR (h := shC) (C := "MacroMill$Calls") (T := F_Calls) hx hb htt in_Calls hown hK hP 6 6 rfl 35 rfl rfl (by decide) (htt _ k_452) (fun _ h9 => h9) d_Calls_arguments_12 ?_
    refine lv_aload_n hx hb d_Calls_arguments_15 rfl (lv_at hl 0 rfl) ?_
    refine S_getI (h := shC) (C := "MacroMill$Calls") (T := F_Calls) hx hb htt in_Calls hown hK hP 6 9 rfl rfl rfl (by decide) (htt _ k_455) (fun _ h9 => h9) d_Calls_arguments_16 ?_
    refine lv_iconst (v := 1) hx hb d_Calls_arguments_19 (by decide) ?_
    refine lv_isub hx hb d_Calls_arguments_20 ?_
    refine S_iald (h := shC) (i := (S.1 6 9) - (1 : Int32)) hx hb hK hP 22 rfl (hb0 hc1) d_Calls_arguments_21 ?_
    show W _ _ _ _ _ _ _ _ _ _ _ _ _ _ _ (F0 _ 22 _ _)
    refine lv_isub hx hb d_Calls_arguments_22 ?_
    refine lv_goto (tgt := 27) hx hb d_Calls_arguments_23 (by decide) ?_
    exact fin_i (g := g) (ws := Sw shC g ad S) (v := (S.1 6 3) - (S.2.1 22 ((S.1 6 9) - (1 : Int32) : Int32).toNatClampNeg)) hx hb hr hlocks (by decide +kernel) (by decide +kernel) hP hD hS ⟨_, rfl, (by unfold r_Calls_arguments; rw [if_neg hc1]), rfl⟩ d_Calls_arguments_27
def r_Calls_argumentFrom (S : sS) (v1 : Int32) : Int32 := if (S.1 6 9) ≤ (0 : Int32) then (if (S.1 6 3) ≤ (S.1 6 3) then (S.1 6 1) else (S.2.1 19 (S.1 6 3 : Int32).toNatClampNeg)) else (if (S.1 6 3) ≤ ((S.2.1 22 ((S.1 6 9) - (1 : Int32) : Int32).toNatClampNeg) + v1) then (S.1 6 1) else (S.2.1 19 ((S.2.1 22 ((S.1 6 9) - (1 : Int32) : Int32).toNatClampNeg) + v1 : Int32).toNatClampNeg))
abbrev rm_a_Calls_argumentFrom : Room := { frames := 0, cells := 0, slots := 0, locals := 0 }
set_option maxHeartbeats 4000000 in
set_option maxRecDepth 100000 in
theorem a_Calls_argumentFrom (l : Launch) (g : gG) (sz : Nat) (ad : Nat → Nat) (S : sS) (v1 : Int32) (hb0 : (S.1 6 9) ≤ (0 : Int32) → ¬ ((S.1 6 3) ≤ (S.1 6 3)) → vp_in (S.1 6 3) 8192) (hb1 : ¬ ((S.1 6 9) ≤ (0 : Int32)) → vp_in ((S.1 6 9) - (1 : Int32)) 50) (hb2 : ¬ ((S.1 6 9) ≤ (0 : Int32)) → ¬ ((S.1 6 3) ≤ ((S.2.1 22 ((S.1 6 9) - (1 : Int32) : Int32).toNatClampNeg) + v1)) → vp_in ((S.2.1 22 ((S.1 6 9) - (1 : Int32) : Int32).toNatClampNeg) + v1) 8192) : Ci l y_Calls_argumentFrom b_Calls_argumentFrom 3 rm_a_Calls_argumentFrom g [.ref (ad 6), .int v1] (Sw shC g ad S) sz (fun r w => ∃ S' : sS, w = Sw shC g ad S' ∧ r = r_Calls_argumentFrom S v1 ∧ S' = S) := by
  refine startI (by decide) (Nat.le_of_ble_eq_true rfl) ?_
  intro p e s m below meth c A ls hx hb hr hml hlocks hmn hown htt hN hA hP hK hD hS hl
  have hown : s.vm.findClass "MacroMill$Calls" = some m.cls := hown
  have hl : lv_has ls 3 [(0, .ref (ad 6)), (1, .int v1)] := hl
  refine lv_aload_n hx hb d_Calls_argumentFrom_0 rfl (lv_at hl 0 rfl) ?_
  refine S_getI (h := shC) (C := "MacroMill$Calls") (T := F_Calls) hx hb htt in_Calls hown hK hP 6 9 rfl rfl rfl (by decide) (htt _ k_455) (fun _ h9 => h9) d_Calls_argumentFrom_1 ?_
  refine lv_if_le (tgt := 23) hx hb d_Calls_argumentFrom_4 (by decide) (fun hc1 => ?_) (fun hc1 => ?_)
  · refine lv_aload_n hx hb d_Calls_argumentFrom_23 rfl (lv_at hl 0 rfl) ?_
    refine S_getI (h := shC) (C := "MacroMill$Calls") (T := F_Calls) hx hb htt in_Calls hown hK hP 6 3 rfl rfl rfl (by decide) (htt _ k_449) (fun _ h9 => h9) d_Calls_argumentFrom_24 ?_
    refine lv_istore_n (lv' := [(2, .int (S.1 6 3)), (0, .ref (ad 6)), (1, .int v1)]) hx hb d_Calls_argumentFrom_27 rfl hl (by decide) rfl (fun ls hl => ?_)
    refine lv_iload_n hx hb d_Calls_argumentFrom_28 rfl (lv_at hl 0 rfl) ?_
    refine lv_aload_n hx hb d_Calls_argumentFrom_29 rfl (lv_at hl 1 rfl) ?_
    refine S_getI (h := shC) (C := "MacroMill$Calls") (T := F_Calls) hx hb htt in_Calls hown hK hP 6 3 rfl rfl rfl (by decide) (htt _ k_449) (fun _ h9 => h9) d_Calls_argumentFrom_30 ?_
    refine lv_icmp_ge (tgt := 45) hx hb d_Calls_argumentFrom_33 (by decide) (fun hc2 => ?_) (fun hc2 => ?_)
    · refine lv_aload_n hx hb d_Calls_argumentFrom_45 rfl (lv_at hl 1 rfl) ?_
      refine S_getI (h := shC) (C := "MacroMill$Calls") (T := F_Calls) hx hb htt in_Calls hown hK hP 6 1 rfl rfl rfl (by decide) (htt _ k_447) (fun _ h9 => h9) d_Calls_argumentFrom_46 ?_
      exact fin_i (g := g) (ws := Sw shC g ad S) (v := S.1 6 1) hx hb hr hlocks (by decide +kernel) (by decide +kernel) hP hD hS ⟨_, rfl, (by unfold r_Calls_argumentFrom; rw [if_pos hc1, if_pos hc2]), rfl⟩ d_Calls_argumentFrom_49
    · refine lv_aload_n hx hb d_Calls_argumentFrom_36 rfl (lv_at hl 1 rfl) ?_
      refine S_getR (h := shC) (C := "MacroMill$Calls") (T := F_Calls) hx hb htt in_Calls hown hK hP 6 2 rfl 32 rfl rfl (by decide) (htt _ k_448) (fun _ h9 => h9) d_Calls_argumentFrom_37 ?_
      refine lv_iload_n hx hb d_Calls_argumentFrom_40 rfl (lv_at hl 0 rfl) ?_
      show W _ _ _ _ _ _ _ _ _ _ _ _ _ _ _ (F0 _ 41 _ _)
      refine S_iald (h := shC) (i := S.1 6 3) hx hb hK hP 19 rfl (hb0 hc1 hc2) d_Calls_argumentFrom_41 ?_
      refine lv_goto (tgt := 49) hx hb d_Calls_argumentFrom_42 (by decide) ?_
      exact fin_i (g := g) (ws := Sw shC g ad S) (v := S.2.1 19 (S.1 6 3 : Int32).toNatClampNeg) hx hb hr hlocks (by decide +kernel) (by decide +kernel) hP hD hS ⟨_, rfl, (by unfold r_Calls_argumentFrom; rw [if_pos hc1, if_neg hc2]), rfl⟩ d_Calls_argumentFrom_49
  · refine lv_aload_n hx hb d_Calls_argumentFrom_7 rfl (lv_at hl 0 rfl) ?_
    refine S_getR (h := shC) (C := "MacroMill$Calls") (T := F_Calls) hx hb htt in_Calls hown hK hP 6 6 rfl 35 rfl rfl (by decide) (htt _ k_452) (fun _ h9 => h9) d_Calls_argumentFrom_8 ?_
    refine lv_aload_n hx hb d_Calls_argumentFrom_11 rfl (lv_at hl 0 rfl) ?_
    refine S_getI (h := shC) (C := "MacroMill$Calls") (T := F_Calls) hx hb htt in_Calls hown hK hP 6 9 rfl rfl rfl (by decide) (htt _ k_455) (fun _ h9 => h9) d_Calls_argumentFrom_12 ?_
    refine lv_iconst (v := 1) hx hb d_Calls_argumentFrom_15 (by decide) ?_
    refine lv_isub hx hb d_Calls_argumentFrom_16 ?_
    refine S_iald (h := shC) (i := (S.1 6 9) - (1 : Int32)) hx hb hK hP 22 rfl (hb1 hc1) d_Calls_argumentFrom_17 ?_
    refine lv_iload_n hx hb d_Calls_argumentFrom_18 rfl (lv_at hl 1 rfl) ?_
    refine lv_iadd hx hb d_Calls_argumentFrom_19 ?_
    show W _ _ _ _ _ _ _ _ _ _ _ _ _ _ _ (F0 _ 20 _ _)
    refine lv_goto (tgt := 27) hx hb d_Calls_argumentFrom_20 (by decide) ?_
    refine lv_istore_n (lv' := [(2, .int ((S.2.1 22 ((S.1 6 9) - (1 : Int32) : Int32).toNatClampNeg) + v1)), (0, .ref (ad 6)), (1, .int v1)]) hx hb d_Calls_argumentFrom_27 rfl hl (by decide) rfl (fun ls hl => ?_)
    refine lv_iload_n hx hb d_Calls_argumentFrom_28 rfl (lv_at hl 0 rfl) ?_
    refine lv_aload_n hx hb d_Calls_argumentFrom_29 rfl (lv_at hl 1 rfl) ?_
    refine S_getI (h := shC) (C := "MacroMill$Calls") (T := F_Calls) hx hb htt in_Calls hown hK hP 6 3 rfl rfl rfl (by decide) (htt _ k_449) (fun _ h9 => h9) d_Calls_argumentFrom_30 ?_
    refine lv_icmp_ge (tgt := 45) hx hb d_Calls_argumentFrom_33 (by decide) (fun hc3 => ?_) (fun hc3 => ?_)
    · refine lv_aload_n hx hb d_Calls_argumentFrom_45 rfl (lv_at hl 1 rfl) ?_
      refine S_getI (h := shC) (C := "MacroMill$Calls") (T := F_Calls) hx hb htt in_Calls hown hK hP 6 1 rfl rfl rfl (by decide) (htt _ k_447) (fun _ h9 => h9) d_Calls_argumentFrom_46 ?_
      exact fin_i (g := g) (ws := Sw shC g ad S) (v := S.1 6 1) hx hb hr hlocks (by decide +kernel) (by decide +kernel) hP hD hS ⟨_, rfl, (by unfold r_Calls_argumentFrom; rw [if_neg hc1, if_pos hc3]), rfl⟩ d_Calls_argumentFrom_49
    · refine lv_aload_n hx hb d_Calls_argumentFrom_36 rfl (lv_at hl 1 rfl) ?_
      refine S_getR (h := shC) (C := "MacroMill$Calls") (T := F_Calls) hx hb htt in_Calls hown hK hP 6 2 rfl 32 rfl rfl (by decide) (htt _ k_448) (fun _ h9 => h9) d_Calls_argumentFrom_37 ?_
      refine lv_iload_n hx hb d_Calls_argumentFrom_40 rfl (lv_at hl 0 rfl) ?_
      refine S_iald (h := shC) (i := (S.2.1 22 ((S.1 6 9) - (1 : Int32) : Int32).toNatClampNeg) + v1) hx hb hK hP 19 rfl (hb2 hc1 hc3) d_Calls_argumentFrom_41 ?_
      refine lv_goto (tgt := 49) hx hb d_Calls_argumentFrom_42 (by decide) ?_
      exact fin_i (g := g) (ws := Sw shC g ad S) (v := S.2.1 19 ((S.2.1 22 ((S.1 6 9) - (1 : Int32) : Int32).toNatClampNeg) + v1 : Int32).toNatClampNeg) hx hb hr hlocks (by decide +kernel) (by decide +kernel) hP hD hS ⟨_, rfl, (by unfold r_Calls_argumentFrom; rw [if_neg hc1, if_neg hc3]), rfl⟩ d_Calls_argumentFrom_49
def r_Calls_argumentSize (S : sS) (v1 : Int32) : Int32 := (r_Calls_argumentFrom S (v1 + (1 : Int32))) - (r_Calls_argumentFrom S (v1))
abbrev rm_a_Calls_argumentSize : Room := { frames := 1, cells := 0, slots := 0, locals := 22 }
set_option maxHeartbeats 4000000 in
set_option maxRecDepth 100000 in
theorem a_Calls_argumentSize (l : Launch) (g : gG) (sz : Nat) (ad : Nat → Nat) (S : sS) (v1 : Int32) (hb0 : (S.1 6 9) ≤ (0 : Int32) → ¬ ((S.1 6 3) ≤ (S.1 6 3)) → vp_in (S.1 6 3) 8192) (hb1 : ¬ ((S.1 6 9) ≤ (0 : Int32)) → vp_in ((S.1 6 9) - (1 : Int32)) 50) (hb2 : ¬ ((S.1 6 9) ≤ (0 : Int32)) → ¬ ((S.1 6 3) ≤ ((S.2.1 22 ((S.1 6 9) - (1 : Int32) : Int32).toNatClampNeg) + (v1 + (1 : Int32)))) → vp_in ((S.2.1 22 ((S.1 6 9) - (1 : Int32) : Int32).toNatClampNeg) + (v1 + (1 : Int32))) 8192) (hb3 : ¬ ((S.1 6 9) ≤ (0 : Int32)) → ¬ ((S.1 6 3) ≤ ((S.2.1 22 ((S.1 6 9) - (1 : Int32) : Int32).toNatClampNeg) + (v1))) → vp_in ((S.2.1 22 ((S.1 6 9) - (1 : Int32) : Int32).toNatClampNeg) + (v1)) 8192) : Ci l y_Calls_argumentSize b_Calls_argumentSize 2 rm_a_Calls_argumentSize g [.ref (ad 6), .int v1] (Sw shC g ad S) sz (fun r w => ∃ S' : sS, w = Sw shC g ad S' ∧ r = r_Calls_argumentSize S v1 ∧ S' = S) := by
  refine startI (by decide) (Nat.le_of_ble_eq_true rfl) ?_
  intro p e s m below meth c A ls hx hb hr hml hlocks hmn hown htt hN hA hP hK hD hS hl
  have hown : s.vm.findClass "MacroMill$Calls" = some m.cls := hown
  have hl : lv_has ls 2 [(0, .ref (ad 6)), (1, .int v1)] := hl
  refine lv_aload_n hx hb d_Calls_argumentSize_0 rfl (lv_at hl 0 rfl) ?_
  refine lv_iload_n hx hb d_Calls_argumentSize_1 rfl (lv_at hl 1 rfl) ?_
  refine lv_iconst (v := 1) hx hb d_Calls_argumentSize_2 (by decide) ?_
  refine lv_iadd hx hb d_Calls_argumentSize_3 ?_
  refine go_iS (As := [.ref (ad 6), .int (v1 + (1 : Int32))]) (g := g) (A := A) (h := shC) hP hK hD hS hA hN (fun hp => va_runV (As := [.int (v1 + (1 : Int32))]) (rest := []) ⟨hx, hb, hml, hown, htt⟩ (a_Calls_argumentFrom l g _ ad S (v1 + (1 : Int32)) hb0 hb1 hb2) ⟨(cb_L htt k_1316 k_267 k_1321 hd_Calls_argumentFrom ⟨(by decide +kernel), (by decide +kernel)⟩), htt _ k_1314, htt _ k_1315⟩ ⟨hp.1, S_recv hK hP 6 rfl rfl, hp.2⟩ rfl rfl hl.1 rfl (lv_room (Nat.le_of_ble_eq_true rfl)) d_Calls_argumentSize_4 ⟨(by decide +kernel), (by decide +kernel)⟩) (fun r9 Sn H locs hw9 hP hD hS => ?_)
  obtain ⟨rfl, e9⟩ := hw9
  rw [e9] at hP hD
  refine W.widen (k := 0) (n := 0) (by decide +kernel) (by decide +kernel) ?_
  refine lv_aload_n hx hb d_Calls_argumentSize_7 rfl (lv_at hl 0 rfl) ?_
  refine lv_iload_n hx hb d_Calls_argumentSize_8 rfl (lv_at hl 1 rfl) ?_
  refine go_iS (As := [.ref (ad 6), .int v1]) (g := g) (A := A) (h := shC) hP hK hD hS hA hN (fun hp => va_runV (As := [.int v1]) (rest := [.int (r_Calls_argumentFrom S (v1 + (1 : Int32)))]) ⟨hx, hb, hml, hown, htt⟩ (a_Calls_argumentFrom l g _ ad S (v1) hb0 hb1 hb3) ⟨(cb_L htt k_1316 k_267 k_1321 hd_Calls_argumentFrom ⟨(by decide +kernel), (by decide +kernel)⟩), htt _ k_1314, htt _ k_1315⟩ ⟨hp.1, S_recv hK hP 6 rfl rfl, hp.2⟩ rfl rfl hl.1 rfl (lv_room (Nat.le_of_ble_eq_true rfl)) d_Calls_argumentSize_9 ⟨(by decide +kernel), (by decide +kernel)⟩) (fun r9 Sn_2 H locs hw9 hP hD hS => ?_)
  obtain ⟨rfl, e9⟩ := hw9
  rw [e9] at hP hD
  refine W.widen (k := 0) (n := 0) (by decide +kernel) (by decide +kernel) ?_
  refine lv_isub hx hb d_Calls_argumentSize_12 ?_
  exact fin_i (g := g) (ws := Sw shC g ad S) (v := (r_Calls_argumentFrom S (v1 + (1 : Int32))) - (r_Calls_argumentFrom S (v1))) hx hb hr hlocks (by decide +kernel) (by decide +kernel) hP hD hS ⟨_, rfl, rfl, rfl⟩ d_Calls_argumentSize_13
def r_Meanings_kindOf (S : sS) (v1 : Int32) : Int32 := S.2.1 31 (v1 : Int32).toNatClampNeg
abbrev rm_a_Meanings_kindOf : Room := { frames := 0, cells := 0, slots := 0, locals := 0 }
set_option maxHeartbeats 4000000 in
set_option maxRecDepth 100000 in
theorem a_Meanings_kindOf (l : Launch) (g : gG) (sz : Nat) (ad : Nat → Nat) (S : sS) (v1 : Int32) (hb0 : vp_in (v1) 317) : Ci l y_Meanings_kindOf b_Meanings_kindOf 2 rm_a_Meanings_kindOf g [.ref (ad 7), .int v1] (Sw shC g ad S) sz (fun r w => ∃ S' : sS, w = Sw shC g ad S' ∧ r = r_Meanings_kindOf S v1 ∧ S' = S) := by
  refine startI (by decide) (Nat.le_of_ble_eq_true rfl) ?_
  intro p e s m below meth c A ls hx hb hr hml hlocks hmn hown htt hN hA hP hK hD hS hl
  have hown : s.vm.findClass "MacroMill$Meanings" = some m.cls := hown
  have hl : lv_has ls 2 [(0, .ref (ad 7)), (1, .int v1)] := hl
  refine lv_aload_n hx hb d_Meanings_kindOf_0 rfl (lv_at hl 0 rfl) ?_
  refine S_getR (h := shC) (C := "MacroMill$Meanings") (T := F_Meanings) hx hb htt in_Meanings hown hK hP 7 8 rfl 44 rfl rfl (by decide) (htt _ k_494) (fun _ h9 => h9) d_Meanings_kindOf_1 ?_
  refine lv_iload_n hx hb d_Meanings_kindOf_4 rfl (lv_at hl 1 rfl) ?_
  refine S_iald (h := shC) (i := v1) hx hb hK hP 31 rfl hb0 d_Meanings_kindOf_5 ?_
  exact fin_i (g := g) (ws := Sw shC g ad S) (v := S.2.1 31 (v1 : Int32).toNatClampNeg) hx hb hr hlocks (by decide +kernel) (by decide +kernel) hP hD hS ⟨_, rfl, rfl, rfl⟩ d_Meanings_kindOf_6
def r_Meanings_wantsParenthesis (S : sS) (v1 : Int32) : Int32 := if (S.2.1 31 (v1 : Int32).toNatClampNeg) < (1 : Int32) then 0 else (if (13 : Int32) < (S.2.1 31 (v1 : Int32).toNatClampNeg) then 0 else 1)
abbrev rm_a_Meanings_wantsParenthesis : Room := { frames := 0, cells := 0, slots := 0, locals := 0 }
set_option maxHeartbeats 4000000 in
set_option maxRecDepth 100000 in
theorem a_Meanings_wantsParenthesis (l : Launch) (g : gG) (sz : Nat) (ad : Nat → Nat) (S : sS) (v1 : Int32) (hb0 : vp_in (v1) 317) (hb1 : ¬ ((S.2.1 31 (v1 : Int32).toNatClampNeg) < (1 : Int32)) → vp_in (v1) 317) : Cz l y_Meanings_wantsParenthesis b_Meanings_wantsParenthesis 2 rm_a_Meanings_wantsParenthesis g [.ref (ad 7), .int v1] (Sw shC g ad S) sz (fun r w => ∃ S' : sS, w = Sw shC g ad S' ∧ r = r_Meanings_wantsParenthesis S v1 ∧ S' = S) := by
  refine startZ (by decide) (Nat.le_of_ble_eq_true rfl) ?_
  intro p e s m below meth c A ls hx hb hr hml hlocks hmn hown htt hN hA hP hK hD hS hl
  have hown : s.vm.findClass "MacroMill$Meanings" = some m.cls := hown
  have hl : lv_has ls 2 [(0, .ref (ad 7)), (1, .int v1)] := hl
  refine lv_aload_n hx hb d_Meanings_wantsParenthesis_0 rfl (lv_at hl 0 rfl) ?_
  refine S_getR (h := shC) (C := "MacroMill$Meanings") (T := F_Meanings) hx hb htt in_Meanings hown hK hP 7 8 rfl 44 rfl rfl (by decide) (htt _ k_494) (fun _ h9 => h9) d_Meanings_wantsParenthesis_1 ?_
  refine lv_iload_n hx hb d_Meanings_wantsParenthesis_4 rfl (lv_at hl 1 rfl) ?_
  refine S_iald (h := shC) (i := v1) hx hb hK hP 31 rfl hb0 d_Meanings_wantsParenthesis_5 ?_
  refine lv_iconst (v := 1) hx hb d_Meanings_wantsParenthesis_6 (by decide) ?_
  refine lv_icmp_lt (tgt := 25) hx hb d_Meanings_wantsParenthesis_7 (by decide) (fun hc1 => ?_) (fun hc1 => ?_)
  · refine lv_iconst (v := 0) hx hb d_Meanings_wantsParenthesis_25 (by decide) ?_
    exact fin_z (g := g) (ws := Sw shC g ad S) (v := 0) hx hb hr hlocks rfl (by decide +kernel) (by decide +kernel) hP hD hS ⟨_, rfl, (by unfold r_Meanings_wantsParenthesis; rw [if_pos hc1]), rfl⟩ d_Meanings_wantsParenthesis_26
  · refine lv_aload_n hx hb d_Meanings_wantsParenthesis_10 rfl (lv_at hl 0 rfl) ?_
    refine S_getR (h := shC) (C := "MacroMill$Meanings") (T := F_Meanings) hx hb htt in_Meanings hown hK hP 7 8 rfl 44 rfl rfl (by decide) (htt _ k_494) (fun _ h9 => h9) d_Meanings_wantsParenthesis_11 ?_
    refine lv_iload_n hx hb d_Meanings_wantsParenthesis_14 rfl (lv_at hl 1 rfl) ?_
    refine S_iald (h := shC) (i := v1) hx hb hK hP 31 rfl (hb1 hc1) d_Meanings_wantsParenthesis_15 ?_
    refine lv_bipush (v := 13) hx hb d_Meanings_wantsParenthesis_16 (by decide) ?_
    refine lv_icmp_gt (tgt := 25) hx hb d_Meanings_wantsParenthesis_18 (by decide) (fun hc2 => ?_) (fun hc2 => ?_)
    · refine lv_iconst (v := 0) hx hb d_Meanings_wantsParenthesis_25 (by decide) ?_
      show W _ _ _ _ _ _ _ _ _ _ _ _ _ _ _ (F0 _ 26 _ _)
      exact fin_z (g := g) (ws := Sw shC g ad S) (v := 0) hx hb hr hlocks rfl (by decide +kernel) (by decide +kernel) hP hD hS ⟨_, rfl, (by unfold r_Meanings_wantsParenthesis; rw [if_neg hc1, if_pos hc2]), rfl⟩ d_Meanings_wantsParenthesis_26
    · refine lv_iconst (v := 1) hx hb d_Meanings_wantsParenthesis_21 (by decide) ?_
      show W _ _ _ _ _ _ _ _ _ _ _ _ _ _ _ (F0 _ 22 _ _)
      refine lv_goto (tgt := 26) hx hb d_Meanings_wantsParenthesis_22 (by decide) ?_
      exact fin_z (g := g) (ws := Sw shC g ad S) (v := 1) hx hb hr hlocks rfl (by decide +kernel) (by decide +kernel) hP hD hS ⟨_, rfl, (by unfold r_Meanings_wantsParenthesis; rw [if_neg hc1, if_neg hc2]), rfl⟩ d_Meanings_wantsParenthesis_26
def r_Meanings_textFrom (S : sS) (v1 : Int32) : Int32 := (S.2.1 28 (v1 : Int32).toNatClampNeg) + (S.2.1 29 (v1 : Int32).toNatClampNeg)
abbrev rm_a_Meanings_textFrom : Room := { frames := 0, cells := 0, slots := 0, locals := 0 }
set_option maxHeartbeats 4000000 in
set_option maxRecDepth 100000 in
theorem a_Meanings_textFrom (l : Launch) (g : gG) (sz : Nat) (ad : Nat → Nat) (S : sS) (v1 : Int32) (hb0 : vp_in (v1) 317) : Ci l y_Meanings_textFrom b_Meanings_textFrom 2 rm_a_Meanings_textFrom g [.ref (ad 7), .int v1] (Sw shC g ad S) sz (fun r w => ∃ S' : sS, w = Sw shC g ad S' ∧ r = r_Meanings_textFrom S v1 ∧ S' = S) := by
  refine startI (by decide) (Nat.le_of_ble_eq_true rfl) ?_
  intro p e s m below meth c A ls hx hb hr hml hlocks hmn hown htt hN hA hP hK hD hS hl
  have hown : s.vm.findClass "MacroMill$Meanings" = some m.cls := hown
  have hl : lv_has ls 2 [(0, .ref (ad 7)), (1, .int v1)] := hl
  refine lv_aload_n hx hb d_Meanings_textFrom_0 rfl (lv_at hl 0 rfl) ?_
  refine S_getR (h := shC) (C := "MacroMill$Meanings") (T := F_Meanings) hx hb htt in_Meanings hown hK hP 7 5 rfl 41 rfl rfl (by decide) (htt _ k_491) (fun _ h9 => h9) d_Meanings_textFrom_1 ?_
  refine lv_iload_n hx hb d_Meanings_textFrom_4 rfl (lv_at hl 1 rfl) ?_
  refine S_iald (h := shC) (i := v1) hx hb hK hP 28 rfl hb0 d_Meanings_textFrom_5 ?_
  refine lv_aload_n hx hb d_Meanings_textFrom_6 rfl (lv_at hl 0 rfl) ?_
  refine S_getR (h := shC) (C := "MacroMill$Meanings") (T := F_Meanings) hx hb htt in_Meanings hown hK hP 7 6 rfl 42 rfl rfl (by decide) (htt _ k_492) (fun _ h9 => h9) d_Meanings_textFrom_7 ?_
  refine lv_iload_n hx hb d_Meanings_textFrom_10 rfl (lv_at hl 1 rfl) ?_
  refine S_iald (h := shC) (i := v1) hx hb hK hP 29 rfl hb0 d_Meanings_textFrom_11 ?_
  refine lv_iadd hx hb d_Meanings_textFrom_12 ?_
  exact fin_i (g := g) (ws := Sw shC g ad S) (v := (S.2.1 28 (v1 : Int32).toNatClampNeg) + (S.2.1 29 (v1 : Int32).toNatClampNeg)) hx hb hr hlocks (by decide +kernel) (by decide +kernel) hP hD hS ⟨_, rfl, rfl, rfl⟩ d_Meanings_textFrom_13
def r_Meanings_textSize (S : sS) (v1 : Int32) : Int32 := S.2.1 30 (v1 : Int32).toNatClampNeg
abbrev rm_a_Meanings_textSize : Room := { frames := 0, cells := 0, slots := 0, locals := 0 }
set_option maxHeartbeats 4000000 in
set_option maxRecDepth 100000 in
theorem a_Meanings_textSize (l : Launch) (g : gG) (sz : Nat) (ad : Nat → Nat) (S : sS) (v1 : Int32) (hb0 : vp_in (v1) 317) : Ci l y_Meanings_textSize b_Meanings_textSize 2 rm_a_Meanings_textSize g [.ref (ad 7), .int v1] (Sw shC g ad S) sz (fun r w => ∃ S' : sS, w = Sw shC g ad S' ∧ r = r_Meanings_textSize S v1 ∧ S' = S) := by
  refine startI (by decide) (Nat.le_of_ble_eq_true rfl) ?_
  intro p e s m below meth c A ls hx hb hr hml hlocks hmn hown htt hN hA hP hK hD hS hl
  have hown : s.vm.findClass "MacroMill$Meanings" = some m.cls := hown
  have hl : lv_has ls 2 [(0, .ref (ad 7)), (1, .int v1)] := hl
  refine lv_aload_n hx hb d_Meanings_textSize_0 rfl (lv_at hl 0 rfl) ?_
  refine S_getR (h := shC) (C := "MacroMill$Meanings") (T := F_Meanings) hx hb htt in_Meanings hown hK hP 7 7 rfl 43 rfl rfl (by decide) (htt _ k_493) (fun _ h9 => h9) d_Meanings_textSize_1 ?_
  refine lv_iload_n hx hb d_Meanings_textSize_4 rfl (lv_at hl 1 rfl) ?_
  refine S_iald (h := shC) (i := v1) hx hb hK hP 30 rfl hb0 d_Meanings_textSize_5 ?_
  exact fin_i (g := g) (ws := Sw shC g ad S) (v := S.2.1 30 (v1 : Int32).toNatClampNeg) hx hb hr hlocks (by decide +kernel) (by decide +kernel) hP hD hS ⟨_, rfl, rfl, rfl⟩ d_Meanings_textSize_6
def r_Meanings_takeNode (S : sS) (v1 : Int32) : Int32 := S.1 7 4
def s_Meanings_takeNode (S : sS) (v1 : Int32) : sS := (putA (putA (putI S 7 4 (S.2.1 27 (S.1 7 4 : Int32).toNatClampNeg)) 27 (S.1 7 4 : Int32).toNatClampNeg ((putI S 7 4 (S.2.1 27 (S.1 7 4 : Int32).toNatClampNeg)).2.1 26 (v1 : Int32).toNatClampNeg)) 26 (v1 : Int32).toNatClampNeg (S.1 7 4))
abbrev rm_a_Meanings_takeNode : Room := { frames := 0, cells := 0, slots := 0, locals := 0 }
set_option maxHeartbeats 4000000 in
set_option maxRecDepth 100000 in
theorem a_Meanings_takeNode (l : Launch) (g : gG) (sz : Nat) (ad : Nat → Nat) (S : sS) (v1 : Int32) (hb0 : vp_in (S.1 7 4) 317) (hb1 : vp_in (v1) 256) : Ci l y_Meanings_takeNode b_Meanings_takeNode 3 rm_a_Meanings_takeNode g [.ref (ad 7), .int v1] (Sw shC g ad S) sz (fun r w => ∃ S' : sS, w = Sw shC g ad S' ∧ r = r_Meanings_takeNode S v1 ∧ S' = s_Meanings_takeNode S v1) := by
  refine startI (by decide) (Nat.le_of_ble_eq_true rfl) ?_
  intro p e s m below meth c A ls hx hb hr hml hlocks hmn hown htt hN hA hP hK hD hS hl
  have hown : s.vm.findClass "MacroMill$Meanings" = some m.cls := hown
  have hl : lv_has ls 3 [(0, .ref (ad 7)), (1, .int v1)] := hl
  refine lv_aload_n hx hb d_Meanings_takeNode_0 rfl (lv_at hl 0 rfl) ?_
  refine S_getI (h := shC) (C := "MacroMill$Meanings") (T := F_Meanings) hx hb htt in_Meanings hown hK hP 7 4 rfl rfl rfl (by decide) (htt _ k_490) (fun _ h9 => h9) d_Meanings_takeNode_1 ?_
  refine lv_istore_n (lv' := [(2, .int (S.1 7 4)), (0, .ref (ad 7)), (1, .int v1)]) hx hb d_Meanings_takeNode_4 rfl hl (by decide) rfl (fun ls hl => ?_)
  refine lv_aload_n hx hb d_Meanings_takeNode_5 rfl (lv_at hl 1 rfl) ?_
  refine lv_aload_n hx hb d_Meanings_takeNode_6 rfl (lv_at hl 1 rfl) ?_
  refine S_getR (h := shC) (C := "MacroMill$Meanings") (T := F_Meanings) hx hb htt in_Meanings hown hK hP 7 3 rfl 40 rfl rfl (by decide) (htt _ k_489) (fun _ h9 => h9) d_Meanings_takeNode_7 ?_
  refine lv_iload_n hx hb d_Meanings_takeNode_10 rfl (lv_at hl 0 rfl) ?_
  refine S_iald (h := shC) (i := S.1 7 4) hx hb hK hP 27 rfl hb0 d_Meanings_takeNode_11 ?_
  refine S_put (h := shC) (C := "MacroMill$Meanings") (T := F_Meanings) (v := S.2.1 27 (S.1 7 4 : Int32).toNatClampNeg) hx hb htt in_Meanings t_Meanings t_Meanings_ok n_Meanings hown hK hP hD hS 7 4 rfl rfl rfl (by decide) (htt _ k_490) (fun _ h9 => h9) rfl rfl rfl d_Meanings_takeNode_12 (fun H locs hP hD hS => ?_)
  refine lv_aload_n hx hb d_Meanings_takeNode_15 rfl (lv_at hl 1 rfl) ?_
  refine S_getR (h := shC) (C := "MacroMill$Meanings") (T := F_Meanings) hx hb htt in_Meanings hown hK hP 7 3 rfl 40 rfl rfl (by decide) (htt _ k_489) (fun _ h9 => h9) d_Meanings_takeNode_16 ?_
  show W _ _ _ _ _ _ _ _ _ _ _ _ _ _ _ (F0 _ 19 _ _)
  refine lv_iload_n hx hb d_Meanings_takeNode_19 rfl (lv_at hl 0 rfl) ?_
  refine lv_aload_n hx hb d_Meanings_takeNode_20 rfl (lv_at hl 1 rfl) ?_
  refine S_getR (h := shC) (C := "MacroMill$Meanings") (T := F_Meanings) hx hb htt in_Meanings hown hK hP 7 2 rfl 39 rfl rfl (by decide) (htt _ k_488) (fun _ h9 => h9) d_Meanings_takeNode_21 ?_
  refine lv_iload_n hx hb d_Meanings_takeNode_24 rfl (lv_at hl 2 rfl) ?_
  refine S_iald (h := shC) (i := v1) hx hb hK hP 26 rfl hb1 d_Meanings_takeNode_25 ?_
  refine S_iast (h := shC) (i := S.1 7 4) (v := (putI S 7 4 (S.2.1 27 (S.1 7 4 : Int32).toNatClampNeg)).2.1 26 (v1 : Int32).toNatClampNeg) hx hb hK hP hD hS 27 rfl hb0 d_Meanings_takeNode_26 (fun H locs hP hD hS => ?_)
  refine lv_aload_n hx hb d_Meanings_takeNode_27 rfl (lv_at hl 1 rfl) ?_
  refine S_getR (h := shC) (C := "MacroMill$Meanings") (T := F_Meanings) hx hb htt in_Meanings hown hK hP 7 2 rfl 39 rfl rfl (by decide) (htt _ k_488) (fun _ h9 => h9) d_Meanings_takeNode_28 ?_
  refine lv_iload_n hx hb d_Meanings_takeNode_31 rfl (lv_at hl 2 rfl) ?_
  refine lv_iload_n hx hb d_Meanings_takeNode_32 rfl (lv_at hl 0 rfl) ?_
  refine S_iast (h := shC) (i := v1) (v := S.1 7 4) hx hb hK hP hD hS 26 rfl hb1 d_Meanings_takeNode_33 (fun H locs hP hD hS => ?_)
  refine lv_iload_n hx hb d_Meanings_takeNode_34 rfl (lv_at hl 0 rfl) ?_
  show W _ _ _ _ _ _ _ _ _ _ _ _ _ _ _ (F0 _ 35 _ _)
  exact fin_i (g := g) (ws := Sw shC g ad (putA (putA (putI S 7 4 (S.2.1 27 (S.1 7 4 : Int32).toNatClampNeg)) 27 (S.1 7 4 : Int32).toNatClampNeg ((putI S 7 4 (S.2.1 27 (S.1 7 4 : Int32).toNatClampNeg)).2.1 26 (v1 : Int32).toNatClampNeg)) 26 (v1 : Int32).toNatClampNeg (S.1 7 4))) (v := S.1 7 4) hx hb hr hlocks (by decide +kernel) (by decide +kernel) hP hD hS ⟨_, rfl, rfl, rfl⟩ d_Meanings_takeNode_35
def s_Meanings_release (S : sS) (v1 : Int32) : sS := if (S.2.1 31 (v1 : Int32).toNatClampNeg) = (0 : Int32) then ((putI (putA (putA (putI (putI S 7 9 ((S.1 7 9) - (1 : Int32))) 7 10 ((S.1 7 10) - (((putI S 7 9 ((S.1 7 9) - (1 : Int32))).2.1 29 (v1 : Int32).toNatClampNeg) + ((putI S 7 9 ((S.1 7 9) - (1 : Int32))).2.1 30 (v1 : Int32).toNatClampNeg)))) 28 (v1 : Int32).toNatClampNeg (-1)) 27 (v1 : Int32).toNatClampNeg (S.1 7 4)) 7 4 v1)) else ((putI (putA (putA S 28 (v1 : Int32).toNatClampNeg (-1)) 27 (v1 : Int32).toNatClampNeg (S.1 7 4)) 7 4 v1))
abbrev rm_a_Meanings_release : Room := { frames := 0, cells := 0, slots := 0, locals := 0 }
set_option maxHeartbeats 4000000 in
set_option maxRecDepth 100000 in
theorem a_Meanings_release (l : Launch) (g : gG) (sz : Nat) (ad : Nat → Nat) (S : sS) (v1 : Int32) (hb0 : vp_in (v1) 317) (hb1 : ¬ ((S.2.1 31 (v1 : Int32).toNatClampNeg) = (0 : Int32)) → vp_in (v1) 317) (hb2 : (S.2.1 31 (v1 : Int32).toNatClampNeg) = (0 : Int32) → vp_in (v1) 317) : Cv l y_Meanings_release b_Meanings_release 2 rm_a_Meanings_release g [.ref (ad 7), .int v1] (Sw shC g ad S) sz (fun w => ∃ S' : sS, w = Sw shC g ad S' ∧ S' = s_Meanings_release S v1) := by
  refine startV (by decide) (Nat.le_of_ble_eq_true rfl) ?_
  intro p e s m below meth c A ls hx hb hr hml hlocks hmn hown htt hN hA hP hK hD hS hl
  have hown : s.vm.findClass "MacroMill$Meanings" = some m.cls := hown
  have hl : lv_has ls 2 [(0, .ref (ad 7)), (1, .int v1)] := hl
  refine lv_aload_n hx hb d_Meanings_release_0 rfl (lv_at hl 0 rfl) ?_
  refine S_getR (h := shC) (C := "MacroMill$Meanings") (T := F_Meanings) hx hb htt in_Meanings hown hK hP 7 8 rfl 44 rfl rfl (by decide) (htt _ k_494) (fun _ h9 => h9) d_Meanings_release_1 ?_
  refine lv_iload_n hx hb d_Meanings_release_4 rfl (lv_at hl 1 rfl) ?_
  refine S_iald (h := shC) (i := v1) hx hb hK hP 31 rfl hb0 d_Meanings_release_5 ?_
  refine lv_if_ne (tgt := 41) hx hb d_Meanings_release_6 (by decide) (fun hc1 => ?_) (fun hc1 => ?_)
  · refine lv_aload_n hx hb d_Meanings_release_41 rfl (lv_at hl 0 rfl) ?_
    refine S_getR (h := shC) (C := "MacroMill$Meanings") (T := F_Meanings) hx hb htt in_Meanings hown hK hP 7 5 rfl 41 rfl rfl (by decide) (htt _ k_491) (fun _ h9 => h9) d_Meanings_release_42 ?_
    refine lv_iload_n hx hb d_Meanings_release_45 rfl (lv_at hl 1 rfl) ?_
    refine lv_iconst (v := (-1)) hx hb d_Meanings_release_46 (by decide) ?_
    refine S_iast (h := shC) (i := v1) (v := (-1)) hx hb hK hP hD hS 28 rfl (hb1 hc1) d_Meanings_release_47 (fun H locs hP hD hS => ?_)
    refine lv_aload_n hx hb d_Meanings_release_48 rfl (lv_at hl 0 rfl) ?_
    refine S_getR (h := shC) (C := "MacroMill$Meanings") (T := F_Meanings) hx hb htt in_Meanings hown hK hP 7 3 rfl 40 rfl rfl (by decide) (htt _ k_489) (fun _ h9 => h9) d_Meanings_release_49 ?_
    show W _ _ _ _ _ _ _ _ _ _ _ _ _ _ _ (F0 _ 52 _ _)
    refine lv_iload_n hx hb d_Meanings_release_52 rfl (lv_at hl 1 rfl) ?_
    refine lv_aload_n hx hb d_Meanings_release_53 rfl (lv_at hl 0 rfl) ?_
    refine S_getI (h := shC) (C := "MacroMill$Meanings") (T := F_Meanings) hx hb htt in_Meanings hown hK hP 7 4 rfl rfl rfl (by decide) (htt _ k_490) (fun _ h9 => h9) d_Meanings_release_54 ?_
    refine toI (y := S.1 7 4) rfl ?_
    refine S_iast (h := shC) (i := v1) (v := S.1 7 4) hx hb hK hP hD hS 27 rfl (hb1 hc1) d_Meanings_release_57 (fun H locs hP hD hS => ?_)
    refine lv_aload_n hx hb d_Meanings_release_58 rfl (lv_at hl 0 rfl) ?_
    refine lv_iload_n hx hb d_Meanings_release_59 rfl (lv_at hl 1 rfl) ?_
    refine S_put (h := shC) (C := "MacroMill$Meanings") (T := F_Meanings) (v := v1) hx hb htt in_Meanings t_Meanings t_Meanings_ok n_Meanings hown hK hP hD hS 7 4 rfl rfl rfl (by decide) (htt _ k_490) (fun _ h9 => h9) rfl rfl rfl d_Meanings_release_60 (fun H locs hP hD hS => ?_)
    exact fin_v (g := g) (ws := Sw shC g ad (putI (putA (putA S 28 (v1 : Int32).toNatClampNeg (-1)) 27 (v1 : Int32).toNatClampNeg (S.1 7 4)) 7 4 v1)) hx hb hr hlocks (by decide +kernel) (by decide +kernel) hP hD hS ⟨_, rfl, (by unfold s_Meanings_release; rw [if_neg hc1])⟩ d_Meanings_release_63
  · refine lv_aload_n hx hb d_Meanings_release_9 rfl (lv_at hl 0 rfl) ?_
    refine lv_dup hx hb d_Meanings_release_10 rfl ?_
    refine S_getI (h := shC) (C := "MacroMill$Meanings") (T := F_Meanings) hx hb htt in_Meanings hown hK hP 7 9 rfl rfl rfl (by decide) (htt _ k_495) (fun _ h9 => h9) d_Meanings_release_11 ?_
    refine lv_iconst (v := 1) hx hb d_Meanings_release_14 (by decide) ?_
    refine lv_isub hx hb d_Meanings_release_15 ?_
    refine S_put (h := shC) (C := "MacroMill$Meanings") (T := F_Meanings) (v := (S.1 7 9) - (1 : Int32)) hx hb htt in_Meanings t_Meanings t_Meanings_ok n_Meanings hown hK hP hD hS 7 9 rfl rfl rfl (by decide) (htt _ k_495) (fun _ h9 => h9) rfl rfl rfl d_Meanings_release_16 (fun H locs hP hD hS => ?_)
    refine lv_aload_n hx hb d_Meanings_release_19 rfl (lv_at hl 0 rfl) ?_
    show W _ _ _ _ _ _ _ _ _ _ _ _ _ _ _ (F0 _ 20 _ _)
    refine lv_dup hx hb d_Meanings_release_20 rfl ?_
    refine S_getI (h := shC) (C := "MacroMill$Meanings") (T := F_Meanings) hx hb htt in_Meanings hown hK hP 7 10 rfl rfl rfl (by decide) (htt _ k_496) (fun _ h9 => h9) d_Meanings_release_21 ?_
    refine toI (y := S.1 7 10) rfl ?_
    refine lv_aload_n hx hb d_Meanings_release_24 rfl (lv_at hl 0 rfl) ?_
    refine S_getR (h := shC) (C := "MacroMill$Meanings") (T := F_Meanings) hx hb htt in_Meanings hown hK hP 7 6 rfl 42 rfl rfl (by decide) (htt _ k_492) (fun _ h9 => h9) d_Meanings_release_25 ?_
    refine lv_iload_n hx hb d_Meanings_release_28 rfl (lv_at hl 1 rfl) ?_
    refine S_iald (h := shC) (i := v1) hx hb hK hP 29 rfl (hb2 hc1) d_Meanings_release_29 ?_
    refine lv_aload_n hx hb d_Meanings_release_30 rfl (lv_at hl 0 rfl) ?_
    refine S_getR (h := shC) (C := "MacroMill$Meanings") (T := F_Meanings) hx hb htt in_Meanings hown hK hP 7 7 rfl 43 rfl rfl (by decide) (htt _ k_493) (fun _ h9 => h9) d_Meanings_release_31 ?_
    refine lv_iload_n hx hb d_Meanings_release_34 rfl (lv_at hl 1 rfl) ?_
    refine S_iald (h := shC) (i := v1) hx hb hK hP 30 rfl (hb2 hc1) d_Meanings_release_35 ?_
    refine lv_iadd hx hb d_Meanings_release_36 ?_
    refine lv_isub hx hb d_Meanings_release_37 ?_
    show W _ _ _ _ _ _ _ _ _ _ _ _ _ _ _ (F0 _ 38 _ _)
    refine S_put (h := shC) (C := "MacroMill$Meanings") (T := F_Meanings) (v := (S.1 7 10) - (((putI S 7 9 ((S.1 7 9) - (1 : Int32))).2.1 29 (v1 : Int32).toNatClampNeg) + ((putI S 7 9 ((S.1 7 9) - (1 : Int32))).2.1 30 (v1 : Int32).toNatClampNeg))) hx hb htt in_Meanings t_Meanings t_Meanings_ok n_Meanings hown hK hP hD hS 7 10 rfl rfl rfl (by decide) (htt _ k_496) (fun _ h9 => h9) rfl rfl rfl d_Meanings_release_38 (fun H locs hP hD hS => ?_)
    refine lv_aload_n hx hb d_Meanings_release_41 rfl (lv_at hl 0 rfl) ?_
    refine S_getR (h := shC) (C := "MacroMill$Meanings") (T := F_Meanings) hx hb htt in_Meanings hown hK hP 7 5 rfl 41 rfl rfl (by decide) (htt _ k_491) (fun _ h9 => h9) d_Meanings_release_42 ?_
    refine lv_iload_n hx hb d_Meanings_release_45 rfl (lv_at hl 1 rfl) ?_
    refine lv_iconst (v := (-1)) hx hb d_Meanings_release_46 (by decide) ?_
    refine S_iast (h := shC) (i := v1) (v := (-1)) hx hb hK hP hD hS 28 rfl (hb2 hc1) d_Meanings_release_47 (fun H locs hP hD hS => ?_)
    refine lv_aload_n hx hb d_Meanings_release_48 rfl (lv_at hl 0 rfl) ?_
    refine S_getR (h := shC) (C := "MacroMill$Meanings") (T := F_Meanings) hx hb htt in_Meanings hown hK hP 7 3 rfl 40 rfl rfl (by decide) (htt _ k_489) (fun _ h9 => h9) d_Meanings_release_49 ?_
    refine lv_iload_n hx hb d_Meanings_release_52 rfl (lv_at hl 1 rfl) ?_
    refine lv_aload_n hx hb d_Meanings_release_53 rfl (lv_at hl 0 rfl) ?_
    refine S_getI (h := shC) (C := "MacroMill$Meanings") (T := F_Meanings) hx hb htt in_Meanings hown hK hP 7 4 rfl rfl rfl (by decide) (htt _ k_490) (fun _ h9 => h9) d_Meanings_release_54 ?_
    refine toI (y := S.1 7 4) rfl ?_
    refine S_iast (h := shC) (i := v1) (v := S.1 7 4) hx hb hK hP hD hS 27 rfl (hb2 hc1) d_Meanings_release_57 (fun H locs hP hD hS => ?_)
    show W _ _ _ _ _ _ _ _ _ _ _ _ _ _ _ (F0 _ 58 _ _)
    refine lv_aload_n hx hb d_Meanings_release_58 rfl (lv_at hl 0 rfl) ?_
    refine lv_iload_n hx hb d_Meanings_release_59 rfl (lv_at hl 1 rfl) ?_
    refine S_put (h := shC) (C := "MacroMill$Meanings") (T := F_Meanings) (v := v1) hx hb htt in_Meanings t_Meanings t_Meanings_ok n_Meanings hown hK hP hD hS 7 4 rfl rfl rfl (by decide) (htt _ k_490) (fun _ h9 => h9) rfl rfl rfl d_Meanings_release_60 (fun H locs hP hD hS => ?_)
    exact fin_v (g := g) (ws := Sw shC g ad (putI (putA (putA (putI (putI S 7 9 ((S.1 7 9) - (1 : Int32))) 7 10 ((S.1 7 10) - (((putI S 7 9 ((S.1 7 9) - (1 : Int32))).2.1 29 (v1 : Int32).toNatClampNeg) + ((putI S 7 9 ((S.1 7 9) - (1 : Int32))).2.1 30 (v1 : Int32).toNatClampNeg)))) 28 (v1 : Int32).toNatClampNeg (-1)) 27 (v1 : Int32).toNatClampNeg (S.1 7 4)) 7 4 v1)) hx hb hr hlocks (by decide +kernel) (by decide +kernel) hP hD hS ⟨_, rfl, (by unfold s_Meanings_release; rw [if_pos hc1])⟩ d_Meanings_release_63
def s_Second_fail (S : sS) (v1 : Int32) : sS := (s_Outcome_fail S (v1) (S.1 8 14))
abbrev rm_a_Second_fail : Room := { frames := 1, cells := 0, slots := 0, locals := 22 }
set_option maxHeartbeats 4000000 in
set_option maxRecDepth 100000 in
theorem a_Second_fail (l : Launch) (g : gG) (sz : Nat) (ad : Nat → Nat) (S : sS) (v1 : Int32) : Cv l y_Second_fail b_Second_fail 2 rm_a_Second_fail g [.ref (ad 8), .int v1] (Sw shC g ad S) sz (fun w => ∃ S' : sS, w = Sw shC g ad S' ∧ S' = s_Second_fail S v1) := by
  refine startV (by decide) (Nat.le_of_ble_eq_true rfl) ?_
  intro p e s m below meth c A ls hx hb hr hml hlocks hmn hown htt hN hA hP hK hD hS hl
  have hown : s.vm.findClass "MacroMill$Second" = some m.cls := hown
  have hl : lv_has ls 2 [(0, .ref (ad 8)), (1, .int v1)] := hl
  refine lv_aload_n hx hb d_Second_fail_0 rfl (lv_at hl 0 rfl) ?_
  refine S_getR (h := shC) (C := "MacroMill$Second") (T := F_Second) hx hb htt in_Second hown hK hP 8 1 rfl 2 rfl rfl (by decide) (htt _ k_897) (fun _ h9 => h9) d_Second_fail_1 ?_
  refine lv_iload_n hx hb d_Second_fail_4 rfl (lv_at hl 1 rfl) ?_
  refine lv_aload_n hx hb d_Second_fail_5 rfl (lv_at hl 0 rfl) ?_
  refine S_getI (h := shC) (C := "MacroMill$Second") (T := F_Second) hx hb htt in_Second hown hK hP 8 14 rfl rfl rfl (by decide) (htt _ k_911) (fun _ h9 => h9) d_Second_fail_6 ?_
  refine go_vS (As := [.ref (ad 2), .int v1, .int (S.1 8 14)]) (g := g) (A := A) (h := shC) hP hK hD hS hA hN (fun hp => va_runV (As := [.int v1, .int (S.1 8 14)]) (rest := []) ⟨hx, hb, hml, hown, htt⟩ (a_Outcome_fail l g _ ad S (v1) (S.1 8 14)) ⟨(cb_L htt k_1163 k_264 k_2001 hd_Outcome_fail ⟨(by decide +kernel), (by decide +kernel)⟩), htt _ k_1161, htt _ k_1162⟩ ⟨hp.1, S_recv hK hP 2 rfl rfl, hp.2⟩ rfl rfl hl.1 rfl (lv_room (Nat.le_of_ble_eq_true rfl)) d_Second_fail_9 ⟨(by decide +kernel), (by decide +kernel)⟩) (fun Sn H locs hw9 hP hD hS => ?_)
  obtain rfl := hw9
  refine W.widen (k := 0) (n := 0) (by decide +kernel) (by decide +kernel) ?_
  exact fin_v (g := g) (ws := Sw shC g ad (s_Outcome_fail S (v1) (S.1 8 14))) hx hb hr hlocks (by decide +kernel) (by decide +kernel) hP hD hS ⟨_, rfl, rfl⟩ d_Second_fail_12
def r_Second_isCounting (S : sS) : Int32 := if (S.1 8 9) = (0 : Int32) then 1 else (if ((S.2.1 33 ((S.1 8 9) - (1 : Int32) : Int32).toNatClampNeg) &&& (1 : Int32)) = (0 : Int32) then 0 else 1)
abbrev rm_a_Second_isCounting : Room := { frames := 0, cells := 0, slots := 0, locals := 0 }
set_option maxHeartbeats 4000000 in
set_option maxRecDepth 100000 in
theorem a_Second_isCounting (l : Launch) (g : gG) (sz : Nat) (ad : Nat → Nat) (S : sS) (hb0 : ¬ ((S.1 8 9) = (0 : Int32)) → vp_in ((S.1 8 9) - (1 : Int32)) 100) : Cz l y_Second_isCounting b_Second_isCounting 1 rm_a_Second_isCounting g [.ref (ad 8)] (Sw shC g ad S) sz (fun r w => ∃ S' : sS, w = Sw shC g ad S' ∧ r = r_Second_isCounting S ∧ S' = S) := by
  refine startZ (by decide) (Nat.le_of_ble_eq_true rfl) ?_
  intro p e s m below meth c A ls hx hb hr hml hlocks hmn hown htt hN hA hP hK hD hS hl
  have hown : s.vm.findClass "MacroMill$Second" = some m.cls := hown
  have hl : lv_has ls 1 [(0, .ref (ad 8))] := hl
  refine lv_aload_n hx hb d_Second_isCounting_0 rfl (lv_at hl 0 rfl) ?_
  refine S_getI (h := shC) (C := "MacroMill$Second") (T := F_Second) hx hb htt in_Second hown hK hP 8 9 rfl rfl rfl (by decide) (htt _ k_906) (fun _ h9 => h9) d_Second_isCounting_1 ?_
  refine lv_if_eq (tgt := 23) hx hb d_Second_isCounting_4 (by decide) (fun hc1 => ?_) (fun hc1 => ?_)
  · refine lv_iconst (v := 1) hx hb d_Second_isCounting_23 (by decide) ?_
    refine lv_goto (tgt := 28) hx hb d_Second_isCounting_24 (by decide) ?_
    exact fin_z (g := g) (ws := Sw shC g ad S) (v := 1) hx hb hr hlocks rfl (by decide +kernel) (by decide +kernel) hP hD hS ⟨_, rfl, (by unfold r_Second_isCounting; rw [if_pos hc1]), rfl⟩ d_Second_isCounting_28
  · refine lv_aload_n hx hb d_Second_isCounting_7 rfl (lv_at hl 0 rfl) ?_
    refine S_getR (h := shC) (C := "MacroMill$Second") (T := F_Second) hx hb htt in_Second hown hK hP 8 8 rfl 46 rfl rfl (by decide) (htt _ k_905) (fun _ h9 => h9) d_Second_isCounting_8 ?_
    refine lv_aload_n hx hb d_Second_isCounting_11 rfl (lv_at hl 0 rfl) ?_
    refine S_getI (h := shC) (C := "MacroMill$Second") (T := F_Second) hx hb htt in_Second hown hK hP 8 9 rfl rfl rfl (by decide) (htt _ k_906) (fun _ h9 => h9) d_Second_isCounting_12 ?_
    refine lv_iconst (v := 1) hx hb d_Second_isCounting_15 (by decide) ?_
    refine lv_isub hx hb d_Second_isCounting_16 ?_
    refine S_iald (h := shC) (i := (S.1 8 9) - (1 : Int32)) hx hb hK hP 33 rfl (hb0 hc1) d_Second_isCounting_17 ?_
    refine lv_iconst (v := 1) hx hb d_Second_isCounting_18 (by decide) ?_
    refine lv_iand hx hb d_Second_isCounting_19 ?_
    refine lv_if_eq (tgt := 27) hx hb d_Second_isCounting_20 (by decide) (fun hc2 => ?_) (fun hc2 => ?_)
    · show W _ _ _ _ _ _ _ _ _ _ _ _ _ _ _ (F0 _ 27 _ _)
      refine lv_iconst (v := 0) hx hb d_Second_isCounting_27 (by decide) ?_
      exact fin_z (g := g) (ws := Sw shC g ad S) (v := 0) hx hb hr hlocks rfl (by decide +kernel) (by decide +kernel) hP hD hS ⟨_, rfl, (by unfold r_Second_isCounting; rw [if_neg hc1, if_pos hc2]), rfl⟩ d_Second_isCounting_28
    · show W _ _ _ _ _ _ _ _ _ _ _ _ _ _ _ (F0 _ 23 _ _)
      refine lv_iconst (v := 1) hx hb d_Second_isCounting_23 (by decide) ?_
      refine lv_goto (tgt := 28) hx hb d_Second_isCounting_24 (by decide) ?_
      exact fin_z (g := g) (ws := Sw shC g ad S) (v := 1) hx hb hr hlocks rfl (by decide +kernel) (by decide +kernel) hP hD hS ⟨_, rfl, (by unfold r_Second_isCounting; rw [if_neg hc1, if_neg hc2]), rfl⟩ d_Second_isCounting_28
def s_Second_failIfTooLong (S : sS) : sS := if ((S.1 8 13) - (S.1 8 12)) ≤ (8000 : Int32) then S else ((s_Second_fail S (21 : Int32)))
abbrev rm_a_Second_failIfTooLong : Room := { frames := 2, cells := 0, slots := 0, locals := 43 }
set_option maxHeartbeats 4000000 in
set_option maxRecDepth 100000 in
theorem a_Second_failIfTooLong (l : Launch) (g : gG) (sz : Nat) (ad : Nat → Nat) (S : sS) : Cv l y_Second_failIfTooLong b_Second_failIfTooLong 1 rm_a_Second_failIfTooLong g [.ref (ad 8)] (Sw shC g ad S) sz (fun w => ∃ S' : sS, w = Sw shC g ad S' ∧ S' = s_Second_failIfTooLong S) := by
  refine startV (by decide) (Nat.le_of_ble_eq_true rfl) ?_
  intro p e s m below meth c A ls hx hb hr hml hlocks hmn hown htt hN hA hP hK hD hS hl
  have hown : s.vm.findClass "MacroMill$Second" = some m.cls := hown
  have hl : lv_has ls 1 [(0, .ref (ad 8))] := hl
  refine lv_aload_n hx hb d_Second_failIfTooLong_0 rfl (lv_at hl 0 rfl) ?_
  refine S_getI (h := shC) (C := "MacroMill$Second") (T := F_Second) hx hb htt in_Second hown hK hP 8 13 rfl rfl rfl (by decide) (htt _ k_910) (fun _ h9 => h9) d_Second_failIfTooLong_1 ?_
  refine lv_aload_n hx hb d_Second_failIfTooLong_4 rfl (lv_at hl 0 rfl) ?_
  refine S_getI (h := shC) (C := "MacroMill$Second") (T := F_Second) hx hb htt in_Second hown hK hP 8 12 rfl rfl rfl (by decide) (htt _ k_909) (fun _ h9 => h9) d_Second_failIfTooLong_5 ?_
  refine lv_isub hx hb d_Second_failIfTooLong_8 ?_
  refine lv_sipush (v := 8000) hx hb d_Second_failIfTooLong_9 (by decide) ?_
  refine lv_icmp_le (tgt := 21) hx hb d_Second_failIfTooLong_12 (by decide) (fun hc1 => ?_) (fun hc1 => ?_)
  · exact fin_v (g := g) (ws := Sw shC g ad S) hx hb hr hlocks (by decide +kernel) (by decide +kernel) hP hD hS ⟨_, rfl, (by unfold s_Second_failIfTooLong; rw [if_pos hc1])⟩ d_Second_failIfTooLong_21
  · refine lv_aload_n hx hb d_Second_failIfTooLong_15 rfl (lv_at hl 0 rfl) ?_
    refine lv_bipush (v := 21) hx hb d_Second_failIfTooLong_16 (by decide) ?_
    refine go_vS (As := [.ref (ad 8), .int 21]) (g := g) (A := A) (h := shC) hP hK hD hS hA hN (fun hp => va_runV (As := [.int 21]) (rest := []) ⟨hx, hb, hml, hown, htt⟩ (a_Second_fail l g _ ad S (21 : Int32)) ⟨(cb_L htt k_2000 k_270 k_1997 hd_Second_fail ⟨(by decide +kernel), (by decide +kernel)⟩), htt _ k_1999, htt _ k_96⟩ ⟨hp.1, S_recv hK hP 8 rfl rfl, hp.2⟩ rfl rfl hl.1 rfl (lv_room (Nat.le_of_ble_eq_true rfl)) d_Second_failIfTooLong_18 ⟨(by decide +kernel), (by decide +kernel)⟩) (fun Sn H locs hw9 hP hD hS => ?_)
    obtain rfl := hw9
    refine W.widen (k := 0) (n := 0) (by decide +kernel) (by decide +kernel) ?_
    exact fin_v (g := g) (ws := Sw shC g ad (s_Second_fail S (21 : Int32))) hx hb hr hlocks (by decide +kernel) (by decide +kernel) hP hD hS ⟨_, rfl, (by unfold s_Second_failIfTooLong; rw [if_neg hc1])⟩ d_Second_failIfTooLong_21
def s_Second_waitForTokens (S : sS) (v1 : Int32) : sS := if ((s_Second_failIfTooLong S).1 8 13) ≤ (((s_Second_failIfTooLong S).1 8 12) + (2 : Int32)) then ((putI (putA (putI (s_Second_failIfTooLong S) 8 16 (-1)) 41 (((s_Second_failIfTooLong S).1 8 13) - (1 : Int32) : Int32).toNatClampNeg (-1)) 8 15 v1)) else ((putI (putA (putI (s_Second_failIfTooLong S) 8 16 (((s_Second_failIfTooLong S).1 8 12) + (2 : Int32))) 41 (((s_Second_failIfTooLong S).1 8 13) - (1 : Int32) : Int32).toNatClampNeg (-1)) 8 15 v1))
abbrev rm_a_Second_waitForTokens : Room := { frames := 3, cells := 0, slots := 0, locals := 63 }
set_option maxHeartbeats 4000000 in
set_option maxRecDepth 100000 in
theorem a_Second_waitForTokens (l : Launch) (g : gG) (sz : Nat) (ad : Nat → Nat) (S : sS) (v1 : Int32) (hb0 : ((s_Second_failIfTooLong S).1 8 13) ≤ (((s_Second_failIfTooLong S).1 8 12) + (2 : Int32)) → vp_in (((s_Second_failIfTooLong S).1 8 13) - (1 : Int32)) 120784) (hb1 : ¬ (((s_Second_failIfTooLong S).1 8 13) ≤ (((s_Second_failIfTooLong S).1 8 12) + (2 : Int32))) → vp_in (((s_Second_failIfTooLong S).1 8 13) - (1 : Int32)) 120784) : Cv l y_Second_waitForTokens b_Second_waitForTokens 2 rm_a_Second_waitForTokens g [.ref (ad 8), .int v1] (Sw shC g ad S) sz (fun w => ∃ S' : sS, w = Sw shC g ad S' ∧ S' = s_Second_waitForTokens S v1) := by
  refine startV (by decide) (Nat.le_of_ble_eq_true rfl) ?_
  intro p e s m below meth c A ls hx hb hr hml hlocks hmn hown htt hN hA hP hK hD hS hl
  have hown : s.vm.findClass "MacroMill$Second" = some m.cls := hown
  have hl : lv_has ls 2 [(0, .ref (ad 8)), (1, .int v1)] := hl
  refine lv_aload_n hx hb d_Second_waitForTokens_0 rfl (lv_at hl 0 rfl) ?_
  refine go_vS (As := [.ref (ad 8)]) (g := g) (A := A) (h := shC) hP hK hD hS hA hN (fun hp => va_runV (As := []) (rest := []) ⟨hx, hb, hml, hown, htt⟩ (a_Second_failIfTooLong l g _ ad S) ⟨(cb_L htt k_2026 k_270 k_2023 hd_Second_failIfTooLong ⟨(by decide +kernel), (by decide +kernel)⟩), htt _ k_2025, htt _ k_100⟩ ⟨hp.1, S_recv hK hP 8 rfl rfl, hp.2⟩ rfl rfl hl.1 rfl (lv_room (Nat.le_of_ble_eq_true rfl)) d_Second_waitForTokens_1 ⟨(by decide +kernel), (by decide +kernel)⟩) (fun Sn H locs hw9 hP hD hS => ?_)
  obtain rfl := hw9
  refine W.widen (k := 0) (n := 0) (by decide +kernel) (by decide +kernel) ?_
  refine lv_aload_n hx hb d_Second_waitForTokens_4 rfl (lv_at hl 0 rfl) ?_
  refine lv_aload_n hx hb d_Second_waitForTokens_5 rfl (lv_at hl 0 rfl) ?_
  refine S_getI (h := shC) (C := "MacroMill$Second") (T := F_Second) hx hb htt in_Second hown hK hP 8 12 rfl rfl rfl (by decide) (htt _ k_909) (fun _ h9 => h9) d_Second_waitForTokens_6 ?_
  refine lv_iconst (v := 2) hx hb d_Second_waitForTokens_9 (by decide) ?_
  refine lv_iadd hx hb d_Second_waitForTokens_10 ?_
  refine lv_aload_n hx hb d_Second_waitForTokens_11 rfl (lv_at hl 0 rfl) ?_
  refine S_getI (h := shC) (C := "MacroMill$Second") (T := F_Second) hx hb htt in_Second hown hK hP 8 13 rfl rfl rfl (by decide) (htt _ k_910) (fun _ h9 => h9) d_Second_waitForTokens_12 ?_
  refine lv_icmp_ge (tgt := 27) hx hb d_Second_waitForTokens_15 (by decide) (fun hc1 => ?_) (fun hc1 => ?_)
  · refine lv_iconst (v := (-1)) hx hb d_Second_waitForTokens_27 (by decide) ?_
    refine S_put (h := shC) (C := "MacroMill$Second") (T := F_Second) (v := (-1)) hx hb htt in_Second t_Second t_Second_ok n_Second hown hK hP hD hS 8 16 rfl rfl rfl (by decide) (htt _ k_913) (fun _ h9 => h9) rfl rfl rfl d_Second_waitForTokens_28 (fun H locs hP hD hS => ?_)
    show W _ _ _ _ _ _ _ _ _ _ _ _ _ _ _ (F0 _ 31 _ _)
    refine lv_aload_n hx hb d_Second_waitForTokens_31 rfl (lv_at hl 0 rfl) ?_
    refine S_getR (h := shC) (C := "MacroMill$Second") (T := F_Second) hx hb htt in_Second hown hK hP 8 3 rfl 9 rfl rfl (by decide) (htt _ k_899) (fun _ h9 => h9) d_Second_waitForTokens_32 ?_
    refine S_getR (h := shC) (C := "MacroMill$Tokens") (T := F_Tokens) hx hb htt in_Tokens hown hK hP 9 7 rfl 54 rfl rfl (by decide) (htt _ k_654) (fun _ h9 => h9) d_Second_waitForTokens_35 ?_
    refine lv_aload_n hx hb d_Second_waitForTokens_38 rfl (lv_at hl 0 rfl) ?_
    refine S_getI (h := shC) (C := "MacroMill$Second") (T := F_Second) hx hb htt in_Second hown hK hP 8 13 rfl rfl rfl (by decide) (htt _ k_910) (fun _ h9 => h9) d_Second_waitForTokens_39 ?_
    refine toI (y := (s_Second_failIfTooLong S).1 8 13) rfl ?_
    refine lv_iconst (v := 1) hx hb d_Second_waitForTokens_42 (by decide) ?_
    refine lv_isub hx hb d_Second_waitForTokens_43 ?_
    refine lv_iconst (v := (-1)) hx hb d_Second_waitForTokens_44 (by decide) ?_
    refine S_iast (h := shC) (i := ((s_Second_failIfTooLong S).1 8 13) - (1 : Int32)) (v := (-1)) hx hb hK hP hD hS 41 rfl (hb0 hc1) d_Second_waitForTokens_45 (fun H locs hP hD hS => ?_)
    refine lv_aload_n hx hb d_Second_waitForTokens_46 rfl (lv_at hl 0 rfl) ?_
    refine lv_iload_n hx hb d_Second_waitForTokens_47 rfl (lv_at hl 1 rfl) ?_
    refine S_put (h := shC) (C := "MacroMill$Second") (T := F_Second) (v := v1) hx hb htt in_Second t_Second t_Second_ok n_Second hown hK hP hD hS 8 15 rfl rfl rfl (by decide) (htt _ k_912) (fun _ h9 => h9) rfl rfl rfl d_Second_waitForTokens_48 (fun H locs hP hD hS => ?_)
    show W _ _ _ _ _ _ _ _ _ _ _ _ _ _ _ (F0 _ 51 _ _)
    exact fin_v (g := g) (ws := Sw shC g ad (putI (putA (putI (s_Second_failIfTooLong S) 8 16 (-1)) 41 (((s_Second_failIfTooLong S).1 8 13) - (1 : Int32) : Int32).toNatClampNeg (-1)) 8 15 v1)) hx hb hr hlocks (by decide +kernel) (by decide +kernel) hP hD hS ⟨_, rfl, (by unfold s_Second_waitForTokens; rw [if_pos hc1])⟩ d_Second_waitForTokens_51
  · refine lv_aload_n hx hb d_Second_waitForTokens_18 rfl (lv_at hl 0 rfl) ?_
    refine S_getI (h := shC) (C := "MacroMill$Second") (T := F_Second) hx hb htt in_Second hown hK hP 8 12 rfl rfl rfl (by decide) (htt _ k_909) (fun _ h9 => h9) d_Second_waitForTokens_19 ?_
    show W _ _ _ _ _ _ _ _ _ _ _ _ _ _ _ (F0 _ 22 _ _)
    refine lv_iconst (v := 2) hx hb d_Second_waitForTokens_22 (by decide) ?_
    refine lv_iadd hx hb d_Second_waitForTokens_23 ?_
    refine lv_goto (tgt := 28) hx hb d_Second_waitForTokens_24 (by decide) ?_
    refine S_put (h := shC) (C := "MacroMill$Second") (T := F_Second) (v := ((s_Second_failIfTooLong S).1 8 12) + (2 : Int32)) hx hb htt in_Second t_Second t_Second_ok n_Second hown hK hP hD hS 8 16 rfl rfl rfl (by decide) (htt _ k_913) (fun _ h9 => h9) rfl rfl rfl d_Second_waitForTokens_28 (fun H locs hP hD hS => ?_)
    refine lv_aload_n hx hb d_Second_waitForTokens_31 rfl (lv_at hl 0 rfl) ?_
    refine S_getR (h := shC) (C := "MacroMill$Second") (T := F_Second) hx hb htt in_Second hown hK hP 8 3 rfl 9 rfl rfl (by decide) (htt _ k_899) (fun _ h9 => h9) d_Second_waitForTokens_32 ?_
    refine S_getR (h := shC) (C := "MacroMill$Tokens") (T := F_Tokens) hx hb htt in_Tokens hown hK hP 9 7 rfl 54 rfl rfl (by decide) (htt _ k_654) (fun _ h9 => h9) d_Second_waitForTokens_35 ?_
    refine lv_aload_n hx hb d_Second_waitForTokens_38 rfl (lv_at hl 0 rfl) ?_
    refine S_getI (h := shC) (C := "MacroMill$Second") (T := F_Second) hx hb htt in_Second hown hK hP 8 13 rfl rfl rfl (by decide) (htt _ k_910) (fun _ h9 => h9) d_Second_waitForTokens_39 ?_
    refine toI (y := (s_Second_failIfTooLong S).1 8 13) rfl ?_
    refine lv_iconst (v := 1) hx hb d_Second_waitForTokens_42 (by decide) ?_
    refine lv_isub hx hb d_Second_waitForTokens_43 ?_
    refine lv_iconst (v := (-1)) hx hb d_Second_waitForTokens_44 (by decide) ?_
    show W _ _ _ _ _ _ _ _ _ _ _ _ _ _ _ (F0 _ 45 _ _)
    refine S_iast (h := shC) (i := ((s_Second_failIfTooLong S).1 8 13) - (1 : Int32)) (v := (-1)) hx hb hK hP hD hS 41 rfl (hb1 hc1) d_Second_waitForTokens_45 (fun H locs hP hD hS => ?_)
    refine lv_aload_n hx hb d_Second_waitForTokens_46 rfl (lv_at hl 0 rfl) ?_
    refine lv_iload_n hx hb d_Second_waitForTokens_47 rfl (lv_at hl 1 rfl) ?_
    refine S_put (h := shC) (C := "MacroMill$Second") (T := F_Second) (v := v1) hx hb htt in_Second t_Second t_Second_ok n_Second hown hK hP hD hS 8 15 rfl rfl rfl (by decide) (htt _ k_912) (fun _ h9 => h9) rfl rfl rfl d_Second_waitForTokens_48 (fun H locs hP hD hS => ?_)
    exact fin_v (g := g) (ws := Sw shC g ad (putI (putA (putI (s_Second_failIfTooLong S) 8 16 (((s_Second_failIfTooLong S).1 8 12) + (2 : Int32))) 41 (((s_Second_failIfTooLong S).1 8 13) - (1 : Int32) : Int32).toNatClampNeg (-1)) 8 15 v1)) hx hb hr hlocks (by decide +kernel) (by decide +kernel) hP hD hS ⟨_, rfl, (by unfold s_Second_waitForTokens; rw [if_neg hc1])⟩ d_Second_waitForTokens_51
def s_Second_openCondition (S : sS) (v1 : Int32) : sS := if (S.1 8 9) < (100 : Int32) then ((putI (putA (putA S 33 (S.1 8 9 : Int32).toNatClampNeg v1) 32 (S.1 8 9 : Int32).toNatClampNeg (S.1 8 14)) 8 9 ((S.1 8 9) + (1 : Int32)))) else ((s_Second_fail S (21 : Int32)))
abbrev rm_a_Second_openCondition : Room := { frames := 2, cells := 0, slots := 0, locals := 43 }
set_option maxHeartbeats 4000000 in
set_option maxRecDepth 100000 in
theorem a_Second_openCondition (l : Launch) (g : gG) (sz : Nat) (ad : Nat → Nat) (S : sS) (v1 : Int32) (hb0 : (S.1 8 9) < (100 : Int32) → vp_in (S.1 8 9) 100) : Cv l y_Second_openCondition b_Second_openCondition 2 rm_a_Second_openCondition g [.ref (ad 8), .int v1] (Sw shC g ad S) sz (fun w => ∃ S' : sS, w = Sw shC g ad S' ∧ S' = s_Second_openCondition S v1) := by
  refine startV (by decide) (Nat.le_of_ble_eq_true rfl) ?_
  intro p e s m below meth c A ls hx hb hr hml hlocks hmn hown htt hN hA hP hK hD hS hl
  have hown : s.vm.findClass "MacroMill$Second" = some m.cls := hown
  have hl : lv_has ls 2 [(0, .ref (ad 8)), (1, .int v1)] := hl
  refine lv_aload_n hx hb d_Second_openCondition_0 rfl (lv_at hl 0 rfl) ?_
  refine S_getI (h := shC) (C := "MacroMill$Second") (T := F_Second) hx hb htt in_Second hown hK hP 8 9 rfl rfl rfl (by decide) (htt _ k_906) (fun _ h9 => h9) d_Second_openCondition_1 ?_
  refine lv_bipush (v := 100) hx hb d_Second_openCondition_4 (by decide) ?_
  refine lv_icmp_lt (tgt := 16) hx hb d_Second_openCondition_6 (by decide) (fun hc1 => ?_) (fun hc1 => ?_)
  · refine lv_aload_n hx hb d_Second_openCondition_16 rfl (lv_at hl 0 rfl) ?_
    refine S_getR (h := shC) (C := "MacroMill$Second") (T := F_Second) hx hb htt in_Second hown hK hP 8 8 rfl 46 rfl rfl (by decide) (htt _ k_905) (fun _ h9 => h9) d_Second_openCondition_17 ?_
    refine lv_aload_n hx hb d_Second_openCondition_20 rfl (lv_at hl 0 rfl) ?_
    refine S_getI (h := shC) (C := "MacroMill$Second") (T := F_Second) hx hb htt in_Second hown hK hP 8 9 rfl rfl rfl (by decide) (htt _ k_906) (fun _ h9 => h9) d_Second_openCondition_21 ?_
    refine lv_iload_n hx hb d_Second_openCondition_24 rfl (lv_at hl 1 rfl) ?_
    refine S_iast (h := shC) (i := S.1 8 9) (v := v1) hx hb hK hP hD hS 33 rfl (hb0 hc1) d_Second_openCondition_25 (fun H locs hP hD hS => ?_)
    refine lv_aload_n hx hb d_Second_openCondition_26 rfl (lv_at hl 0 rfl) ?_
    refine S_getR (h := shC) (C := "MacroMill$Second") (T := F_Second) hx hb htt in_Second hown hK hP 8 7 rfl 45 rfl rfl (by decide) (htt _ k_904) (fun _ h9 => h9) d_Second_openCondition_27 ?_
    show W _ _ _ _ _ _ _ _ _ _ _ _ _ _ _ (F0 _ 30 _ _)
    refine lv_aload_n hx hb d_Second_openCondition_30 rfl (lv_at hl 0 rfl) ?_
    refine S_getI (h := shC) (C := "MacroMill$Second") (T := F_Second) hx hb htt in_Second hown hK hP 8 9 rfl rfl rfl (by decide) (htt _ k_906) (fun _ h9 => h9) d_Second_openCondition_31 ?_
    refine toI (y := S.1 8 9) rfl ?_
    refine lv_aload_n hx hb d_Second_openCondition_34 rfl (lv_at hl 0 rfl) ?_
    refine S_getI (h := shC) (C := "MacroMill$Second") (T := F_Second) hx hb htt in_Second hown hK hP 8 14 rfl rfl rfl (by decide) (htt _ k_911) (fun _ h9 => h9) d_Second_openCondition_35 ?_
    refine toI (y := S.1 8 14) rfl ?_
    refine S_iast (h := shC) (i := S.1 8 9) (v := S.1 8 14) hx hb hK hP hD hS 32 rfl (hb0 hc1) d_Second_openCondition_38 (fun H locs hP hD hS => ?_)
    refine lv_aload_n hx hb d_Second_openCondition_39 rfl (lv_at hl 0 rfl) ?_
    refine lv_dup hx hb d_Second_openCondition_40 rfl ?_
    refine S_getI (h := shC) (C := "MacroMill$Second") (T := F_Second) hx hb htt in_Second hown hK hP 8 9 rfl rfl rfl (by decide) (htt _ k_906) (fun _ h9 => h9) d_Second_openCondition_41 ?_
    refine toI (y := S.1 8 9) rfl ?_
    refine lv_iconst (v := 1) hx hb d_Second_openCondition_44 (by decide) ?_
    refine lv_iadd hx hb d_Second_openCondition_45 ?_
    refine S_put (h := shC) (C := "MacroMill$Second") (T := F_Second) (v := (S.1 8 9) + (1 : Int32)) hx hb htt in_Second t_Second t_Second_ok n_Second hown hK hP hD hS 8 9 rfl rfl rfl (by decide) (htt _ k_906) (fun _ h9 => h9) rfl rfl rfl d_Second_openCondition_46 (fun H locs hP hD hS => ?_)
    exact fin_v (g := g) (ws := Sw shC g ad (putI (putA (putA S 33 (S.1 8 9 : Int32).toNatClampNeg v1) 32 (S.1 8 9 : Int32).toNatClampNeg (S.1 8 14)) 8 9 ((S.1 8 9) + (1 : Int32)))) hx hb hr hlocks (by decide +kernel) (by decide +kernel) hP hD hS ⟨_, rfl, (by unfold s_Second_openCondition; rw [if_pos hc1])⟩ d_Second_openCondition_49
  · refine lv_aload_n hx hb d_Second_openCondition_9 rfl (lv_at hl 0 rfl) ?_
    refine lv_bipush (v := 21) hx hb d_Second_openCondition_10 (by decide) ?_
    refine go_vS (As := [.ref (ad 8), .int 21]) (g := g) (A := A) (h := shC) hP hK hD hS hA hN (fun hp => va_runV (As := [.int 21]) (rest := []) ⟨hx, hb, hml, hown, htt⟩ (a_Second_fail l g _ ad S (21 : Int32)) ⟨(cb_L htt k_2000 k_270 k_1997 hd_Second_fail ⟨(by decide +kernel), (by decide +kernel)⟩), htt _ k_1999, htt _ k_96⟩ ⟨hp.1, S_recv hK hP 8 rfl rfl, hp.2⟩ rfl rfl hl.1 rfl (lv_room (Nat.le_of_ble_eq_true rfl)) d_Second_openCondition_12 ⟨(by decide +kernel), (by decide +kernel)⟩) (fun Sn H locs hw9 hP hD hS => ?_)
    obtain rfl := hw9
    refine W.widen (k := 0) (n := 0) (by decide +kernel) (by decide +kernel) ?_
    exact fin_v (g := g) (ws := Sw shC g ad (s_Second_fail S (21 : Int32))) hx hb hr hlocks (by decide +kernel) (by decide +kernel) hP hD hS ⟨_, rfl, (by unfold s_Second_openCondition; rw [if_neg hc1])⟩ d_Second_openCondition_15
def r_Second_continueCondition (S : sS) (v1 : Int32) : Int32 := if (S.1 8 9) ≤ (S.2.1 34 ((S.1 11 11) - (1 : Int32) : Int32).toNatClampNeg) then 0 else (if ((S.2.1 33 ((S.1 8 9) - (1 : Int32) : Int32).toNatClampNeg) &&& (2 : Int32)) = (0 : Int32) then (if ((S.2.1 33 ((S.1 8 9) - (1 : Int32) : Int32).toNatClampNeg) &&& (8 : Int32)) = (0 : Int32) then (if v1 = (7 : Int32) then (if v1 = (9 : Int32) then 0 else (if ((S.2.1 33 ((S.1 8 9) - (1 : Int32) : Int32).toNatClampNeg) &&& (4 : Int32)) = (0 : Int32) then (if v1 = (8 : Int32) then 0 else 1) else 0)) else (if ((S.1 8 13) - (S.1 8 12)) ≤ (2 : Int32) then (if v1 = (9 : Int32) then 0 else (if ((S.2.1 33 ((S.1 8 9) - (1 : Int32) : Int32).toNatClampNeg) &&& (4 : Int32)) = (0 : Int32) then (if v1 = (8 : Int32) then 0 else 1) else 0)) else 0)) else 0) else 0)
def s_Second_continueCondition (S : sS) (v1 : Int32) : sS := if (S.1 8 9) ≤ (S.2.1 34 ((S.1 11 11) - (1 : Int32) : Int32).toNatClampNeg) then (if v1 = (7 : Int32) then ((s_Second_fail S (13 : Int32))) else (if ((S.1 8 13) - (S.1 8 12)) ≤ (2 : Int32) then ((s_Second_fail S (13 : Int32))) else ((s_Second_fail S (7 : Int32))))) else (if ((S.2.1 33 ((S.1 8 9) - (1 : Int32) : Int32).toNatClampNeg) &&& (2 : Int32)) = (0 : Int32) then (if ((S.2.1 33 ((S.1 8 9) - (1 : Int32) : Int32).toNatClampNeg) &&& (8 : Int32)) = (0 : Int32) then (if v1 = (7 : Int32) then (if v1 = (9 : Int32) then ((putI S 8 9 ((S.1 8 9) - (1 : Int32)))) else (if ((S.2.1 33 ((S.1 8 9) - (1 : Int32) : Int32).toNatClampNeg) &&& (4 : Int32)) = (0 : Int32) then (if v1 = (8 : Int32) then ((putA S 33 ((S.1 8 9) - (1 : Int32) : Int32).toNatClampNeg 7)) else S) else ((s_Second_fail S (13 : Int32))))) else (if ((S.1 8 13) - (S.1 8 12)) ≤ (2 : Int32) then (if v1 = (9 : Int32) then ((putI S 8 9 ((S.1 8 9) - (1 : Int32)))) else (if ((S.2.1 33 ((S.1 8 9) - (1 : Int32) : Int32).toNatClampNeg) &&& (4 : Int32)) = (0 : Int32) then (if v1 = (8 : Int32) then ((putA S 33 ((S.1 8 9) - (1 : Int32) : Int32).toNatClampNeg 7)) else S) else ((s_Second_fail S (13 : Int32))))) else ((s_Second_fail S (7 : Int32))))) else (if v1 = (9 : Int32) then ((putI S 8 9 ((S.1 8 9) - (1 : Int32)))) else ((putI S 8 9 ((S.1 8 9) - (0 : Int32)))))) else (if ((S.2.1 33 ((S.1 8 9) - (1 : Int32) : Int32).toNatClampNeg) &&& (8 : Int32)) = (0 : Int32) then (if v1 = (7 : Int32) then (if v1 = (9 : Int32) then ((putI S 8 9 ((S.1 8 9) - (1 : Int32)))) else (if ((S.2.1 33 ((S.1 8 9) - (1 : Int32) : Int32).toNatClampNeg) &&& (4 : Int32)) = (0 : Int32) then (if v1 = (8 : Int32) then ((putA S 33 ((S.1 8 9) - (1 : Int32) : Int32).toNatClampNeg 6)) else ((putA S 33 ((S.1 8 9) - (1 : Int32) : Int32).toNatClampNeg 2))) else ((s_Second_fail S (13 : Int32))))) else (if ((S.1 8 13) - (S.1 8 12)) ≤ (2 : Int32) then (if v1 = (9 : Int32) then ((putI S 8 9 ((S.1 8 9) - (1 : Int32)))) else (if ((S.2.1 33 ((S.1 8 9) - (1 : Int32) : Int32).toNatClampNeg) &&& (4 : Int32)) = (0 : Int32) then (if v1 = (8 : Int32) then ((putA S 33 ((S.1 8 9) - (1 : Int32) : Int32).toNatClampNeg 6)) else ((putA S 33 ((S.1 8 9) - (1 : Int32) : Int32).toNatClampNeg 2))) else ((s_Second_fail S (13 : Int32))))) else ((s_Second_fail S (7 : Int32))))) else (if v1 = (9 : Int32) then ((putI S 8 9 ((S.1 8 9) - (1 : Int32)))) else ((putI S 8 9 ((S.1 8 9) - (0 : Int32)))))))
abbrev rm_a_Second_continueCondition : Room := { frames := 2, cells := 0, slots := 0, locals := 43 }
set_option maxHeartbeats 4000000 in
set_option maxRecDepth 100000 in
theorem a_Second_continueCondition (l : Launch) (g : gG) (sz : Nat) (ad : Nat → Nat) (S : sS) (v1 : Int32) (hb0 : vp_in ((S.1 11 11) - (1 : Int32)) 22) (hb1 : ¬ ((S.1 8 9) ≤ (S.2.1 34 ((S.1 11 11) - (1 : Int32) : Int32).toNatClampNeg)) → vp_in ((S.1 8 9) - (1 : Int32)) 100) (hb2 : ¬ ((S.1 8 9) ≤ (S.2.1 34 ((S.1 11 11) - (1 : Int32) : Int32).toNatClampNeg)) → ((S.2.1 33 ((S.1 8 9) - (1 : Int32) : Int32).toNatClampNeg) &&& (2 : Int32)) = (0 : Int32) → ((S.2.1 33 ((S.1 8 9) - (1 : Int32) : Int32).toNatClampNeg) &&& (8 : Int32)) = (0 : Int32) → v1 = (7 : Int32) → ¬ (v1 = (9 : Int32)) → ((S.2.1 33 ((S.1 8 9) - (1 : Int32) : Int32).toNatClampNeg) &&& (4 : Int32)) = (0 : Int32) → v1 = (8 : Int32) → vp_in ((S.1 8 9) - (1 : Int32)) 100) (hb3 : ¬ ((S.1 8 9) ≤ (S.2.1 34 ((S.1 11 11) - (1 : Int32) : Int32).toNatClampNeg)) → ((S.2.1 33 ((S.1 8 9) - (1 : Int32) : Int32).toNatClampNeg) &&& (2 : Int32)) = (0 : Int32) → ((S.2.1 33 ((S.1 8 9) - (1 : Int32) : Int32).toNatClampNeg) &&& (8 : Int32)) = (0 : Int32) → ¬ (v1 = (7 : Int32)) → ((S.1 8 13) - (S.1 8 12)) ≤ (2 : Int32) → ¬ (v1 = (9 : Int32)) → ((S.2.1 33 ((S.1 8 9) - (1 : Int32) : Int32).toNatClampNeg) &&& (4 : Int32)) = (0 : Int32) → v1 = (8 : Int32) → vp_in ((S.1 8 9) - (1 : Int32)) 100) (hb4 : ¬ ((S.1 8 9) ≤ (S.2.1 34 ((S.1 11 11) - (1 : Int32) : Int32).toNatClampNeg)) → ¬ (((S.2.1 33 ((S.1 8 9) - (1 : Int32) : Int32).toNatClampNeg) &&& (2 : Int32)) = (0 : Int32)) → ((S.2.1 33 ((S.1 8 9) - (1 : Int32) : Int32).toNatClampNeg) &&& (8 : Int32)) = (0 : Int32) → v1 = (7 : Int32) → ¬ (v1 = (9 : Int32)) → ((S.2.1 33 ((S.1 8 9) - (1 : Int32) : Int32).toNatClampNeg) &&& (4 : Int32)) = (0 : Int32) → ¬ (v1 = (8 : Int32)) → vp_in ((S.1 8 9) - (1 : Int32)) 100) (hb5 : ¬ ((S.1 8 9) ≤ (S.2.1 34 ((S.1 11 11) - (1 : Int32) : Int32).toNatClampNeg)) → ¬ (((S.2.1 33 ((S.1 8 9) - (1 : Int32) : Int32).toNatClampNeg) &&& (2 : Int32)) = (0 : Int32)) → ((S.2.1 33 ((S.1 8 9) - (1 : Int32) : Int32).toNatClampNeg) &&& (8 : Int32)) = (0 : Int32) → v1 = (7 : Int32) → ¬ (v1 = (9 : Int32)) → ((S.2.1 33 ((S.1 8 9) - (1 : Int32) : Int32).toNatClampNeg) &&& (4 : Int32)) = (0 : Int32) → v1 = (8 : Int32) → vp_in ((S.1 8 9) - (1 : Int32)) 100) (hb6 : ¬ ((S.1 8 9) ≤ (S.2.1 34 ((S.1 11 11) - (1 : Int32) : Int32).toNatClampNeg)) → ¬ (((S.2.1 33 ((S.1 8 9) - (1 : Int32) : Int32).toNatClampNeg) &&& (2 : Int32)) = (0 : Int32)) → ((S.2.1 33 ((S.1 8 9) - (1 : Int32) : Int32).toNatClampNeg) &&& (8 : Int32)) = (0 : Int32) → ¬ (v1 = (7 : Int32)) → ((S.1 8 13) - (S.1 8 12)) ≤ (2 : Int32) → ¬ (v1 = (9 : Int32)) → ((S.2.1 33 ((S.1 8 9) - (1 : Int32) : Int32).toNatClampNeg) &&& (4 : Int32)) = (0 : Int32) → ¬ (v1 = (8 : Int32)) → vp_in ((S.1 8 9) - (1 : Int32)) 100) (hb7 : ¬ ((S.1 8 9) ≤ (S.2.1 34 ((S.1 11 11) - (1 : Int32) : Int32).toNatClampNeg)) → ¬ (((S.2.1 33 ((S.1 8 9) - (1 : Int32) : Int32).toNatClampNeg) &&& (2 : Int32)) = (0 : Int32)) → ((S.2.1 33 ((S.1 8 9) - (1 : Int32) : Int32).toNatClampNeg) &&& (8 : Int32)) = (0 : Int32) → ¬ (v1 = (7 : Int32)) → ((S.1 8 13) - (S.1 8 12)) ≤ (2 : Int32) → ¬ (v1 = (9 : Int32)) → ((S.2.1 33 ((S.1 8 9) - (1 : Int32) : Int32).toNatClampNeg) &&& (4 : Int32)) = (0 : Int32) → v1 = (8 : Int32) → vp_in ((S.1 8 9) - (1 : Int32)) 100) : Cz l y_Second_continueCondition b_Second_continueCondition 5 rm_a_Second_continueCondition g [.ref (ad 8), .int v1] (Sw shC g ad S) sz (fun r w => ∃ S' : sS, w = Sw shC g ad S' ∧ r = r_Second_continueCondition S v1 ∧ S' = s_Second_continueCondition S v1) := by
  refine startZ (by decide) (Nat.le_of_ble_eq_true rfl) ?_
  intro p e s m below meth c A ls hx hb hr hml hlocks hmn hown htt hN hA hP hK hD hS hl
  have hown : s.vm.findClass "MacroMill$Second" = some m.cls := hown
  have hl : lv_has ls 5 [(0, .ref (ad 8)), (1, .int v1)] := hl
  refine lv_aload_n hx hb d_Second_continueCondition_0 rfl (lv_at hl 0 rfl) ?_
  refine S_getI (h := shC) (C := "MacroMill$Second") (T := F_Second) hx hb htt in_Second hown hK hP 8 9 rfl rfl rfl (by decide) (htt _ k_906) (fun _ h9 => h9) d_Second_continueCondition_1 ?_
  refine lv_aload_n hx hb d_Second_continueCondition_4 rfl (lv_at hl 0 rfl) ?_
  refine S_getR (h := shC) (C := "MacroMill$Second") (T := F_Second) hx hb htt in_Second hown hK hP 8 10 rfl 47 rfl rfl (by decide) (htt _ k_907) (fun _ h9 => h9) d_Second_continueCondition_5 ?_
  refine lv_aload_n hx hb d_Second_continueCondition_8 rfl (lv_at hl 0 rfl) ?_
  refine S_getR (h := shC) (C := "MacroMill$Second") (T := F_Second) hx hb htt in_Second hown hK hP 8 5 rfl 11 rfl rfl (by decide) (htt _ k_902) (fun _ h9 => h9) d_Second_continueCondition_9 ?_
  refine S_getI (h := shC) (C := "MacroMill$Lines") (T := F_Lines) hx hb htt in_Lines hown hK hP 11 11 rfl rfl rfl (by decide) (htt _ k_771) (fun _ h9 => h9) d_Second_continueCondition_12 ?_
  refine lv_iconst (v := 1) hx hb d_Second_continueCondition_15 (by decide) ?_
  refine lv_isub hx hb d_Second_continueCondition_16 ?_
  refine S_iald (h := shC) (i := (S.1 11 11) - (1 : Int32)) hx hb hK hP 34 rfl hb0 d_Second_continueCondition_17 ?_
  refine lv_icmp_le (tgt := 25) hx hb d_Second_continueCondition_18 (by decide) (fun hc1 => ?_) (fun hc1 => ?_)
  · refine lv_iconst (v := 0) hx hb d_Second_continueCondition_25 (by decide) ?_
    show W _ _ _ _ _ _ _ _ _ _ _ _ _ _ _ (F0 _ 26 _ _)
    refine lv_istore_n (lv' := [(2, .int 0), (0, .ref (ad 8)), (1, .int v1)]) hx hb d_Second_continueCondition_26 rfl hl (by decide) rfl (fun ls hl => ?_)
    refine lv_iload_n hx hb d_Second_continueCondition_27 rfl (lv_at hl 0 rfl) ?_
    refine lv_if_eq (tgt := 45) hx hb d_Second_continueCondition_28 (by decide) (fun _ => ?_) (fun h9 => absurd (by decide) h9)
    refine lv_iconst (v := 0) hx hb d_Second_continueCondition_45 (by decide) ?_
    refine lv_istore_n (lv' := [(3, .int 0), (2, .int 0), (0, .ref (ad 8)), (1, .int v1)]) hx hb d_Second_continueCondition_46 rfl hl (by decide) rfl (fun ls hl => ?_)
    refine lv_iload_n hx hb d_Second_continueCondition_47 rfl (lv_at hl 0 rfl) ?_
    refine lv_iconst (v := 2) hx hb d_Second_continueCondition_48 (by decide) ?_
    refine lv_iand hx hb d_Second_continueCondition_49 ?_
    refine toI (y := 0) (by decide) ?_
    refine lv_if_eq (tgt := 57) hx hb d_Second_continueCondition_50 (by decide) (fun _ => ?_) (fun h9 => absurd (by decide) h9)
    refine lv_iconst (v := 0) hx hb d_Second_continueCondition_57 (by decide) ?_
    refine lv_istore (lv' := [(4, .int 0), (3, .int 0), (2, .int 0), (0, .ref (ad 8)), (1, .int v1)]) hx hb d_Second_continueCondition_58 hl (by decide) rfl (fun ls hl => ?_)
    refine lv_iload_n hx hb d_Second_continueCondition_60 rfl (lv_at hl 1 rfl) ?_
    show W _ _ _ _ _ _ _ _ _ _ _ _ _ _ _ (F0 _ 61 _ _)
    refine lv_bipush (v := 8) hx hb d_Second_continueCondition_61 (by decide) ?_
    refine lv_iand hx hb d_Second_continueCondition_63 ?_
    refine toI (y := 0) (by decide) ?_
    refine lv_if_eq (tgt := 90) hx hb d_Second_continueCondition_64 (by decide) (fun _ => ?_) (fun h9 => absurd (by decide) h9)
    refine lv_iload_n hx hb d_Second_continueCondition_90 rfl (lv_at hl 4 rfl) ?_
    refine lv_bipush (v := 7) hx hb d_Second_continueCondition_91 (by decide) ?_
    refine lv_icmp_eq (tgt := 118) hx hb d_Second_continueCondition_93 (by decide) (fun hc2 => ?_) (fun hc2 => ?_)
    · refine lv_iload_n hx hb d_Second_continueCondition_118 rfl (lv_at hl 2 rfl) ?_
      refine lv_if_eq (tgt := 134) hx hb d_Second_continueCondition_119 (by decide) (fun _ => ?_) (fun h9 => absurd (by decide) h9)
      refine lv_aload_n hx hb d_Second_continueCondition_134 rfl (lv_at hl 3 rfl) ?_
      refine lv_bipush (v := 13) hx hb d_Second_continueCondition_135 (by decide) ?_
      refine go_vS (As := [.ref (ad 8), .int 13]) (g := g) (A := A) (h := shC) hP hK hD hS hA hN (fun hp => va_runV (As := [.int 13]) (rest := []) ⟨hx, hb, hml, hown, htt⟩ (a_Second_fail l g _ ad S (13 : Int32)) ⟨(cb_L htt k_2000 k_270 k_1997 hd_Second_fail ⟨(by decide +kernel), (by decide +kernel)⟩), htt _ k_1999, htt _ k_96⟩ ⟨hp.1, S_recv hK hP 8 rfl rfl, hp.2⟩ rfl rfl hl.1 rfl (lv_room (Nat.le_of_ble_eq_true rfl)) d_Second_continueCondition_137 ⟨(by decide +kernel), (by decide +kernel)⟩) (fun Sn H locs hw9 hP hD hS => ?_)
      obtain rfl := hw9
      refine W.widen (k := 0) (n := 0) (by decide +kernel) (by decide +kernel) ?_
      refine lv_goto (tgt := 217) hx hb d_Second_continueCondition_140 (by decide) ?_
      refine lv_iconst (v := 0) hx hb d_Second_continueCondition_217 (by decide) ?_
      show W _ _ _ _ _ _ _ _ _ _ _ _ _ _ _ (F0 _ 218 _ _)
      exact fin_z (g := g) (ws := Sw shC g ad (s_Second_fail S (13 : Int32))) (v := 0) hx hb hr hlocks rfl (by decide +kernel) (by decide +kernel) hP hD hS ⟨_, rfl, (by unfold r_Second_continueCondition; rw [if_pos hc1]), (by unfold s_Second_continueCondition; rw [if_pos hc1, if_pos hc2])⟩ d_Second_continueCondition_218
    · refine lv_aload_n hx hb d_Second_continueCondition_96 rfl (lv_at hl 3 rfl) ?_
      refine S_getI (h := shC) (C := "MacroMill$Second") (T := F_Second) hx hb htt in_Second hown hK hP 8 13 rfl rfl rfl (by decide) (htt _ k_910) (fun _ h9 => h9) d_Second_continueCondition_97 ?_
      refine lv_aload_n hx hb d_Second_continueCondition_100 rfl (lv_at hl 3 rfl) ?_
      refine S_getI (h := shC) (C := "MacroMill$Second") (T := F_Second) hx hb htt in_Second hown hK hP 8 12 rfl rfl rfl (by decide) (htt _ k_909) (fun _ h9 => h9) d_Second_continueCondition_101 ?_
      refine lv_isub hx hb d_Second_continueCondition_104 ?_
      refine lv_iconst (v := 2) hx hb d_Second_continueCondition_105 (by decide) ?_
      refine lv_icmp_le (tgt := 118) hx hb d_Second_continueCondition_106 (by decide) (fun hc3 => ?_) (fun hc3 => ?_)
      · refine lv_iload_n hx hb d_Second_continueCondition_118 rfl (lv_at hl 2 rfl) ?_
        show W _ _ _ _ _ _ _ _ _ _ _ _ _ _ _ (F0 _ 119 _ _)
        refine lv_if_eq (tgt := 134) hx hb d_Second_continueCondition_119 (by decide) (fun _ => ?_) (fun h9 => absurd (by decide) h9)
        refine lv_aload_n hx hb d_Second_continueCondition_134 rfl (lv_at hl 3 rfl) ?_
        refine lv_bipush (v := 13) hx hb d_Second_continueCondition_135 (by decide) ?_
        refine go_vS (As := [.ref (ad 8), .int 13]) (g := g) (A := A) (h := shC) hP hK hD hS hA hN (fun hp => va_runV (As := [.int 13]) (rest := []) ⟨hx, hb, hml, hown, htt⟩ (a_Second_fail l g _ ad S (13 : Int32)) ⟨(cb_L htt k_2000 k_270 k_1997 hd_Second_fail ⟨(by decide +kernel), (by decide +kernel)⟩), htt _ k_1999, htt _ k_96⟩ ⟨hp.1, S_recv hK hP 8 rfl rfl, hp.2⟩ rfl rfl hl.1 rfl (lv_room (Nat.le_of_ble_eq_true rfl)) d_Second_continueCondition_137 ⟨(by decide +kernel), (by decide +kernel)⟩) (fun Sn_2 H locs hw9 hP hD hS => ?_)
        obtain rfl := hw9
        refine W.widen (k := 0) (n := 0) (by decide +kernel) (by decide +kernel) ?_
        refine lv_goto (tgt := 217) hx hb d_Second_continueCondition_140 (by decide) ?_
        refine lv_iconst (v := 0) hx hb d_Second_continueCondition_217 (by decide) ?_
        exact fin_z (g := g) (ws := Sw shC g ad (s_Second_fail S (13 : Int32))) (v := 0) hx hb hr hlocks rfl (by decide +kernel) (by decide +kernel) hP hD hS ⟨_, rfl, (by unfold r_Second_continueCondition; rw [if_pos hc1]), (by unfold s_Second_continueCondition; rw [if_pos hc1, if_neg hc2, if_pos hc3])⟩ d_Second_continueCondition_218
      · refine lv_aload_n hx hb d_Second_continueCondition_109 rfl (lv_at hl 3 rfl) ?_
        show W _ _ _ _ _ _ _ _ _ _ _ _ _ _ _ (F0 _ 110 _ _)
        refine lv_bipush (v := 7) hx hb d_Second_continueCondition_110 (by decide) ?_
        refine go_vS (As := [.ref (ad 8), .int 7]) (g := g) (A := A) (h := shC) hP hK hD hS hA hN (fun hp => va_runV (As := [.int 7]) (rest := []) ⟨hx, hb, hml, hown, htt⟩ (a_Second_fail l g _ ad S (7 : Int32)) ⟨(cb_L htt k_2000 k_270 k_1997 hd_Second_fail ⟨(by decide +kernel), (by decide +kernel)⟩), htt _ k_1999, htt _ k_96⟩ ⟨hp.1, S_recv hK hP 8 rfl rfl, hp.2⟩ rfl rfl hl.1 rfl (lv_room (Nat.le_of_ble_eq_true rfl)) d_Second_continueCondition_112 ⟨(by decide +kernel), (by decide +kernel)⟩) (fun Sn_3 H locs hw9 hP hD hS => ?_)
        obtain rfl := hw9
        refine W.widen (k := 0) (n := 0) (by decide +kernel) (by decide +kernel) ?_
        refine lv_goto (tgt := 217) hx hb d_Second_continueCondition_115 (by decide) ?_
        refine lv_iconst (v := 0) hx hb d_Second_continueCondition_217 (by decide) ?_
        exact fin_z (g := g) (ws := Sw shC g ad (s_Second_fail S (7 : Int32))) (v := 0) hx hb hr hlocks rfl (by decide +kernel) (by decide +kernel) hP hD hS ⟨_, rfl, (by unfold r_Second_continueCondition; rw [if_pos hc1]), (by unfold s_Second_continueCondition; rw [if_pos hc1, if_neg hc2, if_neg hc3])⟩ d_Second_continueCondition_218
  · refine lv_iconst (v := 1) hx hb d_Second_continueCondition_21 (by decide) ?_
    show W _ _ _ _ _ _ _ _ _ _ _ _ _ _ _ (F0 _ 22 _ _)
    refine lv_goto (tgt := 26) hx hb d_Second_continueCondition_22 (by decide) ?_
    refine lv_istore_n (lv' := [(2, .int 1), (0, .ref (ad 8)), (1, .int v1)]) hx hb d_Second_continueCondition_26 rfl hl (by decide) rfl (fun ls hl => ?_)
    refine lv_iload_n hx hb d_Second_continueCondition_27 rfl (lv_at hl 0 rfl) ?_
    refine lv_if_eq (tgt := 45) hx hb d_Second_continueCondition_28 (by decide) (fun h9 => absurd h9 (by decide)) (fun _ => ?_)
    refine lv_aload_n hx hb d_Second_continueCondition_31 rfl (lv_at hl 1 rfl) ?_
    refine S_getR (h := shC) (C := "MacroMill$Second") (T := F_Second) hx hb htt in_Second hown hK hP 8 8 rfl 46 rfl rfl (by decide) (htt _ k_905) (fun _ h9 => h9) d_Second_continueCondition_32 ?_
    refine lv_aload_n hx hb d_Second_continueCondition_35 rfl (lv_at hl 1 rfl) ?_
    refine S_getI (h := shC) (C := "MacroMill$Second") (T := F_Second) hx hb htt in_Second hown hK hP 8 9 rfl rfl rfl (by decide) (htt _ k_906) (fun _ h9 => h9) d_Second_continueCondition_36 ?_
    refine lv_iconst (v := 1) hx hb d_Second_continueCondition_39 (by decide) ?_
    refine lv_isub hx hb d_Second_continueCondition_40 ?_
    refine S_iald (h := shC) (i := (S.1 8 9) - (1 : Int32)) hx hb hK hP 33 rfl (hb1 hc1) d_Second_continueCondition_41 ?_
    refine lv_goto (tgt := 46) hx hb d_Second_continueCondition_42 (by decide) ?_
    show W _ _ _ _ _ _ _ _ _ _ _ _ _ _ _ (F0 _ 46 _ _)
    refine lv_istore_n (lv' := [(3, .int (S.2.1 33 ((S.1 8 9) - (1 : Int32) : Int32).toNatClampNeg)), (2, .int 1), (0, .ref (ad 8)), (1, .int v1)]) hx hb d_Second_continueCondition_46 rfl hl (by decide) rfl (fun ls hl => ?_)
    refine lv_iload_n hx hb d_Second_continueCondition_47 rfl (lv_at hl 0 rfl) ?_
    refine lv_iconst (v := 2) hx hb d_Second_continueCondition_48 (by decide) ?_
    refine lv_iand hx hb d_Second_continueCondition_49 ?_
    refine lv_if_eq (tgt := 57) hx hb d_Second_continueCondition_50 (by decide) (fun hc4 => ?_) (fun hc4 => ?_)
    · refine lv_iconst (v := 0) hx hb d_Second_continueCondition_57 (by decide) ?_
      refine lv_istore (lv' := [(4, .int 0), (3, .int (S.2.1 33 ((S.1 8 9) - (1 : Int32) : Int32).toNatClampNeg)), (2, .int 1), (0, .ref (ad 8)), (1, .int v1)]) hx hb d_Second_continueCondition_58 hl (by decide) rfl (fun ls hl => ?_)
      refine lv_iload_n hx hb d_Second_continueCondition_60 rfl (lv_at hl 1 rfl) ?_
      refine lv_bipush (v := 8) hx hb d_Second_continueCondition_61 (by decide) ?_
      refine lv_iand hx hb d_Second_continueCondition_63 ?_
      refine lv_if_eq (tgt := 90) hx hb d_Second_continueCondition_64 (by decide) (fun hc5 => ?_) (fun hc5 => ?_)
      · refine lv_iload_n hx hb d_Second_continueCondition_90 rfl (lv_at hl 4 rfl) ?_
        refine lv_bipush (v := 7) hx hb d_Second_continueCondition_91 (by decide) ?_
        refine lv_icmp_eq (tgt := 118) hx hb d_Second_continueCondition_93 (by decide) (fun hc6 => ?_) (fun hc6 => ?_)
        · refine lv_iload_n hx hb d_Second_continueCondition_118 rfl (lv_at hl 2 rfl) ?_
          show W _ _ _ _ _ _ _ _ _ _ _ _ _ _ _ (F0 _ 119 _ _)
          refine lv_if_eq (tgt := 134) hx hb d_Second_continueCondition_119 (by decide) (fun h9 => absurd h9 (by decide)) (fun _ => ?_)
          refine lv_iload_n hx hb d_Second_continueCondition_122 rfl (lv_at hl 4 rfl) ?_
          refine lv_bipush (v := 9) hx hb d_Second_continueCondition_123 (by decide) ?_
          refine lv_icmp_eq (tgt := 143) hx hb d_Second_continueCondition_125 (by decide) (fun hc7 => ?_) (fun hc7 => ?_)
          · refine lv_iload_n hx hb d_Second_continueCondition_143 rfl (lv_at hl 4 rfl) ?_
            refine lv_bipush (v := 9) hx hb d_Second_continueCondition_144 (by decide) ?_
            refine lv_icmp_ne (tgt := 162) hx hb d_Second_continueCondition_146 (by decide) (fun h9 => absurd hc7 h9) (fun _ => ?_)
            refine lv_aload_n hx hb d_Second_continueCondition_149 rfl (lv_at hl 3 rfl) ?_
            refine lv_dup hx hb d_Second_continueCondition_150 rfl ?_
            refine S_getI (h := shC) (C := "MacroMill$Second") (T := F_Second) hx hb htt in_Second hown hK hP 8 9 rfl rfl rfl (by decide) (htt _ k_906) (fun _ h9 => h9) d_Second_continueCondition_151 ?_
            refine lv_iconst (v := 1) hx hb d_Second_continueCondition_154 (by decide) ?_
            refine lv_isub hx hb d_Second_continueCondition_155 ?_
            refine S_put (h := shC) (C := "MacroMill$Second") (T := F_Second) (v := (S.1 8 9) - (1 : Int32)) hx hb htt in_Second t_Second t_Second_ok n_Second hown hK hP hD hS 8 9 rfl rfl rfl (by decide) (htt _ k_906) (fun _ h9 => h9) rfl rfl rfl d_Second_continueCondition_156 (fun H locs hP hD hS => ?_)
            refine lv_goto (tgt := 217) hx hb d_Second_continueCondition_159 (by decide) ?_
            show W _ _ _ _ _ _ _ _ _ _ _ _ _ _ _ (F0 _ 217 _ _)
            refine lv_iconst (v := 0) hx hb d_Second_continueCondition_217 (by decide) ?_
            exact fin_z (g := g) (ws := Sw shC g ad (putI S 8 9 ((S.1 8 9) - (1 : Int32)))) (v := 0) hx hb hr hlocks rfl (by decide +kernel) (by decide +kernel) hP hD hS ⟨_, rfl, (by unfold r_Second_continueCondition; rw [if_neg hc1, if_pos hc4, if_pos hc5, if_pos hc6, if_pos hc7]), (by unfold s_Second_continueCondition; rw [if_neg hc1, if_pos hc4, if_pos hc5, if_pos hc6, if_pos hc7])⟩ d_Second_continueCondition_218
          · refine lv_iload_n hx hb d_Second_continueCondition_128 rfl (lv_at hl 1 rfl) ?_
            refine lv_iconst (v := 4) hx hb d_Second_continueCondition_129 (by decide) ?_
            refine lv_iand hx hb d_Second_continueCondition_130 ?_
            refine lv_if_eq (tgt := 143) hx hb d_Second_continueCondition_131 (by decide) (fun hc8 => ?_) (fun hc8 => ?_)
            · refine lv_iload_n hx hb d_Second_continueCondition_143 rfl (lv_at hl 4 rfl) ?_
              refine lv_bipush (v := 9) hx hb d_Second_continueCondition_144 (by decide) ?_
              refine lv_icmp_ne (tgt := 162) hx hb d_Second_continueCondition_146 (by decide) (fun _ => ?_) (fun h9 => absurd h9 hc7)
              refine lv_iload_n hx hb d_Second_continueCondition_162 rfl (lv_at hl 4 rfl) ?_
              refine lv_bipush (v := 8) hx hb d_Second_continueCondition_163 (by decide) ?_
              refine lv_icmp_ne (tgt := 195) hx hb d_Second_continueCondition_165 (by decide) (fun hc9 => ?_) (fun hc9 => ?_)
              · refine lv_iload hx hb d_Second_continueCondition_195 (lv_at hl 0 rfl) ?_
                refine lv_if_eq (tgt := 215) hx hb d_Second_continueCondition_197 (by decide) (fun _ => ?_) (fun h9 => absurd (by decide) h9)
                show W _ _ _ _ _ _ _ _ _ _ _ _ _ _ _ (F0 _ 215 _ _)
                refine lv_iconst (v := 1) hx hb d_Second_continueCondition_215 (by decide) ?_
                exact fin_z (g := g) (ws := Sw shC g ad S) (v := 1) hx hb hr hlocks rfl (by decide +kernel) (by decide +kernel) hP hD hS ⟨_, rfl, (by unfold r_Second_continueCondition; rw [if_neg hc1, if_pos hc4, if_pos hc5, if_pos hc6, if_neg hc7, if_pos hc8, if_neg hc9]), (by unfold s_Second_continueCondition; rw [if_neg hc1, if_pos hc4, if_pos hc5, if_pos hc6, if_neg hc7, if_pos hc8, if_neg hc9])⟩ d_Second_continueCondition_216
              · refine lv_aload_n hx hb d_Second_continueCondition_168 rfl (lv_at hl 3 rfl) ?_
                refine S_getR (h := shC) (C := "MacroMill$Second") (T := F_Second) hx hb htt in_Second hown hK hP 8 8 rfl 46 rfl rfl (by decide) (htt _ k_905) (fun _ h9 => h9) d_Second_continueCondition_169 ?_
                show W _ _ _ _ _ _ _ _ _ _ _ _ _ _ _ (F0 _ 172 _ _)
                refine lv_aload_n hx hb d_Second_continueCondition_172 rfl (lv_at hl 3 rfl) ?_
                refine S_getI (h := shC) (C := "MacroMill$Second") (T := F_Second) hx hb htt in_Second hown hK hP 8 9 rfl rfl rfl (by decide) (htt _ k_906) (fun _ h9 => h9) d_Second_continueCondition_173 ?_
                refine lv_iconst (v := 1) hx hb d_Second_continueCondition_176 (by decide) ?_
                refine lv_isub hx hb d_Second_continueCondition_177 ?_
                refine lv_bipush (v := 6) hx hb d_Second_continueCondition_178 (by decide) ?_
                refine lv_iload hx hb d_Second_continueCondition_180 (lv_at hl 0 rfl) ?_
                refine lv_if_eq (tgt := 189) hx hb d_Second_continueCondition_182 (by decide) (fun _ => ?_) (fun h9 => absurd (by decide) h9)
                refine lv_iconst (v := 1) hx hb d_Second_continueCondition_189 (by decide) ?_
                refine lv_ior hx hb d_Second_continueCondition_190 ?_
                refine toI (y := 7) (by decide) ?_
                refine S_iast (h := shC) (i := (S.1 8 9) - (1 : Int32)) (v := 7) hx hb hK hP hD hS 33 rfl (hb2 hc1 hc4 hc5 hc6 hc7 hc8 hc9) d_Second_continueCondition_191 (fun H locs hP hD hS => ?_)
                refine lv_goto (tgt := 217) hx hb d_Second_continueCondition_192 (by decide) ?_
                refine lv_iconst (v := 0) hx hb d_Second_continueCondition_217 (by decide) ?_
                show W _ _ _ _ _ _ _ _ _ _ _ _ _ _ _ (F0 _ 218 _ _)
                exact fin_z (g := g) (ws := Sw shC g ad (putA S 33 ((S.1 8 9) - (1 : Int32) : Int32).toNatClampNeg 7)) (v := 0) hx hb hr hlocks rfl (by decide +kernel) (by decide +kernel) hP hD hS ⟨_, rfl, (by unfold r_Second_continueCondition; rw [if_neg hc1, if_pos hc4, if_pos hc5, if_pos hc6, if_neg hc7, if_pos hc8, if_pos hc9]), (by unfold s_Second_continueCondition; rw [if_neg hc1, if_pos hc4, if_pos hc5, if_pos hc6, if_neg hc7, if_pos hc8, if_pos hc9])⟩ d_Second_continueCondition_218
            · refine lv_aload_n hx hb d_Second_continueCondition_134 rfl (lv_at hl 3 rfl) ?_
              refine lv_bipush (v := 13) hx hb d_Second_continueCondition_135 (by decide) ?_
              refine go_vS (As := [.ref (ad 8), .int 13]) (g := g) (A := A) (h := shC) hP hK hD hS hA hN (fun hp => va_runV (As := [.int 13]) (rest := []) ⟨hx, hb, hml, hown, htt⟩ (a_Second_fail l g _ ad S (13 : Int32)) ⟨(cb_L htt k_2000 k_270 k_1997 hd_Second_fail ⟨(by decide +kernel), (by decide +kernel)⟩), htt _ k_1999, htt _ k_96⟩ ⟨hp.1, S_recv hK hP 8 rfl rfl, hp.2⟩ rfl rfl hl.1 rfl (lv_room (Nat.le_of_ble_eq_true rfl)) d_Second_continueCondition_137 ⟨(by decide +kernel), (by decide +kernel)⟩) (fun Sn_4 H locs hw9 hP hD hS => ?_)
              obtain rfl := hw9
              refine W.widen (k := 0) (n := 0) (by decide +kernel) (by decide +kernel) ?_
              refine lv_goto (tgt := 217) hx hb d_Second_continueCondition_140 (by decide) ?_
              refine lv_iconst (v := 0) hx hb d_Second_continueCondition_217 (by decide) ?_
              exact fin_z (g := g) (ws := Sw shC g ad (s_Second_fail S (13 : Int32))) (v := 0) hx hb hr hlocks rfl (by decide +kernel) (by decide +kernel) hP hD hS ⟨_, rfl, (by unfold r_Second_continueCondition; rw [if_neg hc1, if_pos hc4, if_pos hc5, if_pos hc6, if_neg hc7, if_neg hc8]), (by unfold s_Second_continueCondition; rw [if_neg hc1, if_pos hc4, if_pos hc5, if_pos hc6, if_neg hc7, if_neg hc8])⟩ d_Second_continueCondition_218
        · refine lv_aload_n hx hb d_Second_continueCondition_96 rfl (lv_at hl 3 rfl) ?_
          show W _ _ _ _ _ _ _ _ _ _ _ _ _ _ _ (F0 _ 97 _ _)
          refine S_getI (h := shC) (C := "MacroMill$Second") (T := F_Second) hx hb htt in_Second hown hK hP 8 13 rfl rfl rfl (by decide) (htt _ k_910) (fun _ h9 => h9) d_Second_continueCondition_97 ?_
          refine lv_aload_n hx hb d_Second_continueCondition_100 rfl (lv_at hl 3 rfl) ?_
          refine S_getI (h := shC) (C := "MacroMill$Second") (T := F_Second) hx hb htt in_Second hown hK hP 8 12 rfl rfl rfl (by decide) (htt _ k_909) (fun _ h9 => h9) d_Second_continueCondition_101 ?_
          refine lv_isub hx hb d_Second_continueCondition_104 ?_
          refine lv_iconst (v := 2) hx hb d_Second_continueCondition_105 (by decide) ?_
          refine lv_icmp_le (tgt := 118) hx hb d_Second_continueCondition_106 (by decide) (fun hc10 => ?_) (fun hc10 => ?_)
          · refine lv_iload_n hx hb d_Second_continueCondition_118 rfl (lv_at hl 2 rfl) ?_
            refine lv_if_eq (tgt := 134) hx hb d_Second_continueCondition_119 (by decide) (fun h9 => absurd h9 (by decide)) (fun _ => ?_)
            refine lv_iload_n hx hb d_Second_continueCondition_122 rfl (lv_at hl 4 rfl) ?_
            refine lv_bipush (v := 9) hx hb d_Second_continueCondition_123 (by decide) ?_
            refine lv_icmp_eq (tgt := 143) hx hb d_Second_continueCondition_125 (by decide) (fun hc11 => ?_) (fun hc11 => ?_)
            · refine lv_iload_n hx hb d_Second_continueCondition_143 rfl (lv_at hl 4 rfl) ?_
              refine lv_bipush (v := 9) hx hb d_Second_continueCondition_144 (by decide) ?_
              refine lv_icmp_ne (tgt := 162) hx hb d_Second_continueCondition_146 (by decide) (fun h9 => absurd hc11 h9) (fun _ => ?_)
              refine lv_aload_n hx hb d_Second_continueCondition_149 rfl (lv_at hl 3 rfl) ?_
              show W _ _ _ _ _ _ _ _ _ _ _ _ _ _ _ (F0 _ 150 _ _)
              refine lv_dup hx hb d_Second_continueCondition_150 rfl ?_
              refine S_getI (h := shC) (C := "MacroMill$Second") (T := F_Second) hx hb htt in_Second hown hK hP 8 9 rfl rfl rfl (by decide) (htt _ k_906) (fun _ h9 => h9) d_Second_continueCondition_151 ?_
              refine lv_iconst (v := 1) hx hb d_Second_continueCondition_154 (by decide) ?_
              refine lv_isub hx hb d_Second_continueCondition_155 ?_
              refine S_put (h := shC) (C := "MacroMill$Second") (T := F_Second) (v := (S.1 8 9) - (1 : Int32)) hx hb htt in_Second t_Second t_Second_ok n_Second hown hK hP hD hS 8 9 rfl rfl rfl (by decide) (htt _ k_906) (fun _ h9 => h9) rfl rfl rfl d_Second_continueCondition_156 (fun H locs hP hD hS => ?_)
              refine lv_goto (tgt := 217) hx hb d_Second_continueCondition_159 (by decide) ?_
              refine lv_iconst (v := 0) hx hb d_Second_continueCondition_217 (by decide) ?_
              exact fin_z (g := g) (ws := Sw shC g ad (putI S 8 9 ((S.1 8 9) - (1 : Int32)))) (v := 0) hx hb hr hlocks rfl (by decide +kernel) (by decide +kernel) hP hD hS ⟨_, rfl, (by unfold r_Second_continueCondition; rw [if_neg hc1, if_pos hc4, if_pos hc5, if_neg hc6, if_pos hc10, if_pos hc11]), (by unfold s_Second_continueCondition; rw [if_neg hc1, if_pos hc4, if_pos hc5, if_neg hc6, if_pos hc10, if_pos hc11])⟩ d_Second_continueCondition_218
            · refine lv_iload_n hx hb d_Second_continueCondition_128 rfl (lv_at hl 1 rfl) ?_
              refine lv_iconst (v := 4) hx hb d_Second_continueCondition_129 (by decide) ?_
              refine lv_iand hx hb d_Second_continueCondition_130 ?_
              refine lv_if_eq (tgt := 143) hx hb d_Second_continueCondition_131 (by decide) (fun hc12 => ?_) (fun hc12 => ?_)
              · show W _ _ _ _ _ _ _ _ _ _ _ _ _ _ _ (F0 _ 143 _ _)
                refine lv_iload_n hx hb d_Second_continueCondition_143 rfl (lv_at hl 4 rfl) ?_
                refine lv_bipush (v := 9) hx hb d_Second_continueCondition_144 (by decide) ?_
                refine lv_icmp_ne (tgt := 162) hx hb d_Second_continueCondition_146 (by decide) (fun _ => ?_) (fun h9 => absurd h9 hc11)
                refine lv_iload_n hx hb d_Second_continueCondition_162 rfl (lv_at hl 4 rfl) ?_
                refine lv_bipush (v := 8) hx hb d_Second_continueCondition_163 (by decide) ?_
                refine lv_icmp_ne (tgt := 195) hx hb d_Second_continueCondition_165 (by decide) (fun hc13 => ?_) (fun hc13 => ?_)
                · refine lv_iload hx hb d_Second_continueCondition_195 (lv_at hl 0 rfl) ?_
                  refine lv_if_eq (tgt := 215) hx hb d_Second_continueCondition_197 (by decide) (fun _ => ?_) (fun h9 => absurd (by decide) h9)
                  refine lv_iconst (v := 1) hx hb d_Second_continueCondition_215 (by decide) ?_
                  exact fin_z (g := g) (ws := Sw shC g ad S) (v := 1) hx hb hr hlocks rfl (by decide +kernel) (by decide +kernel) hP hD hS ⟨_, rfl, (by unfold r_Second_continueCondition; rw [if_neg hc1, if_pos hc4, if_pos hc5, if_neg hc6, if_pos hc10, if_neg hc11, if_pos hc12, if_neg hc13]), (by unfold s_Second_continueCondition; rw [if_neg hc1, if_pos hc4, if_pos hc5, if_neg hc6, if_pos hc10, if_neg hc11, if_pos hc12, if_neg hc13])⟩ d_Second_continueCondition_216
                · refine lv_aload_n hx hb d_Second_continueCondition_168 rfl (lv_at hl 3 rfl) ?_
                  refine S_getR (h := shC) (C := "MacroMill$Second") (T := F_Second) hx hb htt in_Second hown hK hP 8 8 rfl 46 rfl rfl (by decide) (htt _ k_905) (fun _ h9 => h9) d_Second_continueCondition_169 ?_
                  refine lv_aload_n hx hb d_Second_continueCondition_172 rfl (lv_at hl 3 rfl) ?_
                  refine S_getI (h := shC) (C := "MacroMill$Second") (T := F_Second) hx hb htt in_Second hown hK hP 8 9 rfl rfl rfl (by decide) (htt _ k_906) (fun _ h9 => h9) d_Second_continueCondition_173 ?_
                  refine lv_iconst (v := 1) hx hb d_Second_continueCondition_176 (by decide) ?_
                  refine lv_isub hx hb d_Second_continueCondition_177 ?_
                  refine lv_bipush (v := 6) hx hb d_Second_continueCondition_178 (by decide) ?_
                  refine lv_iload hx hb d_Second_continueCondition_180 (lv_at hl 0 rfl) ?_
                  show W _ _ _ _ _ _ _ _ _ _ _ _ _ _ _ (F0 _ 182 _ _)
                  refine lv_if_eq (tgt := 189) hx hb d_Second_continueCondition_182 (by decide) (fun _ => ?_) (fun h9 => absurd (by decide) h9)
                  refine lv_iconst (v := 1) hx hb d_Second_continueCondition_189 (by decide) ?_
                  refine lv_ior hx hb d_Second_continueCondition_190 ?_
                  refine toI (y := 7) (by decide) ?_
                  refine S_iast (h := shC) (i := (S.1 8 9) - (1 : Int32)) (v := 7) hx hb hK hP hD hS 33 rfl (hb3 hc1 hc4 hc5 hc6 hc10 hc11 hc12 hc13) d_Second_continueCondition_191 (fun H locs hP hD hS => ?_)
                  refine lv_goto (tgt := 217) hx hb d_Second_continueCondition_192 (by decide) ?_
                  refine lv_iconst (v := 0) hx hb d_Second_continueCondition_217 (by decide) ?_
                  exact fin_z (g := g) (ws := Sw shC g ad (putA S 33 ((S.1 8 9) - (1 : Int32) : Int32).toNatClampNeg 7)) (v := 0) hx hb hr hlocks rfl (by decide +kernel) (by decide +kernel) hP hD hS ⟨_, rfl, (by unfold r_Second_continueCondition; rw [if_neg hc1, if_pos hc4, if_pos hc5, if_neg hc6, if_pos hc10, if_neg hc11, if_pos hc12, if_pos hc13]), (by unfold s_Second_continueCondition; rw [if_neg hc1, if_pos hc4, if_pos hc5, if_neg hc6, if_pos hc10, if_neg hc11, if_pos hc12, if_pos hc13])⟩ d_Second_continueCondition_218
              · show W _ _ _ _ _ _ _ _ _ _ _ _ _ _ _ (F0 _ 134 _ _)
                refine lv_aload_n hx hb d_Second_continueCondition_134 rfl (lv_at hl 3 rfl) ?_
                refine lv_bipush (v := 13) hx hb d_Second_continueCondition_135 (by decide) ?_
                refine go_vS (As := [.ref (ad 8), .int 13]) (g := g) (A := A) (h := shC) hP hK hD hS hA hN (fun hp => va_runV (As := [.int 13]) (rest := []) ⟨hx, hb, hml, hown, htt⟩ (a_Second_fail l g _ ad S (13 : Int32)) ⟨(cb_L htt k_2000 k_270 k_1997 hd_Second_fail ⟨(by decide +kernel), (by decide +kernel)⟩), htt _ k_1999, htt _ k_96⟩ ⟨hp.1, S_recv hK hP 8 rfl rfl, hp.2⟩ rfl rfl hl.1 rfl (lv_room (Nat.le_of_ble_eq_true rfl)) d_Second_continueCondition_137 ⟨(by decide +kernel), (by decide +kernel)⟩) (fun Sn_5 H locs hw9 hP hD hS => ?_)
                obtain rfl := hw9
                refine W.widen (k := 0) (n := 0) (by decide +kernel) (by decide +kernel) ?_
                refine lv_goto (tgt := 217) hx hb d_Second_continueCondition_140 (by decide) ?_
                refine lv_iconst (v := 0) hx hb d_Second_continueCondition_217 (by decide) ?_
                exact fin_z (g := g) (ws := Sw shC g ad (s_Second_fail S (13 : Int32))) (v := 0) hx hb hr hlocks rfl (by decide +kernel) (by decide +kernel) hP hD hS ⟨_, rfl, (by unfold r_Second_continueCondition; rw [if_neg hc1, if_pos hc4, if_pos hc5, if_neg hc6, if_pos hc10, if_neg hc11, if_neg hc12]), (by unfold s_Second_continueCondition; rw [if_neg hc1, if_pos hc4, if_pos hc5, if_neg hc6, if_pos hc10, if_neg hc11, if_neg hc12])⟩ d_Second_continueCondition_218
          · refine lv_aload_n hx hb d_Second_continueCondition_109 rfl (lv_at hl 3 rfl) ?_
            refine lv_bipush (v := 7) hx hb d_Second_continueCondition_110 (by decide) ?_
            refine go_vS (As := [.ref (ad 8), .int 7]) (g := g) (A := A) (h := shC) hP hK hD hS hA hN (fun hp => va_runV (As := [.int 7]) (rest := []) ⟨hx, hb, hml, hown, htt⟩ (a_Second_fail l g _ ad S (7 : Int32)) ⟨(cb_L htt k_2000 k_270 k_1997 hd_Second_fail ⟨(by decide +kernel), (by decide +kernel)⟩), htt _ k_1999, htt _ k_96⟩ ⟨hp.1, S_recv hK hP 8 rfl rfl, hp.2⟩ rfl rfl hl.1 rfl (lv_room (Nat.le_of_ble_eq_true rfl)) d_Second_continueCondition_112 ⟨(by decide +kernel), (by decide +kernel)⟩) (fun Sn_6 H locs hw9 hP hD hS => ?_)
            obtain rfl := hw9
            refine W.widen (k := 0) (n := 0) (by decide +kernel) (by decide +kernel) ?_
            refine lv_goto (tgt := 217) hx hb d_Second_continueCondition_115 (by decide) ?_
            refine lv_iconst (v := 0) hx hb d_Second_continueCondition_217 (by decide) ?_
            exact fin_z (g := g) (ws := Sw shC g ad (s_Second_fail S (7 : Int32))) (v := 0) hx hb hr hlocks rfl (by decide +kernel) (by decide +kernel) hP hD hS ⟨_, rfl, (by unfold r_Second_continueCondition; rw [if_neg hc1, if_pos hc4, if_pos hc5, if_neg hc6, if_neg hc10]), (by unfold s_Second_continueCondition; rw [if_neg hc1, if_pos hc4, if_pos hc5, if_neg hc6, if_neg hc10])⟩ d_Second_continueCondition_218
      · refine lv_aload_n hx hb d_Second_continueCondition_67 rfl (lv_at hl 3 rfl) ?_
        refine lv_dup hx hb d_Second_continueCondition_68 rfl ?_
        refine S_getI (h := shC) (C := "MacroMill$Second") (T := F_Second) hx hb htt in_Second hown hK hP 8 9 rfl rfl rfl (by decide) (htt _ k_906) (fun _ h9 => h9) d_Second_continueCondition_69 ?_
        show W _ _ _ _ _ _ _ _ _ _ _ _ _ _ _ (F0 _ 72 _ _)
        refine lv_iload_n hx hb d_Second_continueCondition_72 rfl (lv_at hl 4 rfl) ?_
        refine lv_bipush (v := 9) hx hb d_Second_continueCondition_73 (by decide) ?_
        refine lv_icmp_ne (tgt := 82) hx hb d_Second_continueCondition_75 (by decide) (fun hc14 => ?_) (fun hc14 => ?_)
        · refine lv_iconst (v := 0) hx hb d_Second_continueCondition_82 (by decide) ?_
          refine lv_isub hx hb d_Second_continueCondition_83 ?_
          refine S_put (h := shC) (C := "MacroMill$Second") (T := F_Second) (v := (S.1 8 9) - (0 : Int32)) hx hb htt in_Second t_Second t_Second_ok n_Second hown hK hP hD hS 8 9 rfl rfl rfl (by decide) (htt _ k_906) (fun _ h9 => h9) rfl rfl rfl d_Second_continueCondition_84 (fun H locs hP hD hS => ?_)
          refine lv_goto (tgt := 217) hx hb d_Second_continueCondition_87 (by decide) ?_
          refine lv_iconst (v := 0) hx hb d_Second_continueCondition_217 (by decide) ?_
          exact fin_z (g := g) (ws := Sw shC g ad (putI S 8 9 ((S.1 8 9) - (0 : Int32)))) (v := 0) hx hb hr hlocks rfl (by decide +kernel) (by decide +kernel) hP hD hS ⟨_, rfl, (by unfold r_Second_continueCondition; rw [if_neg hc1, if_pos hc4, if_neg hc5]), (by unfold s_Second_continueCondition; rw [if_neg hc1, if_pos hc4, if_neg hc5, if_neg hc14])⟩ d_Second_continueCondition_218
        · refine lv_iconst (v := 1) hx hb d_Second_continueCondition_78 (by decide) ?_
          refine lv_goto (tgt := 83) hx hb d_Second_continueCondition_79 (by decide) ?_
          refine lv_isub hx hb d_Second_continueCondition_83 ?_
          refine S_put (h := shC) (C := "MacroMill$Second") (T := F_Second) (v := (S.1 8 9) - (1 : Int32)) hx hb htt in_Second t_Second t_Second_ok n_Second hown hK hP hD hS 8 9 rfl rfl rfl (by decide) (htt _ k_906) (fun _ h9 => h9) rfl rfl rfl d_Second_continueCondition_84 (fun H locs hP hD hS => ?_)
          refine lv_goto (tgt := 217) hx hb d_Second_continueCondition_87 (by decide) ?_
          refine lv_iconst (v := 0) hx hb d_Second_continueCondition_217 (by decide) ?_
          exact fin_z (g := g) (ws := Sw shC g ad (putI S 8 9 ((S.1 8 9) - (1 : Int32)))) (v := 0) hx hb hr hlocks rfl (by decide +kernel) (by decide +kernel) hP hD hS ⟨_, rfl, (by unfold r_Second_continueCondition; rw [if_neg hc1, if_pos hc4, if_neg hc5]), (by unfold s_Second_continueCondition; rw [if_neg hc1, if_pos hc4, if_neg hc5, if_pos hc14])⟩ d_Second_continueCondition_218
    · refine lv_iconst (v := 1) hx hb d_Second_continueCondition_53 (by decide) ?_
      refine lv_goto (tgt := 58) hx hb d_Second_continueCondition_54 (by decide) ?_
      refine lv_istore (lv' := [(4, .int 1), (3, .int (S.2.1 33 ((S.1 8 9) - (1 : Int32) : Int32).toNatClampNeg)), (2, .int 1), (0, .ref (ad 8)), (1, .int v1)]) hx hb d_Second_continueCondition_58 hl (by decide) rfl (fun ls hl => ?_)
      refine lv_iload_n hx hb d_Second_continueCondition_60 rfl (lv_at hl 1 rfl) ?_
      refine lv_bipush (v := 8) hx hb d_Second_continueCondition_61 (by decide) ?_
      refine lv_iand hx hb d_Second_continueCondition_63 ?_
      refine lv_if_eq (tgt := 90) hx hb d_Second_continueCondition_64 (by decide) (fun hc15 => ?_) (fun hc15 => ?_)
      · refine lv_iload_n hx hb d_Second_continueCondition_90 rfl (lv_at hl 4 rfl) ?_
        refine lv_bipush (v := 7) hx hb d_Second_continueCondition_91 (by decide) ?_
        refine lv_icmp_eq (tgt := 118) hx hb d_Second_continueCondition_93 (by decide) (fun hc16 => ?_) (fun hc16 => ?_)
        · show W _ _ _ _ _ _ _ _ _ _ _ _ _ _ _ (F0 _ 118 _ _)
          refine lv_iload_n hx hb d_Second_continueCondition_118 rfl (lv_at hl 2 rfl) ?_
          refine lv_if_eq (tgt := 134) hx hb d_Second_continueCondition_119 (by decide) (fun h9 => absurd h9 (by decide)) (fun _ => ?_)
          refine lv_iload_n hx hb d_Second_continueCondition_122 rfl (lv_at hl 4 rfl) ?_
          refine lv_bipush (v := 9) hx hb d_Second_continueCondition_123 (by decide) ?_
          refine lv_icmp_eq (tgt := 143) hx hb d_Second_continueCondition_125 (by decide) (fun hc17 => ?_) (fun hc17 => ?_)
          · refine lv_iload_n hx hb d_Second_continueCondition_143 rfl (lv_at hl 4 rfl) ?_
            refine lv_bipush (v := 9) hx hb d_Second_continueCondition_144 (by decide) ?_
            refine lv_icmp_ne (tgt := 162) hx hb d_Second_continueCondition_146 (by decide) (fun h9 => absurd hc17 h9) (fun _ => ?_)
            refine lv_aload_n hx hb d_Second_continueCondition_149 rfl (lv_at hl 3 rfl) ?_
            refine lv_dup hx hb d_Second_continueCondition_150 rfl ?_
            refine S_getI (h := shC) (C := "MacroMill$Second") (T := F_Second) hx hb htt in_Second hown hK hP 8 9 rfl rfl rfl (by decide) (htt _ k_906) (fun _ h9 => h9) d_Second_continueCondition_151 ?_
            refine lv_iconst (v := 1) hx hb d_Second_continueCondition_154 (by decide) ?_
            refine lv_isub hx hb d_Second_continueCondition_155 ?_
            refine S_put (h := shC) (C := "MacroMill$Second") (T := F_Second) (v := (S.1 8 9) - (1 : Int32)) hx hb htt in_Second t_Second t_Second_ok n_Second hown hK hP hD hS 8 9 rfl rfl rfl (by decide) (htt _ k_906) (fun _ h9 => h9) rfl rfl rfl d_Second_continueCondition_156 (fun H locs hP hD hS => ?_)
            show W _ _ _ _ _ _ _ _ _ _ _ _ _ _ _ (F0 _ 159 _ _)
            refine lv_goto (tgt := 217) hx hb d_Second_continueCondition_159 (by decide) ?_
            refine lv_iconst (v := 0) hx hb d_Second_continueCondition_217 (by decide) ?_
            exact fin_z (g := g) (ws := Sw shC g ad (putI S 8 9 ((S.1 8 9) - (1 : Int32)))) (v := 0) hx hb hr hlocks rfl (by decide +kernel) (by decide +kernel) hP hD hS ⟨_, rfl, (by unfold r_Second_continueCondition; rw [if_neg hc1, if_neg hc4]), (by unfold s_Second_continueCondition; rw [if_neg hc1, if_neg hc4, if_pos hc15, if_pos hc16, if_pos hc17])⟩ d_Second_continueCondition_218
          · refine lv_iload_n hx hb d_Second_continueCondition_128 rfl (lv_at hl 1 rfl) ?_
            refine lv_iconst (v := 4) hx hb d_Second_continueCondition_129 (by decide) ?_
            refine lv_iand hx hb d_Second_continueCondition_130 ?_
            refine lv_if_eq (tgt := 143) hx hb d_Second_continueCondition_131 (by decide) (fun hc18 => ?_) (fun hc18 => ?_)
            · refine lv_iload_n hx hb d_Second_continueCondition_143 rfl (lv_at hl 4 rfl) ?_
              refine lv_bipush (v := 9) hx hb d_Second_continueCondition_144 (by decide) ?_
              refine lv_icmp_ne (tgt := 162) hx hb d_Second_continueCondition_146 (by decide) (fun _ => ?_) (fun h9 => absurd h9 hc17)
              refine lv_iload_n hx hb d_Second_continueCondition_162 rfl (lv_at hl 4 rfl) ?_
              refine lv_bipush (v := 8) hx hb d_Second_continueCondition_163 (by decide) ?_
              refine lv_icmp_ne (tgt := 195) hx hb d_Second_continueCondition_165 (by decide) (fun hc19 => ?_) (fun hc19 => ?_)
              · refine lv_iload hx hb d_Second_continueCondition_195 (lv_at hl 0 rfl) ?_
                show W _ _ _ _ _ _ _ _ _ _ _ _ _ _ _ (F0 _ 197 _ _)
                refine lv_if_eq (tgt := 215) hx hb d_Second_continueCondition_197 (by decide) (fun h9 => absurd h9 (by decide)) (fun _ => ?_)
                refine lv_aload_n hx hb d_Second_continueCondition_200 rfl (lv_at hl 3 rfl) ?_
                refine S_getR (h := shC) (C := "MacroMill$Second") (T := F_Second) hx hb htt in_Second hown hK hP 8 8 rfl 46 rfl rfl (by decide) (htt _ k_905) (fun _ h9 => h9) d_Second_continueCondition_201 ?_
                refine lv_aload_n hx hb d_Second_continueCondition_204 rfl (lv_at hl 3 rfl) ?_
                refine S_getI (h := shC) (C := "MacroMill$Second") (T := F_Second) hx hb htt in_Second hown hK hP 8 9 rfl rfl rfl (by decide) (htt _ k_906) (fun _ h9 => h9) d_Second_continueCondition_205 ?_
                refine lv_iconst (v := 1) hx hb d_Second_continueCondition_208 (by decide) ?_
                refine lv_isub hx hb d_Second_continueCondition_209 ?_
                refine lv_iconst (v := 2) hx hb d_Second_continueCondition_210 (by decide) ?_
                refine S_iast (h := shC) (i := (S.1 8 9) - (1 : Int32)) (v := 2) hx hb hK hP hD hS 33 rfl (hb4 hc1 hc4 hc15 hc16 hc17 hc18 hc19) d_Second_continueCondition_211 (fun H locs hP hD hS => ?_)
                refine lv_goto (tgt := 217) hx hb d_Second_continueCondition_212 (by decide) ?_
                refine lv_iconst (v := 0) hx hb d_Second_continueCondition_217 (by decide) ?_
                exact fin_z (g := g) (ws := Sw shC g ad (putA S 33 ((S.1 8 9) - (1 : Int32) : Int32).toNatClampNeg 2)) (v := 0) hx hb hr hlocks rfl (by decide +kernel) (by decide +kernel) hP hD hS ⟨_, rfl, (by unfold r_Second_continueCondition; rw [if_neg hc1, if_neg hc4]), (by unfold s_Second_continueCondition; rw [if_neg hc1, if_neg hc4, if_pos hc15, if_pos hc16, if_neg hc17, if_pos hc18, if_neg hc19])⟩ d_Second_continueCondition_218
              · refine lv_aload_n hx hb d_Second_continueCondition_168 rfl (lv_at hl 3 rfl) ?_
                show W _ _ _ _ _ _ _ _ _ _ _ _ _ _ _ (F0 _ 169 _ _)
                refine S_getR (h := shC) (C := "MacroMill$Second") (T := F_Second) hx hb htt in_Second hown hK hP 8 8 rfl 46 rfl rfl (by decide) (htt _ k_905) (fun _ h9 => h9) d_Second_continueCondition_169 ?_
                refine lv_aload_n hx hb d_Second_continueCondition_172 rfl (lv_at hl 3 rfl) ?_
                refine S_getI (h := shC) (C := "MacroMill$Second") (T := F_Second) hx hb htt in_Second hown hK hP 8 9 rfl rfl rfl (by decide) (htt _ k_906) (fun _ h9 => h9) d_Second_continueCondition_173 ?_
                refine lv_iconst (v := 1) hx hb d_Second_continueCondition_176 (by decide) ?_
                refine lv_isub hx hb d_Second_continueCondition_177 ?_
                refine lv_bipush (v := 6) hx hb d_Second_continueCondition_178 (by decide) ?_
                refine lv_iload hx hb d_Second_continueCondition_180 (lv_at hl 0 rfl) ?_
                refine lv_if_eq (tgt := 189) hx hb d_Second_continueCondition_182 (by decide) (fun h9 => absurd h9 (by decide)) (fun _ => ?_)
                refine lv_iconst (v := 0) hx hb d_Second_continueCondition_185 (by decide) ?_
                refine lv_goto (tgt := 190) hx hb d_Second_continueCondition_186 (by decide) ?_
                refine lv_ior hx hb d_Second_continueCondition_190 ?_
                refine toI (y := 6) (by decide) ?_
                refine S_iast (h := shC) (i := (S.1 8 9) - (1 : Int32)) (v := 6) hx hb hK hP hD hS 33 rfl (hb5 hc1 hc4 hc15 hc16 hc17 hc18 hc19) d_Second_continueCondition_191 (fun H locs hP hD hS => ?_)
                show W _ _ _ _ _ _ _ _ _ _ _ _ _ _ _ (F0 _ 192 _ _)
                refine lv_goto (tgt := 217) hx hb d_Second_continueCondition_192 (by decide) ?_
                refine lv_iconst (v := 0) hx hb d_Second_continueCondition_217 (by decide) ?_
                exact fin_z (g := g) (ws := Sw shC g ad (putA S 33 ((S.1 8 9) - (1 : Int32) : Int32).toNatClampNeg 6)) (v := 0) hx hb hr hlocks rfl (by decide +kernel) (by decide +kernel) hP hD hS ⟨_, rfl, (by unfold r_Second_continueCondition; rw [if_neg hc1, if_neg hc4]), (by unfold s_Second_continueCondition; rw [if_neg hc1, if_neg hc4, if_pos hc15, if_pos hc16, if_neg hc17, if_pos hc18, if_pos hc19])⟩ d_Second_continueCondition_218
            · refine lv_aload_n hx hb d_Second_continueCondition_134 rfl (lv_at hl 3 rfl) ?_
              refine lv_bipush (v := 13) hx hb d_Second_continueCondition_135 (by decide) ?_
              refine go_vS (As := [.ref (ad 8), .int 13]) (g := g) (A := A) (h := shC) hP hK hD hS hA hN (fun hp => va_runV (As := [.int 13]) (rest := []) ⟨hx, hb, hml, hown, htt⟩ (a_Second_fail l g _ ad S (13 : Int32)) ⟨(cb_L htt k_2000 k_270 k_1997 hd_Second_fail ⟨(by decide +kernel), (by decide +kernel)⟩), htt _ k_1999, htt _ k_96⟩ ⟨hp.1, S_recv hK hP 8 rfl rfl, hp.2⟩ rfl rfl hl.1 rfl (lv_room (Nat.le_of_ble_eq_true rfl)) d_Second_continueCondition_137 ⟨(by decide +kernel), (by decide +kernel)⟩) (fun Sn_7 H locs hw9 hP hD hS => ?_)
              obtain rfl := hw9
              refine W.widen (k := 0) (n := 0) (by decide +kernel) (by decide +kernel) ?_
              refine lv_goto (tgt := 217) hx hb d_Second_continueCondition_140 (by decide) ?_
              refine lv_iconst (v := 0) hx hb d_Second_continueCondition_217 (by decide) ?_
              show W _ _ _ _ _ _ _ _ _ _ _ _ _ _ _ (F0 _ 218 _ _)
              exact fin_z (g := g) (ws := Sw shC g ad (s_Second_fail S (13 : Int32))) (v := 0) hx hb hr hlocks rfl (by decide +kernel) (by decide +kernel) hP hD hS ⟨_, rfl, (by unfold r_Second_continueCondition; rw [if_neg hc1, if_neg hc4]), (by unfold s_Second_continueCondition; rw [if_neg hc1, if_neg hc4, if_pos hc15, if_pos hc16, if_neg hc17, if_neg hc18])⟩ d_Second_continueCondition_218
        · show W _ _ _ _ _ _ _ _ _ _ _ _ _ _ _ (F0 _ 96 _ _)
          refine lv_aload_n hx hb d_Second_continueCondition_96 rfl (lv_at hl 3 rfl) ?_
          refine S_getI (h := shC) (C := "MacroMill$Second") (T := F_Second) hx hb htt in_Second hown hK hP 8 13 rfl rfl rfl (by decide) (htt _ k_910) (fun _ h9 => h9) d_Second_continueCondition_97 ?_
          refine lv_aload_n hx hb d_Second_continueCondition_100 rfl (lv_at hl 3 rfl) ?_
          refine S_getI (h := shC) (C := "MacroMill$Second") (T := F_Second) hx hb htt in_Second hown hK hP 8 12 rfl rfl rfl (by decide) (htt _ k_909) (fun _ h9 => h9) d_Second_continueCondition_101 ?_
          refine lv_isub hx hb d_Second_continueCondition_104 ?_
          refine lv_iconst (v := 2) hx hb d_Second_continueCondition_105 (by decide) ?_
          refine lv_icmp_le (tgt := 118) hx hb d_Second_continueCondition_106 (by decide) (fun hc20 => ?_) (fun hc20 => ?_)
          · refine lv_iload_n hx hb d_Second_continueCondition_118 rfl (lv_at hl 2 rfl) ?_
            refine lv_if_eq (tgt := 134) hx hb d_Second_continueCondition_119 (by decide) (fun h9 => absurd h9 (by decide)) (fun _ => ?_)
            refine lv_iload_n hx hb d_Second_continueCondition_122 rfl (lv_at hl 4 rfl) ?_
            refine lv_bipush (v := 9) hx hb d_Second_continueCondition_123 (by decide) ?_
            refine lv_icmp_eq (tgt := 143) hx hb d_Second_continueCondition_125 (by decide) (fun hc21 => ?_) (fun hc21 => ?_)
            · refine lv_iload_n hx hb d_Second_continueCondition_143 rfl (lv_at hl 4 rfl) ?_
              refine lv_bipush (v := 9) hx hb d_Second_continueCondition_144 (by decide) ?_
              refine lv_icmp_ne (tgt := 162) hx hb d_Second_continueCondition_146 (by decide) (fun h9 => absurd hc21 h9) (fun _ => ?_)
              show W _ _ _ _ _ _ _ _ _ _ _ _ _ _ _ (F0 _ 149 _ _)
              refine lv_aload_n hx hb d_Second_continueCondition_149 rfl (lv_at hl 3 rfl) ?_
              refine lv_dup hx hb d_Second_continueCondition_150 rfl ?_
              refine S_getI (h := shC) (C := "MacroMill$Second") (T := F_Second) hx hb htt in_Second hown hK hP 8 9 rfl rfl rfl (by decide) (htt _ k_906) (fun _ h9 => h9) d_Second_continueCondition_151 ?_
              refine lv_iconst (v := 1) hx hb d_Second_continueCondition_154 (by decide) ?_
              refine lv_isub hx hb d_Second_continueCondition_155 ?_
              refine S_put (h := shC) (C := "MacroMill$Second") (T := F_Second) (v := (S.1 8 9) - (1 : Int32)) hx hb htt in_Second t_Second t_Second_ok n_Second hown hK hP hD hS 8 9 rfl rfl rfl (by decide) (htt _ k_906) (fun _ h9 => h9) rfl rfl rfl d_Second_continueCondition_156 (fun H locs hP hD hS => ?_)
              refine lv_goto (tgt := 217) hx hb d_Second_continueCondition_159 (by decide) ?_
              refine lv_iconst (v := 0) hx hb d_Second_continueCondition_217 (by decide) ?_
              exact fin_z (g := g) (ws := Sw shC g ad (putI S 8 9 ((S.1 8 9) - (1 : Int32)))) (v := 0) hx hb hr hlocks rfl (by decide +kernel) (by decide +kernel) hP hD hS ⟨_, rfl, (by unfold r_Second_continueCondition; rw [if_neg hc1, if_neg hc4]), (by unfold s_Second_continueCondition; rw [if_neg hc1, if_neg hc4, if_pos hc15, if_neg hc16, if_pos hc20, if_pos hc21])⟩ d_Second_continueCondition_218
            · refine lv_iload_n hx hb d_Second_continueCondition_128 rfl (lv_at hl 1 rfl) ?_
              refine lv_iconst (v := 4) hx hb d_Second_continueCondition_129 (by decide) ?_
              show W _ _ _ _ _ _ _ _ _ _ _ _ _ _ _ (F0 _ 130 _ _)
              refine lv_iand hx hb d_Second_continueCondition_130 ?_
              refine lv_if_eq (tgt := 143) hx hb d_Second_continueCondition_131 (by decide) (fun hc22 => ?_) (fun hc22 => ?_)
              · refine lv_iload_n hx hb d_Second_continueCondition_143 rfl (lv_at hl 4 rfl) ?_
                refine lv_bipush (v := 9) hx hb d_Second_continueCondition_144 (by decide) ?_
                refine lv_icmp_ne (tgt := 162) hx hb d_Second_continueCondition_146 (by decide) (fun _ => ?_) (fun h9 => absurd h9 hc21)
                refine lv_iload_n hx hb d_Second_continueCondition_162 rfl (lv_at hl 4 rfl) ?_
                refine lv_bipush (v := 8) hx hb d_Second_continueCondition_163 (by decide) ?_
                refine lv_icmp_ne (tgt := 195) hx hb d_Second_continueCondition_165 (by decide) (fun hc23 => ?_) (fun hc23 => ?_)
                · refine lv_iload hx hb d_Second_continueCondition_195 (lv_at hl 0 rfl) ?_
                  refine lv_if_eq (tgt := 215) hx hb d_Second_continueCondition_197 (by decide) (fun h9 => absurd h9 (by decide)) (fun _ => ?_)
                  refine lv_aload_n hx hb d_Second_continueCondition_200 rfl (lv_at hl 3 rfl) ?_
                  refine S_getR (h := shC) (C := "MacroMill$Second") (T := F_Second) hx hb htt in_Second hown hK hP 8 8 rfl 46 rfl rfl (by decide) (htt _ k_905) (fun _ h9 => h9) d_Second_continueCondition_201 ?_
                  refine lv_aload_n hx hb d_Second_continueCondition_204 rfl (lv_at hl 3 rfl) ?_
                  refine S_getI (h := shC) (C := "MacroMill$Second") (T := F_Second) hx hb htt in_Second hown hK hP 8 9 rfl rfl rfl (by decide) (htt _ k_906) (fun _ h9 => h9) d_Second_continueCondition_205 ?_
                  refine lv_iconst (v := 1) hx hb d_Second_continueCondition_208 (by decide) ?_
                  show W _ _ _ _ _ _ _ _ _ _ _ _ _ _ _ (F0 _ 209 _ _)
                  refine lv_isub hx hb d_Second_continueCondition_209 ?_
                  refine lv_iconst (v := 2) hx hb d_Second_continueCondition_210 (by decide) ?_
                  refine S_iast (h := shC) (i := (S.1 8 9) - (1 : Int32)) (v := 2) hx hb hK hP hD hS 33 rfl (hb6 hc1 hc4 hc15 hc16 hc20 hc21 hc22 hc23) d_Second_continueCondition_211 (fun H locs hP hD hS => ?_)
                  refine lv_goto (tgt := 217) hx hb d_Second_continueCondition_212 (by decide) ?_
                  refine lv_iconst (v := 0) hx hb d_Second_continueCondition_217 (by decide) ?_
                  exact fin_z (g := g) (ws := Sw shC g ad (putA S 33 ((S.1 8 9) - (1 : Int32) : Int32).toNatClampNeg 2)) (v := 0) hx hb hr hlocks rfl (by decide +kernel) (by decide +kernel) hP hD hS ⟨_, rfl, (by unfold r_Second_continueCondition; rw [if_neg hc1, if_neg hc4]), (by unfold s_Second_continueCondition; rw [if_neg hc1, if_neg hc4, if_pos hc15, if_neg hc16, if_pos hc20, if_neg hc21, if_pos hc22, if_neg hc23])⟩ d_Second_continueCondition_218
                · refine lv_aload_n hx hb d_Second_continueCondition_168 rfl (lv_at hl 3 rfl) ?_
                  refine S_getR (h := shC) (C := "MacroMill$Second") (T := F_Second) hx hb htt in_Second hown hK hP 8 8 rfl 46 rfl rfl (by decide) (htt _ k_905) (fun _ h9 => h9) d_Second_continueCondition_169 ?_
                  refine lv_aload_n hx hb d_Second_continueCondition_172 rfl (lv_at hl 3 rfl) ?_
                  refine S_getI (h := shC) (C := "MacroMill$Second") (T := F_Second) hx hb htt in_Second hown hK hP 8 9 rfl rfl rfl (by decide) (htt _ k_906) (fun _ h9 => h9) d_Second_continueCondition_173 ?_
                  refine lv_iconst (v := 1) hx hb d_Second_continueCondition_176 (by decide) ?_
                  refine lv_isub hx hb d_Second_continueCondition_177 ?_
                  refine lv_bipush (v := 6) hx hb d_Second_continueCondition_178 (by decide) ?_
                  show W _ _ _ _ _ _ _ _ _ _ _ _ _ _ _ (F0 _ 180 _ _)
                  refine lv_iload hx hb d_Second_continueCondition_180 (lv_at hl 0 rfl) ?_
                  refine lv_if_eq (tgt := 189) hx hb d_Second_continueCondition_182 (by decide) (fun h9 => absurd h9 (by decide)) (fun _ => ?_)
                  refine lv_iconst (v := 0) hx hb d_Second_continueCondition_185 (by decide) ?_
                  refine lv_goto (tgt := 190) hx hb d_Second_continueCondition_186 (by decide) ?_
                  refine lv_ior hx hb d_Second_continueCondition_190 ?_
                  refine toI (y := 6) (by decide) ?_
                  refine S_iast (h := shC) (i := (S.1 8 9) - (1 : Int32)) (v := 6) hx hb hK hP hD hS 33 rfl (hb7 hc1 hc4 hc15 hc16 hc20 hc21 hc22 hc23) d_Second_continueCondition_191 (fun H locs hP hD hS => ?_)
                  refine lv_goto (tgt := 217) hx hb d_Second_continueCondition_192 (by decide) ?_
                  refine lv_iconst (v := 0) hx hb d_Second_continueCondition_217 (by decide) ?_
                  exact fin_z (g := g) (ws := Sw shC g ad (putA S 33 ((S.1 8 9) - (1 : Int32) : Int32).toNatClampNeg 6)) (v := 0) hx hb hr hlocks rfl (by decide +kernel) (by decide +kernel) hP hD hS ⟨_, rfl, (by unfold r_Second_continueCondition; rw [if_neg hc1, if_neg hc4]), (by unfold s_Second_continueCondition; rw [if_neg hc1, if_neg hc4, if_pos hc15, if_neg hc16, if_pos hc20, if_neg hc21, if_pos hc22, if_pos hc23])⟩ d_Second_continueCondition_218
              · refine lv_aload_n hx hb d_Second_continueCondition_134 rfl (lv_at hl 3 rfl) ?_
                refine lv_bipush (v := 13) hx hb d_Second_continueCondition_135 (by decide) ?_
                refine go_vS (As := [.ref (ad 8), .int 13]) (g := g) (A := A) (h := shC) hP hK hD hS hA hN (fun hp => va_runV (As := [.int 13]) (rest := []) ⟨hx, hb, hml, hown, htt⟩ (a_Second_fail l g _ ad S (13 : Int32)) ⟨(cb_L htt k_2000 k_270 k_1997 hd_Second_fail ⟨(by decide +kernel), (by decide +kernel)⟩), htt _ k_1999, htt _ k_96⟩ ⟨hp.1, S_recv hK hP 8 rfl rfl, hp.2⟩ rfl rfl hl.1 rfl (lv_room (Nat.le_of_ble_eq_true rfl)) d_Second_continueCondition_137 ⟨(by decide +kernel), (by decide +kernel)⟩) (fun Sn_8 H locs hw9 hP hD hS => ?_)
                obtain rfl := hw9
                refine W.widen (k := 0) (n := 0) (by decide +kernel) (by decide +kernel) ?_
                refine lv_goto (tgt := 217) hx hb d_Second_continueCondition_140 (by decide) ?_
                refine lv_iconst (v := 0) hx hb d_Second_continueCondition_217 (by decide) ?_
                exact fin_z (g := g) (ws := Sw shC g ad (s_Second_fail S (13 : Int32))) (v := 0) hx hb hr hlocks rfl (by decide +kernel) (by decide +kernel) hP hD hS ⟨_, rfl, (by unfold r_Second_continueCondition; rw [if_neg hc1, if_neg hc4]), (by unfold s_Second_continueCondition; rw [if_neg hc1, if_neg hc4, if_pos hc15, if_neg hc16, if_pos hc20, if_neg hc21, if_neg hc22])⟩ d_Second_continueCondition_218
          · refine lv_aload_n hx hb d_Second_continueCondition_109 rfl (lv_at hl 3 rfl) ?_
            refine lv_bipush (v := 7) hx hb d_Second_continueCondition_110 (by decide) ?_
            refine go_vS (As := [.ref (ad 8), .int 7]) (g := g) (A := A) (h := shC) hP hK hD hS hA hN (fun hp => va_runV (As := [.int 7]) (rest := []) ⟨hx, hb, hml, hown, htt⟩ (a_Second_fail l g _ ad S (7 : Int32)) ⟨(cb_L htt k_2000 k_270 k_1997 hd_Second_fail ⟨(by decide +kernel), (by decide +kernel)⟩), htt _ k_1999, htt _ k_96⟩ ⟨hp.1, S_recv hK hP 8 rfl rfl, hp.2⟩ rfl rfl hl.1 rfl (lv_room (Nat.le_of_ble_eq_true rfl)) d_Second_continueCondition_112 ⟨(by decide +kernel), (by decide +kernel)⟩) (fun Sn_9 H locs hw9 hP hD hS => ?_)
            obtain rfl := hw9
            refine W.widen (k := 0) (n := 0) (by decide +kernel) (by decide +kernel) ?_
            refine lv_goto (tgt := 217) hx hb d_Second_continueCondition_115 (by decide) ?_
            refine lv_iconst (v := 0) hx hb d_Second_continueCondition_217 (by decide) ?_
            exact fin_z (g := g) (ws := Sw shC g ad (s_Second_fail S (7 : Int32))) (v := 0) hx hb hr hlocks rfl (by decide +kernel) (by decide +kernel) hP hD hS ⟨_, rfl, (by unfold r_Second_continueCondition; rw [if_neg hc1, if_neg hc4]), (by unfold s_Second_continueCondition; rw [if_neg hc1, if_neg hc4, if_pos hc15, if_neg hc16, if_neg hc20])⟩ d_Second_continueCondition_218
      · refine lv_aload_n hx hb d_Second_continueCondition_67 rfl (lv_at hl 3 rfl) ?_
        refine lv_dup hx hb d_Second_continueCondition_68 rfl ?_
        show W _ _ _ _ _ _ _ _ _ _ _ _ _ _ _ (F0 _ 69 _ _)
        refine S_getI (h := shC) (C := "MacroMill$Second") (T := F_Second) hx hb htt in_Second hown hK hP 8 9 rfl rfl rfl (by decide) (htt _ k_906) (fun _ h9 => h9) d_Second_continueCondition_69 ?_
        refine lv_iload_n hx hb d_Second_continueCondition_72 rfl (lv_at hl 4 rfl) ?_
        refine lv_bipush (v := 9) hx hb d_Second_continueCondition_73 (by decide) ?_
        refine lv_icmp_ne (tgt := 82) hx hb d_Second_continueCondition_75 (by decide) (fun hc24 => ?_) (fun hc24 => ?_)
        · refine lv_iconst (v := 0) hx hb d_Second_continueCondition_82 (by decide) ?_
          refine lv_isub hx hb d_Second_continueCondition_83 ?_
          refine S_put (h := shC) (C := "MacroMill$Second") (T := F_Second) (v := (S.1 8 9) - (0 : Int32)) hx hb htt in_Second t_Second t_Second_ok n_Second hown hK hP hD hS 8 9 rfl rfl rfl (by decide) (htt _ k_906) (fun _ h9 => h9) rfl rfl rfl d_Second_continueCondition_84 (fun H locs hP hD hS => ?_)
          refine lv_goto (tgt := 217) hx hb d_Second_continueCondition_87 (by decide) ?_
          refine lv_iconst (v := 0) hx hb d_Second_continueCondition_217 (by decide) ?_
          exact fin_z (g := g) (ws := Sw shC g ad (putI S 8 9 ((S.1 8 9) - (0 : Int32)))) (v := 0) hx hb hr hlocks rfl (by decide +kernel) (by decide +kernel) hP hD hS ⟨_, rfl, (by unfold r_Second_continueCondition; rw [if_neg hc1, if_neg hc4]), (by unfold s_Second_continueCondition; rw [if_neg hc1, if_neg hc4, if_neg hc15, if_neg hc24])⟩ d_Second_continueCondition_218
        · refine lv_iconst (v := 1) hx hb d_Second_continueCondition_78 (by decide) ?_
          refine lv_goto (tgt := 83) hx hb d_Second_continueCondition_79 (by decide) ?_
          refine lv_isub hx hb d_Second_continueCondition_83 ?_
          refine S_put (h := shC) (C := "MacroMill$Second") (T := F_Second) (v := (S.1 8 9) - (1 : Int32)) hx hb htt in_Second t_Second t_Second_ok n_Second hown hK hP hD hS 8 9 rfl rfl rfl (by decide) (htt _ k_906) (fun _ h9 => h9) rfl rfl rfl d_Second_continueCondition_84 (fun H locs hP hD hS => ?_)
          refine lv_goto (tgt := 217) hx hb d_Second_continueCondition_87 (by decide) ?_
          refine lv_iconst (v := 0) hx hb d_Second_continueCondition_217 (by decide) ?_
          exact fin_z (g := g) (ws := Sw shC g ad (putI S 8 9 ((S.1 8 9) - (1 : Int32)))) (v := 0) hx hb hr hlocks rfl (by decide +kernel) (by decide +kernel) hP hD hS ⟨_, rfl, (by unfold r_Second_continueCondition; rw [if_neg hc1, if_neg hc4]), (by unfold s_Second_continueCondition; rw [if_neg hc1, if_neg hc4, if_neg hc15, if_pos hc24])⟩ d_Second_continueCondition_218
def r_Second_digitOf (S : sS) (v1 : Int32) : Int32 := if (r_MM_isDigit S (v1)) = (0 : Int32) then (if (v1 ||| (32 : Int32)) < (97 : Int32) then 99 else (if (102 : Int32) < (v1 ||| (32 : Int32)) then 99 else (((v1 ||| (32 : Int32)) - (97 : Int32)) + (10 : Int32)))) else (v1 - (48 : Int32))
abbrev rm_a_Second_digitOf : Room := { frames := 1, cells := 0, slots := 0, locals := 20 }
set_option maxHeartbeats 4000000 in
set_option maxRecDepth 100000 in
theorem a_Second_digitOf (l : Launch) (g : gG) (sz : Nat) (ad : Nat → Nat) (S : sS) (v1 : Int32) : Ci l y_Second_digitOf b_Second_digitOf 2 rm_a_Second_digitOf g [.int v1] (Sw shC g ad S) sz (fun r w => ∃ S' : sS, w = Sw shC g ad S' ∧ r = r_Second_digitOf S v1 ∧ S' = S) := by
  refine startI (by decide) (Nat.le_of_ble_eq_true rfl) ?_
  intro p e s m below meth c A ls hx hb hr hml hlocks hmn hown htt hN hA hP hK hD hS hl
  have hown : s.vm.findClass "MacroMill$Second" = some m.cls := hown
  have hl : lv_has ls 2 [(0, .int v1)] := hl
  refine lv_iload_n hx hb d_Second_digitOf_0 rfl (lv_at hl 0 rfl) ?_
  refine go_iS (As := [.int v1]) (g := g) (A := A) (h := shC) hP hK hD hS hA hN (fun hp => va_runSN (As := [.int v1]) (rest := []) ⟨hx, hb, hml, hown, htt⟩ (a_MM_isDigit l g _ ad S (v1)) ⟨(cb_N (host := "MacroMill") htt k_1177 k_262 hN nM_24 hd_MM_isDigit ⟨(by decide +kernel), (by decide +kernel)⟩), htt _ k_1176, trivial⟩ hp rfl rfl hl.1 rfl (lv_room (Nat.le_of_ble_eq_true rfl)) d_Second_digitOf_1 ⟨(by decide +kernel), (by decide +kernel)⟩) (fun r9 Sn H locs hw9 hP hD hS => ?_)
  obtain ⟨rfl, e9⟩ := hw9
  rw [e9] at hP hD
  refine W.widen (k := 0) (n := 0) (by decide +kernel) (by decide +kernel) ?_
  refine lv_if_eq (tgt := 12) hx hb d_Second_digitOf_4 (by decide) (fun hc1 => ?_) (fun hc1 => ?_)
  · refine lv_iload_n hx hb d_Second_digitOf_12 rfl (lv_at hl 0 rfl) ?_
    refine lv_bipush (v := 32) hx hb d_Second_digitOf_13 (by decide) ?_
    refine lv_ior hx hb d_Second_digitOf_15 ?_
    refine lv_istore_n (lv' := [(1, .int (v1 ||| (32 : Int32))), (0, .int v1)]) hx hb d_Second_digitOf_16 rfl hl (by decide) rfl (fun ls hl => ?_)
    refine lv_iload_n hx hb d_Second_digitOf_17 rfl (lv_at hl 0 rfl) ?_
    refine lv_bipush (v := 97) hx hb d_Second_digitOf_18 (by decide) ?_
    refine lv_icmp_lt (tgt := 39) hx hb d_Second_digitOf_20 (by decide) (fun hc2 => ?_) (fun hc2 => ?_)
    · refine lv_bipush (v := 99) hx hb d_Second_digitOf_39 (by decide) ?_
      exact fin_i (g := g) (ws := Sw shC g ad S) (v := 99) hx hb hr hlocks (by decide +kernel) (by decide +kernel) hP hD hS ⟨_, rfl, (by unfold r_Second_digitOf; rw [if_pos hc1, if_pos hc2]), rfl⟩ d_Second_digitOf_41
    · refine lv_iload_n hx hb d_Second_digitOf_23 rfl (lv_at hl 0 rfl) ?_
      refine lv_bipush (v := 102) hx hb d_Second_digitOf_24 (by decide) ?_
      refine lv_icmp_gt (tgt := 39) hx hb d_Second_digitOf_26 (by decide) (fun hc3 => ?_) (fun hc3 => ?_)
      · refine lv_bipush (v := 99) hx hb d_Second_digitOf_39 (by decide) ?_
        show W _ _ _ _ _ _ _ _ _ _ _ _ _ _ _ (F0 _ 41 _ _)
        exact fin_i (g := g) (ws := Sw shC g ad S) (v := 99) hx hb hr hlocks (by decide +kernel) (by decide +kernel) hP hD hS ⟨_, rfl, (by unfold r_Second_digitOf; rw [if_pos hc1, if_neg hc2, if_pos hc3]), rfl⟩ d_Second_digitOf_41
      · refine lv_iload_n hx hb d_Second_digitOf_29 rfl (lv_at hl 0 rfl) ?_
        show W _ _ _ _ _ _ _ _ _ _ _ _ _ _ _ (F0 _ 30 _ _)
        refine lv_bipush (v := 97) hx hb d_Second_digitOf_30 (by decide) ?_
        refine lv_isub hx hb d_Second_digitOf_32 ?_
        refine lv_bipush (v := 10) hx hb d_Second_digitOf_33 (by decide) ?_
        refine lv_iadd hx hb d_Second_digitOf_35 ?_
        refine lv_goto (tgt := 41) hx hb d_Second_digitOf_36 (by decide) ?_
        exact fin_i (g := g) (ws := Sw shC g ad S) (v := ((v1 ||| (32 : Int32)) - (97 : Int32)) + (10 : Int32)) hx hb hr hlocks (by decide +kernel) (by decide +kernel) hP hD hS ⟨_, rfl, (by unfold r_Second_digitOf; rw [if_pos hc1, if_neg hc2, if_neg hc3]), rfl⟩ d_Second_digitOf_41
  · refine lv_iload_n hx hb d_Second_digitOf_7 rfl (lv_at hl 0 rfl) ?_
    refine lv_bipush (v := 48) hx hb d_Second_digitOf_8 (by decide) ?_
    refine lv_isub hx hb d_Second_digitOf_10 ?_
    exact fin_i (g := g) (ws := Sw shC g ad S) (v := v1 - (48 : Int32)) hx hb hr hlocks (by decide +kernel) (by decide +kernel) hP hD hS ⟨_, rfl, (by unfold r_Second_digitOf; rw [if_neg hc1]), rfl⟩ d_Second_digitOf_11
def r_Second_isTooLarge (S : sS) (v1 : Int64) (v2 : Int32) (v3 : Int32) : Int32 := if v2 = (10 : Int32) then (if (lg_cmp v1 (0 : Int64)) < (0 : Int32) then 1 else (if (0 : Int32) < (lg_cmp v1 (1844674407370955161 : Int64)) then 1 else (if (lg_cmp v1 (1844674407370955161 : Int64)) = (0 : Int32) then (if v3 ≤ (5 : Int32) then 0 else 1) else 0))) else (if v2 = (16 : Int32) then (if (lg_cmp ((v1.toUInt64 >>> ((60 : Int32).toInt64.toUInt64 &&& Int64.toUInt64 63)).toInt64) (0 : Int64)) = (0 : Int32) then 0 else 1) else (if (lg_cmp ((v1.toUInt64 >>> ((61 : Int32).toInt64.toUInt64 &&& Int64.toUInt64 63)).toInt64) (0 : Int64)) = (0 : Int32) then 0 else 1))
abbrev rm_a_Second_isTooLarge : Room := { frames := 0, cells := 0, slots := 0, locals := 0 }
set_option maxHeartbeats 4000000 in
set_option maxRecDepth 100000 in
theorem a_Second_isTooLarge (l : Launch) (g : gG) (sz : Nat) (ad : Nat → Nat) (S : sS) (v1 : Int64) (v2 : Int32) (v3 : Int32) : Cz l y_Second_isTooLarge b_Second_isTooLarge 6 rm_a_Second_isTooLarge g [.long v1, .int v2, .int v3] (Sw shC g ad S) sz (fun r w => ∃ S' : sS, w = Sw shC g ad S' ∧ r = r_Second_isTooLarge S v1 v2 v3 ∧ S' = S) := by
  refine startZ (by decide) (Nat.le_of_ble_eq_true rfl) ?_
  intro p e s m below meth c A ls hx hb hr hml hlocks hmn hown htt hN hA hP hK hD hS hl
  have hown : s.vm.findClass "MacroMill$Second" = some m.cls := hown
  have hl : lv_has ls 6 [(0, .long v1), (2, .int v2), (3, .int v3)] := hl
  refine lv_iload_n hx hb d_Second_isTooLarge_0 rfl (lv_at hl 1 rfl) ?_
  refine lv_bipush (v := 10) hx hb d_Second_isTooLarge_1 (by decide) ?_
  refine lv_icmp_ne (tgt := 42) hx hb d_Second_isTooLarge_3 (by decide) (fun hc1 => ?_) (fun hc1 => ?_)
  · refine lv_lload_n hx hb d_Second_isTooLarge_42 rfl (lv_at hl 0 rfl) ?_
    refine lv_iload_n hx hb d_Second_isTooLarge_43 rfl (lv_at hl 1 rfl) ?_
    refine lv_bipush (v := 16) hx hb d_Second_isTooLarge_44 (by decide) ?_
    refine lv_icmp_ne (tgt := 54) hx hb d_Second_isTooLarge_46 (by decide) (fun hc2 => ?_) (fun hc2 => ?_)
    · refine lv_bipush (v := 61) hx hb d_Second_isTooLarge_54 (by decide) ?_
      refine lv_lushr (v := (v1.toUInt64 >>> ((61 : Int32).toInt64.toUInt64 &&& Int64.toUInt64 63)).toInt64) hx hb d_Second_isTooLarge_56 rfl ?_
      refine lv_lconst (v := 0) hx hb d_Second_isTooLarge_57 (by decide) ?_
      refine W.lcmp hx hb d_Second_isTooLarge_58 ?_
      refine lv_if_eq (tgt := 66) hx hb d_Second_isTooLarge_59 (by decide) (fun hc3 => ?_) (fun hc3 => ?_)
      · refine lv_iconst (v := 0) hx hb d_Second_isTooLarge_66 (by decide) ?_
        exact fin_z (g := g) (ws := Sw shC g ad S) (v := 0) hx hb hr hlocks rfl (by decide +kernel) (by decide +kernel) hP hD hS ⟨_, rfl, (by unfold r_Second_isTooLarge; rw [if_neg hc1, if_neg hc2, if_pos hc3]), rfl⟩ d_Second_isTooLarge_67
      · refine lv_iconst (v := 1) hx hb d_Second_isTooLarge_62 (by decide) ?_
        refine lv_goto (tgt := 67) hx hb d_Second_isTooLarge_63 (by decide) ?_
        show W _ _ _ _ _ _ _ _ _ _ _ _ _ _ _ (F0 _ 67 _ _)
        exact fin_z (g := g) (ws := Sw shC g ad S) (v := 1) hx hb hr hlocks rfl (by decide +kernel) (by decide +kernel) hP hD hS ⟨_, rfl, (by unfold r_Second_isTooLarge; rw [if_neg hc1, if_neg hc2, if_neg hc3]), rfl⟩ d_Second_isTooLarge_67
    · refine lv_bipush (v := 60) hx hb d_Second_isTooLarge_49 (by decide) ?_
      refine lv_goto (tgt := 56) hx hb d_Second_isTooLarge_51 (by decide) ?_
      refine lv_lushr (v := (v1.toUInt64 >>> ((60 : Int32).toInt64.toUInt64 &&& Int64.toUInt64 63)).toInt64) hx hb d_Second_isTooLarge_56 rfl ?_
      refine lv_lconst (v := 0) hx hb d_Second_isTooLarge_57 (by decide) ?_
      refine W.lcmp hx hb d_Second_isTooLarge_58 ?_
      refine lv_if_eq (tgt := 66) hx hb d_Second_isTooLarge_59 (by decide) (fun hc4 => ?_) (fun hc4 => ?_)
      · refine lv_iconst (v := 0) hx hb d_Second_isTooLarge_66 (by decide) ?_
        show W _ _ _ _ _ _ _ _ _ _ _ _ _ _ _ (F0 _ 67 _ _)
        exact fin_z (g := g) (ws := Sw shC g ad S) (v := 0) hx hb hr hlocks rfl (by decide +kernel) (by decide +kernel) hP hD hS ⟨_, rfl, (by unfold r_Second_isTooLarge; rw [if_neg hc1, if_pos hc2, if_pos hc4]), rfl⟩ d_Second_isTooLarge_67
      · refine lv_iconst (v := 1) hx hb d_Second_isTooLarge_62 (by decide) ?_
        show W _ _ _ _ _ _ _ _ _ _ _ _ _ _ _ (F0 _ 63 _ _)
        refine lv_goto (tgt := 67) hx hb d_Second_isTooLarge_63 (by decide) ?_
        exact fin_z (g := g) (ws := Sw shC g ad S) (v := 1) hx hb hr hlocks rfl (by decide +kernel) (by decide +kernel) hP hD hS ⟨_, rfl, (by unfold r_Second_isTooLarge; rw [if_neg hc1, if_pos hc2, if_neg hc4]), rfl⟩ d_Second_isTooLarge_67
  · refine lv_ldc2 (v := 1844674407370955161) hx hb hown (htt _ k_2182) d_Second_isTooLarge_6 ?_
    refine lv_lstore (lv' := [(4, .long 1844674407370955161), (0, .long v1), (2, .int v2), (3, .int v3)]) hx hb d_Second_isTooLarge_9 hl (by decide) rfl (fun ls hl => ?_)
    refine lv_lload_n hx hb d_Second_isTooLarge_11 rfl (lv_at hl 1 rfl) ?_
    refine lv_lconst (v := 0) hx hb d_Second_isTooLarge_12 (by decide) ?_
    refine W.lcmp hx hb d_Second_isTooLarge_13 ?_
    refine lv_if_lt (tgt := 36) hx hb d_Second_isTooLarge_14 (by decide) (fun hc5 => ?_) (fun hc5 => ?_)
    · refine lv_iconst (v := 1) hx hb d_Second_isTooLarge_36 (by decide) ?_
      refine lv_goto (tgt := 41) hx hb d_Second_isTooLarge_37 (by decide) ?_
      exact fin_z (g := g) (ws := Sw shC g ad S) (v := 1) hx hb hr hlocks rfl (by decide +kernel) (by decide +kernel) hP hD hS ⟨_, rfl, (by unfold r_Second_isTooLarge; rw [if_pos hc1, if_pos hc5]), rfl⟩ d_Second_isTooLarge_41
    · refine lv_lload_n hx hb d_Second_isTooLarge_17 rfl (lv_at hl 1 rfl) ?_
      refine lv_lload hx hb d_Second_isTooLarge_18 (lv_at hl 0 rfl) ?_
      refine W.lcmp hx hb d_Second_isTooLarge_20 ?_
      refine lv_if_gt (tgt := 36) hx hb d_Second_isTooLarge_21 (by decide) (fun hc6 => ?_) (fun hc6 => ?_)
      · refine lv_iconst (v := 1) hx hb d_Second_isTooLarge_36 (by decide) ?_
        show W _ _ _ _ _ _ _ _ _ _ _ _ _ _ _ (F0 _ 37 _ _)
        refine lv_goto (tgt := 41) hx hb d_Second_isTooLarge_37 (by decide) ?_
        exact fin_z (g := g) (ws := Sw shC g ad S) (v := 1) hx hb hr hlocks rfl (by decide +kernel) (by decide +kernel) hP hD hS ⟨_, rfl, (by unfold r_Second_isTooLarge; rw [if_pos hc1, if_neg hc5, if_pos hc6]), rfl⟩ d_Second_isTooLarge_41
      · refine lv_lload_n hx hb d_Second_isTooLarge_24 rfl (lv_at hl 1 rfl) ?_
        show W _ _ _ _ _ _ _ _ _ _ _ _ _ _ _ (F0 _ 25 _ _)
        refine lv_lload hx hb d_Second_isTooLarge_25 (lv_at hl 0 rfl) ?_
        refine W.lcmp hx hb d_Second_isTooLarge_27 ?_
        refine lv_if_ne (tgt := 40) hx hb d_Second_isTooLarge_28 (by decide) (fun hc7 => ?_) (fun hc7 => ?_)
        · refine lv_iconst (v := 0) hx hb d_Second_isTooLarge_40 (by decide) ?_
          exact fin_z (g := g) (ws := Sw shC g ad S) (v := 0) hx hb hr hlocks rfl (by decide +kernel) (by decide +kernel) hP hD hS ⟨_, rfl, (by unfold r_Second_isTooLarge; rw [if_pos hc1, if_neg hc5, if_neg hc6, if_neg hc7]), rfl⟩ d_Second_isTooLarge_41
        · refine lv_iload_n hx hb d_Second_isTooLarge_31 rfl (lv_at hl 3 rfl) ?_
          refine lv_iconst (v := 5) hx hb d_Second_isTooLarge_32 (by decide) ?_
          refine lv_icmp_le (tgt := 40) hx hb d_Second_isTooLarge_33 (by decide) (fun hc8 => ?_) (fun hc8 => ?_)
          · refine lv_iconst (v := 0) hx hb d_Second_isTooLarge_40 (by decide) ?_
            exact fin_z (g := g) (ws := Sw shC g ad S) (v := 0) hx hb hr hlocks rfl (by decide +kernel) (by decide +kernel) hP hD hS ⟨_, rfl, (by unfold r_Second_isTooLarge; rw [if_pos hc1, if_neg hc5, if_neg hc6, if_pos hc7, if_pos hc8]), rfl⟩ d_Second_isTooLarge_41
          · refine lv_iconst (v := 1) hx hb d_Second_isTooLarge_36 (by decide) ?_
            refine lv_goto (tgt := 41) hx hb d_Second_isTooLarge_37 (by decide) ?_
            exact fin_z (g := g) (ws := Sw shC g ad S) (v := 1) hx hb hr hlocks rfl (by decide +kernel) (by decide +kernel) hP hD hS ⟨_, rfl, (by unfold r_Second_isTooLarge; rw [if_pos hc1, if_neg hc5, if_neg hc6, if_pos hc7, if_neg hc8]), rfl⟩ d_Second_isTooLarge_41
def r_Second_suffixOf (S : sS) (v1 : Int32) (v2 : Int32) : Int32 := if v2 ≤ v1 then (if v2 ≤ (v1 + (0 : Int32)) then 0 else (if ((S.2.1 37 (v1 + (0 : Int32) : Int32).toNatClampNeg) ||| (32 : Int32)) = (108 : Int32) then (if v2 ≤ ((v1 + (0 : Int32)) + (1 : Int32)) then 0 else (if (S.2.1 37 ((v1 + (0 : Int32)) + (1 : Int32) : Int32).toNatClampNeg) = (S.2.1 37 (v1 + (0 : Int32) : Int32).toNatClampNeg) then (if v2 ≤ ((v1 + (0 : Int32)) + (2 : Int32)) then 0 else (if ((S.2.1 37 ((v1 + (0 : Int32)) + (2 : Int32) : Int32).toNatClampNeg) ||| (32 : Int32)) = (117 : Int32) then (if v2 ≤ (((v1 + (0 : Int32)) + (2 : Int32)) + 1) then 1 else ((-1))) else ((-1)))) else (if ((S.2.1 37 ((v1 + (0 : Int32)) + (1 : Int32) : Int32).toNatClampNeg) ||| (32 : Int32)) = (117 : Int32) then (if v2 ≤ (((v1 + (0 : Int32)) + (1 : Int32)) + 1) then 1 else ((-1))) else ((-1))))) else (if ((S.2.1 37 (v1 + (0 : Int32) : Int32).toNatClampNeg) ||| (32 : Int32)) = (117 : Int32) then (if v2 ≤ ((v1 + (0 : Int32)) + 1) then 1 else ((-1))) else ((-1))))) else (if ((S.2.1 37 (v1 : Int32).toNatClampNeg) ||| (32 : Int32)) = (117 : Int32) then (if v2 ≤ (v1 + (1 : Int32)) then 1 else (if ((S.2.1 37 (v1 + (1 : Int32) : Int32).toNatClampNeg) ||| (32 : Int32)) = (108 : Int32) then (if v2 ≤ ((v1 + (1 : Int32)) + (1 : Int32)) then 1 else (if (S.2.1 37 ((v1 + (1 : Int32)) + (1 : Int32) : Int32).toNatClampNeg) = (S.2.1 37 (v1 + (1 : Int32) : Int32).toNatClampNeg) then (if v2 ≤ ((v1 + (1 : Int32)) + (2 : Int32)) then 1 else ((-1))) else ((-1)))) else ((-1)))) else (if v2 ≤ (v1 + (0 : Int32)) then 0 else (if ((S.2.1 37 (v1 + (0 : Int32) : Int32).toNatClampNeg) ||| (32 : Int32)) = (108 : Int32) then (if v2 ≤ ((v1 + (0 : Int32)) + (1 : Int32)) then 0 else (if (S.2.1 37 ((v1 + (0 : Int32)) + (1 : Int32) : Int32).toNatClampNeg) = (S.2.1 37 (v1 + (0 : Int32) : Int32).toNatClampNeg) then (if v2 ≤ ((v1 + (0 : Int32)) + (2 : Int32)) then 0 else (if ((S.2.1 37 ((v1 + (0 : Int32)) + (2 : Int32) : Int32).toNatClampNeg) ||| (32 : Int32)) = (117 : Int32) then (if v2 ≤ (((v1 + (0 : Int32)) + (2 : Int32)) + 1) then 1 else ((-1))) else ((-1)))) else (if ((S.2.1 37 ((v1 + (0 : Int32)) + (1 : Int32) : Int32).toNatClampNeg) ||| (32 : Int32)) = (117 : Int32) then (if v2 ≤ (((v1 + (0 : Int32)) + (1 : Int32)) + 1) then 1 else ((-1))) else ((-1))))) else (if ((S.2.1 37 (v1 + (0 : Int32) : Int32).toNatClampNeg) ||| (32 : Int32)) = (117 : Int32) then (if v2 ≤ ((v1 + (0 : Int32)) + 1) then 1 else ((-1))) else ((-1))))))
abbrev rm_a_Second_suffixOf : Room := { frames := 0, cells := 0, slots := 0, locals := 0 }
set_option maxHeartbeats 4000000 in
set_option maxRecDepth 100000 in
theorem a_Second_suffixOf (l : Launch) (g : gG) (sz : Nat) (ad : Nat → Nat) (S : sS) (v1 : Int32) (v2 : Int32) (hb0 : v2 ≤ v1 → ¬ (v2 ≤ (v1 + (0 : Int32))) → vp_in (v1 + (0 : Int32)) 125538) (hb1 : v2 ≤ v1 → ¬ (v2 ≤ (v1 + (0 : Int32))) → ¬ (((S.2.1 37 (v1 + (0 : Int32) : Int32).toNatClampNeg) ||| (32 : Int32)) = (108 : Int32)) → vp_in (v1 + (0 : Int32)) 125538) (hb2 : v2 ≤ v1 → ¬ (v2 ≤ (v1 + (0 : Int32))) → ((S.2.1 37 (v1 + (0 : Int32) : Int32).toNatClampNeg) ||| (32 : Int32)) = (108 : Int32) → ¬ (v2 ≤ ((v1 + (0 : Int32)) + (1 : Int32))) → vp_in ((v1 + (0 : Int32)) + (1 : Int32)) 125538) (hb3 : v2 ≤ v1 → ¬ (v2 ≤ (v1 + (0 : Int32))) → ((S.2.1 37 (v1 + (0 : Int32) : Int32).toNatClampNeg) ||| (32 : Int32)) = (108 : Int32) → ¬ (v2 ≤ ((v1 + (0 : Int32)) + (1 : Int32))) → vp_in (v1 + (0 : Int32)) 125538) (hb4 : v2 ≤ v1 → ¬ (v2 ≤ (v1 + (0 : Int32))) → ((S.2.1 37 (v1 + (0 : Int32) : Int32).toNatClampNeg) ||| (32 : Int32)) = (108 : Int32) → ¬ (v2 ≤ ((v1 + (0 : Int32)) + (1 : Int32))) → ¬ ((S.2.1 37 ((v1 + (0 : Int32)) + (1 : Int32) : Int32).toNatClampNeg) = (S.2.1 37 (v1 + (0 : Int32) : Int32).toNatClampNeg)) → vp_in ((v1 + (0 : Int32)) + (1 : Int32)) 125538) (hb5 : v2 ≤ v1 → ¬ (v2 ≤ (v1 + (0 : Int32))) → ((S.2.1 37 (v1 + (0 : Int32) : Int32).toNatClampNeg) ||| (32 : Int32)) = (108 : Int32) → ¬ (v2 ≤ ((v1 + (0 : Int32)) + (1 : Int32))) → (S.2.1 37 ((v1 + (0 : Int32)) + (1 : Int32) : Int32).toNatClampNeg) = (S.2.1 37 (v1 + (0 : Int32) : Int32).toNatClampNeg) → ¬ (v2 ≤ ((v1 + (0 : Int32)) + (2 : Int32))) → vp_in ((v1 + (0 : Int32)) + (2 : Int32)) 125538) (hb6 : ¬ (v2 ≤ v1) → vp_in (v1) 125538) (hb7 : ¬ (v2 ≤ v1) → ¬ (((S.2.1 37 (v1 : Int32).toNatClampNeg) ||| (32 : Int32)) = (117 : Int32)) → ¬ (v2 ≤ (v1 + (0 : Int32))) → vp_in (v1 + (0 : Int32)) 125538) (hb8 : ¬ (v2 ≤ v1) → ¬ (((S.2.1 37 (v1 : Int32).toNatClampNeg) ||| (32 : Int32)) = (117 : Int32)) → ¬ (v2 ≤ (v1 + (0 : Int32))) → ¬ (((S.2.1 37 (v1 + (0 : Int32) : Int32).toNatClampNeg) ||| (32 : Int32)) = (108 : Int32)) → vp_in (v1 + (0 : Int32)) 125538) (hb9 : ¬ (v2 ≤ v1) → ¬ (((S.2.1 37 (v1 : Int32).toNatClampNeg) ||| (32 : Int32)) = (117 : Int32)) → ¬ (v2 ≤ (v1 + (0 : Int32))) → ((S.2.1 37 (v1 + (0 : Int32) : Int32).toNatClampNeg) ||| (32 : Int32)) = (108 : Int32) → ¬ (v2 ≤ ((v1 + (0 : Int32)) + (1 : Int32))) → vp_in ((v1 + (0 : Int32)) + (1 : Int32)) 125538) (hb10 : ¬ (v2 ≤ v1) → ¬ (((S.2.1 37 (v1 : Int32).toNatClampNeg) ||| (32 : Int32)) = (117 : Int32)) → ¬ (v2 ≤ (v1 + (0 : Int32))) → ((S.2.1 37 (v1 + (0 : Int32) : Int32).toNatClampNeg) ||| (32 : Int32)) = (108 : Int32) → ¬ (v2 ≤ ((v1 + (0 : Int32)) + (1 : Int32))) → vp_in (v1 + (0 : Int32)) 125538) (hb11 : ¬ (v2 ≤ v1) → ¬ (((S.2.1 37 (v1 : Int32).toNatClampNeg) ||| (32 : Int32)) = (117 : Int32)) → ¬ (v2 ≤ (v1 + (0 : Int32))) → ((S.2.1 37 (v1 + (0 : Int32) : Int32).toNatClampNeg) ||| (32 : Int32)) = (108 : Int32) → ¬ (v2 ≤ ((v1 + (0 : Int32)) + (1 : Int32))) → ¬ ((S.2.1 37 ((v1 + (0 : Int32)) + (1 : Int32) : Int32).toNatClampNeg) = (S.2.1 37 (v1 + (0 : Int32) : Int32).toNatClampNeg)) → vp_in ((v1 + (0 : Int32)) + (1 : Int32)) 125538) (hb12 : ¬ (v2 ≤ v1) → ¬ (((S.2.1 37 (v1 : Int32).toNatClampNeg) ||| (32 : Int32)) = (117 : Int32)) → ¬ (v2 ≤ (v1 + (0 : Int32))) → ((S.2.1 37 (v1 + (0 : Int32) : Int32).toNatClampNeg) ||| (32 : Int32)) = (108 : Int32) → ¬ (v2 ≤ ((v1 + (0 : Int32)) + (1 : Int32))) → (S.2.1 37 ((v1 + (0 : Int32)) + (1 : Int32) : Int32).toNatClampNeg) = (S.2.1 37 (v1 + (0 : Int32) : Int32).toNatClampNeg) → ¬ (v2 ≤ ((v1 + (0 : Int32)) + (2 : Int32))) → vp_in ((v1 + (0 : Int32)) + (2 : Int32)) 125538) (hb13 : ¬ (v2 ≤ v1) → ((S.2.1 37 (v1 : Int32).toNatClampNeg) ||| (32 : Int32)) = (117 : Int32) → ¬ (v2 ≤ (v1 + (1 : Int32))) → vp_in (v1 + (1 : Int32)) 125538) (hb14 : ¬ (v2 ≤ v1) → ((S.2.1 37 (v1 : Int32).toNatClampNeg) ||| (32 : Int32)) = (117 : Int32) → ¬ (v2 ≤ (v1 + (1 : Int32))) → ((S.2.1 37 (v1 + (1 : Int32) : Int32).toNatClampNeg) ||| (32 : Int32)) = (108 : Int32) → ¬ (v2 ≤ ((v1 + (1 : Int32)) + (1 : Int32))) → vp_in ((v1 + (1 : Int32)) + (1 : Int32)) 125538) (hb15 : ¬ (v2 ≤ v1) → ((S.2.1 37 (v1 : Int32).toNatClampNeg) ||| (32 : Int32)) = (117 : Int32) → ¬ (v2 ≤ (v1 + (1 : Int32))) → ((S.2.1 37 (v1 + (1 : Int32) : Int32).toNatClampNeg) ||| (32 : Int32)) = (108 : Int32) → ¬ (v2 ≤ ((v1 + (1 : Int32)) + (1 : Int32))) → vp_in (v1 + (1 : Int32)) 125538) : Ci l y_Second_suffixOf b_Second_suffixOf 6 rm_a_Second_suffixOf g [.ref (ad 8), .int v1, .int v2] (Sw shC g ad S) sz (fun r w => ∃ S' : sS, w = Sw shC g ad S' ∧ r = r_Second_suffixOf S v1 v2 ∧ S' = S) := by
  refine startI (by decide) (Nat.le_of_ble_eq_true rfl) ?_
  intro p e s m below meth c A ls hx hb hr hml hlocks hmn hown htt hN hA hP hK hD hS hl
  have hown : s.vm.findClass "MacroMill$Second" = some m.cls := hown
  have hl : lv_has ls 6 [(0, .ref (ad 8)), (1, .int v1), (2, .int v2)] := hl
  refine lv_aload_n hx hb d_Second_suffixOf_0 rfl (lv_at hl 0 rfl) ?_
  refine S_getR (h := shC) (C := "MacroMill$Second") (T := F_Second) hx hb htt in_Second hown hK hP 8 3 rfl 9 rfl rfl (by decide) (htt _ k_899) (fun _ h9 => h9) d_Second_suffixOf_1 ?_
  refine S_getR (h := shC) (C := "MacroMill$Tokens") (T := F_Tokens) hx hb htt in_Tokens hown hK hP 9 0 rfl 50 rfl rfl (by decide) (htt _ k_636) (fun _ h9 => h9) d_Second_suffixOf_4 ?_
  refine lv_astore_n (lv' := [(3, .ref (ad 50)), (0, .ref (ad 8)), (1, .int v1), (2, .int v2)]) hx hb d_Second_suffixOf_7 rfl hl (by decide) rfl (fun ls hl => ?_)
  refine lv_iload_n hx hb d_Second_suffixOf_8 rfl (lv_at hl 2 rfl) ?_
  refine lv_istore (lv' := [(4, .int v1), (3, .ref (ad 50)), (0, .ref (ad 8)), (1, .int v1), (2, .int v2)]) hx hb d_Second_suffixOf_9 hl (by decide) rfl (fun ls hl => ?_)
  refine lv_iload hx hb d_Second_suffixOf_11 (lv_at hl 0 rfl) ?_
  refine lv_iload_n hx hb d_Second_suffixOf_13 rfl (lv_at hl 4 rfl) ?_
  refine lv_icmp_ge (tgt := 33) hx hb d_Second_suffixOf_14 (by decide) (fun hc1 => ?_) (fun hc1 => ?_)
  · refine lv_iconst (v := 0) hx hb d_Second_suffixOf_33 (by decide) ?_
    refine lv_istore (lv' := [(5, .int 0), (4, .int v1), (3, .ref (ad 50)), (0, .ref (ad 8)), (1, .int v1), (2, .int v2)]) hx hb d_Second_suffixOf_34 hl (by decide) rfl (fun ls hl => ?_)
    refine lv_iload hx hb d_Second_suffixOf_36 (lv_at hl 1 rfl) ?_
    show W _ _ _ _ _ _ _ _ _ _ _ _ _ _ _ (F0 _ 38 _ _)
    refine lv_iload hx hb d_Second_suffixOf_38 (lv_at hl 0 rfl) ?_
    refine lv_if_eq (tgt := 47) hx hb d_Second_suffixOf_40 (by decide) (fun _ => ?_) (fun h9 => absurd (by decide) h9)
    refine lv_iconst (v := 0) hx hb d_Second_suffixOf_47 (by decide) ?_
    refine lv_iadd hx hb d_Second_suffixOf_48 ?_
    refine lv_istore (lv' := [(4, .int (v1 + (0 : Int32))), (5, .int 0), (3, .ref (ad 50)), (0, .ref (ad 8)), (1, .int v1), (2, .int v2)]) hx hb d_Second_suffixOf_49 hl (by decide) rfl (fun ls hl => ?_)
    refine lv_iload hx hb d_Second_suffixOf_51 (lv_at hl 0 rfl) ?_
    refine lv_iload_n hx hb d_Second_suffixOf_53 rfl (lv_at hl 5 rfl) ?_
    refine lv_icmp_ge (tgt := 100) hx hb d_Second_suffixOf_54 (by decide) (fun hc2 => ?_) (fun hc2 => ?_)
    · refine lv_iload hx hb d_Second_suffixOf_100 (lv_at hl 1 rfl) ?_
      refine lv_if_ne (tgt := 129) hx hb d_Second_suffixOf_102 (by decide) (fun h9 => absurd (by decide) h9) (fun _ => ?_)
      refine lv_iload hx hb d_Second_suffixOf_105 (lv_at hl 0 rfl) ?_
      refine lv_iload_n hx hb d_Second_suffixOf_107 rfl (lv_at hl 5 rfl) ?_
      refine lv_icmp_ge (tgt := 129) hx hb d_Second_suffixOf_108 (by decide) (fun _ => ?_) (fun h9 => absurd hc2 h9)
      refine lv_iload hx hb d_Second_suffixOf_129 (lv_at hl 0 rfl) ?_
      show W _ _ _ _ _ _ _ _ _ _ _ _ _ _ _ (F0 _ 131 _ _)
      refine lv_iload_n hx hb d_Second_suffixOf_131 rfl (lv_at hl 5 rfl) ?_
      refine lv_icmp_ge (tgt := 139) hx hb d_Second_suffixOf_132 (by decide) (fun _ => ?_) (fun h9 => absurd hc2 h9)
      refine lv_iload hx hb d_Second_suffixOf_139 (lv_at hl 1 rfl) ?_
      refine lv_if_eq (tgt := 148) hx hb d_Second_suffixOf_141 (by decide) (fun _ => ?_) (fun h9 => absurd (by decide) h9)
      refine lv_iconst (v := 0) hx hb d_Second_suffixOf_148 (by decide) ?_
      exact fin_i (g := g) (ws := Sw shC g ad S) (v := 0) hx hb hr hlocks (by decide +kernel) (by decide +kernel) hP hD hS ⟨_, rfl, (by unfold r_Second_suffixOf; rw [if_pos hc1, if_pos hc2]), rfl⟩ d_Second_suffixOf_149
    · refine lv_aload_n hx hb d_Second_suffixOf_57 rfl (lv_at hl 2 rfl) ?_
      refine lv_iload hx hb d_Second_suffixOf_58 (lv_at hl 0 rfl) ?_
      refine S_bald (h := shC) (i := v1 + (0 : Int32)) hx hb hK hP 37 rfl (hb0 hc1 hc2) d_Second_suffixOf_60 ?_
      refine lv_bipush (v := 32) hx hb d_Second_suffixOf_61 (by decide) ?_
      refine lv_ior hx hb d_Second_suffixOf_63 ?_
      show W _ _ _ _ _ _ _ _ _ _ _ _ _ _ _ (F0 _ 64 _ _)
      refine lv_bipush (v := 108) hx hb d_Second_suffixOf_64 (by decide) ?_
      refine lv_icmp_ne (tgt := 100) hx hb d_Second_suffixOf_66 (by decide) (fun hc3 => ?_) (fun hc3 => ?_)
      · refine lv_iload hx hb d_Second_suffixOf_100 (lv_at hl 1 rfl) ?_
        refine lv_if_ne (tgt := 129) hx hb d_Second_suffixOf_102 (by decide) (fun h9 => absurd (by decide) h9) (fun _ => ?_)
        refine lv_iload hx hb d_Second_suffixOf_105 (lv_at hl 0 rfl) ?_
        refine lv_iload_n hx hb d_Second_suffixOf_107 rfl (lv_at hl 5 rfl) ?_
        refine lv_icmp_ge (tgt := 129) hx hb d_Second_suffixOf_108 (by decide) (fun h9 => absurd h9 hc2) (fun _ => ?_)
        refine lv_aload_n hx hb d_Second_suffixOf_111 rfl (lv_at hl 2 rfl) ?_
        refine lv_iload hx hb d_Second_suffixOf_112 (lv_at hl 0 rfl) ?_
        refine S_bald (h := shC) (i := v1 + (0 : Int32)) hx hb hK hP 37 rfl (hb1 hc1 hc2 hc3) d_Second_suffixOf_114 ?_
        refine lv_bipush (v := 32) hx hb d_Second_suffixOf_115 (by decide) ?_
        refine lv_ior hx hb d_Second_suffixOf_117 ?_
        refine lv_bipush (v := 117) hx hb d_Second_suffixOf_118 (by decide) ?_
        refine lv_icmp_ne (tgt := 129) hx hb d_Second_suffixOf_120 (by decide) (fun hc4 => ?_) (fun hc4 => ?_)
        · refine lv_iload hx hb d_Second_suffixOf_129 (lv_at hl 0 rfl) ?_
          show W _ _ _ _ _ _ _ _ _ _ _ _ _ _ _ (F0 _ 131 _ _)
          refine lv_iload_n hx hb d_Second_suffixOf_131 rfl (lv_at hl 5 rfl) ?_
          refine lv_icmp_ge (tgt := 139) hx hb d_Second_suffixOf_132 (by decide) (fun h9 => absurd h9 hc2) (fun _ => ?_)
          refine lv_iconst (v := (-1)) hx hb d_Second_suffixOf_135 (by decide) ?_
          refine lv_goto (tgt := 149) hx hb d_Second_suffixOf_136 (by decide) ?_
          exact fin_i (g := g) (ws := Sw shC g ad S) (v := (-1)) hx hb hr hlocks (by decide +kernel) (by decide +kernel) hP hD hS ⟨_, rfl, (by unfold r_Second_suffixOf; rw [if_pos hc1, if_neg hc2, if_neg hc3, if_neg hc4]), rfl⟩ d_Second_suffixOf_149
        · refine lv_iconst (v := 1) hx hb d_Second_suffixOf_123 (by decide) ?_
          show W _ _ _ _ _ _ _ _ _ _ _ _ _ _ _ (F0 _ 124 _ _)
          refine lv_istore (lv' := [(5, .int 1), (4, .int (v1 + (0 : Int32))), (3, .ref (ad 50)), (0, .ref (ad 8)), (1, .int v1), (2, .int v2)]) hx hb d_Second_suffixOf_124 hl (by decide) rfl (fun ls hl => ?_)
          refine lv_iinc (k := 1) (v := (v1 + (0 : Int32)) + 1) (lv' := [(4, .int ((v1 + (0 : Int32)) + 1)), (5, .int 1), (3, .ref (ad 50)), (0, .ref (ad 8)), (1, .int v1), (2, .int v2)]) hx hb d_Second_suffixOf_126 hl rfl rfl (by decide) rfl (fun ls hl => ?_)
          refine lv_iload hx hb d_Second_suffixOf_129 (lv_at hl 0 rfl) ?_
          refine lv_iload_n hx hb d_Second_suffixOf_131 rfl (lv_at hl 5 rfl) ?_
          refine lv_icmp_ge (tgt := 139) hx hb d_Second_suffixOf_132 (by decide) (fun hc5 => ?_) (fun hc5 => ?_)
          · refine lv_iload hx hb d_Second_suffixOf_139 (lv_at hl 1 rfl) ?_
            refine lv_if_eq (tgt := 148) hx hb d_Second_suffixOf_141 (by decide) (fun h9 => absurd h9 (by decide)) (fun _ => ?_)
            refine lv_iconst (v := 1) hx hb d_Second_suffixOf_144 (by decide) ?_
            refine lv_goto (tgt := 149) hx hb d_Second_suffixOf_145 (by decide) ?_
            exact fin_i (g := g) (ws := Sw shC g ad S) (v := 1) hx hb hr hlocks (by decide +kernel) (by decide +kernel) hP hD hS ⟨_, rfl, (by unfold r_Second_suffixOf; rw [if_pos hc1, if_neg hc2, if_neg hc3, if_pos hc4, if_pos hc5]), rfl⟩ d_Second_suffixOf_149
          · refine lv_iconst (v := (-1)) hx hb d_Second_suffixOf_135 (by decide) ?_
            refine lv_goto (tgt := 149) hx hb d_Second_suffixOf_136 (by decide) ?_
            exact fin_i (g := g) (ws := Sw shC g ad S) (v := (-1)) hx hb hr hlocks (by decide +kernel) (by decide +kernel) hP hD hS ⟨_, rfl, (by unfold r_Second_suffixOf; rw [if_pos hc1, if_neg hc2, if_neg hc3, if_pos hc4, if_neg hc5]), rfl⟩ d_Second_suffixOf_149
      · refine lv_iload hx hb d_Second_suffixOf_69 (lv_at hl 0 rfl) ?_
        refine lv_iload hx hb d_Second_suffixOf_71 (lv_at hl 0 rfl) ?_
        refine lv_iconst (v := 1) hx hb d_Second_suffixOf_73 (by decide) ?_
        refine lv_iadd hx hb d_Second_suffixOf_74 ?_
        refine lv_iload_n hx hb d_Second_suffixOf_75 rfl (lv_at hl 5 rfl) ?_
        refine lv_icmp_ge (tgt := 96) hx hb d_Second_suffixOf_76 (by decide) (fun hc6 => ?_) (fun hc6 => ?_)
        · refine lv_iconst (v := 1) hx hb d_Second_suffixOf_96 (by decide) ?_
          refine lv_iadd hx hb d_Second_suffixOf_97 ?_
          refine lv_istore (lv' := [(4, .int ((v1 + (0 : Int32)) + (1 : Int32))), (5, .int 0), (3, .ref (ad 50)), (0, .ref (ad 8)), (1, .int v1), (2, .int v2)]) hx hb d_Second_suffixOf_98 hl (by decide) rfl (fun ls hl => ?_)
          refine lv_iload hx hb d_Second_suffixOf_100 (lv_at hl 1 rfl) ?_
          refine lv_if_ne (tgt := 129) hx hb d_Second_suffixOf_102 (by decide) (fun h9 => absurd (by decide) h9) (fun _ => ?_)
          refine lv_iload hx hb d_Second_suffixOf_105 (lv_at hl 0 rfl) ?_
          show W _ _ _ _ _ _ _ _ _ _ _ _ _ _ _ (F0 _ 107 _ _)
          refine lv_iload_n hx hb d_Second_suffixOf_107 rfl (lv_at hl 5 rfl) ?_
          refine lv_icmp_ge (tgt := 129) hx hb d_Second_suffixOf_108 (by decide) (fun _ => ?_) (fun h9 => absurd hc6 h9)
          refine lv_iload hx hb d_Second_suffixOf_129 (lv_at hl 0 rfl) ?_
          refine lv_iload_n hx hb d_Second_suffixOf_131 rfl (lv_at hl 5 rfl) ?_
          refine lv_icmp_ge (tgt := 139) hx hb d_Second_suffixOf_132 (by decide) (fun _ => ?_) (fun h9 => absurd hc6 h9)
          refine lv_iload hx hb d_Second_suffixOf_139 (lv_at hl 1 rfl) ?_
          refine lv_if_eq (tgt := 148) hx hb d_Second_suffixOf_141 (by decide) (fun _ => ?_) (fun h9 => absurd (by decide) h9)
          refine lv_iconst (v := 0) hx hb d_Second_suffixOf_148 (by decide) ?_
          exact fin_i (g := g) (ws := Sw shC g ad S) (v := 0) hx hb hr hlocks (by decide +kernel) (by decide +kernel) hP hD hS ⟨_, rfl, (by unfold r_Second_suffixOf; rw [if_pos hc1, if_neg hc2, if_pos hc3, if_pos hc6]), rfl⟩ d_Second_suffixOf_149
        · refine lv_aload_n hx hb d_Second_suffixOf_79 rfl (lv_at hl 2 rfl) ?_
          refine lv_iload hx hb d_Second_suffixOf_80 (lv_at hl 0 rfl) ?_
          refine lv_iconst (v := 1) hx hb d_Second_suffixOf_82 (by decide) ?_
          refine lv_iadd hx hb d_Second_suffixOf_83 ?_
          refine S_bald (h := shC) (i := (v1 + (0 : Int32)) + (1 : Int32)) hx hb hK hP 37 rfl (hb2 hc1 hc2 hc3 hc6) d_Second_suffixOf_84 ?_
          refine lv_aload_n hx hb d_Second_suffixOf_85 rfl (lv_at hl 2 rfl) ?_
          show W _ _ _ _ _ _ _ _ _ _ _ _ _ _ _ (F0 _ 86 _ _)
          refine lv_iload hx hb d_Second_suffixOf_86 (lv_at hl 0 rfl) ?_
          refine S_bald (h := shC) (i := v1 + (0 : Int32)) hx hb hK hP 37 rfl (hb3 hc1 hc2 hc3 hc6) d_Second_suffixOf_88 ?_
          refine lv_icmp_ne (tgt := 96) hx hb d_Second_suffixOf_89 (by decide) (fun hc7 => ?_) (fun hc7 => ?_)
          · refine lv_iconst (v := 1) hx hb d_Second_suffixOf_96 (by decide) ?_
            refine lv_iadd hx hb d_Second_suffixOf_97 ?_
            refine lv_istore (lv' := [(4, .int ((v1 + (0 : Int32)) + (1 : Int32))), (5, .int 0), (3, .ref (ad 50)), (0, .ref (ad 8)), (1, .int v1), (2, .int v2)]) hx hb d_Second_suffixOf_98 hl (by decide) rfl (fun ls hl => ?_)
            refine lv_iload hx hb d_Second_suffixOf_100 (lv_at hl 1 rfl) ?_
            refine lv_if_ne (tgt := 129) hx hb d_Second_suffixOf_102 (by decide) (fun h9 => absurd (by decide) h9) (fun _ => ?_)
            refine lv_iload hx hb d_Second_suffixOf_105 (lv_at hl 0 rfl) ?_
            refine lv_iload_n hx hb d_Second_suffixOf_107 rfl (lv_at hl 5 rfl) ?_
            refine lv_icmp_ge (tgt := 129) hx hb d_Second_suffixOf_108 (by decide) (fun h9 => absurd h9 hc6) (fun _ => ?_)
            refine lv_aload_n hx hb d_Second_suffixOf_111 rfl (lv_at hl 2 rfl) ?_
            refine lv_iload hx hb d_Second_suffixOf_112 (lv_at hl 0 rfl) ?_
            refine S_bald (h := shC) (i := (v1 + (0 : Int32)) + (1 : Int32)) hx hb hK hP 37 rfl (hb4 hc1 hc2 hc3 hc6 hc7) d_Second_suffixOf_114 ?_
            show W _ _ _ _ _ _ _ _ _ _ _ _ _ _ _ (F0 _ 115 _ _)
            refine lv_bipush (v := 32) hx hb d_Second_suffixOf_115 (by decide) ?_
            refine lv_ior hx hb d_Second_suffixOf_117 ?_
            refine lv_bipush (v := 117) hx hb d_Second_suffixOf_118 (by decide) ?_
            refine lv_icmp_ne (tgt := 129) hx hb d_Second_suffixOf_120 (by decide) (fun hc8 => ?_) (fun hc8 => ?_)
            · refine lv_iload hx hb d_Second_suffixOf_129 (lv_at hl 0 rfl) ?_
              refine lv_iload_n hx hb d_Second_suffixOf_131 rfl (lv_at hl 5 rfl) ?_
              refine lv_icmp_ge (tgt := 139) hx hb d_Second_suffixOf_132 (by decide) (fun h9 => absurd h9 hc6) (fun _ => ?_)
              refine lv_iconst (v := (-1)) hx hb d_Second_suffixOf_135 (by decide) ?_
              refine lv_goto (tgt := 149) hx hb d_Second_suffixOf_136 (by decide) ?_
              exact fin_i (g := g) (ws := Sw shC g ad S) (v := (-1)) hx hb hr hlocks (by decide +kernel) (by decide +kernel) hP hD hS ⟨_, rfl, (by unfold r_Second_suffixOf; rw [if_pos hc1, if_neg hc2, if_pos hc3, if_neg hc6, if_neg hc7, if_neg hc8]), rfl⟩ d_Second_suffixOf_149
            · refine lv_iconst (v := 1) hx hb d_Second_suffixOf_123 (by decide) ?_
              refine lv_istore (lv' := [(5, .int 1), (4, .int ((v1 + (0 : Int32)) + (1 : Int32))), (3, .ref (ad 50)), (0, .ref (ad 8)), (1, .int v1), (2, .int v2)]) hx hb d_Second_suffixOf_124 hl (by decide) rfl (fun ls hl => ?_)
              refine lv_iinc (k := 1) (v := ((v1 + (0 : Int32)) + (1 : Int32)) + 1) (lv' := [(4, .int (((v1 + (0 : Int32)) + (1 : Int32)) + 1)), (5, .int 1), (3, .ref (ad 50)), (0, .ref (ad 8)), (1, .int v1), (2, .int v2)]) hx hb d_Second_suffixOf_126 hl rfl rfl (by decide) rfl (fun ls hl => ?_)
              refine lv_iload hx hb d_Second_suffixOf_129 (lv_at hl 0 rfl) ?_
              refine lv_iload_n hx hb d_Second_suffixOf_131 rfl (lv_at hl 5 rfl) ?_
              refine lv_icmp_ge (tgt := 139) hx hb d_Second_suffixOf_132 (by decide) (fun hc9 => ?_) (fun hc9 => ?_)
              · refine lv_iload hx hb d_Second_suffixOf_139 (lv_at hl 1 rfl) ?_
                refine lv_if_eq (tgt := 148) hx hb d_Second_suffixOf_141 (by decide) (fun h9 => absurd h9 (by decide)) (fun _ => ?_)
                refine lv_iconst (v := 1) hx hb d_Second_suffixOf_144 (by decide) ?_
                refine lv_goto (tgt := 149) hx hb d_Second_suffixOf_145 (by decide) ?_
                show W _ _ _ _ _ _ _ _ _ _ _ _ _ _ _ (F0 _ 149 _ _)
                exact fin_i (g := g) (ws := Sw shC g ad S) (v := 1) hx hb hr hlocks (by decide +kernel) (by decide +kernel) hP hD hS ⟨_, rfl, (by unfold r_Second_suffixOf; rw [if_pos hc1, if_neg hc2, if_pos hc3, if_neg hc6, if_neg hc7, if_pos hc8, if_pos hc9]), rfl⟩ d_Second_suffixOf_149
              · refine lv_iconst (v := (-1)) hx hb d_Second_suffixOf_135 (by decide) ?_
                refine lv_goto (tgt := 149) hx hb d_Second_suffixOf_136 (by decide) ?_
                exact fin_i (g := g) (ws := Sw shC g ad S) (v := (-1)) hx hb hr hlocks (by decide +kernel) (by decide +kernel) hP hD hS ⟨_, rfl, (by unfold r_Second_suffixOf; rw [if_pos hc1, if_neg hc2, if_pos hc3, if_neg hc6, if_neg hc7, if_pos hc8, if_neg hc9]), rfl⟩ d_Second_suffixOf_149
          · refine lv_iconst (v := 2) hx hb d_Second_suffixOf_92 (by decide) ?_
            refine lv_goto (tgt := 97) hx hb d_Second_suffixOf_93 (by decide) ?_
            refine lv_iadd hx hb d_Second_suffixOf_97 ?_
            refine lv_istore (lv' := [(4, .int ((v1 + (0 : Int32)) + (2 : Int32))), (5, .int 0), (3, .ref (ad 50)), (0, .ref (ad 8)), (1, .int v1), (2, .int v2)]) hx hb d_Second_suffixOf_98 hl (by decide) rfl (fun ls hl => ?_)
            refine lv_iload hx hb d_Second_suffixOf_100 (lv_at hl 1 rfl) ?_
            refine lv_if_ne (tgt := 129) hx hb d_Second_suffixOf_102 (by decide) (fun h9 => absurd (by decide) h9) (fun _ => ?_)
            refine lv_iload hx hb d_Second_suffixOf_105 (lv_at hl 0 rfl) ?_
            refine lv_iload_n hx hb d_Second_suffixOf_107 rfl (lv_at hl 5 rfl) ?_
            refine lv_icmp_ge (tgt := 129) hx hb d_Second_suffixOf_108 (by decide) (fun hc10 => ?_) (fun hc10 => ?_)
            · refine lv_iload hx hb d_Second_suffixOf_129 (lv_at hl 0 rfl) ?_
              refine lv_iload_n hx hb d_Second_suffixOf_131 rfl (lv_at hl 5 rfl) ?_
              refine lv_icmp_ge (tgt := 139) hx hb d_Second_suffixOf_132 (by decide) (fun _ => ?_) (fun h9 => absurd hc10 h9)
              show W _ _ _ _ _ _ _ _ _ _ _ _ _ _ _ (F0 _ 139 _ _)
              refine lv_iload hx hb d_Second_suffixOf_139 (lv_at hl 1 rfl) ?_
              refine lv_if_eq (tgt := 148) hx hb d_Second_suffixOf_141 (by decide) (fun _ => ?_) (fun h9 => absurd (by decide) h9)
              refine lv_iconst (v := 0) hx hb d_Second_suffixOf_148 (by decide) ?_
              exact fin_i (g := g) (ws := Sw shC g ad S) (v := 0) hx hb hr hlocks (by decide +kernel) (by decide +kernel) hP hD hS ⟨_, rfl, (by unfold r_Second_suffixOf; rw [if_pos hc1, if_neg hc2, if_pos hc3, if_neg hc6, if_pos hc7, if_pos hc10]), rfl⟩ d_Second_suffixOf_149
            · refine lv_aload_n hx hb d_Second_suffixOf_111 rfl (lv_at hl 2 rfl) ?_
              refine lv_iload hx hb d_Second_suffixOf_112 (lv_at hl 0 rfl) ?_
              show W _ _ _ _ _ _ _ _ _ _ _ _ _ _ _ (F0 _ 114 _ _)
              refine S_bald (h := shC) (i := (v1 + (0 : Int32)) + (2 : Int32)) hx hb hK hP 37 rfl (hb5 hc1 hc2 hc3 hc6 hc7 hc10) d_Second_suffixOf_114 ?_
              refine lv_bipush (v := 32) hx hb d_Second_suffixOf_115 (by decide) ?_
              refine lv_ior hx hb d_Second_suffixOf_117 ?_
              refine lv_bipush (v := 117) hx hb d_Second_suffixOf_118 (by decide) ?_
              refine lv_icmp_ne (tgt := 129) hx hb d_Second_suffixOf_120 (by decide) (fun hc11 => ?_) (fun hc11 => ?_)
              · refine lv_iload hx hb d_Second_suffixOf_129 (lv_at hl 0 rfl) ?_
                refine lv_iload_n hx hb d_Second_suffixOf_131 rfl (lv_at hl 5 rfl) ?_
                refine lv_icmp_ge (tgt := 139) hx hb d_Second_suffixOf_132 (by decide) (fun h9 => absurd h9 hc10) (fun _ => ?_)
                refine lv_iconst (v := (-1)) hx hb d_Second_suffixOf_135 (by decide) ?_
                refine lv_goto (tgt := 149) hx hb d_Second_suffixOf_136 (by decide) ?_
                exact fin_i (g := g) (ws := Sw shC g ad S) (v := (-1)) hx hb hr hlocks (by decide +kernel) (by decide +kernel) hP hD hS ⟨_, rfl, (by unfold r_Second_suffixOf; rw [if_pos hc1, if_neg hc2, if_pos hc3, if_neg hc6, if_pos hc7, if_neg hc10, if_neg hc11]), rfl⟩ d_Second_suffixOf_149
              · refine lv_iconst (v := 1) hx hb d_Second_suffixOf_123 (by decide) ?_
                refine lv_istore (lv' := [(5, .int 1), (4, .int ((v1 + (0 : Int32)) + (2 : Int32))), (3, .ref (ad 50)), (0, .ref (ad 8)), (1, .int v1), (2, .int v2)]) hx hb d_Second_suffixOf_124 hl (by decide) rfl (fun ls hl => ?_)
                refine lv_iinc (k := 1) (v := ((v1 + (0 : Int32)) + (2 : Int32)) + 1) (lv' := [(4, .int (((v1 + (0 : Int32)) + (2 : Int32)) + 1)), (5, .int 1), (3, .ref (ad 50)), (0, .ref (ad 8)), (1, .int v1), (2, .int v2)]) hx hb d_Second_suffixOf_126 hl rfl rfl (by decide) rfl (fun ls hl => ?_)
                refine lv_iload hx hb d_Second_suffixOf_129 (lv_at hl 0 rfl) ?_
                refine lv_iload_n hx hb d_Second_suffixOf_131 rfl (lv_at hl 5 rfl) ?_
                refine lv_icmp_ge (tgt := 139) hx hb d_Second_suffixOf_132 (by decide) (fun hc12 => ?_) (fun hc12 => ?_)
                · refine lv_iload hx hb d_Second_suffixOf_139 (lv_at hl 1 rfl) ?_
                  refine lv_if_eq (tgt := 148) hx hb d_Second_suffixOf_141 (by decide) (fun h9 => absurd h9 (by decide)) (fun _ => ?_)
                  refine lv_iconst (v := 1) hx hb d_Second_suffixOf_144 (by decide) ?_
                  show W _ _ _ _ _ _ _ _ _ _ _ _ _ _ _ (F0 _ 145 _ _)
                  refine lv_goto (tgt := 149) hx hb d_Second_suffixOf_145 (by decide) ?_
                  exact fin_i (g := g) (ws := Sw shC g ad S) (v := 1) hx hb hr hlocks (by decide +kernel) (by decide +kernel) hP hD hS ⟨_, rfl, (by unfold r_Second_suffixOf; rw [if_pos hc1, if_neg hc2, if_pos hc3, if_neg hc6, if_pos hc7, if_neg hc10, if_pos hc11, if_pos hc12]), rfl⟩ d_Second_suffixOf_149
                · refine lv_iconst (v := (-1)) hx hb d_Second_suffixOf_135 (by decide) ?_
                  refine lv_goto (tgt := 149) hx hb d_Second_suffixOf_136 (by decide) ?_
                  exact fin_i (g := g) (ws := Sw shC g ad S) (v := (-1)) hx hb hr hlocks (by decide +kernel) (by decide +kernel) hP hD hS ⟨_, rfl, (by unfold r_Second_suffixOf; rw [if_pos hc1, if_neg hc2, if_pos hc3, if_neg hc6, if_pos hc7, if_neg hc10, if_pos hc11, if_neg hc12]), rfl⟩ d_Second_suffixOf_149
  · refine lv_aload_n hx hb d_Second_suffixOf_17 rfl (lv_at hl 1 rfl) ?_
    refine lv_iload hx hb d_Second_suffixOf_18 (lv_at hl 0 rfl) ?_
    refine S_bald (h := shC) (i := v1) hx hb hK hP 37 rfl (hb6 hc1) d_Second_suffixOf_20 ?_
    show W _ _ _ _ _ _ _ _ _ _ _ _ _ _ _ (F0 _ 21 _ _)
    refine lv_bipush (v := 32) hx hb d_Second_suffixOf_21 (by decide) ?_
    refine lv_ior hx hb d_Second_suffixOf_23 ?_
    refine lv_bipush (v := 117) hx hb d_Second_suffixOf_24 (by decide) ?_
    refine lv_icmp_ne (tgt := 33) hx hb d_Second_suffixOf_26 (by decide) (fun hc13 => ?_) (fun hc13 => ?_)
    · refine lv_iconst (v := 0) hx hb d_Second_suffixOf_33 (by decide) ?_
      refine lv_istore (lv' := [(5, .int 0), (4, .int v1), (3, .ref (ad 50)), (0, .ref (ad 8)), (1, .int v1), (2, .int v2)]) hx hb d_Second_suffixOf_34 hl (by decide) rfl (fun ls hl => ?_)
      refine lv_iload hx hb d_Second_suffixOf_36 (lv_at hl 1 rfl) ?_
      refine lv_iload hx hb d_Second_suffixOf_38 (lv_at hl 0 rfl) ?_
      refine lv_if_eq (tgt := 47) hx hb d_Second_suffixOf_40 (by decide) (fun _ => ?_) (fun h9 => absurd (by decide) h9)
      refine lv_iconst (v := 0) hx hb d_Second_suffixOf_47 (by decide) ?_
      refine lv_iadd hx hb d_Second_suffixOf_48 ?_
      refine lv_istore (lv' := [(4, .int (v1 + (0 : Int32))), (5, .int 0), (3, .ref (ad 50)), (0, .ref (ad 8)), (1, .int v1), (2, .int v2)]) hx hb d_Second_suffixOf_49 hl (by decide) rfl (fun ls hl => ?_)
      refine lv_iload hx hb d_Second_suffixOf_51 (lv_at hl 0 rfl) ?_
      show W _ _ _ _ _ _ _ _ _ _ _ _ _ _ _ (F0 _ 53 _ _)
      refine lv_iload_n hx hb d_Second_suffixOf_53 rfl (lv_at hl 5 rfl) ?_
      refine lv_icmp_ge (tgt := 100) hx hb d_Second_suffixOf_54 (by decide) (fun hc14 => ?_) (fun hc14 => ?_)
      · refine lv_iload hx hb d_Second_suffixOf_100 (lv_at hl 1 rfl) ?_
        refine lv_if_ne (tgt := 129) hx hb d_Second_suffixOf_102 (by decide) (fun h9 => absurd (by decide) h9) (fun _ => ?_)
        refine lv_iload hx hb d_Second_suffixOf_105 (lv_at hl 0 rfl) ?_
        refine lv_iload_n hx hb d_Second_suffixOf_107 rfl (lv_at hl 5 rfl) ?_
        refine lv_icmp_ge (tgt := 129) hx hb d_Second_suffixOf_108 (by decide) (fun _ => ?_) (fun h9 => absurd hc14 h9)
        refine lv_iload hx hb d_Second_suffixOf_129 (lv_at hl 0 rfl) ?_
        refine lv_iload_n hx hb d_Second_suffixOf_131 rfl (lv_at hl 5 rfl) ?_
        refine lv_icmp_ge (tgt := 139) hx hb d_Second_suffixOf_132 (by decide) (fun _ => ?_) (fun h9 => absurd hc14 h9)
        refine lv_iload hx hb d_Second_suffixOf_139 (lv_at hl 1 rfl) ?_
        refine lv_if_eq (tgt := 148) hx hb d_Second_suffixOf_141 (by decide) (fun _ => ?_) (fun h9 => absurd (by decide) h9)
        refine lv_iconst (v := 0) hx hb d_Second_suffixOf_148 (by decide) ?_
        exact fin_i (g := g) (ws := Sw shC g ad S) (v := 0) hx hb hr hlocks (by decide +kernel) (by decide +kernel) hP hD hS ⟨_, rfl, (by unfold r_Second_suffixOf; rw [if_neg hc1, if_neg hc13, if_pos hc14]), rfl⟩ d_Second_suffixOf_149
      · refine lv_aload_n hx hb d_Second_suffixOf_57 rfl (lv_at hl 2 rfl) ?_
        refine lv_iload hx hb d_Second_suffixOf_58 (lv_at hl 0 rfl) ?_
        refine S_bald (h := shC) (i := v1 + (0 : Int32)) hx hb hK hP 37 rfl (hb7 hc1 hc13 hc14) d_Second_suffixOf_60 ?_
        refine lv_bipush (v := 32) hx hb d_Second_suffixOf_61 (by decide) ?_
        refine lv_ior hx hb d_Second_suffixOf_63 ?_
        refine lv_bipush (v := 108) hx hb d_Second_suffixOf_64 (by decide) ?_
        refine lv_icmp_ne (tgt := 100) hx hb d_Second_suffixOf_66 (by decide) (fun hc15 => ?_) (fun hc15 => ?_)
        · refine lv_iload hx hb d_Second_suffixOf_100 (lv_at hl 1 rfl) ?_
          refine lv_if_ne (tgt := 129) hx hb d_Second_suffixOf_102 (by decide) (fun h9 => absurd (by decide) h9) (fun _ => ?_)
          refine lv_iload hx hb d_Second_suffixOf_105 (lv_at hl 0 rfl) ?_
          refine lv_iload_n hx hb d_Second_suffixOf_107 rfl (lv_at hl 5 rfl) ?_
          refine lv_icmp_ge (tgt := 129) hx hb d_Second_suffixOf_108 (by decide) (fun h9 => absurd h9 hc14) (fun _ => ?_)
          refine lv_aload_n hx hb d_Second_suffixOf_111 rfl (lv_at hl 2 rfl) ?_
          show W _ _ _ _ _ _ _ _ _ _ _ _ _ _ _ (F0 _ 112 _ _)
          refine lv_iload hx hb d_Second_suffixOf_112 (lv_at hl 0 rfl) ?_
          refine S_bald (h := shC) (i := v1 + (0 : Int32)) hx hb hK hP 37 rfl (hb8 hc1 hc13 hc14 hc15) d_Second_suffixOf_114 ?_
          refine lv_bipush (v := 32) hx hb d_Second_suffixOf_115 (by decide) ?_
          refine lv_ior hx hb d_Second_suffixOf_117 ?_
          refine lv_bipush (v := 117) hx hb d_Second_suffixOf_118 (by decide) ?_
          refine lv_icmp_ne (tgt := 129) hx hb d_Second_suffixOf_120 (by decide) (fun hc16 => ?_) (fun hc16 => ?_)
          · refine lv_iload hx hb d_Second_suffixOf_129 (lv_at hl 0 rfl) ?_
            refine lv_iload_n hx hb d_Second_suffixOf_131 rfl (lv_at hl 5 rfl) ?_
            refine lv_icmp_ge (tgt := 139) hx hb d_Second_suffixOf_132 (by decide) (fun h9 => absurd h9 hc14) (fun _ => ?_)
            refine lv_iconst (v := (-1)) hx hb d_Second_suffixOf_135 (by decide) ?_
            refine lv_goto (tgt := 149) hx hb d_Second_suffixOf_136 (by decide) ?_
            exact fin_i (g := g) (ws := Sw shC g ad S) (v := (-1)) hx hb hr hlocks (by decide +kernel) (by decide +kernel) hP hD hS ⟨_, rfl, (by unfold r_Second_suffixOf; rw [if_neg hc1, if_neg hc13, if_neg hc14, if_neg hc15, if_neg hc16]), rfl⟩ d_Second_suffixOf_149
          · refine lv_iconst (v := 1) hx hb d_Second_suffixOf_123 (by decide) ?_
            refine lv_istore (lv' := [(5, .int 1), (4, .int (v1 + (0 : Int32))), (3, .ref (ad 50)), (0, .ref (ad 8)), (1, .int v1), (2, .int v2)]) hx hb d_Second_suffixOf_124 hl (by decide) rfl (fun ls hl => ?_)
            refine lv_iinc (k := 1) (v := (v1 + (0 : Int32)) + 1) (lv' := [(4, .int ((v1 + (0 : Int32)) + 1)), (5, .int 1), (3, .ref (ad 50)), (0, .ref (ad 8)), (1, .int v1), (2, .int v2)]) hx hb d_Second_suffixOf_126 hl rfl rfl (by decide) rfl (fun ls hl => ?_)
            refine lv_iload hx hb d_Second_suffixOf_129 (lv_at hl 0 rfl) ?_
            refine lv_iload_n hx hb d_Second_suffixOf_131 rfl (lv_at hl 5 rfl) ?_
            refine lv_icmp_ge (tgt := 139) hx hb d_Second_suffixOf_132 (by decide) (fun hc17 => ?_) (fun hc17 => ?_)
            · refine lv_iload hx hb d_Second_suffixOf_139 (lv_at hl 1 rfl) ?_
              refine lv_if_eq (tgt := 148) hx hb d_Second_suffixOf_141 (by decide) (fun h9 => absurd h9 (by decide)) (fun _ => ?_)
              show W _ _ _ _ _ _ _ _ _ _ _ _ _ _ _ (F0 _ 144 _ _)
              refine lv_iconst (v := 1) hx hb d_Second_suffixOf_144 (by decide) ?_
              refine lv_goto (tgt := 149) hx hb d_Second_suffixOf_145 (by decide) ?_
              exact fin_i (g := g) (ws := Sw shC g ad S) (v := 1) hx hb hr hlocks (by decide +kernel) (by decide +kernel) hP hD hS ⟨_, rfl, (by unfold r_Second_suffixOf; rw [if_neg hc1, if_neg hc13, if_neg hc14, if_neg hc15, if_pos hc16, if_pos hc17]), rfl⟩ d_Second_suffixOf_149
            · refine lv_iconst (v := (-1)) hx hb d_Second_suffixOf_135 (by decide) ?_
              refine lv_goto (tgt := 149) hx hb d_Second_suffixOf_136 (by decide) ?_
              show W _ _ _ _ _ _ _ _ _ _ _ _ _ _ _ (F0 _ 149 _ _)
              exact fin_i (g := g) (ws := Sw shC g ad S) (v := (-1)) hx hb hr hlocks (by decide +kernel) (by decide +kernel) hP hD hS ⟨_, rfl, (by unfold r_Second_suffixOf; rw [if_neg hc1, if_neg hc13, if_neg hc14, if_neg hc15, if_pos hc16, if_neg hc17]), rfl⟩ d_Second_suffixOf_149
        · refine lv_iload hx hb d_Second_suffixOf_69 (lv_at hl 0 rfl) ?_
          refine lv_iload hx hb d_Second_suffixOf_71 (lv_at hl 0 rfl) ?_
          refine lv_iconst (v := 1) hx hb d_Second_suffixOf_73 (by decide) ?_
          refine lv_iadd hx hb d_Second_suffixOf_74 ?_
          refine lv_iload_n hx hb d_Second_suffixOf_75 rfl (lv_at hl 5 rfl) ?_
          refine lv_icmp_ge (tgt := 96) hx hb d_Second_suffixOf_76 (by decide) (fun hc18 => ?_) (fun hc18 => ?_)
          · show W _ _ _ _ _ _ _ _ _ _ _ _ _ _ _ (F0 _ 96 _ _)
            refine lv_iconst (v := 1) hx hb d_Second_suffixOf_96 (by decide) ?_
            refine lv_iadd hx hb d_Second_suffixOf_97 ?_
            refine lv_istore (lv' := [(4, .int ((v1 + (0 : Int32)) + (1 : Int32))), (5, .int 0), (3, .ref (ad 50)), (0, .ref (ad 8)), (1, .int v1), (2, .int v2)]) hx hb d_Second_suffixOf_98 hl (by decide) rfl (fun ls hl => ?_)
            refine lv_iload hx hb d_Second_suffixOf_100 (lv_at hl 1 rfl) ?_
            refine lv_if_ne (tgt := 129) hx hb d_Second_suffixOf_102 (by decide) (fun h9 => absurd (by decide) h9) (fun _ => ?_)
            refine lv_iload hx hb d_Second_suffixOf_105 (lv_at hl 0 rfl) ?_
            refine lv_iload_n hx hb d_Second_suffixOf_107 rfl (lv_at hl 5 rfl) ?_
            refine lv_icmp_ge (tgt := 129) hx hb d_Second_suffixOf_108 (by decide) (fun _ => ?_) (fun h9 => absurd hc18 h9)
            refine lv_iload hx hb d_Second_suffixOf_129 (lv_at hl 0 rfl) ?_
            refine lv_iload_n hx hb d_Second_suffixOf_131 rfl (lv_at hl 5 rfl) ?_
            refine lv_icmp_ge (tgt := 139) hx hb d_Second_suffixOf_132 (by decide) (fun _ => ?_) (fun h9 => absurd hc18 h9)
            refine lv_iload hx hb d_Second_suffixOf_139 (lv_at hl 1 rfl) ?_
            refine lv_if_eq (tgt := 148) hx hb d_Second_suffixOf_141 (by decide) (fun _ => ?_) (fun h9 => absurd (by decide) h9)
            refine lv_iconst (v := 0) hx hb d_Second_suffixOf_148 (by decide) ?_
            show W _ _ _ _ _ _ _ _ _ _ _ _ _ _ _ (F0 _ 149 _ _)
            exact fin_i (g := g) (ws := Sw shC g ad S) (v := 0) hx hb hr hlocks (by decide +kernel) (by decide +kernel) hP hD hS ⟨_, rfl, (by unfold r_Second_suffixOf; rw [if_neg hc1, if_neg hc13, if_neg hc14, if_pos hc15, if_pos hc18]), rfl⟩ d_Second_suffixOf_149
          · show W _ _ _ _ _ _ _ _ _ _ _ _ _ _ _ (F0 _ 79 _ _)
            refine lv_aload_n hx hb d_Second_suffixOf_79 rfl (lv_at hl 2 rfl) ?_
            refine lv_iload hx hb d_Second_suffixOf_80 (lv_at hl 0 rfl) ?_
            refine lv_iconst (v := 1) hx hb d_Second_suffixOf_82 (by decide) ?_
            refine lv_iadd hx hb d_Second_suffixOf_83 ?_
            refine S_bald (h := shC) (i := (v1 + (0 : Int32)) + (1 : Int32)) hx hb hK hP 37 rfl (hb9 hc1 hc13 hc14 hc15 hc18) d_Second_suffixOf_84 ?_
            refine lv_aload_n hx hb d_Second_suffixOf_85 rfl (lv_at hl 2 rfl) ?_
            refine lv_iload hx hb d_Second_suffixOf_86 (lv_at hl 0 rfl) ?_
            refine S_bald (h := shC) (i := v1 + (0 : Int32)) hx hb hK hP 37 rfl (hb10 hc1 hc13 hc14 hc15 hc18) d_Second_suffixOf_88 ?_
            refine lv_icmp_ne (tgt := 96) hx hb d_Second_suffixOf_89 (by decide) (fun hc19 => ?_) (fun hc19 => ?_)
            · refine lv_iconst (v := 1) hx hb d_Second_suffixOf_96 (by decide) ?_
              refine lv_iadd hx hb d_Second_suffixOf_97 ?_
              refine lv_istore (lv' := [(4, .int ((v1 + (0 : Int32)) + (1 : Int32))), (5, .int 0), (3, .ref (ad 50)), (0, .ref (ad 8)), (1, .int v1), (2, .int v2)]) hx hb d_Second_suffixOf_98 hl (by decide) rfl (fun ls hl => ?_)
              refine lv_iload hx hb d_Second_suffixOf_100 (lv_at hl 1 rfl) ?_
              show W _ _ _ _ _ _ _ _ _ _ _ _ _ _ _ (F0 _ 102 _ _)
              refine lv_if_ne (tgt := 129) hx hb d_Second_suffixOf_102 (by decide) (fun h9 => absurd (by decide) h9) (fun _ => ?_)
              refine lv_iload hx hb d_Second_suffixOf_105 (lv_at hl 0 rfl) ?_
              refine lv_iload_n hx hb d_Second_suffixOf_107 rfl (lv_at hl 5 rfl) ?_
              refine lv_icmp_ge (tgt := 129) hx hb d_Second_suffixOf_108 (by decide) (fun h9 => absurd h9 hc18) (fun _ => ?_)
              refine lv_aload_n hx hb d_Second_suffixOf_111 rfl (lv_at hl 2 rfl) ?_
              refine lv_iload hx hb d_Second_suffixOf_112 (lv_at hl 0 rfl) ?_
              refine S_bald (h := shC) (i := (v1 + (0 : Int32)) + (1 : Int32)) hx hb hK hP 37 rfl (hb11 hc1 hc13 hc14 hc15 hc18 hc19) d_Second_suffixOf_114 ?_
              refine lv_bipush (v := 32) hx hb d_Second_suffixOf_115 (by decide) ?_
              refine lv_ior hx hb d_Second_suffixOf_117 ?_
              refine lv_bipush (v := 117) hx hb d_Second_suffixOf_118 (by decide) ?_
              refine lv_icmp_ne (tgt := 129) hx hb d_Second_suffixOf_120 (by decide) (fun hc20 => ?_) (fun hc20 => ?_)
              · refine lv_iload hx hb d_Second_suffixOf_129 (lv_at hl 0 rfl) ?_
                refine lv_iload_n hx hb d_Second_suffixOf_131 rfl (lv_at hl 5 rfl) ?_
                refine lv_icmp_ge (tgt := 139) hx hb d_Second_suffixOf_132 (by decide) (fun h9 => absurd h9 hc18) (fun _ => ?_)
                refine lv_iconst (v := (-1)) hx hb d_Second_suffixOf_135 (by decide) ?_
                show W _ _ _ _ _ _ _ _ _ _ _ _ _ _ _ (F0 _ 136 _ _)
                refine lv_goto (tgt := 149) hx hb d_Second_suffixOf_136 (by decide) ?_
                exact fin_i (g := g) (ws := Sw shC g ad S) (v := (-1)) hx hb hr hlocks (by decide +kernel) (by decide +kernel) hP hD hS ⟨_, rfl, (by unfold r_Second_suffixOf; rw [if_neg hc1, if_neg hc13, if_neg hc14, if_pos hc15, if_neg hc18, if_neg hc19, if_neg hc20]), rfl⟩ d_Second_suffixOf_149
              · refine lv_iconst (v := 1) hx hb d_Second_suffixOf_123 (by decide) ?_
                refine lv_istore (lv' := [(5, .int 1), (4, .int ((v1 + (0 : Int32)) + (1 : Int32))), (3, .ref (ad 50)), (0, .ref (ad 8)), (1, .int v1), (2, .int v2)]) hx hb d_Second_suffixOf_124 hl (by decide) rfl (fun ls hl => ?_)
                refine lv_iinc (k := 1) (v := ((v1 + (0 : Int32)) + (1 : Int32)) + 1) (lv' := [(4, .int (((v1 + (0 : Int32)) + (1 : Int32)) + 1)), (5, .int 1), (3, .ref (ad 50)), (0, .ref (ad 8)), (1, .int v1), (2, .int v2)]) hx hb d_Second_suffixOf_126 hl rfl rfl (by decide) rfl (fun ls hl => ?_)
                show W _ _ _ _ _ _ _ _ _ _ _ _ _ _ _ (F0 _ 129 _ _)
                refine lv_iload hx hb d_Second_suffixOf_129 (lv_at hl 0 rfl) ?_
                refine lv_iload_n hx hb d_Second_suffixOf_131 rfl (lv_at hl 5 rfl) ?_
                refine lv_icmp_ge (tgt := 139) hx hb d_Second_suffixOf_132 (by decide) (fun hc21 => ?_) (fun hc21 => ?_)
                · refine lv_iload hx hb d_Second_suffixOf_139 (lv_at hl 1 rfl) ?_
                  refine lv_if_eq (tgt := 148) hx hb d_Second_suffixOf_141 (by decide) (fun h9 => absurd h9 (by decide)) (fun _ => ?_)
                  refine lv_iconst (v := 1) hx hb d_Second_suffixOf_144 (by decide) ?_
                  refine lv_goto (tgt := 149) hx hb d_Second_suffixOf_145 (by decide) ?_
                  exact fin_i (g := g) (ws := Sw shC g ad S) (v := 1) hx hb hr hlocks (by decide +kernel) (by decide +kernel) hP hD hS ⟨_, rfl, (by unfold r_Second_suffixOf; rw [if_neg hc1, if_neg hc13, if_neg hc14, if_pos hc15, if_neg hc18, if_neg hc19, if_pos hc20, if_pos hc21]), rfl⟩ d_Second_suffixOf_149
                · refine lv_iconst (v := (-1)) hx hb d_Second_suffixOf_135 (by decide) ?_
                  refine lv_goto (tgt := 149) hx hb d_Second_suffixOf_136 (by decide) ?_
                  exact fin_i (g := g) (ws := Sw shC g ad S) (v := (-1)) hx hb hr hlocks (by decide +kernel) (by decide +kernel) hP hD hS ⟨_, rfl, (by unfold r_Second_suffixOf; rw [if_neg hc1, if_neg hc13, if_neg hc14, if_pos hc15, if_neg hc18, if_neg hc19, if_pos hc20, if_neg hc21]), rfl⟩ d_Second_suffixOf_149
            · refine lv_iconst (v := 2) hx hb d_Second_suffixOf_92 (by decide) ?_
              refine lv_goto (tgt := 97) hx hb d_Second_suffixOf_93 (by decide) ?_
              refine lv_iadd hx hb d_Second_suffixOf_97 ?_
              refine lv_istore (lv' := [(4, .int ((v1 + (0 : Int32)) + (2 : Int32))), (5, .int 0), (3, .ref (ad 50)), (0, .ref (ad 8)), (1, .int v1), (2, .int v2)]) hx hb d_Second_suffixOf_98 hl (by decide) rfl (fun ls hl => ?_)
              show W _ _ _ _ _ _ _ _ _ _ _ _ _ _ _ (F0 _ 100 _ _)
              refine lv_iload hx hb d_Second_suffixOf_100 (lv_at hl 1 rfl) ?_
              refine lv_if_ne (tgt := 129) hx hb d_Second_suffixOf_102 (by decide) (fun h9 => absurd (by decide) h9) (fun _ => ?_)
              refine lv_iload hx hb d_Second_suffixOf_105 (lv_at hl 0 rfl) ?_
              refine lv_iload_n hx hb d_Second_suffixOf_107 rfl (lv_at hl 5 rfl) ?_
              refine lv_icmp_ge (tgt := 129) hx hb d_Second_suffixOf_108 (by decide) (fun hc22 => ?_) (fun hc22 => ?_)
              · refine lv_iload hx hb d_Second_suffixOf_129 (lv_at hl 0 rfl) ?_
                refine lv_iload_n hx hb d_Second_suffixOf_131 rfl (lv_at hl 5 rfl) ?_
                refine lv_icmp_ge (tgt := 139) hx hb d_Second_suffixOf_132 (by decide) (fun _ => ?_) (fun h9 => absurd hc22 h9)
                refine lv_iload hx hb d_Second_suffixOf_139 (lv_at hl 1 rfl) ?_
                refine lv_if_eq (tgt := 148) hx hb d_Second_suffixOf_141 (by decide) (fun _ => ?_) (fun h9 => absurd (by decide) h9)
                refine lv_iconst (v := 0) hx hb d_Second_suffixOf_148 (by decide) ?_
                exact fin_i (g := g) (ws := Sw shC g ad S) (v := 0) hx hb hr hlocks (by decide +kernel) (by decide +kernel) hP hD hS ⟨_, rfl, (by unfold r_Second_suffixOf; rw [if_neg hc1, if_neg hc13, if_neg hc14, if_pos hc15, if_neg hc18, if_pos hc19, if_pos hc22]), rfl⟩ d_Second_suffixOf_149
              · refine lv_aload_n hx hb d_Second_suffixOf_111 rfl (lv_at hl 2 rfl) ?_
                refine lv_iload hx hb d_Second_suffixOf_112 (lv_at hl 0 rfl) ?_
                refine S_bald (h := shC) (i := (v1 + (0 : Int32)) + (2 : Int32)) hx hb hK hP 37 rfl (hb12 hc1 hc13 hc14 hc15 hc18 hc19 hc22) d_Second_suffixOf_114 ?_
                refine lv_bipush (v := 32) hx hb d_Second_suffixOf_115 (by decide) ?_
                refine lv_ior hx hb d_Second_suffixOf_117 ?_
                refine lv_bipush (v := 117) hx hb d_Second_suffixOf_118 (by decide) ?_
                refine lv_icmp_ne (tgt := 129) hx hb d_Second_suffixOf_120 (by decide) (fun hc23 => ?_) (fun hc23 => ?_)
                · refine lv_iload hx hb d_Second_suffixOf_129 (lv_at hl 0 rfl) ?_
                  refine lv_iload_n hx hb d_Second_suffixOf_131 rfl (lv_at hl 5 rfl) ?_
                  refine lv_icmp_ge (tgt := 139) hx hb d_Second_suffixOf_132 (by decide) (fun h9 => absurd h9 hc22) (fun _ => ?_)
                  show W _ _ _ _ _ _ _ _ _ _ _ _ _ _ _ (F0 _ 135 _ _)
                  refine lv_iconst (v := (-1)) hx hb d_Second_suffixOf_135 (by decide) ?_
                  refine lv_goto (tgt := 149) hx hb d_Second_suffixOf_136 (by decide) ?_
                  exact fin_i (g := g) (ws := Sw shC g ad S) (v := (-1)) hx hb hr hlocks (by decide +kernel) (by decide +kernel) hP hD hS ⟨_, rfl, (by unfold r_Second_suffixOf; rw [if_neg hc1, if_neg hc13, if_neg hc14, if_pos hc15, if_neg hc18, if_pos hc19, if_neg hc22, if_neg hc23]), rfl⟩ d_Second_suffixOf_149
                · refine lv_iconst (v := 1) hx hb d_Second_suffixOf_123 (by decide) ?_
                  refine lv_istore (lv' := [(5, .int 1), (4, .int ((v1 + (0 : Int32)) + (2 : Int32))), (3, .ref (ad 50)), (0, .ref (ad 8)), (1, .int v1), (2, .int v2)]) hx hb d_Second_suffixOf_124 hl (by decide) rfl (fun ls hl => ?_)
                  show W _ _ _ _ _ _ _ _ _ _ _ _ _ _ _ (F0 _ 126 _ _)
                  refine lv_iinc (k := 1) (v := ((v1 + (0 : Int32)) + (2 : Int32)) + 1) (lv' := [(4, .int (((v1 + (0 : Int32)) + (2 : Int32)) + 1)), (5, .int 1), (3, .ref (ad 50)), (0, .ref (ad 8)), (1, .int v1), (2, .int v2)]) hx hb d_Second_suffixOf_126 hl rfl rfl (by decide) rfl (fun ls hl => ?_)
                  refine lv_iload hx hb d_Second_suffixOf_129 (lv_at hl 0 rfl) ?_
                  refine lv_iload_n hx hb d_Second_suffixOf_131 rfl (lv_at hl 5 rfl) ?_
                  refine lv_icmp_ge (tgt := 139) hx hb d_Second_suffixOf_132 (by decide) (fun hc24 => ?_) (fun hc24 => ?_)
                  · refine lv_iload hx hb d_Second_suffixOf_139 (lv_at hl 1 rfl) ?_
                    refine lv_if_eq (tgt := 148) hx hb d_Second_suffixOf_141 (by decide) (fun h9 => absurd h9 (by decide)) (fun _ => ?_)
                    refine lv_iconst (v := 1) hx hb d_Second_suffixOf_144 (by decide) ?_
                    refine lv_goto (tgt := 149) hx hb d_Second_suffixOf_145 (by decide) ?_
                    exact fin_i (g := g) (ws := Sw shC g ad S) (v := 1) hx hb hr hlocks (by decide +kernel) (by decide +kernel) hP hD hS ⟨_, rfl, (by unfold r_Second_suffixOf; rw [if_neg hc1, if_neg hc13, if_neg hc14, if_pos hc15, if_neg hc18, if_pos hc19, if_neg hc22, if_pos hc23, if_pos hc24]), rfl⟩ d_Second_suffixOf_149
                  · refine lv_iconst (v := (-1)) hx hb d_Second_suffixOf_135 (by decide) ?_
                    refine lv_goto (tgt := 149) hx hb d_Second_suffixOf_136 (by decide) ?_
                    exact fin_i (g := g) (ws := Sw shC g ad S) (v := (-1)) hx hb hr hlocks (by decide +kernel) (by decide +kernel) hP hD hS ⟨_, rfl, (by unfold r_Second_suffixOf; rw [if_neg hc1, if_neg hc13, if_neg hc14, if_pos hc15, if_neg hc18, if_pos hc19, if_neg hc22, if_pos hc23, if_neg hc24]), rfl⟩ d_Second_suffixOf_149
    · refine lv_iconst (v := 1) hx hb d_Second_suffixOf_29 (by decide) ?_
      refine lv_goto (tgt := 34) hx hb d_Second_suffixOf_30 (by decide) ?_
      refine lv_istore (lv' := [(5, .int 1), (4, .int v1), (3, .ref (ad 50)), (0, .ref (ad 8)), (1, .int v1), (2, .int v2)]) hx hb d_Second_suffixOf_34 hl (by decide) rfl (fun ls hl => ?_)
      refine lv_iload hx hb d_Second_suffixOf_36 (lv_at hl 1 rfl) ?_
      refine lv_iload hx hb d_Second_suffixOf_38 (lv_at hl 0 rfl) ?_
      refine lv_if_eq (tgt := 47) hx hb d_Second_suffixOf_40 (by decide) (fun h9 => absurd h9 (by decide)) (fun _ => ?_)
      refine lv_iconst (v := 1) hx hb d_Second_suffixOf_43 (by decide) ?_
      refine lv_goto (tgt := 48) hx hb d_Second_suffixOf_44 (by decide) ?_
      refine lv_iadd hx hb d_Second_suffixOf_48 ?_
      show W _ _ _ _ _ _ _ _ _ _ _ _ _ _ _ (F0 _ 49 _ _)
      refine lv_istore (lv' := [(4, .int (v1 + (1 : Int32))), (5, .int 1), (3, .ref (ad 50)), (0, .ref (ad 8)), (1, .int v1), (2, .int v2)]) hx hb d_Second_suffixOf_49 hl (by decide) rfl (fun ls hl => ?_)
      refine lv_iload hx hb d_Second_suffixOf_51 (lv_at hl 0 rfl) ?_
      refine lv_iload_n hx hb d_Second_suffixOf_53 rfl (lv_at hl 5 rfl) ?_
      refine lv_icmp_ge (tgt := 100) hx hb d_Second_suffixOf_54 (by decide) (fun hc25 => ?_) (fun hc25 => ?_)
      · refine lv_iload hx hb d_Second_suffixOf_100 (lv_at hl 1 rfl) ?_
        refine lv_if_ne (tgt := 129) hx hb d_Second_suffixOf_102 (by decide) (fun _ => ?_) (fun h9 => absurd h9 (by decide))
        refine lv_iload hx hb d_Second_suffixOf_129 (lv_at hl 0 rfl) ?_
        refine lv_iload_n hx hb d_Second_suffixOf_131 rfl (lv_at hl 5 rfl) ?_
        refine lv_icmp_ge (tgt := 139) hx hb d_Second_suffixOf_132 (by decide) (fun _ => ?_) (fun h9 => absurd hc25 h9)
        refine lv_iload hx hb d_Second_suffixOf_139 (lv_at hl 1 rfl) ?_
        refine lv_if_eq (tgt := 148) hx hb d_Second_suffixOf_141 (by decide) (fun h9 => absurd h9 (by decide)) (fun _ => ?_)
        refine lv_iconst (v := 1) hx hb d_Second_suffixOf_144 (by decide) ?_
        refine lv_goto (tgt := 149) hx hb d_Second_suffixOf_145 (by decide) ?_
        exact fin_i (g := g) (ws := Sw shC g ad S) (v := 1) hx hb hr hlocks (by decide +kernel) (by decide +kernel) hP hD hS ⟨_, rfl, (by unfold r_Second_suffixOf; rw [if_neg hc1, if_pos hc13, if_pos hc25]), rfl⟩ d_Second_suffixOf_149
      · refine lv_aload_n hx hb d_Second_suffixOf_57 rfl (lv_at hl 2 rfl) ?_
        refine lv_iload hx hb d_Second_suffixOf_58 (lv_at hl 0 rfl) ?_
        refine S_bald (h := shC) (i := v1 + (1 : Int32)) hx hb hK hP 37 rfl (hb13 hc1 hc13 hc25) d_Second_suffixOf_60 ?_
        refine lv_bipush (v := 32) hx hb d_Second_suffixOf_61 (by decide) ?_
        refine lv_ior hx hb d_Second_suffixOf_63 ?_
        refine lv_bipush (v := 108) hx hb d_Second_suffixOf_64 (by decide) ?_
        refine lv_icmp_ne (tgt := 100) hx hb d_Second_suffixOf_66 (by decide) (fun hc26 => ?_) (fun hc26 => ?_)
        · refine lv_iload hx hb d_Second_suffixOf_100 (lv_at hl 1 rfl) ?_
          refine lv_if_ne (tgt := 129) hx hb d_Second_suffixOf_102 (by decide) (fun _ => ?_) (fun h9 => absurd h9 (by decide))
          refine lv_iload hx hb d_Second_suffixOf_129 (lv_at hl 0 rfl) ?_
          show W _ _ _ _ _ _ _ _ _ _ _ _ _ _ _ (F0 _ 131 _ _)
          refine lv_iload_n hx hb d_Second_suffixOf_131 rfl (lv_at hl 5 rfl) ?_
          refine lv_icmp_ge (tgt := 139) hx hb d_Second_suffixOf_132 (by decide) (fun h9 => absurd h9 hc25) (fun _ => ?_)
          refine lv_iconst (v := (-1)) hx hb d_Second_suffixOf_135 (by decide) ?_
          refine lv_goto (tgt := 149) hx hb d_Second_suffixOf_136 (by decide) ?_
          exact fin_i (g := g) (ws := Sw shC g ad S) (v := (-1)) hx hb hr hlocks (by decide +kernel) (by decide +kernel) hP hD hS ⟨_, rfl, (by unfold r_Second_suffixOf; rw [if_neg hc1, if_pos hc13, if_neg hc25, if_neg hc26]), rfl⟩ d_Second_suffixOf_149
        · refine lv_iload hx hb d_Second_suffixOf_69 (lv_at hl 0 rfl) ?_
          refine lv_iload hx hb d_Second_suffixOf_71 (lv_at hl 0 rfl) ?_
          refine lv_iconst (v := 1) hx hb d_Second_suffixOf_73 (by decide) ?_
          show W _ _ _ _ _ _ _ _ _ _ _ _ _ _ _ (F0 _ 74 _ _)
          refine lv_iadd hx hb d_Second_suffixOf_74 ?_
          refine lv_iload_n hx hb d_Second_suffixOf_75 rfl (lv_at hl 5 rfl) ?_
          refine lv_icmp_ge (tgt := 96) hx hb d_Second_suffixOf_76 (by decide) (fun hc27 => ?_) (fun hc27 => ?_)
          · refine lv_iconst (v := 1) hx hb d_Second_suffixOf_96 (by decide) ?_
            refine lv_iadd hx hb d_Second_suffixOf_97 ?_
            refine lv_istore (lv' := [(4, .int ((v1 + (1 : Int32)) + (1 : Int32))), (5, .int 1), (3, .ref (ad 50)), (0, .ref (ad 8)), (1, .int v1), (2, .int v2)]) hx hb d_Second_suffixOf_98 hl (by decide) rfl (fun ls hl => ?_)
            refine lv_iload hx hb d_Second_suffixOf_100 (lv_at hl 1 rfl) ?_
            refine lv_if_ne (tgt := 129) hx hb d_Second_suffixOf_102 (by decide) (fun _ => ?_) (fun h9 => absurd h9 (by decide))
            refine lv_iload hx hb d_Second_suffixOf_129 (lv_at hl 0 rfl) ?_
            refine lv_iload_n hx hb d_Second_suffixOf_131 rfl (lv_at hl 5 rfl) ?_
            refine lv_icmp_ge (tgt := 139) hx hb d_Second_suffixOf_132 (by decide) (fun _ => ?_) (fun h9 => absurd hc27 h9)
            refine lv_iload hx hb d_Second_suffixOf_139 (lv_at hl 1 rfl) ?_
            refine lv_if_eq (tgt := 148) hx hb d_Second_suffixOf_141 (by decide) (fun h9 => absurd h9 (by decide)) (fun _ => ?_)
            refine lv_iconst (v := 1) hx hb d_Second_suffixOf_144 (by decide) ?_
            show W _ _ _ _ _ _ _ _ _ _ _ _ _ _ _ (F0 _ 145 _ _)
            refine lv_goto (tgt := 149) hx hb d_Second_suffixOf_145 (by decide) ?_
            exact fin_i (g := g) (ws := Sw shC g ad S) (v := 1) hx hb hr hlocks (by decide +kernel) (by decide +kernel) hP hD hS ⟨_, rfl, (by unfold r_Second_suffixOf; rw [if_neg hc1, if_pos hc13, if_neg hc25, if_pos hc26, if_pos hc27]), rfl⟩ d_Second_suffixOf_149
          · refine lv_aload_n hx hb d_Second_suffixOf_79 rfl (lv_at hl 2 rfl) ?_
            refine lv_iload hx hb d_Second_suffixOf_80 (lv_at hl 0 rfl) ?_
            refine lv_iconst (v := 1) hx hb d_Second_suffixOf_82 (by decide) ?_
            refine lv_iadd hx hb d_Second_suffixOf_83 ?_
            refine S_bald (h := shC) (i := (v1 + (1 : Int32)) + (1 : Int32)) hx hb hK hP 37 rfl (hb14 hc1 hc13 hc25 hc26 hc27) d_Second_suffixOf_84 ?_
            refine lv_aload_n hx hb d_Second_suffixOf_85 rfl (lv_at hl 2 rfl) ?_
            refine lv_iload hx hb d_Second_suffixOf_86 (lv_at hl 0 rfl) ?_
            refine S_bald (h := shC) (i := v1 + (1 : Int32)) hx hb hK hP 37 rfl (hb15 hc1 hc13 hc25 hc26 hc27) d_Second_suffixOf_88 ?_
            refine lv_icmp_ne (tgt := 96) hx hb d_Second_suffixOf_89 (by decide) (fun hc28 => ?_) (fun hc28 => ?_)
            · refine lv_iconst (v := 1) hx hb d_Second_suffixOf_96 (by decide) ?_
              refine lv_iadd hx hb d_Second_suffixOf_97 ?_
              show W _ _ _ _ _ _ _ _ _ _ _ _ _ _ _ (F0 _ 98 _ _)
              refine lv_istore (lv' := [(4, .int ((v1 + (1 : Int32)) + (1 : Int32))), (5, .int 1), (3, .ref (ad 50)), (0, .ref (ad 8)), (1, .int v1), (2, .int v2)]) hx hb d_Second_suffixOf_98 hl (by decide) rfl (fun ls hl => ?_)
              refine lv_iload hx hb d_Second_suffixOf_100 (lv_at hl 1 rfl) ?_
              refine lv_if_ne (tgt := 129) hx hb d_Second_suffixOf_102 (by decide) (fun _ => ?_) (fun h9 => absurd h9 (by decide))
              refine lv_iload hx hb d_Second_suffixOf_129 (lv_at hl 0 rfl) ?_
              refine lv_iload_n hx hb d_Second_suffixOf_131 rfl (lv_at hl 5 rfl) ?_
              refine lv_icmp_ge (tgt := 139) hx hb d_Second_suffixOf_132 (by decide) (fun h9 => absurd h9 hc27) (fun _ => ?_)
              refine lv_iconst (v := (-1)) hx hb d_Second_suffixOf_135 (by decide) ?_
              refine lv_goto (tgt := 149) hx hb d_Second_suffixOf_136 (by decide) ?_
              exact fin_i (g := g) (ws := Sw shC g ad S) (v := (-1)) hx hb hr hlocks (by decide +kernel) (by decide +kernel) hP hD hS ⟨_, rfl, (by unfold r_Second_suffixOf; rw [if_neg hc1, if_pos hc13, if_neg hc25, if_pos hc26, if_neg hc27, if_neg hc28]), rfl⟩ d_Second_suffixOf_149
            · refine lv_iconst (v := 2) hx hb d_Second_suffixOf_92 (by decide) ?_
              refine lv_goto (tgt := 97) hx hb d_Second_suffixOf_93 (by decide) ?_
              show W _ _ _ _ _ _ _ _ _ _ _ _ _ _ _ (F0 _ 97 _ _)
              refine lv_iadd hx hb d_Second_suffixOf_97 ?_
              refine lv_istore (lv' := [(4, .int ((v1 + (1 : Int32)) + (2 : Int32))), (5, .int 1), (3, .ref (ad 50)), (0, .ref (ad 8)), (1, .int v1), (2, .int v2)]) hx hb d_Second_suffixOf_98 hl (by decide) rfl (fun ls hl => ?_)
              refine lv_iload hx hb d_Second_suffixOf_100 (lv_at hl 1 rfl) ?_
              refine lv_if_ne (tgt := 129) hx hb d_Second_suffixOf_102 (by decide) (fun _ => ?_) (fun h9 => absurd h9 (by decide))
              refine lv_iload hx hb d_Second_suffixOf_129 (lv_at hl 0 rfl) ?_
              refine lv_iload_n hx hb d_Second_suffixOf_131 rfl (lv_at hl 5 rfl) ?_
              refine lv_icmp_ge (tgt := 139) hx hb d_Second_suffixOf_132 (by decide) (fun hc29 => ?_) (fun hc29 => ?_)
              · refine lv_iload hx hb d_Second_suffixOf_139 (lv_at hl 1 rfl) ?_
                refine lv_if_eq (tgt := 148) hx hb d_Second_suffixOf_141 (by decide) (fun h9 => absurd h9 (by decide)) (fun _ => ?_)
                refine lv_iconst (v := 1) hx hb d_Second_suffixOf_144 (by decide) ?_
                refine lv_goto (tgt := 149) hx hb d_Second_suffixOf_145 (by decide) ?_
                exact fin_i (g := g) (ws := Sw shC g ad S) (v := 1) hx hb hr hlocks (by decide +kernel) (by decide +kernel) hP hD hS ⟨_, rfl, (by unfold r_Second_suffixOf; rw [if_neg hc1, if_pos hc13, if_neg hc25, if_pos hc26, if_neg hc27, if_pos hc28, if_pos hc29]), rfl⟩ d_Second_suffixOf_149
              · refine lv_iconst (v := (-1)) hx hb d_Second_suffixOf_135 (by decide) ?_
                refine lv_goto (tgt := 149) hx hb d_Second_suffixOf_136 (by decide) ?_
                exact fin_i (g := g) (ws := Sw shC g ad S) (v := (-1)) hx hb hr hlocks (by decide +kernel) (by decide +kernel) hP hD hS ⟨_, rfl, (by unfold r_Second_suffixOf; rw [if_neg hc1, if_pos hc13, if_neg hc25, if_pos hc26, if_neg hc27, if_pos hc28, if_neg hc29]), rfl⟩ d_Second_suffixOf_149
def s_Second_addBlankToTitle (S : sS) : sS := if (64 : Int32) ≤ (S.1 8 21) then ((putI S 8 21 ((S.1 8 21) + (1 : Int32)))) else ((putI (putA S 36 (S.1 8 21 : Int32).toNatClampNeg (vp_nar .byte 32)) 8 21 ((S.1 8 21) + (1 : Int32))))
abbrev rm_a_Second_addBlankToTitle : Room := { frames := 0, cells := 0, slots := 0, locals := 0 }
set_option maxHeartbeats 4000000 in
set_option maxRecDepth 100000 in
theorem a_Second_addBlankToTitle (l : Launch) (g : gG) (sz : Nat) (ad : Nat → Nat) (S : sS) (hb0 : ¬ ((64 : Int32) ≤ (S.1 8 21)) → vp_in (S.1 8 21) 64) : Cv l y_Second_addBlankToTitle b_Second_addBlankToTitle 1 rm_a_Second_addBlankToTitle g [.ref (ad 8)] (Sw shC g ad S) sz (fun w => ∃ S' : sS, w = Sw shC g ad S' ∧ S' = s_Second_addBlankToTitle S) := by
  refine startV (by decide) (Nat.le_of_ble_eq_true rfl) ?_
  intro p e s m below meth c A ls hx hb hr hml hlocks hmn hown htt hN hA hP hK hD hS hl
  have hown : s.vm.findClass "MacroMill$Second" = some m.cls := hown
  have hl : lv_has ls 1 [(0, .ref (ad 8))] := hl
  refine lv_aload_n hx hb d_Second_addBlankToTitle_0 rfl (lv_at hl 0 rfl) ?_
  refine S_getI (h := shC) (C := "MacroMill$Second") (T := F_Second) hx hb htt in_Second hown hK hP 8 21 rfl rfl rfl (by decide) (htt _ k_918) (fun _ h9 => h9) d_Second_addBlankToTitle_1 ?_
  refine lv_bipush (v := 64) hx hb d_Second_addBlankToTitle_4 (by decide) ?_
  refine lv_icmp_ge (tgt := 20) hx hb d_Second_addBlankToTitle_6 (by decide) (fun hc1 => ?_) (fun hc1 => ?_)
  · refine lv_aload_n hx hb d_Second_addBlankToTitle_20 rfl (lv_at hl 0 rfl) ?_
    refine lv_dup hx hb d_Second_addBlankToTitle_21 rfl ?_
    refine S_getI (h := shC) (C := "MacroMill$Second") (T := F_Second) hx hb htt in_Second hown hK hP 8 21 rfl rfl rfl (by decide) (htt _ k_918) (fun _ h9 => h9) d_Second_addBlankToTitle_22 ?_
    refine lv_iconst (v := 1) hx hb d_Second_addBlankToTitle_25 (by decide) ?_
    refine lv_iadd hx hb d_Second_addBlankToTitle_26 ?_
    refine S_put (h := shC) (C := "MacroMill$Second") (T := F_Second) (v := (S.1 8 21) + (1 : Int32)) hx hb htt in_Second t_Second t_Second_ok n_Second hown hK hP hD hS 8 21 rfl rfl rfl (by decide) (htt _ k_918) (fun _ h9 => h9) rfl rfl rfl d_Second_addBlankToTitle_27 (fun H locs hP hD hS => ?_)
    exact fin_v (g := g) (ws := Sw shC g ad (putI S 8 21 ((S.1 8 21) + (1 : Int32)))) hx hb hr hlocks (by decide +kernel) (by decide +kernel) hP hD hS ⟨_, rfl, (by unfold s_Second_addBlankToTitle; rw [if_pos hc1])⟩ d_Second_addBlankToTitle_30
  · refine lv_aload_n hx hb d_Second_addBlankToTitle_9 rfl (lv_at hl 0 rfl) ?_
    refine S_getR (h := shC) (C := "MacroMill$Second") (T := F_Second) hx hb htt in_Second hown hK hP 8 20 rfl 49 rfl rfl (by decide) (htt _ k_917) (fun _ h9 => h9) d_Second_addBlankToTitle_10 ?_
    refine lv_aload_n hx hb d_Second_addBlankToTitle_13 rfl (lv_at hl 0 rfl) ?_
    refine S_getI (h := shC) (C := "MacroMill$Second") (T := F_Second) hx hb htt in_Second hown hK hP 8 21 rfl rfl rfl (by decide) (htt _ k_918) (fun _ h9 => h9) d_Second_addBlankToTitle_14 ?_
    refine lv_bipush (v := 32) hx hb d_Second_addBlankToTitle_17 (by decide) ?_
    refine S_bast (h := shC) (i := S.1 8 21) (v := 32) hx hb hK hP hD hS 36 rfl (hb0 hc1) d_Second_addBlankToTitle_19 (fun H locs hP hD hS => ?_)
    refine lv_aload_n hx hb d_Second_addBlankToTitle_20 rfl (lv_at hl 0 rfl) ?_
    refine lv_dup hx hb d_Second_addBlankToTitle_21 rfl ?_
    show W _ _ _ _ _ _ _ _ _ _ _ _ _ _ _ (F0 _ 22 _ _)
    refine S_getI (h := shC) (C := "MacroMill$Second") (T := F_Second) hx hb htt in_Second hown hK hP 8 21 rfl rfl rfl (by decide) (htt _ k_918) (fun _ h9 => h9) d_Second_addBlankToTitle_22 ?_
    refine toI (y := S.1 8 21) rfl ?_
    refine lv_iconst (v := 1) hx hb d_Second_addBlankToTitle_25 (by decide) ?_
    refine lv_iadd hx hb d_Second_addBlankToTitle_26 ?_
    refine S_put (h := shC) (C := "MacroMill$Second") (T := F_Second) (v := (S.1 8 21) + (1 : Int32)) hx hb htt in_Second t_Second t_Second_ok n_Second hown hK hP hD hS 8 21 rfl rfl rfl (by decide) (htt _ k_918) (fun _ h9 => h9) rfl rfl rfl d_Second_addBlankToTitle_27 (fun H locs hP hD hS => ?_)
    exact fin_v (g := g) (ws := Sw shC g ad (putI (putA S 36 (S.1 8 21 : Int32).toNatClampNeg (vp_nar .byte 32)) 8 21 ((S.1 8 21) + (1 : Int32)))) hx hb hr hlocks (by decide +kernel) (by decide +kernel) hP hD hS ⟨_, rfl, (by unfold s_Second_addBlankToTitle; rw [if_neg hc1])⟩ d_Second_addBlankToTitle_30
def s_Tokens_clearAll (S : sS) : sS := (putI (putI (putI (putI S 9 2 0) 9 3 0) 9 4 60002) 9 8 0)
abbrev rm_a_Tokens_clearAll : Room := { frames := 0, cells := 0, slots := 0, locals := 0 }
set_option maxHeartbeats 4000000 in
set_option maxRecDepth 100000 in
theorem a_Tokens_clearAll (l : Launch) (g : gG) (sz : Nat) (ad : Nat → Nat) (S : sS) : Cv l y_Tokens_clearAll b_Tokens_clearAll 1 rm_a_Tokens_clearAll g [.ref (ad 9)] (Sw shC g ad S) sz (fun w => ∃ S' : sS, w = Sw shC g ad S' ∧ S' = s_Tokens_clearAll S) := by
  refine startV (by decide) (Nat.le_of_ble_eq_true rfl) ?_
  intro p e s m below meth c A ls hx hb hr hml hlocks hmn hown htt hN hA hP hK hD hS hl
  have hown : s.vm.findClass "MacroMill$Tokens" = some m.cls := hown
  have hl : lv_has ls 1 [(0, .ref (ad 9))] := hl
  refine lv_aload_n hx hb d_Tokens_clearAll_0 rfl (lv_at hl 0 rfl) ?_
  refine lv_iconst (v := 0) hx hb d_Tokens_clearAll_1 (by decide) ?_
  refine S_put (h := shC) (C := "MacroMill$Tokens") (T := F_Tokens) (v := 0) hx hb htt in_Tokens t_Tokens t_Tokens_ok n_Tokens hown hK hP hD hS 9 2 rfl rfl rfl (by decide) (htt _ k_639) (fun _ h9 => h9) rfl rfl rfl d_Tokens_clearAll_2 (fun H locs hP hD hS => ?_)
  refine lv_aload_n hx hb d_Tokens_clearAll_5 rfl (lv_at hl 0 rfl) ?_
  refine lv_iconst (v := 0) hx hb d_Tokens_clearAll_6 (by decide) ?_
  refine S_put (h := shC) (C := "MacroMill$Tokens") (T := F_Tokens) (v := 0) hx hb htt in_Tokens t_Tokens t_Tokens_ok n_Tokens hown hK hP hD hS 9 3 rfl rfl rfl (by decide) (htt _ k_642) (fun _ h9 => h9) rfl rfl rfl d_Tokens_clearAll_7 (fun H locs hP hD hS => ?_)
  refine lv_aload_n hx hb d_Tokens_clearAll_10 rfl (lv_at hl 0 rfl) ?_
  refine lv_ldc (v := 60002) hx hb hown (htt _ k_883) d_Tokens_clearAll_11 ?_
  refine S_put (h := shC) (C := "MacroMill$Tokens") (T := F_Tokens) (v := 60002) hx hb htt in_Tokens t_Tokens t_Tokens_ok n_Tokens hown hK hP hD hS 9 4 rfl rfl rfl (by decide) (htt _ k_643) (fun _ h9 => h9) rfl rfl rfl d_Tokens_clearAll_13 (fun H locs hP hD hS => ?_)
  refine lv_aload_n hx hb d_Tokens_clearAll_16 rfl (lv_at hl 0 rfl) ?_
  refine lv_iconst (v := 0) hx hb d_Tokens_clearAll_17 (by decide) ?_
  show W _ _ _ _ _ _ _ _ _ _ _ _ _ _ _ (F0 _ 18 _ _)
  refine S_put (h := shC) (C := "MacroMill$Tokens") (T := F_Tokens) (v := 0) hx hb htt in_Tokens t_Tokens t_Tokens_ok n_Tokens hown hK hP hD hS 9 8 rfl rfl rfl (by decide) (htt _ k_657) (fun _ h9 => h9) rfl rfl rfl d_Tokens_clearAll_18 (fun H locs hP hD hS => ?_)
  exact fin_v (g := g) (ws := Sw shC g ad (putI (putI (putI (putI S 9 2 0) 9 3 0) 9 4 60002) 9 8 0)) hx hb hr hlocks (by decide +kernel) (by decide +kernel) hP hD hS ⟨_, rfl, rfl⟩ d_Tokens_clearAll_21
def r_Tokens_spelled (S : sS) (v1 : Int32) (v2 : Int32) : Int64 := (v1.toInt64 <<< ((32 : Int32).toInt64 &&& 63)) ||| v2.toInt64
abbrev rm_a_Tokens_spelled : Room := { frames := 0, cells := 0, slots := 0, locals := 0 }
set_option maxHeartbeats 4000000 in
set_option maxRecDepth 100000 in
theorem a_Tokens_spelled (l : Launch) (g : gG) (sz : Nat) (ad : Nat → Nat) (S : sS) (v1 : Int32) (v2 : Int32) : Cl l y_Tokens_spelled b_Tokens_spelled 2 rm_a_Tokens_spelled g [.int v1, .int v2] (Sw shC g ad S) sz (fun r w => ∃ S' : sS, w = Sw shC g ad S' ∧ r = r_Tokens_spelled S v1 v2 ∧ S' = S) := by
  refine startL (by decide) (Nat.le_of_ble_eq_true rfl) ?_
  intro p e s m below meth c A ls hx hb hr hml hlocks hmn hown htt hN hA hP hK hD hS hl
  have hown : s.vm.findClass "MacroMill$Tokens" = some m.cls := hown
  have hl : lv_has ls 2 [(0, .int v1), (1, .int v2)] := hl
  refine lv_iload_n hx hb d_Tokens_spelled_0 rfl (lv_at hl 0 rfl) ?_
  refine lv_i2l (v := v1.toInt64) hx hb d_Tokens_spelled_1 rfl ?_
  refine lv_bipush (v := 32) hx hb d_Tokens_spelled_2 (by decide) ?_
  refine lv_lshl (v := v1.toInt64 <<< ((32 : Int32).toInt64 &&& 63)) hx hb d_Tokens_spelled_4 rfl ?_
  refine lv_iload_n hx hb d_Tokens_spelled_5 rfl (lv_at hl 1 rfl) ?_
  refine lv_i2l (v := v2.toInt64) hx hb d_Tokens_spelled_6 rfl ?_
  refine lv_lor hx hb d_Tokens_spelled_7 ?_
  exact fin_l (g := g) (ws := Sw shC g ad S) (v := (v1.toInt64 <<< ((32 : Int32).toInt64 &&& 63)) ||| v2.toInt64) hx hb hr hlocks (by decide +kernel) (by decide +kernel) hP hD hS ⟨_, rfl, rfl, rfl⟩ d_Tokens_spelled_8
def r_Tokens_fromOf (S : sS) (v1 : Int64) : Int32 := ((v1.toUInt64 >>> ((32 : Int32).toInt64.toUInt64 &&& Int64.toUInt64 63)).toInt64).toInt32
abbrev rm_a_Tokens_fromOf : Room := { frames := 0, cells := 0, slots := 0, locals := 0 }
set_option maxHeartbeats 4000000 in
set_option maxRecDepth 100000 in
theorem a_Tokens_fromOf (l : Launch) (g : gG) (sz : Nat) (ad : Nat → Nat) (S : sS) (v1 : Int64) : Ci l y_Tokens_fromOf b_Tokens_fromOf 2 rm_a_Tokens_fromOf g [.long v1] (Sw shC g ad S) sz (fun r w => ∃ S' : sS, w = Sw shC g ad S' ∧ r = r_Tokens_fromOf S v1 ∧ S' = S) := by
  refine startI (by decide) (Nat.le_of_ble_eq_true rfl) ?_
  intro p e s m below meth c A ls hx hb hr hml hlocks hmn hown htt hN hA hP hK hD hS hl
  have hown : s.vm.findClass "MacroMill$Tokens" = some m.cls := hown
  have hl : lv_has ls 2 [(0, .long v1)] := hl
  refine lv_lload_n hx hb d_Tokens_fromOf_0 rfl (lv_at hl 0 rfl) ?_
  refine lv_bipush (v := 32) hx hb d_Tokens_fromOf_1 (by decide) ?_
  refine lv_lushr (v := (v1.toUInt64 >>> ((32 : Int32).toInt64.toUInt64 &&& Int64.toUInt64 63)).toInt64) hx hb d_Tokens_fromOf_3 rfl ?_
  refine lv_l2i (v := ((v1.toUInt64 >>> ((32 : Int32).toInt64.toUInt64 &&& Int64.toUInt64 63)).toInt64).toInt32) hx hb d_Tokens_fromOf_4 rfl ?_
  exact fin_i (g := g) (ws := Sw shC g ad S) (v := ((v1.toUInt64 >>> ((32 : Int32).toInt64.toUInt64 &&& Int64.toUInt64 63)).toInt64).toInt32) hx hb hr hlocks (by decide +kernel) (by decide +kernel) hP hD hS ⟨_, rfl, rfl, rfl⟩ d_Tokens_fromOf_5
def r_Tokens_lengthOf (S : sS) (v1 : Int64) : Int32 := v1.toInt32
abbrev rm_a_Tokens_lengthOf : Room := { frames := 0, cells := 0, slots := 0, locals := 0 }
set_option maxHeartbeats 4000000 in
set_option maxRecDepth 100000 in
theorem a_Tokens_lengthOf (l : Launch) (g : gG) (sz : Nat) (ad : Nat → Nat) (S : sS) (v1 : Int64) : Ci l y_Tokens_lengthOf b_Tokens_lengthOf 2 rm_a_Tokens_lengthOf g [.long v1] (Sw shC g ad S) sz (fun r w => ∃ S' : sS, w = Sw shC g ad S' ∧ r = r_Tokens_lengthOf S v1 ∧ S' = S) := by
  refine startI (by decide) (Nat.le_of_ble_eq_true rfl) ?_
  intro p e s m below meth c A ls hx hb hr hml hlocks hmn hown htt hN hA hP hK hD hS hl
  have hown : s.vm.findClass "MacroMill$Tokens" = some m.cls := hown
  have hl : lv_has ls 2 [(0, .long v1)] := hl
  refine lv_lload_n hx hb d_Tokens_lengthOf_0 rfl (lv_at hl 0 rfl) ?_
  refine lv_l2i (v := v1.toInt32) hx hb d_Tokens_lengthOf_1 rfl ?_
  exact fin_i (g := g) (ws := Sw shC g ad S) (v := v1.toInt32) hx hb hr hlocks (by decide +kernel) (by decide +kernel) hP hD hS ⟨_, rfl, rfl, rfl⟩ d_Tokens_lengthOf_2
def r_Tokens_looking (S : sS) (v1 : Int32) (v2 : Int32) (v3 : Int32) (v4 : Int32) : Int32 := if v2 = (0 : Int32) then (if v3 = (0 : Int32) then (((v1 ||| (0 : Int32)) ||| (0 : Int32)) ||| (v4 <<< ((15 : Int32) &&& 31))) else (((v1 ||| (0 : Int32)) ||| (16 : Int32)) ||| (v4 <<< ((15 : Int32) &&& 31)))) else (if v3 = (0 : Int32) then (((v1 ||| (8 : Int32)) ||| (0 : Int32)) ||| (v4 <<< ((15 : Int32) &&& 31))) else (((v1 ||| (8 : Int32)) ||| (16 : Int32)) ||| (v4 <<< ((15 : Int32) &&& 31))))
abbrev rm_a_Tokens_looking : Room := { frames := 0, cells := 0, slots := 0, locals := 0 }
set_option maxHeartbeats 4000000 in
set_option maxRecDepth 100000 in
theorem a_Tokens_looking (l : Launch) (g : gG) (sz : Nat) (ad : Nat → Nat) (S : sS) (v1 : Int32) (v2 : Int32) (v3 : Int32) (v4 : Int32) : Ci l y_Tokens_looking b_Tokens_looking 4 rm_a_Tokens_looking g [.int v1, .int v2, .int v3, .int v4] (Sw shC g ad S) sz (fun r w => ∃ S' : sS, w = Sw shC g ad S' ∧ r = r_Tokens_looking S v1 v2 v3 v4 ∧ S' = S) := by
  refine startI (by decide) (Nat.le_of_ble_eq_true rfl) ?_
  intro p e s m below meth c A ls hx hb hr hml hlocks hmn hown htt hN hA hP hK hD hS hl
  have hown : s.vm.findClass "MacroMill$Tokens" = some m.cls := hown
  have hl : lv_has ls 4 [(0, .int v1), (1, .int v2), (2, .int v3), (3, .int v4)] := hl
  refine lv_iload_n hx hb d_Tokens_looking_0 rfl (lv_at hl 0 rfl) ?_
  refine lv_iload_n hx hb d_Tokens_looking_1 rfl (lv_at hl 1 rfl) ?_
  refine lv_if_eq (tgt := 10) hx hb d_Tokens_looking_2 (by decide) (fun hc1 => ?_) (fun hc1 => ?_)
  · refine lv_iconst (v := 0) hx hb d_Tokens_looking_10 (by decide) ?_
    refine lv_ior hx hb d_Tokens_looking_11 ?_
    refine lv_iload_n hx hb d_Tokens_looking_12 rfl (lv_at hl 2 rfl) ?_
    refine lv_if_eq (tgt := 21) hx hb d_Tokens_looking_13 (by decide) (fun hc2 => ?_) (fun hc2 => ?_)
    · refine lv_iconst (v := 0) hx hb d_Tokens_looking_21 (by decide) ?_
      refine lv_ior hx hb d_Tokens_looking_22 ?_
      refine lv_iload_n hx hb d_Tokens_looking_23 rfl (lv_at hl 3 rfl) ?_
      refine lv_bipush (v := 15) hx hb d_Tokens_looking_24 (by decide) ?_
      refine lv_ishl hx hb d_Tokens_looking_26 ?_
      refine lv_ior hx hb d_Tokens_looking_27 ?_
      show W _ _ _ _ _ _ _ _ _ _ _ _ _ _ _ (F0 _ 28 _ _)
      exact fin_i (g := g) (ws := Sw shC g ad S) (v := ((v1 ||| (0 : Int32)) ||| (0 : Int32)) ||| (v4 <<< ((15 : Int32) &&& 31))) hx hb hr hlocks (by decide +kernel) (by decide +kernel) hP hD hS ⟨_, rfl, (by unfold r_Tokens_looking; rw [if_pos hc1, if_pos hc2]), rfl⟩ d_Tokens_looking_28
    · refine lv_bipush (v := 16) hx hb d_Tokens_looking_16 (by decide) ?_
      refine lv_goto (tgt := 22) hx hb d_Tokens_looking_18 (by decide) ?_
      refine lv_ior hx hb d_Tokens_looking_22 ?_
      refine lv_iload_n hx hb d_Tokens_looking_23 rfl (lv_at hl 3 rfl) ?_
      refine lv_bipush (v := 15) hx hb d_Tokens_looking_24 (by decide) ?_
      refine lv_ishl hx hb d_Tokens_looking_26 ?_
      show W _ _ _ _ _ _ _ _ _ _ _ _ _ _ _ (F0 _ 27 _ _)
      refine lv_ior hx hb d_Tokens_looking_27 ?_
      exact fin_i (g := g) (ws := Sw shC g ad S) (v := ((v1 ||| (0 : Int32)) ||| (16 : Int32)) ||| (v4 <<< ((15 : Int32) &&& 31))) hx hb hr hlocks (by decide +kernel) (by decide +kernel) hP hD hS ⟨_, rfl, (by unfold r_Tokens_looking; rw [if_pos hc1, if_neg hc2]), rfl⟩ d_Tokens_looking_28
  · refine lv_bipush (v := 8) hx hb d_Tokens_looking_5 (by decide) ?_
    refine lv_goto (tgt := 11) hx hb d_Tokens_looking_7 (by decide) ?_
    refine lv_ior hx hb d_Tokens_looking_11 ?_
    refine lv_iload_n hx hb d_Tokens_looking_12 rfl (lv_at hl 2 rfl) ?_
    refine lv_if_eq (tgt := 21) hx hb d_Tokens_looking_13 (by decide) (fun hc3 => ?_) (fun hc3 => ?_)
    · refine lv_iconst (v := 0) hx hb d_Tokens_looking_21 (by decide) ?_
      refine lv_ior hx hb d_Tokens_looking_22 ?_
      refine lv_iload_n hx hb d_Tokens_looking_23 rfl (lv_at hl 3 rfl) ?_
      refine lv_bipush (v := 15) hx hb d_Tokens_looking_24 (by decide) ?_
      refine lv_ishl hx hb d_Tokens_looking_26 ?_
      show W _ _ _ _ _ _ _ _ _ _ _ _ _ _ _ (F0 _ 27 _ _)
      refine lv_ior hx hb d_Tokens_looking_27 ?_
      exact fin_i (g := g) (ws := Sw shC g ad S) (v := ((v1 ||| (8 : Int32)) ||| (0 : Int32)) ||| (v4 <<< ((15 : Int32) &&& 31))) hx hb hr hlocks (by decide +kernel) (by decide +kernel) hP hD hS ⟨_, rfl, (by unfold r_Tokens_looking; rw [if_neg hc1, if_pos hc3]), rfl⟩ d_Tokens_looking_28
    · refine lv_bipush (v := 16) hx hb d_Tokens_looking_16 (by decide) ?_
      refine lv_goto (tgt := 22) hx hb d_Tokens_looking_18 (by decide) ?_
      refine lv_ior hx hb d_Tokens_looking_22 ?_
      refine lv_iload_n hx hb d_Tokens_looking_23 rfl (lv_at hl 3 rfl) ?_
      refine lv_bipush (v := 15) hx hb d_Tokens_looking_24 (by decide) ?_
      show W _ _ _ _ _ _ _ _ _ _ _ _ _ _ _ (F0 _ 26 _ _)
      refine lv_ishl hx hb d_Tokens_looking_26 ?_
      refine lv_ior hx hb d_Tokens_looking_27 ?_
      exact fin_i (g := g) (ws := Sw shC g ad S) (v := ((v1 ||| (8 : Int32)) ||| (16 : Int32)) ||| (v4 <<< ((15 : Int32) &&& 31))) hx hb hr hlocks (by decide +kernel) (by decide +kernel) hP hD hS ⟨_, rfl, (by unfold r_Tokens_looking; rw [if_neg hc1, if_neg hc3]), rfl⟩ d_Tokens_looking_28
def r_Tokens_withKind (S : sS) (v1 : Int32) (v2 : Int32) : Int32 := (v1 &&& ((-8) : Int32)) ||| v2
abbrev rm_a_Tokens_withKind : Room := { frames := 0, cells := 0, slots := 0, locals := 0 }
set_option maxHeartbeats 4000000 in
set_option maxRecDepth 100000 in
theorem a_Tokens_withKind (l : Launch) (g : gG) (sz : Nat) (ad : Nat → Nat) (S : sS) (v1 : Int32) (v2 : Int32) : Ci l y_Tokens_withKind b_Tokens_withKind 2 rm_a_Tokens_withKind g [.int v1, .int v2] (Sw shC g ad S) sz (fun r w => ∃ S' : sS, w = Sw shC g ad S' ∧ r = r_Tokens_withKind S v1 v2 ∧ S' = S) := by
  refine startI (by decide) (Nat.le_of_ble_eq_true rfl) ?_
  intro p e s m below meth c A ls hx hb hr hml hlocks hmn hown htt hN hA hP hK hD hS hl
  have hown : s.vm.findClass "MacroMill$Tokens" = some m.cls := hown
  have hl : lv_has ls 2 [(0, .int v1), (1, .int v2)] := hl
  refine lv_iload_n hx hb d_Tokens_withKind_0 rfl (lv_at hl 0 rfl) ?_
  refine lv_bipush (v := (-8)) hx hb d_Tokens_withKind_1 (by decide) ?_
  refine lv_iand hx hb d_Tokens_withKind_3 ?_
  refine lv_iload_n hx hb d_Tokens_withKind_4 rfl (lv_at hl 1 rfl) ?_
  refine lv_ior hx hb d_Tokens_withKind_5 ?_
  exact fin_i (g := g) (ws := Sw shC g ad S) (v := (v1 &&& ((-8) : Int32)) ||| v2) hx hb hr hlocks (by decide +kernel) (by decide +kernel) hP hD hS ⟨_, rfl, rfl, rfl⟩ d_Tokens_withKind_6
def r_Tokens_withSet (S : sS) (v1 : Int32) (v2 : Int32) : Int32 := (v1 &&& ((-32737) : Int32)) ||| (v2 <<< ((5 : Int32) &&& 31))
abbrev rm_a_Tokens_withSet : Room := { frames := 0, cells := 0, slots := 0, locals := 0 }
set_option maxHeartbeats 4000000 in
set_option maxRecDepth 100000 in
theorem a_Tokens_withSet (l : Launch) (g : gG) (sz : Nat) (ad : Nat → Nat) (S : sS) (v1 : Int32) (v2 : Int32) : Ci l y_Tokens_withSet b_Tokens_withSet 2 rm_a_Tokens_withSet g [.int v1, .int v2] (Sw shC g ad S) sz (fun r w => ∃ S' : sS, w = Sw shC g ad S' ∧ r = r_Tokens_withSet S v1 v2 ∧ S' = S) := by
  refine startI (by decide) (Nat.le_of_ble_eq_true rfl) ?_
  intro p e s m below meth c A ls hx hb hr hml hlocks hmn hown htt hN hA hP hK hD hS hl
  have hown : s.vm.findClass "MacroMill$Tokens" = some m.cls := hown
  have hl : lv_has ls 2 [(0, .int v1), (1, .int v2)] := hl
  refine lv_iload_n hx hb d_Tokens_withSet_0 rfl (lv_at hl 0 rfl) ?_
  refine lv_sipush (v := (-32737)) hx hb d_Tokens_withSet_1 (by decide) ?_
  refine lv_iand hx hb d_Tokens_withSet_4 ?_
  refine lv_iload_n hx hb d_Tokens_withSet_5 rfl (lv_at hl 1 rfl) ?_
  refine lv_iconst (v := 5) hx hb d_Tokens_withSet_6 (by decide) ?_
  refine lv_ishl hx hb d_Tokens_withSet_7 ?_
  refine lv_ior hx hb d_Tokens_withSet_8 ?_
  exact fin_i (g := g) (ws := Sw shC g ad S) (v := (v1 &&& ((-32737) : Int32)) ||| (v2 <<< ((5 : Int32) &&& 31))) hx hb hr hlocks (by decide +kernel) (by decide +kernel) hP hD hS ⟨_, rfl, rfl, rfl⟩ d_Tokens_withSet_9
def r_Tokens_withLine (S : sS) (v1 : Int32) (v2 : Int32) : Int32 := (v1 &&& (32767 : Int32)) ||| (v2 <<< ((15 : Int32) &&& 31))
abbrev rm_a_Tokens_withLine : Room := { frames := 0, cells := 0, slots := 0, locals := 0 }
set_option maxHeartbeats 4000000 in
set_option maxRecDepth 100000 in
theorem a_Tokens_withLine (l : Launch) (g : gG) (sz : Nat) (ad : Nat → Nat) (S : sS) (v1 : Int32) (v2 : Int32) : Ci l y_Tokens_withLine b_Tokens_withLine 2 rm_a_Tokens_withLine g [.int v1, .int v2] (Sw shC g ad S) sz (fun r w => ∃ S' : sS, w = Sw shC g ad S' ∧ r = r_Tokens_withLine S v1 v2 ∧ S' = S) := by
  refine startI (by decide) (Nat.le_of_ble_eq_true rfl) ?_
  intro p e s m below meth c A ls hx hb hr hml hlocks hmn hown htt hN hA hP hK hD hS hl
  have hown : s.vm.findClass "MacroMill$Tokens" = some m.cls := hown
  have hl : lv_has ls 2 [(0, .int v1), (1, .int v2)] := hl
  refine lv_iload_n hx hb d_Tokens_withLine_0 rfl (lv_at hl 0 rfl) ?_
  refine lv_sipush (v := 32767) hx hb d_Tokens_withLine_1 (by decide) ?_
  refine lv_iand hx hb d_Tokens_withLine_4 ?_
  refine lv_iload_n hx hb d_Tokens_withLine_5 rfl (lv_at hl 1 rfl) ?_
  refine lv_bipush (v := 15) hx hb d_Tokens_withLine_6 (by decide) ?_
  refine lv_ishl hx hb d_Tokens_withLine_8 ?_
  refine lv_ior hx hb d_Tokens_withLine_9 ?_
  exact fin_i (g := g) (ws := Sw shC g ad S) (v := (v1 &&& (32767 : Int32)) ||| (v2 <<< ((15 : Int32) &&& 31))) hx hb hr hlocks (by decide +kernel) (by decide +kernel) hP hD hS ⟨_, rfl, rfl, rfl⟩ d_Tokens_withLine_10
def r_Tokens_moved (S : sS) (v1 : Int32) : Int32 := v1 &&& ((-17) : Int32)
abbrev rm_a_Tokens_moved : Room := { frames := 0, cells := 0, slots := 0, locals := 0 }
set_option maxHeartbeats 4000000 in
set_option maxRecDepth 100000 in
theorem a_Tokens_moved (l : Launch) (g : gG) (sz : Nat) (ad : Nat → Nat) (S : sS) (v1 : Int32) : Ci l y_Tokens_moved b_Tokens_moved 1 rm_a_Tokens_moved g [.int v1] (Sw shC g ad S) sz (fun r w => ∃ S' : sS, w = Sw shC g ad S' ∧ r = r_Tokens_moved S v1 ∧ S' = S) := by
  refine startI (by decide) (Nat.le_of_ble_eq_true rfl) ?_
  intro p e s m below meth c A ls hx hb hr hml hlocks hmn hown htt hN hA hP hK hD hS hl
  have hown : s.vm.findClass "MacroMill$Tokens" = some m.cls := hown
  have hl : lv_has ls 1 [(0, .int v1)] := hl
  refine lv_iload_n hx hb d_Tokens_moved_0 rfl (lv_at hl 0 rfl) ?_
  refine lv_bipush (v := (-17)) hx hb d_Tokens_moved_1 (by decide) ?_
  refine lv_iand hx hb d_Tokens_moved_3 ?_
  exact fin_i (g := g) (ws := Sw shC g ad S) (v := v1 &&& ((-17) : Int32)) hx hb hr hlocks (by decide +kernel) (by decide +kernel) hP hD hS ⟨_, rfl, rfl, rfl⟩ d_Tokens_moved_4
def r_Tokens_placedAs (S : sS) (v1 : Int32) (v2 : Int32) : Int32 := (v1 &&& ((-25) : Int32)) ||| (v2 &&& (24 : Int32))
abbrev rm_a_Tokens_placedAs : Room := { frames := 0, cells := 0, slots := 0, locals := 0 }
set_option maxHeartbeats 4000000 in
set_option maxRecDepth 100000 in
theorem a_Tokens_placedAs (l : Launch) (g : gG) (sz : Nat) (ad : Nat → Nat) (S : sS) (v1 : Int32) (v2 : Int32) : Ci l y_Tokens_placedAs b_Tokens_placedAs 2 rm_a_Tokens_placedAs g [.int v1, .int v2] (Sw shC g ad S) sz (fun r w => ∃ S' : sS, w = Sw shC g ad S' ∧ r = r_Tokens_placedAs S v1 v2 ∧ S' = S) := by
  refine startI (by decide) (Nat.le_of_ble_eq_true rfl) ?_
  intro p e s m below meth c A ls hx hb hr hml hlocks hmn hown htt hN hA hP hK hD hS hl
  have hown : s.vm.findClass "MacroMill$Tokens" = some m.cls := hown
  have hl : lv_has ls 2 [(0, .int v1), (1, .int v2)] := hl
  refine lv_iload_n hx hb d_Tokens_placedAs_0 rfl (lv_at hl 0 rfl) ?_
  refine lv_bipush (v := (-25)) hx hb d_Tokens_placedAs_1 (by decide) ?_
  refine lv_iand hx hb d_Tokens_placedAs_3 ?_
  refine lv_iload_n hx hb d_Tokens_placedAs_4 rfl (lv_at hl 1 rfl) ?_
  refine lv_bipush (v := 24) hx hb d_Tokens_placedAs_5 (by decide) ?_
  refine lv_iand hx hb d_Tokens_placedAs_7 ?_
  refine lv_ior hx hb d_Tokens_placedAs_8 ?_
  exact fin_i (g := g) (ws := Sw shC g ad S) (v := (v1 &&& ((-25) : Int32)) ||| (v2 &&& (24 : Int32))) hx hb hr hlocks (by decide +kernel) (by decide +kernel) hP hD hS ⟨_, rfl, rfl, rfl⟩ d_Tokens_placedAs_9
def r_Tokens_kindOf (S : sS) (v1 : Int32) : Int32 := v1 &&& (7 : Int32)
abbrev rm_a_Tokens_kindOf : Room := { frames := 0, cells := 0, slots := 0, locals := 0 }
set_option maxHeartbeats 4000000 in
set_option maxRecDepth 100000 in
theorem a_Tokens_kindOf (l : Launch) (g : gG) (sz : Nat) (ad : Nat → Nat) (S : sS) (v1 : Int32) : Ci l y_Tokens_kindOf b_Tokens_kindOf 1 rm_a_Tokens_kindOf g [.int v1] (Sw shC g ad S) sz (fun r w => ∃ S' : sS, w = Sw shC g ad S' ∧ r = r_Tokens_kindOf S v1 ∧ S' = S) := by
  refine startI (by decide) (Nat.le_of_ble_eq_true rfl) ?_
  intro p e s m below meth c A ls hx hb hr hml hlocks hmn hown htt hN hA hP hK hD hS hl
  have hown : s.vm.findClass "MacroMill$Tokens" = some m.cls := hown
  have hl : lv_has ls 1 [(0, .int v1)] := hl
  refine lv_iload_n hx hb d_Tokens_kindOf_0 rfl (lv_at hl 0 rfl) ?_
  refine lv_bipush (v := 7) hx hb d_Tokens_kindOf_1 (by decide) ?_
  refine lv_iand hx hb d_Tokens_kindOf_3 ?_
  exact fin_i (g := g) (ws := Sw shC g ad S) (v := v1 &&& (7 : Int32)) hx hb hr hlocks (by decide +kernel) (by decide +kernel) hP hD hS ⟨_, rfl, rfl, rfl⟩ d_Tokens_kindOf_4
def r_Tokens_isBehindBlank (S : sS) (v1 : Int32) : Int32 := if (v1 &&& (8 : Int32)) = (0 : Int32) then 0 else 1
abbrev rm_a_Tokens_isBehindBlank : Room := { frames := 0, cells := 0, slots := 0, locals := 0 }
set_option maxHeartbeats 4000000 in
set_option maxRecDepth 100000 in
theorem a_Tokens_isBehindBlank (l : Launch) (g : gG) (sz : Nat) (ad : Nat → Nat) (S : sS) (v1 : Int32) : Cz l y_Tokens_isBehindBlank b_Tokens_isBehindBlank 1 rm_a_Tokens_isBehindBlank g [.int v1] (Sw shC g ad S) sz (fun r w => ∃ S' : sS, w = Sw shC g ad S' ∧ r = r_Tokens_isBehindBlank S v1 ∧ S' = S) := by
  refine startZ (by decide) (Nat.le_of_ble_eq_true rfl) ?_
  intro p e s m below meth c A ls hx hb hr hml hlocks hmn hown htt hN hA hP hK hD hS hl
  have hown : s.vm.findClass "MacroMill$Tokens" = some m.cls := hown
  have hl : lv_has ls 1 [(0, .int v1)] := hl
  refine lv_iload_n hx hb d_Tokens_isBehindBlank_0 rfl (lv_at hl 0 rfl) ?_
  refine lv_bipush (v := 8) hx hb d_Tokens_isBehindBlank_1 (by decide) ?_
  refine lv_iand hx hb d_Tokens_isBehindBlank_3 ?_
  refine lv_if_eq (tgt := 11) hx hb d_Tokens_isBehindBlank_4 (by decide) (fun hc1 => ?_) (fun hc1 => ?_)
  · refine lv_iconst (v := 0) hx hb d_Tokens_isBehindBlank_11 (by decide) ?_
    exact fin_z (g := g) (ws := Sw shC g ad S) (v := 0) hx hb hr hlocks rfl (by decide +kernel) (by decide +kernel) hP hD hS ⟨_, rfl, (by unfold r_Tokens_isBehindBlank; rw [if_pos hc1]), rfl⟩ d_Tokens_isBehindBlank_12
  · refine lv_iconst (v := 1) hx hb d_Tokens_isBehindBlank_7 (by decide) ?_
    refine lv_goto (tgt := 12) hx hb d_Tokens_isBehindBlank_8 (by decide) ?_
    exact fin_z (g := g) (ws := Sw shC g ad S) (v := 1) hx hb hr hlocks rfl (by decide +kernel) (by decide +kernel) hP hD hS ⟨_, rfl, (by unfold r_Tokens_isBehindBlank; rw [if_neg hc1]), rfl⟩ d_Tokens_isBehindBlank_12
def r_Tokens_isFirstLook (S : sS) (v1 : Int32) : Int32 := if (v1 &&& (16 : Int32)) = (0 : Int32) then 0 else 1
abbrev rm_a_Tokens_isFirstLook : Room := { frames := 0, cells := 0, slots := 0, locals := 0 }
set_option maxHeartbeats 4000000 in
set_option maxRecDepth 100000 in
theorem a_Tokens_isFirstLook (l : Launch) (g : gG) (sz : Nat) (ad : Nat → Nat) (S : sS) (v1 : Int32) : Cz l y_Tokens_isFirstLook b_Tokens_isFirstLook 1 rm_a_Tokens_isFirstLook g [.int v1] (Sw shC g ad S) sz (fun r w => ∃ S' : sS, w = Sw shC g ad S' ∧ r = r_Tokens_isFirstLook S v1 ∧ S' = S) := by
  refine startZ (by decide) (Nat.le_of_ble_eq_true rfl) ?_
  intro p e s m below meth c A ls hx hb hr hml hlocks hmn hown htt hN hA hP hK hD hS hl
  have hown : s.vm.findClass "MacroMill$Tokens" = some m.cls := hown
  have hl : lv_has ls 1 [(0, .int v1)] := hl
  refine lv_iload_n hx hb d_Tokens_isFirstLook_0 rfl (lv_at hl 0 rfl) ?_
  refine lv_bipush (v := 16) hx hb d_Tokens_isFirstLook_1 (by decide) ?_
  refine lv_iand hx hb d_Tokens_isFirstLook_3 ?_
  refine lv_if_eq (tgt := 11) hx hb d_Tokens_isFirstLook_4 (by decide) (fun hc1 => ?_) (fun hc1 => ?_)
  · refine lv_iconst (v := 0) hx hb d_Tokens_isFirstLook_11 (by decide) ?_
    exact fin_z (g := g) (ws := Sw shC g ad S) (v := 0) hx hb hr hlocks rfl (by decide +kernel) (by decide +kernel) hP hD hS ⟨_, rfl, (by unfold r_Tokens_isFirstLook; rw [if_pos hc1]), rfl⟩ d_Tokens_isFirstLook_12
  · refine lv_iconst (v := 1) hx hb d_Tokens_isFirstLook_7 (by decide) ?_
    refine lv_goto (tgt := 12) hx hb d_Tokens_isFirstLook_8 (by decide) ?_
    exact fin_z (g := g) (ws := Sw shC g ad S) (v := 1) hx hb hr hlocks rfl (by decide +kernel) (by decide +kernel) hP hD hS ⟨_, rfl, (by unfold r_Tokens_isFirstLook; rw [if_neg hc1]), rfl⟩ d_Tokens_isFirstLook_12
def r_Tokens_setOf (S : sS) (v1 : Int32) : Int32 := (v1 >>> ((5 : Int32) &&& 31)) &&& (1023 : Int32)
abbrev rm_a_Tokens_setOf : Room := { frames := 0, cells := 0, slots := 0, locals := 0 }
set_option maxHeartbeats 4000000 in
set_option maxRecDepth 100000 in
theorem a_Tokens_setOf (l : Launch) (g : gG) (sz : Nat) (ad : Nat → Nat) (S : sS) (v1 : Int32) : Ci l y_Tokens_setOf b_Tokens_setOf 1 rm_a_Tokens_setOf g [.int v1] (Sw shC g ad S) sz (fun r w => ∃ S' : sS, w = Sw shC g ad S' ∧ r = r_Tokens_setOf S v1 ∧ S' = S) := by
  refine startI (by decide) (Nat.le_of_ble_eq_true rfl) ?_
  intro p e s m below meth c A ls hx hb hr hml hlocks hmn hown htt hN hA hP hK hD hS hl
  have hown : s.vm.findClass "MacroMill$Tokens" = some m.cls := hown
  have hl : lv_has ls 1 [(0, .int v1)] := hl
  refine lv_iload_n hx hb d_Tokens_setOf_0 rfl (lv_at hl 0 rfl) ?_
  refine lv_iconst (v := 5) hx hb d_Tokens_setOf_1 (by decide) ?_
  refine lv_ishr hx hb d_Tokens_setOf_2 ?_
  refine lv_sipush (v := 1023) hx hb d_Tokens_setOf_3 (by decide) ?_
  refine lv_iand hx hb d_Tokens_setOf_6 ?_
  exact fin_i (g := g) (ws := Sw shC g ad S) (v := (v1 >>> ((5 : Int32) &&& 31)) &&& (1023 : Int32)) hx hb hr hlocks (by decide +kernel) (by decide +kernel) hP hD hS ⟨_, rfl, rfl, rfl⟩ d_Tokens_setOf_7
def r_Tokens_lineOf (S : sS) (v1 : Int32) : Int32 := (v1.toUInt32 >>> ((15 : Int32).toUInt32 &&& Int32.toUInt32 31)).toInt32
abbrev rm_a_Tokens_lineOf : Room := { frames := 0, cells := 0, slots := 0, locals := 0 }
set_option maxHeartbeats 4000000 in
set_option maxRecDepth 100000 in
theorem a_Tokens_lineOf (l : Launch) (g : gG) (sz : Nat) (ad : Nat → Nat) (S : sS) (v1 : Int32) : Ci l y_Tokens_lineOf b_Tokens_lineOf 1 rm_a_Tokens_lineOf g [.int v1] (Sw shC g ad S) sz (fun r w => ∃ S' : sS, w = Sw shC g ad S' ∧ r = r_Tokens_lineOf S v1 ∧ S' = S) := by
  refine startI (by decide) (Nat.le_of_ble_eq_true rfl) ?_
  intro p e s m below meth c A ls hx hb hr hml hlocks hmn hown htt hN hA hP hK hD hS hl
  have hown : s.vm.findClass "MacroMill$Tokens" = some m.cls := hown
  have hl : lv_has ls 1 [(0, .int v1)] := hl
  refine lv_iload_n hx hb d_Tokens_lineOf_0 rfl (lv_at hl 0 rfl) ?_
  refine lv_bipush (v := 15) hx hb d_Tokens_lineOf_1 (by decide) ?_
  refine lv_iushr (v := (v1.toUInt32 >>> ((15 : Int32).toUInt32 &&& Int32.toUInt32 31)).toInt32) hx hb d_Tokens_lineOf_3 rfl ?_
  exact fin_i (g := g) (ws := Sw shC g ad S) (v := (v1.toUInt32 >>> ((15 : Int32).toUInt32 &&& Int32.toUInt32 31)).toInt32) hx hb hr hlocks (by decide +kernel) (by decide +kernel) hP hD hS ⟨_, rfl, rfl, rfl⟩ d_Tokens_lineOf_4
def r_Tokens_line (S : sS) (v1 : Int32) : Int32 := ((S.2.1 40 (v1 : Int32).toNatClampNeg).toUInt32 >>> ((15 : Int32).toUInt32 &&& Int32.toUInt32 31)).toInt32
abbrev rm_a_Tokens_line : Room := { frames := 0, cells := 0, slots := 0, locals := 0 }
set_option maxHeartbeats 4000000 in
set_option maxRecDepth 100000 in
theorem a_Tokens_line (l : Launch) (g : gG) (sz : Nat) (ad : Nat → Nat) (S : sS) (v1 : Int32) (hb0 : vp_in (v1) 120784) : Ci l y_Tokens_line b_Tokens_line 2 rm_a_Tokens_line g [.ref (ad 9), .int v1] (Sw shC g ad S) sz (fun r w => ∃ S' : sS, w = Sw shC g ad S' ∧ r = r_Tokens_line S v1 ∧ S' = S) := by
  refine startI (by decide) (Nat.le_of_ble_eq_true rfl) ?_
  intro p e s m below meth c A ls hx hb hr hml hlocks hmn hown htt hN hA hP hK hD hS hl
  have hown : s.vm.findClass "MacroMill$Tokens" = some m.cls := hown
  have hl : lv_has ls 2 [(0, .ref (ad 9)), (1, .int v1)] := hl
  refine lv_aload_n hx hb d_Tokens_line_0 rfl (lv_at hl 0 rfl) ?_
  refine S_getR (h := shC) (C := "MacroMill$Tokens") (T := F_Tokens) hx hb htt in_Tokens hown hK hP 9 6 rfl 53 rfl rfl (by decide) (htt _ k_649) (fun _ h9 => h9) d_Tokens_line_1 ?_
  refine lv_iload_n hx hb d_Tokens_line_4 rfl (lv_at hl 1 rfl) ?_
  refine S_iald (h := shC) (i := v1) hx hb hK hP 40 rfl hb0 d_Tokens_line_5 ?_
  refine lv_bipush (v := 15) hx hb d_Tokens_line_6 (by decide) ?_
  refine lv_iushr (v := ((S.2.1 40 (v1 : Int32).toNatClampNeg).toUInt32 >>> ((15 : Int32).toUInt32 &&& Int32.toUInt32 31)).toInt32) hx hb d_Tokens_line_8 rfl ?_
  exact fin_i (g := g) (ws := Sw shC g ad S) (v := ((S.2.1 40 (v1 : Int32).toNatClampNeg).toUInt32 >>> ((15 : Int32).toUInt32 &&& Int32.toUInt32 31)).toInt32) hx hb hr hlocks (by decide +kernel) (by decide +kernel) hP hD hS ⟨_, rfl, rfl, rfl⟩ d_Tokens_line_9
def r_Tokens_kind (S : sS) (v1 : Int32) : Int32 := (S.2.1 40 (v1 : Int32).toNatClampNeg) &&& (7 : Int32)
abbrev rm_a_Tokens_kind : Room := { frames := 0, cells := 0, slots := 0, locals := 0 }
set_option maxHeartbeats 4000000 in
set_option maxRecDepth 100000 in
theorem a_Tokens_kind (l : Launch) (g : gG) (sz : Nat) (ad : Nat → Nat) (S : sS) (v1 : Int32) (hb0 : vp_in (v1) 120784) : Ci l y_Tokens_kind b_Tokens_kind 2 rm_a_Tokens_kind g [.ref (ad 9), .int v1] (Sw shC g ad S) sz (fun r w => ∃ S' : sS, w = Sw shC g ad S' ∧ r = r_Tokens_kind S v1 ∧ S' = S) := by
  refine startI (by decide) (Nat.le_of_ble_eq_true rfl) ?_
  intro p e s m below meth c A ls hx hb hr hml hlocks hmn hown htt hN hA hP hK hD hS hl
  have hown : s.vm.findClass "MacroMill$Tokens" = some m.cls := hown
  have hl : lv_has ls 2 [(0, .ref (ad 9)), (1, .int v1)] := hl
  refine lv_aload_n hx hb d_Tokens_kind_0 rfl (lv_at hl 0 rfl) ?_
  refine S_getR (h := shC) (C := "MacroMill$Tokens") (T := F_Tokens) hx hb htt in_Tokens hown hK hP 9 6 rfl 53 rfl rfl (by decide) (htt _ k_649) (fun _ h9 => h9) d_Tokens_kind_1 ?_
  refine lv_iload_n hx hb d_Tokens_kind_4 rfl (lv_at hl 1 rfl) ?_
  refine S_iald (h := shC) (i := v1) hx hb hK hP 40 rfl hb0 d_Tokens_kind_5 ?_
  refine lv_bipush (v := 7) hx hb d_Tokens_kind_6 (by decide) ?_
  refine lv_iand hx hb d_Tokens_kind_8 ?_
  exact fin_i (g := g) (ws := Sw shC g ad S) (v := (S.2.1 40 (v1 : Int32).toNatClampNeg) &&& (7 : Int32)) hx hb hr hlocks (by decide +kernel) (by decide +kernel) hP hD hS ⟨_, rfl, rfl, rfl⟩ d_Tokens_kind_9
def r_Tokens_from (S : sS) (v1 : Int32) : Int32 := (((S.2.2 39 (v1 : Int32).toNatClampNeg).toUInt64 >>> ((32 : Int32).toInt64.toUInt64 &&& Int64.toUInt64 63)).toInt64).toInt32
abbrev rm_a_Tokens_from : Room := { frames := 0, cells := 0, slots := 0, locals := 0 }
set_option maxHeartbeats 4000000 in
set_option maxRecDepth 100000 in
theorem a_Tokens_from (l : Launch) (g : gG) (sz : Nat) (ad : Nat → Nat) (S : sS) (v1 : Int32) (hb0 : vp_in (v1) 120784) : Ci l y_Tokens_from b_Tokens_from 2 rm_a_Tokens_from g [.ref (ad 9), .int v1] (Sw shC g ad S) sz (fun r w => ∃ S' : sS, w = Sw shC g ad S' ∧ r = r_Tokens_from S v1 ∧ S' = S) := by
  refine startI (by decide) (Nat.le_of_ble_eq_true rfl) ?_
  intro p e s m below meth c A ls hx hb hr hml hlocks hmn hown htt hN hA hP hK hD hS hl
  have hown : s.vm.findClass "MacroMill$Tokens" = some m.cls := hown
  have hl : lv_has ls 2 [(0, .ref (ad 9)), (1, .int v1)] := hl
  refine lv_aload_n hx hb d_Tokens_from_0 rfl (lv_at hl 0 rfl) ?_
  refine S_getR (h := shC) (C := "MacroMill$Tokens") (T := F_Tokens) hx hb htt in_Tokens hown hK hP 9 5 rfl 52 rfl rfl (by decide) (htt _ k_645) (fun _ h9 => h9) d_Tokens_from_1 ?_
  refine lv_iload_n hx hb d_Tokens_from_4 rfl (lv_at hl 1 rfl) ?_
  refine S_lald (h := shC) (i := v1) hx hb hK hP 39 rfl hb0 d_Tokens_from_5 ?_
  refine lv_bipush (v := 32) hx hb d_Tokens_from_6 (by decide) ?_
  refine lv_lushr (v := ((S.2.2 39 (v1 : Int32).toNatClampNeg).toUInt64 >>> ((32 : Int32).toInt64.toUInt64 &&& Int64.toUInt64 63)).toInt64) hx hb d_Tokens_from_8 rfl ?_
  refine lv_l2i (v := (((S.2.2 39 (v1 : Int32).toNatClampNeg).toUInt64 >>> ((32 : Int32).toInt64.toUInt64 &&& Int64.toUInt64 63)).toInt64).toInt32) hx hb d_Tokens_from_9 rfl ?_
  exact fin_i (g := g) (ws := Sw shC g ad S) (v := (((S.2.2 39 (v1 : Int32).toNatClampNeg).toUInt64 >>> ((32 : Int32).toInt64.toUInt64 &&& Int64.toUInt64 63)).toInt64).toInt32) hx hb hr hlocks (by decide +kernel) (by decide +kernel) hP hD hS ⟨_, rfl, rfl, rfl⟩ d_Tokens_from_10
def r_Tokens_length (S : sS) (v1 : Int32) : Int32 := (S.2.2 39 (v1 : Int32).toNatClampNeg).toInt32
abbrev rm_a_Tokens_length : Room := { frames := 0, cells := 0, slots := 0, locals := 0 }
set_option maxHeartbeats 4000000 in
set_option maxRecDepth 100000 in
theorem a_Tokens_length (l : Launch) (g : gG) (sz : Nat) (ad : Nat → Nat) (S : sS) (v1 : Int32) (hb0 : vp_in (v1) 120784) : Ci l y_Tokens_length b_Tokens_length 2 rm_a_Tokens_length g [.ref (ad 9), .int v1] (Sw shC g ad S) sz (fun r w => ∃ S' : sS, w = Sw shC g ad S' ∧ r = r_Tokens_length S v1 ∧ S' = S) := by
  refine startI (by decide) (Nat.le_of_ble_eq_true rfl) ?_
  intro p e s m below meth c A ls hx hb hr hml hlocks hmn hown htt hN hA hP hK hD hS hl
  have hown : s.vm.findClass "MacroMill$Tokens" = some m.cls := hown
  have hl : lv_has ls 2 [(0, .ref (ad 9)), (1, .int v1)] := hl
  refine lv_aload_n hx hb d_Tokens_length_0 rfl (lv_at hl 0 rfl) ?_
  refine S_getR (h := shC) (C := "MacroMill$Tokens") (T := F_Tokens) hx hb htt in_Tokens hown hK hP 9 5 rfl 52 rfl rfl (by decide) (htt _ k_645) (fun _ h9 => h9) d_Tokens_length_1 ?_
  refine lv_iload_n hx hb d_Tokens_length_4 rfl (lv_at hl 1 rfl) ?_
  refine S_lald (h := shC) (i := v1) hx hb hK hP 39 rfl hb0 d_Tokens_length_5 ?_
  refine lv_l2i (v := (S.2.2 39 (v1 : Int32).toNatClampNeg).toInt32) hx hb d_Tokens_length_6 rfl ?_
  exact fin_i (g := g) (ws := Sw shC g ad S) (v := (S.2.2 39 (v1 : Int32).toNatClampNeg).toInt32) hx hb hr hlocks (by decide +kernel) (by decide +kernel) hP hD hS ⟨_, rfl, rfl, rfl⟩ d_Tokens_length_7
def r_Tokens_isSign (S : sS) (v1 : Int32) (v2 : Int32) : Int32 := if (r_Tokens_length S (v1)) = (1 : Int32) then (if (S.2.1 37 (r_Tokens_from S (v1) : Int32).toNatClampNeg) = v2 then 1 else 0) else 0
abbrev rm_a_Tokens_isSign : Room := { frames := 1, cells := 0, slots := 0, locals := 21 }
set_option maxHeartbeats 4000000 in
set_option maxRecDepth 100000 in
theorem a_Tokens_isSign (l : Launch) (g : gG) (sz : Nat) (ad : Nat → Nat) (S : sS) (v1 : Int32) (v2 : Int32) (hb0 : vp_in ((v1)) 120784) (hb1 : (r_Tokens_length S (v1)) = (1 : Int32) → vp_in ((v1)) 120784) (hb2 : (r_Tokens_length S (v1)) = (1 : Int32) → vp_in (r_Tokens_from S (v1)) 125538) : Cz l y_Tokens_isSign b_Tokens_isSign 3 rm_a_Tokens_isSign g [.ref (ad 9), .int v1, .int v2] (Sw shC g ad S) sz (fun r w => ∃ S' : sS, w = Sw shC g ad S' ∧ r = r_Tokens_isSign S v1 v2 ∧ S' = S) := by
  refine startZ (by decide) (Nat.le_of_ble_eq_true rfl) ?_
  intro p e s m below meth c A ls hx hb hr hml hlocks hmn hown htt hN hA hP hK hD hS hl
  have hown : s.vm.findClass "MacroMill$Tokens" = some m.cls := hown
  have hl : lv_has ls 3 [(0, .ref (ad 9)), (1, .int v1), (2, .int v2)] := hl
  refine lv_aload_n hx hb d_Tokens_isSign_0 rfl (lv_at hl 0 rfl) ?_
  refine lv_iload_n hx hb d_Tokens_isSign_1 rfl (lv_at hl 1 rfl) ?_
  refine go_iS (As := [.ref (ad 9), .int v1]) (g := g) (A := A) (h := shC) hP hK hD hS hA hN (fun hp => va_runV (As := [.int v1]) (rest := []) ⟨hx, hb, hml, hown, htt⟩ (a_Tokens_length l g _ ad S (v1) hb0) ⟨(cb_L htt k_1712 k_271 k_1709 hd_Tokens_length ⟨(by decide +kernel), (by decide +kernel)⟩), htt _ k_1710, htt _ k_1711⟩ ⟨hp.1, S_recv hK hP 9 rfl rfl, hp.2⟩ rfl rfl hl.1 rfl (lv_room (Nat.le_of_ble_eq_true rfl)) d_Tokens_isSign_2 ⟨(by decide +kernel), (by decide +kernel)⟩) (fun r9 Sn H locs hw9 hP hD hS => ?_)
  obtain ⟨rfl, e9⟩ := hw9
  rw [e9] at hP hD
  refine W.widen (k := 0) (n := 0) (by decide +kernel) (by decide +kernel) ?_
  refine lv_iconst (v := 1) hx hb d_Tokens_isSign_5 (by decide) ?_
  refine lv_icmp_ne (tgt := 27) hx hb d_Tokens_isSign_6 (by decide) (fun hc1 => ?_) (fun hc1 => ?_)
  · refine lv_iconst (v := 0) hx hb d_Tokens_isSign_27 (by decide) ?_
    exact fin_z (g := g) (ws := Sw shC g ad S) (v := 0) hx hb hr hlocks rfl (by decide +kernel) (by decide +kernel) hP hD hS ⟨_, rfl, (by unfold r_Tokens_isSign; rw [if_neg hc1]), rfl⟩ d_Tokens_isSign_28
  · refine lv_aload_n hx hb d_Tokens_isSign_9 rfl (lv_at hl 0 rfl) ?_
    refine S_getR (h := shC) (C := "MacroMill$Tokens") (T := F_Tokens) hx hb htt in_Tokens hown hK hP 9 0 rfl 50 rfl rfl (by decide) (htt _ k_633) (fun _ h9 => h9) d_Tokens_isSign_10 ?_
    refine lv_aload_n hx hb d_Tokens_isSign_13 rfl (lv_at hl 0 rfl) ?_
    refine lv_iload_n hx hb d_Tokens_isSign_14 rfl (lv_at hl 1 rfl) ?_
    refine go_iS (As := [.ref (ad 9), .int v1]) (g := g) (A := A) (h := shC) hP hK hD hS hA hN (fun hp => va_runV (As := [.int v1]) (rest := [.ref (ad 50)]) ⟨hx, hb, hml, hown, htt⟩ (a_Tokens_from l g _ ad S (v1) (hb1 hc1)) ⟨(cb_L htt k_1716 k_271 k_1713 hd_Tokens_from ⟨(by decide +kernel), (by decide +kernel)⟩), htt _ k_1714, htt _ k_1715⟩ ⟨hp.1, S_recv hK hP 9 rfl rfl, hp.2⟩ rfl rfl hl.1 rfl (lv_room (Nat.le_of_ble_eq_true rfl)) d_Tokens_isSign_15 ⟨(by decide +kernel), (by decide +kernel)⟩) (fun r9 Sn_2 H locs hw9 hP hD hS => ?_)
    obtain ⟨rfl, e9⟩ := hw9
    rw [e9] at hP hD
    refine W.widen (k := 0) (n := 0) (by decide +kernel) (by decide +kernel) ?_
    refine S_bald (h := shC) (i := r_Tokens_from S (v1)) hx hb hK hP 37 rfl (hb2 hc1) d_Tokens_isSign_18 ?_
    refine lv_iload_n hx hb d_Tokens_isSign_19 rfl (lv_at hl 2 rfl) ?_
    refine lv_icmp_ne (tgt := 27) hx hb d_Tokens_isSign_20 (by decide) (fun hc2 => ?_) (fun hc2 => ?_)
    · show W _ _ _ _ _ _ _ _ _ _ _ _ _ _ _ (F0 _ 27 _ _)
      refine lv_iconst (v := 0) hx hb d_Tokens_isSign_27 (by decide) ?_
      exact fin_z (g := g) (ws := Sw shC g ad S) (v := 0) hx hb hr hlocks rfl (by decide +kernel) (by decide +kernel) hP hD hS ⟨_, rfl, (by unfold r_Tokens_isSign; rw [if_pos hc1, if_neg hc2]), rfl⟩ d_Tokens_isSign_28
    · show W _ _ _ _ _ _ _ _ _ _ _ _ _ _ _ (F0 _ 23 _ _)
      refine lv_iconst (v := 1) hx hb d_Tokens_isSign_23 (by decide) ?_
      refine lv_goto (tgt := 28) hx hb d_Tokens_isSign_24 (by decide) ?_
      exact fin_z (g := g) (ws := Sw shC g ad S) (v := 1) hx hb hr hlocks rfl (by decide +kernel) (by decide +kernel) hP hD hS ⟨_, rfl, (by unfold r_Tokens_isSign; rw [if_pos hc1, if_pos hc2]), rfl⟩ d_Tokens_isSign_28
def r_Tokens_isNarrow (S : sS) (v1 : Int32) (v2 : Int32) : Int32 := if (r_Tokens_kind S (v1)) = v2 then (if (S.2.1 37 (r_Tokens_from S (v1) : Int32).toNatClampNeg) = (76 : Int32) then 0 else 1) else 0
abbrev rm_a_Tokens_isNarrow : Room := { frames := 1, cells := 0, slots := 0, locals := 21 }
set_option maxHeartbeats 4000000 in
set_option maxRecDepth 100000 in
theorem a_Tokens_isNarrow (l : Launch) (g : gG) (sz : Nat) (ad : Nat → Nat) (S : sS) (v1 : Int32) (v2 : Int32) (hb0 : vp_in ((v1)) 120784) (hb1 : (r_Tokens_kind S (v1)) = v2 → vp_in ((v1)) 120784) (hb2 : (r_Tokens_kind S (v1)) = v2 → vp_in (r_Tokens_from S (v1)) 125538) : Cz l y_Tokens_isNarrow b_Tokens_isNarrow 3 rm_a_Tokens_isNarrow g [.ref (ad 9), .int v1, .int v2] (Sw shC g ad S) sz (fun r w => ∃ S' : sS, w = Sw shC g ad S' ∧ r = r_Tokens_isNarrow S v1 v2 ∧ S' = S) := by
  refine startZ (by decide) (Nat.le_of_ble_eq_true rfl) ?_
  intro p e s m below meth c A ls hx hb hr hml hlocks hmn hown htt hN hA hP hK hD hS hl
  have hown : s.vm.findClass "MacroMill$Tokens" = some m.cls := hown
  have hl : lv_has ls 3 [(0, .ref (ad 9)), (1, .int v1), (2, .int v2)] := hl
  refine lv_aload_n hx hb d_Tokens_isNarrow_0 rfl (lv_at hl 0 rfl) ?_
  refine lv_iload_n hx hb d_Tokens_isNarrow_1 rfl (lv_at hl 1 rfl) ?_
  refine go_iS (As := [.ref (ad 9), .int v1]) (g := g) (A := A) (h := shC) hP hK hD hS hA hN (fun hp => va_runV (As := [.int v1]) (rest := []) ⟨hx, hb, hml, hown, htt⟩ (a_Tokens_kind l g _ ad S (v1) hb0) ⟨(cb_L htt k_1823 k_271 k_2108 hd_Tokens_kind ⟨(by decide +kernel), (by decide +kernel)⟩), htt _ k_1821, htt _ k_1822⟩ ⟨hp.1, S_recv hK hP 9 rfl rfl, hp.2⟩ rfl rfl hl.1 rfl (lv_room (Nat.le_of_ble_eq_true rfl)) d_Tokens_isNarrow_2 ⟨(by decide +kernel), (by decide +kernel)⟩) (fun r9 Sn H locs hw9 hP hD hS => ?_)
  obtain ⟨rfl, e9⟩ := hw9
  rw [e9] at hP hD
  refine W.widen (k := 0) (n := 0) (by decide +kernel) (by decide +kernel) ?_
  refine lv_iload_n hx hb d_Tokens_isNarrow_5 rfl (lv_at hl 2 rfl) ?_
  refine lv_icmp_ne (tgt := 28) hx hb d_Tokens_isNarrow_6 (by decide) (fun hc1 => ?_) (fun hc1 => ?_)
  · refine lv_iconst (v := 0) hx hb d_Tokens_isNarrow_28 (by decide) ?_
    exact fin_z (g := g) (ws := Sw shC g ad S) (v := 0) hx hb hr hlocks rfl (by decide +kernel) (by decide +kernel) hP hD hS ⟨_, rfl, (by unfold r_Tokens_isNarrow; rw [if_neg hc1]), rfl⟩ d_Tokens_isNarrow_29
  · refine lv_aload_n hx hb d_Tokens_isNarrow_9 rfl (lv_at hl 0 rfl) ?_
    refine S_getR (h := shC) (C := "MacroMill$Tokens") (T := F_Tokens) hx hb htt in_Tokens hown hK hP 9 0 rfl 50 rfl rfl (by decide) (htt _ k_633) (fun _ h9 => h9) d_Tokens_isNarrow_10 ?_
    refine lv_aload_n hx hb d_Tokens_isNarrow_13 rfl (lv_at hl 0 rfl) ?_
    refine lv_iload_n hx hb d_Tokens_isNarrow_14 rfl (lv_at hl 1 rfl) ?_
    refine go_iS (As := [.ref (ad 9), .int v1]) (g := g) (A := A) (h := shC) hP hK hD hS hA hN (fun hp => va_runV (As := [.int v1]) (rest := [.ref (ad 50)]) ⟨hx, hb, hml, hown, htt⟩ (a_Tokens_from l g _ ad S (v1) (hb1 hc1)) ⟨(cb_L htt k_1716 k_271 k_1713 hd_Tokens_from ⟨(by decide +kernel), (by decide +kernel)⟩), htt _ k_1714, htt _ k_1715⟩ ⟨hp.1, S_recv hK hP 9 rfl rfl, hp.2⟩ rfl rfl hl.1 rfl (lv_room (Nat.le_of_ble_eq_true rfl)) d_Tokens_isNarrow_15 ⟨(by decide +kernel), (by decide +kernel)⟩) (fun r9 Sn_2 H locs hw9 hP hD hS => ?_)
    obtain ⟨rfl, e9⟩ := hw9
    rw [e9] at hP hD
    refine W.widen (k := 0) (n := 0) (by decide +kernel) (by decide +kernel) ?_
    refine S_bald (h := shC) (i := r_Tokens_from S (v1)) hx hb hK hP 37 rfl (hb2 hc1) d_Tokens_isNarrow_18 ?_
    refine lv_bipush (v := 76) hx hb d_Tokens_isNarrow_19 (by decide) ?_
    refine lv_icmp_eq (tgt := 28) hx hb d_Tokens_isNarrow_21 (by decide) (fun hc2 => ?_) (fun hc2 => ?_)
    · show W _ _ _ _ _ _ _ _ _ _ _ _ _ _ _ (F0 _ 28 _ _)
      refine lv_iconst (v := 0) hx hb d_Tokens_isNarrow_28 (by decide) ?_
      exact fin_z (g := g) (ws := Sw shC g ad S) (v := 0) hx hb hr hlocks rfl (by decide +kernel) (by decide +kernel) hP hD hS ⟨_, rfl, (by unfold r_Tokens_isNarrow; rw [if_pos hc1, if_pos hc2]), rfl⟩ d_Tokens_isNarrow_29
    · show W _ _ _ _ _ _ _ _ _ _ _ _ _ _ _ (F0 _ 24 _ _)
      refine lv_iconst (v := 1) hx hb d_Tokens_isNarrow_24 (by decide) ?_
      refine lv_goto (tgt := 29) hx hb d_Tokens_isNarrow_25 (by decide) ?_
      exact fin_z (g := g) (ws := Sw shC g ad S) (v := 1) hx hb hr hlocks rfl (by decide +kernel) (by decide +kernel) hP hD hS ⟨_, rfl, (by unfold r_Tokens_isNarrow; rw [if_pos hc1, if_neg hc2]), rfl⟩ d_Tokens_isNarrow_29
def r_Tokens_add (S : sS) (v1 : Int64) (v2 : Int32) : Int32 := if (S.1 9 8) < (120784 : Int32) then (((S.1 9 8) + (1 : Int32)) - (1 : Int32)) else ((-1))
def s_Tokens_add (S : sS) (v1 : Int64) (v2 : Int32) : sS := if (S.1 9 8) < (120784 : Int32) then ((putI (putA (putA (putL S 39 (S.1 9 8 : Int32).toNatClampNeg v1) 40 (S.1 9 8 : Int32).toNatClampNeg v2) 41 (S.1 9 8 : Int32).toNatClampNeg (-1)) 9 8 ((S.1 9 8) + (1 : Int32)))) else S
abbrev rm_a_Tokens_add : Room := { frames := 0, cells := 0, slots := 0, locals := 0 }
set_option maxHeartbeats 4000000 in
set_option maxRecDepth 100000 in
theorem a_Tokens_add (l : Launch) (g : gG) (sz : Nat) (ad : Nat → Nat) (S : sS) (v1 : Int64) (v2 : Int32) (hb0 : (S.1 9 8) < (120784 : Int32) → vp_in (S.1 9 8) 120784) : Ci l y_Tokens_add b_Tokens_add 4 rm_a_Tokens_add g [.ref (ad 9), .long v1, .int v2] (Sw shC g ad S) sz (fun r w => ∃ S' : sS, w = Sw shC g ad S' ∧ r = r_Tokens_add S v1 v2 ∧ S' = s_Tokens_add S v1 v2) := by
  refine startI (by decide) (Nat.le_of_ble_eq_true rfl) ?_
  intro p e s m below meth c A ls hx hb hr hml hlocks hmn hown htt hN hA hP hK hD hS hl
  have hown : s.vm.findClass "MacroMill$Tokens" = some m.cls := hown
  have hl : lv_has ls 4 [(0, .ref (ad 9)), (1, .long v1), (3, .int v2)] := hl
  refine lv_aload_n hx hb d_Tokens_add_0 rfl (lv_at hl 0 rfl) ?_
  refine S_getI (h := shC) (C := "MacroMill$Tokens") (T := F_Tokens) hx hb htt in_Tokens hown hK hP 9 8 rfl rfl rfl (by decide) (htt _ k_657) (fun _ h9 => h9) d_Tokens_add_1 ?_
  refine lv_ldc (v := 120784) hx hb hown (htt _ k_630) d_Tokens_add_4 ?_
  refine lv_icmp_lt (tgt := 11) hx hb d_Tokens_add_6 (by decide) (fun hc1 => ?_) (fun hc1 => ?_)
  · refine lv_aload_n hx hb d_Tokens_add_11 rfl (lv_at hl 0 rfl) ?_
    refine S_getR (h := shC) (C := "MacroMill$Tokens") (T := F_Tokens) hx hb htt in_Tokens hown hK hP 9 5 rfl 52 rfl rfl (by decide) (htt _ k_645) (fun _ h9 => h9) d_Tokens_add_12 ?_
    refine lv_aload_n hx hb d_Tokens_add_15 rfl (lv_at hl 0 rfl) ?_
    refine S_getI (h := shC) (C := "MacroMill$Tokens") (T := F_Tokens) hx hb htt in_Tokens hown hK hP 9 8 rfl rfl rfl (by decide) (htt _ k_657) (fun _ h9 => h9) d_Tokens_add_16 ?_
    refine lv_lload_n hx hb d_Tokens_add_19 rfl (lv_at hl 1 rfl) ?_
    refine S_last (h := shC) (i := S.1 9 8) (v := v1) hx hb hK hP hD hS 39 rfl (hb0 hc1) d_Tokens_add_20 (fun H locs hP hD hS => ?_)
    refine lv_aload_n hx hb d_Tokens_add_21 rfl (lv_at hl 0 rfl) ?_
    refine S_getR (h := shC) (C := "MacroMill$Tokens") (T := F_Tokens) hx hb htt in_Tokens hown hK hP 9 6 rfl 53 rfl rfl (by decide) (htt _ k_649) (fun _ h9 => h9) d_Tokens_add_22 ?_
    show W _ _ _ _ _ _ _ _ _ _ _ _ _ _ _ (F0 _ 25 _ _)
    refine lv_aload_n hx hb d_Tokens_add_25 rfl (lv_at hl 0 rfl) ?_
    refine S_getI (h := shC) (C := "MacroMill$Tokens") (T := F_Tokens) hx hb htt in_Tokens hown hK hP 9 8 rfl rfl rfl (by decide) (htt _ k_657) (fun _ h9 => h9) d_Tokens_add_26 ?_
    refine toI (y := S.1 9 8) rfl ?_
    refine lv_iload_n hx hb d_Tokens_add_29 rfl (lv_at hl 2 rfl) ?_
    refine S_iast (h := shC) (i := S.1 9 8) (v := v2) hx hb hK hP hD hS 40 rfl (hb0 hc1) d_Tokens_add_30 (fun H locs hP hD hS => ?_)
    refine lv_aload_n hx hb d_Tokens_add_31 rfl (lv_at hl 0 rfl) ?_
    refine S_getR (h := shC) (C := "MacroMill$Tokens") (T := F_Tokens) hx hb htt in_Tokens hown hK hP 9 7 rfl 54 rfl rfl (by decide) (htt _ k_653) (fun _ h9 => h9) d_Tokens_add_32 ?_
    refine lv_aload_n hx hb d_Tokens_add_35 rfl (lv_at hl 0 rfl) ?_
    refine S_getI (h := shC) (C := "MacroMill$Tokens") (T := F_Tokens) hx hb htt in_Tokens hown hK hP 9 8 rfl rfl rfl (by decide) (htt _ k_657) (fun _ h9 => h9) d_Tokens_add_36 ?_
    refine toI (y := S.1 9 8) rfl ?_
    refine lv_iconst (v := (-1)) hx hb d_Tokens_add_39 (by decide) ?_
    refine S_iast (h := shC) (i := S.1 9 8) (v := (-1)) hx hb hK hP hD hS 41 rfl (hb0 hc1) d_Tokens_add_40 (fun H locs hP hD hS => ?_)
    refine lv_aload_n hx hb d_Tokens_add_41 rfl (lv_at hl 0 rfl) ?_
    refine lv_dup hx hb d_Tokens_add_42 rfl ?_
    show W _ _ _ _ _ _ _ _ _ _ _ _ _ _ _ (F0 _ 43 _ _)
    refine S_getI (h := shC) (C := "MacroMill$Tokens") (T := F_Tokens) hx hb htt in_Tokens hown hK hP 9 8 rfl rfl rfl (by decide) (htt _ k_657) (fun _ h9 => h9) d_Tokens_add_43 ?_
    refine toI (y := S.1 9 8) rfl ?_
    refine lv_iconst (v := 1) hx hb d_Tokens_add_46 (by decide) ?_
    refine lv_iadd hx hb d_Tokens_add_47 ?_
    refine S_put (h := shC) (C := "MacroMill$Tokens") (T := F_Tokens) (v := (S.1 9 8) + (1 : Int32)) hx hb htt in_Tokens t_Tokens t_Tokens_ok n_Tokens hown hK hP hD hS 9 8 rfl rfl rfl (by decide) (htt _ k_657) (fun _ h9 => h9) rfl rfl rfl d_Tokens_add_48 (fun H locs hP hD hS => ?_)
    refine lv_aload_n hx hb d_Tokens_add_51 rfl (lv_at hl 0 rfl) ?_
    refine S_getI (h := shC) (C := "MacroMill$Tokens") (T := F_Tokens) hx hb htt in_Tokens hown hK hP 9 8 rfl rfl rfl (by decide) (htt _ k_657) (fun _ h9 => h9) d_Tokens_add_52 ?_
    refine toI (y := (S.1 9 8) + (1 : Int32)) rfl ?_
    refine lv_iconst (v := 1) hx hb d_Tokens_add_55 (by decide) ?_
    refine lv_isub hx hb d_Tokens_add_56 ?_
    exact fin_i (g := g) (ws := Sw shC g ad (putI (putA (putA (putL S 39 (S.1 9 8 : Int32).toNatClampNeg v1) 40 (S.1 9 8 : Int32).toNatClampNeg v2) 41 (S.1 9 8 : Int32).toNatClampNeg (-1)) 9 8 ((S.1 9 8) + (1 : Int32)))) (v := ((S.1 9 8) + (1 : Int32)) - (1 : Int32)) hx hb hr hlocks (by decide +kernel) (by decide +kernel) hP hD hS ⟨_, rfl, (by unfold r_Tokens_add; rw [if_pos hc1]), (by unfold s_Tokens_add; rw [if_pos hc1])⟩ d_Tokens_add_57
  · refine lv_iconst (v := (-1)) hx hb d_Tokens_add_9 (by decide) ?_
    exact fin_i (g := g) (ws := Sw shC g ad S) (v := (-1)) hx hb hr hlocks (by decide +kernel) (by decide +kernel) hP hD hS ⟨_, rfl, (by unfold r_Tokens_add; rw [if_neg hc1]), (by unfold s_Tokens_add; rw [if_neg hc1])⟩ d_Tokens_add_10
def s_Tokens_becomeTruth (S : sS) (v1 : Int32) (v2 : Int32) : sS := if v2 = (0 : Int32) then ((putA (putL S 39 (v1 : Int32).toNatClampNeg (r_Tokens_spelled S (60000 : Int32) (1 : Int32))) 40 (v1 : Int32).toNatClampNeg (r_Tokens_withKind (putL S 39 (v1 : Int32).toNatClampNeg (r_Tokens_spelled S (60000 : Int32) (1 : Int32))) ((putL S 39 (v1 : Int32).toNatClampNeg (r_Tokens_spelled S (60000 : Int32) (1 : Int32))).2.1 40 (v1 : Int32).toNatClampNeg) (2 : Int32)))) else ((putA (putL S 39 (v1 : Int32).toNatClampNeg (r_Tokens_spelled S (60001 : Int32) (1 : Int32))) 40 (v1 : Int32).toNatClampNeg (r_Tokens_withKind (putL S 39 (v1 : Int32).toNatClampNeg (r_Tokens_spelled S (60001 : Int32) (1 : Int32))) ((putL S 39 (v1 : Int32).toNatClampNeg (r_Tokens_spelled S (60001 : Int32) (1 : Int32))).2.1 40 (v1 : Int32).toNatClampNeg) (2 : Int32))))
abbrev rm_a_Tokens_becomeTruth : Room := { frames := 1, cells := 0, slots := 0, locals := 21 }
set_option maxHeartbeats 4000000 in
set_option maxRecDepth 100000 in
theorem a_Tokens_becomeTruth (l : Launch) (g : gG) (sz : Nat) (ad : Nat → Nat) (S : sS) (v1 : Int32) (v2 : Int32) (hb0 : v2 = (0 : Int32) → vp_in (v1) 120784) (hb1 : ¬ (v2 = (0 : Int32)) → vp_in (v1) 120784) : Cv l y_Tokens_becomeTruth b_Tokens_becomeTruth 3 rm_a_Tokens_becomeTruth g [.ref (ad 9), .int v1, .int v2] (Sw shC g ad S) sz (fun w => ∃ S' : sS, w = Sw shC g ad S' ∧ S' = s_Tokens_becomeTruth S v1 v2) := by
  refine startV (by decide) (Nat.le_of_ble_eq_true rfl) ?_
  intro p e s m below meth c A ls hx hb hr hml hlocks hmn hown htt hN hA hP hK hD hS hl
  have hown : s.vm.findClass "MacroMill$Tokens" = some m.cls := hown
  have hl : lv_has ls 3 [(0, .ref (ad 9)), (1, .int v1), (2, .int v2)] := hl
  refine lv_aload_n hx hb d_Tokens_becomeTruth_0 rfl (lv_at hl 0 rfl) ?_
  refine S_getR (h := shC) (C := "MacroMill$Tokens") (T := F_Tokens) hx hb htt in_Tokens hown hK hP 9 5 rfl 52 rfl rfl (by decide) (htt _ k_645) (fun _ h9 => h9) d_Tokens_becomeTruth_1 ?_
  refine lv_iload_n hx hb d_Tokens_becomeTruth_4 rfl (lv_at hl 1 rfl) ?_
  refine lv_iload_n hx hb d_Tokens_becomeTruth_5 rfl (lv_at hl 2 rfl) ?_
  refine lv_if_eq (tgt := 14) hx hb d_Tokens_becomeTruth_6 (by decide) (fun hc1 => ?_) (fun hc1 => ?_)
  · refine lv_ldc (v := 60000) hx hb hown (htt _ k_631) d_Tokens_becomeTruth_14 ?_
    refine lv_iconst (v := 1) hx hb d_Tokens_becomeTruth_16 (by decide) ?_
    refine go_lS (As := [.int 60000, .int 1]) (g := g) (A := A) (h := shC) hP hK hD hS hA hN (fun hp => va_runS (As := [.int 60000, .int 1]) (rest := [.int v1, .ref (ad 52)]) ⟨hx, hb, hml, hown, htt⟩ (a_Tokens_spelled l g _ ad S (60000 : Int32) (1 : Int32)) ⟨(cb_L htt k_1693 k_271 k_1869 hd_Tokens_spelled ⟨(by decide +kernel), (by decide +kernel)⟩), htt _ k_1692⟩ hp rfl rfl hl.1 rfl (lv_room (Nat.le_of_ble_eq_true rfl)) d_Tokens_becomeTruth_17 ⟨(by decide +kernel), (by decide +kernel)⟩) (fun r9 Sn H locs hw9 hP hD hS => ?_)
    obtain ⟨rfl, e9⟩ := hw9
    rw [e9] at hP hD
    refine W.widen (k := 0) (n := 0) (by decide +kernel) (by decide +kernel) ?_
    refine S_last (h := shC) (i := v1) (v := r_Tokens_spelled S (60000 : Int32) (1 : Int32)) hx hb hK hP hD hS 39 rfl (hb0 hc1) d_Tokens_becomeTruth_20 (fun H locs hP hD hS => ?_)
    refine lv_aload_n hx hb d_Tokens_becomeTruth_21 rfl (lv_at hl 0 rfl) ?_
    refine S_getR (h := shC) (C := "MacroMill$Tokens") (T := F_Tokens) hx hb htt in_Tokens hown hK hP 9 6 rfl 53 rfl rfl (by decide) (htt _ k_649) (fun _ h9 => h9) d_Tokens_becomeTruth_22 ?_
    refine lv_iload_n hx hb d_Tokens_becomeTruth_25 rfl (lv_at hl 1 rfl) ?_
    show W _ _ _ _ _ _ _ _ _ _ _ _ _ _ _ (F0 _ 26 _ _)
    refine lv_aload_n hx hb d_Tokens_becomeTruth_26 rfl (lv_at hl 0 rfl) ?_
    refine S_getR (h := shC) (C := "MacroMill$Tokens") (T := F_Tokens) hx hb htt in_Tokens hown hK hP 9 6 rfl 53 rfl rfl (by decide) (htt _ k_649) (fun _ h9 => h9) d_Tokens_becomeTruth_27 ?_
    refine lv_iload_n hx hb d_Tokens_becomeTruth_30 rfl (lv_at hl 1 rfl) ?_
    refine S_iald (h := shC) (i := v1) hx hb hK hP 40 rfl (hb0 hc1) d_Tokens_becomeTruth_31 ?_
    refine lv_iconst (v := 2) hx hb d_Tokens_becomeTruth_32 (by decide) ?_
    refine go_iS (As := [.int ((putL S 39 (v1 : Int32).toNatClampNeg (r_Tokens_spelled S (60000 : Int32) (1 : Int32))).2.1 40 (v1 : Int32).toNatClampNeg), .int 2]) (g := g) (A := A) (h := shC) hP hK hD hS hA hN (fun hp => va_runS (As := [.int ((putL S 39 (v1 : Int32).toNatClampNeg (r_Tokens_spelled S (60000 : Int32) (1 : Int32))).2.1 40 (v1 : Int32).toNatClampNeg), .int 2]) (rest := [.int v1, .ref (ad 53)]) ⟨hx, hb, hml, hown, htt⟩ (a_Tokens_withKind l g _ ad (putL S 39 (v1 : Int32).toNatClampNeg (r_Tokens_spelled S (60000 : Int32) (1 : Int32))) ((putL S 39 (v1 : Int32).toNatClampNeg (r_Tokens_spelled S (60000 : Int32) (1 : Int32))).2.1 40 (v1 : Int32).toNatClampNeg) (2 : Int32)) ⟨(cb_L htt k_1834 k_271 k_2022 hd_Tokens_withKind ⟨(by decide +kernel), (by decide +kernel)⟩), htt _ k_1833⟩ hp rfl rfl hl.1 rfl (lv_room (Nat.le_of_ble_eq_true rfl)) d_Tokens_becomeTruth_33 ⟨(by decide +kernel), (by decide +kernel)⟩) (fun r9 Sn_2 H locs hw9 hP hD hS => ?_)
    obtain ⟨rfl, e9⟩ := hw9
    rw [e9] at hP hD
    refine W.widen (k := 0) (n := 0) (by decide +kernel) (by decide +kernel) ?_
    refine S_iast (h := shC) (i := v1) (v := r_Tokens_withKind (putL S 39 (v1 : Int32).toNatClampNeg (r_Tokens_spelled S (60000 : Int32) (1 : Int32))) ((putL S 39 (v1 : Int32).toNatClampNeg (r_Tokens_spelled S (60000 : Int32) (1 : Int32))).2.1 40 (v1 : Int32).toNatClampNeg) (2 : Int32)) hx hb hK hP hD hS 40 rfl (hb0 hc1) d_Tokens_becomeTruth_36 (fun H locs hP hD hS => ?_)
    exact fin_v (g := g) (ws := Sw shC g ad (putA (putL S 39 (v1 : Int32).toNatClampNeg (r_Tokens_spelled S (60000 : Int32) (1 : Int32))) 40 (v1 : Int32).toNatClampNeg (r_Tokens_withKind (putL S 39 (v1 : Int32).toNatClampNeg (r_Tokens_spelled S (60000 : Int32) (1 : Int32))) ((putL S 39 (v1 : Int32).toNatClampNeg (r_Tokens_spelled S (60000 : Int32) (1 : Int32))).2.1 40 (v1 : Int32).toNatClampNeg) (2 : Int32)))) hx hb hr hlocks (by decide +kernel) (by decide +kernel) hP hD hS ⟨_, rfl, (by unfold s_Tokens_becomeTruth; rw [if_pos hc1])⟩ d_Tokens_becomeTruth_37
  · refine lv_ldc (v := 60001) hx hb hown (htt _ k_632) d_Tokens_becomeTruth_9 ?_
    refine lv_goto (tgt := 16) hx hb d_Tokens_becomeTruth_11 (by decide) ?_
    refine lv_iconst (v := 1) hx hb d_Tokens_becomeTruth_16 (by decide) ?_
    refine go_lS (As := [.int 60001, .int 1]) (g := g) (A := A) (h := shC) hP hK hD hS hA hN (fun hp => va_runS (As := [.int 60001, .int 1]) (rest := [.int v1, .ref (ad 52)]) ⟨hx, hb, hml, hown, htt⟩ (a_Tokens_spelled l g _ ad S (60001 : Int32) (1 : Int32)) ⟨(cb_L htt k_1693 k_271 k_1869 hd_Tokens_spelled ⟨(by decide +kernel), (by decide +kernel)⟩), htt _ k_1692⟩ hp rfl rfl hl.1 rfl (lv_room (Nat.le_of_ble_eq_true rfl)) d_Tokens_becomeTruth_17 ⟨(by decide +kernel), (by decide +kernel)⟩) (fun r9 Sn_3 H locs hw9 hP hD hS => ?_)
    obtain ⟨rfl, e9⟩ := hw9
    rw [e9] at hP hD
    refine W.widen (k := 0) (n := 0) (by decide +kernel) (by decide +kernel) ?_
    refine S_last (h := shC) (i := v1) (v := r_Tokens_spelled S (60001 : Int32) (1 : Int32)) hx hb hK hP hD hS 39 rfl (hb1 hc1) d_Tokens_becomeTruth_20 (fun H locs hP hD hS => ?_)
    refine lv_aload_n hx hb d_Tokens_becomeTruth_21 rfl (lv_at hl 0 rfl) ?_
    refine S_getR (h := shC) (C := "MacroMill$Tokens") (T := F_Tokens) hx hb htt in_Tokens hown hK hP 9 6 rfl 53 rfl rfl (by decide) (htt _ k_649) (fun _ h9 => h9) d_Tokens_becomeTruth_22 ?_
    show W _ _ _ _ _ _ _ _ _ _ _ _ _ _ _ (F0 _ 25 _ _)
    refine lv_iload_n hx hb d_Tokens_becomeTruth_25 rfl (lv_at hl 1 rfl) ?_
    refine lv_aload_n hx hb d_Tokens_becomeTruth_26 rfl (lv_at hl 0 rfl) ?_
    refine S_getR (h := shC) (C := "MacroMill$Tokens") (T := F_Tokens) hx hb htt in_Tokens hown hK hP 9 6 rfl 53 rfl rfl (by decide) (htt _ k_649) (fun _ h9 => h9) d_Tokens_becomeTruth_27 ?_
    refine lv_iload_n hx hb d_Tokens_becomeTruth_30 rfl (lv_at hl 1 rfl) ?_
    refine S_iald (h := shC) (i := v1) hx hb hK hP 40 rfl (hb1 hc1) d_Tokens_becomeTruth_31 ?_
    refine lv_iconst (v := 2) hx hb d_Tokens_becomeTruth_32 (by decide) ?_
    refine go_iS (As := [.int ((putL S 39 (v1 : Int32).toNatClampNeg (r_Tokens_spelled S (60001 : Int32) (1 : Int32))).2.1 40 (v1 : Int32).toNatClampNeg), .int 2]) (g := g) (A := A) (h := shC) hP hK hD hS hA hN (fun hp => va_runS (As := [.int ((putL S 39 (v1 : Int32).toNatClampNeg (r_Tokens_spelled S (60001 : Int32) (1 : Int32))).2.1 40 (v1 : Int32).toNatClampNeg), .int 2]) (rest := [.int v1, .ref (ad 53)]) ⟨hx, hb, hml, hown, htt⟩ (a_Tokens_withKind l g _ ad (putL S 39 (v1 : Int32).toNatClampNeg (r_Tokens_spelled S (60001 : Int32) (1 : Int32))) ((putL S 39 (v1 : Int32).toNatClampNeg (r_Tokens_spelled S (60001 : Int32) (1 : Int32))).2.1 40 (v1 : Int32).toNatClampNeg) (2 : Int32)) ⟨(cb_L htt k_1834 k_271 k_2022 hd_Tokens_withKind ⟨(by decide +kernel), (by decide +kernel)⟩), htt _ k_1833⟩ hp rfl rfl hl.1 rfl (lv_room (Nat.le_of_ble_eq_true rfl)) d_Tokens_becomeTruth_33 ⟨(by decide +kernel), (by decide +kernel)⟩) (fun r9 Sn_4 H locs hw9 hP hD hS => ?_)
    obtain ⟨rfl, e9⟩ := hw9
    rw [e9] at hP hD
    refine W.widen (k := 0) (n := 0) (by decide +kernel) (by decide +kernel) ?_
    refine S_iast (h := shC) (i := v1) (v := r_Tokens_withKind (putL S 39 (v1 : Int32).toNatClampNeg (r_Tokens_spelled S (60001 : Int32) (1 : Int32))) ((putL S 39 (v1 : Int32).toNatClampNeg (r_Tokens_spelled S (60001 : Int32) (1 : Int32))).2.1 40 (v1 : Int32).toNatClampNeg) (2 : Int32)) hx hb hK hP hD hS 40 rfl (hb1 hc1) d_Tokens_becomeTruth_36 (fun H locs hP hD hS => ?_)
    exact fin_v (g := g) (ws := Sw shC g ad (putA (putL S 39 (v1 : Int32).toNatClampNeg (r_Tokens_spelled S (60001 : Int32) (1 : Int32))) 40 (v1 : Int32).toNatClampNeg (r_Tokens_withKind (putL S 39 (v1 : Int32).toNatClampNeg (r_Tokens_spelled S (60001 : Int32) (1 : Int32))) ((putL S 39 (v1 : Int32).toNatClampNeg (r_Tokens_spelled S (60001 : Int32) (1 : Int32))).2.1 40 (v1 : Int32).toNatClampNeg) (2 : Int32)))) hx hb hr hlocks (by decide +kernel) (by decide +kernel) hP hD hS ⟨_, rfl, (by unfold s_Tokens_becomeTruth; rw [if_neg hc1])⟩ d_Tokens_becomeTruth_37
def s_Tokens_make (S : sS) (v1 : Int32) : sS := if (S.1 9 2) < (60000 : Int32) then ((putI (putA S 37 (S.1 9 2 : Int32).toNatClampNeg (vp_nar .byte v1.toInt8.toInt32)) 9 2 ((S.1 9 2) + (1 : Int32)))) else ((putI S 9 3 1))
abbrev rm_a_Tokens_make : Room := { frames := 0, cells := 0, slots := 0, locals := 0 }
set_option maxHeartbeats 4000000 in
set_option maxRecDepth 100000 in
theorem a_Tokens_make (l : Launch) (g : gG) (sz : Nat) (ad : Nat → Nat) (S : sS) (v1 : Int32) (hb0 : (S.1 9 2) < (60000 : Int32) → vp_in (S.1 9 2) 125538) : Cv l y_Tokens_make b_Tokens_make 2 rm_a_Tokens_make g [.ref (ad 9), .int v1] (Sw shC g ad S) sz (fun w => ∃ S' : sS, w = Sw shC g ad S' ∧ S' = s_Tokens_make S v1) := by
  refine startV (by decide) (Nat.le_of_ble_eq_true rfl) ?_
  intro p e s m below meth c A ls hx hb hr hml hlocks hmn hown htt hN hA hP hK hD hS hl
  have hown : s.vm.findClass "MacroMill$Tokens" = some m.cls := hown
  have hl : lv_has ls 2 [(0, .ref (ad 9)), (1, .int v1)] := hl
  refine lv_aload_n hx hb d_Tokens_make_0 rfl (lv_at hl 0 rfl) ?_
  refine S_getI (h := shC) (C := "MacroMill$Tokens") (T := F_Tokens) hx hb htt in_Tokens hown hK hP 9 2 rfl rfl rfl (by decide) (htt _ k_639) (fun _ h9 => h9) d_Tokens_make_1 ?_
  refine lv_ldc (v := 60000) hx hb hown (htt _ k_631) d_Tokens_make_4 ?_
  refine lv_icmp_lt (tgt := 15) hx hb d_Tokens_make_6 (by decide) (fun hc1 => ?_) (fun hc1 => ?_)
  · refine lv_aload_n hx hb d_Tokens_make_15 rfl (lv_at hl 0 rfl) ?_
    refine S_getR (h := shC) (C := "MacroMill$Tokens") (T := F_Tokens) hx hb htt in_Tokens hown hK hP 9 0 rfl 50 rfl rfl (by decide) (htt _ k_633) (fun _ h9 => h9) d_Tokens_make_16 ?_
    refine lv_aload_n hx hb d_Tokens_make_19 rfl (lv_at hl 0 rfl) ?_
    refine S_getI (h := shC) (C := "MacroMill$Tokens") (T := F_Tokens) hx hb htt in_Tokens hown hK hP 9 2 rfl rfl rfl (by decide) (htt _ k_639) (fun _ h9 => h9) d_Tokens_make_20 ?_
    refine lv_iload_n hx hb d_Tokens_make_23 rfl (lv_at hl 1 rfl) ?_
    refine lv_i2b (v := v1.toInt8.toInt32) hx hb d_Tokens_make_24 rfl ?_
    refine S_bast (h := shC) (i := S.1 9 2) (v := v1.toInt8.toInt32) hx hb hK hP hD hS 37 rfl (hb0 hc1) d_Tokens_make_25 (fun H locs hP hD hS => ?_)
    refine lv_aload_n hx hb d_Tokens_make_26 rfl (lv_at hl 0 rfl) ?_
    show W _ _ _ _ _ _ _ _ _ _ _ _ _ _ _ (F0 _ 27 _ _)
    refine lv_dup hx hb d_Tokens_make_27 rfl ?_
    refine S_getI (h := shC) (C := "MacroMill$Tokens") (T := F_Tokens) hx hb htt in_Tokens hown hK hP 9 2 rfl rfl rfl (by decide) (htt _ k_639) (fun _ h9 => h9) d_Tokens_make_28 ?_
    refine toI (y := S.1 9 2) rfl ?_
    refine lv_iconst (v := 1) hx hb d_Tokens_make_31 (by decide) ?_
    refine lv_iadd hx hb d_Tokens_make_32 ?_
    refine S_put (h := shC) (C := "MacroMill$Tokens") (T := F_Tokens) (v := (S.1 9 2) + (1 : Int32)) hx hb htt in_Tokens t_Tokens t_Tokens_ok n_Tokens hown hK hP hD hS 9 2 rfl rfl rfl (by decide) (htt _ k_639) (fun _ h9 => h9) rfl rfl rfl d_Tokens_make_33 (fun H locs hP hD hS => ?_)
    exact fin_v (g := g) (ws := Sw shC g ad (putI (putA S 37 (S.1 9 2 : Int32).toNatClampNeg (vp_nar .byte v1.toInt8.toInt32)) 9 2 ((S.1 9 2) + (1 : Int32)))) hx hb hr hlocks (by decide +kernel) (by decide +kernel) hP hD hS ⟨_, rfl, (by unfold s_Tokens_make; rw [if_pos hc1])⟩ d_Tokens_make_36
  · refine lv_aload_n hx hb d_Tokens_make_9 rfl (lv_at hl 0 rfl) ?_
    refine lv_iconst (v := 1) hx hb d_Tokens_make_10 (by decide) ?_
    refine S_put (h := shC) (C := "MacroMill$Tokens") (T := F_Tokens) (v := 1) hx hb htt in_Tokens t_Tokens t_Tokens_ok n_Tokens hown hK hP hD hS 9 3 rfl rfl rfl (by decide) (htt _ k_642) (fun _ h9 => h9) rfl rfl rfl d_Tokens_make_11 (fun H locs hP hD hS => ?_)
    exact fin_v (g := g) (ws := Sw shC g ad (putI S 9 3 1)) hx hb hr hlocks (by decide +kernel) (by decide +kernel) hP hD hS ⟨_, rfl, (by unfold s_Tokens_make; rw [if_neg hc1])⟩ d_Tokens_make_14
def r_Tokens_isOverfull (S : sS) : Int32 := S.1 9 3
abbrev rm_a_Tokens_isOverfull : Room := { frames := 0, cells := 0, slots := 0, locals := 0 }
set_option maxHeartbeats 4000000 in
set_option maxRecDepth 100000 in
theorem a_Tokens_isOverfull (l : Launch) (g : gG) (sz : Nat) (ad : Nat → Nat) (S : sS) (hb0 : narrow .boolean (.int (S.1 9 3)) = .int (S.1 9 3)) : Cz l y_Tokens_isOverfull b_Tokens_isOverfull 1 rm_a_Tokens_isOverfull g [.ref (ad 9)] (Sw shC g ad S) sz (fun r w => ∃ S' : sS, w = Sw shC g ad S' ∧ r = r_Tokens_isOverfull S ∧ S' = S) := by
  refine startZ (by decide) (Nat.le_of_ble_eq_true rfl) ?_
  intro p e s m below meth c A ls hx hb hr hml hlocks hmn hown htt hN hA hP hK hD hS hl
  have hown : s.vm.findClass "MacroMill$Tokens" = some m.cls := hown
  have hl : lv_has ls 1 [(0, .ref (ad 9))] := hl
  refine lv_aload_n hx hb d_Tokens_isOverfull_0 rfl (lv_at hl 0 rfl) ?_
  refine S_getI (h := shC) (C := "MacroMill$Tokens") (T := F_Tokens) hx hb htt in_Tokens hown hK hP 9 3 rfl rfl rfl (by decide) (htt _ k_642) (fun _ h9 => h9) d_Tokens_isOverfull_1 ?_
  exact fin_z (g := g) (ws := Sw shC g ad S) (v := S.1 9 3) hx hb hr hlocks hb0 (by decide +kernel) (by decide +kernel) hP hD hS ⟨_, rfl, rfl, rfl⟩ d_Tokens_isOverfull_4
def r_Tokens_lineAt (S : sS) (v1 : Int32) : Int32 := S.2.1 38 (v1 - (60002 : Int32) : Int32).toNatClampNeg
abbrev rm_a_Tokens_lineAt : Room := { frames := 0, cells := 0, slots := 0, locals := 0 }
set_option maxHeartbeats 4000000 in
set_option maxRecDepth 100000 in
theorem a_Tokens_lineAt (l : Launch) (g : gG) (sz : Nat) (ad : Nat → Nat) (S : sS) (v1 : Int32) (hb0 : vp_in (v1 - (60002 : Int32)) 65536) : Ci l y_Tokens_lineAt b_Tokens_lineAt 2 rm_a_Tokens_lineAt g [.ref (ad 9), .int v1] (Sw shC g ad S) sz (fun r w => ∃ S' : sS, w = Sw shC g ad S' ∧ r = r_Tokens_lineAt S v1 ∧ S' = S) := by
  refine startI (by decide) (Nat.le_of_ble_eq_true rfl) ?_
  intro p e s m below meth c A ls hx hb hr hml hlocks hmn hown htt hN hA hP hK hD hS hl
  have hown : s.vm.findClass "MacroMill$Tokens" = some m.cls := hown
  have hl : lv_has ls 2 [(0, .ref (ad 9)), (1, .int v1)] := hl
  refine lv_aload_n hx hb d_Tokens_lineAt_0 rfl (lv_at hl 0 rfl) ?_
  refine S_getR (h := shC) (C := "MacroMill$Tokens") (T := F_Tokens) hx hb htt in_Tokens hown hK hP 9 1 rfl 51 rfl rfl (by decide) (htt _ k_638) (fun _ h9 => h9) d_Tokens_lineAt_1 ?_
  refine lv_iload_n hx hb d_Tokens_lineAt_4 rfl (lv_at hl 1 rfl) ?_
  refine lv_ldc (v := 60002) hx hb hown (htt _ k_883) d_Tokens_lineAt_5 ?_
  refine lv_isub hx hb d_Tokens_lineAt_7 ?_
  refine S_cald (h := shC) (i := v1 - (60002 : Int32)) hx hb hK hP 38 rfl hb0 d_Tokens_lineAt_8 ?_
  exact fin_i (g := g) (ws := Sw shC g ad S) (v := S.2.1 38 (v1 - (60002 : Int32) : Int32).toNatClampNeg) hx hb hr hlocks (by decide +kernel) (by decide +kernel) hP hD hS ⟨_, rfl, rfl, rfl⟩ d_Tokens_lineAt_9
def r_Tokens_scannedKind (S : sS) : Int32 := S.1 9 9
abbrev rm_a_Tokens_scannedKind : Room := { frames := 0, cells := 0, slots := 0, locals := 0 }
set_option maxHeartbeats 4000000 in
set_option maxRecDepth 100000 in
theorem a_Tokens_scannedKind (l : Launch) (g : gG) (sz : Nat) (ad : Nat → Nat) (S : sS) : Ci l y_Tokens_scannedKind b_Tokens_scannedKind 1 rm_a_Tokens_scannedKind g [.ref (ad 9)] (Sw shC g ad S) sz (fun r w => ∃ S' : sS, w = Sw shC g ad S' ∧ r = r_Tokens_scannedKind S ∧ S' = S) := by
  refine startI (by decide) (Nat.le_of_ble_eq_true rfl) ?_
  intro p e s m below meth c A ls hx hb hr hml hlocks hmn hown htt hN hA hP hK hD hS hl
  have hown : s.vm.findClass "MacroMill$Tokens" = some m.cls := hown
  have hl : lv_has ls 1 [(0, .ref (ad 9))] := hl
  refine lv_aload_n hx hb d_Tokens_scannedKind_0 rfl (lv_at hl 0 rfl) ?_
  refine S_getI (h := shC) (C := "MacroMill$Tokens") (T := F_Tokens) hx hb htt in_Tokens hown hK hP 9 9 rfl rfl rfl (by decide) (htt _ k_660) (fun _ h9 => h9) d_Tokens_scannedKind_1 ?_
  exact fin_i (g := g) (ws := Sw shC g ad S) (v := S.1 9 9) hx hb hr hlocks (by decide +kernel) (by decide +kernel) hP hD hS ⟨_, rfl, rfl, rfl⟩ d_Tokens_scannedKind_4
def r_Macros_isThere (S : sS) (v1 : Int32) : Int32 := if (S.2.1 45 (v1 : Int32).toNatClampNeg) = ((-2) : Int32) then 0 else 1
abbrev rm_a_Macros_isThere : Room := { frames := 0, cells := 0, slots := 0, locals := 0 }
set_option maxHeartbeats 4000000 in
set_option maxRecDepth 100000 in
theorem a_Macros_isThere (l : Launch) (g : gG) (sz : Nat) (ad : Nat → Nat) (S : sS) (v1 : Int32) (hb0 : vp_in (v1) 400) : Cz l y_Macros_isThere b_Macros_isThere 2 rm_a_Macros_isThere g [.ref (ad 10), .int v1] (Sw shC g ad S) sz (fun r w => ∃ S' : sS, w = Sw shC g ad S' ∧ r = r_Macros_isThere S v1 ∧ S' = S) := by
  refine startZ (by decide) (Nat.le_of_ble_eq_true rfl) ?_
  intro p e s m below meth c A ls hx hb hr hml hlocks hmn hown htt hN hA hP hK hD hS hl
  have hown : s.vm.findClass "MacroMill$Macros" = some m.cls := hown
  have hl : lv_has ls 2 [(0, .ref (ad 10)), (1, .int v1)] := hl
  refine lv_aload_n hx hb d_Macros_isThere_0 rfl (lv_at hl 0 rfl) ?_
  refine S_getR (h := shC) (C := "MacroMill$Macros") (T := F_Macros) hx hb htt in_Macros hown hK hP 10 6 rfl 58 rfl rfl (by decide) (htt _ k_696) (fun _ h9 => h9) d_Macros_isThere_1 ?_
  refine lv_iload_n hx hb d_Macros_isThere_4 rfl (lv_at hl 1 rfl) ?_
  refine S_iald (h := shC) (i := v1) hx hb hK hP 45 rfl hb0 d_Macros_isThere_5 ?_
  refine lv_bipush (v := (-2)) hx hb d_Macros_isThere_6 (by decide) ?_
  refine lv_icmp_eq (tgt := 15) hx hb d_Macros_isThere_8 (by decide) (fun hc1 => ?_) (fun hc1 => ?_)
  · refine lv_iconst (v := 0) hx hb d_Macros_isThere_15 (by decide) ?_
    exact fin_z (g := g) (ws := Sw shC g ad S) (v := 0) hx hb hr hlocks rfl (by decide +kernel) (by decide +kernel) hP hD hS ⟨_, rfl, (by unfold r_Macros_isThere; rw [if_pos hc1]), rfl⟩ d_Macros_isThere_16
  · refine lv_iconst (v := 1) hx hb d_Macros_isThere_11 (by decide) ?_
    refine lv_goto (tgt := 16) hx hb d_Macros_isThere_12 (by decide) ?_
    exact fin_z (g := g) (ws := Sw shC g ad S) (v := 1) hx hb hr hlocks rfl (by decide +kernel) (by decide +kernel) hP hD hS ⟨_, rfl, (by unfold r_Macros_isThere; rw [if_neg hc1]), rfl⟩ d_Macros_isThere_16
def r_Macros_hasParameters (S : sS) (v1 : Int32) : Int32 := if (S.2.1 45 (v1 : Int32).toNatClampNeg) < (0 : Int32) then 0 else 1
abbrev rm_a_Macros_hasParameters : Room := { frames := 0, cells := 0, slots := 0, locals := 0 }
set_option maxHeartbeats 4000000 in
set_option maxRecDepth 100000 in
theorem a_Macros_hasParameters (l : Launch) (g : gG) (sz : Nat) (ad : Nat → Nat) (S : sS) (v1 : Int32) (hb0 : vp_in (v1) 400) : Cz l y_Macros_hasParameters b_Macros_hasParameters 2 rm_a_Macros_hasParameters g [.ref (ad 10), .int v1] (Sw shC g ad S) sz (fun r w => ∃ S' : sS, w = Sw shC g ad S' ∧ r = r_Macros_hasParameters S v1 ∧ S' = S) := by
  refine startZ (by decide) (Nat.le_of_ble_eq_true rfl) ?_
  intro p e s m below meth c A ls hx hb hr hml hlocks hmn hown htt hN hA hP hK hD hS hl
  have hown : s.vm.findClass "MacroMill$Macros" = some m.cls := hown
  have hl : lv_has ls 2 [(0, .ref (ad 10)), (1, .int v1)] := hl
  refine lv_aload_n hx hb d_Macros_hasParameters_0 rfl (lv_at hl 0 rfl) ?_
  refine S_getR (h := shC) (C := "MacroMill$Macros") (T := F_Macros) hx hb htt in_Macros hown hK hP 10 6 rfl 58 rfl rfl (by decide) (htt _ k_696) (fun _ h9 => h9) d_Macros_hasParameters_1 ?_
  refine lv_iload_n hx hb d_Macros_hasParameters_4 rfl (lv_at hl 1 rfl) ?_
  refine S_iald (h := shC) (i := v1) hx hb hK hP 45 rfl hb0 d_Macros_hasParameters_5 ?_
  refine lv_if_lt (tgt := 13) hx hb d_Macros_hasParameters_6 (by decide) (fun hc1 => ?_) (fun hc1 => ?_)
  · refine lv_iconst (v := 0) hx hb d_Macros_hasParameters_13 (by decide) ?_
    exact fin_z (g := g) (ws := Sw shC g ad S) (v := 0) hx hb hr hlocks rfl (by decide +kernel) (by decide +kernel) hP hD hS ⟨_, rfl, (by unfold r_Macros_hasParameters; rw [if_pos hc1]), rfl⟩ d_Macros_hasParameters_14
  · refine lv_iconst (v := 1) hx hb d_Macros_hasParameters_9 (by decide) ?_
    refine lv_goto (tgt := 14) hx hb d_Macros_hasParameters_10 (by decide) ?_
    exact fin_z (g := g) (ws := Sw shC g ad S) (v := 1) hx hb hr hlocks rfl (by decide +kernel) (by decide +kernel) hP hD hS ⟨_, rfl, (by unfold r_Macros_hasParameters; rw [if_neg hc1]), rfl⟩ d_Macros_hasParameters_14
def r_Macros_bodyEnd (S : sS) (v1 : Int32) : Int32 := S.2.1 48 (v1 : Int32).toNatClampNeg
abbrev rm_a_Macros_bodyEnd : Room := { frames := 0, cells := 0, slots := 0, locals := 0 }
set_option maxHeartbeats 4000000 in
set_option maxRecDepth 100000 in
theorem a_Macros_bodyEnd (l : Launch) (g : gG) (sz : Nat) (ad : Nat → Nat) (S : sS) (v1 : Int32) (hb0 : vp_in (v1) 400) : Ci l y_Macros_bodyEnd b_Macros_bodyEnd 2 rm_a_Macros_bodyEnd g [.ref (ad 10), .int v1] (Sw shC g ad S) sz (fun r w => ∃ S' : sS, w = Sw shC g ad S' ∧ r = r_Macros_bodyEnd S v1 ∧ S' = S) := by
  refine startI (by decide) (Nat.le_of_ble_eq_true rfl) ?_
  intro p e s m below meth c A ls hx hb hr hml hlocks hmn hown htt hN hA hP hK hD hS hl
  have hown : s.vm.findClass "MacroMill$Macros" = some m.cls := hown
  have hl : lv_has ls 2 [(0, .ref (ad 10)), (1, .int v1)] := hl
  refine lv_aload_n hx hb d_Macros_bodyEnd_0 rfl (lv_at hl 0 rfl) ?_
  refine S_getR (h := shC) (C := "MacroMill$Macros") (T := F_Macros) hx hb htt in_Macros hown hK hP 10 9 rfl 61 rfl rfl (by decide) (htt _ k_702) (fun _ h9 => h9) d_Macros_bodyEnd_1 ?_
  refine lv_iload_n hx hb d_Macros_bodyEnd_4 rfl (lv_at hl 1 rfl) ?_
  refine S_iald (h := shC) (i := v1) hx hb hK hP 48 rfl hb0 d_Macros_bodyEnd_5 ?_
  exact fin_i (g := g) (ws := Sw shC g ad S) (v := S.2.1 48 (v1 : Int32).toNatClampNeg) hx hb hr hlocks (by decide +kernel) (by decide +kernel) hP hD hS ⟨_, rfl, rfl, rfl⟩ d_Macros_bodyEnd_6
def r_Macros_isHidden (S : sS) (v1 : Int32) (v2 : Int32) : Int32 := if (lg_cmp ((((S.2.2 51 ((v1 * (7 : Int32)) + (v2 >>> ((6 : Int32) &&& 31)) : Int32).toNatClampNeg).toUInt64 >>> ((v2 &&& (63 : Int32) : Int32).toInt64.toUInt64 &&& Int64.toUInt64 63)).toInt64) &&& (1 : Int64)) (0 : Int64)) = (0 : Int32) then 0 else 1
abbrev rm_a_Macros_isHidden : Room := { frames := 0, cells := 0, slots := 0, locals := 0 }
set_option maxHeartbeats 4000000 in
set_option maxRecDepth 100000 in
theorem a_Macros_isHidden (l : Launch) (g : gG) (sz : Nat) (ad : Nat → Nat) (S : sS) (v1 : Int32) (v2 : Int32) (hb0 : vp_in ((v1 * (7 : Int32)) + (v2 >>> ((6 : Int32) &&& 31))) 7007) : Cz l y_Macros_isHidden b_Macros_isHidden 3 rm_a_Macros_isHidden g [.ref (ad 10), .int v1, .int v2] (Sw shC g ad S) sz (fun r w => ∃ S' : sS, w = Sw shC g ad S' ∧ r = r_Macros_isHidden S v1 v2 ∧ S' = S) := by
  refine startZ (by decide) (Nat.le_of_ble_eq_true rfl) ?_
  intro p e s m below meth c A ls hx hb hr hml hlocks hmn hown htt hN hA hP hK hD hS hl
  have hown : s.vm.findClass "MacroMill$Macros" = some m.cls := hown
  have hl : lv_has ls 3 [(0, .ref (ad 10)), (1, .int v1), (2, .int v2)] := hl
  refine lv_aload_n hx hb d_Macros_isHidden_0 rfl (lv_at hl 0 rfl) ?_
  refine S_getR (h := shC) (C := "MacroMill$Macros") (T := F_Macros) hx hb htt in_Macros hown hK hP 10 13 rfl 64 rfl rfl (by decide) (htt _ k_708) (fun _ h9 => h9) d_Macros_isHidden_1 ?_
  refine lv_iload_n hx hb d_Macros_isHidden_4 rfl (lv_at hl 1 rfl) ?_
  refine lv_bipush (v := 7) hx hb d_Macros_isHidden_5 (by decide) ?_
  refine lv_imul hx hb d_Macros_isHidden_7 ?_
  refine lv_iload_n hx hb d_Macros_isHidden_8 rfl (lv_at hl 2 rfl) ?_
  refine lv_bipush (v := 6) hx hb d_Macros_isHidden_9 (by decide) ?_
  refine lv_ishr hx hb d_Macros_isHidden_11 ?_
  refine lv_iadd hx hb d_Macros_isHidden_12 ?_
  refine S_lald (h := shC) (i := (v1 * (7 : Int32)) + (v2 >>> ((6 : Int32) &&& 31))) hx hb hK hP 51 rfl hb0 d_Macros_isHidden_13 ?_
  refine lv_iload_n hx hb d_Macros_isHidden_14 rfl (lv_at hl 2 rfl) ?_
  show W _ _ _ _ _ _ _ _ _ _ _ _ _ _ _ (F0 _ 15 _ _)
  refine lv_bipush (v := 63) hx hb d_Macros_isHidden_15 (by decide) ?_
  refine lv_iand hx hb d_Macros_isHidden_17 ?_
  refine lv_lushr (v := ((S.2.2 51 ((v1 * (7 : Int32)) + (v2 >>> ((6 : Int32) &&& 31)) : Int32).toNatClampNeg).toUInt64 >>> ((v2 &&& (63 : Int32) : Int32).toInt64.toUInt64 &&& Int64.toUInt64 63)).toInt64) hx hb d_Macros_isHidden_18 rfl ?_
  refine lv_lconst (v := 1) hx hb d_Macros_isHidden_19 (by decide) ?_
  refine lv_land hx hb d_Macros_isHidden_20 ?_
  refine lv_lconst (v := 0) hx hb d_Macros_isHidden_21 (by decide) ?_
  refine W.lcmp hx hb d_Macros_isHidden_22 ?_
  refine lv_if_eq (tgt := 30) hx hb d_Macros_isHidden_23 (by decide) (fun hc1 => ?_) (fun hc1 => ?_)
  · refine lv_iconst (v := 0) hx hb d_Macros_isHidden_30 (by decide) ?_
    exact fin_z (g := g) (ws := Sw shC g ad S) (v := 0) hx hb hr hlocks rfl (by decide +kernel) (by decide +kernel) hP hD hS ⟨_, rfl, (by unfold r_Macros_isHidden; rw [if_pos hc1]), rfl⟩ d_Macros_isHidden_31
  · refine lv_iconst (v := 1) hx hb d_Macros_isHidden_26 (by decide) ?_
    refine lv_goto (tgt := 31) hx hb d_Macros_isHidden_27 (by decide) ?_
    exact fin_z (g := g) (ws := Sw shC g ad S) (v := 1) hx hb hr hlocks rfl (by decide +kernel) (by decide +kernel) hP hD hS ⟨_, rfl, (by unfold r_Macros_isHidden; rw [if_neg hc1]), rfl⟩ d_Macros_isHidden_31
def s_Lines_endFile (S : sS) : sS := if (S.1 11 11) ≤ (0 : Int32) then S else (if ((S.1 11 11) - (1 : Int32)) ≤ (0 : Int32) then ((putI S 11 11 ((S.1 11 11) - (1 : Int32)))) else ((putI (putI S 11 11 ((S.1 11 11) - (1 : Int32))) 2 5 ((putI S 11 11 ((S.1 11 11) - (1 : Int32))).2.1 59 (((S.1 11 11) - (1 : Int32)) - (1 : Int32) : Int32).toNatClampNeg))))
abbrev rm_a_Lines_endFile : Room := { frames := 0, cells := 0, slots := 0, locals := 0 }
set_option maxHeartbeats 4000000 in
set_option maxRecDepth 100000 in
theorem a_Lines_endFile (l : Launch) (g : gG) (sz : Nat) (ad : Nat → Nat) (S : sS) (hb0 : ¬ ((S.1 11 11) ≤ (0 : Int32)) → ¬ (((S.1 11 11) - (1 : Int32)) ≤ (0 : Int32)) → vp_in (((S.1 11 11) - (1 : Int32)) - (1 : Int32)) 21) : Cv l y_Lines_endFile b_Lines_endFile 1 rm_a_Lines_endFile g [.ref (ad 11)] (Sw shC g ad S) sz (fun w => ∃ S' : sS, w = Sw shC g ad S' ∧ S' = s_Lines_endFile S) := by
  refine startV (by decide) (Nat.le_of_ble_eq_true rfl) ?_
  intro p e s m below meth c A ls hx hb hr hml hlocks hmn hown htt hN hA hP hK hD hS hl
  have hown : s.vm.findClass "MacroMill$Lines" = some m.cls := hown
  have hl : lv_has ls 1 [(0, .ref (ad 11))] := hl
  refine lv_aload_n hx hb d_Lines_endFile_0 rfl (lv_at hl 0 rfl) ?_
  refine S_getI (h := shC) (C := "MacroMill$Lines") (T := F_Lines) hx hb htt in_Lines hown hK hP 11 11 rfl rfl rfl (by decide) (htt _ k_770) (fun _ h9 => h9) d_Lines_endFile_1 ?_
  refine lv_if_le (tgt := 17) hx hb d_Lines_endFile_4 (by decide) (fun hc1 => ?_) (fun hc1 => ?_)
  · refine lv_aload_n hx hb d_Lines_endFile_17 rfl (lv_at hl 0 rfl) ?_
    refine S_getI (h := shC) (C := "MacroMill$Lines") (T := F_Lines) hx hb htt in_Lines hown hK hP 11 11 rfl rfl rfl (by decide) (htt _ k_770) (fun _ h9 => h9) d_Lines_endFile_18 ?_
    refine lv_if_le (tgt := 42) hx hb d_Lines_endFile_21 (by decide) (fun _ => ?_) (fun h9 => absurd hc1 h9)
    exact fin_v (g := g) (ws := Sw shC g ad S) hx hb hr hlocks (by decide +kernel) (by decide +kernel) hP hD hS ⟨_, rfl, (by unfold s_Lines_endFile; rw [if_pos hc1])⟩ d_Lines_endFile_42
  · refine lv_aload_n hx hb d_Lines_endFile_7 rfl (lv_at hl 0 rfl) ?_
    refine lv_dup hx hb d_Lines_endFile_8 rfl ?_
    refine S_getI (h := shC) (C := "MacroMill$Lines") (T := F_Lines) hx hb htt in_Lines hown hK hP 11 11 rfl rfl rfl (by decide) (htt _ k_770) (fun _ h9 => h9) d_Lines_endFile_9 ?_
    refine lv_iconst (v := 1) hx hb d_Lines_endFile_12 (by decide) ?_
    refine lv_isub hx hb d_Lines_endFile_13 ?_
    refine S_put (h := shC) (C := "MacroMill$Lines") (T := F_Lines) (v := (S.1 11 11) - (1 : Int32)) hx hb htt in_Lines t_Lines t_Lines_ok n_Lines hown hK hP hD hS 11 11 rfl rfl rfl (by decide) (htt _ k_770) (fun _ h9 => h9) rfl rfl rfl d_Lines_endFile_14 (fun H locs hP hD hS => ?_)
    refine lv_aload_n hx hb d_Lines_endFile_17 rfl (lv_at hl 0 rfl) ?_
    refine S_getI (h := shC) (C := "MacroMill$Lines") (T := F_Lines) hx hb htt in_Lines hown hK hP 11 11 rfl rfl rfl (by decide) (htt _ k_770) (fun _ h9 => h9) d_Lines_endFile_18 ?_
    refine toI (y := (S.1 11 11) - (1 : Int32)) rfl ?_
    refine lv_if_le (tgt := 42) hx hb d_Lines_endFile_21 (by decide) (fun hc2 => ?_) (fun hc2 => ?_)
    · exact fin_v (g := g) (ws := Sw shC g ad (putI S 11 11 ((S.1 11 11) - (1 : Int32)))) hx hb hr hlocks (by decide +kernel) (by decide +kernel) hP hD hS ⟨_, rfl, (by unfold s_Lines_endFile; rw [if_neg hc1, if_pos hc2])⟩ d_Lines_endFile_42
    · refine lv_aload_n hx hb d_Lines_endFile_24 rfl (lv_at hl 0 rfl) ?_
      show W _ _ _ _ _ _ _ _ _ _ _ _ _ _ _ (F0 _ 25 _ _)
      refine S_getR (h := shC) (C := "MacroMill$Lines") (T := F_Lines) hx hb htt in_Lines hown hK hP 11 2 rfl 2 rfl rfl (by decide) (htt _ k_761) (fun _ h9 => h9) d_Lines_endFile_25 ?_
      refine lv_aload_n hx hb d_Lines_endFile_28 rfl (lv_at hl 0 rfl) ?_
      refine S_getR (h := shC) (C := "MacroMill$Lines") (T := F_Lines) hx hb htt in_Lines hown hK hP 11 6 rfl 72 rfl rfl (by decide) (htt _ k_765) (fun _ h9 => h9) d_Lines_endFile_29 ?_
      refine lv_aload_n hx hb d_Lines_endFile_32 rfl (lv_at hl 0 rfl) ?_
      refine S_getI (h := shC) (C := "MacroMill$Lines") (T := F_Lines) hx hb htt in_Lines hown hK hP 11 11 rfl rfl rfl (by decide) (htt _ k_770) (fun _ h9 => h9) d_Lines_endFile_33 ?_
      refine toI (y := (S.1 11 11) - (1 : Int32)) rfl ?_
      refine lv_iconst (v := 1) hx hb d_Lines_endFile_36 (by decide) ?_
      refine lv_isub hx hb d_Lines_endFile_37 ?_
      refine S_iald (h := shC) (i := ((S.1 11 11) - (1 : Int32)) - (1 : Int32)) hx hb hK hP 59 rfl (hb0 hc1 hc2) d_Lines_endFile_38 ?_
      refine S_put (h := shC) (C := "MacroMill$Outcome") (T := F_Outcome) (v := (putI S 11 11 ((S.1 11 11) - (1 : Int32))).2.1 59 (((S.1 11 11) - (1 : Int32)) - (1 : Int32) : Int32).toNatClampNeg) hx hb htt in_Outcome t_Outcome t_Outcome_ok n_Outcome hown hK hP hD hS 2 5 rfl rfl rfl (by decide) (htt _ k_350) (fun _ h9 => h9) rfl rfl rfl d_Lines_endFile_39 (fun H locs hP hD hS => ?_)
      exact fin_v (g := g) (ws := Sw shC g ad (putI (putI S 11 11 ((S.1 11 11) - (1 : Int32))) 2 5 ((putI S 11 11 ((S.1 11 11) - (1 : Int32))).2.1 59 (((S.1 11 11) - (1 : Int32)) - (1 : Int32) : Int32).toNatClampNeg))) hx hb hr hlocks (by decide +kernel) (by decide +kernel) hP hD hS ⟨_, rfl, (by unfold s_Lines_endFile; rw [if_neg hc1, if_neg hc2])⟩ d_Lines_endFile_42
def s_Lines_setLine (S : sS) (v1 : Int32) : sS := if (S.1 11 11) ≤ (0 : Int32) then S else ((putA S 61 ((S.1 11 11) - (1 : Int32) : Int32).toNatClampNeg (v1 - (S.1 11 18))))
abbrev rm_a_Lines_setLine : Room := { frames := 0, cells := 0, slots := 0, locals := 0 }
set_option maxHeartbeats 4000000 in
set_option maxRecDepth 100000 in
theorem a_Lines_setLine (l : Launch) (g : gG) (sz : Nat) (ad : Nat → Nat) (S : sS) (v1 : Int32) (hb0 : ¬ ((S.1 11 11) ≤ (0 : Int32)) → vp_in ((S.1 11 11) - (1 : Int32)) 21) : Cv l y_Lines_setLine b_Lines_setLine 2 rm_a_Lines_setLine g [.ref (ad 11), .int v1] (Sw shC g ad S) sz (fun w => ∃ S' : sS, w = Sw shC g ad S' ∧ S' = s_Lines_setLine S v1) := by
  refine startV (by decide) (Nat.le_of_ble_eq_true rfl) ?_
  intro p e s m below meth c A ls hx hb hr hml hlocks hmn hown htt hN hA hP hK hD hS hl
  have hown : s.vm.findClass "MacroMill$Lines" = some m.cls := hown
  have hl : lv_has ls 2 [(0, .ref (ad 11)), (1, .int v1)] := hl
  refine lv_aload_n hx hb d_Lines_setLine_0 rfl (lv_at hl 0 rfl) ?_
  refine S_getI (h := shC) (C := "MacroMill$Lines") (T := F_Lines) hx hb htt in_Lines hown hK hP 11 11 rfl rfl rfl (by decide) (htt _ k_770) (fun _ h9 => h9) d_Lines_setLine_1 ?_
  refine lv_if_le (tgt := 24) hx hb d_Lines_setLine_4 (by decide) (fun hc1 => ?_) (fun hc1 => ?_)
  · exact fin_v (g := g) (ws := Sw shC g ad S) hx hb hr hlocks (by decide +kernel) (by decide +kernel) hP hD hS ⟨_, rfl, (by unfold s_Lines_setLine; rw [if_pos hc1])⟩ d_Lines_setLine_24
  · refine lv_aload_n hx hb d_Lines_setLine_7 rfl (lv_at hl 0 rfl) ?_
    refine S_getR (h := shC) (C := "MacroMill$Lines") (T := F_Lines) hx hb htt in_Lines hown hK hP 11 8 rfl 74 rfl rfl (by decide) (htt _ k_767) (fun _ h9 => h9) d_Lines_setLine_8 ?_
    refine lv_aload_n hx hb d_Lines_setLine_11 rfl (lv_at hl 0 rfl) ?_
    refine S_getI (h := shC) (C := "MacroMill$Lines") (T := F_Lines) hx hb htt in_Lines hown hK hP 11 11 rfl rfl rfl (by decide) (htt _ k_770) (fun _ h9 => h9) d_Lines_setLine_12 ?_
    refine lv_iconst (v := 1) hx hb d_Lines_setLine_15 (by decide) ?_
    refine lv_isub hx hb d_Lines_setLine_16 ?_
    refine lv_iload_n hx hb d_Lines_setLine_17 rfl (lv_at hl 1 rfl) ?_
    refine lv_aload_n hx hb d_Lines_setLine_18 rfl (lv_at hl 0 rfl) ?_
    refine S_getI (h := shC) (C := "MacroMill$Lines") (T := F_Lines) hx hb htt in_Lines hown hK hP 11 18 rfl rfl rfl (by decide) (htt _ k_780) (fun _ h9 => h9) d_Lines_setLine_19 ?_
    show W _ _ _ _ _ _ _ _ _ _ _ _ _ _ _ (F0 _ 22 _ _)
    refine lv_isub hx hb d_Lines_setLine_22 ?_
    refine S_iast (h := shC) (i := (S.1 11 11) - (1 : Int32)) (v := v1 - (S.1 11 18)) hx hb hK hP hD hS 61 rfl (hb0 hc1) d_Lines_setLine_23 (fun H locs hP hD hS => ?_)
    exact fin_v (g := g) (ws := Sw shC g ad (putA S 61 ((S.1 11 11) - (1 : Int32) : Int32).toNatClampNeg (v1 - (S.1 11 18)))) hx hb hr hlocks (by decide +kernel) (by decide +kernel) hP hD hS ⟨_, rfl, (by unfold s_Lines_setLine; rw [if_neg hc1])⟩ d_Lines_setLine_24
def r_Lines_toldLine (S : sS) (v1 : Int32) : Int32 := if (S.1 11 11) ≤ (0 : Int32) then v1 else (v1 + (S.2.1 61 ((S.1 11 11) - (1 : Int32) : Int32).toNatClampNeg))
abbrev rm_a_Lines_toldLine : Room := { frames := 0, cells := 0, slots := 0, locals := 0 }
set_option maxHeartbeats 4000000 in
set_option maxRecDepth 100000 in
theorem a_Lines_toldLine (l : Launch) (g : gG) (sz : Nat) (ad : Nat → Nat) (S : sS) (v1 : Int32) (hb0 : ¬ ((S.1 11 11) ≤ (0 : Int32)) → vp_in ((S.1 11 11) - (1 : Int32)) 21) : Ci l y_Lines_toldLine b_Lines_toldLine 2 rm_a_Lines_toldLine g [.ref (ad 11), .int v1] (Sw shC g ad S) sz (fun r w => ∃ S' : sS, w = Sw shC g ad S' ∧ r = r_Lines_toldLine S v1 ∧ S' = S) := by
  refine startI (by decide) (Nat.le_of_ble_eq_true rfl) ?_
  intro p e s m below meth c A ls hx hb hr hml hlocks hmn hown htt hN hA hP hK hD hS hl
  have hown : s.vm.findClass "MacroMill$Lines" = some m.cls := hown
  have hl : lv_has ls 2 [(0, .ref (ad 11)), (1, .int v1)] := hl
  refine lv_aload_n hx hb d_Lines_toldLine_0 rfl (lv_at hl 0 rfl) ?_
  refine S_getI (h := shC) (C := "MacroMill$Lines") (T := F_Lines) hx hb htt in_Lines hown hK hP 11 11 rfl rfl rfl (by decide) (htt _ k_770) (fun _ h9 => h9) d_Lines_toldLine_1 ?_
  refine lv_if_le (tgt := 23) hx hb d_Lines_toldLine_4 (by decide) (fun hc1 => ?_) (fun hc1 => ?_)
  · refine lv_iload_n hx hb d_Lines_toldLine_23 rfl (lv_at hl 1 rfl) ?_
    exact fin_i (g := g) (ws := Sw shC g ad S) (v := v1) hx hb hr hlocks (by decide +kernel) (by decide +kernel) hP hD hS ⟨_, rfl, (by unfold r_Lines_toldLine; rw [if_pos hc1]), rfl⟩ d_Lines_toldLine_24
  · refine lv_iload_n hx hb d_Lines_toldLine_7 rfl (lv_at hl 1 rfl) ?_
    refine lv_aload_n hx hb d_Lines_toldLine_8 rfl (lv_at hl 0 rfl) ?_
    refine S_getR (h := shC) (C := "MacroMill$Lines") (T := F_Lines) hx hb htt in_Lines hown hK hP 11 8 rfl 74 rfl rfl (by decide) (htt _ k_767) (fun _ h9 => h9) d_Lines_toldLine_9 ?_
    refine lv_aload_n hx hb d_Lines_toldLine_12 rfl (lv_at hl 0 rfl) ?_
    refine S_getI (h := shC) (C := "MacroMill$Lines") (T := F_Lines) hx hb htt in_Lines hown hK hP 11 11 rfl rfl rfl (by decide) (htt _ k_770) (fun _ h9 => h9) d_Lines_toldLine_13 ?_
    refine lv_iconst (v := 1) hx hb d_Lines_toldLine_16 (by decide) ?_
    refine lv_isub hx hb d_Lines_toldLine_17 ?_
    refine S_iald (h := shC) (i := (S.1 11 11) - (1 : Int32)) hx hb hK hP 61 rfl (hb0 hc1) d_Lines_toldLine_18 ?_
    refine lv_iadd hx hb d_Lines_toldLine_19 ?_
    show W _ _ _ _ _ _ _ _ _ _ _ _ _ _ _ (F0 _ 20 _ _)
    refine lv_goto (tgt := 24) hx hb d_Lines_toldLine_20 (by decide) ?_
    exact fin_i (g := g) (ws := Sw shC g ad S) (v := v1 + (S.2.1 61 ((S.1 11 11) - (1 : Int32) : Int32).toNatClampNeg)) hx hb hr hlocks (by decide +kernel) (by decide +kernel) hP hD hS ⟨_, rfl, (by unfold r_Lines_toldLine; rw [if_neg hc1]), rfl⟩ d_Lines_toldLine_24
def r_Lines_titleByte (S : sS) (v1 : Int32) : Int32 := if (S.1 11 11) = (0 : Int32) then ((-1)) else (if v1 < (S.2.1 63 ((S.1 11 11) - (1 : Int32) : Int32).toNatClampNeg) then ((S.2.1 62 ((((S.1 11 11) - (1 : Int32)) * (64 : Int32)) + v1 : Int32).toNatClampNeg) &&& (255 : Int32)) else ((-1)))
abbrev rm_a_Lines_titleByte : Room := { frames := 0, cells := 0, slots := 0, locals := 0 }
set_option maxHeartbeats 4000000 in
set_option maxRecDepth 100000 in
theorem a_Lines_titleByte (l : Launch) (g : gG) (sz : Nat) (ad : Nat → Nat) (S : sS) (v1 : Int32) (hb0 : ¬ ((S.1 11 11) = (0 : Int32)) → vp_in ((S.1 11 11) - (1 : Int32)) 21) (hb1 : ¬ ((S.1 11 11) = (0 : Int32)) → v1 < (S.2.1 63 ((S.1 11 11) - (1 : Int32) : Int32).toNatClampNeg) → vp_in ((((S.1 11 11) - (1 : Int32)) * (64 : Int32)) + v1) 1344) : Ci l y_Lines_titleByte b_Lines_titleByte 2 rm_a_Lines_titleByte g [.ref (ad 11), .int v1] (Sw shC g ad S) sz (fun r w => ∃ S' : sS, w = Sw shC g ad S' ∧ r = r_Lines_titleByte S v1 ∧ S' = S) := by
  refine startI (by decide) (Nat.le_of_ble_eq_true rfl) ?_
  intro p e s m below meth c A ls hx hb hr hml hlocks hmn hown htt hN hA hP hK hD hS hl
  have hown : s.vm.findClass "MacroMill$Lines" = some m.cls := hown
  have hl : lv_has ls 2 [(0, .ref (ad 11)), (1, .int v1)] := hl
  refine lv_aload_n hx hb d_Lines_titleByte_0 rfl (lv_at hl 0 rfl) ?_
  refine S_getI (h := shC) (C := "MacroMill$Lines") (T := F_Lines) hx hb htt in_Lines hown hK hP 11 11 rfl rfl rfl (by decide) (htt _ k_770) (fun _ h9 => h9) d_Lines_titleByte_1 ?_
  refine lv_if_eq (tgt := 22) hx hb d_Lines_titleByte_4 (by decide) (fun hc1 => ?_) (fun hc1 => ?_)
  · refine lv_iconst (v := (-1)) hx hb d_Lines_titleByte_22 (by decide) ?_
    exact fin_i (g := g) (ws := Sw shC g ad S) (v := (-1)) hx hb hr hlocks (by decide +kernel) (by decide +kernel) hP hD hS ⟨_, rfl, (by unfold r_Lines_titleByte; rw [if_pos hc1]), rfl⟩ d_Lines_titleByte_23
  · refine lv_iload_n hx hb d_Lines_titleByte_7 rfl (lv_at hl 1 rfl) ?_
    refine lv_aload_n hx hb d_Lines_titleByte_8 rfl (lv_at hl 0 rfl) ?_
    refine S_getR (h := shC) (C := "MacroMill$Lines") (T := F_Lines) hx hb htt in_Lines hown hK hP 11 10 rfl 76 rfl rfl (by decide) (htt _ k_769) (fun _ h9 => h9) d_Lines_titleByte_9 ?_
    refine lv_aload_n hx hb d_Lines_titleByte_12 rfl (lv_at hl 0 rfl) ?_
    refine S_getI (h := shC) (C := "MacroMill$Lines") (T := F_Lines) hx hb htt in_Lines hown hK hP 11 11 rfl rfl rfl (by decide) (htt _ k_770) (fun _ h9 => h9) d_Lines_titleByte_13 ?_
    refine lv_iconst (v := 1) hx hb d_Lines_titleByte_16 (by decide) ?_
    refine lv_isub hx hb d_Lines_titleByte_17 ?_
    refine S_iald (h := shC) (i := (S.1 11 11) - (1 : Int32)) hx hb hK hP 63 rfl (hb0 hc1) d_Lines_titleByte_18 ?_
    refine lv_icmp_lt (tgt := 24) hx hb d_Lines_titleByte_19 (by decide) (fun hc2 => ?_) (fun hc2 => ?_)
    · refine lv_aload_n hx hb d_Lines_titleByte_24 rfl (lv_at hl 0 rfl) ?_
      show W _ _ _ _ _ _ _ _ _ _ _ _ _ _ _ (F0 _ 25 _ _)
      refine S_getR (h := shC) (C := "MacroMill$Lines") (T := F_Lines) hx hb htt in_Lines hown hK hP 11 9 rfl 75 rfl rfl (by decide) (htt _ k_768) (fun _ h9 => h9) d_Lines_titleByte_25 ?_
      refine lv_aload_n hx hb d_Lines_titleByte_28 rfl (lv_at hl 0 rfl) ?_
      refine S_getI (h := shC) (C := "MacroMill$Lines") (T := F_Lines) hx hb htt in_Lines hown hK hP 11 11 rfl rfl rfl (by decide) (htt _ k_770) (fun _ h9 => h9) d_Lines_titleByte_29 ?_
      refine lv_iconst (v := 1) hx hb d_Lines_titleByte_32 (by decide) ?_
      refine lv_isub hx hb d_Lines_titleByte_33 ?_
      refine lv_bipush (v := 64) hx hb d_Lines_titleByte_34 (by decide) ?_
      refine lv_imul hx hb d_Lines_titleByte_36 ?_
      refine lv_iload_n hx hb d_Lines_titleByte_37 rfl (lv_at hl 1 rfl) ?_
      refine lv_iadd hx hb d_Lines_titleByte_38 ?_
      refine S_bald (h := shC) (i := (((S.1 11 11) - (1 : Int32)) * (64 : Int32)) + v1) hx hb hK hP 62 rfl (hb1 hc1 hc2) d_Lines_titleByte_39 ?_
      refine lv_sipush (v := 255) hx hb d_Lines_titleByte_40 (by decide) ?_
      refine lv_iand hx hb d_Lines_titleByte_43 ?_
      show W _ _ _ _ _ _ _ _ _ _ _ _ _ _ _ (F0 _ 44 _ _)
      exact fin_i (g := g) (ws := Sw shC g ad S) (v := (S.2.1 62 ((((S.1 11 11) - (1 : Int32)) * (64 : Int32)) + v1 : Int32).toNatClampNeg) &&& (255 : Int32)) hx hb hr hlocks (by decide +kernel) (by decide +kernel) hP hD hS ⟨_, rfl, (by unfold r_Lines_titleByte; rw [if_neg hc1, if_pos hc2]), rfl⟩ d_Lines_titleByte_44
    · refine lv_iconst (v := (-1)) hx hb d_Lines_titleByte_22 (by decide) ?_
      show W _ _ _ _ _ _ _ _ _ _ _ _ _ _ _ (F0 _ 23 _ _)
      exact fin_i (g := g) (ws := Sw shC g ad S) (v := (-1)) hx hb hr hlocks (by decide +kernel) (by decide +kernel) hP hD hS ⟨_, rfl, (by unfold r_Lines_titleByte; rw [if_neg hc1, if_neg hc2]), rfl⟩ d_Lines_titleByte_23
def r_Replacer_spelledSince (S : sS) (v1 : Int32) (v2 : Int32) : Int64 := if (r_Tokens_isOverfull S) = (0 : Int32) then (r_Tokens_spelled S (v1) ((S.1 9 2) - v1)) else (r_Tokens_spelled (s_Outcome_fail S (21 : Int32) (v2)) (v1) (((s_Outcome_fail S (21 : Int32) (v2)).1 9 2) - v1))
def s_Replacer_spelledSince (S : sS) (v1 : Int32) (v2 : Int32) : sS := if (r_Tokens_isOverfull S) = (0 : Int32) then S else ((s_Outcome_fail S (21 : Int32) (v2)))
abbrev rm_a_Replacer_spelledSince : Room := { frames := 1, cells := 0, slots := 0, locals := 22 }
set_option maxHeartbeats 4000000 in
set_option maxRecDepth 100000 in
theorem a_Replacer_spelledSince (l : Launch) (g : gG) (sz : Nat) (ad : Nat → Nat) (S : sS) (v1 : Int32) (v2 : Int32) (hb0 : narrow .boolean (.int (S.1 9 3)) = .int (S.1 9 3)) : Cl l y_Replacer_spelledSince b_Replacer_spelledSince 3 rm_a_Replacer_spelledSince g [.ref (ad 12), .int v1, .int v2] (Sw shC g ad S) sz (fun r w => ∃ S' : sS, w = Sw shC g ad S' ∧ r = r_Replacer_spelledSince S v1 v2 ∧ S' = s_Replacer_spelledSince S v1 v2) := by
  refine startL (by decide) (Nat.le_of_ble_eq_true rfl) ?_
  intro p e s m below meth c A ls hx hb hr hml hlocks hmn hown htt hN hA hP hK hD hS hl
  have hown : s.vm.findClass "MacroMill$Replacer" = some m.cls := hown
  have hl : lv_has ls 3 [(0, .ref (ad 12)), (1, .int v1), (2, .int v2)] := hl
  refine lv_aload_n hx hb d_Replacer_spelledSince_0 rfl (lv_at hl 0 rfl) ?_
  refine S_getR (h := shC) (C := "MacroMill$Replacer") (T := F_Replacer) hx hb htt in_Replacer hown hK hP 12 0 rfl 9 rfl rfl (by decide) (htt _ k_826) (fun _ h9 => h9) d_Replacer_spelledSince_1 ?_
  refine go_iS (As := [.ref (ad 9)]) (g := g) (A := A) (h := shC) hP hK hD hS hA hN (fun hp => va_runV (As := []) (rest := []) ⟨hx, hb, hml, hown, htt⟩ (a_Tokens_isOverfull l g _ ad S hb0) ⟨(cb_L htt k_1812 k_271 k_1809 hd_Tokens_isOverfull ⟨(by decide +kernel), (by decide +kernel)⟩), htt _ k_1810, htt _ k_1811⟩ ⟨hp.1, S_recv hK hP 9 rfl rfl, hp.2⟩ rfl rfl hl.1 rfl (lv_room (Nat.le_of_ble_eq_true rfl)) d_Replacer_spelledSince_4 ⟨(by decide +kernel), (by decide +kernel)⟩) (fun r9 Sn H locs hw9 hP hD hS => ?_)
  obtain ⟨rfl, e9⟩ := hw9
  rw [e9] at hP hD
  refine W.widen (k := 0) (n := 0) (by decide +kernel) (by decide +kernel) ?_
  refine lv_if_eq (tgt := 20) hx hb d_Replacer_spelledSince_7 (by decide) (fun hc1 => ?_) (fun hc1 => ?_)
  · refine lv_iload_n hx hb d_Replacer_spelledSince_20 rfl (lv_at hl 1 rfl) ?_
    refine lv_aload_n hx hb d_Replacer_spelledSince_21 rfl (lv_at hl 0 rfl) ?_
    refine S_getR (h := shC) (C := "MacroMill$Replacer") (T := F_Replacer) hx hb htt in_Replacer hown hK hP 12 0 rfl 9 rfl rfl (by decide) (htt _ k_826) (fun _ h9 => h9) d_Replacer_spelledSince_22 ?_
    refine S_getI (h := shC) (C := "MacroMill$Tokens") (T := F_Tokens) hx hb htt in_Tokens hown hK hP 9 2 rfl rfl rfl (by decide) (htt _ k_640) (fun _ h9 => h9) d_Replacer_spelledSince_25 ?_
    refine lv_iload_n hx hb d_Replacer_spelledSince_28 rfl (lv_at hl 1 rfl) ?_
    refine lv_isub hx hb d_Replacer_spelledSince_29 ?_
    refine go_lS (As := [.int v1, .int ((S.1 9 2) - v1)]) (g := g) (A := A) (h := shC) hP hK hD hS hA hN (fun hp => va_runS (As := [.int v1, .int ((S.1 9 2) - v1)]) (rest := []) ⟨hx, hb, hml, hown, htt⟩ (a_Tokens_spelled l g _ ad S (v1) ((S.1 9 2) - v1)) ⟨(cb_L htt k_1693 k_271 k_1828 hd_Tokens_spelled ⟨(by decide +kernel), (by decide +kernel)⟩), htt _ k_1692⟩ hp rfl rfl hl.1 rfl (lv_room (Nat.le_of_ble_eq_true rfl)) d_Replacer_spelledSince_30 ⟨(by decide +kernel), (by decide +kernel)⟩) (fun r9 Sn_2 H locs hw9 hP hD hS => ?_)
    obtain ⟨rfl, e9⟩ := hw9
    rw [e9] at hP hD
    refine W.widen (k := 0) (n := 0) (by decide +kernel) (by decide +kernel) ?_
    exact fin_l (g := g) (ws := Sw shC g ad S) (v := r_Tokens_spelled S (v1) ((S.1 9 2) - v1)) hx hb hr hlocks (by decide +kernel) (by decide +kernel) hP hD hS ⟨_, rfl, (by unfold r_Replacer_spelledSince; rw [if_pos hc1]), (by unfold s_Replacer_spelledSince; rw [if_pos hc1])⟩ d_Replacer_spelledSince_33
  · refine lv_aload_n hx hb d_Replacer_spelledSince_10 rfl (lv_at hl 0 rfl) ?_
    refine S_getR (h := shC) (C := "MacroMill$Replacer") (T := F_Replacer) hx hb htt in_Replacer hown hK hP 12 3 rfl 2 rfl rfl (by decide) (htt _ k_829) (fun _ h9 => h9) d_Replacer_spelledSince_11 ?_
    refine lv_bipush (v := 21) hx hb d_Replacer_spelledSince_14 (by decide) ?_
    refine lv_iload_n hx hb d_Replacer_spelledSince_16 rfl (lv_at hl 2 rfl) ?_
    refine go_vS (As := [.ref (ad 2), .int 21, .int v2]) (g := g) (A := A) (h := shC) hP hK hD hS hA hN (fun hp => va_runV (As := [.int 21, .int v2]) (rest := []) ⟨hx, hb, hml, hown, htt⟩ (a_Outcome_fail l g _ ad S (21 : Int32) (v2)) ⟨(cb_L htt k_1163 k_264 k_1777 hd_Outcome_fail ⟨(by decide +kernel), (by decide +kernel)⟩), htt _ k_1161, htt _ k_1162⟩ ⟨hp.1, S_recv hK hP 2 rfl rfl, hp.2⟩ rfl rfl hl.1 rfl (lv_room (Nat.le_of_ble_eq_true rfl)) d_Replacer_spelledSince_17 ⟨(by decide +kernel), (by decide +kernel)⟩) (fun Sn_3 H locs hw9 hP hD hS => ?_)
    obtain rfl := hw9
    refine W.widen (k := 0) (n := 0) (by decide +kernel) (by decide +kernel) ?_
    refine lv_iload_n hx hb d_Replacer_spelledSince_20 rfl (lv_at hl 1 rfl) ?_
    refine lv_aload_n hx hb d_Replacer_spelledSince_21 rfl (lv_at hl 0 rfl) ?_
    refine S_getR (h := shC) (C := "MacroMill$Replacer") (T := F_Replacer) hx hb htt in_Replacer hown hK hP 12 0 rfl 9 rfl rfl (by decide) (htt _ k_826) (fun _ h9 => h9) d_Replacer_spelledSince_22 ?_
    show W _ _ _ _ _ _ _ _ _ _ _ _ _ _ _ (F0 _ 25 _ _)
    refine S_getI (h := shC) (C := "MacroMill$Tokens") (T := F_Tokens) hx hb htt in_Tokens hown hK hP 9 2 rfl rfl rfl (by decide) (htt _ k_640) (fun _ h9 => h9) d_Replacer_spelledSince_25 ?_
    refine lv_iload_n hx hb d_Replacer_spelledSince_28 rfl (lv_at hl 1 rfl) ?_
    refine lv_isub hx hb d_Replacer_spelledSince_29 ?_
    refine go_lS (As := [.int v1, .int (((s_Outcome_fail S (21 : Int32) (v2)).1 9 2) - v1)]) (g := g) (A := A) (h := shC) hP hK hD hS hA hN (fun hp => va_runS (As := [.int v1, .int (((s_Outcome_fail S (21 : Int32) (v2)).1 9 2) - v1)]) (rest := []) ⟨hx, hb, hml, hown, htt⟩ (a_Tokens_spelled l g _ ad (s_Outcome_fail S (21 : Int32) (v2)) (v1) (((s_Outcome_fail S (21 : Int32) (v2)).1 9 2) - v1)) ⟨(cb_L htt k_1693 k_271 k_1828 hd_Tokens_spelled ⟨(by decide +kernel), (by decide +kernel)⟩), htt _ k_1692⟩ hp rfl rfl hl.1 rfl (lv_room (Nat.le_of_ble_eq_true rfl)) d_Replacer_spelledSince_30 ⟨(by decide +kernel), (by decide +kernel)⟩) (fun r9 Sn_4 H locs hw9 hP hD hS => ?_)
    obtain ⟨rfl, e9⟩ := hw9
    rw [e9] at hP hD
    refine W.widen (k := 0) (n := 0) (by decide +kernel) (by decide +kernel) ?_
    exact fin_l (g := g) (ws := Sw shC g ad (s_Outcome_fail S (21 : Int32) (v2))) (v := r_Tokens_spelled (s_Outcome_fail S (21 : Int32) (v2)) (v1) (((s_Outcome_fail S (21 : Int32) (v2)).1 9 2) - v1)) hx hb hr hlocks (by decide +kernel) (by decide +kernel) hP hD hS ⟨_, rfl, (by unfold r_Replacer_spelledSince; rw [if_neg hc1]), (by unfold s_Replacer_spelledSince; rw [if_neg hc1])⟩ d_Replacer_spelledSince_33
def s_Replacer_clearRow (S : sS) (v1 : Int32) : sS := (putA (putA (putA S 71 (v1 : Int32).toNatClampNeg (-1)) 72 (v1 : Int32).toNatClampNeg (-1)) 73 (v1 : Int32).toNatClampNeg 0)
abbrev rm_a_Replacer_clearRow : Room := { frames := 0, cells := 0, slots := 0, locals := 0 }
set_option maxHeartbeats 4000000 in
set_option maxRecDepth 100000 in
theorem a_Replacer_clearRow (l : Launch) (g : gG) (sz : Nat) (ad : Nat → Nat) (S : sS) (v1 : Int32) (hb0 : vp_in (v1) 62) : Cv l y_Replacer_clearRow b_Replacer_clearRow 2 rm_a_Replacer_clearRow g [.ref (ad 12), .int v1] (Sw shC g ad S) sz (fun w => ∃ S' : sS, w = Sw shC g ad S' ∧ S' = s_Replacer_clearRow S v1) := by
  refine startV (by decide) (Nat.le_of_ble_eq_true rfl) ?_
  intro p e s m below meth c A ls hx hb hr hml hlocks hmn hown htt hN hA hP hK hD hS hl
  have hown : s.vm.findClass "MacroMill$Replacer" = some m.cls := hown
  have hl : lv_has ls 2 [(0, .ref (ad 12)), (1, .int v1)] := hl
  refine lv_aload_n hx hb d_Replacer_clearRow_0 rfl (lv_at hl 0 rfl) ?_
  refine S_getR (h := shC) (C := "MacroMill$Replacer") (T := F_Replacer) hx hb htt in_Replacer hown hK hP 12 11 rfl 84 rfl rfl (by decide) (htt _ k_837) (fun _ h9 => h9) d_Replacer_clearRow_1 ?_
  refine lv_iload_n hx hb d_Replacer_clearRow_4 rfl (lv_at hl 1 rfl) ?_
  refine lv_iconst (v := (-1)) hx hb d_Replacer_clearRow_5 (by decide) ?_
  refine S_iast (h := shC) (i := v1) (v := (-1)) hx hb hK hP hD hS 71 rfl hb0 d_Replacer_clearRow_6 (fun H locs hP hD hS => ?_)
  refine lv_aload_n hx hb d_Replacer_clearRow_7 rfl (lv_at hl 0 rfl) ?_
  refine S_getR (h := shC) (C := "MacroMill$Replacer") (T := F_Replacer) hx hb htt in_Replacer hown hK hP 12 12 rfl 85 rfl rfl (by decide) (htt _ k_838) (fun _ h9 => h9) d_Replacer_clearRow_8 ?_
  refine lv_iload_n hx hb d_Replacer_clearRow_11 rfl (lv_at hl 1 rfl) ?_
  refine lv_iconst (v := (-1)) hx hb d_Replacer_clearRow_12 (by decide) ?_
  refine S_iast (h := shC) (i := v1) (v := (-1)) hx hb hK hP hD hS 72 rfl hb0 d_Replacer_clearRow_13 (fun H locs hP hD hS => ?_)
  refine lv_aload_n hx hb d_Replacer_clearRow_14 rfl (lv_at hl 0 rfl) ?_
  show W _ _ _ _ _ _ _ _ _ _ _ _ _ _ _ (F0 _ 15 _ _)
  refine S_getR (h := shC) (C := "MacroMill$Replacer") (T := F_Replacer) hx hb htt in_Replacer hown hK hP 12 13 rfl 86 rfl rfl (by decide) (htt _ k_839) (fun _ h9 => h9) d_Replacer_clearRow_15 ?_
  refine lv_iload_n hx hb d_Replacer_clearRow_18 rfl (lv_at hl 1 rfl) ?_
  refine lv_iconst (v := 0) hx hb d_Replacer_clearRow_19 (by decide) ?_
  refine S_iast (h := shC) (i := v1) (v := 0) hx hb hK hP hD hS 73 rfl hb0 d_Replacer_clearRow_20 (fun H locs hP hD hS => ?_)
  exact fin_v (g := g) (ws := Sw shC g ad (putA (putA (putA S 71 (v1 : Int32).toNatClampNeg (-1)) 72 (v1 : Int32).toNatClampNeg (-1)) 73 (v1 : Int32).toNatClampNeg 0)) hx hb hr hlocks (by decide +kernel) (by decide +kernel) hP hD hS ⟨_, rfl, rfl⟩ d_Replacer_clearRow_21
def s_Replacer_append (S : sS) (v1 : Int32) (v2 : Int64) (v3 : Int32) : sS := if (0 : Int32) ≤ (r_Tokens_add S (v2) (v3)) then (if ((s_Tokens_add S (v2) (v3)).2.1 72 (v1 : Int32).toNatClampNeg) = ((-1) : Int32) then ((putA (putA (putA (s_Tokens_add S (v2) (v3)) 71 (v1 : Int32).toNatClampNeg (r_Tokens_add S (v2) (v3))) 72 (v1 : Int32).toNatClampNeg (r_Tokens_add S (v2) (v3))) 73 (v1 : Int32).toNatClampNeg (((putA (putA (s_Tokens_add S (v2) (v3)) 71 (v1 : Int32).toNatClampNeg (r_Tokens_add S (v2) (v3))) 72 (v1 : Int32).toNatClampNeg (r_Tokens_add S (v2) (v3))).2.1 73 (v1 : Int32).toNatClampNeg) + (1 : Int32)))) else ((putA (putA (putA (s_Tokens_add S (v2) (v3)) 41 ((s_Tokens_add S (v2) (v3)).2.1 72 (v1 : Int32).toNatClampNeg : Int32).toNatClampNeg (r_Tokens_add S (v2) (v3))) 72 (v1 : Int32).toNatClampNeg (r_Tokens_add S (v2) (v3))) 73 (v1 : Int32).toNatClampNeg (((putA (putA (s_Tokens_add S (v2) (v3)) 41 ((s_Tokens_add S (v2) (v3)).2.1 72 (v1 : Int32).toNatClampNeg : Int32).toNatClampNeg (r_Tokens_add S (v2) (v3))) 72 (v1 : Int32).toNatClampNeg (r_Tokens_add S (v2) (v3))).2.1 73 (v1 : Int32).toNatClampNeg) + (1 : Int32))))) else ((s_Outcome_fail (s_Tokens_add S (v2) (v3)) (21 : Int32) (r_Tokens_lineOf (s_Tokens_add S (v2) (v3)) (v3))))
abbrev rm_a_Replacer_append : Room := { frames := 1, cells := 0, slots := 0, locals := 23 }
set_option maxHeartbeats 4000000 in
set_option maxRecDepth 100000 in
theorem a_Replacer_append (l : Launch) (g : gG) (sz : Nat) (ad : Nat → Nat) (S : sS) (v1 : Int32) (v2 : Int64) (v3 : Int32) (hb0 : (S.1 9 8) < (120784 : Int32) → vp_in (S.1 9 8) 120784) (hb1 : (0 : Int32) ≤ (r_Tokens_add S (v2) (v3)) → vp_in (v1) 62) (hb2 : (0 : Int32) ≤ (r_Tokens_add S (v2) (v3)) → ¬ (((s_Tokens_add S (v2) (v3)).2.1 72 (v1 : Int32).toNatClampNeg) = ((-1) : Int32)) → vp_in (v1) 62) (hb3 : (0 : Int32) ≤ (r_Tokens_add S (v2) (v3)) → ¬ (((s_Tokens_add S (v2) (v3)).2.1 72 (v1 : Int32).toNatClampNeg) = ((-1) : Int32)) → vp_in ((s_Tokens_add S (v2) (v3)).2.1 72 (v1 : Int32).toNatClampNeg) 120784) (hb4 : (0 : Int32) ≤ (r_Tokens_add S (v2) (v3)) → ((s_Tokens_add S (v2) (v3)).2.1 72 (v1 : Int32).toNatClampNeg) = ((-1) : Int32) → vp_in (v1) 62) : Cv l y_Replacer_append b_Replacer_append 6 rm_a_Replacer_append g [.ref (ad 12), .int v1, .long v2, .int v3] (Sw shC g ad S) sz (fun w => ∃ S' : sS, w = Sw shC g ad S' ∧ S' = s_Replacer_append S v1 v2 v3) := by
  refine startV (by decide) (Nat.le_of_ble_eq_true rfl) ?_
  intro p e s m below meth c A ls hx hb hr hml hlocks hmn hown htt hN hA hP hK hD hS hl
  have hown : s.vm.findClass "MacroMill$Replacer" = some m.cls := hown
  have hl : lv_has ls 6 [(0, .ref (ad 12)), (1, .int v1), (2, .long v2), (4, .int v3)] := hl
  refine lv_aload_n hx hb d_Replacer_append_0 rfl (lv_at hl 0 rfl) ?_
  refine S_getR (h := shC) (C := "MacroMill$Replacer") (T := F_Replacer) hx hb htt in_Replacer hown hK hP 12 0 rfl 9 rfl rfl (by decide) (htt _ k_826) (fun _ h9 => h9) d_Replacer_append_1 ?_
  refine lv_lload_n hx hb d_Replacer_append_4 rfl (lv_at hl 2 rfl) ?_
  refine lv_iload hx hb d_Replacer_append_5 (lv_at hl 3 rfl) ?_
  refine go_iS (As := [.ref (ad 9), .long v2, .int v3]) (g := g) (A := A) (h := shC) hP hK hD hS hA hN (fun hp => va_runV (As := [.long v2, .int v3]) (rest := []) ⟨hx, hb, hml, hown, htt⟩ (a_Tokens_add l g _ ad S (v2) (v3) hb0) ⟨(cb_L htt k_1700 k_271 k_1850 hd_Tokens_add ⟨(by decide +kernel), (by decide +kernel)⟩), htt _ k_1698, htt _ k_1699⟩ ⟨hp.1, S_recv hK hP 9 rfl rfl, hp.2⟩ rfl rfl hl.1 rfl (lv_room (Nat.le_of_ble_eq_true rfl)) d_Replacer_append_7 ⟨(by decide +kernel), (by decide +kernel)⟩) (fun r9 Sn H locs hw9 hP hD hS => ?_)
  obtain ⟨rfl, rfl⟩ := hw9
  refine W.widen (k := 0) (n := 0) (by decide +kernel) (by decide +kernel) ?_
  refine lv_istore (lv' := [(5, .int (r_Tokens_add S (v2) (v3))), (0, .ref (ad 12)), (1, .int v1), (2, .long v2), (4, .int v3)]) hx hb d_Replacer_append_10 hl (by decide) rfl (fun ls hl => ?_)
  refine lv_iload hx hb d_Replacer_append_12 (lv_at hl 0 rfl) ?_
  refine lv_if_ge (tgt := 32) hx hb d_Replacer_append_14 (by decide) (fun hc1 => ?_) (fun hc1 => ?_)
  · refine lv_aload_n hx hb d_Replacer_append_32 rfl (lv_at hl 1 rfl) ?_
    refine S_getR (h := shC) (C := "MacroMill$Replacer") (T := F_Replacer) hx hb htt in_Replacer hown hK hP 12 12 rfl 85 rfl rfl (by decide) (htt _ k_838) (fun _ h9 => h9) d_Replacer_append_33 ?_
    refine lv_iload_n hx hb d_Replacer_append_36 rfl (lv_at hl 2 rfl) ?_
    refine S_iald (h := shC) (i := v1) hx hb hK hP 72 rfl (hb1 hc1) d_Replacer_append_37 ?_
    show W _ _ _ _ _ _ _ _ _ _ _ _ _ _ _ (F0 _ 38 _ _)
    refine lv_iconst (v := (-1)) hx hb d_Replacer_append_38 (by decide) ?_
    refine lv_icmp_ne (tgt := 53) hx hb d_Replacer_append_39 (by decide) (fun hc2 => ?_) (fun hc2 => ?_)
    · refine lv_aload_n hx hb d_Replacer_append_53 rfl (lv_at hl 1 rfl) ?_
      refine S_getR (h := shC) (C := "MacroMill$Replacer") (T := F_Replacer) hx hb htt in_Replacer hown hK hP 12 0 rfl 9 rfl rfl (by decide) (htt _ k_826) (fun _ h9 => h9) d_Replacer_append_54 ?_
      refine S_getR (h := shC) (C := "MacroMill$Tokens") (T := F_Tokens) hx hb htt in_Tokens hown hK hP 9 7 rfl 54 rfl rfl (by decide) (htt _ k_655) (fun _ h9 => h9) d_Replacer_append_57 ?_
      refine lv_aload_n hx hb d_Replacer_append_60 rfl (lv_at hl 1 rfl) ?_
      refine S_getR (h := shC) (C := "MacroMill$Replacer") (T := F_Replacer) hx hb htt in_Replacer hown hK hP 12 12 rfl 85 rfl rfl (by decide) (htt _ k_838) (fun _ h9 => h9) d_Replacer_append_61 ?_
      refine lv_iload_n hx hb d_Replacer_append_64 rfl (lv_at hl 2 rfl) ?_
      refine S_iald (h := shC) (i := v1) hx hb hK hP 72 rfl (hb2 hc1 hc2) d_Replacer_append_65 ?_
      refine lv_iload hx hb d_Replacer_append_66 (lv_at hl 0 rfl) ?_
      refine S_iast (h := shC) (i := (s_Tokens_add S (v2) (v3)).2.1 72 (v1 : Int32).toNatClampNeg) (v := r_Tokens_add S (v2) (v3)) hx hb hK hP hD hS 41 rfl (hb3 hc1 hc2) d_Replacer_append_68 (fun H locs hP hD hS => ?_)
      refine lv_aload_n hx hb d_Replacer_append_69 rfl (lv_at hl 1 rfl) ?_
      refine S_getR (h := shC) (C := "MacroMill$Replacer") (T := F_Replacer) hx hb htt in_Replacer hown hK hP 12 12 rfl 85 rfl rfl (by decide) (htt _ k_838) (fun _ h9 => h9) d_Replacer_append_70 ?_
      show W _ _ _ _ _ _ _ _ _ _ _ _ _ _ _ (F0 _ 73 _ _)
      refine lv_iload_n hx hb d_Replacer_append_73 rfl (lv_at hl 2 rfl) ?_
      refine lv_iload hx hb d_Replacer_append_74 (lv_at hl 0 rfl) ?_
      refine S_iast (h := shC) (i := v1) (v := r_Tokens_add S (v2) (v3)) hx hb hK hP hD hS 72 rfl (hb2 hc1 hc2) d_Replacer_append_76 (fun H locs hP hD hS => ?_)
      refine lv_aload_n hx hb d_Replacer_append_77 rfl (lv_at hl 1 rfl) ?_
      refine S_getR (h := shC) (C := "MacroMill$Replacer") (T := F_Replacer) hx hb htt in_Replacer hown hK hP 12 13 rfl 86 rfl rfl (by decide) (htt _ k_839) (fun _ h9 => h9) d_Replacer_append_78 ?_
      refine lv_iload_n hx hb d_Replacer_append_81 rfl (lv_at hl 2 rfl) ?_
      refine lv_dup2_11 hx hb d_Replacer_append_82 rfl rfl ?_
      refine S_iald (h := shC) (i := v1) hx hb hK hP 73 rfl (hb2 hc1 hc2) d_Replacer_append_83 ?_
      refine lv_iconst (v := 1) hx hb d_Replacer_append_84 (by decide) ?_
      refine lv_iadd hx hb d_Replacer_append_85 ?_
      refine S_iast (h := shC) (i := v1) (v := ((putA (putA (s_Tokens_add S (v2) (v3)) 41 ((s_Tokens_add S (v2) (v3)).2.1 72 (v1 : Int32).toNatClampNeg : Int32).toNatClampNeg (r_Tokens_add S (v2) (v3))) 72 (v1 : Int32).toNatClampNeg (r_Tokens_add S (v2) (v3))).2.1 73 (v1 : Int32).toNatClampNeg) + (1 : Int32)) hx hb hK hP hD hS 73 rfl (hb2 hc1 hc2) d_Replacer_append_86 (fun H locs hP hD hS => ?_)
      exact fin_v (g := g) (ws := Sw shC g ad (putA (putA (putA (s_Tokens_add S (v2) (v3)) 41 ((s_Tokens_add S (v2) (v3)).2.1 72 (v1 : Int32).toNatClampNeg : Int32).toNatClampNeg (r_Tokens_add S (v2) (v3))) 72 (v1 : Int32).toNatClampNeg (r_Tokens_add S (v2) (v3))) 73 (v1 : Int32).toNatClampNeg (((putA (putA (s_Tokens_add S (v2) (v3)) 41 ((s_Tokens_add S (v2) (v3)).2.1 72 (v1 : Int32).toNatClampNeg : Int32).toNatClampNeg (r_Tokens_add S (v2) (v3))) 72 (v1 : Int32).toNatClampNeg (r_Tokens_add S (v2) (v3))).2.1 73 (v1 : Int32).toNatClampNeg) + (1 : Int32)))) hx hb hr hlocks (by decide +kernel) (by decide +kernel) hP hD hS ⟨_, rfl, (by unfold s_Replacer_append; rw [if_pos hc1, if_neg hc2])⟩ d_Replacer_append_87
    · refine lv_aload_n hx hb d_Replacer_append_42 rfl (lv_at hl 1 rfl) ?_
      refine S_getR (h := shC) (C := "MacroMill$Replacer") (T := F_Replacer) hx hb htt in_Replacer hown hK hP 12 11 rfl 84 rfl rfl (by decide) (htt _ k_837) (fun _ h9 => h9) d_Replacer_append_43 ?_
      refine lv_iload_n hx hb d_Replacer_append_46 rfl (lv_at hl 2 rfl) ?_
      refine lv_iload hx hb d_Replacer_append_47 (lv_at hl 0 rfl) ?_
      refine S_iast (h := shC) (i := v1) (v := r_Tokens_add S (v2) (v3)) hx hb hK hP hD hS 71 rfl (hb4 hc1 hc2) d_Replacer_append_49 (fun H locs hP hD hS => ?_)
      refine lv_goto (tgt := 69) hx hb d_Replacer_append_50 (by decide) ?_
      refine lv_aload_n hx hb d_Replacer_append_69 rfl (lv_at hl 1 rfl) ?_
      refine S_getR (h := shC) (C := "MacroMill$Replacer") (T := F_Replacer) hx hb htt in_Replacer hown hK hP 12 12 rfl 85 rfl rfl (by decide) (htt _ k_838) (fun _ h9 => h9) d_Replacer_append_70 ?_
      refine lv_iload_n hx hb d_Replacer_append_73 rfl (lv_at hl 2 rfl) ?_
      refine lv_iload hx hb d_Replacer_append_74 (lv_at hl 0 rfl) ?_
      refine S_iast (h := shC) (i := v1) (v := r_Tokens_add S (v2) (v3)) hx hb hK hP hD hS 72 rfl (hb4 hc1 hc2) d_Replacer_append_76 (fun H locs hP hD hS => ?_)
      show W _ _ _ _ _ _ _ _ _ _ _ _ _ _ _ (F0 _ 77 _ _)
      refine lv_aload_n hx hb d_Replacer_append_77 rfl (lv_at hl 1 rfl) ?_
      refine S_getR (h := shC) (C := "MacroMill$Replacer") (T := F_Replacer) hx hb htt in_Replacer hown hK hP 12 13 rfl 86 rfl rfl (by decide) (htt _ k_839) (fun _ h9 => h9) d_Replacer_append_78 ?_
      refine lv_iload_n hx hb d_Replacer_append_81 rfl (lv_at hl 2 rfl) ?_
      refine lv_dup2_11 hx hb d_Replacer_append_82 rfl rfl ?_
      refine S_iald (h := shC) (i := v1) hx hb hK hP 73 rfl (hb4 hc1 hc2) d_Replacer_append_83 ?_
      refine lv_iconst (v := 1) hx hb d_Replacer_append_84 (by decide) ?_
      refine lv_iadd hx hb d_Replacer_append_85 ?_
      refine S_iast (h := shC) (i := v1) (v := ((putA (putA (s_Tokens_add S (v2) (v3)) 71 (v1 : Int32).toNatClampNeg (r_Tokens_add S (v2) (v3))) 72 (v1 : Int32).toNatClampNeg (r_Tokens_add S (v2) (v3))).2.1 73 (v1 : Int32).toNatClampNeg) + (1 : Int32)) hx hb hK hP hD hS 73 rfl (hb4 hc1 hc2) d_Replacer_append_86 (fun H locs hP hD hS => ?_)
      exact fin_v (g := g) (ws := Sw shC g ad (putA (putA (putA (s_Tokens_add S (v2) (v3)) 71 (v1 : Int32).toNatClampNeg (r_Tokens_add S (v2) (v3))) 72 (v1 : Int32).toNatClampNeg (r_Tokens_add S (v2) (v3))) 73 (v1 : Int32).toNatClampNeg (((putA (putA (s_Tokens_add S (v2) (v3)) 71 (v1 : Int32).toNatClampNeg (r_Tokens_add S (v2) (v3))) 72 (v1 : Int32).toNatClampNeg (r_Tokens_add S (v2) (v3))).2.1 73 (v1 : Int32).toNatClampNeg) + (1 : Int32)))) hx hb hr hlocks (by decide +kernel) (by decide +kernel) hP hD hS ⟨_, rfl, (by unfold s_Replacer_append; rw [if_pos hc1, if_pos hc2])⟩ d_Replacer_append_87
  · refine lv_aload_n hx hb d_Replacer_append_17 rfl (lv_at hl 1 rfl) ?_
    refine S_getR (h := shC) (C := "MacroMill$Replacer") (T := F_Replacer) hx hb htt in_Replacer hown hK hP 12 3 rfl 2 rfl rfl (by decide) (htt _ k_829) (fun _ h9 => h9) d_Replacer_append_18 ?_
    refine lv_bipush (v := 21) hx hb d_Replacer_append_21 (by decide) ?_
    refine lv_iload hx hb d_Replacer_append_23 (lv_at hl 4 rfl) ?_
    show W _ _ _ _ _ _ _ _ _ _ _ _ _ _ _ (F0 _ 25 _ _)
    refine go_iS (As := [.int v3]) (g := g) (A := A) (h := shC) hP hK hD hS hA hN (fun hp => va_runS (As := [.int v3]) (rest := [.int 21, .ref (ad 2)]) ⟨hx, hb, hml, hown, htt⟩ (a_Tokens_lineOf l g _ ad (s_Tokens_add S (v2) (v3)) (v3)) ⟨(cb_L htt k_1853 k_271 k_1851 hd_Tokens_lineOf ⟨(by decide +kernel), (by decide +kernel)⟩), htt _ k_1852⟩ hp rfl rfl hl.1 rfl (lv_room (Nat.le_of_ble_eq_true rfl)) d_Replacer_append_25 ⟨(by decide +kernel), (by decide +kernel)⟩) (fun r9 Sn_2 H locs hw9 hP hD hS => ?_)
    obtain ⟨rfl, e9⟩ := hw9
    rw [e9] at hP hD
    refine W.widen (k := 0) (n := 0) (by decide +kernel) (by decide +kernel) ?_
    refine go_vS (As := [.ref (ad 2), .int 21, .int (r_Tokens_lineOf (s_Tokens_add S (v2) (v3)) (v3))]) (g := g) (A := A) (h := shC) hP hK hD hS hA hN (fun hp => va_runV (As := [.int 21, .int (r_Tokens_lineOf (s_Tokens_add S (v2) (v3)) (v3))]) (rest := []) ⟨hx, hb, hml, hown, htt⟩ (a_Outcome_fail l g _ ad (s_Tokens_add S (v2) (v3)) (21 : Int32) (r_Tokens_lineOf (s_Tokens_add S (v2) (v3)) (v3))) ⟨(cb_L htt k_1163 k_264 k_1777 hd_Outcome_fail ⟨(by decide +kernel), (by decide +kernel)⟩), htt _ k_1161, htt _ k_1162⟩ ⟨hp.1, S_recv hK hP 2 rfl rfl, hp.2⟩ rfl rfl hl.1 rfl (lv_room (Nat.le_of_ble_eq_true rfl)) d_Replacer_append_28 ⟨(by decide +kernel), (by decide +kernel)⟩) (fun Sn_3 H locs hw9 hP hD hS => ?_)
    obtain rfl := hw9
    refine W.widen (k := 0) (n := 0) (by decide +kernel) (by decide +kernel) ?_
    exact fin_v (g := g) (ws := Sw shC g ad (s_Outcome_fail (s_Tokens_add S (v2) (v3)) (21 : Int32) (r_Tokens_lineOf (s_Tokens_add S (v2) (v3)) (v3)))) hx hb hr hlocks (by decide +kernel) (by decide +kernel) hP hD hS ⟨_, rfl, (by unfold s_Replacer_append; rw [if_neg hc1])⟩ d_Replacer_append_31
def s_Replacer_put (S : sS) (v1 : Int32) (v2 : Int64) (v3 : Int32) (v4 : Int32) : sS := if (S.1 2 8) < (40000 : Int32) then ((s_Replacer_append (putI S 2 8 ((S.1 2 8) + (1 : Int32))) (v1) (v2) (r_Tokens_moved (putI S 2 8 ((S.1 2 8) + (1 : Int32))) (v3)))) else ((s_Outcome_fail S (21 : Int32) (v4)))
abbrev rm_a_Replacer_put : Room := { frames := 2, cells := 0, slots := 0, locals := 48 }
set_option maxHeartbeats 4000000 in
set_option maxRecDepth 100000 in
theorem a_Replacer_put (l : Launch) (g : gG) (sz : Nat) (ad : Nat → Nat) (S : sS) (v1 : Int32) (v2 : Int64) (v3 : Int32) (v4 : Int32) (hb0 : (S.1 2 8) < (40000 : Int32) → ((putI S 2 8 ((S.1 2 8) + (1 : Int32))).1 9 8) < (120784 : Int32) → vp_in ((putI S 2 8 ((S.1 2 8) + (1 : Int32))).1 9 8) 120784) (hb1 : (S.1 2 8) < (40000 : Int32) → (0 : Int32) ≤ (r_Tokens_add (putI S 2 8 ((S.1 2 8) + (1 : Int32))) ((v2)) ((r_Tokens_moved (putI S 2 8 ((S.1 2 8) + (1 : Int32))) (v3)))) → vp_in ((v1)) 62) (hb2 : (S.1 2 8) < (40000 : Int32) → (0 : Int32) ≤ (r_Tokens_add (putI S 2 8 ((S.1 2 8) + (1 : Int32))) ((v2)) ((r_Tokens_moved (putI S 2 8 ((S.1 2 8) + (1 : Int32))) (v3)))) → ¬ (((s_Tokens_add (putI S 2 8 ((S.1 2 8) + (1 : Int32))) ((v2)) ((r_Tokens_moved (putI S 2 8 ((S.1 2 8) + (1 : Int32))) (v3)))).2.1 72 ((v1) : Int32).toNatClampNeg) = ((-1) : Int32)) → vp_in ((v1)) 62) (hb3 : (S.1 2 8) < (40000 : Int32) → (0 : Int32) ≤ (r_Tokens_add (putI S 2 8 ((S.1 2 8) + (1 : Int32))) ((v2)) ((r_Tokens_moved (putI S 2 8 ((S.1 2 8) + (1 : Int32))) (v3)))) → ¬ (((s_Tokens_add (putI S 2 8 ((S.1 2 8) + (1 : Int32))) ((v2)) ((r_Tokens_moved (putI S 2 8 ((S.1 2 8) + (1 : Int32))) (v3)))).2.1 72 ((v1) : Int32).toNatClampNeg) = ((-1) : Int32)) → vp_in ((s_Tokens_add (putI S 2 8 ((S.1 2 8) + (1 : Int32))) ((v2)) ((r_Tokens_moved (putI S 2 8 ((S.1 2 8) + (1 : Int32))) (v3)))).2.1 72 ((v1) : Int32).toNatClampNeg) 120784) (hb4 : (S.1 2 8) < (40000 : Int32) → (0 : Int32) ≤ (r_Tokens_add (putI S 2 8 ((S.1 2 8) + (1 : Int32))) ((v2)) ((r_Tokens_moved (putI S 2 8 ((S.1 2 8) + (1 : Int32))) (v3)))) → ((s_Tokens_add (putI S 2 8 ((S.1 2 8) + (1 : Int32))) ((v2)) ((r_Tokens_moved (putI S 2 8 ((S.1 2 8) + (1 : Int32))) (v3)))).2.1 72 ((v1) : Int32).toNatClampNeg) = ((-1) : Int32) → vp_in ((v1)) 62) : Cv l y_Replacer_put b_Replacer_put 6 rm_a_Replacer_put g [.ref (ad 12), .int v1, .long v2, .int v3, .int v4] (Sw shC g ad S) sz (fun w => ∃ S' : sS, w = Sw shC g ad S' ∧ S' = s_Replacer_put S v1 v2 v3 v4) := by
  refine startV (by decide) (Nat.le_of_ble_eq_true rfl) ?_
  intro p e s m below meth c A ls hx hb hr hml hlocks hmn hown htt hN hA hP hK hD hS hl
  have hown : s.vm.findClass "MacroMill$Replacer" = some m.cls := hown
  have hl : lv_has ls 6 [(0, .ref (ad 12)), (1, .int v1), (2, .long v2), (4, .int v3), (5, .int v4)] := hl
  refine lv_aload_n hx hb d_Replacer_put_0 rfl (lv_at hl 0 rfl) ?_
  refine S_getR (h := shC) (C := "MacroMill$Replacer") (T := F_Replacer) hx hb htt in_Replacer hown hK hP 12 3 rfl 2 rfl rfl (by decide) (htt _ k_829) (fun _ h9 => h9) d_Replacer_put_1 ?_
  refine S_getI (h := shC) (C := "MacroMill$Outcome") (T := F_Outcome) hx hb htt in_Outcome hown hK hP 2 8 rfl rfl rfl (by decide) (htt _ k_360) (fun _ h9 => h9) d_Replacer_put_4 ?_
  refine lv_ldc (v := 40000) hx hb hown (htt _ k_1842) d_Replacer_put_7 ?_
  refine lv_icmp_lt (tgt := 24) hx hb d_Replacer_put_9 (by decide) (fun hc1 => ?_) (fun hc1 => ?_)
  · refine lv_aload_n hx hb d_Replacer_put_24 rfl (lv_at hl 0 rfl) ?_
    refine S_getR (h := shC) (C := "MacroMill$Replacer") (T := F_Replacer) hx hb htt in_Replacer hown hK hP 12 3 rfl 2 rfl rfl (by decide) (htt _ k_829) (fun _ h9 => h9) d_Replacer_put_25 ?_
    refine lv_dup hx hb d_Replacer_put_28 rfl ?_
    refine S_getI (h := shC) (C := "MacroMill$Outcome") (T := F_Outcome) hx hb htt in_Outcome hown hK hP 2 8 rfl rfl rfl (by decide) (htt _ k_360) (fun _ h9 => h9) d_Replacer_put_29 ?_
    refine lv_iconst (v := 1) hx hb d_Replacer_put_32 (by decide) ?_
    refine lv_iadd hx hb d_Replacer_put_33 ?_
    refine S_put (h := shC) (C := "MacroMill$Outcome") (T := F_Outcome) (v := (S.1 2 8) + (1 : Int32)) hx hb htt in_Outcome t_Outcome t_Outcome_ok n_Outcome hown hK hP hD hS 2 8 rfl rfl rfl (by decide) (htt _ k_360) (fun _ h9 => h9) rfl rfl rfl d_Replacer_put_34 (fun H locs hP hD hS => ?_)
    show W _ _ _ _ _ _ _ _ _ _ _ _ _ _ _ (F0 _ 37 _ _)
    refine lv_aload_n hx hb d_Replacer_put_37 rfl (lv_at hl 0 rfl) ?_
    refine lv_iload_n hx hb d_Replacer_put_38 rfl (lv_at hl 1 rfl) ?_
    refine lv_lload_n hx hb d_Replacer_put_39 rfl (lv_at hl 2 rfl) ?_
    refine lv_iload hx hb d_Replacer_put_40 (lv_at hl 3 rfl) ?_
    refine go_iS (As := [.int v3]) (g := g) (A := A) (h := shC) hP hK hD hS hA hN (fun hp => va_runS (As := [.int v3]) (rest := [.long v2, .int v1, .ref (ad 12)]) ⟨hx, hb, hml, hown, htt⟩ (a_Tokens_moved l g _ ad (putI S 2 8 ((S.1 2 8) + (1 : Int32))) (v3)) ⟨(cb_L htt k_1845 k_271 k_1843 hd_Tokens_moved ⟨(by decide +kernel), (by decide +kernel)⟩), htt _ k_1844⟩ hp rfl rfl hl.1 rfl (lv_room (Nat.le_of_ble_eq_true rfl)) d_Replacer_put_42 ⟨(by decide +kernel), (by decide +kernel)⟩) (fun r9 Sn H locs hw9 hP hD hS => ?_)
    obtain ⟨rfl, e9⟩ := hw9
    rw [e9] at hP hD
    refine W.widen (k := 0) (n := 0) (by decide +kernel) (by decide +kernel) ?_
    refine go_vS (As := [.ref (ad 12), .int v1, .long v2, .int (r_Tokens_moved (putI S 2 8 ((S.1 2 8) + (1 : Int32))) (v3))]) (g := g) (A := A) (h := shC) hP hK hD hS hA hN (fun hp => va_runV (As := [.int v1, .long v2, .int (r_Tokens_moved (putI S 2 8 ((S.1 2 8) + (1 : Int32))) (v3))]) (rest := []) ⟨hx, hb, hml, hown, htt⟩ (a_Replacer_append l g _ ad (putI S 2 8 ((S.1 2 8) + (1 : Int32))) (v1) (v2) (r_Tokens_moved (putI S 2 8 ((S.1 2 8) + (1 : Int32))) (v3)) (hb0 hc1) (hb1 hc1) (hb2 hc1) (hb3 hc1) (hb4 hc1)) ⟨(cb_L htt k_1849 k_274 k_1846 hd_Replacer_append ⟨(by decide +kernel), (by decide +kernel)⟩), htt _ k_1848, htt _ k_75⟩ ⟨hp.1, S_recv hK hP 12 rfl rfl, hp.2⟩ rfl rfl hl.1 rfl (lv_room (Nat.le_of_ble_eq_true rfl)) d_Replacer_put_45 ⟨(by decide +kernel), (by decide +kernel)⟩) (fun Sn_2 H locs hw9 hP hD hS => ?_)
    obtain rfl := hw9
    refine W.widen (k := 0) (n := 0) (by decide +kernel) (by decide +kernel) ?_
    exact fin_v (g := g) (ws := Sw shC g ad (s_Replacer_append (putI S 2 8 ((S.1 2 8) + (1 : Int32))) (v1) (v2) (r_Tokens_moved (putI S 2 8 ((S.1 2 8) + (1 : Int32))) (v3)))) hx hb hr hlocks (by decide +kernel) (by decide +kernel) hP hD hS ⟨_, rfl, (by unfold s_Replacer_put; rw [if_pos hc1])⟩ d_Replacer_put_48
  · refine lv_aload_n hx hb d_Replacer_put_12 rfl (lv_at hl 0 rfl) ?_
    refine S_getR (h := shC) (C := "MacroMill$Replacer") (T := F_Replacer) hx hb htt in_Replacer hown hK hP 12 3 rfl 2 rfl rfl (by decide) (htt _ k_829) (fun _ h9 => h9) d_Replacer_put_13 ?_
    refine lv_bipush (v := 21) hx hb d_Replacer_put_16 (by decide) ?_
    refine lv_iload hx hb d_Replacer_put_18 (lv_at hl 4 rfl) ?_
    refine go_vS (As := [.ref (ad 2), .int 21, .int v4]) (g := g) (A := A) (h := shC) hP hK hD hS hA hN (fun hp => va_runV (As := [.int 21, .int v4]) (rest := []) ⟨hx, hb, hml, hown, htt⟩ (a_Outcome_fail l g _ ad S (21 : Int32) (v4)) ⟨(cb_L htt k_1163 k_264 k_1777 hd_Outcome_fail ⟨(by decide +kernel), (by decide +kernel)⟩), htt _ k_1161, htt _ k_1162⟩ ⟨hp.1, S_recv hK hP 2 rfl rfl, hp.2⟩ rfl rfl hl.1 rfl (lv_room (Nat.le_of_ble_eq_true rfl)) d_Replacer_put_20 ⟨(by decide +kernel), (by decide +kernel)⟩) (fun Sn_3 H locs hw9 hP hD hS => ?_)
    obtain rfl := hw9
    refine W.widen (k := 0) (n := 0) (by decide +kernel) (by decide +kernel) ?_
    exact fin_v (g := g) (ws := Sw shC g ad (s_Outcome_fail S (21 : Int32) (v4))) hx hb hr hlocks (by decide +kernel) (by decide +kernel) hP hD hS ⟨_, rfl, (by unfold s_Replacer_put; rw [if_neg hc1])⟩ d_Replacer_put_23
def r_Replacer_parameterAt (S : sS) (v1 : Int32) (v2 : Int32) : Int32 := if v2 ≤ v1 then ((-1)) else ((r_Tokens_setOf S (S.2.1 50 (v1 : Int32).toNatClampNeg)) - (1 : Int32))
abbrev rm_a_Replacer_parameterAt : Room := { frames := 1, cells := 0, slots := 0, locals := 20 }
set_option maxHeartbeats 4000000 in
set_option maxRecDepth 100000 in
theorem a_Replacer_parameterAt (l : Launch) (g : gG) (sz : Nat) (ad : Nat → Nat) (S : sS) (v1 : Int32) (v2 : Int32) (hb0 : ¬ (v2 ≤ v1) → vp_in (v1) 8000) : Ci l y_Replacer_parameterAt b_Replacer_parameterAt 3 rm_a_Replacer_parameterAt g [.ref (ad 12), .int v1, .int v2] (Sw shC g ad S) sz (fun r w => ∃ S' : sS, w = Sw shC g ad S' ∧ r = r_Replacer_parameterAt S v1 v2 ∧ S' = S) := by
  refine startI (by decide) (Nat.le_of_ble_eq_true rfl) ?_
  intro p e s m below meth c A ls hx hb hr hml hlocks hmn hown htt hN hA hP hK hD hS hl
  have hown : s.vm.findClass "MacroMill$Replacer" = some m.cls := hown
  have hl : lv_has ls 3 [(0, .ref (ad 12)), (1, .int v1), (2, .int v2)] := hl
  refine lv_iload_n hx hb d_Replacer_parameterAt_0 rfl (lv_at hl 1 rfl) ?_
  refine lv_iload_n hx hb d_Replacer_parameterAt_1 rfl (lv_at hl 2 rfl) ?_
  refine lv_icmp_ge (tgt := 22) hx hb d_Replacer_parameterAt_2 (by decide) (fun hc1 => ?_) (fun hc1 => ?_)
  · refine lv_iconst (v := (-1)) hx hb d_Replacer_parameterAt_22 (by decide) ?_
    exact fin_i (g := g) (ws := Sw shC g ad S) (v := (-1)) hx hb hr hlocks (by decide +kernel) (by decide +kernel) hP hD hS ⟨_, rfl, (by unfold r_Replacer_parameterAt; rw [if_pos hc1]), rfl⟩ d_Replacer_parameterAt_23
  · refine lv_aload_n hx hb d_Replacer_parameterAt_5 rfl (lv_at hl 0 rfl) ?_
    refine S_getR (h := shC) (C := "MacroMill$Replacer") (T := F_Replacer) hx hb htt in_Replacer hown hK hP 12 1 rfl 10 rfl rfl (by decide) (htt _ k_827) (fun _ h9 => h9) d_Replacer_parameterAt_6 ?_
    refine S_getR (h := shC) (C := "MacroMill$Macros") (T := F_Macros) hx hb htt in_Macros hown hK hP 10 11 rfl 63 rfl rfl (by decide) (htt _ k_706) (fun _ h9 => h9) d_Replacer_parameterAt_9 ?_
    refine lv_iload_n hx hb d_Replacer_parameterAt_12 rfl (lv_at hl 1 rfl) ?_
    refine S_iald (h := shC) (i := v1) hx hb hK hP 50 rfl (hb0 hc1) d_Replacer_parameterAt_13 ?_
    refine go_iS (As := [.int (S.2.1 50 (v1 : Int32).toNatClampNeg)]) (g := g) (A := A) (h := shC) hP hK hD hS hA hN (fun hp => va_runS (As := [.int (S.2.1 50 (v1 : Int32).toNatClampNeg)]) (rest := []) ⟨hx, hb, hml, hown, htt⟩ (a_Tokens_setOf l g _ ad S (S.2.1 50 (v1 : Int32).toNatClampNeg)) ⟨(cb_L htt k_1754 k_271 k_1752 hd_Tokens_setOf ⟨(by decide +kernel), (by decide +kernel)⟩), htt _ k_1753⟩ hp rfl rfl hl.1 rfl (lv_room (Nat.le_of_ble_eq_true rfl)) d_Replacer_parameterAt_14 ⟨(by decide +kernel), (by decide +kernel)⟩) (fun r9 Sn H locs hw9 hP hD hS => ?_)
    obtain ⟨rfl, e9⟩ := hw9
    rw [e9] at hP hD
    refine W.widen (k := 0) (n := 0) (by decide +kernel) (by decide +kernel) ?_
    refine lv_iconst (v := 1) hx hb d_Replacer_parameterAt_17 (by decide) ?_
    refine lv_isub hx hb d_Replacer_parameterAt_18 ?_
    refine lv_goto (tgt := 23) hx hb d_Replacer_parameterAt_19 (by decide) ?_
    show W _ _ _ _ _ _ _ _ _ _ _ _ _ _ _ (F0 _ 23 _ _)
    exact fin_i (g := g) (ws := Sw shC g ad S) (v := (r_Tokens_setOf S (S.2.1 50 (v1 : Int32).toNatClampNeg)) - (1 : Int32)) hx hb hr hlocks (by decide +kernel) (by decide +kernel) hP hD hS ⟨_, rfl, (by unfold r_Replacer_parameterAt; rw [if_neg hc1]), rfl⟩ d_Replacer_parameterAt_23
def r_Replacer_isHash (S : sS) (v1 : Int32) : Int32 := if (r_Tokens_lengthOf S (S.2.2 49 (v1 : Int32).toNatClampNeg)) = (1 : Int32) then (if (S.2.1 37 (r_Tokens_fromOf S (S.2.2 49 (v1 : Int32).toNatClampNeg) : Int32).toNatClampNeg) = (35 : Int32) then 1 else 0) else 0
abbrev rm_a_Replacer_isHash : Room := { frames := 1, cells := 0, slots := 0, locals := 21 }
set_option maxHeartbeats 4000000 in
set_option maxRecDepth 100000 in
theorem a_Replacer_isHash (l : Launch) (g : gG) (sz : Nat) (ad : Nat → Nat) (S : sS) (v1 : Int32) (hb0 : vp_in (v1) 8000) (hb1 : (r_Tokens_lengthOf S (S.2.2 49 (v1 : Int32).toNatClampNeg)) = (1 : Int32) → vp_in (v1) 8000) (hb2 : (r_Tokens_lengthOf S (S.2.2 49 (v1 : Int32).toNatClampNeg)) = (1 : Int32) → vp_in (r_Tokens_fromOf S (S.2.2 49 (v1 : Int32).toNatClampNeg)) 125538) : Cz l y_Replacer_isHash b_Replacer_isHash 2 rm_a_Replacer_isHash g [.ref (ad 12), .int v1] (Sw shC g ad S) sz (fun r w => ∃ S' : sS, w = Sw shC g ad S' ∧ r = r_Replacer_isHash S v1 ∧ S' = S) := by
  refine startZ (by decide) (Nat.le_of_ble_eq_true rfl) ?_
  intro p e s m below meth c A ls hx hb hr hml hlocks hmn hown htt hN hA hP hK hD hS hl
  have hown : s.vm.findClass "MacroMill$Replacer" = some m.cls := hown
  have hl : lv_has ls 2 [(0, .ref (ad 12)), (1, .int v1)] := hl
  refine lv_aload_n hx hb d_Replacer_isHash_0 rfl (lv_at hl 0 rfl) ?_
  refine S_getR (h := shC) (C := "MacroMill$Replacer") (T := F_Replacer) hx hb htt in_Replacer hown hK hP 12 1 rfl 10 rfl rfl (by decide) (htt _ k_827) (fun _ h9 => h9) d_Replacer_isHash_1 ?_
  refine S_getR (h := shC) (C := "MacroMill$Macros") (T := F_Macros) hx hb htt in_Macros hown hK hP 10 10 rfl 62 rfl rfl (by decide) (htt _ k_704) (fun _ h9 => h9) d_Replacer_isHash_4 ?_
  refine lv_iload_n hx hb d_Replacer_isHash_7 rfl (lv_at hl 1 rfl) ?_
  refine S_lald (h := shC) (i := v1) hx hb hK hP 49 rfl hb0 d_Replacer_isHash_8 ?_
  refine go_iS (As := [.long (S.2.2 49 (v1 : Int32).toNatClampNeg)]) (g := g) (A := A) (h := shC) hP hK hD hS hA hN (fun hp => va_runS (As := [.long (S.2.2 49 (v1 : Int32).toNatClampNeg)]) (rest := []) ⟨hx, hb, hml, hown, htt⟩ (a_Tokens_lengthOf l g _ ad S (S.2.2 49 (v1 : Int32).toNatClampNeg)) ⟨(cb_L htt k_1746 k_271 k_1799 hd_Tokens_lengthOf ⟨(by decide +kernel), (by decide +kernel)⟩), htt _ k_1745⟩ hp rfl rfl hl.1 rfl (lv_room (Nat.le_of_ble_eq_true rfl)) d_Replacer_isHash_9 ⟨(by decide +kernel), (by decide +kernel)⟩) (fun r9 Sn H locs hw9 hP hD hS => ?_)
  obtain ⟨rfl, e9⟩ := hw9
  rw [e9] at hP hD
  refine W.widen (k := 0) (n := 0) (by decide +kernel) (by decide +kernel) ?_
  refine lv_iconst (v := 1) hx hb d_Replacer_isHash_12 (by decide) ?_
  refine lv_icmp_ne (tgt := 45) hx hb d_Replacer_isHash_13 (by decide) (fun hc1 => ?_) (fun hc1 => ?_)
  · refine lv_iconst (v := 0) hx hb d_Replacer_isHash_45 (by decide) ?_
    exact fin_z (g := g) (ws := Sw shC g ad S) (v := 0) hx hb hr hlocks rfl (by decide +kernel) (by decide +kernel) hP hD hS ⟨_, rfl, (by unfold r_Replacer_isHash; rw [if_neg hc1]), rfl⟩ d_Replacer_isHash_46
  · refine lv_aload_n hx hb d_Replacer_isHash_16 rfl (lv_at hl 0 rfl) ?_
    refine S_getR (h := shC) (C := "MacroMill$Replacer") (T := F_Replacer) hx hb htt in_Replacer hown hK hP 12 0 rfl 9 rfl rfl (by decide) (htt _ k_826) (fun _ h9 => h9) d_Replacer_isHash_17 ?_
    refine S_getR (h := shC) (C := "MacroMill$Tokens") (T := F_Tokens) hx hb htt in_Tokens hown hK hP 9 0 rfl 50 rfl rfl (by decide) (htt _ k_635) (fun _ h9 => h9) d_Replacer_isHash_20 ?_
    refine lv_aload_n hx hb d_Replacer_isHash_23 rfl (lv_at hl 0 rfl) ?_
    show W _ _ _ _ _ _ _ _ _ _ _ _ _ _ _ (F0 _ 24 _ _)
    refine S_getR (h := shC) (C := "MacroMill$Replacer") (T := F_Replacer) hx hb htt in_Replacer hown hK hP 12 1 rfl 10 rfl rfl (by decide) (htt _ k_827) (fun _ h9 => h9) d_Replacer_isHash_24 ?_
    refine S_getR (h := shC) (C := "MacroMill$Macros") (T := F_Macros) hx hb htt in_Macros hown hK hP 10 10 rfl 62 rfl rfl (by decide) (htt _ k_704) (fun _ h9 => h9) d_Replacer_isHash_27 ?_
    refine lv_iload_n hx hb d_Replacer_isHash_30 rfl (lv_at hl 1 rfl) ?_
    refine S_lald (h := shC) (i := v1) hx hb hK hP 49 rfl (hb1 hc1) d_Replacer_isHash_31 ?_
    refine go_iS (As := [.long (S.2.2 49 (v1 : Int32).toNatClampNeg)]) (g := g) (A := A) (h := shC) hP hK hD hS hA hN (fun hp => va_runS (As := [.long (S.2.2 49 (v1 : Int32).toNatClampNeg)]) (rest := [.ref (ad 50)]) ⟨hx, hb, hml, hown, htt⟩ (a_Tokens_fromOf l g _ ad S (S.2.2 49 (v1 : Int32).toNatClampNeg)) ⟨(cb_L htt k_1743 k_271 k_1800 hd_Tokens_fromOf ⟨(by decide +kernel), (by decide +kernel)⟩), htt _ k_1742⟩ hp rfl rfl hl.1 rfl (lv_room (Nat.le_of_ble_eq_true rfl)) d_Replacer_isHash_32 ⟨(by decide +kernel), (by decide +kernel)⟩) (fun r9 Sn_2 H locs hw9 hP hD hS => ?_)
    obtain ⟨rfl, e9⟩ := hw9
    rw [e9] at hP hD
    refine W.widen (k := 0) (n := 0) (by decide +kernel) (by decide +kernel) ?_
    refine S_bald (h := shC) (i := r_Tokens_fromOf S (S.2.2 49 (v1 : Int32).toNatClampNeg)) hx hb hK hP 37 rfl (hb2 hc1) d_Replacer_isHash_35 ?_
    refine lv_bipush (v := 35) hx hb d_Replacer_isHash_36 (by decide) ?_
    refine lv_icmp_ne (tgt := 45) hx hb d_Replacer_isHash_38 (by decide) (fun hc2 => ?_) (fun hc2 => ?_)
    · refine lv_iconst (v := 0) hx hb d_Replacer_isHash_45 (by decide) ?_
      exact fin_z (g := g) (ws := Sw shC g ad S) (v := 0) hx hb hr hlocks rfl (by decide +kernel) (by decide +kernel) hP hD hS ⟨_, rfl, (by unfold r_Replacer_isHash; rw [if_pos hc1, if_neg hc2]), rfl⟩ d_Replacer_isHash_46
    · refine lv_iconst (v := 1) hx hb d_Replacer_isHash_41 (by decide) ?_
      refine lv_goto (tgt := 46) hx hb d_Replacer_isHash_42 (by decide) ?_
      exact fin_z (g := g) (ws := Sw shC g ad S) (v := 1) hx hb hr hlocks rfl (by decide +kernel) (by decide +kernel) hP hD hS ⟨_, rfl, (by unfold r_Replacer_isHash; rw [if_pos hc1, if_pos hc2]), rfl⟩ d_Replacer_isHash_46
def r_Replacer_isPasting (S : sS) (v1 : Int32) (v2 : Int32) : Int32 := if v2 ≤ (v1 + (1 : Int32)) then 0 else (if (r_Tokens_lengthOf S (S.2.2 49 (v1 : Int32).toNatClampNeg)) = (2 : Int32) then (if (S.2.1 37 (r_Tokens_fromOf S (S.2.2 49 (v1 : Int32).toNatClampNeg) : Int32).toNatClampNeg) = (35 : Int32) then (if (S.2.1 37 ((r_Tokens_fromOf S (S.2.2 49 (v1 : Int32).toNatClampNeg)) + (1 : Int32) : Int32).toNatClampNeg) = (35 : Int32) then 1 else 0) else 0) else 0)
abbrev rm_a_Replacer_isPasting : Room := { frames := 1, cells := 0, slots := 0, locals := 21 }
set_option maxHeartbeats 4000000 in
set_option maxRecDepth 100000 in
theorem a_Replacer_isPasting (l : Launch) (g : gG) (sz : Nat) (ad : Nat → Nat) (S : sS) (v1 : Int32) (v2 : Int32) (hb0 : ¬ (v2 ≤ (v1 + (1 : Int32))) → vp_in (v1) 8000) (hb1 : ¬ (v2 ≤ (v1 + (1 : Int32))) → (r_Tokens_lengthOf S (S.2.2 49 (v1 : Int32).toNatClampNeg)) = (2 : Int32) → vp_in (v1) 8000) (hb2 : ¬ (v2 ≤ (v1 + (1 : Int32))) → (r_Tokens_lengthOf S (S.2.2 49 (v1 : Int32).toNatClampNeg)) = (2 : Int32) → vp_in (r_Tokens_fromOf S (S.2.2 49 (v1 : Int32).toNatClampNeg)) 125538) (hb3 : ¬ (v2 ≤ (v1 + (1 : Int32))) → (r_Tokens_lengthOf S (S.2.2 49 (v1 : Int32).toNatClampNeg)) = (2 : Int32) → (S.2.1 37 (r_Tokens_fromOf S (S.2.2 49 (v1 : Int32).toNatClampNeg) : Int32).toNatClampNeg) = (35 : Int32) → vp_in ((r_Tokens_fromOf S (S.2.2 49 (v1 : Int32).toNatClampNeg)) + (1 : Int32)) 125538) : Cz l y_Replacer_isPasting b_Replacer_isPasting 4 rm_a_Replacer_isPasting g [.ref (ad 12), .int v1, .int v2] (Sw shC g ad S) sz (fun r w => ∃ S' : sS, w = Sw shC g ad S' ∧ r = r_Replacer_isPasting S v1 v2 ∧ S' = S) := by
  refine startZ (by decide) (Nat.le_of_ble_eq_true rfl) ?_
  intro p e s m below meth c A ls hx hb hr hml hlocks hmn hown htt hN hA hP hK hD hS hl
  have hown : s.vm.findClass "MacroMill$Replacer" = some m.cls := hown
  have hl : lv_has ls 4 [(0, .ref (ad 12)), (1, .int v1), (2, .int v2)] := hl
  refine lv_iload_n hx hb d_Replacer_isPasting_0 rfl (lv_at hl 1 rfl) ?_
  refine lv_iconst (v := 1) hx hb d_Replacer_isPasting_1 (by decide) ?_
  refine lv_iadd hx hb d_Replacer_isPasting_2 ?_
  refine lv_iload_n hx hb d_Replacer_isPasting_3 rfl (lv_at hl 2 rfl) ?_
  refine lv_icmp_ge (tgt := 23) hx hb d_Replacer_isPasting_4 (by decide) (fun hc1 => ?_) (fun hc1 => ?_)
  · refine lv_iconst (v := 0) hx hb d_Replacer_isPasting_23 (by decide) ?_
    exact fin_z (g := g) (ws := Sw shC g ad S) (v := 0) hx hb hr hlocks rfl (by decide +kernel) (by decide +kernel) hP hD hS ⟨_, rfl, (by unfold r_Replacer_isPasting; rw [if_pos hc1]), rfl⟩ d_Replacer_isPasting_24
  · refine lv_aload_n hx hb d_Replacer_isPasting_7 rfl (lv_at hl 0 rfl) ?_
    refine S_getR (h := shC) (C := "MacroMill$Replacer") (T := F_Replacer) hx hb htt in_Replacer hown hK hP 12 1 rfl 10 rfl rfl (by decide) (htt _ k_827) (fun _ h9 => h9) d_Replacer_isPasting_8 ?_
    refine S_getR (h := shC) (C := "MacroMill$Macros") (T := F_Macros) hx hb htt in_Macros hown hK hP 10 10 rfl 62 rfl rfl (by decide) (htt _ k_704) (fun _ h9 => h9) d_Replacer_isPasting_11 ?_
    refine lv_iload_n hx hb d_Replacer_isPasting_14 rfl (lv_at hl 1 rfl) ?_
    refine S_lald (h := shC) (i := v1) hx hb hK hP 49 rfl (hb0 hc1) d_Replacer_isPasting_15 ?_
    refine go_iS (As := [.long (S.2.2 49 (v1 : Int32).toNatClampNeg)]) (g := g) (A := A) (h := shC) hP hK hD hS hA hN (fun hp => va_runS (As := [.long (S.2.2 49 (v1 : Int32).toNatClampNeg)]) (rest := []) ⟨hx, hb, hml, hown, htt⟩ (a_Tokens_lengthOf l g _ ad S (S.2.2 49 (v1 : Int32).toNatClampNeg)) ⟨(cb_L htt k_1746 k_271 k_1799 hd_Tokens_lengthOf ⟨(by decide +kernel), (by decide +kernel)⟩), htt _ k_1745⟩ hp rfl rfl hl.1 rfl (lv_room (Nat.le_of_ble_eq_true rfl)) d_Replacer_isPasting_16 ⟨(by decide +kernel), (by decide +kernel)⟩) (fun r9 Sn H locs hw9 hP hD hS => ?_)
    obtain ⟨rfl, e9⟩ := hw9
    rw [e9] at hP hD
    refine W.widen (k := 0) (n := 0) (by decide +kernel) (by decide +kernel) ?_
    refine lv_iconst (v := 2) hx hb d_Replacer_isPasting_19 (by decide) ?_
    refine lv_icmp_eq (tgt := 25) hx hb d_Replacer_isPasting_20 (by decide) (fun hc2 => ?_) (fun hc2 => ?_)
    · show W _ _ _ _ _ _ _ _ _ _ _ _ _ _ _ (F0 _ 25 _ _)
      refine lv_aload_n hx hb d_Replacer_isPasting_25 rfl (lv_at hl 0 rfl) ?_
      refine S_getR (h := shC) (C := "MacroMill$Replacer") (T := F_Replacer) hx hb htt in_Replacer hown hK hP 12 1 rfl 10 rfl rfl (by decide) (htt _ k_827) (fun _ h9 => h9) d_Replacer_isPasting_26 ?_
      refine S_getR (h := shC) (C := "MacroMill$Macros") (T := F_Macros) hx hb htt in_Macros hown hK hP 10 10 rfl 62 rfl rfl (by decide) (htt _ k_704) (fun _ h9 => h9) d_Replacer_isPasting_29 ?_
      refine lv_iload_n hx hb d_Replacer_isPasting_32 rfl (lv_at hl 1 rfl) ?_
      refine S_lald (h := shC) (i := v1) hx hb hK hP 49 rfl (hb1 hc1 hc2) d_Replacer_isPasting_33 ?_
      refine go_iS (As := [.long (S.2.2 49 (v1 : Int32).toNatClampNeg)]) (g := g) (A := A) (h := shC) hP hK hD hS hA hN (fun hp => va_runS (As := [.long (S.2.2 49 (v1 : Int32).toNatClampNeg)]) (rest := []) ⟨hx, hb, hml, hown, htt⟩ (a_Tokens_fromOf l g _ ad S (S.2.2 49 (v1 : Int32).toNatClampNeg)) ⟨(cb_L htt k_1743 k_271 k_1800 hd_Tokens_fromOf ⟨(by decide +kernel), (by decide +kernel)⟩), htt _ k_1742⟩ hp rfl rfl hl.1 rfl (lv_room (Nat.le_of_ble_eq_true rfl)) d_Replacer_isPasting_34 ⟨(by decide +kernel), (by decide +kernel)⟩) (fun r9 Sn_2 H locs hw9 hP hD hS => ?_)
      obtain ⟨rfl, e9⟩ := hw9
      rw [e9] at hP hD
      refine W.widen (k := 0) (n := 0) (by decide +kernel) (by decide +kernel) ?_
      refine lv_istore_n (lv' := [(3, .int (r_Tokens_fromOf S (S.2.2 49 (v1 : Int32).toNatClampNeg))), (0, .ref (ad 12)), (1, .int v1), (2, .int v2)]) hx hb d_Replacer_isPasting_37 rfl hl (by decide) rfl (fun ls hl => ?_)
      refine lv_aload_n hx hb d_Replacer_isPasting_38 rfl (lv_at hl 1 rfl) ?_
      refine S_getR (h := shC) (C := "MacroMill$Replacer") (T := F_Replacer) hx hb htt in_Replacer hown hK hP 12 0 rfl 9 rfl rfl (by decide) (htt _ k_826) (fun _ h9 => h9) d_Replacer_isPasting_39 ?_
      refine S_getR (h := shC) (C := "MacroMill$Tokens") (T := F_Tokens) hx hb htt in_Tokens hown hK hP 9 0 rfl 50 rfl rfl (by decide) (htt _ k_635) (fun _ h9 => h9) d_Replacer_isPasting_42 ?_
      refine lv_iload_n hx hb d_Replacer_isPasting_45 rfl (lv_at hl 0 rfl) ?_
      refine S_bald (h := shC) (i := r_Tokens_fromOf S (S.2.2 49 (v1 : Int32).toNatClampNeg)) hx hb hK hP 37 rfl (hb2 hc1 hc2) d_Replacer_isPasting_46 ?_
      show W _ _ _ _ _ _ _ _ _ _ _ _ _ _ _ (F0 _ 47 _ _)
      refine lv_bipush (v := 35) hx hb d_Replacer_isPasting_47 (by decide) ?_
      refine lv_icmp_ne (tgt := 72) hx hb d_Replacer_isPasting_49 (by decide) (fun hc3 => ?_) (fun hc3 => ?_)
      · refine lv_iconst (v := 0) hx hb d_Replacer_isPasting_72 (by decide) ?_
        exact fin_z (g := g) (ws := Sw shC g ad S) (v := 0) hx hb hr hlocks rfl (by decide +kernel) (by decide +kernel) hP hD hS ⟨_, rfl, (by unfold r_Replacer_isPasting; rw [if_neg hc1, if_pos hc2, if_neg hc3]), rfl⟩ d_Replacer_isPasting_73
      · refine lv_aload_n hx hb d_Replacer_isPasting_52 rfl (lv_at hl 1 rfl) ?_
        refine S_getR (h := shC) (C := "MacroMill$Replacer") (T := F_Replacer) hx hb htt in_Replacer hown hK hP 12 0 rfl 9 rfl rfl (by decide) (htt _ k_826) (fun _ h9 => h9) d_Replacer_isPasting_53 ?_
        refine S_getR (h := shC) (C := "MacroMill$Tokens") (T := F_Tokens) hx hb htt in_Tokens hown hK hP 9 0 rfl 50 rfl rfl (by decide) (htt _ k_635) (fun _ h9 => h9) d_Replacer_isPasting_56 ?_
        refine lv_iload_n hx hb d_Replacer_isPasting_59 rfl (lv_at hl 0 rfl) ?_
        refine lv_iconst (v := 1) hx hb d_Replacer_isPasting_60 (by decide) ?_
        refine lv_iadd hx hb d_Replacer_isPasting_61 ?_
        refine S_bald (h := shC) (i := (r_Tokens_fromOf S (S.2.2 49 (v1 : Int32).toNatClampNeg)) + (1 : Int32)) hx hb hK hP 37 rfl (hb3 hc1 hc2 hc3) d_Replacer_isPasting_62 ?_
        refine lv_bipush (v := 35) hx hb d_Replacer_isPasting_63 (by decide) ?_
        refine lv_icmp_ne (tgt := 72) hx hb d_Replacer_isPasting_65 (by decide) (fun hc4 => ?_) (fun hc4 => ?_)
        · refine lv_iconst (v := 0) hx hb d_Replacer_isPasting_72 (by decide) ?_
          exact fin_z (g := g) (ws := Sw shC g ad S) (v := 0) hx hb hr hlocks rfl (by decide +kernel) (by decide +kernel) hP hD hS ⟨_, rfl, (by unfold r_Replacer_isPasting; rw [if_neg hc1, if_pos hc2, if_pos hc3, if_neg hc4]), rfl⟩ d_Replacer_isPasting_73
        · refine lv_iconst (v := 1) hx hb d_Replacer_isPasting_68 (by decide) ?_
          refine lv_goto (tgt := 73) hx hb d_Replacer_isPasting_69 (by decide) ?_
          exact fin_z (g := g) (ws := Sw shC g ad S) (v := 1) hx hb hr hlocks rfl (by decide +kernel) (by decide +kernel) hP hD hS ⟨_, rfl, (by unfold r_Replacer_isPasting; rw [if_neg hc1, if_pos hc2, if_pos hc3, if_pos hc4]), rfl⟩ d_Replacer_isPasting_73
    · show W _ _ _ _ _ _ _ _ _ _ _ _ _ _ _ (F0 _ 23 _ _)
      refine lv_iconst (v := 0) hx hb d_Replacer_isPasting_23 (by decide) ?_
      exact fin_z (g := g) (ws := Sw shC g ad S) (v := 0) hx hb hr hlocks rfl (by decide +kernel) (by decide +kernel) hP hD hS ⟨_, rfl, (by unfold r_Replacer_isPasting; rw [if_neg hc1, if_neg hc2]), rfl⟩ d_Replacer_isPasting_24
def r_Replacer_isEmpty (S : sS) (v1 : Int32) (v2 : Int32) : Int32 := if (S.2.1 64 ((v1 * (30 : Int32)) + v2 : Int32).toNatClampNeg) = (S.2.1 65 ((v1 * (30 : Int32)) + v2 : Int32).toNatClampNeg) then 1 else 0
abbrev rm_a_Replacer_isEmpty : Room := { frames := 0, cells := 0, slots := 0, locals := 0 }
set_option maxHeartbeats 4000000 in
set_option maxRecDepth 100000 in
theorem a_Replacer_isEmpty (l : Launch) (g : gG) (sz : Nat) (ad : Nat → Nat) (S : sS) (v1 : Int32) (v2 : Int32) (hb0 : vp_in ((v1 * (30 : Int32)) + v2) 1830) : Cz l y_Replacer_isEmpty b_Replacer_isEmpty 4 rm_a_Replacer_isEmpty g [.ref (ad 12), .int v1, .int v2] (Sw shC g ad S) sz (fun r w => ∃ S' : sS, w = Sw shC g ad S' ∧ r = r_Replacer_isEmpty S v1 v2 ∧ S' = S) := by
  refine startZ (by decide) (Nat.le_of_ble_eq_true rfl) ?_
  intro p e s m below meth c A ls hx hb hr hml hlocks hmn hown htt hN hA hP hK hD hS hl
  have hown : s.vm.findClass "MacroMill$Replacer" = some m.cls := hown
  have hl : lv_has ls 4 [(0, .ref (ad 12)), (1, .int v1), (2, .int v2)] := hl
  refine lv_iload_n hx hb d_Replacer_isEmpty_0 rfl (lv_at hl 1 rfl) ?_
  refine lv_bipush (v := 30) hx hb d_Replacer_isEmpty_1 (by decide) ?_
  refine lv_imul hx hb d_Replacer_isEmpty_3 ?_
  refine lv_iload_n hx hb d_Replacer_isEmpty_4 rfl (lv_at hl 2 rfl) ?_
  refine lv_iadd hx hb d_Replacer_isEmpty_5 ?_
  refine lv_istore_n (lv' := [(3, .int ((v1 * (30 : Int32)) + v2)), (0, .ref (ad 12)), (1, .int v1), (2, .int v2)]) hx hb d_Replacer_isEmpty_6 rfl hl (by decide) rfl (fun ls hl => ?_)
  refine lv_aload_n hx hb d_Replacer_isEmpty_7 rfl (lv_at hl 1 rfl) ?_
  refine S_getR (h := shC) (C := "MacroMill$Replacer") (T := F_Replacer) hx hb htt in_Replacer hown hK hP 12 4 rfl 77 rfl rfl (by decide) (htt _ k_830) (fun _ h9 => h9) d_Replacer_isEmpty_8 ?_
  refine lv_iload_n hx hb d_Replacer_isEmpty_11 rfl (lv_at hl 0 rfl) ?_
  refine S_iald (h := shC) (i := (v1 * (30 : Int32)) + v2) hx hb hK hP 64 rfl hb0 d_Replacer_isEmpty_12 ?_
  refine lv_aload_n hx hb d_Replacer_isEmpty_13 rfl (lv_at hl 1 rfl) ?_
  show W _ _ _ _ _ _ _ _ _ _ _ _ _ _ _ (F0 _ 14 _ _)
  refine S_getR (h := shC) (C := "MacroMill$Replacer") (T := F_Replacer) hx hb htt in_Replacer hown hK hP 12 5 rfl 78 rfl rfl (by decide) (htt _ k_831) (fun _ h9 => h9) d_Replacer_isEmpty_14 ?_
  refine lv_iload_n hx hb d_Replacer_isEmpty_17 rfl (lv_at hl 0 rfl) ?_
  refine S_iald (h := shC) (i := (v1 * (30 : Int32)) + v2) hx hb hK hP 65 rfl hb0 d_Replacer_isEmpty_18 ?_
  refine lv_icmp_ne (tgt := 26) hx hb d_Replacer_isEmpty_19 (by decide) (fun hc1 => ?_) (fun hc1 => ?_)
  · refine lv_iconst (v := 0) hx hb d_Replacer_isEmpty_26 (by decide) ?_
    exact fin_z (g := g) (ws := Sw shC g ad S) (v := 0) hx hb hr hlocks rfl (by decide +kernel) (by decide +kernel) hP hD hS ⟨_, rfl, (by unfold r_Replacer_isEmpty; rw [if_neg hc1]), rfl⟩ d_Replacer_isEmpty_27
  · refine lv_iconst (v := 1) hx hb d_Replacer_isEmpty_22 (by decide) ?_
    refine lv_goto (tgt := 27) hx hb d_Replacer_isEmpty_23 (by decide) ?_
    exact fin_z (g := g) (ws := Sw shC g ad S) (v := 1) hx hb hr hlocks rfl (by decide +kernel) (by decide +kernel) hP hD hS ⟨_, rfl, (by unfold r_Replacer_isEmpty; rw [if_pos hc1]), rfl⟩ d_Replacer_isEmpty_27
def s_Replacer_endArgument (S : sS) (v1 : Int32) (v2 : Int32) (v3 : Int32) : sS := if (30 : Int32) ≤ v2 then (if (30 : Int32) ≤ (v2 + (1 : Int32)) then S else ((putA S 64 ((v1 + v2) + (1 : Int32) : Int32).toNatClampNeg (S.2.1 41 (v3 : Int32).toNatClampNeg)))) else (if (30 : Int32) ≤ (v2 + (1 : Int32)) then ((putA (putA S 65 (v1 + v2 : Int32).toNatClampNeg v3) 68 (v1 + v2 : Int32).toNatClampNeg (-1))) else ((putA (putA (putA S 65 (v1 + v2 : Int32).toNatClampNeg v3) 68 (v1 + v2 : Int32).toNatClampNeg (-1)) 64 ((v1 + v2) + (1 : Int32) : Int32).toNatClampNeg ((putA (putA S 65 (v1 + v2 : Int32).toNatClampNeg v3) 68 (v1 + v2 : Int32).toNatClampNeg (-1)).2.1 41 (v3 : Int32).toNatClampNeg))))
abbrev rm_a_Replacer_endArgument : Room := { frames := 0, cells := 0, slots := 0, locals := 0 }
set_option maxHeartbeats 4000000 in
set_option maxRecDepth 100000 in
theorem a_Replacer_endArgument (l : Launch) (g : gG) (sz : Nat) (ad : Nat → Nat) (S : sS) (v1 : Int32) (v2 : Int32) (v3 : Int32) (hb0 : (30 : Int32) ≤ v2 → ¬ ((30 : Int32) ≤ (v2 + (1 : Int32))) → vp_in (v3) 120784) (hb1 : (30 : Int32) ≤ v2 → ¬ ((30 : Int32) ≤ (v2 + (1 : Int32))) → vp_in ((v1 + v2) + (1 : Int32)) 1830) (hb2 : ¬ ((30 : Int32) ≤ v2) → vp_in (v1 + v2) 1830) (hb3 : ¬ ((30 : Int32) ≤ v2) → ¬ ((30 : Int32) ≤ (v2 + (1 : Int32))) → vp_in (v3) 120784) (hb4 : ¬ ((30 : Int32) ≤ v2) → ¬ ((30 : Int32) ≤ (v2 + (1 : Int32))) → vp_in ((v1 + v2) + (1 : Int32)) 1830) : Cv l y_Replacer_endArgument b_Replacer_endArgument 4 rm_a_Replacer_endArgument g [.ref (ad 12), .int v1, .int v2, .int v3] (Sw shC g ad S) sz (fun w => ∃ S' : sS, w = Sw shC g ad S' ∧ S' = s_Replacer_endArgument S v1 v2 v3) := by
  refine startV (by decide) (Nat.le_of_ble_eq_true rfl) ?_
  intro p e s m below meth c A ls hx hb hr hml hlocks hmn hown htt hN hA hP hK hD hS hl
  have hown : s.vm.findClass "MacroMill$Replacer" = some m.cls := hown
  have hl : lv_has ls 4 [(0, .ref (ad 12)), (1, .int v1), (2, .int v2), (3, .int v3)] := hl
  refine lv_iload_n hx hb d_Replacer_endArgument_0 rfl (lv_at hl 2 rfl) ?_
  refine lv_bipush (v := 30) hx hb d_Replacer_endArgument_1 (by decide) ?_
  refine lv_icmp_ge (tgt := 24) hx hb d_Replacer_endArgument_3 (by decide) (fun hc1 => ?_) (fun hc1 => ?_)
  · refine lv_iload_n hx hb d_Replacer_endArgument_24 rfl (lv_at hl 2 rfl) ?_
    refine lv_iconst (v := 1) hx hb d_Replacer_endArgument_25 (by decide) ?_
    refine lv_iadd hx hb d_Replacer_endArgument_26 ?_
    refine lv_bipush (v := 30) hx hb d_Replacer_endArgument_27 (by decide) ?_
    refine lv_icmp_ge (tgt := 51) hx hb d_Replacer_endArgument_29 (by decide) (fun hc2 => ?_) (fun hc2 => ?_)
    · exact fin_v (g := g) (ws := Sw shC g ad S) hx hb hr hlocks (by decide +kernel) (by decide +kernel) hP hD hS ⟨_, rfl, (by unfold s_Replacer_endArgument; rw [if_pos hc1, if_pos hc2])⟩ d_Replacer_endArgument_51
    · refine lv_aload_n hx hb d_Replacer_endArgument_32 rfl (lv_at hl 0 rfl) ?_
      refine S_getR (h := shC) (C := "MacroMill$Replacer") (T := F_Replacer) hx hb htt in_Replacer hown hK hP 12 4 rfl 77 rfl rfl (by decide) (htt _ k_830) (fun _ h9 => h9) d_Replacer_endArgument_33 ?_
      refine lv_iload_n hx hb d_Replacer_endArgument_36 rfl (lv_at hl 1 rfl) ?_
      refine lv_iload_n hx hb d_Replacer_endArgument_37 rfl (lv_at hl 2 rfl) ?_
      refine lv_iadd hx hb d_Replacer_endArgument_38 ?_
      show W _ _ _ _ _ _ _ _ _ _ _ _ _ _ _ (F0 _ 39 _ _)
      refine lv_iconst (v := 1) hx hb d_Replacer_endArgument_39 (by decide) ?_
      refine lv_iadd hx hb d_Replacer_endArgument_40 ?_
      refine lv_aload_n hx hb d_Replacer_endArgument_41 rfl (lv_at hl 0 rfl) ?_
      refine S_getR (h := shC) (C := "MacroMill$Replacer") (T := F_Replacer) hx hb htt in_Replacer hown hK hP 12 0 rfl 9 rfl rfl (by decide) (htt _ k_826) (fun _ h9 => h9) d_Replacer_endArgument_42 ?_
      refine S_getR (h := shC) (C := "MacroMill$Tokens") (T := F_Tokens) hx hb htt in_Tokens hown hK hP 9 7 rfl 54 rfl rfl (by decide) (htt _ k_655) (fun _ h9 => h9) d_Replacer_endArgument_45 ?_
      refine lv_iload_n hx hb d_Replacer_endArgument_48 rfl (lv_at hl 3 rfl) ?_
      refine S_iald (h := shC) (i := v3) hx hb hK hP 41 rfl (hb0 hc1 hc2) d_Replacer_endArgument_49 ?_
      refine S_iast (h := shC) (i := (v1 + v2) + (1 : Int32)) (v := S.2.1 41 (v3 : Int32).toNatClampNeg) hx hb hK hP hD hS 64 rfl (hb1 hc1 hc2) d_Replacer_endArgument_50 (fun H locs hP hD hS => ?_)
      exact fin_v (g := g) (ws := Sw shC g ad (putA S 64 ((v1 + v2) + (1 : Int32) : Int32).toNatClampNeg (S.2.1 41 (v3 : Int32).toNatClampNeg))) hx hb hr hlocks (by decide +kernel) (by decide +kernel) hP hD hS ⟨_, rfl, (by unfold s_Replacer_endArgument; rw [if_pos hc1, if_neg hc2])⟩ d_Replacer_endArgument_51
  · refine lv_aload_n hx hb d_Replacer_endArgument_6 rfl (lv_at hl 0 rfl) ?_
    refine S_getR (h := shC) (C := "MacroMill$Replacer") (T := F_Replacer) hx hb htt in_Replacer hown hK hP 12 5 rfl 78 rfl rfl (by decide) (htt _ k_831) (fun _ h9 => h9) d_Replacer_endArgument_7 ?_
    refine lv_iload_n hx hb d_Replacer_endArgument_10 rfl (lv_at hl 1 rfl) ?_
    refine lv_iload_n hx hb d_Replacer_endArgument_11 rfl (lv_at hl 2 rfl) ?_
    refine lv_iadd hx hb d_Replacer_endArgument_12 ?_
    refine lv_iload_n hx hb d_Replacer_endArgument_13 rfl (lv_at hl 3 rfl) ?_
    refine S_iast (h := shC) (i := v1 + v2) (v := v3) hx hb hK hP hD hS 65 rfl (hb2 hc1) d_Replacer_endArgument_14 (fun H locs hP hD hS => ?_)
    refine lv_aload_n hx hb d_Replacer_endArgument_15 rfl (lv_at hl 0 rfl) ?_
    refine S_getR (h := shC) (C := "MacroMill$Replacer") (T := F_Replacer) hx hb htt in_Replacer hown hK hP 12 8 rfl 81 rfl rfl (by decide) (htt _ k_834) (fun _ h9 => h9) d_Replacer_endArgument_16 ?_
    show W _ _ _ _ _ _ _ _ _ _ _ _ _ _ _ (F0 _ 19 _ _)
    refine lv_iload_n hx hb d_Replacer_endArgument_19 rfl (lv_at hl 1 rfl) ?_
    refine lv_iload_n hx hb d_Replacer_endArgument_20 rfl (lv_at hl 2 rfl) ?_
    refine lv_iadd hx hb d_Replacer_endArgument_21 ?_
    refine lv_iconst (v := (-1)) hx hb d_Replacer_endArgument_22 (by decide) ?_
    refine S_iast (h := shC) (i := v1 + v2) (v := (-1)) hx hb hK hP hD hS 68 rfl (hb2 hc1) d_Replacer_endArgument_23 (fun H locs hP hD hS => ?_)
    refine lv_iload_n hx hb d_Replacer_endArgument_24 rfl (lv_at hl 2 rfl) ?_
    refine lv_iconst (v := 1) hx hb d_Replacer_endArgument_25 (by decide) ?_
    refine lv_iadd hx hb d_Replacer_endArgument_26 ?_
    refine lv_bipush (v := 30) hx hb d_Replacer_endArgument_27 (by decide) ?_
    refine lv_icmp_ge (tgt := 51) hx hb d_Replacer_endArgument_29 (by decide) (fun hc3 => ?_) (fun hc3 => ?_)
    · exact fin_v (g := g) (ws := Sw shC g ad (putA (putA S 65 (v1 + v2 : Int32).toNatClampNeg v3) 68 (v1 + v2 : Int32).toNatClampNeg (-1))) hx hb hr hlocks (by decide +kernel) (by decide +kernel) hP hD hS ⟨_, rfl, (by unfold s_Replacer_endArgument; rw [if_neg hc1, if_pos hc3])⟩ d_Replacer_endArgument_51
    · refine lv_aload_n hx hb d_Replacer_endArgument_32 rfl (lv_at hl 0 rfl) ?_
      refine S_getR (h := shC) (C := "MacroMill$Replacer") (T := F_Replacer) hx hb htt in_Replacer hown hK hP 12 4 rfl 77 rfl rfl (by decide) (htt _ k_830) (fun _ h9 => h9) d_Replacer_endArgument_33 ?_
      refine lv_iload_n hx hb d_Replacer_endArgument_36 rfl (lv_at hl 1 rfl) ?_
      show W _ _ _ _ _ _ _ _ _ _ _ _ _ _ _ (F0 _ 37 _ _)
      refine lv_iload_n hx hb d_Replacer_endArgument_37 rfl (lv_at hl 2 rfl) ?_
      refine lv_iadd hx hb d_Replacer_endArgument_38 ?_
      refine lv_iconst (v := 1) hx hb d_Replacer_endArgument_39 (by decide) ?_
      refine lv_iadd hx hb d_Replacer_endArgument_40 ?_
      refine lv_aload_n hx hb d_Replacer_endArgument_41 rfl (lv_at hl 0 rfl) ?_
      refine S_getR (h := shC) (C := "MacroMill$Replacer") (T := F_Replacer) hx hb htt in_Replacer hown hK hP 12 0 rfl 9 rfl rfl (by decide) (htt _ k_826) (fun _ h9 => h9) d_Replacer_endArgument_42 ?_
      refine S_getR (h := shC) (C := "MacroMill$Tokens") (T := F_Tokens) hx hb htt in_Tokens hown hK hP 9 7 rfl 54 rfl rfl (by decide) (htt _ k_655) (fun _ h9 => h9) d_Replacer_endArgument_45 ?_
      refine lv_iload_n hx hb d_Replacer_endArgument_48 rfl (lv_at hl 3 rfl) ?_
      refine S_iald (h := shC) (i := v3) hx hb hK hP 41 rfl (hb3 hc1 hc3) d_Replacer_endArgument_49 ?_
      refine S_iast (h := shC) (i := (v1 + v2) + (1 : Int32)) (v := (putA (putA S 65 (v1 + v2 : Int32).toNatClampNeg v3) 68 (v1 + v2 : Int32).toNatClampNeg (-1)).2.1 41 (v3 : Int32).toNatClampNeg) hx hb hK hP hD hS 64 rfl (hb4 hc1 hc3) d_Replacer_endArgument_50 (fun H locs hP hD hS => ?_)
      exact fin_v (g := g) (ws := Sw shC g ad (putA (putA (putA S 65 (v1 + v2 : Int32).toNatClampNeg v3) 68 (v1 + v2 : Int32).toNatClampNeg (-1)) 64 ((v1 + v2) + (1 : Int32) : Int32).toNatClampNeg ((putA (putA S 65 (v1 + v2 : Int32).toNatClampNeg v3) 68 (v1 + v2 : Int32).toNatClampNeg (-1)).2.1 41 (v3 : Int32).toNatClampNeg))) hx hb hr hlocks (by decide +kernel) (by decide +kernel) hP hD hS ⟨_, rfl, (by unfold s_Replacer_endArgument; rw [if_neg hc1, if_neg hc3])⟩ d_Replacer_endArgument_51
def r_Replacer_hasRoomForKept (S : sS) (v1 : Int32) : Int32 := if (40000 : Int32) < ((S.1 2 8) + (S.2.1 69 (v1 : Int32).toNatClampNeg)) then 0 else (if (60000 : Int32) < ((S.1 9 2) + (S.2.1 70 (v1 : Int32).toNatClampNeg)) then 0 else 1)
abbrev rm_a_Replacer_hasRoomForKept : Room := { frames := 0, cells := 0, slots := 0, locals := 0 }
set_option maxHeartbeats 4000000 in
set_option maxRecDepth 100000 in
theorem a_Replacer_hasRoomForKept (l : Launch) (g : gG) (sz : Nat) (ad : Nat → Nat) (S : sS) (v1 : Int32) (hb0 : vp_in (v1) 1830) (hb1 : ¬ ((40000 : Int32) < ((S.1 2 8) + (S.2.1 69 (v1 : Int32).toNatClampNeg))) → vp_in (v1) 1830) : Cz l y_Replacer_hasRoomForKept b_Replacer_hasRoomForKept 2 rm_a_Replacer_hasRoomForKept g [.ref (ad 12), .int v1] (Sw shC g ad S) sz (fun r w => ∃ S' : sS, w = Sw shC g ad S' ∧ r = r_Replacer_hasRoomForKept S v1 ∧ S' = S) := by
  refine startZ (by decide) (Nat.le_of_ble_eq_true rfl) ?_
  intro p e s m below meth c A ls hx hb hr hml hlocks hmn hown htt hN hA hP hK hD hS hl
  have hown : s.vm.findClass "MacroMill$Replacer" = some m.cls := hown
  have hl : lv_has ls 2 [(0, .ref (ad 12)), (1, .int v1)] := hl
  refine lv_aload_n hx hb d_Replacer_hasRoomForKept_0 rfl (lv_at hl 0 rfl) ?_
  refine S_getR (h := shC) (C := "MacroMill$Replacer") (T := F_Replacer) hx hb htt in_Replacer hown hK hP 12 3 rfl 2 rfl rfl (by decide) (htt _ k_829) (fun _ h9 => h9) d_Replacer_hasRoomForKept_1 ?_
  refine S_getI (h := shC) (C := "MacroMill$Outcome") (T := F_Outcome) hx hb htt in_Outcome hown hK hP 2 8 rfl rfl rfl (by decide) (htt _ k_360) (fun _ h9 => h9) d_Replacer_hasRoomForKept_4 ?_
  refine lv_aload_n hx hb d_Replacer_hasRoomForKept_7 rfl (lv_at hl 0 rfl) ?_
  refine S_getR (h := shC) (C := "MacroMill$Replacer") (T := F_Replacer) hx hb htt in_Replacer hown hK hP 12 9 rfl 82 rfl rfl (by decide) (htt _ k_835) (fun _ h9 => h9) d_Replacer_hasRoomForKept_8 ?_
  refine lv_iload_n hx hb d_Replacer_hasRoomForKept_11 rfl (lv_at hl 1 rfl) ?_
  refine S_iald (h := shC) (i := v1) hx hb hK hP 69 rfl hb0 d_Replacer_hasRoomForKept_12 ?_
  refine lv_iadd hx hb d_Replacer_hasRoomForKept_13 ?_
  refine lv_ldc (v := 40000) hx hb hown (htt _ k_1842) d_Replacer_hasRoomForKept_14 ?_
  refine lv_icmp_gt (tgt := 43) hx hb d_Replacer_hasRoomForKept_16 (by decide) (fun hc1 => ?_) (fun hc1 => ?_)
  · refine lv_iconst (v := 0) hx hb d_Replacer_hasRoomForKept_43 (by decide) ?_
    exact fin_z (g := g) (ws := Sw shC g ad S) (v := 0) hx hb hr hlocks rfl (by decide +kernel) (by decide +kernel) hP hD hS ⟨_, rfl, (by unfold r_Replacer_hasRoomForKept; rw [if_pos hc1]), rfl⟩ d_Replacer_hasRoomForKept_44
  · refine lv_aload_n hx hb d_Replacer_hasRoomForKept_19 rfl (lv_at hl 0 rfl) ?_
    refine S_getR (h := shC) (C := "MacroMill$Replacer") (T := F_Replacer) hx hb htt in_Replacer hown hK hP 12 0 rfl 9 rfl rfl (by decide) (htt _ k_826) (fun _ h9 => h9) d_Replacer_hasRoomForKept_20 ?_
    show W _ _ _ _ _ _ _ _ _ _ _ _ _ _ _ (F0 _ 23 _ _)
    refine S_getI (h := shC) (C := "MacroMill$Tokens") (T := F_Tokens) hx hb htt in_Tokens hown hK hP 9 2 rfl rfl rfl (by decide) (htt _ k_640) (fun _ h9 => h9) d_Replacer_hasRoomForKept_23 ?_
    refine lv_aload_n hx hb d_Replacer_hasRoomForKept_26 rfl (lv_at hl 0 rfl) ?_
    refine S_getR (h := shC) (C := "MacroMill$Replacer") (T := F_Replacer) hx hb htt in_Replacer hown hK hP 12 10 rfl 83 rfl rfl (by decide) (htt _ k_836) (fun _ h9 => h9) d_Replacer_hasRoomForKept_27 ?_
    refine lv_iload_n hx hb d_Replacer_hasRoomForKept_30 rfl (lv_at hl 1 rfl) ?_
    refine S_iald (h := shC) (i := v1) hx hb hK hP 70 rfl (hb1 hc1) d_Replacer_hasRoomForKept_31 ?_
    refine lv_iadd hx hb d_Replacer_hasRoomForKept_32 ?_
    refine lv_ldcw (v := 60000) hx hb hown (htt _ k_1906) d_Replacer_hasRoomForKept_33 ?_
    refine lv_icmp_gt (tgt := 43) hx hb d_Replacer_hasRoomForKept_36 (by decide) (fun hc2 => ?_) (fun hc2 => ?_)
    · refine lv_iconst (v := 0) hx hb d_Replacer_hasRoomForKept_43 (by decide) ?_
      exact fin_z (g := g) (ws := Sw shC g ad S) (v := 0) hx hb hr hlocks rfl (by decide +kernel) (by decide +kernel) hP hD hS ⟨_, rfl, (by unfold r_Replacer_hasRoomForKept; rw [if_neg hc1, if_pos hc2]), rfl⟩ d_Replacer_hasRoomForKept_44
    · refine lv_iconst (v := 1) hx hb d_Replacer_hasRoomForKept_39 (by decide) ?_
      refine lv_goto (tgt := 44) hx hb d_Replacer_hasRoomForKept_40 (by decide) ?_
      exact fin_z (g := g) (ws := Sw shC g ad S) (v := 1) hx hb hr hlocks rfl (by decide +kernel) (by decide +kernel) hP hD hS ⟨_, rfl, (by unfold r_Replacer_hasRoomForKept; rw [if_neg hc1, if_neg hc2]), rfl⟩ d_Replacer_hasRoomForKept_44
def s_Reckoner_takeSignInFront (S : sS) (v1 : Int32) : sS := if v1 = (40 : Int32) then ((s_Reckoner_push S (v1) (0 : Int32))) else (if v1 = (43 : Int32) then ((s_Reckoner_push S (v1) (20 : Int32))) else (if v1 = (45 : Int32) then ((s_Reckoner_push S (v1) (20 : Int32))) else (if v1 = (126 : Int32) then ((s_Reckoner_push S (v1) (20 : Int32))) else (if v1 = (33 : Int32) then ((s_Reckoner_push S (v1) (20 : Int32))) else ((putI S 3 11 1))))))
abbrev rm_a_Reckoner_takeSignInFront : Room := { frames := 1, cells := 0, slots := 0, locals := 22 }
set_option maxHeartbeats 4000000 in
set_option maxRecDepth 100000 in
theorem a_Reckoner_takeSignInFront (l : Launch) (g : gG) (sz : Nat) (ad : Nat → Nat) (S : sS) (v1 : Int32) (hb0 : ¬ (v1 = (40 : Int32)) → v1 = (43 : Int32) → (20 : Int32) = (0 : Int32) → ¬ ((1000 : Int32) ≤ (S.1 3 6)) → (S.1 3 8) = (0 : Int32) → ((S.1 3 7) + (1 : Int32)) ≤ (30 : Int32) → vp_in (S.1 3 6) 1000) (hb1 : ¬ (v1 = (40 : Int32)) → v1 = (43 : Int32) → (20 : Int32) = (0 : Int32) → ¬ ((1000 : Int32) ≤ (S.1 3 6)) → ¬ ((S.1 3 8) = (0 : Int32)) → ((S.1 3 7) + (1 : Int32)) ≤ (60 : Int32) → vp_in (S.1 3 6) 1000) (hb2 : ¬ (v1 = (40 : Int32)) → v1 = (43 : Int32) → ¬ ((20 : Int32) = (0 : Int32)) → (20 : Int32) = (1 : Int32) → ¬ ((1000 : Int32) ≤ (S.1 3 6)) → (S.1 3 8) = (0 : Int32) → ((S.1 3 7) + (1 : Int32)) ≤ (30 : Int32) → vp_in (S.1 3 6) 1000) (hb3 : ¬ (v1 = (40 : Int32)) → v1 = (43 : Int32) → ¬ ((20 : Int32) = (0 : Int32)) → (20 : Int32) = (1 : Int32) → ¬ ((1000 : Int32) ≤ (S.1 3 6)) → ¬ ((S.1 3 8) = (0 : Int32)) → ((S.1 3 7) + (1 : Int32)) ≤ (60 : Int32) → vp_in (S.1 3 6) 1000) (hb4 : ¬ (v1 = (40 : Int32)) → v1 = (43 : Int32) → ¬ ((20 : Int32) = (0 : Int32)) → ¬ ((20 : Int32) = (1 : Int32)) → ¬ ((20 : Int32) = (20 : Int32)) → ¬ ((1000 : Int32) ≤ (S.1 3 6)) → (S.1 3 8) = (0 : Int32) → (S.1 3 7) ≤ (30 : Int32) → vp_in (S.1 3 6) 1000) (hb5 : ¬ (v1 = (40 : Int32)) → v1 = (43 : Int32) → ¬ ((20 : Int32) = (0 : Int32)) → ¬ ((20 : Int32) = (1 : Int32)) → ¬ ((20 : Int32) = (20 : Int32)) → ¬ ((1000 : Int32) ≤ (S.1 3 6)) → ¬ ((S.1 3 8) = (0 : Int32)) → (S.1 3 7) ≤ (60 : Int32) → vp_in (S.1 3 6) 1000) (hb6 : ¬ (v1 = (40 : Int32)) → v1 = (43 : Int32) → ¬ ((20 : Int32) = (0 : Int32)) → ¬ ((20 : Int32) = (1 : Int32)) → (20 : Int32) = (20 : Int32) → ¬ ((1000 : Int32) ≤ (S.1 3 6)) → (S.1 3 8) = (0 : Int32) → ((S.1 3 7) + (1 : Int32)) ≤ (30 : Int32) → vp_in (S.1 3 6) 1000) (hb7 : ¬ (v1 = (40 : Int32)) → v1 = (43 : Int32) → ¬ ((20 : Int32) = (0 : Int32)) → ¬ ((20 : Int32) = (1 : Int32)) → (20 : Int32) = (20 : Int32) → ¬ ((1000 : Int32) ≤ (S.1 3 6)) → ¬ ((S.1 3 8) = (0 : Int32)) → ((S.1 3 7) + (1 : Int32)) ≤ (60 : Int32) → vp_in (S.1 3 6) 1000) (hb8 : ¬ (v1 = (40 : Int32)) → ¬ (v1 = (43 : Int32)) → v1 = (45 : Int32) → (20 : Int32) = (0 : Int32) → ¬ ((1000 : Int32) ≤ (S.1 3 6)) → (S.1 3 8) = (0 : Int32) → ((S.1 3 7) + (1 : Int32)) ≤ (30 : Int32) → vp_in (S.1 3 6) 1000) (hb9 : ¬ (v1 = (40 : Int32)) → ¬ (v1 = (43 : Int32)) → v1 = (45 : Int32) → (20 : Int32) = (0 : Int32) → ¬ ((1000 : Int32) ≤ (S.1 3 6)) → ¬ ((S.1 3 8) = (0 : Int32)) → ((S.1 3 7) + (1 : Int32)) ≤ (60 : Int32) → vp_in (S.1 3 6) 1000) (hb10 : ¬ (v1 = (40 : Int32)) → ¬ (v1 = (43 : Int32)) → v1 = (45 : Int32) → ¬ ((20 : Int32) = (0 : Int32)) → (20 : Int32) = (1 : Int32) → ¬ ((1000 : Int32) ≤ (S.1 3 6)) → (S.1 3 8) = (0 : Int32) → ((S.1 3 7) + (1 : Int32)) ≤ (30 : Int32) → vp_in (S.1 3 6) 1000) (hb11 : ¬ (v1 = (40 : Int32)) → ¬ (v1 = (43 : Int32)) → v1 = (45 : Int32) → ¬ ((20 : Int32) = (0 : Int32)) → (20 : Int32) = (1 : Int32) → ¬ ((1000 : Int32) ≤ (S.1 3 6)) → ¬ ((S.1 3 8) = (0 : Int32)) → ((S.1 3 7) + (1 : Int32)) ≤ (60 : Int32) → vp_in (S.1 3 6) 1000) (hb12 : ¬ (v1 = (40 : Int32)) → ¬ (v1 = (43 : Int32)) → v1 = (45 : Int32) → ¬ ((20 : Int32) = (0 : Int32)) → ¬ ((20 : Int32) = (1 : Int32)) → ¬ ((20 : Int32) = (20 : Int32)) → ¬ ((1000 : Int32) ≤ (S.1 3 6)) → (S.1 3 8) = (0 : Int32) → (S.1 3 7) ≤ (30 : Int32) → vp_in (S.1 3 6) 1000) (hb13 : ¬ (v1 = (40 : Int32)) → ¬ (v1 = (43 : Int32)) → v1 = (45 : Int32) → ¬ ((20 : Int32) = (0 : Int32)) → ¬ ((20 : Int32) = (1 : Int32)) → ¬ ((20 : Int32) = (20 : Int32)) → ¬ ((1000 : Int32) ≤ (S.1 3 6)) → ¬ ((S.1 3 8) = (0 : Int32)) → (S.1 3 7) ≤ (60 : Int32) → vp_in (S.1 3 6) 1000) (hb14 : ¬ (v1 = (40 : Int32)) → ¬ (v1 = (43 : Int32)) → v1 = (45 : Int32) → ¬ ((20 : Int32) = (0 : Int32)) → ¬ ((20 : Int32) = (1 : Int32)) → (20 : Int32) = (20 : Int32) → ¬ ((1000 : Int32) ≤ (S.1 3 6)) → (S.1 3 8) = (0 : Int32) → ((S.1 3 7) + (1 : Int32)) ≤ (30 : Int32) → vp_in (S.1 3 6) 1000) (hb15 : ¬ (v1 = (40 : Int32)) → ¬ (v1 = (43 : Int32)) → v1 = (45 : Int32) → ¬ ((20 : Int32) = (0 : Int32)) → ¬ ((20 : Int32) = (1 : Int32)) → (20 : Int32) = (20 : Int32) → ¬ ((1000 : Int32) ≤ (S.1 3 6)) → ¬ ((S.1 3 8) = (0 : Int32)) → ((S.1 3 7) + (1 : Int32)) ≤ (60 : Int32) → vp_in (S.1 3 6) 1000) (hb16 : ¬ (v1 = (40 : Int32)) → ¬ (v1 = (43 : Int32)) → ¬ (v1 = (45 : Int32)) → v1 = (126 : Int32) → (20 : Int32) = (0 : Int32) → ¬ ((1000 : Int32) ≤ (S.1 3 6)) → (S.1 3 8) = (0 : Int32) → ((S.1 3 7) + (1 : Int32)) ≤ (30 : Int32) → vp_in (S.1 3 6) 1000) (hb17 : ¬ (v1 = (40 : Int32)) → ¬ (v1 = (43 : Int32)) → ¬ (v1 = (45 : Int32)) → v1 = (126 : Int32) → (20 : Int32) = (0 : Int32) → ¬ ((1000 : Int32) ≤ (S.1 3 6)) → ¬ ((S.1 3 8) = (0 : Int32)) → ((S.1 3 7) + (1 : Int32)) ≤ (60 : Int32) → vp_in (S.1 3 6) 1000) (hb18 : ¬ (v1 = (40 : Int32)) → ¬ (v1 = (43 : Int32)) → ¬ (v1 = (45 : Int32)) → v1 = (126 : Int32) → ¬ ((20 : Int32) = (0 : Int32)) → (20 : Int32) = (1 : Int32) → ¬ ((1000 : Int32) ≤ (S.1 3 6)) → (S.1 3 8) = (0 : Int32) → ((S.1 3 7) + (1 : Int32)) ≤ (30 : Int32) → vp_in (S.1 3 6) 1000) (hb19 : ¬ (v1 = (40 : Int32)) → ¬ (v1 = (43 : Int32)) → ¬ (v1 = (45 : Int32)) → v1 = (126 : Int32) → ¬ ((20 : Int32) = (0 : Int32)) → (20 : Int32) = (1 : Int32) → ¬ ((1000 : Int32) ≤ (S.1 3 6)) → ¬ ((S.1 3 8) = (0 : Int32)) → ((S.1 3 7) + (1 : Int32)) ≤ (60 : Int32) → vp_in (S.1 3 6) 1000) (hb20 : ¬ (v1 = (40 : Int32)) → ¬ (v1 = (43 : Int32)) → ¬ (v1 = (45 : Int32)) → v1 = (126 : Int32) → ¬ ((20 : Int32) = (0 : Int32)) → ¬ ((20 : Int32) = (1 : Int32)) → ¬ ((20 : Int32) = (20 : Int32)) → ¬ ((1000 : Int32) ≤ (S.1 3 6)) → (S.1 3 8) = (0 : Int32) → (S.1 3 7) ≤ (30 : Int32) → vp_in (S.1 3 6) 1000) (hb21 : ¬ (v1 = (40 : Int32)) → ¬ (v1 = (43 : Int32)) → ¬ (v1 = (45 : Int32)) → v1 = (126 : Int32) → ¬ ((20 : Int32) = (0 : Int32)) → ¬ ((20 : Int32) = (1 : Int32)) → ¬ ((20 : Int32) = (20 : Int32)) → ¬ ((1000 : Int32) ≤ (S.1 3 6)) → ¬ ((S.1 3 8) = (0 : Int32)) → (S.1 3 7) ≤ (60 : Int32) → vp_in (S.1 3 6) 1000) (hb22 : ¬ (v1 = (40 : Int32)) → ¬ (v1 = (43 : Int32)) → ¬ (v1 = (45 : Int32)) → v1 = (126 : Int32) → ¬ ((20 : Int32) = (0 : Int32)) → ¬ ((20 : Int32) = (1 : Int32)) → (20 : Int32) = (20 : Int32) → ¬ ((1000 : Int32) ≤ (S.1 3 6)) → (S.1 3 8) = (0 : Int32) → ((S.1 3 7) + (1 : Int32)) ≤ (30 : Int32) → vp_in (S.1 3 6) 1000) (hb23 : ¬ (v1 = (40 : Int32)) → ¬ (v1 = (43 : Int32)) → ¬ (v1 = (45 : Int32)) → v1 = (126 : Int32) → ¬ ((20 : Int32) = (0 : Int32)) → ¬ ((20 : Int32) = (1 : Int32)) → (20 : Int32) = (20 : Int32) → ¬ ((1000 : Int32) ≤ (S.1 3 6)) → ¬ ((S.1 3 8) = (0 : Int32)) → ((S.1 3 7) + (1 : Int32)) ≤ (60 : Int32) → vp_in (S.1 3 6) 1000) (hb24 : ¬ (v1 = (40 : Int32)) → ¬ (v1 = (43 : Int32)) → ¬ (v1 = (45 : Int32)) → ¬ (v1 = (126 : Int32)) → v1 = (33 : Int32) → (20 : Int32) = (0 : Int32) → ¬ ((1000 : Int32) ≤ (S.1 3 6)) → (S.1 3 8) = (0 : Int32) → ((S.1 3 7) + (1 : Int32)) ≤ (30 : Int32) → vp_in (S.1 3 6) 1000) (hb25 : ¬ (v1 = (40 : Int32)) → ¬ (v1 = (43 : Int32)) → ¬ (v1 = (45 : Int32)) → ¬ (v1 = (126 : Int32)) → v1 = (33 : Int32) → (20 : Int32) = (0 : Int32) → ¬ ((1000 : Int32) ≤ (S.1 3 6)) → ¬ ((S.1 3 8) = (0 : Int32)) → ((S.1 3 7) + (1 : Int32)) ≤ (60 : Int32) → vp_in (S.1 3 6) 1000) (hb26 : ¬ (v1 = (40 : Int32)) → ¬ (v1 = (43 : Int32)) → ¬ (v1 = (45 : Int32)) → ¬ (v1 = (126 : Int32)) → v1 = (33 : Int32) → ¬ ((20 : Int32) = (0 : Int32)) → (20 : Int32) = (1 : Int32) → ¬ ((1000 : Int32) ≤ (S.1 3 6)) → (S.1 3 8) = (0 : Int32) → ((S.1 3 7) + (1 : Int32)) ≤ (30 : Int32) → vp_in (S.1 3 6) 1000) (hb27 : ¬ (v1 = (40 : Int32)) → ¬ (v1 = (43 : Int32)) → ¬ (v1 = (45 : Int32)) → ¬ (v1 = (126 : Int32)) → v1 = (33 : Int32) → ¬ ((20 : Int32) = (0 : Int32)) → (20 : Int32) = (1 : Int32) → ¬ ((1000 : Int32) ≤ (S.1 3 6)) → ¬ ((S.1 3 8) = (0 : Int32)) → ((S.1 3 7) + (1 : Int32)) ≤ (60 : Int32) → vp_in (S.1 3 6) 1000) (hb28 : ¬ (v1 = (40 : Int32)) → ¬ (v1 = (43 : Int32)) → ¬ (v1 = (45 : Int32)) → ¬ (v1 = (126 : Int32)) → v1 = (33 : Int32) → ¬ ((20 : Int32) = (0 : Int32)) → ¬ ((20 : Int32) = (1 : Int32)) → ¬ ((20 : Int32) = (20 : Int32)) → ¬ ((1000 : Int32) ≤ (S.1 3 6)) → (S.1 3 8) = (0 : Int32) → (S.1 3 7) ≤ (30 : Int32) → vp_in (S.1 3 6) 1000) (hb29 : ¬ (v1 = (40 : Int32)) → ¬ (v1 = (43 : Int32)) → ¬ (v1 = (45 : Int32)) → ¬ (v1 = (126 : Int32)) → v1 = (33 : Int32) → ¬ ((20 : Int32) = (0 : Int32)) → ¬ ((20 : Int32) = (1 : Int32)) → ¬ ((20 : Int32) = (20 : Int32)) → ¬ ((1000 : Int32) ≤ (S.1 3 6)) → ¬ ((S.1 3 8) = (0 : Int32)) → (S.1 3 7) ≤ (60 : Int32) → vp_in (S.1 3 6) 1000) (hb30 : ¬ (v1 = (40 : Int32)) → ¬ (v1 = (43 : Int32)) → ¬ (v1 = (45 : Int32)) → ¬ (v1 = (126 : Int32)) → v1 = (33 : Int32) → ¬ ((20 : Int32) = (0 : Int32)) → ¬ ((20 : Int32) = (1 : Int32)) → (20 : Int32) = (20 : Int32) → ¬ ((1000 : Int32) ≤ (S.1 3 6)) → (S.1 3 8) = (0 : Int32) → ((S.1 3 7) + (1 : Int32)) ≤ (30 : Int32) → vp_in (S.1 3 6) 1000) (hb31 : ¬ (v1 = (40 : Int32)) → ¬ (v1 = (43 : Int32)) → ¬ (v1 = (45 : Int32)) → ¬ (v1 = (126 : Int32)) → v1 = (33 : Int32) → ¬ ((20 : Int32) = (0 : Int32)) → ¬ ((20 : Int32) = (1 : Int32)) → (20 : Int32) = (20 : Int32) → ¬ ((1000 : Int32) ≤ (S.1 3 6)) → ¬ ((S.1 3 8) = (0 : Int32)) → ((S.1 3 7) + (1 : Int32)) ≤ (60 : Int32) → vp_in (S.1 3 6) 1000) (hb32 : v1 = (40 : Int32) → (0 : Int32) = (0 : Int32) → ¬ ((1000 : Int32) ≤ (S.1 3 6)) → (S.1 3 8) = (0 : Int32) → ((S.1 3 7) + (1 : Int32)) ≤ (30 : Int32) → vp_in (S.1 3 6) 1000) (hb33 : v1 = (40 : Int32) → (0 : Int32) = (0 : Int32) → ¬ ((1000 : Int32) ≤ (S.1 3 6)) → ¬ ((S.1 3 8) = (0 : Int32)) → ((S.1 3 7) + (1 : Int32)) ≤ (60 : Int32) → vp_in (S.1 3 6) 1000) (hb34 : v1 = (40 : Int32) → ¬ ((0 : Int32) = (0 : Int32)) → (0 : Int32) = (1 : Int32) → ¬ ((1000 : Int32) ≤ (S.1 3 6)) → (S.1 3 8) = (0 : Int32) → ((S.1 3 7) + (1 : Int32)) ≤ (30 : Int32) → vp_in (S.1 3 6) 1000) (hb35 : v1 = (40 : Int32) → ¬ ((0 : Int32) = (0 : Int32)) → (0 : Int32) = (1 : Int32) → ¬ ((1000 : Int32) ≤ (S.1 3 6)) → ¬ ((S.1 3 8) = (0 : Int32)) → ((S.1 3 7) + (1 : Int32)) ≤ (60 : Int32) → vp_in (S.1 3 6) 1000) (hb36 : v1 = (40 : Int32) → ¬ ((0 : Int32) = (0 : Int32)) → ¬ ((0 : Int32) = (1 : Int32)) → ¬ ((0 : Int32) = (20 : Int32)) → ¬ ((1000 : Int32) ≤ (S.1 3 6)) → (S.1 3 8) = (0 : Int32) → (S.1 3 7) ≤ (30 : Int32) → vp_in (S.1 3 6) 1000) (hb37 : v1 = (40 : Int32) → ¬ ((0 : Int32) = (0 : Int32)) → ¬ ((0 : Int32) = (1 : Int32)) → ¬ ((0 : Int32) = (20 : Int32)) → ¬ ((1000 : Int32) ≤ (S.1 3 6)) → ¬ ((S.1 3 8) = (0 : Int32)) → (S.1 3 7) ≤ (60 : Int32) → vp_in (S.1 3 6) 1000) (hb38 : v1 = (40 : Int32) → ¬ ((0 : Int32) = (0 : Int32)) → ¬ ((0 : Int32) = (1 : Int32)) → (0 : Int32) = (20 : Int32) → ¬ ((1000 : Int32) ≤ (S.1 3 6)) → (S.1 3 8) = (0 : Int32) → ((S.1 3 7) + (1 : Int32)) ≤ (30 : Int32) → vp_in (S.1 3 6) 1000) (hb39 : v1 = (40 : Int32) → ¬ ((0 : Int32) = (0 : Int32)) → ¬ ((0 : Int32) = (1 : Int32)) → (0 : Int32) = (20 : Int32) → ¬ ((1000 : Int32) ≤ (S.1 3 6)) → ¬ ((S.1 3 8) = (0 : Int32)) → ((S.1 3 7) + (1 : Int32)) ≤ (60 : Int32) → vp_in (S.1 3 6) 1000) : Cv l y_Reckoner_takeSignInFront b_Reckoner_takeSignInFront 2 rm_a_Reckoner_takeSignInFront g [.ref (ad 3), .int v1] (Sw shC g ad S) sz (fun w => ∃ S' : sS, w = Sw shC g ad S' ∧ S' = s_Reckoner_takeSignInFront S v1) := by
  refine startV (by decide) (Nat.le_of_ble_eq_true rfl) ?_
  intro p e s m below meth c A ls hx hb hr hml hlocks hmn hown htt hN hA hP hK hD hS hl
  have hown : s.vm.findClass "MacroMill$Reckoner" = some m.cls := hown
  have hl : lv_has ls 2 [(0, .ref (ad 3)), (1, .int v1)] := hl
  refine lv_iload_n hx hb d_Reckoner_takeSignInFront_0 rfl (lv_at hl 1 rfl) ?_
  refine lv_bipush (v := 40) hx hb d_Reckoner_takeSignInFront_1 (by decide) ?_
  refine lv_icmp_ne (tgt := 15) hx hb d_Reckoner_takeSignInFront_3 (by decide) (fun hc1 => ?_) (fun hc1 => ?_)
  · refine lv_iload_n hx hb d_Reckoner_takeSignInFront_15 rfl (lv_at hl 1 rfl) ?_
    refine lv_bipush (v := 43) hx hb d_Reckoner_takeSignInFront_16 (by decide) ?_
    refine lv_icmp_eq (tgt := 39) hx hb d_Reckoner_takeSignInFront_18 (by decide) (fun hc2 => ?_) (fun hc2 => ?_)
    · refine lv_aload_n hx hb d_Reckoner_takeSignInFront_39 rfl (lv_at hl 0 rfl) ?_
      refine lv_iload_n hx hb d_Reckoner_takeSignInFront_40 rfl (lv_at hl 1 rfl) ?_
      refine lv_bipush (v := 20) hx hb d_Reckoner_takeSignInFront_41 (by decide) ?_
      refine go_vS (As := [.ref (ad 3), .int v1, .int 20]) (g := g) (A := A) (h := shC) hP hK hD hS hA hN (fun hp => va_runV (As := [.int v1, .int 20]) (rest := []) ⟨hx, hb, hml, hown, htt⟩ (a_Reckoner_push l g _ ad S (v1) (20 : Int32) (hb0 hc1 hc2) (hb1 hc1 hc2) (hb2 hc1 hc2) (hb3 hc1 hc2) (hb4 hc1 hc2) (hb5 hc1 hc2) (hb6 hc1 hc2) (hb7 hc1 hc2)) ⟨(cb_L htt k_1393 k_265 k_1390 hd_Reckoner_push ⟨(by decide +kernel), (by decide +kernel)⟩), htt _ k_1392, htt _ k_32⟩ ⟨hp.1, S_recv hK hP 3 rfl rfl, hp.2⟩ rfl rfl hl.1 rfl (lv_room (Nat.le_of_ble_eq_true rfl)) d_Reckoner_takeSignInFront_43 ⟨(by decide +kernel), (by decide +kernel)⟩) (fun Sn H locs hw9 hP hD hS => ?_)
      obtain rfl := hw9
      refine W.widen (k := 0) (n := 0) (by decide +kernel) (by decide +kernel) ?_
      refine lv_goto (tgt := 54) hx hb d_Reckoner_takeSignInFront_46 (by decide) ?_
      exact fin_v (g := g) (ws := Sw shC g ad (s_Reckoner_push S (v1) (20 : Int32))) hx hb hr hlocks (by decide +kernel) (by decide +kernel) hP hD hS ⟨_, rfl, (by unfold s_Reckoner_takeSignInFront; rw [if_neg hc1, if_pos hc2])⟩ d_Reckoner_takeSignInFront_54
    · refine lv_iload_n hx hb d_Reckoner_takeSignInFront_21 rfl (lv_at hl 1 rfl) ?_
      refine lv_bipush (v := 45) hx hb d_Reckoner_takeSignInFront_22 (by decide) ?_
      refine lv_icmp_eq (tgt := 39) hx hb d_Reckoner_takeSignInFront_24 (by decide) (fun hc3 => ?_) (fun hc3 => ?_)
      · refine lv_aload_n hx hb d_Reckoner_takeSignInFront_39 rfl (lv_at hl 0 rfl) ?_
        refine lv_iload_n hx hb d_Reckoner_takeSignInFront_40 rfl (lv_at hl 1 rfl) ?_
        refine lv_bipush (v := 20) hx hb d_Reckoner_takeSignInFront_41 (by decide) ?_
        refine go_vS (As := [.ref (ad 3), .int v1, .int 20]) (g := g) (A := A) (h := shC) hP hK hD hS hA hN (fun hp => va_runV (As := [.int v1, .int 20]) (rest := []) ⟨hx, hb, hml, hown, htt⟩ (a_Reckoner_push l g _ ad S (v1) (20 : Int32) (hb8 hc1 hc2 hc3) (hb9 hc1 hc2 hc3) (hb10 hc1 hc2 hc3) (hb11 hc1 hc2 hc3) (hb12 hc1 hc2 hc3) (hb13 hc1 hc2 hc3) (hb14 hc1 hc2 hc3) (hb15 hc1 hc2 hc3)) ⟨(cb_L htt k_1393 k_265 k_1390 hd_Reckoner_push ⟨(by decide +kernel), (by decide +kernel)⟩), htt _ k_1392, htt _ k_32⟩ ⟨hp.1, S_recv hK hP 3 rfl rfl, hp.2⟩ rfl rfl hl.1 rfl (lv_room (Nat.le_of_ble_eq_true rfl)) d_Reckoner_takeSignInFront_43 ⟨(by decide +kernel), (by decide +kernel)⟩) (fun Sn_2 H locs hw9 hP hD hS => ?_)
        obtain rfl := hw9
        refine W.widen (k := 0) (n := 0) (by decide +kernel) (by decide +kernel) ?_
        refine lv_goto (tgt := 54) hx hb d_Reckoner_takeSignInFront_46 (by decide) ?_
        show W _ _ _ _ _ _ _ _ _ _ _ _ _ _ _ (F0 _ 54 _ _)
        exact fin_v (g := g) (ws := Sw shC g ad (s_Reckoner_push S (v1) (20 : Int32))) hx hb hr hlocks (by decide +kernel) (by decide +kernel) hP hD hS ⟨_, rfl, (by unfold s_Reckoner_takeSignInFront; rw [if_neg hc1, if_neg hc2, if_pos hc3])⟩ d_Reckoner_takeSignInFront_54
      · refine lv_iload_n hx hb d_Reckoner_takeSignInFront_27 rfl (lv_at hl 1 rfl) ?_
        refine lv_bipush (v := 126) hx hb d_Reckoner_takeSignInFront_28 (by decide) ?_
        refine lv_icmp_eq (tgt := 39) hx hb d_Reckoner_takeSignInFront_30 (by decide) (fun hc4 => ?_) (fun hc4 => ?_)
        · refine lv_aload_n hx hb d_Reckoner_takeSignInFront_39 rfl (lv_at hl 0 rfl) ?_
          refine lv_iload_n hx hb d_Reckoner_takeSignInFront_40 rfl (lv_at hl 1 rfl) ?_
          refine lv_bipush (v := 20) hx hb d_Reckoner_takeSignInFront_41 (by decide) ?_
          show W _ _ _ _ _ _ _ _ _ _ _ _ _ _ _ (F0 _ 43 _ _)
          refine go_vS (As := [.ref (ad 3), .int v1, .int 20]) (g := g) (A := A) (h := shC) hP hK hD hS hA hN (fun hp => va_runV (As := [.int v1, .int 20]) (rest := []) ⟨hx, hb, hml, hown, htt⟩ (a_Reckoner_push l g _ ad S (v1) (20 : Int32) (hb16 hc1 hc2 hc3 hc4) (hb17 hc1 hc2 hc3 hc4) (hb18 hc1 hc2 hc3 hc4) (hb19 hc1 hc2 hc3 hc4) (hb20 hc1 hc2 hc3 hc4) (hb21 hc1 hc2 hc3 hc4) (hb22 hc1 hc2 hc3 hc4) (hb23 hc1 hc2 hc3 hc4)) ⟨(cb_L htt k_1393 k_265 k_1390 hd_Reckoner_push ⟨(by decide +kernel), (by decide +kernel)⟩), htt _ k_1392, htt _ k_32⟩ ⟨hp.1, S_recv hK hP 3 rfl rfl, hp.2⟩ rfl rfl hl.1 rfl (lv_room (Nat.le_of_ble_eq_true rfl)) d_Reckoner_takeSignInFront_43 ⟨(by decide +kernel), (by decide +kernel)⟩) (fun Sn_3 H locs hw9 hP hD hS => ?_)
          obtain rfl := hw9
          refine W.widen (k := 0) (n := 0) (by decide +kernel) (by decide +kernel) ?_
          refine lv_goto (tgt := 54) hx hb d_Reckoner_takeSignInFront_46 (by decide) ?_
          exact fin_v (g := g) (ws := Sw shC g ad (s_Reckoner_push S (v1) (20 : Int32))) hx hb hr hlocks (by decide +kernel) (by decide +kernel) hP hD hS ⟨_, rfl, (by unfold s_Reckoner_takeSignInFront; rw [if_neg hc1, if_neg hc2, if_neg hc3, if_pos hc4])⟩ d_Reckoner_takeSignInFront_54
        · refine lv_iload_n hx hb d_Reckoner_takeSignInFront_33 rfl (lv_at hl 1 rfl) ?_
          refine lv_bipush (v := 33) hx hb d_Reckoner_takeSignInFront_34 (by decide) ?_
          refine lv_icmp_ne (tgt := 49) hx hb d_Reckoner_takeSignInFront_36 (by decide) (fun hc5 => ?_) (fun hc5 => ?_)
          · refine lv_aload_n hx hb d_Reckoner_takeSignInFront_49 rfl (lv_at hl 0 rfl) ?_
            show W _ _ _ _ _ _ _ _ _ _ _ _ _ _ _ (F0 _ 50 _ _)
            refine lv_iconst (v := 1) hx hb d_Reckoner_takeSignInFront_50 (by decide) ?_
            refine S_put (h := shC) (C := "MacroMill$Reckoner") (T := F_Reckoner) (v := 1) hx hb htt in_Reckoner t_Reckoner t_Reckoner_ok n_Reckoner hown hK hP hD hS 3 11 rfl rfl rfl (by decide) (htt _ k_402) (fun _ h9 => h9) rfl rfl rfl d_Reckoner_takeSignInFront_51 (fun H locs hP hD hS => ?_)
            exact fin_v (g := g) (ws := Sw shC g ad (putI S 3 11 1)) hx hb hr hlocks (by decide +kernel) (by decide +kernel) hP hD hS ⟨_, rfl, (by unfold s_Reckoner_takeSignInFront; rw [if_neg hc1, if_neg hc2, if_neg hc3, if_neg hc4, if_neg hc5])⟩ d_Reckoner_takeSignInFront_54
          · refine lv_aload_n hx hb d_Reckoner_takeSignInFront_39 rfl (lv_at hl 0 rfl) ?_
            show W _ _ _ _ _ _ _ _ _ _ _ _ _ _ _ (F0 _ 40 _ _)
            refine lv_iload_n hx hb d_Reckoner_takeSignInFront_40 rfl (lv_at hl 1 rfl) ?_
            refine lv_bipush (v := 20) hx hb d_Reckoner_takeSignInFront_41 (by decide) ?_
            refine go_vS (As := [.ref (ad 3), .int v1, .int 20]) (g := g) (A := A) (h := shC) hP hK hD hS hA hN (fun hp => va_runV (As := [.int v1, .int 20]) (rest := []) ⟨hx, hb, hml, hown, htt⟩ (a_Reckoner_push l g _ ad S (v1) (20 : Int32) (hb24 hc1 hc2 hc3 hc4 hc5) (hb25 hc1 hc2 hc3 hc4 hc5) (hb26 hc1 hc2 hc3 hc4 hc5) (hb27 hc1 hc2 hc3 hc4 hc5) (hb28 hc1 hc2 hc3 hc4 hc5) (hb29 hc1 hc2 hc3 hc4 hc5) (hb30 hc1 hc2 hc3 hc4 hc5) (hb31 hc1 hc2 hc3 hc4 hc5)) ⟨(cb_L htt k_1393 k_265 k_1390 hd_Reckoner_push ⟨(by decide +kernel), (by decide +kernel)⟩), htt _ k_1392, htt _ k_32⟩ ⟨hp.1, S_recv hK hP 3 rfl rfl, hp.2⟩ rfl rfl hl.1 rfl (lv_room (Nat.le_of_ble_eq_true rfl)) d_Reckoner_takeSignInFront_43 ⟨(by decide +kernel), (by decide +kernel)⟩) (fun Sn_4 H locs hw9 hP hD hS => ?_)
            obtain rfl := hw9
            refine W.widen (k := 0) (n := 0) (by decide +kernel) (by decide +kernel) ?_
            refine lv_goto (tgt := 54) hx hb d_Reckoner_takeSignInFront_46 (by decide) ?_
            exact fin_v (g := g) (ws := Sw shC g ad (s_Reckoner_push S (v1) (20 : Int32))) hx hb hr hlocks (by decide +kernel) (by decide +kernel) hP hD hS ⟨_, rfl, (by unfold s_Reckoner_takeSignInFront; rw [if_neg hc1, if_neg hc2, if_neg hc3, if_neg hc4, if_pos hc5])⟩ d_Reckoner_takeSignInFront_54
  · refine lv_aload_n hx hb d_Reckoner_takeSignInFront_6 rfl (lv_at hl 0 rfl) ?_
    refine lv_iload_n hx hb d_Reckoner_takeSignInFront_7 rfl (lv_at hl 1 rfl) ?_
    refine lv_iconst (v := 0) hx hb d_Reckoner_takeSignInFront_8 (by decide) ?_
    refine go_vS (As := [.ref (ad 3), .int v1, .int 0]) (g := g) (A := A) (h := shC) hP hK hD hS hA hN (fun hp => va_runV (As := [.int v1, .int 0]) (rest := []) ⟨hx, hb, hml, hown, htt⟩ (a_Reckoner_push l g _ ad S (v1) (0 : Int32) (hb32 hc1) (hb33 hc1) (hb34 hc1) (hb35 hc1) (hb36 hc1) (hb37 hc1) (hb38 hc1) (hb39 hc1)) ⟨(cb_L htt k_1393 k_265 k_1390 hd_Reckoner_push ⟨(by decide +kernel), (by decide +kernel)⟩), htt _ k_1392, htt _ k_32⟩ ⟨hp.1, S_recv hK hP 3 rfl rfl, hp.2⟩ rfl rfl hl.1 rfl (lv_room (Nat.le_of_ble_eq_true rfl)) d_Reckoner_takeSignInFront_9 ⟨(by decide +kernel), (by decide +kernel)⟩) (fun Sn_5 H locs hw9 hP hD hS => ?_)
    obtain rfl := hw9
    refine W.widen (k := 0) (n := 0) (by decide +kernel) (by decide +kernel) ?_
    refine lv_goto (tgt := 54) hx hb d_Reckoner_takeSignInFront_12 (by decide) ?_
    exact fin_v (g := g) (ws := Sw shC g ad (s_Reckoner_push S (v1) (0 : Int32))) hx hb hr hlocks (by decide +kernel) (by decide +kernel) hP hD hS ⟨_, rfl, (by unfold s_Reckoner_takeSignInFront; rw [if_pos hc1])⟩ d_Reckoner_takeSignInFront_54
def s_Second_keepText (S : sS) : sS := if (r_Second_isCounting S) = (0 : Int32) then S else (if (S.1 8 13) ≤ (8000 : Int32) then ((putI S 11 16 (S.1 8 13))) else ((s_Outcome_fail S (21 : Int32) (r_Tokens_line S (8000 : Int32)))))
abbrev rm_a_Second_keepText : Room := { frames := 1, cells := 0, slots := 0, locals := 22 }
set_option maxHeartbeats 4000000 in
set_option maxRecDepth 100000 in
theorem a_Second_keepText (l : Launch) (g : gG) (sz : Nat) (ad : Nat → Nat) (S : sS) (hb0 : ¬ ((S.1 8 9) = (0 : Int32)) → vp_in ((S.1 8 9) - (1 : Int32)) 100) (hb1 : ¬ ((r_Second_isCounting S) = (0 : Int32)) → ¬ ((S.1 8 13) ≤ (8000 : Int32)) → vp_in ((8000 : Int32)) 120784) : Cv l y_Second_keepText b_Second_keepText 1 rm_a_Second_keepText g [.ref (ad 8)] (Sw shC g ad S) sz (fun w => ∃ S' : sS, w = Sw shC g ad S' ∧ S' = s_Second_keepText S) := by
  refine startV (by decide) (Nat.le_of_ble_eq_true rfl) ?_
  intro p e s m below meth c A ls hx hb hr hml hlocks hmn hown htt hN hA hP hK hD hS hl
  have hown : s.vm.findClass "MacroMill$Second" = some m.cls := hown
  have hl : lv_has ls 1 [(0, .ref (ad 8))] := hl
  refine lv_aload_n hx hb d_Second_keepText_0 rfl (lv_at hl 0 rfl) ?_
  refine go_iS (As := [.ref (ad 8)]) (g := g) (A := A) (h := shC) hP hK hD hS hA hN (fun hp => va_runV (As := []) (rest := []) ⟨hx, hb, hml, hown, htt⟩ (a_Second_isCounting l g _ ad S hb0) ⟨(cb_L htt k_1992 k_270 k_1989 hd_Second_isCounting ⟨(by decide +kernel), (by decide +kernel)⟩), htt _ k_1991, htt _ k_94⟩ ⟨hp.1, S_recv hK hP 8 rfl rfl, hp.2⟩ rfl rfl hl.1 rfl (lv_room (Nat.le_of_ble_eq_true rfl)) d_Second_keepText_1 ⟨(by decide +kernel), (by decide +kernel)⟩) (fun r9 Sn H locs hw9 hP hD hS => ?_)
  obtain ⟨rfl, e9⟩ := hw9
  rw [e9] at hP hD
  refine W.widen (k := 0) (n := 0) (by decide +kernel) (by decide +kernel) ?_
  refine lv_if_ne (tgt := 8) hx hb d_Second_keepText_4 (by decide) (fun hc1 => ?_) (fun hc1 => ?_)
  · refine lv_aload_n hx hb d_Second_keepText_8 rfl (lv_at hl 0 rfl) ?_
    refine S_getI (h := shC) (C := "MacroMill$Second") (T := F_Second) hx hb htt in_Second hown hK hP 8 13 rfl rfl rfl (by decide) (htt _ k_910) (fun _ h9 => h9) d_Second_keepText_9 ?_
    refine lv_sipush (v := 8000) hx hb d_Second_keepText_12 (by decide) ?_
    refine lv_icmp_le (tgt := 38) hx hb d_Second_keepText_15 (by decide) (fun hc2 => ?_) (fun hc2 => ?_)
    · refine lv_aload_n hx hb d_Second_keepText_38 rfl (lv_at hl 0 rfl) ?_
      refine S_getR (h := shC) (C := "MacroMill$Second") (T := F_Second) hx hb htt in_Second hown hK hP 8 5 rfl 11 rfl rfl (by decide) (htt _ k_902) (fun _ h9 => h9) d_Second_keepText_39 ?_
      refine lv_aload_n hx hb d_Second_keepText_42 rfl (lv_at hl 0 rfl) ?_
      refine S_getI (h := shC) (C := "MacroMill$Second") (T := F_Second) hx hb htt in_Second hown hK hP 8 13 rfl rfl rfl (by decide) (htt _ k_910) (fun _ h9 => h9) d_Second_keepText_43 ?_
      refine S_put (h := shC) (C := "MacroMill$Lines") (T := F_Lines) (v := S.1 8 13) hx hb htt in_Lines t_Lines t_Lines_ok n_Lines hown hK hP hD hS 11 16 rfl rfl rfl (by decide) (htt _ k_777) (fun _ h9 => h9) rfl rfl rfl d_Second_keepText_46 (fun H locs hP hD hS => ?_)
      exact fin_v (g := g) (ws := Sw shC g ad (putI S 11 16 (S.1 8 13))) hx hb hr hlocks (by decide +kernel) (by decide +kernel) hP hD hS ⟨_, rfl, (by unfold s_Second_keepText; rw [if_neg hc1, if_pos hc2])⟩ d_Second_keepText_49
    · refine lv_aload_n hx hb d_Second_keepText_18 rfl (lv_at hl 0 rfl) ?_
      refine S_getR (h := shC) (C := "MacroMill$Second") (T := F_Second) hx hb htt in_Second hown hK hP 8 1 rfl 2 rfl rfl (by decide) (htt _ k_897) (fun _ h9 => h9) d_Second_keepText_19 ?_
      refine lv_bipush (v := 21) hx hb d_Second_keepText_22 (by decide) ?_
      refine lv_aload_n hx hb d_Second_keepText_24 rfl (lv_at hl 0 rfl) ?_
      refine S_getR (h := shC) (C := "MacroMill$Second") (T := F_Second) hx hb htt in_Second hown hK hP 8 3 rfl 9 rfl rfl (by decide) (htt _ k_899) (fun _ h9 => h9) d_Second_keepText_25 ?_
      refine lv_sipush (v := 8000) hx hb d_Second_keepText_28 (by decide) ?_
      show W _ _ _ _ _ _ _ _ _ _ _ _ _ _ _ (F0 _ 31 _ _)
      refine go_iS (As := [.ref (ad 9), .int 8000]) (g := g) (A := A) (h := shC) hP hK hD hS hA hN (fun hp => va_runV (As := [.int 8000]) (rest := [.int 21, .ref (ad 2)]) ⟨hx, hb, hml, hown, htt⟩ (a_Tokens_line l g _ ad S (8000 : Int32) (hb1 hc1 hc2)) ⟨(cb_L htt k_1704 k_271 k_1974 hd_Tokens_line ⟨(by decide +kernel), (by decide +kernel)⟩), htt _ k_1702, htt _ k_1703⟩ ⟨hp.1, S_recv hK hP 9 rfl rfl, hp.2⟩ rfl rfl hl.1 rfl (lv_room (Nat.le_of_ble_eq_true rfl)) d_Second_keepText_31 ⟨(by decide +kernel), (by decide +kernel)⟩) (fun r9 Sn_2 H locs hw9 hP hD hS => ?_)
      obtain ⟨rfl, e9⟩ := hw9
      rw [e9] at hP hD
      refine W.widen (k := 0) (n := 0) (by decide +kernel) (by decide +kernel) ?_
      refine go_vS (As := [.ref (ad 2), .int 21, .int (r_Tokens_line S (8000 : Int32))]) (g := g) (A := A) (h := shC) hP hK hD hS hA hN (fun hp => va_runV (As := [.int 21, .int (r_Tokens_line S (8000 : Int32))]) (rest := []) ⟨hx, hb, hml, hown, htt⟩ (a_Outcome_fail l g _ ad S (21 : Int32) (r_Tokens_line S (8000 : Int32))) ⟨(cb_L htt k_1163 k_264 k_2001 hd_Outcome_fail ⟨(by decide +kernel), (by decide +kernel)⟩), htt _ k_1161, htt _ k_1162⟩ ⟨hp.1, S_recv hK hP 2 rfl rfl, hp.2⟩ rfl rfl hl.1 rfl (lv_room (Nat.le_of_ble_eq_true rfl)) d_Second_keepText_34 ⟨(by decide +kernel), (by decide +kernel)⟩) (fun Sn_3 H locs hw9 hP hD hS => ?_)
      obtain rfl := hw9
      refine W.widen (k := 0) (n := 0) (by decide +kernel) (by decide +kernel) ?_
      exact fin_v (g := g) (ws := Sw shC g ad (s_Outcome_fail S (21 : Int32) (r_Tokens_line S (8000 : Int32)))) hx hb hr hlocks (by decide +kernel) (by decide +kernel) hP hD hS ⟨_, rfl, (by unfold s_Second_keepText; rw [if_neg hc1, if_neg hc2])⟩ d_Second_keepText_37
  · exact fin_v (g := g) (ws := Sw shC g ad S) hx hb hr hlocks (by decide +kernel) (by decide +kernel) hP hD hS ⟨_, rfl, (by unfold s_Second_keepText; rw [if_pos hc1])⟩ d_Second_keepText_7
def s_Second_endFile (S : sS) : sS := if (S.1 8 9) ≤ ((putI S 11 16 0).2.1 34 ((S.1 11 11) - (1 : Int32) : Int32).toNatClampNeg) then ((s_Lines_endFile (putI S 11 16 0))) else ((s_Outcome_fail (putI S 11 16 0) (14 : Int32) ((putI S 11 16 0).2.1 32 ((S.1 8 9) - (1 : Int32) : Int32).toNatClampNeg)))
abbrev rm_a_Second_endFile : Room := { frames := 1, cells := 0, slots := 0, locals := 22 }
set_option maxHeartbeats 4000000 in
set_option maxRecDepth 100000 in
theorem a_Second_endFile (l : Launch) (g : gG) (sz : Nat) (ad : Nat → Nat) (S : sS) (hb0 : vp_in ((S.1 11 11) - (1 : Int32)) 22) (hb1 : (S.1 8 9) ≤ ((putI S 11 16 0).2.1 34 ((S.1 11 11) - (1 : Int32) : Int32).toNatClampNeg) → ¬ (((putI S 11 16 0).1 11 11) ≤ (0 : Int32)) → ¬ ((((putI S 11 16 0).1 11 11) - (1 : Int32)) ≤ (0 : Int32)) → vp_in ((((putI S 11 16 0).1 11 11) - (1 : Int32)) - (1 : Int32)) 21) (hb2 : ¬ ((S.1 8 9) ≤ ((putI S 11 16 0).2.1 34 ((S.1 11 11) - (1 : Int32) : Int32).toNatClampNeg)) → vp_in ((S.1 8 9) - (1 : Int32)) 100) : Cv l y_Second_endFile b_Second_endFile 1 rm_a_Second_endFile g [.ref (ad 8)] (Sw shC g ad S) sz (fun w => ∃ S' : sS, w = Sw shC g ad S' ∧ S' = s_Second_endFile S) := by
  refine startV (by decide) (Nat.le_of_ble_eq_true rfl) ?_
  intro p e s m below meth c A ls hx hb hr hml hlocks hmn hown htt hN hA hP hK hD hS hl
  have hown : s.vm.findClass "MacroMill$Second" = some m.cls := hown
  have hl : lv_has ls 1 [(0, .ref (ad 8))] := hl
  refine lv_aload_n hx hb d_Second_endFile_0 rfl (lv_at hl 0 rfl) ?_
  refine S_getR (h := shC) (C := "MacroMill$Second") (T := F_Second) hx hb htt in_Second hown hK hP 8 5 rfl 11 rfl rfl (by decide) (htt _ k_902) (fun _ h9 => h9) d_Second_endFile_1 ?_
  refine lv_iconst (v := 0) hx hb d_Second_endFile_4 (by decide) ?_
  refine S_put (h := shC) (C := "MacroMill$Lines") (T := F_Lines) (v := 0) hx hb htt in_Lines t_Lines t_Lines_ok n_Lines hown hK hP hD hS 11 16 rfl rfl rfl (by decide) (htt _ k_777) (fun _ h9 => h9) rfl rfl rfl d_Second_endFile_5 (fun H locs hP hD hS => ?_)
  refine lv_aload_n hx hb d_Second_endFile_8 rfl (lv_at hl 0 rfl) ?_
  refine S_getI (h := shC) (C := "MacroMill$Second") (T := F_Second) hx hb htt in_Second hown hK hP 8 9 rfl rfl rfl (by decide) (htt _ k_906) (fun _ h9 => h9) d_Second_endFile_9 ?_
  refine toI (y := S.1 8 9) rfl ?_
  refine lv_aload_n hx hb d_Second_endFile_12 rfl (lv_at hl 0 rfl) ?_
  refine S_getR (h := shC) (C := "MacroMill$Second") (T := F_Second) hx hb htt in_Second hown hK hP 8 10 rfl 47 rfl rfl (by decide) (htt _ k_907) (fun _ h9 => h9) d_Second_endFile_13 ?_
  refine lv_aload_n hx hb d_Second_endFile_16 rfl (lv_at hl 0 rfl) ?_
  refine S_getR (h := shC) (C := "MacroMill$Second") (T := F_Second) hx hb htt in_Second hown hK hP 8 5 rfl 11 rfl rfl (by decide) (htt _ k_902) (fun _ h9 => h9) d_Second_endFile_17 ?_
  refine S_getI (h := shC) (C := "MacroMill$Lines") (T := F_Lines) hx hb htt in_Lines hown hK hP 11 11 rfl rfl rfl (by decide) (htt _ k_771) (fun _ h9 => h9) d_Second_endFile_20 ?_
  refine toI (y := S.1 11 11) rfl ?_
  show W _ _ _ _ _ _ _ _ _ _ _ _ _ _ _ (F0 _ 23 _ _)
  refine lv_iconst (v := 1) hx hb d_Second_endFile_23 (by decide) ?_
  refine lv_isub hx hb d_Second_endFile_24 ?_
  refine S_iald (h := shC) (i := (S.1 11 11) - (1 : Int32)) hx hb hK hP 34 rfl hb0 d_Second_endFile_25 ?_
  refine lv_icmp_le (tgt := 50) hx hb d_Second_endFile_26 (by decide) (fun hc1 => ?_) (fun hc1 => ?_)
  · refine lv_aload_n hx hb d_Second_endFile_50 rfl (lv_at hl 0 rfl) ?_
    refine S_getR (h := shC) (C := "MacroMill$Second") (T := F_Second) hx hb htt in_Second hown hK hP 8 5 rfl 11 rfl rfl (by decide) (htt _ k_902) (fun _ h9 => h9) d_Second_endFile_51 ?_
    refine go_vS (As := [.ref (ad 11)]) (g := g) (A := A) (h := shC) hP hK hD hS hA hN (fun hp => va_runV (As := []) (rest := []) ⟨hx, hb, hml, hown, htt⟩ (a_Lines_endFile l g _ ad (putI S 11 16 0) (hb1 hc1)) ⟨(cb_L htt k_2147 k_273 k_2144 hd_Lines_endFile ⟨(by decide +kernel), (by decide +kernel)⟩), htt _ k_2145, htt _ k_2146⟩ ⟨hp.1, S_recv hK hP 11 rfl rfl, hp.2⟩ rfl rfl hl.1 rfl (lv_room (Nat.le_of_ble_eq_true rfl)) d_Second_endFile_54 ⟨(by decide +kernel), (by decide +kernel)⟩) (fun Sn H locs hw9 hP hD hS => ?_)
    obtain rfl := hw9
    refine W.widen (k := 0) (n := 0) (by decide +kernel) (by decide +kernel) ?_
    exact fin_v (g := g) (ws := Sw shC g ad (s_Lines_endFile (putI S 11 16 0))) hx hb hr hlocks (by decide +kernel) (by decide +kernel) hP hD hS ⟨_, rfl, (by unfold s_Second_endFile; rw [if_pos hc1])⟩ d_Second_endFile_57
  · refine lv_aload_n hx hb d_Second_endFile_29 rfl (lv_at hl 0 rfl) ?_
    refine S_getR (h := shC) (C := "MacroMill$Second") (T := F_Second) hx hb htt in_Second hown hK hP 8 1 rfl 2 rfl rfl (by decide) (htt _ k_897) (fun _ h9 => h9) d_Second_endFile_30 ?_
    refine lv_bipush (v := 14) hx hb d_Second_endFile_33 (by decide) ?_
    refine lv_aload_n hx hb d_Second_endFile_35 rfl (lv_at hl 0 rfl) ?_
    refine S_getR (h := shC) (C := "MacroMill$Second") (T := F_Second) hx hb htt in_Second hown hK hP 8 7 rfl 45 rfl rfl (by decide) (htt _ k_904) (fun _ h9 => h9) d_Second_endFile_36 ?_
    refine lv_aload_n hx hb d_Second_endFile_39 rfl (lv_at hl 0 rfl) ?_
    refine S_getI (h := shC) (C := "MacroMill$Second") (T := F_Second) hx hb htt in_Second hown hK hP 8 9 rfl rfl rfl (by decide) (htt _ k_906) (fun _ h9 => h9) d_Second_endFile_40 ?_
    refine toI (y := S.1 8 9) rfl ?_
    refine lv_iconst (v := 1) hx hb d_Second_endFile_43 (by decide) ?_
    refine lv_isub hx hb d_Second_endFile_44 ?_
    show W _ _ _ _ _ _ _ _ _ _ _ _ _ _ _ (F0 _ 45 _ _)
    refine S_iald (h := shC) (i := (S.1 8 9) - (1 : Int32)) hx hb hK hP 32 rfl (hb2 hc1) d_Second_endFile_45 ?_
    refine go_vS (As := [.ref (ad 2), .int 14, .int ((putI S 11 16 0).2.1 32 ((S.1 8 9) - (1 : Int32) : Int32).toNatClampNeg)]) (g := g) (A := A) (h := shC) hP hK hD hS hA hN (fun hp => va_runV (As := [.int 14, .int ((putI S 11 16 0).2.1 32 ((S.1 8 9) - (1 : Int32) : Int32).toNatClampNeg)]) (rest := []) ⟨hx, hb, hml, hown, htt⟩ (a_Outcome_fail l g _ ad (putI S 11 16 0) (14 : Int32) ((putI S 11 16 0).2.1 32 ((S.1 8 9) - (1 : Int32) : Int32).toNatClampNeg)) ⟨(cb_L htt k_1163 k_264 k_2001 hd_Outcome_fail ⟨(by decide +kernel), (by decide +kernel)⟩), htt _ k_1161, htt _ k_1162⟩ ⟨hp.1, S_recv hK hP 2 rfl rfl, hp.2⟩ rfl rfl hl.1 rfl (lv_room (Nat.le_of_ble_eq_true rfl)) d_Second_endFile_46 ⟨(by decide +kernel), (by decide +kernel)⟩) (fun Sn_2 H locs hw9 hP hD hS => ?_)
    obtain rfl := hw9
    refine W.widen (k := 0) (n := 0) (by decide +kernel) (by decide +kernel) ?_
    exact fin_v (g := g) (ws := Sw shC g ad (s_Outcome_fail (putI S 11 16 0) (14 : Int32) ((putI S 11 16 0).2.1 32 ((S.1 8 9) - (1 : Int32) : Int32).toNatClampNeg))) hx hb hr hlocks (by decide +kernel) (by decide +kernel) hP hD hS ⟨_, rfl, (by unfold s_Second_endFile; rw [if_neg hc1])⟩ d_Second_endFile_49
def s_Replacer_keepForDirective (S : sS) (v1 : Int64) (v2 : Int32) : sS := if (S.2.1 73 (61 : Int32).toNatClampNeg) < (8000 : Int32) then ((s_Replacer_append S (61 : Int32) (v1) (v2))) else ((s_Outcome_fail S (21 : Int32) (S.1 12 15)))
abbrev rm_a_Replacer_keepForDirective : Room := { frames := 2, cells := 0, slots := 0, locals := 48 }
set_option maxHeartbeats 4000000 in
set_option maxRecDepth 100000 in
theorem a_Replacer_keepForDirective (l : Launch) (g : gG) (sz : Nat) (ad : Nat → Nat) (S : sS) (v1 : Int64) (v2 : Int32) (hb0 : vp_in (61) 62) (hb1 : (S.2.1 73 (61 : Int32).toNatClampNeg) < (8000 : Int32) → (S.1 9 8) < (120784 : Int32) → vp_in (S.1 9 8) 120784) (hb2 : (S.2.1 73 (61 : Int32).toNatClampNeg) < (8000 : Int32) → (0 : Int32) ≤ (r_Tokens_add S ((v1)) ((v2))) → vp_in ((61 : Int32)) 62) (hb3 : (S.2.1 73 (61 : Int32).toNatClampNeg) < (8000 : Int32) → (0 : Int32) ≤ (r_Tokens_add S ((v1)) ((v2))) → ¬ (((s_Tokens_add S ((v1)) ((v2))).2.1 72 ((61 : Int32) : Int32).toNatClampNeg) = ((-1) : Int32)) → vp_in ((61 : Int32)) 62) (hb4 : (S.2.1 73 (61 : Int32).toNatClampNeg) < (8000 : Int32) → (0 : Int32) ≤ (r_Tokens_add S ((v1)) ((v2))) → ¬ (((s_Tokens_add S ((v1)) ((v2))).2.1 72 ((61 : Int32) : Int32).toNatClampNeg) = ((-1) : Int32)) → vp_in ((s_Tokens_add S ((v1)) ((v2))).2.1 72 ((61 : Int32) : Int32).toNatClampNeg) 120784) (hb5 : (S.2.1 73 (61 : Int32).toNatClampNeg) < (8000 : Int32) → (0 : Int32) ≤ (r_Tokens_add S ((v1)) ((v2))) → ((s_Tokens_add S ((v1)) ((v2))).2.1 72 ((61 : Int32) : Int32).toNatClampNeg) = ((-1) : Int32) → vp_in ((61 : Int32)) 62) : Cv l y_Replacer_keepForDirective b_Replacer_keepForDirective 4 rm_a_Replacer_keepForDirective g [.ref (ad 12), .long v1, .int v2] (Sw shC g ad S) sz (fun w => ∃ S' : sS, w = Sw shC g ad S' ∧ S' = s_Replacer_keepForDirective S v1 v2) := by
  refine startV (by decide) (Nat.le_of_ble_eq_true rfl) ?_
  intro p e s m below meth c A ls hx hb hr hml hlocks hmn hown htt hN hA hP hK hD hS hl
  have hown : s.vm.findClass "MacroMill$Replacer" = some m.cls := hown
  have hl : lv_has ls 4 [(0, .ref (ad 12)), (1, .long v1), (3, .int v2)] := hl
  refine lv_aload_n hx hb d_Replacer_keepForDirective_0 rfl (lv_at hl 0 rfl) ?_
  refine S_getR (h := shC) (C := "MacroMill$Replacer") (T := F_Replacer) hx hb htt in_Replacer hown hK hP 12 13 rfl 86 rfl rfl (by decide) (htt _ k_839) (fun _ h9 => h9) d_Replacer_keepForDirective_1 ?_
  refine lv_bipush (v := 61) hx hb d_Replacer_keepForDirective_4 (by decide) ?_
  refine S_iald (h := shC) (i := 61) hx hb hK hP 73 rfl hb0 d_Replacer_keepForDirective_6 ?_
  refine lv_sipush (v := 8000) hx hb d_Replacer_keepForDirective_7 (by decide) ?_
  refine lv_icmp_lt (tgt := 29) hx hb d_Replacer_keepForDirective_10 (by decide) (fun hc1 => ?_) (fun hc1 => ?_)
  · refine lv_aload_n hx hb d_Replacer_keepForDirective_29 rfl (lv_at hl 0 rfl) ?_
    refine lv_bipush (v := 61) hx hb d_Replacer_keepForDirective_30 (by decide) ?_
    refine lv_lload_n hx hb d_Replacer_keepForDirective_32 rfl (lv_at hl 1 rfl) ?_
    refine lv_iload_n hx hb d_Replacer_keepForDirective_33 rfl (lv_at hl 2 rfl) ?_
    refine go_vS (As := [.ref (ad 12), .int 61, .long v1, .int v2]) (g := g) (A := A) (h := shC) hP hK hD hS hA hN (fun hp => va_runV (As := [.int 61, .long v1, .int v2]) (rest := []) ⟨hx, hb, hml, hown, htt⟩ (a_Replacer_append l g _ ad S (61 : Int32) (v1) (v2) (hb1 hc1) (hb2 hc1) (hb3 hc1) (hb4 hc1) (hb5 hc1)) ⟨(cb_L htt k_1849 k_274 k_1846 hd_Replacer_append ⟨(by decide +kernel), (by decide +kernel)⟩), htt _ k_1848, htt _ k_75⟩ ⟨hp.1, S_recv hK hP 12 rfl rfl, hp.2⟩ rfl rfl hl.1 rfl (lv_room (Nat.le_of_ble_eq_true rfl)) d_Replacer_keepForDirective_34 ⟨(by decide +kernel), (by decide +kernel)⟩) (fun Sn H locs hw9 hP hD hS => ?_)
    obtain rfl := hw9
    refine W.widen (k := 0) (n := 0) (by decide +kernel) (by decide +kernel) ?_
    exact fin_v (g := g) (ws := Sw shC g ad (s_Replacer_append S (61 : Int32) (v1) (v2))) hx hb hr hlocks (by decide +kernel) (by decide +kernel) hP hD hS ⟨_, rfl, (by unfold s_Replacer_keepForDirective; rw [if_pos hc1])⟩ d_Replacer_keepForDirective_37
  · refine lv_aload_n hx hb d_Replacer_keepForDirective_13 rfl (lv_at hl 0 rfl) ?_
    refine S_getR (h := shC) (C := "MacroMill$Replacer") (T := F_Replacer) hx hb htt in_Replacer hown hK hP 12 3 rfl 2 rfl rfl (by decide) (htt _ k_829) (fun _ h9 => h9) d_Replacer_keepForDirective_14 ?_
    refine lv_bipush (v := 21) hx hb d_Replacer_keepForDirective_17 (by decide) ?_
    refine lv_aload_n hx hb d_Replacer_keepForDirective_19 rfl (lv_at hl 0 rfl) ?_
    refine S_getI (h := shC) (C := "MacroMill$Replacer") (T := F_Replacer) hx hb htt in_Replacer hown hK hP 12 15 rfl rfl rfl (by decide) (htt _ k_841) (fun _ h9 => h9) d_Replacer_keepForDirective_20 ?_
    refine go_vS (As := [.ref (ad 2), .int 21, .int (S.1 12 15)]) (g := g) (A := A) (h := shC) hP hK hD hS hA hN (fun hp => va_runV (As := [.int 21, .int (S.1 12 15)]) (rest := []) ⟨hx, hb, hml, hown, htt⟩ (a_Outcome_fail l g _ ad S (21 : Int32) (S.1 12 15)) ⟨(cb_L htt k_1163 k_264 k_1777 hd_Outcome_fail ⟨(by decide +kernel), (by decide +kernel)⟩), htt _ k_1161, htt _ k_1162⟩ ⟨hp.1, S_recv hK hP 2 rfl rfl, hp.2⟩ rfl rfl hl.1 rfl (lv_room (Nat.le_of_ble_eq_true rfl)) d_Replacer_keepForDirective_23 ⟨(by decide +kernel), (by decide +kernel)⟩) (fun Sn_2 H locs hw9 hP hD hS => ?_)
    obtain rfl := hw9
    refine W.widen (k := 0) (n := 0) (by decide +kernel) (by decide +kernel) ?_
    show W _ _ _ _ _ _ _ _ _ _ _ _ _ _ _ (F0 _ 26 _ _)
    refine lv_goto (tgt := 37) hx hb d_Replacer_keepForDirective_26 (by decide) ?_
    exact fin_v (g := g) (ws := Sw shC g ad (s_Outcome_fail S (21 : Int32) (S.1 12 15))) hx hb hr hlocks (by decide +kernel) (by decide +kernel) hP hD hS ⟨_, rfl, (by unfold s_Replacer_keepForDirective; rw [if_neg hc1])⟩ d_Replacer_keepForDirective_37

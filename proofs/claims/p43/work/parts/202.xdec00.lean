theorem dJ6_bitCount_0f7a4_0 : decode cJ6_bitCount_0f7a4 0 = .ok (.iload_n 0, 1) := by decide +kernel
theorem dJ6_bitCount_0f7a4_1 : decode cJ6_bitCount_0f7a4 1 = .ok (.iload_n 0, 1) := by decide +kernel
theorem dJ6_bitCount_0f7a4_2 : decode cJ6_bitCount_0f7a4 2 = .ok (.iconst 1, 1) := by decide +kernel
theorem dJ6_bitCount_0f7a4_3 : decode cJ6_bitCount_0f7a4 3 = .ok (.iushr, 1) := by decide +kernel
theorem dJ6_bitCount_0f7a4_4 : decode cJ6_bitCount_0f7a4 4 = .ok (.ldc_w 265, 3) := by decide +kernel
theorem dJ6_bitCount_0f7a4_7 : decode cJ6_bitCount_0f7a4 7 = .ok (.iand, 1) := by decide +kernel
theorem dJ6_bitCount_0f7a4_8 : decode cJ6_bitCount_0f7a4 8 = .ok (.isub, 1) := by decide +kernel
theorem dJ6_bitCount_0f7a4_9 : decode cJ6_bitCount_0f7a4 9 = .ok (.istore_n 0, 1) := by decide +kernel
theorem dJ6_bitCount_0f7a4_10 : decode cJ6_bitCount_0f7a4 10 = .ok (.iload_n 0, 1) := by decide +kernel
theorem dJ6_bitCount_0f7a4_11 : decode cJ6_bitCount_0f7a4 11 = .ok (.ldc_w 266, 3) := by decide +kernel
theorem dJ6_bitCount_0f7a4_14 : decode cJ6_bitCount_0f7a4 14 = .ok (.iand, 1) := by decide +kernel
theorem dJ6_bitCount_0f7a4_15 : decode cJ6_bitCount_0f7a4 15 = .ok (.iload_n 0, 1) := by decide +kernel
theorem dJ6_bitCount_0f7a4_16 : decode cJ6_bitCount_0f7a4 16 = .ok (.iconst 2, 1) := by decide +kernel
theorem dJ6_bitCount_0f7a4_17 : decode cJ6_bitCount_0f7a4 17 = .ok (.iushr, 1) := by decide +kernel
theorem dJ6_bitCount_0f7a4_18 : decode cJ6_bitCount_0f7a4 18 = .ok (.ldc_w 266, 3) := by decide +kernel
theorem dJ6_bitCount_0f7a4_21 : decode cJ6_bitCount_0f7a4 21 = .ok (.iand, 1) := by decide +kernel
theorem dJ6_bitCount_0f7a4_22 : decode cJ6_bitCount_0f7a4 22 = .ok (.iadd, 1) := by decide +kernel
theorem dJ6_bitCount_0f7a4_23 : decode cJ6_bitCount_0f7a4 23 = .ok (.istore_n 0, 1) := by decide +kernel
theorem dJ6_bitCount_0f7a4_24 : decode cJ6_bitCount_0f7a4 24 = .ok (.iload_n 0, 1) := by decide +kernel
theorem dJ6_bitCount_0f7a4_25 : decode cJ6_bitCount_0f7a4 25 = .ok (.iload_n 0, 1) := by decide +kernel
theorem dJ6_bitCount_0f7a4_26 : decode cJ6_bitCount_0f7a4 26 = .ok (.iconst 4, 1) := by decide +kernel
theorem dJ6_bitCount_0f7a4_27 : decode cJ6_bitCount_0f7a4 27 = .ok (.iushr, 1) := by decide +kernel
theorem dJ6_bitCount_0f7a4_28 : decode cJ6_bitCount_0f7a4 28 = .ok (.iadd, 1) := by decide +kernel
theorem dJ6_bitCount_0f7a4_29 : decode cJ6_bitCount_0f7a4 29 = .ok (.ldc_w 267, 3) := by decide +kernel
theorem dJ6_bitCount_0f7a4_32 : decode cJ6_bitCount_0f7a4 32 = .ok (.iand, 1) := by decide +kernel
theorem dJ6_bitCount_0f7a4_33 : decode cJ6_bitCount_0f7a4 33 = .ok (.istore_n 0, 1) := by decide +kernel
theorem dJ6_bitCount_0f7a4_34 : decode cJ6_bitCount_0f7a4 34 = .ok (.iload_n 0, 1) := by decide +kernel
theorem dJ6_bitCount_0f7a4_35 : decode cJ6_bitCount_0f7a4 35 = .ok (.iload_n 0, 1) := by decide +kernel
theorem dJ6_bitCount_0f7a4_36 : decode cJ6_bitCount_0f7a4 36 = .ok (.bipush 8, 2) := by decide +kernel
theorem dJ6_bitCount_0f7a4_38 : decode cJ6_bitCount_0f7a4 38 = .ok (.iushr, 1) := by decide +kernel
theorem dJ6_bitCount_0f7a4_39 : decode cJ6_bitCount_0f7a4 39 = .ok (.iadd, 1) := by decide +kernel
theorem dJ6_bitCount_0f7a4_40 : decode cJ6_bitCount_0f7a4 40 = .ok (.istore_n 0, 1) := by decide +kernel
theorem dJ6_bitCount_0f7a4_41 : decode cJ6_bitCount_0f7a4 41 = .ok (.iload_n 0, 1) := by decide +kernel
theorem dJ6_bitCount_0f7a4_42 : decode cJ6_bitCount_0f7a4 42 = .ok (.iload_n 0, 1) := by decide +kernel
theorem dJ6_bitCount_0f7a4_43 : decode cJ6_bitCount_0f7a4 43 = .ok (.bipush 16, 2) := by decide +kernel
theorem dJ6_bitCount_0f7a4_45 : decode cJ6_bitCount_0f7a4 45 = .ok (.iushr, 1) := by decide +kernel
theorem dJ6_bitCount_0f7a4_46 : decode cJ6_bitCount_0f7a4 46 = .ok (.iadd, 1) := by decide +kernel
theorem dJ6_bitCount_0f7a4_47 : decode cJ6_bitCount_0f7a4 47 = .ok (.istore_n 0, 1) := by decide +kernel
theorem dJ6_bitCount_0f7a4_48 : decode cJ6_bitCount_0f7a4 48 = .ok (.iload_n 0, 1) := by decide +kernel
theorem dJ6_bitCount_0f7a4_49 : decode cJ6_bitCount_0f7a4 49 = .ok (.bipush 63, 2) := by decide +kernel
theorem dJ6_bitCount_0f7a4_51 : decode cJ6_bitCount_0f7a4 51 = .ok (.iand, 1) := by decide +kernel
theorem dJ6_bitCount_0f7a4_52 : decode cJ6_bitCount_0f7a4 52 = .ok (.ireturn, 1) := by decide +kernel
theorem dX0_begin_0 : decode cX0_begin 0 = .ok (.aload_n 0, 1) := by decide +kernel
theorem dX0_begin_1 : decode cX0_begin 1 = .ok (.iconst 0, 1) := by decide +kernel
theorem dX0_begin_2 : decode cX0_begin 2 = .ok (.putfield 17, 3) := by decide +kernel
theorem dX0_begin_5 : decode cX0_begin 5 = .ok (.aload_n 0, 1) := by decide +kernel
theorem dX0_begin_6 : decode cX0_begin 6 = .ok (.iconst 0, 1) := by decide +kernel
theorem dX0_begin_7 : decode cX0_begin 7 = .ok (.putfield 21, 3) := by decide +kernel
theorem dX0_begin_10 : decode cX0_begin 10 = .ok (.aload_n 1, 1) := by decide +kernel
theorem dX0_begin_11 : decode cX0_begin 11 = .ok (.aload_n 0, 1) := by decide +kernel
theorem dX0_begin_12 : decode cX0_begin 12 = .ok (.getfield 11, 3) := by decide +kernel
theorem dX0_begin_15 : decode cX0_begin 15 = .ok (.iconst 0, 1) := by decide +kernel
theorem dX0_begin_16 : decode cX0_begin 16 = .ok (.invokevirtual 24, 3) := by decide +kernel
theorem dX0_begin_19 : decode cX0_begin 19 = .ok (.return_, 1) := by decide +kernel
theorem dX0_keep_0 : decode cX0_keep 0 = .ok (.aload_n 0, 1) := by decide +kernel
theorem dX0_keep_1 : decode cX0_keep 1 = .ok (.iconst 0, 1) := by decide +kernel
theorem dX0_keep_2 : decode cX0_keep 2 = .ok (.putfield 21, 3) := by decide +kernel
theorem dX0_keep_5 : decode cX0_keep 5 = .ok (.aload_n 0, 1) := by decide +kernel
theorem dX0_keep_6 : decode cX0_keep 6 = .ok (.getfield 17, 3) := by decide +kernel
theorem dX0_keep_9 : decode cX0_keep 9 = .ok (.bipush 40, 2) := by decide +kernel
theorem dX0_keep_11 : decode cX0_keep 11 = .ok (.if_icmp .ge 16, 3) := by decide +kernel
theorem dX0_keep_14 : decode cX0_keep 14 = .ok (.aload_n 0, 1) := by decide +kernel
theorem dX0_keep_15 : decode cX0_keep 15 = .ok (.dup, 1) := by decide +kernel
theorem dX0_keep_16 : decode cX0_keep 16 = .ok (.getfield 17, 3) := by decide +kernel
theorem dX0_keep_19 : decode cX0_keep 19 = .ok (.iconst 1, 1) := by decide +kernel
theorem dX0_keep_20 : decode cX0_keep 20 = .ok (.iadd, 1) := by decide +kernel
theorem dX0_keep_21 : decode cX0_keep 21 = .ok (.putfield 17, 3) := by decide +kernel
theorem dX0_keep_24 : decode cX0_keep 24 = .ok (.goto 20, 3) := by decide +kernel
theorem dX0_keep_27 : decode cX0_keep 27 = .ok (.aload_n 0, 1) := by decide +kernel
theorem dX0_keep_28 : decode cX0_keep 28 = .ok (.getfield 11, 3) := by decide +kernel
theorem dX0_keep_31 : decode cX0_keep 31 = .ok (.bipush 26, 2) := by decide +kernel
theorem dX0_keep_33 : decode cX0_keep 33 = .ok (.aload_n 0, 1) := by decide +kernel
theorem dX0_keep_34 : decode cX0_keep 34 = .ok (.getfield 11, 3) := by decide +kernel
theorem dX0_keep_37 : decode cX0_keep 37 = .ok (.iconst 0, 1) := by decide +kernel
theorem dX0_keep_38 : decode cX0_keep 38 = .ok (.sipush 1040, 3) := by decide +kernel
theorem dX0_keep_41 : decode cX0_keep 41 = .ok (.invokestatic 28, 3) := by decide +kernel
theorem dX0_keep_44 : decode cX0_keep 44 = .ok (.aload_n 1, 1) := by decide +kernel
theorem dX0_keep_45 : decode cX0_keep 45 = .ok (.aload_n 0, 1) := by decide +kernel
theorem dX0_keep_46 : decode cX0_keep 46 = .ok (.getfield 11, 3) := by decide +kernel
theorem dX0_keep_49 : decode cX0_keep 49 = .ok (.aload_n 0, 1) := by decide +kernel
theorem dX0_keep_50 : decode cX0_keep 50 = .ok (.getfield 17, 3) := by decide +kernel
theorem dX0_keep_53 : decode cX0_keep 53 = .ok (.invokevirtual 24, 3) := by decide +kernel
theorem dX0_keep_56 : decode cX0_keep 56 = .ok (.return_, 1) := by decide +kernel
theorem dX0_stepBack_0 : decode cX0_stepBack 0 = .ok (.aload_n 0, 1) := by decide +kernel
theorem dX0_stepBack_1 : decode cX0_stepBack 1 = .ok (.getfield 17, 3) := by decide +kernel
theorem dX0_stepBack_4 : decode cX0_stepBack 4 = .ok (.ifCond .ne 5, 3) := by decide +kernel
theorem dX0_stepBack_7 : decode cX0_stepBack 7 = .ok (.iconst 0, 1) := by decide +kernel
theorem dX0_stepBack_8 : decode cX0_stepBack 8 = .ok (.ireturn, 1) := by decide +kernel
theorem dX0_stepBack_9 : decode cX0_stepBack 9 = .ok (.aload_n 0, 1) := by decide +kernel
theorem dX0_stepBack_10 : decode cX0_stepBack 10 = .ok (.dup, 1) := by decide +kernel
theorem dX0_stepBack_11 : decode cX0_stepBack 11 = .ok (.getfield 17, 3) := by decide +kernel
theorem dX0_stepBack_14 : decode cX0_stepBack 14 = .ok (.iconst 1, 1) := by decide +kernel
theorem dX0_stepBack_15 : decode cX0_stepBack 15 = .ok (.isub, 1) := by decide +kernel
theorem dX0_stepBack_16 : decode cX0_stepBack 16 = .ok (.putfield 17, 3) := by decide +kernel
theorem dX0_stepBack_19 : decode cX0_stepBack 19 = .ok (.aload_n 0, 1) := by decide +kernel
theorem dX0_stepBack_20 : decode cX0_stepBack 20 = .ok (.dup, 1) := by decide +kernel
theorem dX0_stepBack_21 : decode cX0_stepBack 21 = .ok (.getfield 21, 3) := by decide +kernel
theorem dX0_stepBack_24 : decode cX0_stepBack 24 = .ok (.iconst 1, 1) := by decide +kernel
theorem dX0_stepBack_25 : decode cX0_stepBack 25 = .ok (.iadd, 1) := by decide +kernel
theorem dX0_stepBack_26 : decode cX0_stepBack 26 = .ok (.putfield 21, 3) := by decide +kernel
theorem dX0_stepBack_29 : decode cX0_stepBack 29 = .ok (.aload_n 1, 1) := by decide +kernel
theorem dX0_stepBack_30 : decode cX0_stepBack 30 = .ok (.aload_n 0, 1) := by decide +kernel
theorem dX0_stepBack_31 : decode cX0_stepBack 31 = .ok (.getfield 11, 3) := by decide +kernel
theorem dX0_stepBack_34 : decode cX0_stepBack 34 = .ok (.aload_n 0, 1) := by decide +kernel
theorem dX0_stepBack_35 : decode cX0_stepBack 35 = .ok (.getfield 17, 3) := by decide +kernel
theorem dX0_stepBack_38 : decode cX0_stepBack 38 = .ok (.invokevirtual 34, 3) := by decide +kernel
theorem dX0_stepBack_41 : decode cX0_stepBack 41 = .ok (.iconst 1, 1) := by decide +kernel
theorem dX0_stepBack_42 : decode cX0_stepBack 42 = .ok (.ireturn, 1) := by decide +kernel
theorem dX0_stepOn_0 : decode cX0_stepOn 0 = .ok (.aload_n 0, 1) := by decide +kernel
theorem dX0_stepOn_1 : decode cX0_stepOn 1 = .ok (.getfield 21, 3) := by decide +kernel
theorem dX0_stepOn_4 : decode cX0_stepOn 4 = .ok (.ifCond .ne 5, 3) := by decide +kernel
theorem dX0_stepOn_7 : decode cX0_stepOn 7 = .ok (.iconst 0, 1) := by decide +kernel
theorem dX0_stepOn_8 : decode cX0_stepOn 8 = .ok (.ireturn, 1) := by decide +kernel
theorem dX0_stepOn_9 : decode cX0_stepOn 9 = .ok (.aload_n 0, 1) := by decide +kernel
theorem dX0_stepOn_10 : decode cX0_stepOn 10 = .ok (.dup, 1) := by decide +kernel
theorem dX0_stepOn_11 : decode cX0_stepOn 11 = .ok (.getfield 17, 3) := by decide +kernel
theorem dX0_stepOn_14 : decode cX0_stepOn 14 = .ok (.iconst 1, 1) := by decide +kernel
theorem dX0_stepOn_15 : decode cX0_stepOn 15 = .ok (.iadd, 1) := by decide +kernel
theorem dX0_stepOn_16 : decode cX0_stepOn 16 = .ok (.putfield 17, 3) := by decide +kernel
theorem dX0_stepOn_19 : decode cX0_stepOn 19 = .ok (.aload_n 0, 1) := by decide +kernel
theorem dX0_stepOn_20 : decode cX0_stepOn 20 = .ok (.dup, 1) := by decide +kernel
theorem dX0_stepOn_21 : decode cX0_stepOn 21 = .ok (.getfield 21, 3) := by decide +kernel
theorem dX0_stepOn_24 : decode cX0_stepOn 24 = .ok (.iconst 1, 1) := by decide +kernel
theorem dX0_stepOn_25 : decode cX0_stepOn 25 = .ok (.isub, 1) := by decide +kernel
theorem dX0_stepOn_26 : decode cX0_stepOn 26 = .ok (.putfield 21, 3) := by decide +kernel
theorem dX0_stepOn_29 : decode cX0_stepOn 29 = .ok (.aload_n 1, 1) := by decide +kernel
theorem dX0_stepOn_30 : decode cX0_stepOn 30 = .ok (.aload_n 0, 1) := by decide +kernel
theorem dX0_stepOn_31 : decode cX0_stepOn 31 = .ok (.getfield 11, 3) := by decide +kernel
theorem dX0_stepOn_34 : decode cX0_stepOn 34 = .ok (.aload_n 0, 1) := by decide +kernel
theorem dX0_stepOn_35 : decode cX0_stepOn 35 = .ok (.getfield 17, 3) := by decide +kernel
theorem dX0_stepOn_38 : decode cX0_stepOn 38 = .ok (.invokevirtual 34, 3) := by decide +kernel
theorem dX0_stepOn_41 : decode cX0_stepOn 41 = .ok (.iconst 1, 1) := by decide +kernel
theorem dX0_stepOn_42 : decode cX0_stepOn 42 = .ok (.ireturn, 1) := by decide +kernel
theorem dX1_addFact_0 : decode cX1_addFact 0 = .ok (.aload_n 0, 1) := by decide +kernel
theorem dX1_addFact_1 : decode cX1_addFact 1 = .ok (.sipush 10000, 3) := by decide +kernel
theorem dX1_addFact_4 : decode cX1_addFact 4 = .ok (.iload_n 1, 1) := by decide +kernel
theorem dX1_addFact_5 : decode cX1_addFact 5 = .ok (.iadd, 1) := by decide +kernel
theorem dX1_addFact_6 : decode cX1_addFact 6 = .ok (.bipush 112, 2) := by decide +kernel
theorem dX1_addFact_8 : decode cX1_addFact 8 = .ok (.isub, 1) := by decide +kernel
theorem dX1_addFact_9 : decode cX1_addFact 9 = .ok (.invokevirtual 22, 3) := by decide +kernel
theorem dX1_addFact_12 : decode cX1_addFact 12 = .ok (.return_, 1) := by decide +kernel
theorem dX1_addNumber_0 : decode cX1_addNumber 0 = .ok (.aload_n 0, 1) := by decide +kernel
theorem dX1_addNumber_1 : decode cX1_addNumber 1 = .ok (.iload_n 1, 1) := by decide +kernel
theorem dX1_addNumber_2 : decode cX1_addNumber 2 = .ok (.invokevirtual 22, 3) := by decide +kernel
theorem dX1_addNumber_5 : decode cX1_addNumber 5 = .ok (.return_, 1) := by decide +kernel
theorem dX1_addOperator_0 : decode cX1_addOperator 0 = .ok (.aload_n 0, 1) := by decide +kernel
theorem dX1_addOperator_1 : decode cX1_addOperator 1 = .ok (.sipush 20000, 3) := by decide +kernel
theorem dX1_addOperator_4 : decode cX1_addOperator 4 = .ok (.iload_n 1, 1) := by decide +kernel
theorem dX1_addOperator_5 : decode cX1_addOperator 5 = .ok (.iadd, 1) := by decide +kernel
theorem dX1_addOperator_6 : decode cX1_addOperator 6 = .ok (.invokevirtual 22, 3) := by decide +kernel
theorem dX1_addOperator_9 : decode cX1_addOperator 9 = .ok (.return_, 1) := by decide +kernel
theorem dX1_addStep_0 : decode cX1_addStep 0 = .ok (.aload_n 0, 1) := by decide +kernel
theorem dX1_addStep_1 : decode cX1_addStep 1 = .ok (.getfield 18, 3) := by decide +kernel
theorem dX1_addStep_4 : decode cX1_addStep 4 = .ok (.sipush 300, 3) := by decide +kernel
theorem dX1_addStep_7 : decode cX1_addStep 7 = .ok (.if_icmp .ge 23, 3) := by decide +kernel
theorem dX1_addStep_10 : decode cX1_addStep 10 = .ok (.aload_n 0, 1) := by decide +kernel
theorem dX1_addStep_11 : decode cX1_addStep 11 = .ok (.getfield 11, 3) := by decide +kernel
theorem dX1_addStep_14 : decode cX1_addStep 14 = .ok (.aload_n 0, 1) := by decide +kernel
theorem dX1_addStep_15 : decode cX1_addStep 15 = .ok (.getfield 18, 3) := by decide +kernel
theorem dX1_addStep_18 : decode cX1_addStep 18 = .ok (.iload_n 1, 1) := by decide +kernel
theorem dX1_addStep_19 : decode cX1_addStep 19 = .ok (.iastore, 1) := by decide +kernel
theorem dX1_addStep_20 : decode cX1_addStep 20 = .ok (.aload_n 0, 1) := by decide +kernel
theorem dX1_addStep_21 : decode cX1_addStep 21 = .ok (.dup, 1) := by decide +kernel
theorem dX1_addStep_22 : decode cX1_addStep 22 = .ok (.getfield 18, 3) := by decide +kernel
theorem dX1_addStep_25 : decode cX1_addStep 25 = .ok (.iconst 1, 1) := by decide +kernel
theorem dX1_addStep_26 : decode cX1_addStep 26 = .ok (.iadd, 1) := by decide +kernel
theorem dX1_addStep_27 : decode cX1_addStep 27 = .ok (.putfield 18, 3) := by decide +kernel
theorem dX1_addStep_30 : decode cX1_addStep 30 = .ok (.return_, 1) := by decide +kernel
theorem dX1_empty_0 : decode cX1_empty 0 = .ok (.aload_n 0, 1) := by decide +kernel
theorem dX1_empty_1 : decode cX1_empty 1 = .ok (.iconst 0, 1) := by decide +kernel
theorem dX1_empty_2 : decode cX1_empty 2 = .ok (.putfield 18, 3) := by decide +kernel
theorem dX1_empty_5 : decode cX1_empty 5 = .ok (.return_, 1) := by decide +kernel
theorem dX1_joined_0 : decode cX1_joined 0 = .ok (.iload_n 0, 1) := by decide +kernel
theorem dX1_joined_1 : decode cX1_joined 1 = .ok (.lookupswitch 188 #[(37, 176), (42, 160), (43, 152), (45, 156), (47, 164), (60, 119), (61, 141), (62, 130), (109, 91), (110, 105)], 91) := by decide +kernel
theorem dX1_joined_92 : decode cX1_joined 92 = .ok (.iload_n 1, 1) := by decide +kernel
theorem dX1_joined_93 : decode cX1_joined 93 = .ok (.ifCond .ne 7, 3) := by decide +kernel
theorem dX1_joined_96 : decode cX1_joined 96 = .ok (.iload_n 2, 1) := by decide +kernel
theorem dX1_joined_97 : decode cX1_joined 97 = .ok (.ifCond .eq 7, 3) := by decide +kernel
theorem dX1_joined_100 : decode cX1_joined 100 = .ok (.iconst 1, 1) := by decide +kernel
theorem dX1_joined_101 : decode cX1_joined 101 = .ok (.goto 4, 3) := by decide +kernel
theorem dX1_joined_104 : decode cX1_joined 104 = .ok (.iconst 0, 1) := by decide +kernel
theorem dX1_joined_105 : decode cX1_joined 105 = .ok (.ireturn, 1) := by decide +kernel
theorem dX1_joined_106 : decode cX1_joined 106 = .ok (.iload_n 1, 1) := by decide +kernel
theorem dX1_joined_107 : decode cX1_joined 107 = .ok (.ifCond .eq 11, 3) := by decide +kernel
theorem dX1_joined_110 : decode cX1_joined 110 = .ok (.iload_n 2, 1) := by decide +kernel
theorem dX1_joined_111 : decode cX1_joined 111 = .ok (.ifCond .eq 7, 3) := by decide +kernel
theorem dX1_joined_114 : decode cX1_joined 114 = .ok (.iconst 1, 1) := by decide +kernel
theorem dX1_joined_115 : decode cX1_joined 115 = .ok (.goto 4, 3) := by decide +kernel
theorem dX1_joined_118 : decode cX1_joined 118 = .ok (.iconst 0, 1) := by decide +kernel
theorem dX1_joined_119 : decode cX1_joined 119 = .ok (.ireturn, 1) := by decide +kernel
theorem dX1_joined_120 : decode cX1_joined 120 = .ok (.iload_n 1, 1) := by decide +kernel
theorem dX1_joined_121 : decode cX1_joined 121 = .ok (.iload_n 2, 1) := by decide +kernel
theorem dX1_joined_122 : decode cX1_joined 122 = .ok (.if_icmp .ge 7, 3) := by decide +kernel
theorem dX1_joined_125 : decode cX1_joined 125 = .ok (.iconst 1, 1) := by decide +kernel
theorem dX1_joined_126 : decode cX1_joined 126 = .ok (.goto 4, 3) := by decide +kernel
theorem dX1_joined_129 : decode cX1_joined 129 = .ok (.iconst 0, 1) := by decide +kernel
theorem dX1_joined_130 : decode cX1_joined 130 = .ok (.ireturn, 1) := by decide +kernel
theorem dX1_joined_131 : decode cX1_joined 131 = .ok (.iload_n 1, 1) := by decide +kernel
theorem dX1_joined_132 : decode cX1_joined 132 = .ok (.iload_n 2, 1) := by decide +kernel
theorem dX1_joined_133 : decode cX1_joined 133 = .ok (.if_icmp .le 7, 3) := by decide +kernel
theorem dX1_joined_136 : decode cX1_joined 136 = .ok (.iconst 1, 1) := by decide +kernel
theorem dX1_joined_137 : decode cX1_joined 137 = .ok (.goto 4, 3) := by decide +kernel
theorem dX1_joined_140 : decode cX1_joined 140 = .ok (.iconst 0, 1) := by decide +kernel
theorem dX1_joined_141 : decode cX1_joined 141 = .ok (.ireturn, 1) := by decide +kernel
theorem dX1_joined_142 : decode cX1_joined 142 = .ok (.iload_n 1, 1) := by decide +kernel
theorem dX1_joined_143 : decode cX1_joined 143 = .ok (.iload_n 2, 1) := by decide +kernel
theorem dX1_joined_144 : decode cX1_joined 144 = .ok (.if_icmp .ne 7, 3) := by decide +kernel
theorem dX1_joined_147 : decode cX1_joined 147 = .ok (.iconst 1, 1) := by decide +kernel
theorem dX1_joined_148 : decode cX1_joined 148 = .ok (.goto 4, 3) := by decide +kernel
theorem dX1_joined_151 : decode cX1_joined 151 = .ok (.iconst 0, 1) := by decide +kernel
theorem dX1_joined_152 : decode cX1_joined 152 = .ok (.ireturn, 1) := by decide +kernel
theorem dX1_joined_153 : decode cX1_joined 153 = .ok (.iload_n 1, 1) := by decide +kernel
theorem dX1_joined_154 : decode cX1_joined 154 = .ok (.iload_n 2, 1) := by decide +kernel
theorem dX1_joined_155 : decode cX1_joined 155 = .ok (.iadd, 1) := by decide +kernel
theorem dX1_joined_156 : decode cX1_joined 156 = .ok (.ireturn, 1) := by decide +kernel
theorem dX1_joined_157 : decode cX1_joined 157 = .ok (.iload_n 1, 1) := by decide +kernel
theorem dX1_joined_158 : decode cX1_joined 158 = .ok (.iload_n 2, 1) := by decide +kernel
theorem dX1_joined_159 : decode cX1_joined 159 = .ok (.isub, 1) := by decide +kernel
theorem dX1_joined_160 : decode cX1_joined 160 = .ok (.ireturn, 1) := by decide +kernel
theorem dX1_joined_161 : decode cX1_joined 161 = .ok (.iload_n 1, 1) := by decide +kernel
theorem dX1_joined_162 : decode cX1_joined 162 = .ok (.iload_n 2, 1) := by decide +kernel
theorem dX1_joined_163 : decode cX1_joined 163 = .ok (.imul, 1) := by decide +kernel
theorem dX1_joined_164 : decode cX1_joined 164 = .ok (.ireturn, 1) := by decide +kernel
theorem dX1_joined_165 : decode cX1_joined 165 = .ok (.iload_n 2, 1) := by decide +kernel
theorem dX1_joined_166 : decode cX1_joined 166 = .ok (.ifCond .ne 7, 3) := by decide +kernel
theorem dX1_joined_169 : decode cX1_joined 169 = .ok (.iconst 0, 1) := by decide +kernel
theorem dX1_joined_170 : decode cX1_joined 170 = .ok (.goto 6, 3) := by decide +kernel
theorem dX1_joined_173 : decode cX1_joined 173 = .ok (.iload_n 1, 1) := by decide +kernel
theorem dX1_joined_174 : decode cX1_joined 174 = .ok (.iload_n 2, 1) := by decide +kernel
theorem dX1_joined_175 : decode cX1_joined 175 = .ok (.idiv, 1) := by decide +kernel
theorem dX1_joined_176 : decode cX1_joined 176 = .ok (.ireturn, 1) := by decide +kernel
theorem dX1_joined_177 : decode cX1_joined 177 = .ok (.iload_n 2, 1) := by decide +kernel
theorem dX1_joined_178 : decode cX1_joined 178 = .ok (.ifCond .ne 7, 3) := by decide +kernel
theorem dX1_joined_181 : decode cX1_joined 181 = .ok (.iconst 0, 1) := by decide +kernel
theorem dX1_joined_182 : decode cX1_joined 182 = .ok (.goto 6, 3) := by decide +kernel
theorem dX1_joined_185 : decode cX1_joined 185 = .ok (.iload_n 1, 1) := by decide +kernel
theorem dX1_joined_186 : decode cX1_joined 186 = .ok (.iload_n 2, 1) := by decide +kernel
theorem dX1_joined_187 : decode cX1_joined 187 = .ok (.irem, 1) := by decide +kernel
theorem dX1_joined_188 : decode cX1_joined 188 = .ok (.ireturn, 1) := by decide +kernel
theorem dX1_joined_189 : decode cX1_joined 189 = .ok (.iconst 0, 1) := by decide +kernel
theorem dX1_joined_190 : decode cX1_joined 190 = .ok (.ireturn, 1) := by decide +kernel
theorem dX1_valueBy_0 : decode cX1_valueBy 0 = .ok (.iconst 0, 1) := by decide +kernel
theorem dX1_valueBy_1 : decode cX1_valueBy 1 = .ok (.istore_n 2, 1) := by decide +kernel
theorem dX1_valueBy_2 : decode cX1_valueBy 2 = .ok (.iconst 0, 1) := by decide +kernel
theorem dX1_valueBy_3 : decode cX1_valueBy 3 = .ok (.istore_n 3, 1) := by decide +kernel
theorem dX1_valueBy_4 : decode cX1_valueBy 4 = .ok (.iload_n 3, 1) := by decide +kernel
theorem dX1_valueBy_5 : decode cX1_valueBy 5 = .ok (.aload_n 0, 1) := by decide +kernel
theorem dX1_valueBy_6 : decode cX1_valueBy 6 = .ok (.getfield 18, 3) := by decide +kernel
theorem dX1_valueBy_9 : decode cX1_valueBy 9 = .ok (.if_icmp .ge 162, 3) := by decide +kernel
theorem dX1_valueBy_12 : decode cX1_valueBy 12 = .ok (.aload_n 0, 1) := by decide +kernel
theorem dX1_valueBy_13 : decode cX1_valueBy 13 = .ok (.getfield 11, 3) := by decide +kernel
theorem dX1_valueBy_16 : decode cX1_valueBy 16 = .ok (.iload_n 3, 1) := by decide +kernel
theorem dX1_valueBy_17 : decode cX1_valueBy 17 = .ok (.iaload, 1) := by decide +kernel
theorem dX1_valueBy_18 : decode cX1_valueBy 18 = .ok (.istore 4, 2) := by decide +kernel
theorem dX1_valueBy_20 : decode cX1_valueBy 20 = .ok (.iload 4, 2) := by decide +kernel
theorem dX1_valueBy_22 : decode cX1_valueBy 22 = .ok (.sipush 20000, 3) := by decide +kernel
theorem dX1_valueBy_25 : decode cX1_valueBy 25 = .ok (.if_icmp .ge 62, 3) := by decide +kernel
theorem dX1_valueBy_28 : decode cX1_valueBy 28 = .ok (.iload 4, 2) := by decide +kernel
theorem dX1_valueBy_30 : decode cX1_valueBy 30 = .ok (.sipush 10000, 3) := by decide +kernel
theorem dX1_valueBy_33 : decode cX1_valueBy 33 = .ok (.isub, 1) := by decide +kernel
theorem dX1_valueBy_34 : decode cX1_valueBy 34 = .ok (.istore 5, 2) := by decide +kernel
theorem dX1_valueBy_36 : decode cX1_valueBy 36 = .ok (.iload 5, 2) := by decide +kernel
theorem dX1_valueBy_38 : decode cX1_valueBy 38 = .ok (.ifCond .lt 14, 3) := by decide +kernel
theorem dX1_valueBy_41 : decode cX1_valueBy 41 = .ok (.iload 5, 2) := by decide +kernel
theorem dX1_valueBy_43 : decode cX1_valueBy 43 = .ok (.aload_n 1, 1) := by decide +kernel
theorem dX1_valueBy_44 : decode cX1_valueBy 44 = .ok (.arraylength, 1) := by decide +kernel
theorem dX1_valueBy_45 : decode cX1_valueBy 45 = .ok (.if_icmp .ge 7, 3) := by decide +kernel
theorem dX1_valueBy_48 : decode cX1_valueBy 48 = .ok (.iconst 1, 1) := by decide +kernel
theorem dX1_valueBy_49 : decode cX1_valueBy 49 = .ok (.goto 4, 3) := by decide +kernel
theorem dX1_valueBy_52 : decode cX1_valueBy 52 = .ok (.iconst 0, 1) := by decide +kernel
theorem dX1_valueBy_53 : decode cX1_valueBy 53 = .ok (.istore 6, 2) := by decide +kernel
theorem dX1_valueBy_55 : decode cX1_valueBy 55 = .ok (.iload_n 2, 1) := by decide +kernel
theorem dX1_valueBy_56 : decode cX1_valueBy 56 = .ok (.bipush 30, 2) := by decide +kernel
theorem dX1_valueBy_58 : decode cX1_valueBy 58 = .ok (.if_icmp .ge 26, 3) := by decide +kernel
theorem dX1_valueBy_61 : decode cX1_valueBy 61 = .ok (.aload_n 0, 1) := by decide +kernel
theorem dX1_valueBy_62 : decode cX1_valueBy 62 = .ok (.getfield 15, 3) := by decide +kernel
theorem dX1_valueBy_65 : decode cX1_valueBy 65 = .ok (.iload_n 2, 1) := by decide +kernel
theorem dX1_valueBy_66 : decode cX1_valueBy 66 = .ok (.iload 6, 2) := by decide +kernel
theorem dX1_valueBy_68 : decode cX1_valueBy 68 = .ok (.ifCond .eq 10, 3) := by decide +kernel
theorem dX1_valueBy_71 : decode cX1_valueBy 71 = .ok (.aload_n 1, 1) := by decide +kernel
theorem dX1_valueBy_72 : decode cX1_valueBy 72 = .ok (.iload 5, 2) := by decide +kernel
theorem dX1_valueBy_74 : decode cX1_valueBy 74 = .ok (.iaload, 1) := by decide +kernel
theorem dX1_valueBy_75 : decode cX1_valueBy 75 = .ok (.goto 5, 3) := by decide +kernel
theorem dX1_valueBy_78 : decode cX1_valueBy 78 = .ok (.iload 4, 2) := by decide +kernel
theorem dX1_valueBy_80 : decode cX1_valueBy 80 = .ok (.iastore, 1) := by decide +kernel
theorem dX1_valueBy_81 : decode cX1_valueBy 81 = .ok (.iinc 2 1, 3) := by decide +kernel
theorem dX1_valueBy_84 : decode cX1_valueBy 84 = .ok (.goto 81, 3) := by decide +kernel
theorem dX1_valueBy_87 : decode cX1_valueBy 87 = .ok (.iload 4, 2) := by decide +kernel
theorem dX1_valueBy_89 : decode cX1_valueBy 89 = .ok (.sipush 20111, 3) := by decide +kernel
theorem dX1_valueBy_92 : decode cX1_valueBy 92 = .ok (.if_icmp .ne 34, 3) := by decide +kernel
theorem dX1_valueBy_95 : decode cX1_valueBy 95 = .ok (.iload_n 2, 1) := by decide +kernel
theorem dX1_valueBy_96 : decode cX1_valueBy 96 = .ok (.ifCond .le 69, 3) := by decide +kernel
theorem dX1_valueBy_99 : decode cX1_valueBy 99 = .ok (.aload_n 0, 1) := by decide +kernel
theorem dX1_valueBy_100 : decode cX1_valueBy 100 = .ok (.getfield 15, 3) := by decide +kernel
theorem dX1_valueBy_103 : decode cX1_valueBy 103 = .ok (.iload_n 2, 1) := by decide +kernel
theorem dX1_valueBy_104 : decode cX1_valueBy 104 = .ok (.iconst 1, 1) := by decide +kernel
theorem dX1_valueBy_105 : decode cX1_valueBy 105 = .ok (.isub, 1) := by decide +kernel
theorem dX1_valueBy_106 : decode cX1_valueBy 106 = .ok (.aload_n 0, 1) := by decide +kernel
theorem dX1_valueBy_107 : decode cX1_valueBy 107 = .ok (.getfield 15, 3) := by decide +kernel
theorem dX1_valueBy_110 : decode cX1_valueBy 110 = .ok (.iload_n 2, 1) := by decide +kernel
theorem dX1_valueBy_111 : decode cX1_valueBy 111 = .ok (.iconst 1, 1) := by decide +kernel
theorem dX1_valueBy_112 : decode cX1_valueBy 112 = .ok (.isub, 1) := by decide +kernel
theorem dX1_valueBy_113 : decode cX1_valueBy 113 = .ok (.iaload, 1) := by decide +kernel
theorem dX1_valueBy_114 : decode cX1_valueBy 114 = .ok (.ifCond .ne 7, 3) := by decide +kernel
theorem dX1_valueBy_117 : decode cX1_valueBy 117 = .ok (.iconst 1, 1) := by decide +kernel
theorem dX1_valueBy_118 : decode cX1_valueBy 118 = .ok (.goto 4, 3) := by decide +kernel
theorem dX1_valueBy_121 : decode cX1_valueBy 121 = .ok (.iconst 0, 1) := by decide +kernel
theorem dX1_valueBy_122 : decode cX1_valueBy 122 = .ok (.iastore, 1) := by decide +kernel
theorem dX1_valueBy_123 : decode cX1_valueBy 123 = .ok (.goto 42, 3) := by decide +kernel
theorem dX1_valueBy_126 : decode cX1_valueBy 126 = .ok (.iload_n 2, 1) := by decide +kernel
theorem dX1_valueBy_127 : decode cX1_valueBy 127 = .ok (.iconst 1, 1) := by decide +kernel
theorem dX1_valueBy_128 : decode cX1_valueBy 128 = .ok (.if_icmp .le 37, 3) := by decide +kernel
theorem dX1_valueBy_131 : decode cX1_valueBy 131 = .ok (.iinc 2 (-1), 3) := by decide +kernel
theorem dX1_valueBy_134 : decode cX1_valueBy 134 = .ok (.aload_n 0, 1) := by decide +kernel
theorem dX1_valueBy_135 : decode cX1_valueBy 135 = .ok (.getfield 15, 3) := by decide +kernel
theorem dX1_valueBy_138 : decode cX1_valueBy 138 = .ok (.iload_n 2, 1) := by decide +kernel
theorem dX1_valueBy_139 : decode cX1_valueBy 139 = .ok (.iconst 1, 1) := by decide +kernel
theorem dX1_valueBy_140 : decode cX1_valueBy 140 = .ok (.isub, 1) := by decide +kernel
theorem dX1_valueBy_141 : decode cX1_valueBy 141 = .ok (.iload 4, 2) := by decide +kernel
theorem dX1_valueBy_143 : decode cX1_valueBy 143 = .ok (.sipush 20000, 3) := by decide +kernel
theorem dX1_valueBy_146 : decode cX1_valueBy 146 = .ok (.isub, 1) := by decide +kernel
theorem dX1_valueBy_147 : decode cX1_valueBy 147 = .ok (.aload_n 0, 1) := by decide +kernel
theorem dX1_valueBy_148 : decode cX1_valueBy 148 = .ok (.getfield 15, 3) := by decide +kernel
theorem dX1_valueBy_151 : decode cX1_valueBy 151 = .ok (.iload_n 2, 1) := by decide +kernel
theorem dX1_valueBy_152 : decode cX1_valueBy 152 = .ok (.iconst 1, 1) := by decide +kernel
theorem dX1_valueBy_153 : decode cX1_valueBy 153 = .ok (.isub, 1) := by decide +kernel
theorem dX1_valueBy_154 : decode cX1_valueBy 154 = .ok (.iaload, 1) := by decide +kernel
theorem dX1_valueBy_155 : decode cX1_valueBy 155 = .ok (.aload_n 0, 1) := by decide +kernel
theorem dX1_valueBy_156 : decode cX1_valueBy 156 = .ok (.getfield 15, 3) := by decide +kernel
theorem dX1_valueBy_159 : decode cX1_valueBy 159 = .ok (.iload_n 2, 1) := by decide +kernel
theorem dX1_valueBy_160 : decode cX1_valueBy 160 = .ok (.iaload, 1) := by decide +kernel
theorem dX1_valueBy_161 : decode cX1_valueBy 161 = .ok (.invokestatic 28, 3) := by decide +kernel
theorem dX1_valueBy_164 : decode cX1_valueBy 164 = .ok (.iastore, 1) := by decide +kernel
theorem dX1_valueBy_165 : decode cX1_valueBy 165 = .ok (.iinc 3 1, 3) := by decide +kernel
theorem dX1_valueBy_168 : decode cX1_valueBy 168 = .ok (.goto (-164), 3) := by decide +kernel
theorem dX1_valueBy_171 : decode cX1_valueBy 171 = .ok (.iload_n 2, 1) := by decide +kernel
theorem dX1_valueBy_172 : decode cX1_valueBy 172 = .ok (.ifCond .le 12, 3) := by decide +kernel
theorem dX1_valueBy_175 : decode cX1_valueBy 175 = .ok (.aload_n 0, 1) := by decide +kernel
theorem dX1_valueBy_176 : decode cX1_valueBy 176 = .ok (.getfield 15, 3) := by decide +kernel
theorem dX1_valueBy_179 : decode cX1_valueBy 179 = .ok (.iconst 0, 1) := by decide +kernel
theorem dX1_valueBy_180 : decode cX1_valueBy 180 = .ok (.iaload, 1) := by decide +kernel
theorem dX1_valueBy_181 : decode cX1_valueBy 181 = .ok (.goto 4, 3) := by decide +kernel
theorem dX1_valueBy_184 : decode cX1_valueBy 184 = .ok (.iconst 0, 1) := by decide +kernel
theorem dX1_valueBy_185 : decode cX1_valueBy 185 = .ok (.ireturn, 1) := by decide +kernel
theorem dX2_isFact_0 : decode cX2_isFact 0 = .ok (.iload_n 0, 1) := by decide +kernel
theorem dX2_isFact_1 : decode cX2_isFact 1 = .ok (.bipush 112, 2) := by decide +kernel
theorem dX2_isFact_3 : decode cX2_isFact 3 = .ok (.if_icmp .lt 13, 3) := by decide +kernel
theorem dX2_isFact_6 : decode cX2_isFact 6 = .ok (.iload_n 0, 1) := by decide +kernel
theorem dX2_isFact_7 : decode cX2_isFact 7 = .ok (.bipush 118, 2) := by decide +kernel
theorem dX2_isFact_9 : decode cX2_isFact 9 = .ok (.if_icmp .gt 7, 3) := by decide +kernel
theorem dX2_isFact_12 : decode cX2_isFact 12 = .ok (.iconst 1, 1) := by decide +kernel
theorem dX2_isFact_13 : decode cX2_isFact 13 = .ok (.goto 4, 3) := by decide +kernel
theorem dX2_isFact_16 : decode cX2_isFact 16 = .ok (.iconst 0, 1) := by decide +kernel
theorem dX2_isFact_17 : decode cX2_isFact 17 = .ok (.ireturn, 1) := by decide +kernel
theorem dX2_levelOf_0 : decode cX2_levelOf 0 = .ok (.iload_n 0, 1) := by decide +kernel
theorem dX2_levelOf_1 : decode cX2_levelOf 1 = .ok (.lookupswitch 101 #[(37, 99), (42, 99), (43, 97), (45, 97), (47, 99), (60, 95), (61, 95), (62, 95), (109, 91), (110, 93)], 91) := by decide +kernel
theorem dX2_levelOf_92 : decode cX2_levelOf 92 = .ok (.iconst 0, 1) := by decide +kernel
theorem dX2_levelOf_93 : decode cX2_levelOf 93 = .ok (.ireturn, 1) := by decide +kernel
theorem dX2_levelOf_94 : decode cX2_levelOf 94 = .ok (.iconst 1, 1) := by decide +kernel
theorem dX2_levelOf_95 : decode cX2_levelOf 95 = .ok (.ireturn, 1) := by decide +kernel
theorem dX2_levelOf_96 : decode cX2_levelOf 96 = .ok (.iconst 2, 1) := by decide +kernel
theorem dX2_levelOf_97 : decode cX2_levelOf 97 = .ok (.ireturn, 1) := by decide +kernel
theorem dX2_levelOf_98 : decode cX2_levelOf 98 = .ok (.iconst 3, 1) := by decide +kernel
theorem dX2_levelOf_99 : decode cX2_levelOf 99 = .ok (.ireturn, 1) := by decide +kernel
theorem dX2_levelOf_100 : decode cX2_levelOf 100 = .ok (.iconst 4, 1) := by decide +kernel
theorem dX2_levelOf_101 : decode cX2_levelOf 101 = .ok (.ireturn, 1) := by decide +kernel
theorem dX2_levelOf_102 : decode cX2_levelOf 102 = .ok (.iconst (-1), 1) := by decide +kernel
theorem dX2_levelOf_103 : decode cX2_levelOf 103 = .ok (.ireturn, 1) := by decide +kernel
theorem dX3_add_0 : decode cX3_add 0 = .ok (.aload_n 0, 1) := by decide +kernel
theorem dX3_add_1 : decode cX3_add 1 = .ok (.getfield 49, 3) := by decide +kernel
theorem dX3_add_4 : decode cX3_add 4 = .ok (.bipush 30, 2) := by decide +kernel
theorem dX3_add_6 : decode cX3_add 6 = .ok (.if_icmp .lt 5, 3) := by decide +kernel
theorem dX3_add_9 : decode cX3_add 9 = .ok (.iconst (-1), 1) := by decide +kernel
theorem dX3_add_10 : decode cX3_add 10 = .ok (.ireturn, 1) := by decide +kernel
theorem dX3_add_11 : decode cX3_add 11 = .ok (.aload_n 0, 1) := by decide +kernel
theorem dX3_add_12 : decode cX3_add 12 = .ok (.getfield 9, 3) := by decide +kernel
theorem dX3_add_15 : decode cX3_add 15 = .ok (.aload_n 0, 1) := by decide +kernel
theorem dX3_add_16 : decode cX3_add 16 = .ok (.getfield 49, 3) := by decide +kernel
theorem dX3_add_19 : decode cX3_add 19 = .ok (.iload_n 1, 1) := by decide +kernel
theorem dX3_add_20 : decode cX3_add 20 = .ok (.iastore, 1) := by decide +kernel
theorem dX3_add_21 : decode cX3_add 21 = .ok (.aload_n 0, 1) := by decide +kernel
theorem dX3_add_22 : decode cX3_add 22 = .ok (.getfield 15, 3) := by decide +kernel
theorem dX3_add_25 : decode cX3_add 25 = .ok (.aload_n 0, 1) := by decide +kernel
theorem dX3_add_26 : decode cX3_add 26 = .ok (.getfield 49, 3) := by decide +kernel
theorem dX3_add_29 : decode cX3_add 29 = .ok (.iload_n 2, 1) := by decide +kernel
theorem dX3_add_30 : decode cX3_add 30 = .ok (.iastore, 1) := by decide +kernel
theorem dX3_add_31 : decode cX3_add 31 = .ok (.aload_n 0, 1) := by decide +kernel
theorem dX3_add_32 : decode cX3_add 32 = .ok (.getfield 18, 3) := by decide +kernel
theorem dX3_add_35 : decode cX3_add 35 = .ok (.aload_n 0, 1) := by decide +kernel
theorem dX3_add_36 : decode cX3_add 36 = .ok (.getfield 49, 3) := by decide +kernel
theorem dX3_add_39 : decode cX3_add 39 = .ok (.iload_n 3, 1) := by decide +kernel
theorem dX3_add_40 : decode cX3_add 40 = .ok (.bastore, 1) := by decide +kernel
theorem dX3_add_41 : decode cX3_add 41 = .ok (.aload_n 0, 1) := by decide +kernel
theorem dX3_add_42 : decode cX3_add 42 = .ok (.getfield 22, 3) := by decide +kernel
theorem dX3_add_45 : decode cX3_add 45 = .ok (.aload_n 0, 1) := by decide +kernel
theorem dX3_add_46 : decode cX3_add 46 = .ok (.getfield 49, 3) := by decide +kernel
theorem dX3_add_49 : decode cX3_add 49 = .ok (.iload 4, 2) := by decide +kernel
theorem dX3_add_51 : decode cX3_add 51 = .ok (.iastore, 1) := by decide +kernel
theorem dX3_add_52 : decode cX3_add 52 = .ok (.aload_n 0, 1) := by decide +kernel
theorem dX3_add_53 : decode cX3_add 53 = .ok (.getfield 25, 3) := by decide +kernel
theorem dX3_add_56 : decode cX3_add 56 = .ok (.aload_n 0, 1) := by decide +kernel
theorem dX3_add_57 : decode cX3_add 57 = .ok (.getfield 49, 3) := by decide +kernel
theorem dX3_add_60 : decode cX3_add 60 = .ok (.iconst (-1), 1) := by decide +kernel
theorem dX3_add_61 : decode cX3_add 61 = .ok (.iastore, 1) := by decide +kernel
theorem dX3_add_62 : decode cX3_add 62 = .ok (.aload_n 0, 1) := by decide +kernel
theorem dX3_add_63 : decode cX3_add 63 = .ok (.dup, 1) := by decide +kernel
theorem dX3_add_64 : decode cX3_add 64 = .ok (.getfield 49, 3) := by decide +kernel
theorem dX3_add_67 : decode cX3_add 67 = .ok (.iconst 1, 1) := by decide +kernel
theorem dX3_add_68 : decode cX3_add 68 = .ok (.iadd, 1) := by decide +kernel
theorem dX3_add_69 : decode cX3_add 69 = .ok (.putfield 49, 3) := by decide +kernel
theorem dX3_add_72 : decode cX3_add 72 = .ok (.aload_n 0, 1) := by decide +kernel
theorem dX3_add_73 : decode cX3_add 73 = .ok (.getfield 49, 3) := by decide +kernel
theorem dX3_add_76 : decode cX3_add 76 = .ok (.iconst 1, 1) := by decide +kernel
theorem dX3_add_77 : decode cX3_add 77 = .ok (.isub, 1) := by decide +kernel
theorem dX3_add_78 : decode cX3_add 78 = .ok (.ireturn, 1) := by decide +kernel
theorem dX3_begin_0 : decode cX3_begin 0 = .ok (.aload_n 0, 1) := by decide +kernel
theorem dX3_begin_1 : decode cX3_begin 1 = .ok (.iconst 0, 1) := by decide +kernel
theorem dX3_begin_2 : decode cX3_begin 2 = .ok (.putfield 49, 3) := by decide +kernel
theorem dX3_begin_5 : decode cX3_begin 5 = .ok (.aload_n 0, 1) := by decide +kernel
theorem dX3_begin_6 : decode cX3_begin 6 = .ok (.iconst 0, 1) := by decide +kernel
theorem dX3_begin_7 : decode cX3_begin 7 = .ok (.putfield 53, 3) := by decide +kernel
theorem dX3_begin_10 : decode cX3_begin 10 = .ok (.return_, 1) := by decide +kernel
theorem dX3_commonNote_0 : decode cX3_commonNote 0 = .ok (.iconst (-1), 1) := by decide +kernel
theorem dX3_commonNote_1 : decode cX3_commonNote 1 = .ok (.istore_n 2, 1) := by decide +kernel
theorem dX3_commonNote_2 : decode cX3_commonNote 2 = .ok (.iconst 0, 1) := by decide +kernel
theorem dX3_commonNote_3 : decode cX3_commonNote 3 = .ok (.istore_n 3, 1) := by decide +kernel
theorem dX3_commonNote_4 : decode cX3_commonNote 4 = .ok (.iload_n 3, 1) := by decide +kernel
theorem dX3_commonNote_5 : decode cX3_commonNote 5 = .ok (.sipush 343, 3) := by decide +kernel
theorem dX3_commonNote_8 : decode cX3_commonNote 8 = .ok (.if_icmp .ge 42, 3) := by decide +kernel
theorem dX3_commonNote_11 : decode cX3_commonNote 11 = .ok (.aload_n 0, 1) := by decide +kernel
theorem dX3_commonNote_12 : decode cX3_commonNote 12 = .ok (.getfield 31, 3) := by decide +kernel
theorem dX3_commonNote_15 : decode cX3_commonNote 15 = .ok (.iload_n 3, 1) := by decide +kernel
theorem dX3_commonNote_16 : decode cX3_commonNote 16 = .ok (.baload, 1) := by decide +kernel
theorem dX3_commonNote_17 : decode cX3_commonNote 17 = .ok (.ifCond .eq 27, 3) := by decide +kernel
theorem dX3_commonNote_20 : decode cX3_commonNote 20 = .ok (.iload_n 3, 1) := by decide +kernel
theorem dX3_commonNote_21 : decode cX3_commonNote 21 = .ok (.iload_n 1, 1) := by decide +kernel
theorem dX3_commonNote_22 : decode cX3_commonNote 22 = .ok (.invokestatic 105, 3) := by decide +kernel
theorem dX3_commonNote_25 : decode cX3_commonNote 25 = .ok (.istore 4, 2) := by decide +kernel
theorem dX3_commonNote_27 : decode cX3_commonNote 27 = .ok (.iload_n 2, 1) := by decide +kernel
theorem dX3_commonNote_28 : decode cX3_commonNote 28 = .ok (.iconst (-1), 1) := by decide +kernel
theorem dX3_commonNote_29 : decode cX3_commonNote 29 = .ok (.if_icmp .eq 12, 3) := by decide +kernel
theorem dX3_commonNote_32 : decode cX3_commonNote 32 = .ok (.iload_n 2, 1) := by decide +kernel
theorem dX3_commonNote_33 : decode cX3_commonNote 33 = .ok (.iload 4, 2) := by decide +kernel
theorem dX3_commonNote_35 : decode cX3_commonNote 35 = .ok (.if_icmp .eq 6, 3) := by decide +kernel
theorem dX3_commonNote_38 : decode cX3_commonNote 38 = .ok (.bipush (-2), 2) := by decide +kernel
theorem dX3_commonNote_40 : decode cX3_commonNote 40 = .ok (.ireturn, 1) := by decide +kernel
theorem dX3_commonNote_41 : decode cX3_commonNote 41 = .ok (.iload 4, 2) := by decide +kernel
theorem dX3_commonNote_43 : decode cX3_commonNote 43 = .ok (.istore_n 2, 1) := by decide +kernel
theorem dX3_commonNote_44 : decode cX3_commonNote 44 = .ok (.iinc 3 1, 3) := by decide +kernel
theorem dX3_commonNote_47 : decode cX3_commonNote 47 = .ok (.goto (-43), 3) := by decide +kernel
theorem dX3_commonNote_50 : decode cX3_commonNote 50 = .ok (.iload_n 2, 1) := by decide +kernel
theorem dX3_commonNote_51 : decode cX3_commonNote 51 = .ok (.ireturn, 1) := by decide +kernel
theorem dX3_countNotes_0 : decode cX3_countNotes 0 = .ok (.iconst 0, 1) := by decide +kernel
theorem dX3_countNotes_1 : decode cX3_countNotes 1 = .ok (.istore_n 3, 1) := by decide +kernel
theorem dX3_countNotes_2 : decode cX3_countNotes 2 = .ok (.iload_n 3, 1) := by decide +kernel
theorem dX3_countNotes_3 : decode cX3_countNotes 3 = .ok (.bipush 7, 2) := by decide +kernel
theorem dX3_countNotes_5 : decode cX3_countNotes 5 = .ok (.if_icmp .ge 16, 3) := by decide +kernel
theorem dX3_countNotes_8 : decode cX3_countNotes 8 = .ok (.aload_n 0, 1) := by decide +kernel
theorem dX3_countNotes_9 : decode cX3_countNotes 9 = .ok (.getfield 34, 3) := by decide +kernel
theorem dX3_countNotes_12 : decode cX3_countNotes 12 = .ok (.iload_n 3, 1) := by decide +kernel
theorem dX3_countNotes_13 : decode cX3_countNotes 13 = .ok (.iconst 0, 1) := by decide +kernel
theorem dX3_countNotes_14 : decode cX3_countNotes 14 = .ok (.iastore, 1) := by decide +kernel
theorem dX3_countNotes_15 : decode cX3_countNotes 15 = .ok (.iinc 3 1, 3) := by decide +kernel
theorem dX3_countNotes_18 : decode cX3_countNotes 18 = .ok (.goto (-16), 3) := by decide +kernel
theorem dX3_countNotes_21 : decode cX3_countNotes 21 = .ok (.iconst 0, 1) := by decide +kernel
theorem dX3_countNotes_22 : decode cX3_countNotes 22 = .ok (.istore_n 3, 1) := by decide +kernel
theorem dX3_countNotes_23 : decode cX3_countNotes 23 = .ok (.iload_n 3, 1) := by decide +kernel
theorem dX3_countNotes_24 : decode cX3_countNotes 24 = .ok (.aload_n 1, 1) := by decide +kernel
theorem dX3_countNotes_25 : decode cX3_countNotes 25 = .ok (.getfield 83, 3) := by decide +kernel
theorem dX3_countNotes_28 : decode cX3_countNotes 28 = .ok (.iload_n 2, 1) := by decide +kernel
theorem dX3_countNotes_29 : decode cX3_countNotes 29 = .ok (.iaload, 1) := by decide +kernel
theorem dX3_countNotes_30 : decode cX3_countNotes 30 = .ok (.if_icmp .ge 25, 3) := by decide +kernel
theorem dX3_countNotes_33 : decode cX3_countNotes 33 = .ok (.aload_n 0, 1) := by decide +kernel
theorem dX3_countNotes_34 : decode cX3_countNotes 34 = .ok (.getfield 34, 3) := by decide +kernel
theorem dX3_countNotes_37 : decode cX3_countNotes 37 = .ok (.aload_n 1, 1) := by decide +kernel
theorem dX3_countNotes_38 : decode cX3_countNotes 38 = .ok (.iload_n 2, 1) := by decide +kernel
theorem dX3_countNotes_39 : decode cX3_countNotes 39 = .ok (.iconst 0, 1) := by decide +kernel
theorem dX3_countNotes_40 : decode cX3_countNotes 40 = .ok (.iload_n 3, 1) := by decide +kernel
theorem dX3_countNotes_41 : decode cX3_countNotes 41 = .ok (.invokevirtual 101, 3) := by decide +kernel
theorem dX3_countNotes_44 : decode cX3_countNotes 44 = .ok (.dup2, 1) := by decide +kernel
theorem dX3_countNotes_45 : decode cX3_countNotes 45 = .ok (.iaload, 1) := by decide +kernel
theorem dX3_countNotes_46 : decode cX3_countNotes 46 = .ok (.iconst 1, 1) := by decide +kernel
theorem dX3_countNotes_47 : decode cX3_countNotes 47 = .ok (.iadd, 1) := by decide +kernel
theorem dX3_countNotes_48 : decode cX3_countNotes 48 = .ok (.iastore, 1) := by decide +kernel
theorem dX3_countNotes_49 : decode cX3_countNotes 49 = .ok (.iinc 3 1, 3) := by decide +kernel
theorem dX3_countNotes_52 : decode cX3_countNotes 52 = .ok (.goto (-29), 3) := by decide +kernel
theorem dX3_countNotes_55 : decode cX3_countNotes 55 = .ok (.return_, 1) := by decide +kernel
theorem dX3_countsAt_0 : decode cX3_countsAt 0 = .ok (.aload_n 0, 1) := by decide +kernel
theorem dX3_countsAt_1 : decode cX3_countsAt 1 = .ok (.getfield 25, 3) := by decide +kernel
theorem dX3_countsAt_4 : decode cX3_countsAt 4 = .ok (.iload_n 1, 1) := by decide +kernel
theorem dX3_countsAt_5 : decode cX3_countsAt 5 = .ok (.iaload, 1) := by decide +kernel
theorem dX3_countsAt_6 : decode cX3_countsAt 6 = .ok (.iconst (-1), 1) := by decide +kernel
theorem dX3_countsAt_7 : decode cX3_countsAt 7 = .ok (.if_icmp .eq 17, 3) := by decide +kernel
theorem dX3_countsAt_10 : decode cX3_countsAt 10 = .ok (.aload_n 0, 1) := by decide +kernel
theorem dX3_countsAt_11 : decode cX3_countsAt 11 = .ok (.getfield 25, 3) := by decide +kernel
theorem dX3_countsAt_14 : decode cX3_countsAt 14 = .ok (.iload_n 1, 1) := by decide +kernel
theorem dX3_countsAt_15 : decode cX3_countsAt 15 = .ok (.iaload, 1) := by decide +kernel
theorem dX3_countsAt_16 : decode cX3_countsAt 16 = .ok (.iload_n 2, 1) := by decide +kernel
theorem dX3_countsAt_17 : decode cX3_countsAt 17 = .ok (.if_icmp .gt 7, 3) := by decide +kernel
theorem dX3_countsAt_20 : decode cX3_countsAt 20 = .ok (.iconst 1, 1) := by decide +kernel
theorem dX3_countsAt_21 : decode cX3_countsAt 21 = .ok (.goto 4, 3) := by decide +kernel
theorem dX3_countsAt_24 : decode cX3_countsAt 24 = .ok (.iconst 0, 1) := by decide +kernel
theorem dX3_countsAt_25 : decode cX3_countsAt 25 = .ok (.istore_n 3, 1) := by decide +kernel
theorem dX3_countsAt_26 : decode cX3_countsAt 26 = .ok (.aload_n 0, 1) := by decide +kernel
theorem dX3_countsAt_27 : decode cX3_countsAt 27 = .ok (.getfield 22, 3) := by decide +kernel
theorem dX3_countsAt_30 : decode cX3_countsAt 30 = .ok (.iload_n 1, 1) := by decide +kernel
theorem dX3_countsAt_31 : decode cX3_countsAt 31 = .ok (.iaload, 1) := by decide +kernel
theorem dX3_countsAt_32 : decode cX3_countsAt 32 = .ok (.iload_n 2, 1) := by decide +kernel
theorem dX3_countsAt_33 : decode cX3_countsAt 33 = .ok (.if_icmp .gt 11, 3) := by decide +kernel
theorem dX3_countsAt_36 : decode cX3_countsAt 36 = .ok (.iload_n 3, 1) := by decide +kernel
theorem dX3_countsAt_37 : decode cX3_countsAt 37 = .ok (.ifCond .ne 7, 3) := by decide +kernel
theorem dX3_countsAt_40 : decode cX3_countsAt 40 = .ok (.iconst 1, 1) := by decide +kernel
theorem dX3_countsAt_41 : decode cX3_countsAt 41 = .ok (.goto 4, 3) := by decide +kernel
theorem dX3_countsAt_44 : decode cX3_countsAt 44 = .ok (.iconst 0, 1) := by decide +kernel
theorem dX3_countsAt_45 : decode cX3_countsAt 45 = .ok (.ireturn, 1) := by decide +kernel
theorem dX3_drop_0 : decode cX3_drop 0 = .ok (.iload_n 1, 1) := by decide +kernel
theorem dX3_drop_1 : decode cX3_drop 1 = .ok (.ifCond .lt 21, 3) := by decide +kernel
theorem dX3_drop_4 : decode cX3_drop 4 = .ok (.iload_n 1, 1) := by decide +kernel
theorem dX3_drop_5 : decode cX3_drop 5 = .ok (.aload_n 0, 1) := by decide +kernel
theorem dX3_drop_6 : decode cX3_drop 6 = .ok (.getfield 49, 3) := by decide +kernel
theorem dX3_drop_9 : decode cX3_drop 9 = .ok (.if_icmp .ge 13, 3) := by decide +kernel
theorem dX3_drop_12 : decode cX3_drop 12 = .ok (.aload_n 0, 1) := by decide +kernel
theorem dX3_drop_13 : decode cX3_drop 13 = .ok (.getfield 25, 3) := by decide +kernel
theorem dX3_drop_16 : decode cX3_drop 16 = .ok (.iload_n 1, 1) := by decide +kernel
theorem dX3_drop_17 : decode cX3_drop 17 = .ok (.iaload, 1) := by decide +kernel
theorem dX3_drop_18 : decode cX3_drop 18 = .ok (.iconst (-1), 1) := by decide +kernel
theorem dX3_drop_19 : decode cX3_drop 19 = .ok (.if_icmp .eq 5, 3) := by decide +kernel
theorem dX3_drop_22 : decode cX3_drop 22 = .ok (.iconst 0, 1) := by decide +kernel
theorem dX3_drop_23 : decode cX3_drop 23 = .ok (.ireturn, 1) := by decide +kernel
theorem dX3_drop_24 : decode cX3_drop 24 = .ok (.aload_n 0, 1) := by decide +kernel
theorem dX3_drop_25 : decode cX3_drop 25 = .ok (.getfield 25, 3) := by decide +kernel
theorem dX3_drop_28 : decode cX3_drop 28 = .ok (.iload_n 1, 1) := by decide +kernel
theorem dX3_drop_29 : decode cX3_drop 29 = .ok (.iload_n 2, 1) := by decide +kernel
theorem dX3_drop_30 : decode cX3_drop 30 = .ok (.iastore, 1) := by decide +kernel
theorem dX3_drop_31 : decode cX3_drop 31 = .ok (.iconst 1, 1) := by decide +kernel
theorem dX3_drop_32 : decode cX3_drop 32 = .ok (.ireturn, 1) := by decide +kernel
theorem dX3_kindOf_0 : decode cX3_kindOf 0 = .ok (.iconst 0, 1) := by decide +kernel
theorem dX3_kindOf_1 : decode cX3_kindOf 1 = .ok (.istore_n 3, 1) := by decide +kernel
theorem dX3_kindOf_2 : decode cX3_kindOf 2 = .ok (.iload_n 3, 1) := by decide +kernel
theorem dX3_kindOf_3 : decode cX3_kindOf 3 = .ok (.iload_n 2, 1) := by decide +kernel
theorem dX3_kindOf_4 : decode cX3_kindOf 4 = .ok (.if_icmp .ge 21, 3) := by decide +kernel
theorem dX3_kindOf_7 : decode cX3_kindOf 7 = .ok (.aload_n 0, 1) := by decide +kernel
theorem dX3_kindOf_8 : decode cX3_kindOf 8 = .ok (.getfield 43, 3) := by decide +kernel
theorem dX3_kindOf_11 : decode cX3_kindOf 11 = .ok (.iload_n 3, 1) := by decide +kernel
theorem dX3_kindOf_12 : decode cX3_kindOf 12 = .ok (.iaload, 1) := by decide +kernel
theorem dX3_kindOf_13 : decode cX3_kindOf 13 = .ok (.iload_n 1, 1) := by decide +kernel
theorem dX3_kindOf_14 : decode cX3_kindOf 14 = .ok (.if_icmp .ne 5, 3) := by decide +kernel
theorem dX3_kindOf_17 : decode cX3_kindOf 17 = .ok (.iload_n 3, 1) := by decide +kernel
theorem dX3_kindOf_18 : decode cX3_kindOf 18 = .ok (.ireturn, 1) := by decide +kernel
theorem dX3_kindOf_19 : decode cX3_kindOf 19 = .ok (.iinc 3 1, 3) := by decide +kernel
theorem dX3_kindOf_22 : decode cX3_kindOf 22 = .ok (.goto (-20), 3) := by decide +kernel
theorem dX3_kindOf_25 : decode cX3_kindOf 25 = .ok (.iload_n 2, 1) := by decide +kernel
theorem dX3_kindOf_26 : decode cX3_kindOf 26 = .ok (.ireturn, 1) := by decide +kernel
theorem dX3_mostAlike_0 : decode cX3_mostAlike 0 = .ok (.iconst 0, 1) := by decide +kernel
theorem dX3_mostAlike_1 : decode cX3_mostAlike 1 = .ok (.istore_n 2, 1) := by decide +kernel
theorem dX3_mostAlike_2 : decode cX3_mostAlike 2 = .ok (.iconst 0, 1) := by decide +kernel
theorem dX3_mostAlike_3 : decode cX3_mostAlike 3 = .ok (.istore_n 3, 1) := by decide +kernel
theorem dX3_mostAlike_4 : decode cX3_mostAlike 4 = .ok (.iconst 0, 1) := by decide +kernel
theorem dX3_mostAlike_5 : decode cX3_mostAlike 5 = .ok (.istore 4, 2) := by decide +kernel
theorem dX3_mostAlike_7 : decode cX3_mostAlike 7 = .ok (.iload 4, 2) := by decide +kernel
theorem dX3_mostAlike_9 : decode cX3_mostAlike 9 = .ok (.sipush 343, 3) := by decide +kernel
theorem dX3_mostAlike_12 : decode cX3_mostAlike 12 = .ok (.if_icmp .ge 104, 3) := by decide +kernel
theorem dX3_mostAlike_15 : decode cX3_mostAlike 15 = .ok (.aload_n 0, 1) := by decide +kernel
theorem dX3_mostAlike_16 : decode cX3_mostAlike 16 = .ok (.getfield 28, 3) := by decide +kernel
theorem dX3_mostAlike_19 : decode cX3_mostAlike 19 = .ok (.iload_n 1, 1) := by decide +kernel
theorem dX3_mostAlike_20 : decode cX3_mostAlike 20 = .ok (.sipush 343, 3) := by decide +kernel
theorem dX3_mostAlike_23 : decode cX3_mostAlike 23 = .ok (.imul, 1) := by decide +kernel
theorem dX3_mostAlike_24 : decode cX3_mostAlike 24 = .ok (.iload 4, 2) := by decide +kernel
theorem dX3_mostAlike_26 : decode cX3_mostAlike 26 = .ok (.iadd, 1) := by decide +kernel
theorem dX3_mostAlike_27 : decode cX3_mostAlike 27 = .ok (.iaload, 1) := by decide +kernel
theorem dX3_mostAlike_28 : decode cX3_mostAlike 28 = .ok (.istore 5, 2) := by decide +kernel
theorem dX3_mostAlike_30 : decode cX3_mostAlike 30 = .ok (.aload_n 0, 1) := by decide +kernel
theorem dX3_mostAlike_31 : decode cX3_mostAlike 31 = .ok (.getfield 31, 3) := by decide +kernel
theorem dX3_mostAlike_34 : decode cX3_mostAlike 34 = .ok (.iload 4, 2) := by decide +kernel
theorem dX3_mostAlike_36 : decode cX3_mostAlike 36 = .ok (.baload, 1) := by decide +kernel
theorem dX3_mostAlike_37 : decode cX3_mostAlike 37 = .ok (.ifCond .eq 13, 3) := by decide +kernel
theorem dX3_mostAlike_40 : decode cX3_mostAlike 40 = .ok (.aload_n 0, 1) := by decide +kernel
theorem dX3_mostAlike_41 : decode cX3_mostAlike 41 = .ok (.iload 5, 2) := by decide +kernel
theorem dX3_mostAlike_43 : decode cX3_mostAlike 43 = .ok (.iload_n 2, 1) := by decide +kernel
theorem dX3_mostAlike_44 : decode cX3_mostAlike 44 = .ok (.invokevirtual 109, 3) := by decide +kernel
theorem dX3_mostAlike_47 : decode cX3_mostAlike 47 = .ok (.goto 5, 3) := by decide +kernel
theorem dX3_mostAlike_50 : decode cX3_mostAlike 50 = .ok (.bipush 18, 2) := by decide +kernel
theorem dX3_mostAlike_52 : decode cX3_mostAlike 52 = .ok (.istore 6, 2) := by decide +kernel
theorem dX3_mostAlike_54 : decode cX3_mostAlike 54 = .ok (.iload 6, 2) := by decide +kernel
theorem dX3_mostAlike_56 : decode cX3_mostAlike 56 = .ok (.bipush 18, 2) := by decide +kernel
theorem dX3_mostAlike_58 : decode cX3_mostAlike 58 = .ok (.if_icmp .ge 52, 3) := by decide +kernel
theorem dX3_mostAlike_61 : decode cX3_mostAlike 61 = .ok (.iload 6, 2) := by decide +kernel
theorem dX3_mostAlike_63 : decode cX3_mostAlike 63 = .ok (.iload_n 2, 1) := by decide +kernel
theorem dX3_mostAlike_64 : decode cX3_mostAlike 64 = .ok (.if_icmp .ne 23, 3) := by decide +kernel
theorem dX3_mostAlike_67 : decode cX3_mostAlike 67 = .ok (.aload_n 0, 1) := by decide +kernel
theorem dX3_mostAlike_68 : decode cX3_mostAlike 68 = .ok (.getfield 43, 3) := by decide +kernel
theorem dX3_mostAlike_71 : decode cX3_mostAlike 71 = .ok (.iload 6, 2) := by decide +kernel
theorem dX3_mostAlike_73 : decode cX3_mostAlike 73 = .ok (.iload 5, 2) := by decide +kernel
theorem dX3_mostAlike_75 : decode cX3_mostAlike 75 = .ok (.iastore, 1) := by decide +kernel
theorem dX3_mostAlike_76 : decode cX3_mostAlike 76 = .ok (.aload_n 0, 1) := by decide +kernel
theorem dX3_mostAlike_77 : decode cX3_mostAlike 77 = .ok (.getfield 46, 3) := by decide +kernel
theorem dX3_mostAlike_80 : decode cX3_mostAlike 80 = .ok (.iload 6, 2) := by decide +kernel
theorem dX3_mostAlike_82 : decode cX3_mostAlike 82 = .ok (.iconst 0, 1) := by decide +kernel
theorem dX3_mostAlike_83 : decode cX3_mostAlike 83 = .ok (.iastore, 1) := by decide +kernel
theorem dX3_mostAlike_84 : decode cX3_mostAlike 84 = .ok (.iinc 2 1, 3) := by decide +kernel
theorem dX3_mostAlike_87 : decode cX3_mostAlike 87 = .ok (.aload_n 0, 1) := by decide +kernel
theorem dX3_mostAlike_88 : decode cX3_mostAlike 88 = .ok (.getfield 46, 3) := by decide +kernel
theorem dX3_mostAlike_91 : decode cX3_mostAlike 91 = .ok (.iload 6, 2) := by decide +kernel
theorem dX3_mostAlike_93 : decode cX3_mostAlike 93 = .ok (.dup2, 1) := by decide +kernel
theorem dX3_mostAlike_94 : decode cX3_mostAlike 94 = .ok (.iaload, 1) := by decide +kernel
theorem dX3_mostAlike_95 : decode cX3_mostAlike 95 = .ok (.iconst 1, 1) := by decide +kernel
theorem dX3_mostAlike_96 : decode cX3_mostAlike 96 = .ok (.iadd, 1) := by decide +kernel
theorem dX3_mostAlike_97 : decode cX3_mostAlike 97 = .ok (.iastore, 1) := by decide +kernel
theorem dX3_mostAlike_98 : decode cX3_mostAlike 98 = .ok (.iload_n 3, 1) := by decide +kernel
theorem dX3_mostAlike_99 : decode cX3_mostAlike 99 = .ok (.aload_n 0, 1) := by decide +kernel
theorem dX3_mostAlike_100 : decode cX3_mostAlike 100 = .ok (.getfield 46, 3) := by decide +kernel
theorem dX3_mostAlike_103 : decode cX3_mostAlike 103 = .ok (.iload 6, 2) := by decide +kernel
theorem dX3_mostAlike_105 : decode cX3_mostAlike 105 = .ok (.iaload, 1) := by decide +kernel
theorem dX3_mostAlike_106 : decode cX3_mostAlike 106 = .ok (.invokestatic 112, 3) := by decide +kernel
theorem dX3_mostAlike_109 : decode cX3_mostAlike 109 = .ok (.istore_n 3, 1) := by decide +kernel
theorem dX3_mostAlike_110 : decode cX3_mostAlike 110 = .ok (.iinc 4 1, 3) := by decide +kernel
theorem dX3_mostAlike_113 : decode cX3_mostAlike 113 = .ok (.goto (-106), 3) := by decide +kernel
theorem dX3_mostAlike_116 : decode cX3_mostAlike 116 = .ok (.iload_n 3, 1) := by decide +kernel
theorem dX3_mostAlike_117 : decode cX3_mostAlike 117 = .ok (.ireturn, 1) := by decide +kernel
theorem dX3_noteOf_0 : decode cX3_noteOf 0 = .ok (.iload_n 1, 1) := by decide +kernel
theorem dX3_noteOf_1 : decode cX3_noteOf 1 = .ok (.lookupswitch 43 #[(0, 27), (1, 35)], 27) := by decide +kernel
theorem dX3_noteOf_28 : decode cX3_noteOf 28 = .ok (.iload_n 0, 1) := by decide +kernel
theorem dX3_noteOf_29 : decode cX3_noteOf 29 = .ok (.bipush 49, 2) := by decide +kernel
theorem dX3_noteOf_31 : decode cX3_noteOf 31 = .ok (.idiv, 1) := by decide +kernel
theorem dX3_noteOf_32 : decode cX3_noteOf 32 = .ok (.bipush 7, 2) := by decide +kernel
theorem dX3_noteOf_34 : decode cX3_noteOf 34 = .ok (.irem, 1) := by decide +kernel
theorem dX3_noteOf_35 : decode cX3_noteOf 35 = .ok (.ireturn, 1) := by decide +kernel
theorem dX3_noteOf_36 : decode cX3_noteOf 36 = .ok (.iload_n 0, 1) := by decide +kernel
theorem dX3_noteOf_37 : decode cX3_noteOf 37 = .ok (.bipush 7, 2) := by decide +kernel
theorem dX3_noteOf_39 : decode cX3_noteOf 39 = .ok (.idiv, 1) := by decide +kernel
theorem dX3_noteOf_40 : decode cX3_noteOf 40 = .ok (.bipush 7, 2) := by decide +kernel
theorem dX3_noteOf_42 : decode cX3_noteOf 42 = .ok (.irem, 1) := by decide +kernel
theorem dX3_noteOf_43 : decode cX3_noteOf 43 = .ok (.ireturn, 1) := by decide +kernel
theorem dX3_noteOf_44 : decode cX3_noteOf 44 = .ok (.iload_n 0, 1) := by decide +kernel
theorem dX3_noteOf_45 : decode cX3_noteOf 45 = .ok (.bipush 7, 2) := by decide +kernel
theorem dX3_noteOf_47 : decode cX3_noteOf 47 = .ok (.irem, 1) := by decide +kernel
theorem dX3_noteOf_48 : decode cX3_noteOf 48 = .ok (.ireturn, 1) := by decide +kernel
theorem dX3_rowAt_0 : decode cX3_rowAt 0 = .ok (.aload_n 0, 1) := by decide +kernel
theorem dX3_rowAt_1 : decode cX3_rowAt 1 = .ok (.iload_n 1, 1) := by decide +kernel
theorem dX3_rowAt_2 : decode cX3_rowAt 2 = .ok (.iconst 0, 1) := by decide +kernel
theorem dX3_rowAt_3 : decode cX3_rowAt 3 = .ok (.iload_n 2, 1) := by decide +kernel
theorem dX3_rowAt_4 : decode cX3_rowAt 4 = .ok (.invokevirtual 101, 3) := by decide +kernel
theorem dX3_rowAt_7 : decode cX3_rowAt 7 = .ok (.istore_n 3, 1) := by decide +kernel
theorem dX3_rowAt_8 : decode cX3_rowAt 8 = .ok (.aload_n 0, 1) := by decide +kernel
theorem dX3_rowAt_9 : decode cX3_rowAt 9 = .ok (.iload_n 1, 1) := by decide +kernel
theorem dX3_rowAt_10 : decode cX3_rowAt 10 = .ok (.iconst 0, 1) := by decide +kernel
theorem dX3_rowAt_11 : decode cX3_rowAt 11 = .ok (.iload_n 2, 1) := by decide +kernel
theorem dX3_rowAt_12 : decode cX3_rowAt 12 = .ok (.iconst 1, 1) := by decide +kernel
theorem dX3_rowAt_13 : decode cX3_rowAt 13 = .ok (.iadd, 1) := by decide +kernel
theorem dX3_rowAt_14 : decode cX3_rowAt 14 = .ok (.invokevirtual 101, 3) := by decide +kernel
theorem dX3_rowAt_17 : decode cX3_rowAt 17 = .ok (.istore 4, 2) := by decide +kernel
theorem dX3_rowAt_19 : decode cX3_rowAt 19 = .ok (.iload_n 3, 1) := by decide +kernel
theorem dX3_rowAt_20 : decode cX3_rowAt 20 = .ok (.bipush 7, 2) := by decide +kernel
theorem dX3_rowAt_22 : decode cX3_rowAt 22 = .ok (.imul, 1) := by decide +kernel
theorem dX3_rowAt_23 : decode cX3_rowAt 23 = .ok (.iload 4, 2) := by decide +kernel
theorem dX3_rowAt_25 : decode cX3_rowAt 25 = .ok (.iadd, 1) := by decide +kernel
theorem dX3_rowAt_26 : decode cX3_rowAt 26 = .ok (.bipush 7, 2) := by decide +kernel
theorem dX3_rowAt_28 : decode cX3_rowAt 28 = .ok (.imul, 1) := by decide +kernel
theorem dX3_rowAt_29 : decode cX3_rowAt 29 = .ok (.aload_n 0, 1) := by decide +kernel
theorem dX3_rowAt_30 : decode cX3_rowAt 30 = .ok (.iload_n 1, 1) := by decide +kernel
theorem dX3_rowAt_31 : decode cX3_rowAt 31 = .ok (.iconst 0, 1) := by decide +kernel
theorem dX3_rowAt_32 : decode cX3_rowAt 32 = .ok (.iload_n 2, 1) := by decide +kernel
theorem dX3_rowAt_33 : decode cX3_rowAt 33 = .ok (.iconst 2, 1) := by decide +kernel
theorem dX3_rowAt_34 : decode cX3_rowAt 34 = .ok (.iadd, 1) := by decide +kernel
theorem dX3_rowAt_35 : decode cX3_rowAt 35 = .ok (.invokevirtual 101, 3) := by decide +kernel
theorem dX3_rowAt_38 : decode cX3_rowAt 38 = .ok (.iadd, 1) := by decide +kernel
theorem dX3_rowAt_39 : decode cX3_rowAt 39 = .ok (.ireturn, 1) := by decide +kernel
theorem dX3_sameBy_0 : decode cX3_sameBy 0 = .ok (.iload_n 1, 1) := by decide +kernel
theorem dX3_sameBy_1 : decode cX3_sameBy 1 = .ok (.iconst 0, 1) := by decide +kernel
theorem dX3_sameBy_2 : decode cX3_sameBy 2 = .ok (.invokestatic 105, 3) := by decide +kernel
theorem dX3_sameBy_5 : decode cX3_sameBy 5 = .ok (.istore_n 2, 1) := by decide +kernel
theorem dX3_sameBy_6 : decode cX3_sameBy 6 = .ok (.iload_n 1, 1) := by decide +kernel
theorem dX3_sameBy_7 : decode cX3_sameBy 7 = .ok (.iconst 1, 1) := by decide +kernel
theorem dX3_sameBy_8 : decode cX3_sameBy 8 = .ok (.invokestatic 105, 3) := by decide +kernel
theorem dX3_sameBy_11 : decode cX3_sameBy 11 = .ok (.istore_n 3, 1) := by decide +kernel
theorem dX3_sameBy_12 : decode cX3_sameBy 12 = .ok (.iload_n 1, 1) := by decide +kernel
theorem dX3_sameBy_13 : decode cX3_sameBy 13 = .ok (.iconst 2, 1) := by decide +kernel
theorem dX3_sameBy_14 : decode cX3_sameBy 14 = .ok (.invokestatic 105, 3) := by decide +kernel
theorem dX3_sameBy_17 : decode cX3_sameBy 17 = .ok (.istore 4, 2) := by decide +kernel
theorem dX3_sameBy_19 : decode cX3_sameBy 19 = .ok (.aload_n 0, 1) := by decide +kernel
theorem dX3_sameBy_20 : decode cX3_sameBy 20 = .ok (.getfield 34, 3) := by decide +kernel
theorem dX3_sameBy_23 : decode cX3_sameBy 23 = .ok (.iload_n 2, 1) := by decide +kernel
theorem dX3_sameBy_24 : decode cX3_sameBy 24 = .ok (.iaload, 1) := by decide +kernel
theorem dX3_sameBy_25 : decode cX3_sameBy 25 = .ok (.istore 5, 2) := by decide +kernel
theorem dX3_sameBy_27 : decode cX3_sameBy 27 = .ok (.iload_n 3, 1) := by decide +kernel
theorem dX3_sameBy_28 : decode cX3_sameBy 28 = .ok (.iload_n 2, 1) := by decide +kernel
theorem dX3_sameBy_29 : decode cX3_sameBy 29 = .ok (.if_icmp .eq 14, 3) := by decide +kernel
theorem dX3_sameBy_32 : decode cX3_sameBy 32 = .ok (.iload 5, 2) := by decide +kernel
theorem dX3_sameBy_34 : decode cX3_sameBy 34 = .ok (.aload_n 0, 1) := by decide +kernel
theorem dX3_sameBy_35 : decode cX3_sameBy 35 = .ok (.getfield 34, 3) := by decide +kernel
theorem dX3_sameBy_38 : decode cX3_sameBy 38 = .ok (.iload_n 3, 1) := by decide +kernel
theorem dX3_sameBy_39 : decode cX3_sameBy 39 = .ok (.iaload, 1) := by decide +kernel
theorem dX3_sameBy_40 : decode cX3_sameBy 40 = .ok (.iadd, 1) := by decide +kernel
theorem dX3_sameBy_41 : decode cX3_sameBy 41 = .ok (.istore 5, 2) := by decide +kernel
theorem dX3_sameBy_43 : decode cX3_sameBy 43 = .ok (.iload 4, 2) := by decide +kernel
theorem dX3_sameBy_45 : decode cX3_sameBy 45 = .ok (.iload_n 2, 1) := by decide +kernel
theorem dX3_sameBy_46 : decode cX3_sameBy 46 = .ok (.if_icmp .eq 21, 3) := by decide +kernel
theorem dX3_sameBy_49 : decode cX3_sameBy 49 = .ok (.iload 4, 2) := by decide +kernel
theorem dX3_sameBy_51 : decode cX3_sameBy 51 = .ok (.iload_n 3, 1) := by decide +kernel
theorem dX3_sameBy_52 : decode cX3_sameBy 52 = .ok (.if_icmp .eq 15, 3) := by decide +kernel

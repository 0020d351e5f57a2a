theorem dX1_addFact_0 : decode cX1_addFact 0 = .ok (.aload_n 0, 1) := by decide +kernel
theorem dX1_addFact_1 : decode cX1_addFact 1 = .ok (.sipush 10000, 3) := by decide +kernel
theorem dX1_addFact_4 : decode cX1_addFact 4 = .ok (.iload_n 1, 1) := by decide +kernel
theorem dX1_addFact_5 : decode cX1_addFact 5 = .ok (.iadd, 1) := by decide +kernel
theorem dX1_addFact_6 : decode cX1_addFact 6 = .ok (.bipush 112, 2) := by decide +kernel
theorem dX1_addFact_8 : decode cX1_addFact 8 = .ok (.isub, 1) := by decide +kernel
theorem dX1_addFact_9 : decode cX1_addFact 9 = .ok (.invokevirtual 22, 3) := by decide +kernel
theorem dX1_addFact_12 : decode cX1_addFact 12 = .ok (.return_, 1) := by decide +kernel
theorem dX1_addNumber_0 : decode cX1_addNumber 0 = .ok (.aload_n 0, 1) := by decide +kernel
theorem dX1_addNumber_1 : decode cX1_addNumber 1 = .ok (.iload_n 1, 1) := by decide +kernel
theorem dX1_addNumber_2 : decode cX1_addNumber 2 = .ok (.invokevirtual 22, 3) := by decide +kernel
theorem dX1_addNumber_5 : decode cX1_addNumber 5 = .ok (.return_, 1) := by decide +kernel
theorem dX1_addOperator_0 : decode cX1_addOperator 0 = .ok (.aload_n 0, 1) := by decide +kernel
theorem dX1_addOperator_1 : decode cX1_addOperator 1 = .ok (.sipush 20000, 3) := by decide +kernel
theorem dX1_addOperator_4 : decode cX1_addOperator 4 = .ok (.iload_n 1, 1) := by decide +kernel
theorem dX1_addOperator_5 : decode cX1_addOperator 5 = .ok (.iadd, 1) := by decide +kernel
theorem dX1_addOperator_6 : decode cX1_addOperator 6 = .ok (.invokevirtual 22, 3) := by decide +kernel
theorem dX1_addOperator_9 : decode cX1_addOperator 9 = .ok (.return_, 1) := by decide +kernel
theorem dX1_addStep_0 : decode cX1_addStep 0 = .ok (.aload_n 0, 1) := by decide +kernel
theorem dX1_addStep_1 : decode cX1_addStep 1 = .ok (.getfield 18, 3) := by decide +kernel
theorem dX1_addStep_4 : decode cX1_addStep 4 = .ok (.sipush 300, 3) := by decide +kernel
theorem dX1_addStep_7 : decode cX1_addStep 7 = .ok (.if_icmp .ge 23, 3) := by decide +kernel
theorem dX1_addStep_10 : decode cX1_addStep 10 = .ok (.aload_n 0, 1) := by decide +kernel
theorem dX1_addStep_11 : decode cX1_addStep 11 = .ok (.getfield 11, 3) := by decide +kernel
theorem dX1_addStep_14 : decode cX1_addStep 14 = .ok (.aload_n 0, 1) := by decide +kernel
theorem dX1_addStep_15 : decode cX1_addStep 15 = .ok (.getfield 18, 3) := by decide +kernel
theorem dX1_addStep_18 : decode cX1_addStep 18 = .ok (.iload_n 1, 1) := by decide +kernel
theorem dX1_addStep_19 : decode cX1_addStep 19 = .ok (.iastore, 1) := by decide +kernel
theorem dX1_addStep_20 : decode cX1_addStep 20 = .ok (.aload_n 0, 1) := by decide +kernel
theorem dX1_addStep_21 : decode cX1_addStep 21 = .ok (.dup, 1) := by decide +kernel
theorem dX1_addStep_22 : decode cX1_addStep 22 = .ok (.getfield 18, 3) := by decide +kernel
theorem dX1_addStep_25 : decode cX1_addStep 25 = .ok (.iconst 1, 1) := by decide +kernel
theorem dX1_addStep_26 : decode cX1_addStep 26 = .ok (.iadd, 1) := by decide +kernel
theorem dX1_addStep_27 : decode cX1_addStep 27 = .ok (.putfield 18, 3) := by decide +kernel
theorem dX1_addStep_30 : decode cX1_addStep 30 = .ok (.return_, 1) := by decide +kernel
theorem dX1_empty_0 : decode cX1_empty 0 = .ok (.aload_n 0, 1) := by decide +kernel
theorem dX1_empty_1 : decode cX1_empty 1 = .ok (.iconst 0, 1) := by decide +kernel
theorem dX1_empty_2 : decode cX1_empty 2 = .ok (.putfield 18, 3) := by decide +kernel
theorem dX1_empty_5 : decode cX1_empty 5 = .ok (.return_, 1) := by decide +kernel
theorem dX1_init_0 : decode cX1_init 0 = .ok (.aload_n 0, 1) := by decide +kernel
theorem dX1_init_1 : decode cX1_init 1 = .ok (.invokespecial 3, 3) := by decide +kernel
theorem dX1_init_4 : decode cX1_init 4 = .ok (.aload_n 0, 1) := by decide +kernel
theorem dX1_init_5 : decode cX1_init 5 = .ok (.sipush 300, 3) := by decide +kernel
theorem dX1_init_8 : decode cX1_init 8 = .ok (.newarray .int, 2) := by decide +kernel
theorem dX1_init_10 : decode cX1_init 10 = .ok (.putfield 11, 3) := by decide +kernel
theorem dX1_init_13 : decode cX1_init 13 = .ok (.aload_n 0, 1) := by decide +kernel
theorem dX1_init_14 : decode cX1_init 14 = .ok (.bipush 30, 2) := by decide +kernel
theorem dX1_init_16 : decode cX1_init 16 = .ok (.newarray .int, 2) := by decide +kernel
theorem dX1_init_18 : decode cX1_init 18 = .ok (.putfield 15, 3) := by decide +kernel
theorem dX1_init_21 : decode cX1_init 21 = .ok (.return_, 1) := by decide +kernel

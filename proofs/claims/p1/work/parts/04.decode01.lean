theorem dX0_begin_0 : decode cX0_begin 0 = .ok (.aload_n 0, 1) := by decide +kernel
theorem dX0_begin_1 : decode cX0_begin 1 = .ok (.iconst 0, 1) := by decide +kernel
theorem dX0_begin_2 : decode cX0_begin 2 = .ok (.putfield 17, 3) := by decide +kernel
theorem dX0_begin_5 : decode cX0_begin 5 = .ok (.aload_n 0, 1) := by decide +kernel
theorem dX0_begin_6 : decode cX0_begin 6 = .ok (.iconst 0, 1) := by decide +kernel
theorem dX0_begin_7 : decode cX0_begin 7 = .ok (.putfield 21, 3) := by decide +kernel
theorem dX0_begin_10 : decode cX0_begin 10 = .ok (.aload_n 1, 1) := by decide +kernel
theorem dX0_begin_11 : decode cX0_begin 11 = .ok (.aload_n 0, 1) := by decide +kernel
theorem dX0_begin_12 : decode cX0_begin 12 = .ok (.getfield 11, 3) := by decide +kernel
theorem dX0_begin_15 : decode cX0_begin 15 = .ok (.iconst 0, 1) := by decide +kernel
theorem dX0_begin_16 : decode cX0_begin 16 = .ok (.invokevirtual 24, 3) := by decide +kernel
theorem dX0_begin_19 : decode cX0_begin 19 = .ok (.return_, 1) := by decide +kernel
theorem dX0_init_0 : decode cX0_init 0 = .ok (.aload_n 0, 1) := by decide +kernel
theorem dX0_init_1 : decode cX0_init 1 = .ok (.invokespecial 3, 3) := by decide +kernel
theorem dX0_init_4 : decode cX0_init 4 = .ok (.aload_n 0, 1) := by decide +kernel
theorem dX0_init_5 : decode cX0_init 5 = .ok (.sipush 1066, 3) := by decide +kernel
theorem dX0_init_8 : decode cX0_init 8 = .ok (.newarray .int, 2) := by decide +kernel
theorem dX0_init_10 : decode cX0_init 10 = .ok (.putfield 11, 3) := by decide +kernel
theorem dX0_init_13 : decode cX0_init 13 = .ok (.return_, 1) := by decide +kernel
theorem dX0_keep_0 : decode cX0_keep 0 = .ok (.aload_n 0, 1) := by decide +kernel
theorem dX0_keep_1 : decode cX0_keep 1 = .ok (.iconst 0, 1) := by decide +kernel
theorem dX0_keep_2 : decode cX0_keep 2 = .ok (.putfield 21, 3) := by decide +kernel
theorem dX0_keep_5 : decode cX0_keep 5 = .ok (.aload_n 0, 1) := by decide +kernel
theorem dX0_keep_6 : decode cX0_keep 6 = .ok (.getfield 17, 3) := by decide +kernel
theorem dX0_keep_9 : decode cX0_keep 9 = .ok (.bipush 40, 2) := by decide +kernel
theorem dX0_keep_11 : decode cX0_keep 11 = .ok (.if_icmp .ge 16, 3) := by decide +kernel
theorem dX0_keep_14 : decode cX0_keep 14 = .ok (.aload_n 0, 1) := by decide +kernel
theorem dX0_keep_15 : decode cX0_keep 15 = .ok (.dup, 1) := by decide +kernel
theorem dX0_keep_16 : decode cX0_keep 16 = .ok (.getfield 17, 3) := by decide +kernel
theorem dX0_keep_19 : decode cX0_keep 19 = .ok (.iconst 1, 1) := by decide +kernel
theorem dX0_keep_20 : decode cX0_keep 20 = .ok (.iadd, 1) := by decide +kernel
theorem dX0_keep_21 : decode cX0_keep 21 = .ok (.putfield 17, 3) := by decide +kernel
theorem dX0_keep_24 : decode cX0_keep 24 = .ok (.goto 20, 3) := by decide +kernel
theorem dX0_keep_44 : decode cX0_keep 44 = .ok (.aload_n 1, 1) := by decide +kernel
theorem dX0_keep_45 : decode cX0_keep 45 = .ok (.aload_n 0, 1) := by decide +kernel
theorem dX0_keep_46 : decode cX0_keep 46 = .ok (.getfield 11, 3) := by decide +kernel
theorem dX0_keep_49 : decode cX0_keep 49 = .ok (.aload_n 0, 1) := by decide +kernel
theorem dX0_keep_50 : decode cX0_keep 50 = .ok (.getfield 17, 3) := by decide +kernel
theorem dX0_keep_53 : decode cX0_keep 53 = .ok (.invokevirtual 24, 3) := by decide +kernel
theorem dX0_keep_56 : decode cX0_keep 56 = .ok (.return_, 1) := by decide +kernel
theorem dX0_stepBack_0 : decode cX0_stepBack 0 = .ok (.aload_n 0, 1) := by decide +kernel
theorem dX0_stepBack_1 : decode cX0_stepBack 1 = .ok (.getfield 17, 3) := by decide +kernel
theorem dX0_stepBack_4 : decode cX0_stepBack 4 = .ok (.ifCond .ne 5, 3) := by decide +kernel
theorem dX0_stepBack_7 : decode cX0_stepBack 7 = .ok (.iconst 0, 1) := by decide +kernel
theorem dX0_stepBack_8 : decode cX0_stepBack 8 = .ok (.ireturn, 1) := by decide +kernel
theorem dX0_stepOn_0 : decode cX0_stepOn 0 = .ok (.aload_n 0, 1) := by decide +kernel
theorem dX0_stepOn_1 : decode cX0_stepOn 1 = .ok (.getfield 21, 3) := by decide +kernel
theorem dX0_stepOn_4 : decode cX0_stepOn 4 = .ok (.ifCond .ne 5, 3) := by decide +kernel
theorem dX0_stepOn_7 : decode cX0_stepOn 7 = .ok (.iconst 0, 1) := by decide +kernel
theorem dX0_stepOn_8 : decode cX0_stepOn 8 = .ok (.ireturn, 1) := by decide +kernel

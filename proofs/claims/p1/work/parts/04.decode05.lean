theorem dX5_handOver_0 : decode cX5_handOver 0 = .ok (.aload_n 0, 1) := by decide +kernel
theorem dX5_handOver_1 : decode cX5_handOver 1 = .ok (.getfield 25, 3) := by decide +kernel
theorem dX5_handOver_4 : decode cX5_handOver 4 = .ok (.astore_n 2, 1) := by decide +kernel
theorem dX5_handOver_5 : decode cX5_handOver 5 = .ok (.aload_n 0, 1) := by decide +kernel
theorem dX5_handOver_6 : decode cX5_handOver 6 = .ok (.aload_n 1, 1) := by decide +kernel
theorem dX5_handOver_7 : decode cX5_handOver 7 = .ok (.putfield 25, 3) := by decide +kernel
theorem dX5_handOver_10 : decode cX5_handOver 10 = .ok (.aload_n 2, 1) := by decide +kernel
theorem dX5_handOver_11 : decode cX5_handOver 11 = .ok (.areturn, 1) := by decide +kernel
theorem dX5_init_0 : decode cX5_init 0 = .ok (.aload_n 0, 1) := by decide +kernel
theorem dX5_init_1 : decode cX5_init 1 = .ok (.invokespecial 3, 3) := by decide +kernel
theorem dX5_init_4 : decode cX5_init 4 = .ok (.aload_n 0, 1) := by decide +kernel
theorem dX5_init_5 : decode cX5_init 5 = .ok (.iconst (-1), 1) := by decide +kernel
theorem dX5_init_6 : decode cX5_init 6 = .ok (.putfield 9, 3) := by decide +kernel
theorem dX5_init_9 : decode cX5_init 9 = .ok (.aload_n 0, 1) := by decide +kernel
theorem dX5_init_10 : decode cX5_init 10 = .ok (.new 15, 3) := by decide +kernel
theorem dX5_init_13 : decode cX5_init 13 = .ok (.dup, 1) := by decide +kernel
theorem dX5_init_14 : decode cX5_init 14 = .ok (.invokespecial 17, 3) := by decide +kernel
theorem dX5_init_17 : decode cX5_init 17 = .ok (.putfield 18, 3) := by decide +kernel
theorem dX5_init_20 : decode cX5_init 20 = .ok (.aload_n 0, 1) := by decide +kernel
theorem dX5_init_21 : decode cX5_init 21 = .ok (.new 22, 3) := by decide +kernel
theorem dX5_init_24 : decode cX5_init 24 = .ok (.dup, 1) := by decide +kernel
theorem dX5_init_25 : decode cX5_init 25 = .ok (.invokespecial 24, 3) := by decide +kernel
theorem dX5_init_28 : decode cX5_init 28 = .ok (.putfield 25, 3) := by decide +kernel
theorem dX5_init_31 : decode cX5_init 31 = .ok (.aload_n 0, 1) := by decide +kernel
theorem dX5_init_32 : decode cX5_init 32 = .ok (.iconst 5, 1) := by decide +kernel
theorem dX5_init_33 : decode cX5_init 33 = .ok (.newarray .long, 2) := by decide +kernel
theorem dX5_init_35 : decode cX5_init 35 = .ok (.putfield 29, 3) := by decide +kernel
theorem dX5_init_38 : decode cX5_init 38 = .ok (.aload_n 0, 1) := by decide +kernel
theorem dX5_init_39 : decode cX5_init 39 = .ok (.iconst 4, 1) := by decide +kernel
theorem dX5_init_40 : decode cX5_init 40 = .ok (.newarray .long, 2) := by decide +kernel
theorem dX5_init_42 : decode cX5_init 42 = .ok (.putfield 33, 3) := by decide +kernel
theorem dX5_init_45 : decode cX5_init 45 = .ok (.return_, 1) := by decide +kernel
theorem dX5_read_0 : decode cX5_read 0 = .ok (.aload_n 0, 1) := by decide +kernel
theorem dX5_read_1 : decode cX5_read 1 = .ok (.getfield 18, 3) := by decide +kernel
theorem dX5_read_4 : decode cX5_read 4 = .ok (.aload_n 1, 1) := by decide +kernel
theorem dX5_read_5 : decode cX5_read 5 = .ok (.iload_n 2, 1) := by decide +kernel
theorem dX5_read_6 : decode cX5_read 6 = .ok (.invokevirtual 36, 3) := by decide +kernel
theorem dX5_read_9 : decode cX5_read 9 = .ok (.aload_n 0, 1) := by decide +kernel
theorem dX5_read_10 : decode cX5_read 10 = .ok (.getfield 25, 3) := by decide +kernel
theorem dX5_read_13 : decode cX5_read 13 = .ok (.invokevirtual 40, 3) := by decide +kernel
theorem dX5_read_16 : decode cX5_read 16 = .ok (.aload_n 0, 1) := by decide +kernel
theorem dX5_read_17 : decode cX5_read 17 = .ok (.iconst 0, 1) := by decide +kernel
theorem dX5_read_18 : decode cX5_read 18 = .ok (.putfield 43, 3) := by decide +kernel
theorem dX5_read_21 : decode cX5_read 21 = .ok (.aload_n 0, 1) := by decide +kernel
theorem dX5_read_22 : decode cX5_read 22 = .ok (.iconst (-1), 1) := by decide +kernel
theorem dX5_read_23 : decode cX5_read 23 = .ok (.putfield 9, 3) := by decide +kernel
theorem dX5_read_26 : decode cX5_read 26 = .ok (.aload_n 0, 1) := by decide +kernel
theorem dX5_read_27 : decode cX5_read 27 = .ok (.iconst 0, 1) := by decide +kernel
theorem dX5_read_28 : decode cX5_read 28 = .ok (.putfield 46, 3) := by decide +kernel
theorem dX5_read_31 : decode cX5_read 31 = .ok (.aload_n 0, 1) := by decide +kernel
theorem dX5_read_32 : decode cX5_read 32 = .ok (.iconst 0, 1) := by decide +kernel
theorem dX5_read_33 : decode cX5_read 33 = .ok (.putfield 50, 3) := by decide +kernel
theorem dX5_read_36 : decode cX5_read 36 = .ok (.aload_n 0, 1) := by decide +kernel
theorem dX5_read_37 : decode cX5_read 37 = .ok (.iconst 0, 1) := by decide +kernel
theorem dX5_read_38 : decode cX5_read 38 = .ok (.putfield 53, 3) := by decide +kernel
theorem dX5_read_41 : decode cX5_read 41 = .ok (.aload_n 0, 1) := by decide +kernel
theorem dX5_read_42 : decode cX5_read 42 = .ok (.iconst 0, 1) := by decide +kernel
theorem dX5_read_43 : decode cX5_read 43 = .ok (.putfield 56, 3) := by decide +kernel
theorem dX5_read_46 : decode cX5_read 46 = .ok (.aload_n 0, 1) := by decide +kernel
theorem dX5_read_47 : decode cX5_read 47 = .ok (.iconst 0, 1) := by decide +kernel
theorem dX5_read_48 : decode cX5_read 48 = .ok (.putfield 59, 3) := by decide +kernel
theorem dX5_read_51 : decode cX5_read 51 = .ok (.aload_n 0, 1) := by decide +kernel
theorem dX5_read_52 : decode cX5_read 52 = .ok (.aload_n 0, 1) := by decide +kernel
theorem dX5_read_53 : decode cX5_read 53 = .ok (.getfield 18, 3) := by decide +kernel
theorem dX5_read_56 : decode cX5_read 56 = .ok (.getfield 62, 3) := by decide +kernel
theorem dX5_read_59 : decode cX5_read 59 = .ok (.iconst 0, 1) := by decide +kernel
theorem dX5_read_60 : decode cX5_read 60 = .ok (.iaload, 1) := by decide +kernel
theorem dX5_read_61 : decode cX5_read 61 = .ok (.putfield 66, 3) := by decide +kernel
theorem dX5_read_64 : decode cX5_read 64 = .ok (.iconst 0, 1) := by decide +kernel
theorem dX5_read_65 : decode cX5_read 65 = .ok (.istore_n 3, 1) := by decide +kernel
theorem dX5_read_66 : decode cX5_read 66 = .ok (.iload_n 3, 1) := by decide +kernel
theorem dX5_read_67 : decode cX5_read 67 = .ok (.sipush 1600, 3) := by decide +kernel
theorem dX5_read_70 : decode cX5_read 70 = .ok (.if_icmp .ge 28, 3) := by decide +kernel
theorem dX5_read_73 : decode cX5_read 73 = .ok (.aload_n 0, 1) := by decide +kernel
theorem dX5_read_74 : decode cX5_read 74 = .ok (.getfield 43, 3) := by decide +kernel
theorem dX5_read_77 : decode cX5_read 77 = .ok (.ifCond .ne 21, 3) := by decide +kernel
theorem dX5_read_80 : decode cX5_read 80 = .ok (.aload_n 0, 1) := by decide +kernel
theorem dX5_read_81 : decode cX5_read 81 = .ok (.getfield 66, 3) := by decide +kernel
theorem dX5_read_84 : decode cX5_read 84 = .ok (.iconst 1, 1) := by decide +kernel
theorem dX5_read_85 : decode cX5_read 85 = .ok (.if_icmp .eq 13, 3) := by decide +kernel
theorem dX5_read_98 : decode cX5_read 98 = .ok (.aload_n 0, 1) := by decide +kernel
theorem dX5_read_99 : decode cX5_read 99 = .ok (.getfield 43, 3) := by decide +kernel
theorem dX5_read_102 : decode cX5_read 102 = .ok (.ifCond .ne 7, 3) := by decide +kernel
theorem dX5_read_105 : decode cX5_read 105 = .ok (.iconst 1, 1) := by decide +kernel
theorem dX5_read_106 : decode cX5_read 106 = .ok (.goto 4, 3) := by decide +kernel
theorem dX5_read_110 : decode cX5_read 110 = .ok (.ireturn, 1) := by decide +kernel

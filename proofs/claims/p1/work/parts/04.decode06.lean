theorem dX6_init_0 : decode cX6_init 0 = .ok (.aload_n 0, 1) := by decide +kernel
theorem dX6_init_1 : decode cX6_init 1 = .ok (.invokespecial 3, 3) := by decide +kernel
theorem dX6_init_4 : decode cX6_init 4 = .ok (.aload_n 0, 1) := by decide +kernel
theorem dX6_init_5 : decode cX6_init 5 = .ok (.sipush 1601, 3) := by decide +kernel
theorem dX6_init_8 : decode cX6_init 8 = .ok (.newarray .int, 2) := by decide +kernel
theorem dX6_init_10 : decode cX6_init 10 = .ok (.putfield 9, 3) := by decide +kernel
theorem dX6_init_13 : decode cX6_init 13 = .ok (.aload_n 0, 1) := by decide +kernel
theorem dX6_init_14 : decode cX6_init 14 = .ok (.sipush 1601, 3) := by decide +kernel
theorem dX6_init_17 : decode cX6_init 17 = .ok (.newarray .int, 2) := by decide +kernel
theorem dX6_init_19 : decode cX6_init 19 = .ok (.putfield 15, 3) := by decide +kernel
theorem dX6_init_22 : decode cX6_init 22 = .ok (.aload_n 0, 1) := by decide +kernel
theorem dX6_init_23 : decode cX6_init 23 = .ok (.sipush 1601, 3) := by decide +kernel
theorem dX6_init_26 : decode cX6_init 26 = .ok (.newarray .long, 2) := by decide +kernel
theorem dX6_init_28 : decode cX6_init 28 = .ok (.putfield 18, 3) := by decide +kernel
theorem dX6_init_31 : decode cX6_init 31 = .ok (.return_, 1) := by decide +kernel
theorem dX6_scan_0 : decode cX6_scan 0 = .ok (.aload_n 0, 1) := by decide +kernel
theorem dX6_scan_1 : decode cX6_scan 1 = .ok (.iconst 0, 1) := by decide +kernel
theorem dX6_scan_2 : decode cX6_scan 2 = .ok (.putfield 22, 3) := by decide +kernel
theorem dX6_scan_5 : decode cX6_scan 5 = .ok (.aload_n 0, 1) := by decide +kernel
theorem dX6_scan_6 : decode cX6_scan 6 = .ok (.iconst 0, 1) := by decide +kernel
theorem dX6_scan_7 : decode cX6_scan 7 = .ok (.putfield 26, 3) := by decide +kernel
theorem dX6_scan_10 : decode cX6_scan 10 = .ok (.iconst 3, 1) := by decide +kernel
theorem dX6_scan_11 : decode cX6_scan 11 = .ok (.istore_n 3, 1) := by decide +kernel
theorem dX6_scan_12 : decode cX6_scan 12 = .ok (.iconst 0, 1) := by decide +kernel
theorem dX6_scan_13 : decode cX6_scan 13 = .ok (.istore 4, 2) := by decide +kernel
theorem dX6_scan_15 : decode cX6_scan 15 = .ok (.iload 4, 2) := by decide +kernel
theorem dX6_scan_17 : decode cX6_scan 17 = .ok (.sipush 1600, 3) := by decide +kernel
theorem dX6_scan_20 : decode cX6_scan 20 = .ok (.if_icmp .gt 46, 3) := by decide +kernel
theorem dX6_scan_23 : decode cX6_scan 23 = .ok (.iload_n 3, 1) := by decide +kernel
theorem dX6_scan_24 : decode cX6_scan 24 = .ok (.iconst 1, 1) := by decide +kernel
theorem dX6_scan_25 : decode cX6_scan 25 = .ok (.if_icmp .eq 41, 3) := by decide +kernel
theorem dX6_scan_28 : decode cX6_scan 28 = .ok (.iload_n 3, 1) := by decide +kernel
theorem dX6_scan_29 : decode cX6_scan 29 = .ok (.ifCond .eq 37, 3) := by decide +kernel
theorem dX6_scan_32 : decode cX6_scan 32 = .ok (.aload_n 0, 1) := by decide +kernel
theorem dX6_scan_33 : decode cX6_scan 33 = .ok (.aload_n 1, 1) := by decide +kernel
theorem dX6_scan_34 : decode cX6_scan 34 = .ok (.iload_n 2, 1) := by decide +kernel
theorem dX6_scan_35 : decode cX6_scan 35 = .ok (.aload_n 1, 1) := by decide +kernel
theorem dX6_scan_36 : decode cX6_scan 36 = .ok (.arraylength, 1) := by decide +kernel
theorem dX6_scan_37 : decode cX6_scan 37 = .ok (.invokestatic 31, 3) := by decide +kernel
theorem dX6_scan_40 : decode cX6_scan 40 = .ok (.invokevirtual 37, 3) := by decide +kernel
theorem dX6_scan_43 : decode cX6_scan 43 = .ok (.istore_n 3, 1) := by decide +kernel
theorem dX6_scan_44 : decode cX6_scan 44 = .ok (.aload_n 0, 1) := by decide +kernel
theorem dX6_scan_45 : decode cX6_scan 45 = .ok (.getfield 9, 3) := by decide +kernel
theorem dX6_scan_48 : decode cX6_scan 48 = .ok (.iload 4, 2) := by decide +kernel
theorem dX6_scan_50 : decode cX6_scan 50 = .ok (.iload_n 3, 1) := by decide +kernel
theorem dX6_scan_51 : decode cX6_scan 51 = .ok (.iastore, 1) := by decide +kernel
theorem dX6_scan_52 : decode cX6_scan 52 = .ok (.aload_n 0, 1) := by decide +kernel
theorem dX6_scan_53 : decode cX6_scan 53 = .ok (.iload 4, 2) := by decide +kernel
theorem dX6_scan_55 : decode cX6_scan 55 = .ok (.iconst 1, 1) := by decide +kernel
theorem dX6_scan_56 : decode cX6_scan 56 = .ok (.iadd, 1) := by decide +kernel
theorem dX6_scan_57 : decode cX6_scan 57 = .ok (.putfield 22, 3) := by decide +kernel
theorem dX6_scan_60 : decode cX6_scan 60 = .ok (.iinc 4 1, 3) := by decide +kernel
theorem dX6_scan_63 : decode cX6_scan 63 = .ok (.goto (-48), 3) := by decide +kernel
theorem dX6_scan_66 : decode cX6_scan 66 = .ok (.return_, 1) := by decide +kernel
theorem dX6_scanToken_0 : decode cX6_scanToken 0 = .ok (.iconst 0, 1) := by decide +kernel
theorem dX6_scanToken_1 : decode cX6_scanToken 1 = .ok (.istore_n 3, 1) := by decide +kernel
theorem dX6_scanToken_2 : decode cX6_scanToken 2 = .ok (.iload_n 3, 1) := by decide +kernel
theorem dX6_scanToken_3 : decode cX6_scanToken 3 = .ok (.sipush 1600, 3) := by decide +kernel
theorem dX6_scanToken_6 : decode cX6_scanToken 6 = .ok (.if_icmp .ge 49, 3) := by decide +kernel
theorem dX6_scanToken_9 : decode cX6_scanToken 9 = .ok (.aload_n 0, 1) := by decide +kernel
theorem dX6_scanToken_10 : decode cX6_scanToken 10 = .ok (.getfield 26, 3) := by decide +kernel
theorem dX6_scanToken_13 : decode cX6_scanToken 13 = .ok (.iload_n 2, 1) := by decide +kernel
theorem dX6_scanToken_14 : decode cX6_scanToken 14 = .ok (.if_icmp .ge 41, 3) := by decide +kernel
theorem dX6_scanToken_55 : decode cX6_scanToken 55 = .ok (.aload_n 0, 1) := by decide +kernel
theorem dX6_scanToken_56 : decode cX6_scanToken 56 = .ok (.getfield 15, 3) := by decide +kernel
theorem dX6_scanToken_59 : decode cX6_scanToken 59 = .ok (.aload_n 0, 1) := by decide +kernel
theorem dX6_scanToken_60 : decode cX6_scanToken 60 = .ok (.getfield 22, 3) := by decide +kernel
theorem dX6_scanToken_63 : decode cX6_scanToken 63 = .ok (.aload_n 0, 1) := by decide +kernel
theorem dX6_scanToken_64 : decode cX6_scanToken 64 = .ok (.getfield 26, 3) := by decide +kernel
theorem dX6_scanToken_67 : decode cX6_scanToken 67 = .ok (.iastore, 1) := by decide +kernel
theorem dX6_scanToken_68 : decode cX6_scanToken 68 = .ok (.aload_n 0, 1) := by decide +kernel
theorem dX6_scanToken_69 : decode cX6_scanToken 69 = .ok (.getfield 26, 3) := by decide +kernel
theorem dX6_scanToken_72 : decode cX6_scanToken 72 = .ok (.iload_n 2, 1) := by decide +kernel
theorem dX6_scanToken_73 : decode cX6_scanToken 73 = .ok (.if_icmp .lt 5, 3) := by decide +kernel
theorem dX6_scanToken_76 : decode cX6_scanToken 76 = .ok (.iconst 1, 1) := by decide +kernel
theorem dX6_scanToken_77 : decode cX6_scanToken 77 = .ok (.ireturn, 1) := by decide +kernel

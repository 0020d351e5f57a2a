theorem dX8_week_17 : decode cX8_week 17 = .ok (.getfield 30, 3) := by decide +kernel
theorem dX8_week_20 : decode cX8_week 20 = .ok (.aload_n 0, 1) := by decide +kernel
theorem dX8_week_21 : decode cX8_week 21 = .ok (.getfield 23, 3) := by decide +kernel
theorem dX8_week_24 : decode cX8_week 24 = .ok (.getfield 171, 3) := by decide +kernel
theorem dX8_week_27 : decode cX8_week 27 = .ok (.invokevirtual 174, 3) := by decide +kernel
theorem dX8_week_30 : decode cX8_week 30 = .ok (.istore_n 1, 1) := by decide +kernel
theorem dX8_week_31 : decode cX8_week 31 = .ok (.aload_n 0, 1) := by decide +kernel
theorem dX8_week_32 : decode cX8_week 32 = .ok (.getfield 40, 3) := by decide +kernel
theorem dX8_week_35 : decode cX8_week 35 = .ok (.aload_n 0, 1) := by decide +kernel
theorem dX8_week_36 : decode cX8_week 36 = .ok (.getfield 30, 3) := by decide +kernel
theorem dX8_week_39 : decode cX8_week 39 = .ok (.invokevirtual 178, 3) := by decide +kernel
theorem dX8_week_42 : decode cX8_week 42 = .ok (.iload_n 1, 1) := by decide +kernel
theorem dX8_week_43 : decode cX8_week 43 = .ok (.ireturn, 1) := by decide +kernel
theorem dX8_will_0 : decode cX8_will 0 = .ok (.aload_n 0, 1) := by decide +kernel
theorem dX8_will_1 : decode cX8_will 1 = .ok (.iload_n 1, 1) := by decide +kernel
theorem dX8_will_2 : decode cX8_will 2 = .ok (.invokevirtual 111, 3) := by decide +kernel
theorem dX8_will_5 : decode cX8_will 5 = .ok (.ifCond .eq 19, 3) := by decide +kernel
theorem dX8_will_8 : decode cX8_will 8 = .ok (.iload_n 2, 1) := by decide +kernel
theorem dX8_will_9 : decode cX8_will 9 = .ok (.invokestatic 215, 3) := by decide +kernel
theorem dX8_will_12 : decode cX8_will 12 = .ok (.ifCond .eq 12, 3) := by decide +kernel
theorem dX8_will_15 : decode cX8_will 15 = .ok (.iload_n 3, 1) := by decide +kernel
theorem dX8_will_16 : decode cX8_will 16 = .ok (.ifCond .lt 8, 3) := by decide +kernel
theorem dX8_will_19 : decode cX8_will 19 = .ok (.iload_n 3, 1) := by decide +kernel
theorem dX8_will_20 : decode cX8_will 20 = .ok (.iconst 1, 1) := by decide +kernel
theorem dX8_will_21 : decode cX8_will 21 = .ok (.if_icmp .le 6, 3) := by decide +kernel
theorem dX8_will_24 : decode cX8_will 24 = .ok (.bipush (-2), 2) := by decide +kernel
theorem dX8_will_26 : decode cX8_will 26 = .ok (.ireturn, 1) := by decide +kernel
theorem dX8_will_27 : decode cX8_will 27 = .ok (.aload_n 0, 1) := by decide +kernel
theorem dX8_will_28 : decode cX8_will 28 = .ok (.iload_n 2, 1) := by decide +kernel
theorem dX8_will_29 : decode cX8_will 29 = .ok (.iload_n 3, 1) := by decide +kernel
theorem dX8_will_30 : decode cX8_will 30 = .ok (.iconst 1, 1) := by decide +kernel
theorem dX8_will_31 : decode cX8_will 31 = .ok (.if_icmp .ne 13, 3) := by decide +kernel
theorem dX8_will_34 : decode cX8_will 34 = .ok (.aload_n 0, 1) := by decide +kernel
theorem dX8_will_35 : decode cX8_will 35 = .ok (.getfield 23, 3) := by decide +kernel
theorem dX8_will_38 : decode cX8_will 38 = .ok (.getfield 171, 3) := by decide +kernel
theorem dX8_will_41 : decode cX8_will 41 = .ok (.goto 4, 3) := by decide +kernel
theorem dX8_will_44 : decode cX8_will 44 = .ok (.iconst 0, 1) := by decide +kernel
theorem dX8_will_45 : decode cX8_will 45 = .ok (.invokevirtual 218, 3) := by decide +kernel
theorem dX8_will_48 : decode cX8_will 48 = .ok (.aload_n 0, 1) := by decide +kernel
theorem dX8_will_49 : decode cX8_will 49 = .ok (.getfield 34, 3) := by decide +kernel
theorem dX8_will_52 : decode cX8_will 52 = .ok (.iload_n 1, 1) := by decide +kernel
theorem dX8_will_53 : decode cX8_will 53 = .ok (.invokevirtual 154, 3) := by decide +kernel
theorem dX8_will_56 : decode cX8_will 56 = .ok (.ifCond .eq 18, 3) := by decide +kernel
theorem dX8_will_59 : decode cX8_will 59 = .ok (.aload_n 0, 1) := by decide +kernel
theorem dX8_will_60 : decode cX8_will 60 = .ok (.getfield 34, 3) := by decide +kernel
theorem dX8_will_63 : decode cX8_will 63 = .ok (.getfield 125, 3) := by decide +kernel
theorem dX8_will_66 : decode cX8_will 66 = .ok (.iload_n 1, 1) := by decide +kernel
theorem dX8_will_67 : decode cX8_will 67 = .ok (.iaload, 1) := by decide +kernel
theorem dX8_will_68 : decode cX8_will 68 = .ok (.bipush 10, 2) := by decide +kernel
theorem dX8_will_70 : decode cX8_will 70 = .ok (.iadd, 1) := by decide +kernel
theorem dX8_will_71 : decode cX8_will 71 = .ok (.goto 12, 3) := by decide +kernel
theorem dX8_will_74 : decode cX8_will 74 = .ok (.aload_n 0, 1) := by decide +kernel
theorem dX8_will_75 : decode cX8_will 75 = .ok (.getfield 34, 3) := by decide +kernel
theorem dX8_will_78 : decode cX8_will 78 = .ok (.getfield 125, 3) := by decide +kernel
theorem dX8_will_81 : decode cX8_will 81 = .ok (.iload_n 1, 1) := by decide +kernel
theorem dX8_will_82 : decode cX8_will 82 = .ok (.iaload, 1) := by decide +kernel
theorem dX8_will_83 : decode cX8_will 83 = .ok (.ireturn, 1) := by decide +kernel
theorem dX8_wouldPay_0 : decode cX8_wouldPay 0 = .ok (.iload_n 3, 1) := by decide +kernel
theorem dX8_wouldPay_1 : decode cX8_wouldPay 1 = .ok (.aload_n 0, 1) := by decide +kernel
theorem dX8_wouldPay_2 : decode cX8_wouldPay 2 = .ok (.getfield 23, 3) := by decide +kernel
theorem dX8_wouldPay_5 : decode cX8_wouldPay 5 = .ok (.getfield 115, 3) := by decide +kernel
theorem dX8_wouldPay_8 : decode cX8_wouldPay 8 = .ok (.iload_n 2, 1) := by decide +kernel
theorem dX8_wouldPay_9 : decode cX8_wouldPay 9 = .ok (.iaload, 1) := by decide +kernel
theorem dX8_wouldPay_10 : decode cX8_wouldPay 10 = .ok (.if_icmp .lt 36, 3) := by decide +kernel
theorem dX8_wouldPay_13 : decode cX8_wouldPay 13 = .ok (.aload_n 0, 1) := by decide +kernel
theorem dX8_wouldPay_14 : decode cX8_wouldPay 14 = .ok (.getfield 23, 3) := by decide +kernel
theorem dX8_wouldPay_17 : decode cX8_wouldPay 17 = .ok (.iload_n 1, 1) := by decide +kernel
theorem dX8_wouldPay_18 : decode cX8_wouldPay 18 = .ok (.iload_n 2, 1) := by decide +kernel
theorem dX8_wouldPay_19 : decode cX8_wouldPay 19 = .ok (.aload_n 0, 1) := by decide +kernel
theorem dX8_wouldPay_20 : decode cX8_wouldPay 20 = .ok (.getfield 30, 3) := by decide +kernel
theorem dX8_wouldPay_23 : decode cX8_wouldPay 23 = .ok (.getfield 118, 3) := by decide +kernel
theorem dX8_wouldPay_26 : decode cX8_wouldPay 26 = .ok (.iload_n 2, 1) := by decide +kernel
theorem dX8_wouldPay_27 : decode cX8_wouldPay 27 = .ok (.iaload, 1) := by decide +kernel
theorem dX8_wouldPay_28 : decode cX8_wouldPay 28 = .ok (.aload_n 0, 1) := by decide +kernel
theorem dX8_wouldPay_29 : decode cX8_wouldPay 29 = .ok (.getfield 23, 3) := by decide +kernel
theorem dX8_wouldPay_32 : decode cX8_wouldPay 32 = .ok (.getfield 188, 3) := by decide +kernel
theorem dX8_wouldPay_35 : decode cX8_wouldPay 35 = .ok (.iload_n 3, 1) := by decide +kernel
theorem dX8_wouldPay_36 : decode cX8_wouldPay 36 = .ok (.invokevirtual 164, 3) := by decide +kernel
theorem dX8_wouldPay_39 : decode cX8_wouldPay 39 = .ok (.ifCond .le 7, 3) := by decide +kernel
theorem dX8_wouldPay_42 : decode cX8_wouldPay 42 = .ok (.iconst 1, 1) := by decide +kernel
theorem dX8_wouldPay_43 : decode cX8_wouldPay 43 = .ok (.goto 4, 3) := by decide +kernel
theorem dX8_wouldPay_46 : decode cX8_wouldPay 46 = .ok (.iconst 0, 1) := by decide +kernel
theorem dX8_wouldPay_47 : decode cX8_wouldPay 47 = .ok (.ireturn, 1) := by decide +kernel

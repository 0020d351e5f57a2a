theorem dX8_bothGladder_38 : decode cX8_bothGladder 38 = .ok (.iload_n 1, 1) := by decide +kernel
theorem dX8_bothGladder_39 : decode cX8_bothGladder 39 = .ok (.iload_n 3, 1) := by decide +kernel
theorem dX8_bothGladder_40 : decode cX8_bothGladder 40 = .ok (.invokevirtual 157, 3) := by decide +kernel
theorem dX8_bothGladder_43 : decode cX8_bothGladder 43 = .ok (.if_icmp .le 23, 3) := by decide +kernel
theorem dX8_bothGladder_46 : decode cX8_bothGladder 46 = .ok (.aload_n 0, 1) := by decide +kernel
theorem dX8_bothGladder_47 : decode cX8_bothGladder 47 = .ok (.iload_n 2, 1) := by decide +kernel
theorem dX8_bothGladder_48 : decode cX8_bothGladder 48 = .ok (.iload_n 3, 1) := by decide +kernel
theorem dX8_bothGladder_49 : decode cX8_bothGladder 49 = .ok (.invokevirtual 157, 3) := by decide +kernel
theorem dX8_bothGladder_52 : decode cX8_bothGladder 52 = .ok (.aload_n 0, 1) := by decide +kernel
theorem dX8_bothGladder_53 : decode cX8_bothGladder 53 = .ok (.iload_n 2, 1) := by decide +kernel
theorem dX8_bothGladder_54 : decode cX8_bothGladder 54 = .ok (.iload 4, 2) := by decide +kernel
theorem dX8_bothGladder_56 : decode cX8_bothGladder 56 = .ok (.invokevirtual 157, 3) := by decide +kernel
theorem dX8_bothGladder_59 : decode cX8_bothGladder 59 = .ok (.if_icmp .le 7, 3) := by decide +kernel
theorem dX8_bothGladder_62 : decode cX8_bothGladder 62 = .ok (.iconst 1, 1) := by decide +kernel
theorem dX8_bothGladder_63 : decode cX8_bothGladder 63 = .ok (.goto 4, 3) := by decide +kernel
theorem dX8_bothGladder_66 : decode cX8_bothGladder 66 = .ok (.iconst 0, 1) := by decide +kernel
theorem dX8_bothGladder_67 : decode cX8_bothGladder 67 = .ok (.ireturn, 1) := by decide +kernel
theorem dX8_bring_0 : decode cX8_bring 0 = .ok (.aload_n 0, 1) := by decide +kernel
theorem dX8_bring_1 : decode cX8_bring 1 = .ok (.iload_n 1, 1) := by decide +kernel
theorem dX8_bring_2 : decode cX8_bring 2 = .ok (.invokevirtual 111, 3) := by decide +kernel
theorem dX8_bring_5 : decode cX8_bring 5 = .ok (.ifCond .eq 34, 3) := by decide +kernel
theorem dX8_bring_8 : decode cX8_bring 8 = .ok (.aload_n 0, 1) := by decide +kernel
theorem dX8_bring_9 : decode cX8_bring 9 = .ok (.iload_n 2, 1) := by decide +kernel
theorem dX8_bring_10 : decode cX8_bring 10 = .ok (.invokevirtual 138, 3) := by decide +kernel
theorem dX8_bring_13 : decode cX8_bring 13 = .ok (.ifCond .eq 26, 3) := by decide +kernel
theorem dX8_bring_16 : decode cX8_bring 16 = .ok (.aload_n 0, 1) := by decide +kernel
theorem dX8_bring_17 : decode cX8_bring 17 = .ok (.getfield 30, 3) := by decide +kernel
theorem dX8_bring_20 : decode cX8_bring 20 = .ok (.iload_n 1, 1) := by decide +kernel
theorem dX8_bring_21 : decode cX8_bring 21 = .ok (.invokevirtual 202, 3) := by decide +kernel
theorem dX8_bring_24 : decode cX8_bring 24 = .ok (.ifCond .eq 15, 3) := by decide +kernel
theorem dX8_bring_27 : decode cX8_bring 27 = .ok (.aload_n 0, 1) := by decide +kernel
theorem dX8_bring_28 : decode cX8_bring 28 = .ok (.getfield 30, 3) := by decide +kernel
theorem dX8_bring_31 : decode cX8_bring 31 = .ok (.iload_n 2, 1) := by decide +kernel
theorem dX8_bring_32 : decode cX8_bring 32 = .ok (.invokevirtual 147, 3) := by decide +kernel
theorem dX8_bring_35 : decode cX8_bring 35 = .ok (.iconst (-1), 1) := by decide +kernel
theorem dX8_bring_36 : decode cX8_bring 36 = .ok (.if_icmp .eq 6, 3) := by decide +kernel
theorem dX8_bring_39 : decode cX8_bring 39 = .ok (.ldc 160, 2) := by decide +kernel
theorem dX8_bring_41 : decode cX8_bring 41 = .ok (.ireturn, 1) := by decide +kernel
theorem dX8_bring_42 : decode cX8_bring 42 = .ok (.aload_n 0, 1) := by decide +kernel
theorem dX8_bring_43 : decode cX8_bring 43 = .ok (.getfield 30, 3) := by decide +kernel
theorem dX8_bring_46 : decode cX8_bring 46 = .ok (.getfield 125, 3) := by decide +kernel
theorem dX8_bring_49 : decode cX8_bring 49 = .ok (.iload_n 1, 1) := by decide +kernel
theorem dX8_bring_50 : decode cX8_bring 50 = .ok (.iload_n 2, 1) := by decide +kernel
theorem dX8_bring_51 : decode cX8_bring 51 = .ok (.iastore, 1) := by decide +kernel
theorem dX8_bring_52 : decode cX8_bring 52 = .ok (.aload_n 0, 1) := by decide +kernel
theorem dX8_bring_53 : decode cX8_bring 53 = .ok (.getfield 40, 3) := by decide +kernel
theorem dX8_bring_56 : decode cX8_bring 56 = .ok (.aload_n 0, 1) := by decide +kernel
theorem dX8_bring_57 : decode cX8_bring 57 = .ok (.getfield 30, 3) := by decide +kernel
theorem dX8_bring_60 : decode cX8_bring 60 = .ok (.invokevirtual 178, 3) := by decide +kernel
theorem dX8_bring_63 : decode cX8_bring 63 = .ok (.aload_n 0, 1) := by decide +kernel
theorem dX8_bring_64 : decode cX8_bring 64 = .ok (.iload_n 2, 1) := by decide +kernel
theorem dX8_bring_65 : decode cX8_bring 65 = .ok (.iload_n 1, 1) := by decide +kernel
theorem dX8_bring_66 : decode cX8_bring 66 = .ok (.invokevirtual 157, 3) := by decide +kernel
theorem dX8_bring_69 : decode cX8_bring 69 = .ok (.ireturn, 1) := by decide +kernel
theorem dX8_due_0 : decode cX8_due 0 = .ok (.aload_n 0, 1) := by decide +kernel
theorem dX8_due_1 : decode cX8_due 1 = .ok (.iload_n 1, 1) := by decide +kernel
theorem dX8_due_2 : decode cX8_due 2 = .ok (.invokevirtual 111, 3) := by decide +kernel
theorem dX8_due_5 : decode cX8_due 5 = .ok (.ifCond .eq 14, 3) := by decide +kernel
theorem dX8_due_8 : decode cX8_due 8 = .ok (.aload_n 0, 1) := by decide +kernel
theorem dX8_due_9 : decode cX8_due 9 = .ok (.getfield 30, 3) := by decide +kernel
theorem dX8_due_12 : decode cX8_due 12 = .ok (.iload_n 1, 1) := by decide +kernel
theorem dX8_due_13 : decode cX8_due 13 = .ok (.invokevirtual 161, 3) := by decide +kernel
theorem dX8_due_16 : decode cX8_due 16 = .ok (.ifCond .ne 5, 3) := by decide +kernel
theorem dX8_due_19 : decode cX8_due 19 = .ok (.iconst (-1), 1) := by decide +kernel
theorem dX8_due_20 : decode cX8_due 20 = .ok (.ireturn, 1) := by decide +kernel
theorem dX8_due_21 : decode cX8_due 21 = .ok (.iconst 1, 1) := by decide +kernel
theorem dX8_due_22 : decode cX8_due 22 = .ok (.aload_n 0, 1) := by decide +kernel
theorem dX8_due_23 : decode cX8_due 23 = .ok (.getfield 23, 3) := by decide +kernel
theorem dX8_due_26 : decode cX8_due 26 = .ok (.getfield 188, 3) := by decide +kernel
theorem dX8_due_29 : decode cX8_due 29 = .ok (.aload_n 0, 1) := by decide +kernel
theorem dX8_due_30 : decode cX8_due 30 = .ok (.getfield 30, 3) := by decide +kernel
theorem dX8_due_33 : decode cX8_due 33 = .ok (.getfield 131, 3) := by decide +kernel
theorem dX8_due_36 : decode cX8_due 36 = .ok (.iload_n 1, 1) := by decide +kernel
theorem dX8_due_37 : decode cX8_due 37 = .ok (.iaload, 1) := by decide +kernel
theorem dX8_due_38 : decode cX8_due 38 = .ok (.isub, 1) := by decide +kernel
theorem dX8_due_39 : decode cX8_due 39 = .ok (.invokestatic 276, 3) := by decide +kernel
theorem dX8_due_42 : decode cX8_due 42 = .ok (.ireturn, 1) := by decide +kernel
theorem dX8_earned_0 : decode cX8_earned 0 = .ok (.aload_n 0, 1) := by decide +kernel
theorem dX8_earned_1 : decode cX8_earned 1 = .ok (.aload_n 0, 1) := by decide +kernel
theorem dX8_earned_2 : decode cX8_earned 2 = .ok (.invokevirtual 301, 3) := by decide +kernel
theorem dX8_earned_5 : decode cX8_earned 5 = .ok (.invokevirtual 298, 3) := by decide +kernel
theorem dX8_earned_8 : decode cX8_earned 8 = .ok (.ireturn, 1) := by decide +kernel
theorem dX8_end_0 : decode cX8_end 0 = .ok (.iload_n 1, 1) := by decide +kernel
theorem dX8_end_1 : decode cX8_end 1 = .ok (.ifCond .lt 11, 3) := by decide +kernel
theorem dX8_end_4 : decode cX8_end 4 = .ok (.iload_n 1, 1) := by decide +kernel
theorem dX8_end_5 : decode cX8_end 5 = .ok (.aload_n 0, 1) := by decide +kernel
theorem dX8_end_6 : decode cX8_end 6 = .ok (.getfield 78, 3) := by decide +kernel
theorem dX8_end_9 : decode cX8_end 9 = .ok (.if_icmp .le 5, 3) := by decide +kernel
theorem dX8_end_12 : decode cX8_end 12 = .ok (.iconst (-1), 1) := by decide +kernel
theorem dX8_end_13 : decode cX8_end 13 = .ok (.ireturn, 1) := by decide +kernel
theorem dX8_end_14 : decode cX8_end 14 = .ok (.aload_n 0, 1) := by decide +kernel
theorem dX8_end_15 : decode cX8_end 15 = .ok (.iload_n 1, 1) := by decide +kernel
theorem dX8_end_16 : decode cX8_end 16 = .ok (.putfield 78, 3) := by decide +kernel
theorem dX8_end_19 : decode cX8_end 19 = .ok (.iload_n 1, 1) := by decide +kernel
theorem dX8_end_20 : decode cX8_end 20 = .ok (.ireturn, 1) := by decide +kernel
theorem dX8_fashion_0 : decode cX8_fashion 0 = .ok (.iconst (-1), 1) := by decide +kernel
theorem dX8_fashion_1 : decode cX8_fashion 1 = .ok (.istore_n 1, 1) := by decide +kernel
theorem dX8_fashion_2 : decode cX8_fashion 2 = .ok (.iconst 0, 1) := by decide +kernel
theorem dX8_fashion_3 : decode cX8_fashion 3 = .ok (.istore_n 2, 1) := by decide +kernel
theorem dX8_fashion_4 : decode cX8_fashion 4 = .ok (.iconst 0, 1) := by decide +kernel
theorem dX8_fashion_5 : decode cX8_fashion 5 = .ok (.istore_n 3, 1) := by decide +kernel
theorem dX8_fashion_6 : decode cX8_fashion 6 = .ok (.iload_n 3, 1) := by decide +kernel
theorem dX8_fashion_7 : decode cX8_fashion 7 = .ok (.bipush 7, 2) := by decide +kernel
theorem dX8_fashion_9 : decode cX8_fashion 9 = .ok (.if_icmp .ge 60, 3) := by decide +kernel
theorem dX8_fashion_12 : decode cX8_fashion 12 = .ok (.iconst 0, 1) := by decide +kernel
theorem dX8_fashion_13 : decode cX8_fashion 13 = .ok (.istore 4, 2) := by decide +kernel
theorem dX8_fashion_15 : decode cX8_fashion 15 = .ok (.iconst 0, 1) := by decide +kernel
theorem dX8_fashion_16 : decode cX8_fashion 16 = .ok (.istore 5, 2) := by decide +kernel
theorem dX8_fashion_18 : decode cX8_fashion 18 = .ok (.iload 5, 2) := by decide +kernel
theorem dX8_fashion_20 : decode cX8_fashion 20 = .ok (.aload_n 0, 1) := by decide +kernel
theorem dX8_fashion_21 : decode cX8_fashion 21 = .ok (.getfield 23, 3) := by decide +kernel
theorem dX8_fashion_24 : decode cX8_fashion 24 = .ok (.getfield 99, 3) := by decide +kernel
theorem dX8_fashion_27 : decode cX8_fashion 27 = .ok (.if_icmp .ge 25, 3) := by decide +kernel
theorem dX8_fashion_30 : decode cX8_fashion 30 = .ok (.aload_n 0, 1) := by decide +kernel
theorem dX8_fashion_31 : decode cX8_fashion 31 = .ok (.getfield 23, 3) := by decide +kernel
theorem dX8_fashion_34 : decode cX8_fashion 34 = .ok (.iload 5, 2) := by decide +kernel
theorem dX8_fashion_36 : decode cX8_fashion 36 = .ok (.iload_n 3, 1) := by decide +kernel
theorem dX8_fashion_37 : decode cX8_fashion 37 = .ok (.invokevirtual 315, 3) := by decide +kernel
theorem dX8_fashion_40 : decode cX8_fashion 40 = .ok (.ifCond .eq 6, 3) := by decide +kernel
theorem dX8_fashion_43 : decode cX8_fashion 43 = .ok (.iinc 4 1, 3) := by decide +kernel
theorem dX8_fashion_46 : decode cX8_fashion 46 = .ok (.iinc 5 1, 3) := by decide +kernel
theorem dX8_fashion_49 : decode cX8_fashion 49 = .ok (.goto (-31), 3) := by decide +kernel
theorem dX8_fashion_52 : decode cX8_fashion 52 = .ok (.iload 4, 2) := by decide +kernel
theorem dX8_fashion_54 : decode cX8_fashion 54 = .ok (.iload_n 2, 1) := by decide +kernel
theorem dX8_fashion_55 : decode cX8_fashion 55 = .ok (.if_icmp .le 8, 3) := by decide +kernel
theorem dX8_fashion_58 : decode cX8_fashion 58 = .ok (.iload 4, 2) := by decide +kernel
theorem dX8_fashion_60 : decode cX8_fashion 60 = .ok (.istore_n 2, 1) := by decide +kernel
theorem dX8_fashion_61 : decode cX8_fashion 61 = .ok (.iload_n 3, 1) := by decide +kernel
theorem dX8_fashion_62 : decode cX8_fashion 62 = .ok (.istore_n 1, 1) := by decide +kernel
theorem dX8_fashion_63 : decode cX8_fashion 63 = .ok (.iinc 3 1, 3) := by decide +kernel
theorem dX8_fashion_66 : decode cX8_fashion 66 = .ok (.goto (-60), 3) := by decide +kernel
theorem dX8_fashion_69 : decode cX8_fashion 69 = .ok (.iload_n 1, 1) := by decide +kernel
theorem dX8_fashion_70 : decode cX8_fashion 70 = .ok (.ireturn, 1) := by decide +kernel
theorem dX8_fault_0 : decode cX8_fault 0 = .ok (.iload_n 1, 1) := by decide +kernel
theorem dX8_fault_1 : decode cX8_fault 1 = .ok (.lookupswitch 43 #[(0, 27), (1, 35)], 27) := by decide +kernel
theorem dX8_fault_28 : decode cX8_fault 28 = .ok (.aload_n 0, 1) := by decide +kernel
theorem dX8_fault_29 : decode cX8_fault 29 = .ok (.getfield 16, 3) := by decide +kernel
theorem dX8_fault_32 : decode cX8_fault 32 = .ok (.getfield 102, 3) := by decide +kernel
theorem dX8_fault_35 : decode cX8_fault 35 = .ok (.ireturn, 1) := by decide +kernel
theorem dX8_fault_36 : decode cX8_fault 36 = .ok (.aload_n 0, 1) := by decide +kernel
theorem dX8_fault_37 : decode cX8_fault 37 = .ok (.getfield 16, 3) := by decide +kernel
theorem dX8_fault_40 : decode cX8_fault 40 = .ok (.getfield 105, 3) := by decide +kernel
theorem dX8_fault_43 : decode cX8_fault 43 = .ok (.ireturn, 1) := by decide +kernel
theorem dX8_fault_44 : decode cX8_fault 44 = .ok (.iconst (-1), 1) := by decide +kernel
theorem dX8_fault_45 : decode cX8_fault 45 = .ok (.ireturn, 1) := by decide +kernel
theorem dX8_favourite_0 : decode cX8_favourite 0 = .ok (.iconst (-1), 1) := by decide +kernel
theorem dX8_favourite_1 : decode cX8_favourite 1 = .ok (.istore_n 1, 1) := by decide +kernel
theorem dX8_favourite_2 : decode cX8_favourite 2 = .ok (.iconst (-1), 1) := by decide +kernel
theorem dX8_favourite_3 : decode cX8_favourite 3 = .ok (.istore_n 2, 1) := by decide +kernel
theorem dX8_favourite_4 : decode cX8_favourite 4 = .ok (.iconst 0, 1) := by decide +kernel
theorem dX8_favourite_5 : decode cX8_favourite 5 = .ok (.istore_n 3, 1) := by decide +kernel
theorem dX8_favourite_6 : decode cX8_favourite 6 = .ok (.iload_n 3, 1) := by decide +kernel
theorem dX8_favourite_7 : decode cX8_favourite 7 = .ok (.aload_n 0, 1) := by decide +kernel
theorem dX8_favourite_8 : decode cX8_favourite 8 = .ok (.getfield 23, 3) := by decide +kernel
theorem dX8_favourite_11 : decode cX8_favourite 11 = .ok (.getfield 108, 3) := by decide +kernel
theorem dX8_favourite_14 : decode cX8_favourite 14 = .ok (.if_icmp .ge 67, 3) := by decide +kernel
theorem dX8_favourite_17 : decode cX8_favourite 17 = .ok (.iconst 0, 1) := by decide +kernel
theorem dX8_favourite_18 : decode cX8_favourite 18 = .ok (.istore 4, 2) := by decide +kernel
theorem dX8_favourite_20 : decode cX8_favourite 20 = .ok (.iconst 0, 1) := by decide +kernel
theorem dX8_favourite_21 : decode cX8_favourite 21 = .ok (.istore 5, 2) := by decide +kernel
theorem dX8_favourite_23 : decode cX8_favourite 23 = .ok (.iload 5, 2) := by decide +kernel
theorem dX8_favourite_25 : decode cX8_favourite 25 = .ok (.aload_n 0, 1) := by decide +kernel
theorem dX8_favourite_26 : decode cX8_favourite 26 = .ok (.getfield 23, 3) := by decide +kernel
theorem dX8_favourite_29 : decode cX8_favourite 29 = .ok (.getfield 99, 3) := by decide +kernel
theorem dX8_favourite_32 : decode cX8_favourite 32 = .ok (.if_icmp .ge 32, 3) := by decide +kernel
theorem dX8_favourite_35 : decode cX8_favourite 35 = .ok (.aload_n 0, 1) := by decide +kernel
theorem dX8_favourite_36 : decode cX8_favourite 36 = .ok (.iload 5, 2) := by decide +kernel
theorem dX8_favourite_38 : decode cX8_favourite 38 = .ok (.iload_n 3, 1) := by decide +kernel
theorem dX8_favourite_39 : decode cX8_favourite 39 = .ok (.aload_n 0, 1) := by decide +kernel
theorem dX8_favourite_40 : decode cX8_favourite 40 = .ok (.getfield 30, 3) := by decide +kernel
theorem dX8_favourite_43 : decode cX8_favourite 43 = .ok (.getfield 144, 3) := by decide +kernel
theorem dX8_favourite_46 : decode cX8_favourite 46 = .ok (.iload 5, 2) := by decide +kernel
theorem dX8_favourite_48 : decode cX8_favourite 48 = .ok (.iaload, 1) := by decide +kernel
theorem dX8_favourite_49 : decode cX8_favourite 49 = .ok (.invokevirtual 222, 3) := by decide +kernel
theorem dX8_favourite_52 : decode cX8_favourite 52 = .ok (.ifCond .eq 6, 3) := by decide +kernel
theorem dX8_favourite_55 : decode cX8_favourite 55 = .ok (.iinc 4 1, 3) := by decide +kernel
theorem dX8_favourite_58 : decode cX8_favourite 58 = .ok (.iinc 5 1, 3) := by decide +kernel
theorem dX8_favourite_61 : decode cX8_favourite 61 = .ok (.goto (-38), 3) := by decide +kernel
theorem dX8_favourite_64 : decode cX8_favourite 64 = .ok (.iload 4, 2) := by decide +kernel
theorem dX8_favourite_66 : decode cX8_favourite 66 = .ok (.iload_n 2, 1) := by decide +kernel
theorem dX8_favourite_67 : decode cX8_favourite 67 = .ok (.if_icmp .le 8, 3) := by decide +kernel
theorem dX8_favourite_70 : decode cX8_favourite 70 = .ok (.iload 4, 2) := by decide +kernel
theorem dX8_favourite_72 : decode cX8_favourite 72 = .ok (.istore_n 2, 1) := by decide +kernel
theorem dX8_favourite_73 : decode cX8_favourite 73 = .ok (.iload_n 3, 1) := by decide +kernel
theorem dX8_favourite_74 : decode cX8_favourite 74 = .ok (.istore_n 1, 1) := by decide +kernel
theorem dX8_favourite_75 : decode cX8_favourite 75 = .ok (.iinc 3 1, 3) := by decide +kernel
theorem dX8_favourite_78 : decode cX8_favourite 78 = .ok (.goto (-72), 3) := by decide +kernel
theorem dX8_favourite_81 : decode cX8_favourite 81 = .ok (.iload_n 1, 1) := by decide +kernel
theorem dX8_favourite_82 : decode cX8_favourite 82 = .ok (.ireturn, 1) := by decide +kernel
theorem dX8_feed_0 : decode cX8_feed 0 = .ok (.aload_n 0, 1) := by decide +kernel
theorem dX8_feed_1 : decode cX8_feed 1 = .ok (.getfield 78, 3) := by decide +kernel
theorem dX8_feed_4 : decode cX8_feed 4 = .ok (.bipush 20, 2) := by decide +kernel
theorem dX8_feed_6 : decode cX8_feed 6 = .ok (.iadd, 1) := by decide +kernel
theorem dX8_feed_7 : decode cX8_feed 7 = .ok (.sipush 1600, 3) := by decide +kernel
theorem dX8_feed_10 : decode cX8_feed 10 = .ok (.if_icmp .le 5, 3) := by decide +kernel
theorem dX8_feed_13 : decode cX8_feed 13 = .ok (.iconst (-1), 1) := by decide +kernel
theorem dX8_feed_14 : decode cX8_feed 14 = .ok (.ireturn, 1) := by decide +kernel
theorem dX8_feed_15 : decode cX8_feed 15 = .ok (.aload_n 0, 1) := by decide +kernel
theorem dX8_feed_16 : decode cX8_feed 16 = .ok (.iload_n 1, 1) := by decide +kernel
theorem dX8_feed_17 : decode cX8_feed 17 = .ok (.invokevirtual 82, 3) := by decide +kernel
theorem dX8_feed_20 : decode cX8_feed 20 = .ok (.aload_n 0, 1) := by decide +kernel
theorem dX8_feed_21 : decode cX8_feed 21 = .ok (.iload_n 2, 1) := by decide +kernel
theorem dX8_feed_22 : decode cX8_feed 22 = .ok (.invokevirtual 82, 3) := by decide +kernel
theorem dX8_feed_25 : decode cX8_feed 25 = .ok (.aload_n 0, 1) := by decide +kernel
theorem dX8_feed_26 : decode cX8_feed 26 = .ok (.iload_n 3, 1) := by decide +kernel
theorem dX8_feed_27 : decode cX8_feed 27 = .ok (.invokevirtual 82, 3) := by decide +kernel
theorem dX8_feed_30 : decode cX8_feed 30 = .ok (.aload_n 0, 1) := by decide +kernel
theorem dX8_feed_31 : decode cX8_feed 31 = .ok (.iload 4, 2) := by decide +kernel
theorem dX8_feed_33 : decode cX8_feed 33 = .ok (.invokevirtual 82, 3) := by decide +kernel
theorem dX8_feed_36 : decode cX8_feed 36 = .ok (.aload_n 0, 1) := by decide +kernel
theorem dX8_feed_37 : decode cX8_feed 37 = .ok (.iload 5, 2) := by decide +kernel
theorem dX8_feed_39 : decode cX8_feed 39 = .ok (.invokevirtual 82, 3) := by decide +kernel
theorem dX8_feed_42 : decode cX8_feed 42 = .ok (.aload_n 0, 1) := by decide +kernel
theorem dX8_feed_43 : decode cX8_feed 43 = .ok (.getfield 78, 3) := by decide +kernel
theorem dX8_feed_46 : decode cX8_feed 46 = .ok (.ireturn, 1) := by decide +kernel
theorem dX8_fetch_0 : decode cX8_fetch 0 = .ok (.aload_n 0, 1) := by decide +kernel
theorem dX8_fetch_1 : decode cX8_fetch 1 = .ok (.iload_n 1, 1) := by decide +kernel
theorem dX8_fetch_2 : decode cX8_fetch 2 = .ok (.invokevirtual 111, 3) := by decide +kernel
theorem dX8_fetch_5 : decode cX8_fetch 5 = .ok (.ifCond .eq 14, 3) := by decide +kernel
theorem dX8_fetch_8 : decode cX8_fetch 8 = .ok (.aload_n 0, 1) := by decide +kernel
theorem dX8_fetch_9 : decode cX8_fetch 9 = .ok (.getfield 30, 3) := by decide +kernel
theorem dX8_fetch_12 : decode cX8_fetch 12 = .ok (.iload_n 1, 1) := by decide +kernel
theorem dX8_fetch_13 : decode cX8_fetch 13 = .ok (.invokevirtual 161, 3) := by decide +kernel
theorem dX8_fetch_16 : decode cX8_fetch 16 = .ok (.ifCond .ne 5, 3) := by decide +kernel
theorem dX8_fetch_19 : decode cX8_fetch 19 = .ok (.iconst (-1), 1) := by decide +kernel
theorem dX8_fetch_20 : decode cX8_fetch 20 = .ok (.ireturn, 1) := by decide +kernel
theorem dX8_fetch_21 : decode cX8_fetch 21 = .ok (.aload_n 0, 1) := by decide +kernel
theorem dX8_fetch_22 : decode cX8_fetch 22 = .ok (.getfield 30, 3) := by decide +kernel
theorem dX8_fetch_25 : decode cX8_fetch 25 = .ok (.getfield 125, 3) := by decide +kernel
theorem dX8_fetch_28 : decode cX8_fetch 28 = .ok (.iload_n 1, 1) := by decide +kernel
theorem dX8_fetch_29 : decode cX8_fetch 29 = .ok (.iaload, 1) := by decide +kernel
theorem dX8_fetch_30 : decode cX8_fetch 30 = .ok (.istore_n 2, 1) := by decide +kernel
theorem dX8_fetch_31 : decode cX8_fetch 31 = .ok (.aload_n 0, 1) := by decide +kernel
theorem dX8_fetch_32 : decode cX8_fetch 32 = .ok (.getfield 30, 3) := by decide +kernel
theorem dX8_fetch_35 : decode cX8_fetch 35 = .ok (.iload_n 1, 1) := by decide +kernel
theorem dX8_fetch_36 : decode cX8_fetch 36 = .ok (.invokevirtual 194, 3) := by decide +kernel
theorem dX8_fetch_39 : decode cX8_fetch 39 = .ok (.aload_n 0, 1) := by decide +kernel
theorem dX8_fetch_40 : decode cX8_fetch 40 = .ok (.getfield 40, 3) := by decide +kernel
theorem dX8_fetch_43 : decode cX8_fetch 43 = .ok (.aload_n 0, 1) := by decide +kernel
theorem dX8_fetch_44 : decode cX8_fetch 44 = .ok (.getfield 30, 3) := by decide +kernel
theorem dX8_fetch_47 : decode cX8_fetch 47 = .ok (.invokevirtual 178, 3) := by decide +kernel
theorem dX8_fetch_50 : decode cX8_fetch 50 = .ok (.iload_n 2, 1) := by decide +kernel
theorem dX8_fetch_51 : decode cX8_fetch 51 = .ok (.ireturn, 1) := by decide +kernel
theorem dX8_fill_0 : decode cX8_fill 0 = .ok (.aload_n 0, 1) := by decide +kernel
theorem dX8_fill_1 : decode cX8_fill 1 = .ok (.iload_n 1, 1) := by decide +kernel
theorem dX8_fill_2 : decode cX8_fill 2 = .ok (.invokevirtual 138, 3) := by decide +kernel
theorem dX8_fill_5 : decode cX8_fill 5 = .ok (.ifCond .eq 29, 3) := by decide +kernel
theorem dX8_fill_8 : decode cX8_fill 8 = .ok (.iload_n 2, 1) := by decide +kernel
theorem dX8_fill_9 : decode cX8_fill 9 = .ok (.iconst 1, 1) := by decide +kernel
theorem dX8_fill_10 : decode cX8_fill 10 = .ok (.if_icmp .lt 24, 3) := by decide +kernel
theorem dX8_fill_13 : decode cX8_fill 13 = .ok (.iload_n 2, 1) := by decide +kernel
theorem dX8_fill_14 : decode cX8_fill 14 = .ok (.bipush 50, 2) := by decide +kernel
theorem dX8_fill_16 : decode cX8_fill 16 = .ok (.if_icmp .gt 18, 3) := by decide +kernel
theorem dX8_fill_19 : decode cX8_fill 19 = .ok (.aload_n 0, 1) := by decide +kernel
theorem dX8_fill_20 : decode cX8_fill 20 = .ok (.getfield 30, 3) := by decide +kernel
theorem dX8_fill_23 : decode cX8_fill 23 = .ok (.getfield 144, 3) := by decide +kernel
theorem dX8_fill_26 : decode cX8_fill 26 = .ok (.iload_n 1, 1) := by decide +kernel
theorem dX8_fill_27 : decode cX8_fill 27 = .ok (.iaload, 1) := by decide +kernel
theorem dX8_fill_28 : decode cX8_fill 28 = .ok (.sipush 999, 3) := by decide +kernel
theorem dX8_fill_31 : decode cX8_fill 31 = .ok (.if_icmp .lt 5, 3) := by decide +kernel
theorem dX8_fill_34 : decode cX8_fill 34 = .ok (.iconst (-1), 1) := by decide +kernel
theorem dX8_fill_35 : decode cX8_fill 35 = .ok (.ireturn, 1) := by decide +kernel
theorem dX8_fill_36 : decode cX8_fill 36 = .ok (.aload_n 0, 1) := by decide +kernel
theorem dX8_fill_37 : decode cX8_fill 37 = .ok (.getfield 30, 3) := by decide +kernel
theorem dX8_fill_40 : decode cX8_fill 40 = .ok (.getfield 144, 3) := by decide +kernel
theorem dX8_fill_43 : decode cX8_fill 43 = .ok (.iload_n 1, 1) := by decide +kernel
theorem dX8_fill_44 : decode cX8_fill 44 = .ok (.sipush 999, 3) := by decide +kernel
theorem dX8_fill_47 : decode cX8_fill 47 = .ok (.aload_n 0, 1) := by decide +kernel
theorem dX8_fill_48 : decode cX8_fill 48 = .ok (.getfield 30, 3) := by decide +kernel
theorem dX8_fill_51 : decode cX8_fill 51 = .ok (.getfield 144, 3) := by decide +kernel
theorem dX8_fill_54 : decode cX8_fill 54 = .ok (.iload_n 1, 1) := by decide +kernel
theorem dX8_fill_55 : decode cX8_fill 55 = .ok (.iaload, 1) := by decide +kernel
theorem dX8_fill_56 : decode cX8_fill 56 = .ok (.iload_n 2, 1) := by decide +kernel
theorem dX8_fill_57 : decode cX8_fill 57 = .ok (.iadd, 1) := by decide +kernel
theorem dX8_fill_58 : decode cX8_fill 58 = .ok (.invokestatic 197, 3) := by decide +kernel
theorem dX8_fill_61 : decode cX8_fill 61 = .ok (.iastore, 1) := by decide +kernel
theorem dX8_fill_62 : decode cX8_fill 62 = .ok (.aload_n 0, 1) := by decide +kernel
theorem dX8_fill_63 : decode cX8_fill 63 = .ok (.getfield 40, 3) := by decide +kernel
theorem dX8_fill_66 : decode cX8_fill 66 = .ok (.aload_n 0, 1) := by decide +kernel
theorem dX8_fill_67 : decode cX8_fill 67 = .ok (.getfield 30, 3) := by decide +kernel
theorem dX8_fill_70 : decode cX8_fill 70 = .ok (.invokevirtual 178, 3) := by decide +kernel
theorem dX8_fill_73 : decode cX8_fill 73 = .ok (.aload_n 0, 1) := by decide +kernel
theorem dX8_fill_74 : decode cX8_fill 74 = .ok (.getfield 30, 3) := by decide +kernel
theorem dX8_fill_77 : decode cX8_fill 77 = .ok (.getfield 144, 3) := by decide +kernel
theorem dX8_fill_80 : decode cX8_fill 80 = .ok (.iload_n 1, 1) := by decide +kernel
theorem dX8_fill_81 : decode cX8_fill 81 = .ok (.iaload, 1) := by decide +kernel
theorem dX8_fill_82 : decode cX8_fill 82 = .ok (.ireturn, 1) := by decide +kernel
theorem dX8_find_0 : decode cX8_find 0 = .ok (.iload_n 1, 1) := by decide +kernel
theorem dX8_find_1 : decode cX8_find 1 = .ok (.invokestatic 304, 3) := by decide +kernel
theorem dX8_find_4 : decode cX8_find 4 = .ok (.ifCond .eq 28, 3) := by decide +kernel
theorem dX8_find_7 : decode cX8_find 7 = .ok (.iload_n 2, 1) := by decide +kernel
theorem dX8_find_8 : decode cX8_find 8 = .ok (.invokestatic 304, 3) := by decide +kernel
theorem dX8_find_11 : decode cX8_find 11 = .ok (.ifCond .eq 21, 3) := by decide +kernel
theorem dX8_find_14 : decode cX8_find 14 = .ok (.iload_n 3, 1) := by decide +kernel
theorem dX8_find_15 : decode cX8_find 15 = .ok (.invokestatic 304, 3) := by decide +kernel
theorem dX8_find_18 : decode cX8_find 18 = .ok (.ifCond .eq 14, 3) := by decide +kernel
theorem dX8_find_21 : decode cX8_find 21 = .ok (.aload_n 0, 1) := by decide +kernel
theorem dX8_find_22 : decode cX8_find 22 = .ok (.iload_n 1, 1) := by decide +kernel
theorem dX8_find_23 : decode cX8_find 23 = .ok (.iload_n 2, 1) := by decide +kernel
theorem dX8_find_24 : decode cX8_find 24 = .ok (.iload_n 3, 1) := by decide +kernel
theorem dX8_find_25 : decode cX8_find 25 = .ok (.iconst 0, 1) := by decide +kernel
theorem dX8_find_26 : decode cX8_find 26 = .ok (.invokevirtual 307, 3) := by decide +kernel
theorem dX8_find_29 : decode cX8_find 29 = .ok (.goto 4, 3) := by decide +kernel
theorem dX8_find_32 : decode cX8_find 32 = .ok (.iconst (-1), 1) := by decide +kernel
theorem dX8_find_33 : decode cX8_find 33 = .ok (.ireturn, 1) := by decide +kernel
theorem dX8_frayed_0 : decode cX8_frayed 0 = .ok (.aload_n 0, 1) := by decide +kernel
theorem dX8_frayed_1 : decode cX8_frayed 1 = .ok (.iload_n 1, 1) := by decide +kernel
theorem dX8_frayed_2 : decode cX8_frayed 2 = .ok (.invokevirtual 111, 3) := by decide +kernel
theorem dX8_frayed_5 : decode cX8_frayed 5 = .ok (.ifCond .eq 25, 3) := by decide +kernel
theorem dX8_frayed_8 : decode cX8_frayed 8 = .ok (.aload_n 0, 1) := by decide +kernel
theorem dX8_frayed_9 : decode cX8_frayed 9 = .ok (.getfield 23, 3) := by decide +kernel
theorem dX8_frayed_12 : decode cX8_frayed 12 = .ok (.iload_n 1, 1) := by decide +kernel
theorem dX8_frayed_13 : decode cX8_frayed 13 = .ok (.aload_n 0, 1) := by decide +kernel
theorem dX8_frayed_14 : decode cX8_frayed 14 = .ok (.getfield 30, 3) := by decide +kernel
theorem dX8_frayed_17 : decode cX8_frayed 17 = .ok (.getfield 118, 3) := by decide +kernel
theorem dX8_frayed_20 : decode cX8_frayed 20 = .ok (.iload_n 1, 1) := by decide +kernel
theorem dX8_frayed_21 : decode cX8_frayed 21 = .ok (.iaload, 1) := by decide +kernel
theorem dX8_frayed_22 : decode cX8_frayed 22 = .ok (.invokevirtual 121, 3) := by decide +kernel
theorem dX8_frayed_25 : decode cX8_frayed 25 = .ok (.iconst 3, 1) := by decide +kernel
theorem dX8_frayed_26 : decode cX8_frayed 26 = .ok (.isub, 1) := by decide +kernel
theorem dX8_frayed_27 : decode cX8_frayed 27 = .ok (.goto 4, 3) := by decide +kernel
theorem dX8_frayed_30 : decode cX8_frayed 30 = .ok (.iconst (-1), 1) := by decide +kernel
theorem dX8_frayed_31 : decode cX8_frayed 31 = .ok (.ireturn, 1) := by decide +kernel
theorem dX8_give_0 : decode cX8_give 0 = .ok (.aload_n 0, 1) := by decide +kernel
theorem dX8_give_1 : decode cX8_give 1 = .ok (.iload_n 1, 1) := by decide +kernel
theorem dX8_give_2 : decode cX8_give 2 = .ok (.invokevirtual 111, 3) := by decide +kernel
theorem dX8_give_5 : decode cX8_give 5 = .ok (.ifCond .eq 14, 3) := by decide +kernel
theorem dX8_give_8 : decode cX8_give 8 = .ok (.aload_n 0, 1) := by decide +kernel
theorem dX8_give_9 : decode cX8_give 9 = .ok (.getfield 30, 3) := by decide +kernel
theorem dX8_give_12 : decode cX8_give 12 = .ok (.iload_n 1, 1) := by decide +kernel
theorem dX8_give_13 : decode cX8_give 13 = .ok (.invokevirtual 154, 3) := by decide +kernel
theorem dX8_give_16 : decode cX8_give 16 = .ok (.ifCond .ne 5, 3) := by decide +kernel
theorem dX8_give_19 : decode cX8_give 19 = .ok (.iconst (-1), 1) := by decide +kernel
theorem dX8_give_20 : decode cX8_give 20 = .ok (.ireturn, 1) := by decide +kernel
theorem dX8_give_21 : decode cX8_give 21 = .ok (.aload_n 0, 1) := by decide +kernel
theorem dX8_give_22 : decode cX8_give 22 = .ok (.getfield 30, 3) := by decide +kernel
theorem dX8_give_25 : decode cX8_give 25 = .ok (.getfield 125, 3) := by decide +kernel
theorem dX8_give_28 : decode cX8_give 28 = .ok (.iload_n 1, 1) := by decide +kernel
theorem dX8_give_29 : decode cX8_give 29 = .ok (.iaload, 1) := by decide +kernel
theorem dX8_give_30 : decode cX8_give 30 = .ok (.istore_n 2, 1) := by decide +kernel
theorem dX8_give_31 : decode cX8_give 31 = .ok (.aload_n 0, 1) := by decide +kernel
theorem dX8_give_32 : decode cX8_give 32 = .ok (.getfield 30, 3) := by decide +kernel
theorem dX8_give_35 : decode cX8_give 35 = .ok (.iload_n 1, 1) := by decide +kernel
theorem dX8_give_36 : decode cX8_give 36 = .ok (.invokevirtual 194, 3) := by decide +kernel
theorem dX8_give_39 : decode cX8_give 39 = .ok (.aload_n 0, 1) := by decide +kernel
theorem dX8_give_40 : decode cX8_give 40 = .ok (.getfield 40, 3) := by decide +kernel
theorem dX8_give_43 : decode cX8_give 43 = .ok (.aload_n 0, 1) := by decide +kernel
theorem dX8_give_44 : decode cX8_give 44 = .ok (.getfield 30, 3) := by decide +kernel
theorem dX8_give_47 : decode cX8_give 47 = .ok (.invokevirtual 178, 3) := by decide +kernel
theorem dX8_give_50 : decode cX8_give 50 = .ok (.iload_n 2, 1) := by decide +kernel
theorem dX8_give_51 : decode cX8_give 51 = .ok (.ireturn, 1) := by decide +kernel
theorem dX8_glad_0 : decode cX8_glad 0 = .ok (.aload_n 0, 1) := by decide +kernel
theorem dX8_glad_1 : decode cX8_glad 1 = .ok (.iload_n 1, 1) := by decide +kernel
theorem dX8_glad_2 : decode cX8_glad 2 = .ok (.invokevirtual 138, 3) := by decide +kernel
theorem dX8_glad_5 : decode cX8_glad 5 = .ok (.ifCond .eq 20, 3) := by decide +kernel
theorem dX8_glad_8 : decode cX8_glad 8 = .ok (.aload_n 0, 1) := by decide +kernel
theorem dX8_glad_9 : decode cX8_glad 9 = .ok (.iload_n 2, 1) := by decide +kernel
theorem dX8_glad_10 : decode cX8_glad 10 = .ok (.invokevirtual 111, 3) := by decide +kernel
theorem dX8_glad_13 : decode cX8_glad 13 = .ok (.ifCond .eq 12, 3) := by decide +kernel
theorem dX8_glad_16 : decode cX8_glad 16 = .ok (.aload_n 0, 1) := by decide +kernel
theorem dX8_glad_17 : decode cX8_glad 17 = .ok (.iload_n 1, 1) := by decide +kernel
theorem dX8_glad_18 : decode cX8_glad 18 = .ok (.iload_n 2, 1) := by decide +kernel
theorem dX8_glad_19 : decode cX8_glad 19 = .ok (.invokevirtual 157, 3) := by decide +kernel
theorem dX8_glad_22 : decode cX8_glad 22 = .ok (.goto 5, 3) := by decide +kernel
theorem dX8_glad_25 : decode cX8_glad 25 = .ok (.ldc 160, 2) := by decide +kernel
theorem dX8_glad_27 : decode cX8_glad 27 = .ok (.ireturn, 1) := by decide +kernel
theorem dX8_gladNow_0 : decode cX8_gladNow 0 = .ok (.aload_n 0, 1) := by decide +kernel
theorem dX8_gladNow_1 : decode cX8_gladNow 1 = .ok (.getfield 30, 3) := by decide +kernel
theorem dX8_gladNow_4 : decode cX8_gladNow 4 = .ok (.iload_n 2, 1) := by decide +kernel
theorem dX8_gladNow_5 : decode cX8_gladNow 5 = .ok (.invokevirtual 161, 3) := by decide +kernel
theorem dX8_gladNow_8 : decode cX8_gladNow 8 = .ok (.ifCond .eq 20, 3) := by decide +kernel
theorem dX8_gladNow_11 : decode cX8_gladNow 11 = .ok (.aload_n 0, 1) := by decide +kernel
theorem dX8_gladNow_12 : decode cX8_gladNow 12 = .ok (.getfield 30, 3) := by decide +kernel
theorem dX8_gladNow_15 : decode cX8_gladNow 15 = .ok (.getfield 125, 3) := by decide +kernel
theorem dX8_gladNow_18 : decode cX8_gladNow 18 = .ok (.iload_n 2, 1) := by decide +kernel
theorem dX8_gladNow_19 : decode cX8_gladNow 19 = .ok (.iaload, 1) := by decide +kernel
theorem dX8_gladNow_20 : decode cX8_gladNow 20 = .ok (.iload_n 1, 1) := by decide +kernel
theorem dX8_gladNow_21 : decode cX8_gladNow 21 = .ok (.if_icmp .ne 7, 3) := by decide +kernel
theorem dX8_gladNow_24 : decode cX8_gladNow 24 = .ok (.iconst 1, 1) := by decide +kernel
theorem dX8_gladNow_25 : decode cX8_gladNow 25 = .ok (.goto 4, 3) := by decide +kernel
theorem dX8_gladNow_28 : decode cX8_gladNow 28 = .ok (.iconst 0, 1) := by decide +kernel
theorem dX8_gladNow_29 : decode cX8_gladNow 29 = .ok (.istore_n 3, 1) := by decide +kernel
theorem dX8_gladNow_30 : decode cX8_gladNow 30 = .ok (.iload_n 3, 1) := by decide +kernel
theorem dX8_gladNow_31 : decode cX8_gladNow 31 = .ok (.ifCond .eq 15, 3) := by decide +kernel
theorem dX8_gladNow_34 : decode cX8_gladNow 34 = .ok (.aload_n 0, 1) := by decide +kernel
theorem dX8_gladNow_35 : decode cX8_gladNow 35 = .ok (.getfield 30, 3) := by decide +kernel
theorem dX8_gladNow_38 : decode cX8_gladNow 38 = .ok (.getfield 131, 3) := by decide +kernel
theorem dX8_gladNow_41 : decode cX8_gladNow 41 = .ok (.iload_n 2, 1) := by decide +kernel
theorem dX8_gladNow_42 : decode cX8_gladNow 42 = .ok (.iaload, 1) := by decide +kernel
theorem dX8_gladNow_43 : decode cX8_gladNow 43 = .ok (.goto 4, 3) := by decide +kernel
theorem dX8_gladNow_46 : decode cX8_gladNow 46 = .ok (.iconst 0, 1) := by decide +kernel
theorem dX8_gladNow_47 : decode cX8_gladNow 47 = .ok (.istore 4, 2) := by decide +kernel
theorem dX8_gladNow_49 : decode cX8_gladNow 49 = .ok (.aload_n 0, 1) := by decide +kernel
theorem dX8_gladNow_50 : decode cX8_gladNow 50 = .ok (.getfield 23, 3) := by decide +kernel
theorem dX8_gladNow_53 : decode cX8_gladNow 53 = .ok (.iload_n 1, 1) := by decide +kernel
theorem dX8_gladNow_54 : decode cX8_gladNow 54 = .ok (.iload_n 2, 1) := by decide +kernel
theorem dX8_gladNow_55 : decode cX8_gladNow 55 = .ok (.aload_n 0, 1) := by decide +kernel
theorem dX8_gladNow_56 : decode cX8_gladNow 56 = .ok (.getfield 30, 3) := by decide +kernel
theorem dX8_gladNow_59 : decode cX8_gladNow 59 = .ok (.getfield 118, 3) := by decide +kernel
theorem dX8_gladNow_62 : decode cX8_gladNow 62 = .ok (.iload_n 2, 1) := by decide +kernel
theorem dX8_gladNow_63 : decode cX8_gladNow 63 = .ok (.iaload, 1) := by decide +kernel
theorem dX8_gladNow_64 : decode cX8_gladNow 64 = .ok (.iload 4, 2) := by decide +kernel
theorem dX8_gladNow_66 : decode cX8_gladNow 66 = .ok (.aload_n 0, 1) := by decide +kernel
theorem dX8_gladNow_67 : decode cX8_gladNow 67 = .ok (.getfield 30, 3) := by decide +kernel
theorem dX8_gladNow_70 : decode cX8_gladNow 70 = .ok (.getfield 144, 3) := by decide +kernel
theorem dX8_gladNow_73 : decode cX8_gladNow 73 = .ok (.iload_n 1, 1) := by decide +kernel
theorem dX8_gladNow_74 : decode cX8_gladNow 74 = .ok (.iaload, 1) := by decide +kernel
theorem dX8_gladNow_75 : decode cX8_gladNow 75 = .ok (.invokevirtual 164, 3) := by decide +kernel
theorem dX8_gladNow_78 : decode cX8_gladNow 78 = .ok (.ireturn, 1) := by decide +kernel
theorem dX8_holds_0 : decode cX8_holds 0 = .ok (.iload_n 0, 1) := by decide +kernel
theorem dX8_holds_1 : decode cX8_holds 1 = .ok (.iload_n 1, 1) := by decide +kernel
theorem dX8_holds_2 : decode cX8_holds 2 = .ok (.ishr, 1) := by decide +kernel
theorem dX8_holds_3 : decode cX8_holds 3 = .ok (.iconst 1, 1) := by decide +kernel
theorem dX8_holds_4 : decode cX8_holds 4 = .ok (.iand, 1) := by decide +kernel
theorem dX8_holds_5 : decode cX8_holds 5 = .ok (.iconst 1, 1) := by decide +kernel
theorem dX8_holds_6 : decode cX8_holds 6 = .ok (.if_icmp .ne 7, 3) := by decide +kernel
theorem dX8_holds_9 : decode cX8_holds 9 = .ok (.iconst 1, 1) := by decide +kernel
theorem dX8_holds_10 : decode cX8_holds 10 = .ok (.goto 4, 3) := by decide +kernel
theorem dX8_holds_13 : decode cX8_holds 13 = .ok (.iconst 0, 1) := by decide +kernel
theorem dX8_holds_14 : decode cX8_holds 14 = .ok (.ireturn, 1) := by decide +kernel
theorem dX8_house_0 : decode cX8_house 0 = .ok (.aload_n 0, 1) := by decide +kernel
theorem dX8_house_1 : decode cX8_house 1 = .ok (.iload_n 1, 1) := by decide +kernel
theorem dX8_house_2 : decode cX8_house 2 = .ok (.invokevirtual 138, 3) := by decide +kernel
theorem dX8_house_5 : decode cX8_house 5 = .ok (.ifCond .ne 6, 3) := by decide +kernel
theorem dX8_house_8 : decode cX8_house 8 = .ok (.bipush (-2), 2) := by decide +kernel
theorem dX8_house_10 : decode cX8_house 10 = .ok (.ireturn, 1) := by decide +kernel
theorem dX8_house_11 : decode cX8_house 11 = .ok (.iload_n 2, 1) := by decide +kernel
theorem dX8_house_12 : decode cX8_house 12 = .ok (.tableswitch 67 0 3 #[32, 42, 52, 61], 32) := by decide +kernel
theorem dX8_house_44 : decode cX8_house 44 = .ok (.aload_n 0, 1) := by decide +kernel
theorem dX8_house_45 : decode cX8_house 45 = .ok (.getfield 23, 3) := by decide +kernel
theorem dX8_house_48 : decode cX8_house 48 = .ok (.getfield 141, 3) := by decide +kernel
theorem dX8_house_51 : decode cX8_house 51 = .ok (.iload_n 1, 1) := by decide +kernel
theorem dX8_house_52 : decode cX8_house 52 = .ok (.iaload, 1) := by decide +kernel
theorem dX8_house_53 : decode cX8_house 53 = .ok (.ireturn, 1) := by decide +kernel
theorem dX8_house_54 : decode cX8_house 54 = .ok (.aload_n 0, 1) := by decide +kernel
theorem dX8_house_55 : decode cX8_house 55 = .ok (.getfield 30, 3) := by decide +kernel
theorem dX8_house_58 : decode cX8_house 58 = .ok (.getfield 144, 3) := by decide +kernel
theorem dX8_house_61 : decode cX8_house 61 = .ok (.iload_n 1, 1) := by decide +kernel
theorem dX8_house_62 : decode cX8_house 62 = .ok (.iaload, 1) := by decide +kernel
theorem dX8_house_63 : decode cX8_house 63 = .ok (.ireturn, 1) := by decide +kernel
theorem dX8_house_64 : decode cX8_house 64 = .ok (.aload_n 0, 1) := by decide +kernel
theorem dX8_house_65 : decode cX8_house 65 = .ok (.getfield 30, 3) := by decide +kernel
theorem dX8_house_68 : decode cX8_house 68 = .ok (.iload_n 1, 1) := by decide +kernel
theorem dX8_house_69 : decode cX8_house 69 = .ok (.invokevirtual 147, 3) := by decide +kernel
theorem dX8_house_72 : decode cX8_house 72 = .ok (.ireturn, 1) := by decide +kernel
theorem dX8_house_73 : decode cX8_house 73 = .ok (.aload_n 0, 1) := by decide +kernel
theorem dX8_house_74 : decode cX8_house 74 = .ok (.iload_n 1, 1) := by decide +kernel
theorem dX8_house_75 : decode cX8_house 75 = .ok (.invokevirtual 151, 3) := by decide +kernel
theorem dX8_house_78 : decode cX8_house 78 = .ok (.ireturn, 1) := by decide +kernel
theorem dX8_house_79 : decode cX8_house 79 = .ok (.bipush (-2), 2) := by decide +kernel
theorem dX8_house_81 : decode cX8_house 81 = .ok (.ireturn, 1) := by decide +kernel
theorem dX8_hum_0 : decode cX8_hum 0 = .ok (.iload_n 1, 1) := by decide +kernel
theorem dX8_hum_1 : decode cX8_hum 1 = .ok (.invokestatic 304, 3) := by decide +kernel
theorem dX8_hum_4 : decode cX8_hum 4 = .ok (.ifCond .eq 28, 3) := by decide +kernel
theorem dX8_hum_7 : decode cX8_hum 7 = .ok (.iload_n 2, 1) := by decide +kernel
theorem dX8_hum_8 : decode cX8_hum 8 = .ok (.invokestatic 304, 3) := by decide +kernel
theorem dX8_hum_11 : decode cX8_hum 11 = .ok (.ifCond .eq 21, 3) := by decide +kernel
theorem dX8_hum_14 : decode cX8_hum 14 = .ok (.iload_n 3, 1) := by decide +kernel
theorem dX8_hum_15 : decode cX8_hum 15 = .ok (.invokestatic 304, 3) := by decide +kernel
theorem dX8_hum_18 : decode cX8_hum 18 = .ok (.ifCond .eq 14, 3) := by decide +kernel
theorem dX8_hum_21 : decode cX8_hum 21 = .ok (.aload_n 0, 1) := by decide +kernel
theorem dX8_hum_22 : decode cX8_hum 22 = .ok (.iload_n 1, 1) := by decide +kernel
theorem dX8_hum_23 : decode cX8_hum 23 = .ok (.iload_n 2, 1) := by decide +kernel
theorem dX8_hum_24 : decode cX8_hum 24 = .ok (.iload_n 3, 1) := by decide +kernel
theorem dX8_hum_25 : decode cX8_hum 25 = .ok (.iconst 1, 1) := by decide +kernel
theorem dX8_hum_26 : decode cX8_hum 26 = .ok (.invokevirtual 307, 3) := by decide +kernel
theorem dX8_hum_29 : decode cX8_hum 29 = .ok (.goto 4, 3) := by decide +kernel
theorem dX8_hum_32 : decode cX8_hum 32 = .ok (.iconst (-1), 1) := by decide +kernel
theorem dX8_hum_33 : decode cX8_hum 33 = .ok (.ireturn, 1) := by decide +kernel
theorem dX8_idle_0 : decode cX8_idle 0 = .ok (.iconst 0, 1) := by decide +kernel
theorem dX8_idle_1 : decode cX8_idle 1 = .ok (.istore_n 1, 1) := by decide +kernel
theorem dX8_idle_2 : decode cX8_idle 2 = .ok (.iconst 0, 1) := by decide +kernel
theorem dX8_idle_3 : decode cX8_idle 3 = .ok (.istore_n 2, 1) := by decide +kernel
theorem dX8_idle_4 : decode cX8_idle 4 = .ok (.iload_n 2, 1) := by decide +kernel
theorem dX8_idle_5 : decode cX8_idle 5 = .ok (.aload_n 0, 1) := by decide +kernel
theorem dX8_idle_6 : decode cX8_idle 6 = .ok (.getfield 23, 3) := by decide +kernel
theorem dX8_idle_9 : decode cX8_idle 9 = .ok (.getfield 99, 3) := by decide +kernel
theorem dX8_idle_12 : decode cX8_idle 12 = .ok (.if_icmp .ge 27, 3) := by decide +kernel
theorem dX8_idle_15 : decode cX8_idle 15 = .ok (.aload_n 0, 1) := by decide +kernel
theorem dX8_idle_16 : decode cX8_idle 16 = .ok (.getfield 30, 3) := by decide +kernel
theorem dX8_idle_19 : decode cX8_idle 19 = .ok (.iload_n 2, 1) := by decide +kernel
theorem dX8_idle_20 : decode cX8_idle 20 = .ok (.invokevirtual 147, 3) := by decide +kernel
theorem dX8_idle_23 : decode cX8_idle 23 = .ok (.iconst (-1), 1) := by decide +kernel
theorem dX8_idle_24 : decode cX8_idle 24 = .ok (.if_icmp .ne 9, 3) := by decide +kernel
theorem dX8_idle_27 : decode cX8_idle 27 = .ok (.iload_n 1, 1) := by decide +kernel
theorem dX8_idle_28 : decode cX8_idle 28 = .ok (.iconst 1, 1) := by decide +kernel
theorem dX8_idle_29 : decode cX8_idle 29 = .ok (.iload_n 2, 1) := by decide +kernel
theorem dX8_idle_30 : decode cX8_idle 30 = .ok (.ishl, 1) := by decide +kernel
theorem dX8_idle_31 : decode cX8_idle 31 = .ok (.ior, 1) := by decide +kernel
theorem dX8_idle_32 : decode cX8_idle 32 = .ok (.istore_n 1, 1) := by decide +kernel
theorem dX8_idle_33 : decode cX8_idle 33 = .ok (.iinc 2 1, 3) := by decide +kernel
theorem dX8_idle_36 : decode cX8_idle 36 = .ok (.goto (-32), 3) := by decide +kernel
theorem dX8_idle_39 : decode cX8_idle 39 = .ok (.iload_n 1, 1) := by decide +kernel
theorem dX8_idle_40 : decode cX8_idle 40 = .ok (.ireturn, 1) := by decide +kernel
theorem dX8_image_0 : decode cX8_image 0 = .ok (.iload_n 1, 1) := by decide +kernel
theorem dX8_image_1 : decode cX8_image 1 = .ok (.ifCond .lt 8, 3) := by decide +kernel
theorem dX8_image_4 : decode cX8_image 4 = .ok (.iload_n 1, 1) := by decide +kernel
theorem dX8_image_5 : decode cX8_image 5 = .ok (.iconst 3, 1) := by decide +kernel
theorem dX8_image_6 : decode cX8_image 6 = .ok (.if_icmp .lt 5, 3) := by decide +kernel
theorem dX8_image_9 : decode cX8_image 9 = .ok (.iconst (-1), 1) := by decide +kernel
theorem dX8_image_10 : decode cX8_image 10 = .ok (.ireturn, 1) := by decide +kernel
theorem dX8_image_11 : decode cX8_image 11 = .ok (.aload_n 0, 1) := by decide +kernel
theorem dX8_image_12 : decode cX8_image 12 = .ok (.getfield 30, 3) := by decide +kernel
theorem dX8_image_15 : decode cX8_image 15 = .ok (.aload_n 0, 1) := by decide +kernel
theorem dX8_image_16 : decode cX8_image 16 = .ok (.getfield 44, 3) := by decide +kernel
theorem dX8_image_19 : decode cX8_image 19 = .ok (.iload_n 1, 1) := by decide +kernel
theorem dX8_image_20 : decode cX8_image 20 = .ok (.invokevirtual 342, 3) := by decide +kernel
theorem dX8_image_23 : decode cX8_image 23 = .ok (.aload_n 0, 1) := by decide +kernel
theorem dX8_image_24 : decode cX8_image 24 = .ok (.getfield 48, 3) := by decide +kernel
theorem dX8_image_27 : decode cX8_image 27 = .ok (.iload_n 1, 1) := by decide +kernel
theorem dX8_image_28 : decode cX8_image 28 = .ok (.iconst 1, 1) := by decide +kernel
theorem dX8_image_29 : decode cX8_image 29 = .ok (.bastore, 1) := by decide +kernel
theorem dX8_image_30 : decode cX8_image 30 = .ok (.aload_n 0, 1) := by decide +kernel
theorem dX8_image_31 : decode cX8_image 31 = .ok (.getfield 30, 3) := by decide +kernel
theorem dX8_image_34 : decode cX8_image 34 = .ok (.getfield 168, 3) := by decide +kernel
theorem dX8_image_37 : decode cX8_image 37 = .ok (.ireturn, 1) := by decide +kernel
theorem dX8_isBestAgainst_0 : decode cX8_isBestAgainst 0 = .ok (.iload 4, 2) := by decide +kernel
theorem dX8_isBestAgainst_2 : decode cX8_isBestAgainst 2 = .ok (.iload_n 2, 1) := by decide +kernel
theorem dX8_isBestAgainst_3 : decode cX8_isBestAgainst 3 = .ok (.invokestatic 256, 3) := by decide +kernel
theorem dX8_isBestAgainst_6 : decode cX8_isBestAgainst 6 = .ok (.ifCond .ne 5, 3) := by decide +kernel
theorem dX8_isBestAgainst_9 : decode cX8_isBestAgainst 9 = .ok (.iconst 0, 1) := by decide +kernel
theorem dX8_isBestAgainst_10 : decode cX8_isBestAgainst 10 = .ok (.ireturn, 1) := by decide +kernel
theorem dX8_isBestAgainst_11 : decode cX8_isBestAgainst 11 = .ok (.iload_n 2, 1) := by decide +kernel
theorem dX8_isBestAgainst_12 : decode cX8_isBestAgainst 12 = .ok (.iload_n 3, 1) := by decide +kernel
theorem dX8_isBestAgainst_13 : decode cX8_isBestAgainst 13 = .ok (.if_icmp .ne 7, 3) := by decide +kernel
theorem dX8_isBestAgainst_16 : decode cX8_isBestAgainst 16 = .ok (.iconst 0, 1) := by decide +kernel
theorem dX8_isBestAgainst_17 : decode cX8_isBestAgainst 17 = .ok (.goto 9, 3) := by decide +kernel
theorem dX8_isBestAgainst_20 : decode cX8_isBestAgainst 20 = .ok (.aload_n 0, 1) := by decide +kernel
theorem dX8_isBestAgainst_21 : decode cX8_isBestAgainst 21 = .ok (.iload_n 1, 1) := by decide +kernel
theorem dX8_isBestAgainst_22 : decode cX8_isBestAgainst 22 = .ok (.iload_n 2, 1) := by decide +kernel
theorem dX8_isBestAgainst_23 : decode cX8_isBestAgainst 23 = .ok (.invokevirtual 285, 3) := by decide +kernel
theorem dX8_isBestAgainst_26 : decode cX8_isBestAgainst 26 = .ok (.istore 5, 2) := by decide +kernel
theorem dX8_isBestAgainst_28 : decode cX8_isBestAgainst 28 = .ok (.iconst 0, 1) := by decide +kernel
theorem dX8_isBestAgainst_29 : decode cX8_isBestAgainst 29 = .ok (.istore 6, 2) := by decide +kernel
theorem dX8_isBestAgainst_31 : decode cX8_isBestAgainst 31 = .ok (.iload 6, 2) := by decide +kernel
theorem dX8_isBestAgainst_33 : decode cX8_isBestAgainst 33 = .ok (.aload_n 0, 1) := by decide +kernel
theorem dX8_isBestAgainst_34 : decode cX8_isBestAgainst 34 = .ok (.getfield 23, 3) := by decide +kernel
theorem dX8_isBestAgainst_37 : decode cX8_isBestAgainst 37 = .ok (.getfield 108, 3) := by decide +kernel
theorem dX8_isBestAgainst_40 : decode cX8_isBestAgainst 40 = .ok (.if_icmp .ge 47, 3) := by decide +kernel
theorem dX8_isBestAgainst_43 : decode cX8_isBestAgainst 43 = .ok (.iload 6, 2) := by decide +kernel
theorem dX8_isBestAgainst_45 : decode cX8_isBestAgainst 45 = .ok (.iload_n 3, 1) := by decide +kernel
theorem dX8_isBestAgainst_46 : decode cX8_isBestAgainst 46 = .ok (.if_icmp .ne 7, 3) := by decide +kernel
theorem dX8_isBestAgainst_49 : decode cX8_isBestAgainst 49 = .ok (.iconst 0, 1) := by decide +kernel
theorem dX8_isBestAgainst_50 : decode cX8_isBestAgainst 50 = .ok (.goto 10, 3) := by decide +kernel
theorem dX8_isBestAgainst_53 : decode cX8_isBestAgainst 53 = .ok (.aload_n 0, 1) := by decide +kernel
theorem dX8_isBestAgainst_54 : decode cX8_isBestAgainst 54 = .ok (.iload_n 1, 1) := by decide +kernel
theorem dX8_isBestAgainst_55 : decode cX8_isBestAgainst 55 = .ok (.iload 6, 2) := by decide +kernel
theorem dX8_isBestAgainst_57 : decode cX8_isBestAgainst 57 = .ok (.invokevirtual 285, 3) := by decide +kernel
theorem dX8_isBestAgainst_60 : decode cX8_isBestAgainst 60 = .ok (.istore 7, 2) := by decide +kernel
theorem dX8_isBestAgainst_62 : decode cX8_isBestAgainst 62 = .ok (.iload 4, 2) := by decide +kernel
theorem dX8_isBestAgainst_64 : decode cX8_isBestAgainst 64 = .ok (.iload 6, 2) := by decide +kernel
theorem dX8_isBestAgainst_66 : decode cX8_isBestAgainst 66 = .ok (.invokestatic 256, 3) := by decide +kernel
theorem dX8_isBestAgainst_69 : decode cX8_isBestAgainst 69 = .ok (.ifCond .eq 12, 3) := by decide +kernel
theorem dX8_isBestAgainst_72 : decode cX8_isBestAgainst 72 = .ok (.iload 7, 2) := by decide +kernel
theorem dX8_isBestAgainst_74 : decode cX8_isBestAgainst 74 = .ok (.iload 5, 2) := by decide +kernel
theorem dX8_isBestAgainst_76 : decode cX8_isBestAgainst 76 = .ok (.if_icmp .le 5, 3) := by decide +kernel
theorem dX8_isBestAgainst_79 : decode cX8_isBestAgainst 79 = .ok (.iconst 0, 1) := by decide +kernel
theorem dX8_isBestAgainst_80 : decode cX8_isBestAgainst 80 = .ok (.ireturn, 1) := by decide +kernel
theorem dX8_isBestAgainst_81 : decode cX8_isBestAgainst 81 = .ok (.iinc 6 1, 3) := by decide +kernel
theorem dX8_isBestAgainst_84 : decode cX8_isBestAgainst 84 = .ok (.goto (-53), 3) := by decide +kernel
theorem dX8_isBestAgainst_87 : decode cX8_isBestAgainst 87 = .ok (.iconst 1, 1) := by decide +kernel
theorem dX8_isBestAgainst_88 : decode cX8_isBestAgainst 88 = .ok (.ireturn, 1) := by decide +kernel
theorem dX8_isHouse_0 : decode cX8_isHouse 0 = .ok (.iload_n 1, 1) := by decide +kernel
theorem dX8_isHouse_1 : decode cX8_isHouse 1 = .ok (.ifCond .lt 18, 3) := by decide +kernel
theorem dX8_isHouse_4 : decode cX8_isHouse 4 = .ok (.iload_n 1, 1) := by decide +kernel
theorem dX8_isHouse_5 : decode cX8_isHouse 5 = .ok (.aload_n 0, 1) := by decide +kernel
theorem dX8_isHouse_6 : decode cX8_isHouse 6 = .ok (.getfield 23, 3) := by decide +kernel
theorem dX8_isHouse_9 : decode cX8_isHouse 9 = .ok (.getfield 99, 3) := by decide +kernel
theorem dX8_isHouse_12 : decode cX8_isHouse 12 = .ok (.if_icmp .ge 7, 3) := by decide +kernel
theorem dX8_isHouse_15 : decode cX8_isHouse 15 = .ok (.iconst 1, 1) := by decide +kernel
theorem dX8_isHouse_16 : decode cX8_isHouse 16 = .ok (.goto 4, 3) := by decide +kernel
theorem dX8_isHouse_19 : decode cX8_isHouse 19 = .ok (.iconst 0, 1) := by decide +kernel
theorem dX8_isHouse_20 : decode cX8_isHouse 20 = .ok (.ireturn, 1) := by decide +kernel
theorem dX8_isNote_0 : decode cX8_isNote 0 = .ok (.iload_n 0, 1) := by decide +kernel
theorem dX8_isNote_1 : decode cX8_isNote 1 = .ok (.ifCond .lt 13, 3) := by decide +kernel
theorem dX8_isNote_4 : decode cX8_isNote 4 = .ok (.iload_n 0, 1) := by decide +kernel
theorem dX8_isNote_5 : decode cX8_isNote 5 = .ok (.bipush 7, 2) := by decide +kernel
theorem dX8_isNote_7 : decode cX8_isNote 7 = .ok (.if_icmp .ge 7, 3) := by decide +kernel
theorem dX8_isNote_10 : decode cX8_isNote 10 = .ok (.iconst 1, 1) := by decide +kernel
theorem dX8_isNote_11 : decode cX8_isNote 11 = .ok (.goto 4, 3) := by decide +kernel
theorem dX8_isNote_14 : decode cX8_isNote 14 = .ok (.iconst 0, 1) := by decide +kernel
theorem dX8_isNote_15 : decode cX8_isNote 15 = .ok (.ireturn, 1) := by decide +kernel
theorem dX8_isPlace_0 : decode cX8_isPlace 0 = .ok (.iload_n 0, 1) := by decide +kernel
theorem dX8_isPlace_1 : decode cX8_isPlace 1 = .ok (.ifCond .lt 13, 3) := by decide +kernel
theorem dX8_isPlace_4 : decode cX8_isPlace 4 = .ok (.iload_n 0, 1) := by decide +kernel
theorem dX8_isPlace_5 : decode cX8_isPlace 5 = .ok (.bipush 99, 2) := by decide +kernel
theorem dX8_isPlace_7 : decode cX8_isPlace 7 = .ok (.if_icmp .gt 7, 3) := by decide +kernel
theorem dX8_isPlace_10 : decode cX8_isPlace 10 = .ok (.iconst 1, 1) := by decide +kernel
theorem dX8_isPlace_11 : decode cX8_isPlace 11 = .ok (.goto 4, 3) := by decide +kernel
theorem dX8_isPlace_14 : decode cX8_isPlace 14 = .ok (.iconst 0, 1) := by decide +kernel
theorem dX8_isPlace_15 : decode cX8_isPlace 15 = .ok (.ireturn, 1) := by decide +kernel
theorem dX8_isTune_0 : decode cX8_isTune 0 = .ok (.iload_n 1, 1) := by decide +kernel
theorem dX8_isTune_1 : decode cX8_isTune 1 = .ok (.ifCond .lt 18, 3) := by decide +kernel
theorem dX8_isTune_4 : decode cX8_isTune 4 = .ok (.iload_n 1, 1) := by decide +kernel
theorem dX8_isTune_5 : decode cX8_isTune 5 = .ok (.aload_n 0, 1) := by decide +kernel
theorem dX8_isTune_6 : decode cX8_isTune 6 = .ok (.getfield 23, 3) := by decide +kernel
theorem dX8_isTune_9 : decode cX8_isTune 9 = .ok (.getfield 108, 3) := by decide +kernel
theorem dX8_isTune_12 : decode cX8_isTune 12 = .ok (.if_icmp .ge 7, 3) := by decide +kernel
theorem dX8_isTune_15 : decode cX8_isTune 15 = .ok (.iconst 1, 1) := by decide +kernel
theorem dX8_isTune_16 : decode cX8_isTune 16 = .ok (.goto 4, 3) := by decide +kernel
theorem dX8_isTune_19 : decode cX8_isTune 19 = .ok (.iconst 0, 1) := by decide +kernel
theorem dX8_isTune_20 : decode cX8_isTune 20 = .ok (.ireturn, 1) := by decide +kernel
theorem dX8_isWeeksAhead_0 : decode cX8_isWeeksAhead 0 = .ok (.iload_n 0, 1) := by decide +kernel
theorem dX8_isWeeksAhead_1 : decode cX8_isWeeksAhead 1 = .ok (.ifCond .lt 13, 3) := by decide +kernel
theorem dX8_isWeeksAhead_4 : decode cX8_isWeeksAhead 4 = .ok (.iload_n 0, 1) := by decide +kernel
theorem dX8_isWeeksAhead_5 : decode cX8_isWeeksAhead 5 = .ok (.bipush 60, 2) := by decide +kernel
theorem dX8_isWeeksAhead_7 : decode cX8_isWeeksAhead 7 = .ok (.if_icmp .gt 7, 3) := by decide +kernel
theorem dX8_isWeeksAhead_10 : decode cX8_isWeeksAhead 10 = .ok (.iconst 1, 1) := by decide +kernel
theorem dX8_isWeeksAhead_11 : decode cX8_isWeeksAhead 11 = .ok (.goto 4, 3) := by decide +kernel
theorem dX8_isWeeksAhead_14 : decode cX8_isWeeksAhead 14 = .ok (.iconst 0, 1) := by decide +kernel
theorem dX8_isWeeksAhead_15 : decode cX8_isWeeksAhead 15 = .ok (.ireturn, 1) := by decide +kernel
theorem dX8_known_0 : decode cX8_known 0 = .ok (.aload_n 0, 1) := by decide +kernel
theorem dX8_known_1 : decode cX8_known 1 = .ok (.iload_n 1, 1) := by decide +kernel
theorem dX8_known_2 : decode cX8_known 2 = .ok (.invokevirtual 111, 3) := by decide +kernel
theorem dX8_known_5 : decode cX8_known 5 = .ok (.ifCond .eq 13, 3) := by decide +kernel
theorem dX8_known_8 : decode cX8_known 8 = .ok (.aload_n 0, 1) := by decide +kernel
theorem dX8_known_9 : decode cX8_known 9 = .ok (.getfield 23, 3) := by decide +kernel
theorem dX8_known_12 : decode cX8_known 12 = .ok (.getfield 99, 3) := by decide +kernel
theorem dX8_known_15 : decode cX8_known 15 = .ok (.ifCond .ne 5, 3) := by decide +kernel
theorem dX8_known_18 : decode cX8_known 18 = .ok (.iconst (-1), 1) := by decide +kernel
theorem dX8_known_19 : decode cX8_known 19 = .ok (.ireturn, 1) := by decide +kernel
theorem dX8_known_20 : decode cX8_known 20 = .ok (.iload_n 2, 1) := by decide +kernel
theorem dX8_known_21 : decode cX8_known 21 = .ok (.sipush (-999), 3) := by decide +kernel
theorem dX8_known_24 : decode cX8_known 24 = .ok (.if_icmp .lt 10, 3) := by decide +kernel
theorem dX8_known_27 : decode cX8_known 27 = .ok (.iload_n 2, 1) := by decide +kernel
theorem dX8_known_28 : decode cX8_known 28 = .ok (.sipush 999, 3) := by decide +kernel
theorem dX8_known_31 : decode cX8_known 31 = .ok (.if_icmp .le 5, 3) := by decide +kernel
theorem dX8_known_34 : decode cX8_known 34 = .ok (.iconst (-1), 1) := by decide +kernel
theorem dX8_known_35 : decode cX8_known 35 = .ok (.ireturn, 1) := by decide +kernel
theorem dX8_known_36 : decode cX8_known 36 = .ok (.aload_n 0, 1) := by decide +kernel
theorem dX8_known_37 : decode cX8_known 37 = .ok (.getfield 55, 3) := by decide +kernel
theorem dX8_known_40 : decode cX8_known 40 = .ok (.iload_n 1, 1) := by decide +kernel
theorem dX8_known_41 : decode cX8_known 41 = .ok (.iload_n 2, 1) := by decide +kernel
theorem dX8_known_42 : decode cX8_known 42 = .ok (.iload_n 3, 1) := by decide +kernel
theorem dX8_known_43 : decode cX8_known 43 = .ok (.aload_n 0, 1) := by decide +kernel
theorem dX8_known_44 : decode cX8_known 44 = .ok (.getfield 321, 3) := by decide +kernel
theorem dX8_known_47 : decode cX8_known 47 = .ok (.invokevirtual 324, 3) := by decide +kernel
theorem dX8_known_50 : decode cX8_known 50 = .ok (.ireturn, 1) := by decide +kernel
theorem dX8_lane_0 : decode cX8_lane 0 = .ok (.aload_n 0, 1) := by decide +kernel
theorem dX8_lane_1 : decode cX8_lane 1 = .ok (.getfield 16, 3) := by decide +kernel
theorem dX8_lane_4 : decode cX8_lane 4 = .ok (.aload_n 0, 1) := by decide +kernel
theorem dX8_lane_5 : decode cX8_lane 5 = .ok (.getfield 9, 3) := by decide +kernel
theorem dX8_lane_8 : decode cX8_lane 8 = .ok (.aload_n 0, 1) := by decide +kernel
theorem dX8_lane_9 : decode cX8_lane 9 = .ok (.getfield 78, 3) := by decide +kernel
theorem dX8_lane_12 : decode cX8_lane 12 = .ok (.invokevirtual 86, 3) := by decide +kernel
theorem dX8_lane_15 : decode cX8_lane 15 = .ok (.ifCond .ne 5, 3) := by decide +kernel
theorem dX8_lane_18 : decode cX8_lane 18 = .ok (.iconst (-1), 1) := by decide +kernel
theorem dX8_lane_19 : decode cX8_lane 19 = .ok (.ireturn, 1) := by decide +kernel
theorem dX8_lane_20 : decode cX8_lane 20 = .ok (.aload_n 0, 1) := by decide +kernel
theorem dX8_lane_21 : decode cX8_lane 21 = .ok (.aload_n 0, 1) := by decide +kernel
theorem dX8_lane_22 : decode cX8_lane 22 = .ok (.getfield 16, 3) := by decide +kernel
theorem dX8_lane_25 : decode cX8_lane 25 = .ok (.aload_n 0, 1) := by decide +kernel
theorem dX8_lane_26 : decode cX8_lane 26 = .ok (.getfield 23, 3) := by decide +kernel
theorem dX8_lane_29 : decode cX8_lane 29 = .ok (.invokevirtual 90, 3) := by decide +kernel
theorem dX8_lane_32 : decode cX8_lane 32 = .ok (.putfield 23, 3) := by decide +kernel
theorem dX8_lane_35 : decode cX8_lane 35 = .ok (.aload_n 0, 1) := by decide +kernel
theorem dX8_lane_36 : decode cX8_lane 36 = .ok (.iconst 0, 1) := by decide +kernel
theorem dX8_lane_37 : decode cX8_lane 37 = .ok (.putfield 78, 3) := by decide +kernel
theorem dX8_lane_40 : decode cX8_lane 40 = .ok (.aload_n 0, 1) := by decide +kernel
theorem dX8_lane_41 : decode cX8_lane 41 = .ok (.getfield 30, 3) := by decide +kernel
theorem dX8_lane_44 : decode cX8_lane 44 = .ok (.aload_n 0, 1) := by decide +kernel
theorem dX8_lane_45 : decode cX8_lane 45 = .ok (.getfield 23, 3) := by decide +kernel
theorem dX8_lane_48 : decode cX8_lane 48 = .ok (.invokevirtual 71, 3) := by decide +kernel
theorem dX8_lane_51 : decode cX8_lane 51 = .ok (.aload_n 0, 1) := by decide +kernel
theorem dX8_lane_52 : decode cX8_lane 52 = .ok (.getfield 40, 3) := by decide +kernel
theorem dX8_lane_55 : decode cX8_lane 55 = .ok (.aload_n 0, 1) := by decide +kernel
theorem dX8_lane_56 : decode cX8_lane 56 = .ok (.getfield 30, 3) := by decide +kernel
theorem dX8_lane_59 : decode cX8_lane 59 = .ok (.invokevirtual 75, 3) := by decide +kernel
theorem dX8_lane_62 : decode cX8_lane 62 = .ok (.aload_n 0, 1) := by decide +kernel
theorem dX8_lane_63 : decode cX8_lane 63 = .ok (.getfield 55, 3) := by decide +kernel
theorem dX8_lane_66 : decode cX8_lane 66 = .ok (.invokevirtual 94, 3) := by decide +kernel
theorem dX8_lane_69 : decode cX8_lane 69 = .ok (.aload_n 0, 1) := by decide +kernel
theorem dX8_lane_70 : decode cX8_lane 70 = .ok (.iconst 0, 1) := by decide +kernel
theorem dX8_lane_71 : decode cX8_lane 71 = .ok (.putfield 96, 3) := by decide +kernel
theorem dX8_lane_74 : decode cX8_lane 74 = .ok (.iconst 0, 1) := by decide +kernel
theorem dX8_lane_75 : decode cX8_lane 75 = .ok (.istore_n 1, 1) := by decide +kernel
theorem dX8_lane_76 : decode cX8_lane 76 = .ok (.iload_n 1, 1) := by decide +kernel
theorem dX8_lane_77 : decode cX8_lane 77 = .ok (.iconst 3, 1) := by decide +kernel
theorem dX8_lane_78 : decode cX8_lane 78 = .ok (.if_icmp .ge 16, 3) := by decide +kernel
theorem dX8_lane_81 : decode cX8_lane 81 = .ok (.aload_n 0, 1) := by decide +kernel
theorem dX8_lane_82 : decode cX8_lane 82 = .ok (.getfield 48, 3) := by decide +kernel
theorem dX8_lane_85 : decode cX8_lane 85 = .ok (.iload_n 1, 1) := by decide +kernel
theorem dX8_lane_86 : decode cX8_lane 86 = .ok (.iconst 0, 1) := by decide +kernel
theorem dX8_lane_87 : decode cX8_lane 87 = .ok (.bastore, 1) := by decide +kernel
theorem dX8_lane_88 : decode cX8_lane 88 = .ok (.iinc 1 1, 3) := by decide +kernel
theorem dX8_lane_91 : decode cX8_lane 91 = .ok (.goto (-15), 3) := by decide +kernel
theorem dX8_lane_94 : decode cX8_lane 94 = .ok (.aload_n 0, 1) := by decide +kernel
theorem dX8_lane_95 : decode cX8_lane 95 = .ok (.getfield 23, 3) := by decide +kernel
theorem dX8_lane_98 : decode cX8_lane 98 = .ok (.getfield 99, 3) := by decide +kernel
theorem dX8_lane_101 : decode cX8_lane 101 = .ok (.ireturn, 1) := by decide +kernel
theorem dX8_later_0 : decode cX8_later 0 = .ok (.iload_n 1, 1) := by decide +kernel
theorem dX8_later_1 : decode cX8_later 1 = .ok (.ifCond .lt 22, 3) := by decide +kernel
theorem dX8_later_4 : decode cX8_later 4 = .ok (.iload_n 1, 1) := by decide +kernel
theorem dX8_later_5 : decode cX8_later 5 = .ok (.sipush 1000, 3) := by decide +kernel
theorem dX8_later_8 : decode cX8_later 8 = .ok (.if_icmp .gt 15, 3) := by decide +kernel
theorem dX8_later_11 : decode cX8_later 11 = .ok (.aload_n 0, 1) := by decide +kernel
theorem dX8_later_12 : decode cX8_later 12 = .ok (.getfield 321, 3) := by decide +kernel
theorem dX8_later_15 : decode cX8_later 15 = .ok (.iload_n 1, 1) := by decide +kernel
theorem dX8_later_16 : decode cX8_later 16 = .ok (.iadd, 1) := by decide +kernel
theorem dX8_later_17 : decode cX8_later 17 = .ok (.ldc_w 331, 3) := by decide +kernel

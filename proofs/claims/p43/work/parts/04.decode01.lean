theorem dX9_comes_66 : decode cX9_comes 66 = .ok (.invokestatic 194, 3) := by decide +kernel
theorem dX9_comes_69 : decode cX9_comes 69 = .ok (.ifCond .eq 26, 3) := by decide +kernel
theorem dX9_comes_72 : decode cX9_comes 72 = .ok (.aload_n 0, 1) := by decide +kernel
theorem dX9_comes_73 : decode cX9_comes 73 = .ok (.getfield 85, 3) := by decide +kernel
theorem dX9_comes_76 : decode cX9_comes 76 = .ok (.iload_n 1, 1) := by decide +kernel
theorem dX9_comes_77 : decode cX9_comes 77 = .ok (.aload_n 0, 1) := by decide +kernel
theorem dX9_comes_78 : decode cX9_comes 78 = .ok (.iload_n 3, 1) := by decide +kernel
theorem dX9_comes_79 : decode cX9_comes 79 = .ok (.aload_n 0, 1) := by decide +kernel
theorem dX9_comes_80 : decode cX9_comes 80 = .ok (.getfield 76, 3) := by decide +kernel
theorem dX9_comes_83 : decode cX9_comes 83 = .ok (.iload_n 2, 1) := by decide +kernel
theorem dX9_comes_84 : decode cX9_comes 84 = .ok (.iaload, 1) := by decide +kernel
theorem dX9_comes_85 : decode cX9_comes 85 = .ok (.invokevirtual 345, 3) := by decide +kernel
theorem dX9_comes_88 : decode cX9_comes 88 = .ok (.iastore, 1) := by decide +kernel
theorem dX9_comes_89 : decode cX9_comes 89 = .ok (.iinc 1 1, 3) := by decide +kernel
theorem dX9_comes_92 : decode cX9_comes 92 = .ok (.goto 32, 3) := by decide +kernel
theorem dX9_comes_95 : decode cX9_comes 95 = .ok (.iinc 1 (-1), 3) := by decide +kernel
theorem dX9_comes_98 : decode cX9_comes 98 = .ok (.aload_n 0, 1) := by decide +kernel
theorem dX9_comes_99 : decode cX9_comes 99 = .ok (.getfield 85, 3) := by decide +kernel
theorem dX9_comes_102 : decode cX9_comes 102 = .ok (.iload_n 1, 1) := by decide +kernel
theorem dX9_comes_103 : decode cX9_comes 103 = .ok (.iconst 1, 1) := by decide +kernel
theorem dX9_comes_104 : decode cX9_comes 104 = .ok (.isub, 1) := by decide +kernel
theorem dX9_comes_105 : decode cX9_comes 105 = .ok (.iload_n 3, 1) := by decide +kernel
theorem dX9_comes_106 : decode cX9_comes 106 = .ok (.aload_n 0, 1) := by decide +kernel
theorem dX9_comes_107 : decode cX9_comes 107 = .ok (.getfield 85, 3) := by decide +kernel
theorem dX9_comes_110 : decode cX9_comes 110 = .ok (.iload_n 1, 1) := by decide +kernel
theorem dX9_comes_111 : decode cX9_comes 111 = .ok (.iconst 1, 1) := by decide +kernel
theorem dX9_comes_112 : decode cX9_comes 112 = .ok (.isub, 1) := by decide +kernel
theorem dX9_comes_113 : decode cX9_comes 113 = .ok (.iaload, 1) := by decide +kernel
theorem dX9_comes_114 : decode cX9_comes 114 = .ok (.aload_n 0, 1) := by decide +kernel
theorem dX9_comes_115 : decode cX9_comes 115 = .ok (.getfield 85, 3) := by decide +kernel
theorem dX9_comes_118 : decode cX9_comes 118 = .ok (.iload_n 1, 1) := by decide +kernel
theorem dX9_comes_119 : decode cX9_comes 119 = .ok (.iaload, 1) := by decide +kernel
theorem dX9_comes_120 : decode cX9_comes 120 = .ok (.invokestatic 348, 3) := by decide +kernel
theorem dX9_comes_123 : decode cX9_comes 123 = .ok (.iastore, 1) := by decide +kernel
theorem dX9_comes_124 : decode cX9_comes 124 = .ok (.iinc 2 1, 3) := by decide +kernel
theorem dX9_comes_127 : decode cX9_comes 127 = .ok (.goto (-115), 3) := by decide +kernel
theorem dX9_comes_130 : decode cX9_comes 130 = .ok (.aload_n 0, 1) := by decide +kernel
theorem dX9_comes_131 : decode cX9_comes 131 = .ok (.getfield 85, 3) := by decide +kernel
theorem dX9_comes_134 : decode cX9_comes 134 = .ok (.iconst 0, 1) := by decide +kernel
theorem dX9_comes_135 : decode cX9_comes 135 = .ok (.iaload, 1) := by decide +kernel
theorem dX9_comes_136 : decode cX9_comes 136 = .ok (.ireturn, 1) := by decide +kernel
theorem dX9_digit_0 : decode cX9_digit 0 = .ok (.iload_n 1, 1) := by decide +kernel
theorem dX9_digit_1 : decode cX9_digit 1 = .ok (.iload_n 2, 1) := by decide +kernel
theorem dX9_digit_2 : decode cX9_digit 2 = .ok (.aload_n 0, 1) := by decide +kernel
theorem dX9_digit_3 : decode cX9_digit 3 = .ok (.invokevirtual 358, 3) := by decide +kernel
theorem dX9_digit_6 : decode cX9_digit 6 = .ok (.iconst 1, 1) := by decide +kernel
theorem dX9_digit_7 : decode cX9_digit 7 = .ok (.isub, 1) := by decide +kernel
theorem dX9_digit_8 : decode cX9_digit 8 = .ok (.iload_n 3, 1) := by decide +kernel
theorem dX9_digit_9 : decode cX9_digit 9 = .ok (.isub, 1) := by decide +kernel
theorem dX9_digit_10 : decode cX9_digit 10 = .ok (.invokestatic 462, 3) := by decide +kernel
theorem dX9_digit_13 : decode cX9_digit 13 = .ok (.idiv, 1) := by decide +kernel
theorem dX9_digit_14 : decode cX9_digit 14 = .ok (.iload_n 2, 1) := by decide +kernel
theorem dX9_digit_15 : decode cX9_digit 15 = .ok (.irem, 1) := by decide +kernel
theorem dX9_digit_16 : decode cX9_digit 16 = .ok (.ireturn, 1) := by decide +kernel
theorem dX9_divisor_0 : decode cX9_divisor 0 = .ok (.iload_n 0, 1) := by decide +kernel
theorem dX9_divisor_1 : decode cX9_divisor 1 = .ok (.istore_n 2, 1) := by decide +kernel
theorem dX9_divisor_2 : decode cX9_divisor 2 = .ok (.iload_n 1, 1) := by decide +kernel
theorem dX9_divisor_3 : decode cX9_divisor 3 = .ok (.istore_n 3, 1) := by decide +kernel
theorem dX9_divisor_4 : decode cX9_divisor 4 = .ok (.iload_n 3, 1) := by decide +kernel
theorem dX9_divisor_5 : decode cX9_divisor 5 = .ok (.ifCond .le 16, 3) := by decide +kernel
theorem dX9_divisor_8 : decode cX9_divisor 8 = .ok (.iload_n 2, 1) := by decide +kernel
theorem dX9_divisor_9 : decode cX9_divisor 9 = .ok (.iload_n 3, 1) := by decide +kernel
theorem dX9_divisor_10 : decode cX9_divisor 10 = .ok (.irem, 1) := by decide +kernel
theorem dX9_divisor_11 : decode cX9_divisor 11 = .ok (.istore 4, 2) := by decide +kernel
theorem dX9_divisor_13 : decode cX9_divisor 13 = .ok (.iload_n 3, 1) := by decide +kernel
theorem dX9_divisor_14 : decode cX9_divisor 14 = .ok (.istore_n 2, 1) := by decide +kernel
theorem dX9_divisor_15 : decode cX9_divisor 15 = .ok (.iload 4, 2) := by decide +kernel
theorem dX9_divisor_17 : decode cX9_divisor 17 = .ok (.istore_n 3, 1) := by decide +kernel
theorem dX9_divisor_18 : decode cX9_divisor 18 = .ok (.goto (-14), 3) := by decide +kernel
theorem dX9_divisor_21 : decode cX9_divisor 21 = .ok (.iload_n 2, 1) := by decide +kernel
theorem dX9_divisor_22 : decode cX9_divisor 22 = .ok (.ireturn, 1) := by decide +kernel
theorem dX9_doesFit_0 : decode cX9_doesFit 0 = .ok (.iconst 0, 1) := by decide +kernel
theorem dX9_doesFit_1 : decode cX9_doesFit 1 = .ok (.istore_n 3, 1) := by decide +kernel
theorem dX9_doesFit_2 : decode cX9_doesFit 2 = .ok (.iload_n 3, 1) := by decide +kernel
theorem dX9_doesFit_3 : decode cX9_doesFit 3 = .ok (.aload_n 0, 1) := by decide +kernel
theorem dX9_doesFit_4 : decode cX9_doesFit 4 = .ok (.getfield 370, 3) := by decide +kernel
theorem dX9_doesFit_7 : decode cX9_doesFit 7 = .ok (.if_icmp .ge 85, 3) := by decide +kernel
theorem dX9_doesFit_10 : decode cX9_doesFit 10 = .ok (.aload_n 0, 1) := by decide +kernel
theorem dX9_doesFit_11 : decode cX9_doesFit 11 = .ok (.getfield 112, 3) := by decide +kernel
theorem dX9_doesFit_14 : decode cX9_doesFit 14 = .ok (.iload_n 3, 1) := by decide +kernel
theorem dX9_doesFit_15 : decode cX9_doesFit 15 = .ok (.iaload, 1) := by decide +kernel
theorem dX9_doesFit_16 : decode cX9_doesFit 16 = .ok (.iload_n 2, 1) := by decide +kernel
theorem dX9_doesFit_17 : decode cX9_doesFit 17 = .ok (.if_icmp .gt 69, 3) := by decide +kernel
theorem dX9_doesFit_20 : decode cX9_doesFit 20 = .ok (.aload_n 0, 1) := by decide +kernel
theorem dX9_doesFit_21 : decode cX9_doesFit 21 = .ok (.getfield 115, 3) := by decide +kernel
theorem dX9_doesFit_24 : decode cX9_doesFit 24 = .ok (.iload_n 3, 1) := by decide +kernel
theorem dX9_doesFit_25 : decode cX9_doesFit 25 = .ok (.iaload, 1) := by decide +kernel
theorem dX9_doesFit_26 : decode cX9_doesFit 26 = .ok (.ifCond .lt 16, 3) := by decide +kernel
theorem dX9_doesFit_29 : decode cX9_doesFit 29 = .ok (.aload_n 0, 1) := by decide +kernel
theorem dX9_doesFit_30 : decode cX9_doesFit 30 = .ok (.getfield 115, 3) := by decide +kernel
theorem dX9_doesFit_33 : decode cX9_doesFit 33 = .ok (.iload_n 3, 1) := by decide +kernel
theorem dX9_doesFit_34 : decode cX9_doesFit 34 = .ok (.iaload, 1) := by decide +kernel
theorem dX9_doesFit_35 : decode cX9_doesFit 35 = .ok (.iload_n 2, 1) := by decide +kernel
theorem dX9_doesFit_36 : decode cX9_doesFit 36 = .ok (.if_icmp .gt 6, 3) := by decide +kernel
theorem dX9_doesFit_39 : decode cX9_doesFit 39 = .ok (.goto 47, 3) := by decide +kernel
theorem dX9_doesFit_42 : decode cX9_doesFit 42 = .ok (.aload_n 0, 1) := by decide +kernel
theorem dX9_doesFit_43 : decode cX9_doesFit 43 = .ok (.getfield 100, 3) := by decide +kernel
theorem dX9_doesFit_46 : decode cX9_doesFit 46 = .ok (.iconst 5, 1) := by decide +kernel
theorem dX9_doesFit_47 : decode cX9_doesFit 47 = .ok (.iload_n 1, 1) := by decide +kernel
theorem dX9_doesFit_48 : decode cX9_doesFit 48 = .ok (.imul, 1) := by decide +kernel
theorem dX9_doesFit_49 : decode cX9_doesFit 49 = .ok (.aload_n 0, 1) := by decide +kernel
theorem dX9_doesFit_50 : decode cX9_doesFit 50 = .ok (.getfield 103, 3) := by decide +kernel
theorem dX9_doesFit_53 : decode cX9_doesFit 53 = .ok (.iload_n 3, 1) := by decide +kernel
theorem dX9_doesFit_54 : decode cX9_doesFit 54 = .ok (.iaload, 1) := by decide +kernel
theorem dX9_doesFit_55 : decode cX9_doesFit 55 = .ok (.iadd, 1) := by decide +kernel
theorem dX9_doesFit_56 : decode cX9_doesFit 56 = .ok (.iaload, 1) := by decide +kernel
theorem dX9_doesFit_57 : decode cX9_doesFit 57 = .ok (.aload_n 0, 1) := by decide +kernel
theorem dX9_doesFit_58 : decode cX9_doesFit 58 = .ok (.getfield 106, 3) := by decide +kernel
theorem dX9_doesFit_61 : decode cX9_doesFit 61 = .ok (.iload_n 3, 1) := by decide +kernel
theorem dX9_doesFit_62 : decode cX9_doesFit 62 = .ok (.iaload, 1) := by decide +kernel
theorem dX9_doesFit_63 : decode cX9_doesFit 63 = .ok (.if_icmp .lt 7, 3) := by decide +kernel
theorem dX9_doesFit_66 : decode cX9_doesFit 66 = .ok (.iconst 1, 1) := by decide +kernel
theorem dX9_doesFit_67 : decode cX9_doesFit 67 = .ok (.goto 4, 3) := by decide +kernel
theorem dX9_doesFit_70 : decode cX9_doesFit 70 = .ok (.iconst 0, 1) := by decide +kernel
theorem dX9_doesFit_71 : decode cX9_doesFit 71 = .ok (.istore 4, 2) := by decide +kernel
theorem dX9_doesFit_73 : decode cX9_doesFit 73 = .ok (.iload 4, 2) := by decide +kernel
theorem dX9_doesFit_75 : decode cX9_doesFit 75 = .ok (.aload_n 0, 1) := by decide +kernel
theorem dX9_doesFit_76 : decode cX9_doesFit 76 = .ok (.getfield 109, 3) := by decide +kernel
theorem dX9_doesFit_79 : decode cX9_doesFit 79 = .ok (.iload_n 3, 1) := by decide +kernel
theorem dX9_doesFit_80 : decode cX9_doesFit 80 = .ok (.iaload, 1) := by decide +kernel
theorem dX9_doesFit_81 : decode cX9_doesFit 81 = .ok (.if_icmp .eq 5, 3) := by decide +kernel
theorem dX9_doesFit_84 : decode cX9_doesFit 84 = .ok (.iconst 0, 1) := by decide +kernel
theorem dX9_doesFit_85 : decode cX9_doesFit 85 = .ok (.ireturn, 1) := by decide +kernel
theorem dX9_doesFit_86 : decode cX9_doesFit 86 = .ok (.iinc 3 1, 3) := by decide +kernel
theorem dX9_doesFit_89 : decode cX9_doesFit 89 = .ok (.goto (-87), 3) := by decide +kernel
theorem dX9_doesFit_92 : decode cX9_doesFit 92 = .ok (.iconst 1, 1) := by decide +kernel
theorem dX9_doesFit_93 : decode cX9_doesFit 93 = .ok (.ireturn, 1) := by decide +kernel
theorem dX9_doesTake_0 : decode cX9_doesTake 0 = .ok (.aload_n 0, 1) := by decide +kernel
theorem dX9_doesTake_1 : decode cX9_doesTake 1 = .ok (.getfield 88, 3) := by decide +kernel
theorem dX9_doesTake_4 : decode cX9_doesTake 4 = .ok (.bipush 20, 2) := by decide +kernel
theorem dX9_doesTake_6 : decode cX9_doesTake 6 = .ok (.iload_n 1, 1) := by decide +kernel
theorem dX9_doesTake_7 : decode cX9_doesTake 7 = .ok (.iadd, 1) := by decide +kernel
theorem dX9_doesTake_8 : decode cX9_doesTake 8 = .ok (.iaload, 1) := by decide +kernel
theorem dX9_doesTake_9 : decode cX9_doesTake 9 = .ok (.aload_n 0, 1) := by decide +kernel
theorem dX9_doesTake_10 : decode cX9_doesTake 10 = .ok (.iload_n 2, 1) := by decide +kernel
theorem dX9_doesTake_11 : decode cX9_doesTake 11 = .ok (.invokevirtual 342, 3) := by decide +kernel
theorem dX9_doesTake_14 : decode cX9_doesTake 14 = .ok (.if_icmp .lt 25, 3) := by decide +kernel
theorem dX9_doesTake_17 : decode cX9_doesTake 17 = .ok (.aload_n 0, 1) := by decide +kernel
theorem dX9_doesTake_18 : decode cX9_doesTake 18 = .ok (.iload_n 1, 1) := by decide +kernel
theorem dX9_doesTake_19 : decode cX9_doesTake 19 = .ok (.iload_n 2, 1) := by decide +kernel
theorem dX9_doesTake_20 : decode cX9_doesTake 20 = .ok (.aload_n 0, 1) := by decide +kernel
theorem dX9_doesTake_21 : decode cX9_doesTake 21 = .ok (.getfield 20, 3) := by decide +kernel
theorem dX9_doesTake_24 : decode cX9_doesTake 24 = .ok (.aload_n 0, 1) := by decide +kernel
theorem dX9_doesTake_25 : decode cX9_doesTake 25 = .ok (.getfield 249, 3) := by decide +kernel
theorem dX9_doesTake_28 : decode cX9_doesTake 28 = .ok (.iaload, 1) := by decide +kernel
theorem dX9_doesTake_29 : decode cX9_doesTake 29 = .ok (.invokevirtual 399, 3) := by decide +kernel
theorem dX9_doesTake_32 : decode cX9_doesTake 32 = .ok (.ifCond .le 7, 3) := by decide +kernel
theorem dX9_doesTake_35 : decode cX9_doesTake 35 = .ok (.iconst 1, 1) := by decide +kernel
theorem dX9_doesTake_36 : decode cX9_doesTake 36 = .ok (.goto 4, 3) := by decide +kernel
theorem dX9_doesTake_39 : decode cX9_doesTake 39 = .ok (.iconst 0, 1) := by decide +kernel
theorem dX9_doesTake_40 : decode cX9_doesTake 40 = .ok (.ireturn, 1) := by decide +kernel
theorem dX9_due_0 : decode cX9_due 0 = .ok (.aload_n 0, 1) := by decide +kernel
theorem dX9_due_1 : decode cX9_due 1 = .ok (.iload_n 1, 1) := by decide +kernel
theorem dX9_due_2 : decode cX9_due 2 = .ok (.invokevirtual 412, 3) := by decide +kernel
theorem dX9_due_5 : decode cX9_due 5 = .ok (.ifCond .eq 39, 3) := by decide +kernel
theorem dX9_due_8 : decode cX9_due 8 = .ok (.aload_n 0, 1) := by decide +kernel
theorem dX9_due_9 : decode cX9_due 9 = .ok (.iload_n 1, 1) := by decide +kernel
theorem dX9_due_10 : decode cX9_due 10 = .ok (.invokevirtual 440, 3) := by decide +kernel
theorem dX9_due_13 : decode cX9_due 13 = .ok (.ifCond .eq 31, 3) := by decide +kernel
theorem dX9_due_16 : decode cX9_due 16 = .ok (.aload_n 0, 1) := by decide +kernel
theorem dX9_due_17 : decode cX9_due 17 = .ok (.getfield 20, 3) := by decide +kernel
theorem dX9_due_20 : decode cX9_due 20 = .ok (.aload_n 0, 1) := by decide +kernel
theorem dX9_due_21 : decode cX9_due 21 = .ok (.getfield 249, 3) := by decide +kernel
theorem dX9_due_24 : decode cX9_due 24 = .ok (.iaload, 1) := by decide +kernel
theorem dX9_due_25 : decode cX9_due 25 = .ok (.aload_n 0, 1) := by decide +kernel
theorem dX9_due_26 : decode cX9_due 26 = .ok (.getfield 88, 3) := by decide +kernel
theorem dX9_due_29 : decode cX9_due 29 = .ok (.bipush 15, 2) := by decide +kernel
theorem dX9_due_31 : decode cX9_due 31 = .ok (.iload_n 1, 1) := by decide +kernel
theorem dX9_due_32 : decode cX9_due 32 = .ok (.iadd, 1) := by decide +kernel
theorem dX9_due_33 : decode cX9_due 33 = .ok (.iaload, 1) := by decide +kernel
theorem dX9_due_34 : decode cX9_due 34 = .ok (.isub, 1) := by decide +kernel
theorem dX9_due_35 : decode cX9_due 35 = .ok (.iconst 1, 1) := by decide +kernel
theorem dX9_due_36 : decode cX9_due 36 = .ok (.bipush 60, 2) := by decide +kernel
theorem dX9_due_38 : decode cX9_due 38 = .ok (.invokestatic 376, 3) := by decide +kernel
theorem dX9_due_41 : decode cX9_due 41 = .ok (.goto 4, 3) := by decide +kernel
theorem dX9_due_44 : decode cX9_due 44 = .ok (.iconst (-1), 1) := by decide +kernel
theorem dX9_due_45 : decode cX9_due 45 = .ok (.ireturn, 1) := by decide +kernel
theorem dX9_e_0 : decode cX9_e 0 = .ok (.aload_n 0, 1) := by decide +kernel
theorem dX9_e_1 : decode cX9_e 1 = .ok (.iconst 0, 1) := by decide +kernel
theorem dX9_e_2 : decode cX9_e 2 = .ok (.putfield 296, 3) := by decide +kernel
theorem dX9_e_5 : decode cX9_e 5 = .ok (.aload_n 0, 1) := by decide +kernel
theorem dX9_e_6 : decode cX9_e 6 = .ok (.iconst 0, 1) := by decide +kernel
theorem dX9_e_7 : decode cX9_e 7 = .ok (.putfield 299, 3) := by decide +kernel
theorem dX9_e_10 : decode cX9_e 10 = .ok (.aload_n 0, 1) := by decide +kernel
theorem dX9_e_11 : decode cX9_e 11 = .ok (.bipush 8, 2) := by decide +kernel
theorem dX9_e_13 : decode cX9_e 13 = .ok (.iconst 0, 1) := by decide +kernel
theorem dX9_e_14 : decode cX9_e 14 = .ok (.invokevirtual 302, 3) := by decide +kernel
theorem dX9_e_17 : decode cX9_e 17 = .ok (.iconst 1, 1) := by decide +kernel
theorem dX9_e_18 : decode cX9_e 18 = .ok (.istore_n 1, 1) := by decide +kernel
theorem dX9_e_19 : decode cX9_e 19 = .ok (.aload_n 0, 1) := by decide +kernel
theorem dX9_e_20 : decode cX9_e 20 = .ok (.invokevirtual 219, 3) := by decide +kernel
theorem dX9_e_23 : decode cX9_e 23 = .ok (.ifCond .eq 29, 3) := by decide +kernel
theorem dX9_e_26 : decode cX9_e 26 = .ok (.aload_n 0, 1) := by decide +kernel
theorem dX9_e_27 : decode cX9_e 27 = .ok (.getfield 296, 3) := by decide +kernel
theorem dX9_e_30 : decode cX9_e 30 = .ok (.ifCond .le 22, 3) := by decide +kernel
theorem dX9_e_33 : decode cX9_e 33 = .ok (.iload_n 1, 1) := by decide +kernel
theorem dX9_e_34 : decode cX9_e 34 = .ok (.ifCond .eq 10, 3) := by decide +kernel
theorem dX9_e_37 : decode cX9_e 37 = .ok (.aload_n 0, 1) := by decide +kernel
theorem dX9_e_38 : decode cX9_e 38 = .ok (.invokevirtual 305, 3) := by decide +kernel
theorem dX9_e_41 : decode cX9_e 41 = .ok (.goto 7, 3) := by decide +kernel
theorem dX9_e_44 : decode cX9_e 44 = .ok (.aload_n 0, 1) := by decide +kernel
theorem dX9_e_45 : decode cX9_e 45 = .ok (.invokevirtual 308, 3) := by decide +kernel
theorem dX9_e_48 : decode cX9_e 48 = .ok (.istore_n 1, 1) := by decide +kernel
theorem dX9_e_49 : decode cX9_e 49 = .ok (.goto (-30), 3) := by decide +kernel
theorem dX9_e_52 : decode cX9_e 52 = .ok (.return_, 1) := by decide +kernel
theorem dX9_earned_0 : decode cX9_earned 0 = .ok (.iconst 0, 1) := by decide +kernel
theorem dX9_earned_1 : decode cX9_earned 1 = .ok (.istore_n 1, 1) := by decide +kernel
theorem dX9_earned_2 : decode cX9_earned 2 = .ok (.iconst 0, 1) := by decide +kernel
theorem dX9_earned_3 : decode cX9_earned 3 = .ok (.istore_n 2, 1) := by decide +kernel
theorem dX9_earned_4 : decode cX9_earned 4 = .ok (.iload_n 2, 1) := by decide +kernel
theorem dX9_earned_5 : decode cX9_earned 5 = .ok (.aload_n 0, 1) := by decide +kernel
theorem dX9_earned_6 : decode cX9_earned 6 = .ok (.invokevirtual 351, 3) := by decide +kernel
theorem dX9_earned_9 : decode cX9_earned 9 = .ok (.if_icmp .ge 26, 3) := by decide +kernel
theorem dX9_earned_12 : decode cX9_earned 12 = .ok (.iload_n 1, 1) := by decide +kernel
theorem dX9_earned_13 : decode cX9_earned 13 = .ok (.aload_n 0, 1) := by decide +kernel
theorem dX9_earned_14 : decode cX9_earned 14 = .ok (.getfield 88, 3) := by decide +kernel
theorem dX9_earned_17 : decode cX9_earned 17 = .ok (.iconst 5, 1) := by decide +kernel
theorem dX9_earned_18 : decode cX9_earned 18 = .ok (.iload_n 2, 1) := by decide +kernel
theorem dX9_earned_19 : decode cX9_earned 19 = .ok (.iadd, 1) := by decide +kernel
theorem dX9_earned_20 : decode cX9_earned 20 = .ok (.iaload, 1) := by decide +kernel
theorem dX9_earned_21 : decode cX9_earned 21 = .ok (.aload_n 0, 1) := by decide +kernel
theorem dX9_earned_22 : decode cX9_earned 22 = .ok (.iload_n 2, 1) := by decide +kernel
theorem dX9_earned_23 : decode cX9_earned 23 = .ok (.invokevirtual 342, 3) := by decide +kernel
theorem dX9_earned_26 : decode cX9_earned 26 = .ok (.imul, 1) := by decide +kernel
theorem dX9_earned_27 : decode cX9_earned 27 = .ok (.iadd, 1) := by decide +kernel
theorem dX9_earned_28 : decode cX9_earned 28 = .ok (.istore_n 1, 1) := by decide +kernel
theorem dX9_earned_29 : decode cX9_earned 29 = .ok (.iinc 2 1, 3) := by decide +kernel
theorem dX9_earned_32 : decode cX9_earned 32 = .ok (.goto (-28), 3) := by decide +kernel
theorem dX9_earned_35 : decode cX9_earned 35 = .ok (.iload_n 1, 1) := by decide +kernel
theorem dX9_earned_36 : decode cX9_earned 36 = .ok (.ireturn, 1) := by decide +kernel
theorem dX9_emit_0 : decode cX9_emit 0 = .ok (.aload_n 0, 1) := by decide +kernel
theorem dX9_emit_1 : decode cX9_emit 1 = .ok (.getfield 73, 3) := by decide +kernel
theorem dX9_emit_4 : decode cX9_emit 4 = .ok (.aload_n 0, 1) := by decide +kernel
theorem dX9_emit_5 : decode cX9_emit 5 = .ok (.getfield 243, 3) := by decide +kernel
theorem dX9_emit_8 : decode cX9_emit 8 = .ok (.iload_n 1, 1) := by decide +kernel
theorem dX9_emit_9 : decode cX9_emit 9 = .ok (.iastore, 1) := by decide +kernel
theorem dX9_emit_10 : decode cX9_emit 10 = .ok (.aload_n 0, 1) := by decide +kernel
theorem dX9_emit_11 : decode cX9_emit 11 = .ok (.getfield 76, 3) := by decide +kernel
theorem dX9_emit_14 : decode cX9_emit 14 = .ok (.aload_n 0, 1) := by decide +kernel
theorem dX9_emit_15 : decode cX9_emit 15 = .ok (.getfield 243, 3) := by decide +kernel
theorem dX9_emit_18 : decode cX9_emit 18 = .ok (.iload_n 2, 1) := by decide +kernel
theorem dX9_emit_19 : decode cX9_emit 19 = .ok (.iastore, 1) := by decide +kernel
theorem dX9_emit_20 : decode cX9_emit 20 = .ok (.aload_n 0, 1) := by decide +kernel
theorem dX9_emit_21 : decode cX9_emit 21 = .ok (.dup, 1) := by decide +kernel
theorem dX9_emit_22 : decode cX9_emit 22 = .ok (.getfield 243, 3) := by decide +kernel
theorem dX9_emit_25 : decode cX9_emit 25 = .ok (.iconst 1, 1) := by decide +kernel
theorem dX9_emit_26 : decode cX9_emit 26 = .ok (.iadd, 1) := by decide +kernel
theorem dX9_emit_27 : decode cX9_emit 27 = .ok (.putfield 243, 3) := by decide +kernel
theorem dX9_emit_30 : decode cX9_emit 30 = .ok (.return_, 1) := by decide +kernel
theorem dX9_end_0 : decode cX9_end 0 = .ok (.iload_n 1, 1) := by decide +kernel
theorem dX9_end_1 : decode cX9_end 1 = .ok (.ifCond .lt 11, 3) := by decide +kernel
theorem dX9_end_4 : decode cX9_end 4 = .ok (.iload_n 1, 1) := by decide +kernel
theorem dX9_end_5 : decode cX9_end 5 = .ok (.aload_n 0, 1) := by decide +kernel
theorem dX9_end_6 : decode cX9_end 6 = .ok (.getfield 246, 3) := by decide +kernel
theorem dX9_end_9 : decode cX9_end 9 = .ok (.if_icmp .le 5, 3) := by decide +kernel
theorem dX9_end_12 : decode cX9_end 12 = .ok (.iconst (-1), 1) := by decide +kernel
theorem dX9_end_13 : decode cX9_end 13 = .ok (.ireturn, 1) := by decide +kernel
theorem dX9_end_14 : decode cX9_end 14 = .ok (.aload_n 0, 1) := by decide +kernel
theorem dX9_end_15 : decode cX9_end 15 = .ok (.iload_n 1, 1) := by decide +kernel
theorem dX9_end_16 : decode cX9_end 16 = .ok (.putfield 246, 3) := by decide +kernel
theorem dX9_end_19 : decode cX9_end 19 = .ok (.iload_n 1, 1) := by decide +kernel
theorem dX9_end_20 : decode cX9_end 20 = .ok (.ireturn, 1) := by decide +kernel
theorem dX9_fails_0 : decode cX9_fails 0 = .ok (.aload_n 0, 1) := by decide +kernel
theorem dX9_fails_1 : decode cX9_fails 1 = .ok (.getfield 140, 3) := by decide +kernel
theorem dX9_fails_4 : decode cX9_fails 4 = .ok (.ifCond .le 4, 3) := by decide +kernel
theorem dX9_fails_7 : decode cX9_fails 7 = .ok (.return_, 1) := by decide +kernel
theorem dX9_fails_8 : decode cX9_fails 8 = .ok (.aload_n 0, 1) := by decide +kernel
theorem dX9_fails_9 : decode cX9_fails 9 = .ok (.iload_n 1, 1) := by decide +kernel
theorem dX9_fails_10 : decode cX9_fails 10 = .ok (.putfield 140, 3) := by decide +kernel
theorem dX9_fails_13 : decode cX9_fails 13 = .ok (.aload_n 0, 1) := by decide +kernel
theorem dX9_fails_14 : decode cX9_fails 14 = .ok (.iload_n 2, 1) := by decide +kernel
theorem dX9_fails_15 : decode cX9_fails 15 = .ok (.putfield 16, 3) := by decide +kernel
theorem dX9_fails_18 : decode cX9_fails 18 = .ok (.return_, 1) := by decide +kernel
theorem dX9_fashion_0 : decode cX9_fashion 0 = .ok (.iconst (-1), 1) := by decide +kernel
theorem dX9_fashion_1 : decode cX9_fashion 1 = .ok (.istore_n 1, 1) := by decide +kernel
theorem dX9_fashion_2 : decode cX9_fashion 2 = .ok (.iconst 0, 1) := by decide +kernel
theorem dX9_fashion_3 : decode cX9_fashion 3 = .ok (.istore_n 2, 1) := by decide +kernel
theorem dX9_fashion_4 : decode cX9_fashion 4 = .ok (.iconst 0, 1) := by decide +kernel
theorem dX9_fashion_5 : decode cX9_fashion 5 = .ok (.istore_n 3, 1) := by decide +kernel
theorem dX9_fashion_6 : decode cX9_fashion 6 = .ok (.iload_n 3, 1) := by decide +kernel
theorem dX9_fashion_7 : decode cX9_fashion 7 = .ok (.bipush 7, 2) := by decide +kernel
theorem dX9_fashion_9 : decode cX9_fashion 9 = .ok (.if_icmp .ge 87, 3) := by decide +kernel
theorem dX9_fashion_12 : decode cX9_fashion 12 = .ok (.iconst 0, 1) := by decide +kernel
theorem dX9_fashion_13 : decode cX9_fashion 13 = .ok (.istore 4, 2) := by decide +kernel
theorem dX9_fashion_15 : decode cX9_fashion 15 = .ok (.iconst 0, 1) := by decide +kernel
theorem dX9_fashion_16 : decode cX9_fashion 16 = .ok (.istore 5, 2) := by decide +kernel
theorem dX9_fashion_18 : decode cX9_fashion 18 = .ok (.iload 5, 2) := by decide +kernel
theorem dX9_fashion_20 : decode cX9_fashion 20 = .ok (.aload_n 0, 1) := by decide +kernel
theorem dX9_fashion_21 : decode cX9_fashion 21 = .ok (.invokevirtual 358, 3) := by decide +kernel
theorem dX9_fashion_24 : decode cX9_fashion 24 = .ok (.if_icmp .ge 52, 3) := by decide +kernel
theorem dX9_fashion_27 : decode cX9_fashion 27 = .ok (.iload 4, 2) := by decide +kernel
theorem dX9_fashion_29 : decode cX9_fashion 29 = .ok (.aload_n 0, 1) := by decide +kernel
theorem dX9_fashion_30 : decode cX9_fashion 30 = .ok (.iload 5, 2) := by decide +kernel
theorem dX9_fashion_32 : decode cX9_fashion 32 = .ok (.iconst 0, 1) := by decide +kernel
theorem dX9_fashion_33 : decode cX9_fashion 33 = .ok (.invokevirtual 386, 3) := by decide +kernel
theorem dX9_fashion_36 : decode cX9_fashion 36 = .ok (.iload_n 3, 1) := by decide +kernel
theorem dX9_fashion_37 : decode cX9_fashion 37 = .ok (.if_icmp .eq 25, 3) := by decide +kernel
theorem dX9_fashion_40 : decode cX9_fashion 40 = .ok (.aload_n 0, 1) := by decide +kernel
theorem dX9_fashion_41 : decode cX9_fashion 41 = .ok (.iload 5, 2) := by decide +kernel
theorem dX9_fashion_43 : decode cX9_fashion 43 = .ok (.iconst 1, 1) := by decide +kernel
theorem dX9_fashion_44 : decode cX9_fashion 44 = .ok (.invokevirtual 386, 3) := by decide +kernel
theorem dX9_fashion_47 : decode cX9_fashion 47 = .ok (.iload_n 3, 1) := by decide +kernel
theorem dX9_fashion_48 : decode cX9_fashion 48 = .ok (.if_icmp .eq 14, 3) := by decide +kernel
theorem dX9_fashion_51 : decode cX9_fashion 51 = .ok (.aload_n 0, 1) := by decide +kernel
theorem dX9_fashion_52 : decode cX9_fashion 52 = .ok (.iload 5, 2) := by decide +kernel
theorem dX9_fashion_54 : decode cX9_fashion 54 = .ok (.iconst 2, 1) := by decide +kernel
theorem dX9_fashion_55 : decode cX9_fashion 55 = .ok (.invokevirtual 386, 3) := by decide +kernel
theorem dX9_fashion_58 : decode cX9_fashion 58 = .ok (.iload_n 3, 1) := by decide +kernel
theorem dX9_fashion_59 : decode cX9_fashion 59 = .ok (.if_icmp .ne 7, 3) := by decide +kernel
theorem dX9_fashion_62 : decode cX9_fashion 62 = .ok (.iconst 1, 1) := by decide +kernel
theorem dX9_fashion_63 : decode cX9_fashion 63 = .ok (.goto 4, 3) := by decide +kernel
theorem dX9_fashion_66 : decode cX9_fashion 66 = .ok (.iconst 0, 1) := by decide +kernel
theorem dX9_fashion_67 : decode cX9_fashion 67 = .ok (.iadd, 1) := by decide +kernel
theorem dX9_fashion_68 : decode cX9_fashion 68 = .ok (.istore 4, 2) := by decide +kernel
theorem dX9_fashion_70 : decode cX9_fashion 70 = .ok (.iinc 5 1, 3) := by decide +kernel
theorem dX9_fashion_73 : decode cX9_fashion 73 = .ok (.goto (-55), 3) := by decide +kernel
theorem dX9_fashion_76 : decode cX9_fashion 76 = .ok (.iload 4, 2) := by decide +kernel
theorem dX9_fashion_78 : decode cX9_fashion 78 = .ok (.iload_n 2, 1) := by decide +kernel
theorem dX9_fashion_79 : decode cX9_fashion 79 = .ok (.if_icmp .gt 6, 3) := by decide +kernel
theorem dX9_fashion_82 : decode cX9_fashion 82 = .ok (.goto 8, 3) := by decide +kernel
theorem dX9_fashion_85 : decode cX9_fashion 85 = .ok (.iload_n 3, 1) := by decide +kernel
theorem dX9_fashion_86 : decode cX9_fashion 86 = .ok (.istore_n 1, 1) := by decide +kernel
theorem dX9_fashion_87 : decode cX9_fashion 87 = .ok (.iload 4, 2) := by decide +kernel
theorem dX9_fashion_89 : decode cX9_fashion 89 = .ok (.istore_n 2, 1) := by decide +kernel
theorem dX9_fashion_90 : decode cX9_fashion 90 = .ok (.iinc 3 1, 3) := by decide +kernel
theorem dX9_fashion_93 : decode cX9_fashion 93 = .ok (.goto (-87), 3) := by decide +kernel
theorem dX9_fashion_96 : decode cX9_fashion 96 = .ok (.iload_n 1, 1) := by decide +kernel
theorem dX9_fashion_97 : decode cX9_fashion 97 = .ok (.ireturn, 1) := by decide +kernel
theorem dX9_fault_0 : decode cX9_fault 0 = .ok (.iload_n 1, 1) := by decide +kernel
theorem dX9_fault_1 : decode cX9_fault 1 = .ok (.ifCond .ne 10, 3) := by decide +kernel
theorem dX9_fault_4 : decode cX9_fault 4 = .ok (.aload_n 0, 1) := by decide +kernel
theorem dX9_fault_5 : decode cX9_fault 5 = .ok (.getfield 140, 3) := by decide +kernel
theorem dX9_fault_8 : decode cX9_fault 8 = .ok (.goto 16, 3) := by decide +kernel
theorem dX9_fault_11 : decode cX9_fault 11 = .ok (.iload_n 1, 1) := by decide +kernel
theorem dX9_fault_12 : decode cX9_fault 12 = .ok (.iconst 1, 1) := by decide +kernel
theorem dX9_fault_13 : decode cX9_fault 13 = .ok (.if_icmp .ne 10, 3) := by decide +kernel
theorem dX9_fault_16 : decode cX9_fault 16 = .ok (.aload_n 0, 1) := by decide +kernel
theorem dX9_fault_17 : decode cX9_fault 17 = .ok (.getfield 16, 3) := by decide +kernel
theorem dX9_fault_20 : decode cX9_fault 20 = .ok (.goto 4, 3) := by decide +kernel
theorem dX9_fault_23 : decode cX9_fault 23 = .ok (.iconst (-1), 1) := by decide +kernel
theorem dX9_fault_24 : decode cX9_fault 24 = .ok (.ireturn, 1) := by decide +kernel
theorem dX9_favourite_0 : decode cX9_favourite 0 = .ok (.iconst (-1), 1) := by decide +kernel
theorem dX9_favourite_1 : decode cX9_favourite 1 = .ok (.istore_n 1, 1) := by decide +kernel
theorem dX9_favourite_2 : decode cX9_favourite 2 = .ok (.iconst 0, 1) := by decide +kernel
theorem dX9_favourite_3 : decode cX9_favourite 3 = .ok (.istore_n 2, 1) := by decide +kernel
theorem dX9_favourite_4 : decode cX9_favourite 4 = .ok (.iload_n 2, 1) := by decide +kernel
theorem dX9_favourite_5 : decode cX9_favourite 5 = .ok (.aload_n 0, 1) := by decide +kernel
theorem dX9_favourite_6 : decode cX9_favourite 6 = .ok (.invokevirtual 351, 3) := by decide +kernel
theorem dX9_favourite_9 : decode cX9_favourite 9 = .ok (.if_icmp .ge 34, 3) := by decide +kernel
theorem dX9_favourite_12 : decode cX9_favourite 12 = .ok (.iload_n 1, 1) := by decide +kernel
theorem dX9_favourite_13 : decode cX9_favourite 13 = .ok (.ifCond .lt 22, 3) := by decide +kernel
theorem dX9_favourite_16 : decode cX9_favourite 16 = .ok (.aload_n 0, 1) := by decide +kernel
theorem dX9_favourite_17 : decode cX9_favourite 17 = .ok (.iload_n 2, 1) := by decide +kernel
theorem dX9_favourite_18 : decode cX9_favourite 18 = .ok (.invokevirtual 437, 3) := by decide +kernel
theorem dX9_favourite_21 : decode cX9_favourite 21 = .ok (.invokestatic 431, 3) := by decide +kernel
theorem dX9_favourite_24 : decode cX9_favourite 24 = .ok (.aload_n 0, 1) := by decide +kernel
theorem dX9_favourite_25 : decode cX9_favourite 25 = .ok (.iload_n 1, 1) := by decide +kernel
theorem dX9_favourite_26 : decode cX9_favourite 26 = .ok (.invokevirtual 437, 3) := by decide +kernel
theorem dX9_favourite_29 : decode cX9_favourite 29 = .ok (.invokestatic 431, 3) := by decide +kernel
theorem dX9_favourite_32 : decode cX9_favourite 32 = .ok (.if_icmp .le 5, 3) := by decide +kernel
theorem dX9_favourite_35 : decode cX9_favourite 35 = .ok (.iload_n 2, 1) := by decide +kernel
theorem dX9_favourite_36 : decode cX9_favourite 36 = .ok (.istore_n 1, 1) := by decide +kernel
theorem dX9_favourite_37 : decode cX9_favourite 37 = .ok (.iinc 2 1, 3) := by decide +kernel
theorem dX9_favourite_40 : decode cX9_favourite 40 = .ok (.goto (-36), 3) := by decide +kernel
theorem dX9_favourite_43 : decode cX9_favourite 43 = .ok (.iload_n 1, 1) := by decide +kernel
theorem dX9_favourite_44 : decode cX9_favourite 44 = .ok (.ireturn, 1) := by decide +kernel
theorem dX9_feed_0 : decode cX9_feed 0 = .ok (.aload_n 0, 1) := by decide +kernel
theorem dX9_feed_1 : decode cX9_feed 1 = .ok (.getfield 246, 3) := by decide +kernel
theorem dX9_feed_4 : decode cX9_feed 4 = .ok (.bipush 20, 2) := by decide +kernel
theorem dX9_feed_6 : decode cX9_feed 6 = .ok (.iadd, 1) := by decide +kernel
theorem dX9_feed_7 : decode cX9_feed 7 = .ok (.sipush 1600, 3) := by decide +kernel
theorem dX9_feed_10 : decode cX9_feed 10 = .ok (.if_icmp .le 5, 3) := by decide +kernel
theorem dX9_feed_13 : decode cX9_feed 13 = .ok (.iconst (-1), 1) := by decide +kernel
theorem dX9_feed_14 : decode cX9_feed 14 = .ok (.ireturn, 1) := by decide +kernel
theorem dX9_feed_15 : decode cX9_feed 15 = .ok (.iconst 0, 1) := by decide +kernel
theorem dX9_feed_16 : decode cX9_feed 16 = .ok (.istore 6, 2) := by decide +kernel
theorem dX9_feed_18 : decode cX9_feed 18 = .ok (.iload 6, 2) := by decide +kernel
theorem dX9_feed_20 : decode cX9_feed 20 = .ok (.bipush 20, 2) := by decide +kernel
theorem dX9_feed_22 : decode cX9_feed 22 = .ok (.if_icmp .ge 83, 3) := by decide +kernel
theorem dX9_feed_25 : decode cX9_feed 25 = .ok (.iload 6, 2) := by decide +kernel
theorem dX9_feed_27 : decode cX9_feed 27 = .ok (.iconst 4, 1) := by decide +kernel
theorem dX9_feed_28 : decode cX9_feed 28 = .ok (.if_icmp .ge 7, 3) := by decide +kernel
theorem dX9_feed_31 : decode cX9_feed 31 = .ok (.iload_n 1, 1) := by decide +kernel
theorem dX9_feed_32 : decode cX9_feed 32 = .ok (.goto 39, 3) := by decide +kernel
theorem dX9_feed_35 : decode cX9_feed 35 = .ok (.iload 6, 2) := by decide +kernel
theorem dX9_feed_37 : decode cX9_feed 37 = .ok (.bipush 8, 2) := by decide +kernel
theorem dX9_feed_39 : decode cX9_feed 39 = .ok (.if_icmp .ge 7, 3) := by decide +kernel
theorem dX9_feed_42 : decode cX9_feed 42 = .ok (.iload_n 2, 1) := by decide +kernel
theorem dX9_feed_43 : decode cX9_feed 43 = .ok (.goto 28, 3) := by decide +kernel
theorem dX9_feed_46 : decode cX9_feed 46 = .ok (.iload 6, 2) := by decide +kernel
theorem dX9_feed_48 : decode cX9_feed 48 = .ok (.bipush 12, 2) := by decide +kernel
theorem dX9_feed_50 : decode cX9_feed 50 = .ok (.if_icmp .ge 7, 3) := by decide +kernel
theorem dX9_feed_53 : decode cX9_feed 53 = .ok (.iload_n 3, 1) := by decide +kernel
theorem dX9_feed_54 : decode cX9_feed 54 = .ok (.goto 17, 3) := by decide +kernel
theorem dX9_feed_57 : decode cX9_feed 57 = .ok (.iload 6, 2) := by decide +kernel
theorem dX9_feed_59 : decode cX9_feed 59 = .ok (.bipush 16, 2) := by decide +kernel
theorem dX9_feed_61 : decode cX9_feed 61 = .ok (.if_icmp .ge 8, 3) := by decide +kernel
theorem dX9_feed_64 : decode cX9_feed 64 = .ok (.iload 4, 2) := by decide +kernel
theorem dX9_feed_66 : decode cX9_feed 66 = .ok (.goto 5, 3) := by decide +kernel
theorem dX9_feed_69 : decode cX9_feed 69 = .ok (.iload 5, 2) := by decide +kernel
theorem dX9_feed_71 : decode cX9_feed 71 = .ok (.istore 7, 2) := by decide +kernel
theorem dX9_feed_73 : decode cX9_feed 73 = .ok (.aload_n 0, 1) := by decide +kernel
theorem dX9_feed_74 : decode cX9_feed 74 = .ok (.getfield 7, 3) := by decide +kernel
theorem dX9_feed_77 : decode cX9_feed 77 = .ok (.aload_n 0, 1) := by decide +kernel
theorem dX9_feed_78 : decode cX9_feed 78 = .ok (.getfield 246, 3) := by decide +kernel
theorem dX9_feed_81 : decode cX9_feed 81 = .ok (.iload 6, 2) := by decide +kernel
theorem dX9_feed_83 : decode cX9_feed 83 = .ok (.iadd, 1) := by decide +kernel
theorem dX9_feed_84 : decode cX9_feed 84 = .ok (.iload 7, 2) := by decide +kernel
theorem dX9_feed_86 : decode cX9_feed 86 = .ok (.bipush 24, 2) := by decide +kernel
theorem dX9_feed_88 : decode cX9_feed 88 = .ok (.bipush 8, 2) := by decide +kernel
theorem dX9_feed_90 : decode cX9_feed 90 = .ok (.iload 6, 2) := by decide +kernel
theorem dX9_feed_92 : decode cX9_feed 92 = .ok (.iconst 3, 1) := by decide +kernel
theorem dX9_feed_93 : decode cX9_feed 93 = .ok (.iand, 1) := by decide +kernel
theorem dX9_feed_94 : decode cX9_feed 94 = .ok (.imul, 1) := by decide +kernel
theorem dX9_feed_95 : decode cX9_feed 95 = .ok (.isub, 1) := by decide +kernel
theorem dX9_feed_96 : decode cX9_feed 96 = .ok (.ishr, 1) := by decide +kernel
theorem dX9_feed_97 : decode cX9_feed 97 = .ok (.i2b, 1) := by decide +kernel
theorem dX9_feed_98 : decode cX9_feed 98 = .ok (.bastore, 1) := by decide +kernel
theorem dX9_feed_99 : decode cX9_feed 99 = .ok (.iinc 6 1, 3) := by decide +kernel
theorem dX9_feed_102 : decode cX9_feed 102 = .ok (.goto (-84), 3) := by decide +kernel
theorem dX9_feed_105 : decode cX9_feed 105 = .ok (.aload_n 0, 1) := by decide +kernel
theorem dX9_feed_106 : decode cX9_feed 106 = .ok (.dup, 1) := by decide +kernel
theorem dX9_feed_107 : decode cX9_feed 107 = .ok (.getfield 246, 3) := by decide +kernel
theorem dX9_feed_110 : decode cX9_feed 110 = .ok (.bipush 20, 2) := by decide +kernel
theorem dX9_feed_112 : decode cX9_feed 112 = .ok (.iadd, 1) := by decide +kernel
theorem dX9_feed_113 : decode cX9_feed 113 = .ok (.putfield 246, 3) := by decide +kernel
theorem dX9_feed_116 : decode cX9_feed 116 = .ok (.aload_n 0, 1) := by decide +kernel
theorem dX9_feed_117 : decode cX9_feed 117 = .ok (.getfield 246, 3) := by decide +kernel
theorem dX9_feed_120 : decode cX9_feed 120 = .ok (.ireturn, 1) := by decide +kernel
theorem dX9_fetch_0 : decode cX9_fetch 0 = .ok (.aload_n 0, 1) := by decide +kernel
theorem dX9_fetch_1 : decode cX9_fetch 1 = .ok (.iload_n 1, 1) := by decide +kernel
theorem dX9_fetch_2 : decode cX9_fetch 2 = .ok (.invokevirtual 412, 3) := by decide +kernel
theorem dX9_fetch_5 : decode cX9_fetch 5 = .ok (.ifCond .eq 11, 3) := by decide +kernel
theorem dX9_fetch_8 : decode cX9_fetch 8 = .ok (.aload_n 0, 1) := by decide +kernel
theorem dX9_fetch_9 : decode cX9_fetch 9 = .ok (.iload_n 1, 1) := by decide +kernel
theorem dX9_fetch_10 : decode cX9_fetch 10 = .ok (.invokevirtual 440, 3) := by decide +kernel
theorem dX9_fetch_13 : decode cX9_fetch 13 = .ok (.ifCond .ne 5, 3) := by decide +kernel
theorem dX9_fetch_16 : decode cX9_fetch 16 = .ok (.iconst (-1), 1) := by decide +kernel
theorem dX9_fetch_17 : decode cX9_fetch 17 = .ok (.ireturn, 1) := by decide +kernel
theorem dX9_fetch_18 : decode cX9_fetch 18 = .ok (.aload_n 0, 1) := by decide +kernel
theorem dX9_fetch_19 : decode cX9_fetch 19 = .ok (.invokevirtual 443, 3) := by decide +kernel
theorem dX9_fetch_22 : decode cX9_fetch 22 = .ok (.aload_n 0, 1) := by decide +kernel
theorem dX9_fetch_23 : decode cX9_fetch 23 = .ok (.getfield 88, 3) := by decide +kernel
theorem dX9_fetch_26 : decode cX9_fetch 26 = .ok (.iconst 0, 1) := by decide +kernel
theorem dX9_fetch_27 : decode cX9_fetch 27 = .ok (.iload_n 1, 1) := by decide +kernel
theorem dX9_fetch_28 : decode cX9_fetch 28 = .ok (.iadd, 1) := by decide +kernel
theorem dX9_fetch_29 : decode cX9_fetch 29 = .ok (.iaload, 1) := by decide +kernel
theorem dX9_fetch_30 : decode cX9_fetch 30 = .ok (.istore_n 2, 1) := by decide +kernel
theorem dX9_fetch_31 : decode cX9_fetch 31 = .ok (.aload_n 0, 1) := by decide +kernel
theorem dX9_fetch_32 : decode cX9_fetch 32 = .ok (.iload_n 1, 1) := by decide +kernel
theorem dX9_fetch_33 : decode cX9_fetch 33 = .ok (.invokevirtual 405, 3) := by decide +kernel
theorem dX9_fetch_36 : decode cX9_fetch 36 = .ok (.iload_n 2, 1) := by decide +kernel
theorem dX9_fetch_37 : decode cX9_fetch 37 = .ok (.ireturn, 1) := by decide +kernel
theorem dX9_fill_0 : decode cX9_fill 0 = .ok (.aload_n 0, 1) := by decide +kernel
theorem dX9_fill_1 : decode cX9_fill 1 = .ok (.iload_n 1, 1) := by decide +kernel
theorem dX9_fill_2 : decode cX9_fill 2 = .ok (.invokevirtual 415, 3) := by decide +kernel
theorem dX9_fill_5 : decode cX9_fill 5 = .ok (.ifCond .eq 28, 3) := by decide +kernel
theorem dX9_fill_8 : decode cX9_fill 8 = .ok (.iload_n 2, 1) := by decide +kernel
theorem dX9_fill_9 : decode cX9_fill 9 = .ok (.iconst 1, 1) := by decide +kernel
theorem dX9_fill_10 : decode cX9_fill 10 = .ok (.bipush 50, 2) := by decide +kernel
theorem dX9_fill_12 : decode cX9_fill 12 = .ok (.invokestatic 354, 3) := by decide +kernel
theorem dX9_fill_15 : decode cX9_fill 15 = .ok (.ifCond .eq 18, 3) := by decide +kernel
theorem dX9_fill_18 : decode cX9_fill 18 = .ok (.aload_n 0, 1) := by decide +kernel
theorem dX9_fill_19 : decode cX9_fill 19 = .ok (.getfield 88, 3) := by decide +kernel
theorem dX9_fill_22 : decode cX9_fill 22 = .ok (.bipush 20, 2) := by decide +kernel
theorem dX9_fill_24 : decode cX9_fill 24 = .ok (.iload_n 1, 1) := by decide +kernel
theorem dX9_fill_25 : decode cX9_fill 25 = .ok (.iadd, 1) := by decide +kernel
theorem dX9_fill_26 : decode cX9_fill 26 = .ok (.iaload, 1) := by decide +kernel
theorem dX9_fill_27 : decode cX9_fill 27 = .ok (.sipush 999, 3) := by decide +kernel
theorem dX9_fill_30 : decode cX9_fill 30 = .ok (.if_icmp .ne 5, 3) := by decide +kernel
theorem dX9_fill_33 : decode cX9_fill 33 = .ok (.iconst (-1), 1) := by decide +kernel
theorem dX9_fill_34 : decode cX9_fill 34 = .ok (.ireturn, 1) := by decide +kernel
theorem dX9_fill_35 : decode cX9_fill 35 = .ok (.aload_n 0, 1) := by decide +kernel
theorem dX9_fill_36 : decode cX9_fill 36 = .ok (.invokevirtual 443, 3) := by decide +kernel
theorem dX9_fill_39 : decode cX9_fill 39 = .ok (.aload_n 0, 1) := by decide +kernel
theorem dX9_fill_40 : decode cX9_fill 40 = .ok (.getfield 88, 3) := by decide +kernel
theorem dX9_fill_43 : decode cX9_fill 43 = .ok (.bipush 20, 2) := by decide +kernel
theorem dX9_fill_45 : decode cX9_fill 45 = .ok (.iload_n 1, 1) := by decide +kernel
theorem dX9_fill_46 : decode cX9_fill 46 = .ok (.iadd, 1) := by decide +kernel
theorem dX9_fill_47 : decode cX9_fill 47 = .ok (.aload_n 0, 1) := by decide +kernel
theorem dX9_fill_48 : decode cX9_fill 48 = .ok (.getfield 88, 3) := by decide +kernel
theorem dX9_fill_51 : decode cX9_fill 51 = .ok (.bipush 20, 2) := by decide +kernel
theorem dX9_fill_53 : decode cX9_fill 53 = .ok (.iload_n 1, 1) := by decide +kernel
theorem dX9_fill_54 : decode cX9_fill 54 = .ok (.iadd, 1) := by decide +kernel
theorem dX9_fill_55 : decode cX9_fill 55 = .ok (.iaload, 1) := by decide +kernel
theorem dX9_fill_56 : decode cX9_fill 56 = .ok (.iload_n 2, 1) := by decide +kernel
theorem dX9_fill_57 : decode cX9_fill 57 = .ok (.iadd, 1) := by decide +kernel
theorem dX9_fill_58 : decode cX9_fill 58 = .ok (.iconst 0, 1) := by decide +kernel
theorem dX9_fill_59 : decode cX9_fill 59 = .ok (.sipush 999, 3) := by decide +kernel
theorem dX9_fill_62 : decode cX9_fill 62 = .ok (.invokestatic 376, 3) := by decide +kernel
theorem dX9_fill_65 : decode cX9_fill 65 = .ok (.iastore, 1) := by decide +kernel
theorem dX9_fill_66 : decode cX9_fill 66 = .ok (.aload_n 0, 1) := by decide +kernel
theorem dX9_fill_67 : decode cX9_fill 67 = .ok (.getfield 88, 3) := by decide +kernel
theorem dX9_fill_70 : decode cX9_fill 70 = .ok (.bipush 20, 2) := by decide +kernel
theorem dX9_fill_72 : decode cX9_fill 72 = .ok (.iload_n 1, 1) := by decide +kernel
theorem dX9_fill_73 : decode cX9_fill 73 = .ok (.iadd, 1) := by decide +kernel
theorem dX9_fill_74 : decode cX9_fill 74 = .ok (.iaload, 1) := by decide +kernel
theorem dX9_fill_75 : decode cX9_fill 75 = .ok (.ireturn, 1) := by decide +kernel
theorem dX9_find_0 : decode cX9_find 0 = .ok (.iload_n 1, 1) := by decide +kernel
theorem dX9_find_1 : decode cX9_find 1 = .ok (.invokestatic 434, 3) := by decide +kernel
theorem dX9_find_4 : decode cX9_find 4 = .ok (.ifCond .eq 17, 3) := by decide +kernel
theorem dX9_find_7 : decode cX9_find 7 = .ok (.iload_n 2, 1) := by decide +kernel
theorem dX9_find_8 : decode cX9_find 8 = .ok (.invokestatic 434, 3) := by decide +kernel
theorem dX9_find_11 : decode cX9_find 11 = .ok (.ifCond .eq 10, 3) := by decide +kernel
theorem dX9_find_14 : decode cX9_find 14 = .ok (.iload_n 3, 1) := by decide +kernel
theorem dX9_find_15 : decode cX9_find 15 = .ok (.invokestatic 434, 3) := by decide +kernel
theorem dX9_find_18 : decode cX9_find 18 = .ok (.ifCond .ne 5, 3) := by decide +kernel
theorem dX9_find_21 : decode cX9_find 21 = .ok (.iconst (-1), 1) := by decide +kernel
theorem dX9_find_22 : decode cX9_find 22 = .ok (.ireturn, 1) := by decide +kernel
theorem dX9_find_23 : decode cX9_find 23 = .ok (.iconst 0, 1) := by decide +kernel
theorem dX9_find_24 : decode cX9_find 24 = .ok (.istore 4, 2) := by decide +kernel
theorem dX9_find_26 : decode cX9_find 26 = .ok (.iconst 0, 1) := by decide +kernel
theorem dX9_find_27 : decode cX9_find 27 = .ok (.istore 5, 2) := by decide +kernel
theorem dX9_find_29 : decode cX9_find 29 = .ok (.iload 5, 2) := by decide +kernel
theorem dX9_find_31 : decode cX9_find 31 = .ok (.aload_n 0, 1) := by decide +kernel
theorem dX9_find_32 : decode cX9_find 32 = .ok (.invokevirtual 351, 3) := by decide +kernel
theorem dX9_find_35 : decode cX9_find 35 = .ok (.if_icmp .ge 30, 3) := by decide +kernel
theorem dX9_find_38 : decode cX9_find 38 = .ok (.aload_n 0, 1) := by decide +kernel
theorem dX9_find_39 : decode cX9_find 39 = .ok (.iload 5, 2) := by decide +kernel
theorem dX9_find_41 : decode cX9_find 41 = .ok (.iload_n 1, 1) := by decide +kernel
theorem dX9_find_42 : decode cX9_find 42 = .ok (.iload_n 2, 1) := by decide +kernel
theorem dX9_find_43 : decode cX9_find 43 = .ok (.iload_n 3, 1) := by decide +kernel
theorem dX9_find_44 : decode cX9_find 44 = .ok (.invokevirtual 389, 3) := by decide +kernel
theorem dX9_find_47 : decode cX9_find 47 = .ok (.ifCond .eq 12, 3) := by decide +kernel
theorem dX9_find_50 : decode cX9_find 50 = .ok (.iload 4, 2) := by decide +kernel
theorem dX9_find_52 : decode cX9_find 52 = .ok (.iconst 1, 1) := by decide +kernel
theorem dX9_find_53 : decode cX9_find 53 = .ok (.iload 5, 2) := by decide +kernel
theorem dX9_find_55 : decode cX9_find 55 = .ok (.ishl, 1) := by decide +kernel
theorem dX9_find_56 : decode cX9_find 56 = .ok (.ior, 1) := by decide +kernel
theorem dX9_find_57 : decode cX9_find 57 = .ok (.istore 4, 2) := by decide +kernel
theorem dX9_find_59 : decode cX9_find 59 = .ok (.iinc 5 1, 3) := by decide +kernel
theorem dX9_find_62 : decode cX9_find 62 = .ok (.goto (-33), 3) := by decide +kernel
theorem dX9_find_65 : decode cX9_find 65 = .ok (.iload 4, 2) := by decide +kernel
theorem dX9_find_67 : decode cX9_find 67 = .ok (.ireturn, 1) := by decide +kernel
theorem dX9_frayed_0 : decode cX9_frayed 0 = .ok (.aload_n 0, 1) := by decide +kernel
theorem dX9_frayed_1 : decode cX9_frayed 1 = .ok (.iload_n 1, 1) := by decide +kernel
theorem dX9_frayed_2 : decode cX9_frayed 2 = .ok (.invokevirtual 412, 3) := by decide +kernel
theorem dX9_frayed_5 : decode cX9_frayed 5 = .ok (.ifCond .eq 13, 3) := by decide +kernel
theorem dX9_frayed_8 : decode cX9_frayed 8 = .ok (.aload_n 0, 1) := by decide +kernel
theorem dX9_frayed_9 : decode cX9_frayed 9 = .ok (.iload_n 1, 1) := by decide +kernel
theorem dX9_frayed_10 : decode cX9_frayed 10 = .ok (.invokevirtual 336, 3) := by decide +kernel
theorem dX9_frayed_13 : decode cX9_frayed 13 = .ok (.iconst 3, 1) := by decide +kernel
theorem dX9_frayed_14 : decode cX9_frayed 14 = .ok (.isub, 1) := by decide +kernel
theorem dX9_frayed_15 : decode cX9_frayed 15 = .ok (.goto 4, 3) := by decide +kernel
theorem dX9_frayed_18 : decode cX9_frayed 18 = .ok (.iconst (-1), 1) := by decide +kernel
theorem dX9_frayed_19 : decode cX9_frayed 19 = .ok (.ireturn, 1) := by decide +kernel
theorem dX9_fresh_0 : decode cX9_fresh 0 = .ok (.aload_n 0, 1) := by decide +kernel
theorem dX9_fresh_1 : decode cX9_fresh 1 = .ok (.invokevirtual 219, 3) := by decide +kernel
theorem dX9_fresh_4 : decode cX9_fresh 4 = .ok (.ifCond .ne 5, 3) := by decide +kernel
theorem dX9_fresh_7 : decode cX9_fresh 7 = .ok (.lconst 0, 1) := by decide +kernel
theorem dX9_fresh_8 : decode cX9_fresh 8 = .ok (.lreturn, 1) := by decide +kernel
theorem dX9_fresh_9 : decode cX9_fresh 9 = .ok (.aload_n 0, 1) := by decide +kernel
theorem dX9_fresh_10 : decode cX9_fresh 10 = .ok (.getfield 191, 3) := by decide +kernel
theorem dX9_fresh_13 : decode cX9_fresh 13 = .ok (.iconst 2, 1) := by decide +kernel
theorem dX9_fresh_14 : decode cX9_fresh 14 = .ok (.if_icmp .eq 10, 3) := by decide +kernel
theorem dX9_fresh_17 : decode cX9_fresh 17 = .ok (.aload_n 0, 1) := by decide +kernel
theorem dX9_fresh_18 : decode cX9_fresh 18 = .ok (.invokevirtual 226, 3) := by decide +kernel
theorem dX9_fresh_21 : decode cX9_fresh 21 = .ok (.goto 16, 3) := by decide +kernel
theorem dX9_fresh_24 : decode cX9_fresh 24 = .ok (.iload_n 1, 1) := by decide +kernel
theorem dX9_fresh_25 : decode cX9_fresh 25 = .ok (.ifCond .lt 12, 3) := by decide +kernel
theorem dX9_fresh_28 : decode cX9_fresh 28 = .ok (.aload_n 0, 1) := by decide +kernel
theorem dX9_fresh_29 : decode cX9_fresh 29 = .ok (.iconst 3, 1) := by decide +kernel
theorem dX9_fresh_30 : decode cX9_fresh 30 = .ok (.aload_n 0, 1) := by decide +kernel
theorem dX9_fresh_31 : decode cX9_fresh 31 = .ok (.getfield 184, 3) := by decide +kernel
theorem dX9_fresh_34 : decode cX9_fresh 34 = .ok (.invokevirtual 215, 3) := by decide +kernel
theorem dX9_fresh_37 : decode cX9_fresh 37 = .ok (.aload_n 0, 1) := by decide +kernel
theorem dX9_fresh_38 : decode cX9_fresh 38 = .ok (.getfield 198, 3) := by decide +kernel
theorem dX9_fresh_41 : decode cX9_fresh 41 = .ok (.lstore_n 2, 1) := by decide +kernel
theorem dX9_fresh_42 : decode cX9_fresh 42 = .ok (.aload_n 0, 1) := by decide +kernel
theorem dX9_fresh_43 : decode cX9_fresh 43 = .ok (.invokevirtual 219, 3) := by decide +kernel
theorem dX9_fresh_46 : decode cX9_fresh 46 = .ok (.ifCond .eq 7, 3) := by decide +kernel
theorem dX9_fresh_49 : decode cX9_fresh 49 = .ok (.aload_n 0, 1) := by decide +kernel
theorem dX9_fresh_50 : decode cX9_fresh 50 = .ok (.invokevirtual 223, 3) := by decide +kernel
theorem dX9_fresh_53 : decode cX9_fresh 53 = .ok (.lload_n 2, 1) := by decide +kernel
theorem dX9_fresh_54 : decode cX9_fresh 54 = .ok (.lreturn, 1) := by decide +kernel
theorem dX9_gainOf_0 : decode cX9_gainOf 0 = .ok (.iload_n 2, 1) := by decide +kernel
theorem dX9_gainOf_1 : decode cX9_gainOf 1 = .ok (.iload_n 3, 1) := by decide +kernel
theorem dX9_gainOf_2 : decode cX9_gainOf 2 = .ok (.if_icmp .ne 7, 3) := by decide +kernel
theorem dX9_gainOf_5 : decode cX9_gainOf 5 = .ok (.iconst 0, 1) := by decide +kernel
theorem dX9_gainOf_6 : decode cX9_gainOf 6 = .ok (.goto 10, 3) := by decide +kernel
theorem dX9_gainOf_9 : decode cX9_gainOf 9 = .ok (.aload_n 0, 1) := by decide +kernel
theorem dX9_gainOf_10 : decode cX9_gainOf 10 = .ok (.iload_n 1, 1) := by decide +kernel
theorem dX9_gainOf_11 : decode cX9_gainOf 11 = .ok (.iload_n 2, 1) := by decide +kernel
theorem dX9_gainOf_12 : decode cX9_gainOf 12 = .ok (.iconst 0, 1) := by decide +kernel
theorem dX9_gainOf_13 : decode cX9_gainOf 13 = .ok (.invokevirtual 399, 3) := by decide +kernel
theorem dX9_gainOf_16 : decode cX9_gainOf 16 = .ok (.ireturn, 1) := by decide +kernel
theorem dX9_give_0 : decode cX9_give 0 = .ok (.aload_n 0, 1) := by decide +kernel
theorem dX9_give_1 : decode cX9_give 1 = .ok (.iload_n 1, 1) := by decide +kernel
theorem dX9_give_2 : decode cX9_give 2 = .ok (.invokevirtual 412, 3) := by decide +kernel
theorem dX9_give_5 : decode cX9_give 5 = .ok (.ifCond .eq 14, 3) := by decide +kernel
theorem dX9_give_8 : decode cX9_give 8 = .ok (.aload_n 0, 1) := by decide +kernel
theorem dX9_give_9 : decode cX9_give 9 = .ok (.getfield 88, 3) := by decide +kernel
theorem dX9_give_12 : decode cX9_give 12 = .ok (.iconst 5, 1) := by decide +kernel
theorem dX9_give_13 : decode cX9_give 13 = .ok (.iload_n 1, 1) := by decide +kernel
theorem dX9_give_14 : decode cX9_give 14 = .ok (.iadd, 1) := by decide +kernel
theorem dX9_give_15 : decode cX9_give 15 = .ok (.iaload, 1) := by decide +kernel
theorem dX9_give_16 : decode cX9_give 16 = .ok (.ifCond .ne 5, 3) := by decide +kernel
theorem dX9_give_19 : decode cX9_give 19 = .ok (.iconst (-1), 1) := by decide +kernel
theorem dX9_give_20 : decode cX9_give 20 = .ok (.ireturn, 1) := by decide +kernel
theorem dX9_give_21 : decode cX9_give 21 = .ok (.aload_n 0, 1) := by decide +kernel
theorem dX9_give_22 : decode cX9_give 22 = .ok (.invokevirtual 443, 3) := by decide +kernel
theorem dX9_give_25 : decode cX9_give 25 = .ok (.aload_n 0, 1) := by decide +kernel
theorem dX9_give_26 : decode cX9_give 26 = .ok (.getfield 88, 3) := by decide +kernel
theorem dX9_give_29 : decode cX9_give 29 = .ok (.iconst 0, 1) := by decide +kernel
theorem dX9_give_30 : decode cX9_give 30 = .ok (.iload_n 1, 1) := by decide +kernel
theorem dX9_give_31 : decode cX9_give 31 = .ok (.iadd, 1) := by decide +kernel
theorem dX9_give_32 : decode cX9_give 32 = .ok (.iaload, 1) := by decide +kernel
theorem dX9_give_33 : decode cX9_give 33 = .ok (.istore_n 2, 1) := by decide +kernel
theorem dX9_give_34 : decode cX9_give 34 = .ok (.aload_n 0, 1) := by decide +kernel
theorem dX9_give_35 : decode cX9_give 35 = .ok (.iload_n 1, 1) := by decide +kernel
theorem dX9_give_36 : decode cX9_give 36 = .ok (.invokevirtual 405, 3) := by decide +kernel
theorem dX9_give_39 : decode cX9_give 39 = .ok (.iload_n 2, 1) := by decide +kernel
theorem dX9_give_40 : decode cX9_give 40 = .ok (.ireturn, 1) := by decide +kernel
theorem dX9_glad_0 : decode cX9_glad 0 = .ok (.aload_n 0, 1) := by decide +kernel
theorem dX9_glad_1 : decode cX9_glad 1 = .ok (.iload_n 1, 1) := by decide +kernel
theorem dX9_glad_2 : decode cX9_glad 2 = .ok (.invokevirtual 415, 3) := by decide +kernel
theorem dX9_glad_5 : decode cX9_glad 5 = .ok (.ifCond .eq 20, 3) := by decide +kernel
theorem dX9_glad_8 : decode cX9_glad 8 = .ok (.aload_n 0, 1) := by decide +kernel
theorem dX9_glad_9 : decode cX9_glad 9 = .ok (.iload_n 2, 1) := by decide +kernel
theorem dX9_glad_10 : decode cX9_glad 10 = .ok (.invokevirtual 412, 3) := by decide +kernel
theorem dX9_glad_13 : decode cX9_glad 13 = .ok (.ifCond .eq 12, 3) := by decide +kernel
theorem dX9_glad_16 : decode cX9_glad 16 = .ok (.aload_n 0, 1) := by decide +kernel
theorem dX9_glad_17 : decode cX9_glad 17 = .ok (.iload_n 1, 1) := by decide +kernel
theorem dX9_glad_18 : decode cX9_glad 18 = .ok (.iload_n 2, 1) := by decide +kernel
theorem dX9_glad_19 : decode cX9_glad 19 = .ok (.invokevirtual 424, 3) := by decide +kernel
theorem dX9_glad_22 : decode cX9_glad 22 = .ok (.goto 6, 3) := by decide +kernel
theorem dX9_glad_25 : decode cX9_glad 25 = .ok (.ldc_w 427, 3) := by decide +kernel
theorem dX9_glad_28 : decode cX9_glad 28 = .ok (.ireturn, 1) := by decide +kernel
theorem dX9_gladAnew_0 : decode cX9_gladAnew 0 = .ok (.aload_n 0, 1) := by decide +kernel
theorem dX9_gladAnew_1 : decode cX9_gladAnew 1 = .ok (.iload_n 1, 1) := by decide +kernel
theorem dX9_gladAnew_2 : decode cX9_gladAnew 2 = .ok (.iload_n 2, 1) := by decide +kernel
theorem dX9_gladAnew_3 : decode cX9_gladAnew 3 = .ok (.aload_n 0, 1) := by decide +kernel
theorem dX9_gladAnew_4 : decode cX9_gladAnew 4 = .ok (.iload_n 1, 1) := by decide +kernel
theorem dX9_gladAnew_5 : decode cX9_gladAnew 5 = .ok (.invokevirtual 396, 3) := by decide +kernel
theorem dX9_gladAnew_8 : decode cX9_gladAnew 8 = .ok (.iload_n 2, 1) := by decide +kernel
theorem dX9_gladAnew_9 : decode cX9_gladAnew 9 = .ok (.if_icmp .ne 15, 3) := by decide +kernel
theorem dX9_gladAnew_12 : decode cX9_gladAnew 12 = .ok (.aload_n 0, 1) := by decide +kernel
theorem dX9_gladAnew_13 : decode cX9_gladAnew 13 = .ok (.getfield 88, 3) := by decide +kernel
theorem dX9_gladAnew_16 : decode cX9_gladAnew 16 = .ok (.bipush 15, 2) := by decide +kernel
theorem dX9_gladAnew_18 : decode cX9_gladAnew 18 = .ok (.iload_n 2, 1) := by decide +kernel
theorem dX9_gladAnew_19 : decode cX9_gladAnew 19 = .ok (.iadd, 1) := by decide +kernel
theorem dX9_gladAnew_20 : decode cX9_gladAnew 20 = .ok (.iaload, 1) := by decide +kernel
theorem dX9_gladAnew_21 : decode cX9_gladAnew 21 = .ok (.goto 4, 3) := by decide +kernel
theorem dX9_gladAnew_24 : decode cX9_gladAnew 24 = .ok (.iconst 0, 1) := by decide +kernel
theorem dX9_gladAnew_25 : decode cX9_gladAnew 25 = .ok (.invokevirtual 399, 3) := by decide +kernel
theorem dX9_gladAnew_28 : decode cX9_gladAnew 28 = .ok (.ireturn, 1) := by decide +kernel
theorem dX9_gladBy_0 : decode cX9_gladBy 0 = .ok (.aload_n 0, 1) := by decide +kernel
theorem dX9_gladBy_1 : decode cX9_gladBy 1 = .ok (.iload_n 1, 1) := by decide +kernel
theorem dX9_gladBy_2 : decode cX9_gladBy 2 = .ok (.putfield 324, 3) := by decide +kernel
theorem dX9_gladBy_5 : decode cX9_gladBy 5 = .ok (.aload_n 0, 1) := by decide +kernel
theorem dX9_gladBy_6 : decode cX9_gladBy 6 = .ok (.iload_n 2, 1) := by decide +kernel
theorem dX9_gladBy_7 : decode cX9_gladBy 7 = .ok (.putfield 327, 3) := by decide +kernel
theorem dX9_gladBy_10 : decode cX9_gladBy 10 = .ok (.aload_n 0, 1) := by decide +kernel
theorem dX9_gladBy_11 : decode cX9_gladBy 11 = .ok (.iload_n 3, 1) := by decide +kernel
theorem dX9_gladBy_12 : decode cX9_gladBy 12 = .ok (.putfield 339, 3) := by decide +kernel
theorem dX9_gladBy_15 : decode cX9_gladBy 15 = .ok (.aload_n 0, 1) := by decide +kernel
theorem dX9_gladBy_16 : decode cX9_gladBy 16 = .ok (.getfield 39, 3) := by decide +kernel
theorem dX9_gladBy_19 : decode cX9_gladBy 19 = .ok (.aload_n 0, 1) := by decide +kernel
theorem dX9_gladBy_20 : decode cX9_gladBy 20 = .ok (.getfield 249, 3) := by decide +kernel
theorem dX9_gladBy_23 : decode cX9_gladBy 23 = .ok (.iaload, 1) := by decide +kernel
theorem dX9_gladBy_24 : decode cX9_gladBy 24 = .ok (.iconst 1, 1) := by decide +kernel
theorem dX9_gladBy_25 : decode cX9_gladBy 25 = .ok (.invokestatic 255, 3) := by decide +kernel
theorem dX9_gladBy_28 : decode cX9_gladBy 28 = .ok (.ifCond .eq 10, 3) := by decide +kernel
theorem dX9_gladBy_31 : decode cX9_gladBy 31 = .ok (.aload_n 0, 1) := by decide +kernel
theorem dX9_gladBy_32 : decode cX9_gladBy 32 = .ok (.invokevirtual 393, 3) := by decide +kernel
theorem dX9_gladBy_35 : decode cX9_gladBy 35 = .ok (.goto 28, 3) := by decide +kernel
theorem dX9_gladBy_38 : decode cX9_gladBy 38 = .ok (.aload_n 0, 1) := by decide +kernel
theorem dX9_gladBy_39 : decode cX9_gladBy 39 = .ok (.iload_n 1, 1) := by decide +kernel
theorem dX9_gladBy_40 : decode cX9_gladBy 40 = .ok (.iload_n 2, 1) := by decide +kernel
theorem dX9_gladBy_41 : decode cX9_gladBy 41 = .ok (.invokevirtual 330, 3) := by decide +kernel
theorem dX9_gladBy_44 : decode cX9_gladBy 44 = .ok (.aload_n 0, 1) := by decide +kernel
theorem dX9_gladBy_45 : decode cX9_gladBy 45 = .ok (.iload_n 1, 1) := by decide +kernel
theorem dX9_gladBy_46 : decode cX9_gladBy 46 = .ok (.iload_n 2, 1) := by decide +kernel
theorem dX9_gladBy_47 : decode cX9_gladBy 47 = .ok (.invokevirtual 333, 3) := by decide +kernel
theorem dX9_gladBy_50 : decode cX9_gladBy 50 = .ok (.iconst 3, 1) := by decide +kernel
theorem dX9_gladBy_51 : decode cX9_gladBy 51 = .ok (.imul, 1) := by decide +kernel
theorem dX9_gladBy_52 : decode cX9_gladBy 52 = .ok (.iadd, 1) := by decide +kernel
theorem dX9_gladBy_53 : decode cX9_gladBy 53 = .ok (.aload_n 0, 1) := by decide +kernel
theorem dX9_gladBy_54 : decode cX9_gladBy 54 = .ok (.getfield 88, 3) := by decide +kernel
theorem dX9_gladBy_57 : decode cX9_gladBy 57 = .ok (.bipush 10, 2) := by decide +kernel
theorem dX9_gladBy_59 : decode cX9_gladBy 59 = .ok (.iload_n 2, 1) := by decide +kernel
theorem dX9_gladBy_60 : decode cX9_gladBy 60 = .ok (.iadd, 1) := by decide +kernel
theorem dX9_gladBy_61 : decode cX9_gladBy 61 = .ok (.iaload, 1) := by decide +kernel
theorem dX9_gladBy_62 : decode cX9_gladBy 62 = .ok (.isub, 1) := by decide +kernel
theorem dX9_gladBy_63 : decode cX9_gladBy 63 = .ok (.istore 4, 2) := by decide +kernel
theorem dX9_gladBy_65 : decode cX9_gladBy 65 = .ok (.iload 4, 2) := by decide +kernel
theorem dX9_gladBy_67 : decode cX9_gladBy 67 = .ok (.sipush (-9999), 3) := by decide +kernel
theorem dX9_gladBy_70 : decode cX9_gladBy 70 = .ok (.sipush 9999, 3) := by decide +kernel
theorem dX9_gladBy_73 : decode cX9_gladBy 73 = .ok (.invokestatic 376, 3) := by decide +kernel
theorem dX9_gladBy_76 : decode cX9_gladBy 76 = .ok (.ireturn, 1) := by decide +kernel
theorem dX9_gladNow_0 : decode cX9_gladNow 0 = .ok (.aload_n 0, 1) := by decide +kernel
theorem dX9_gladNow_1 : decode cX9_gladNow 1 = .ok (.iload_n 1, 1) := by decide +kernel
theorem dX9_gladNow_2 : decode cX9_gladNow 2 = .ok (.iload_n 2, 1) := by decide +kernel
theorem dX9_gladNow_3 : decode cX9_gladNow 3 = .ok (.aload_n 0, 1) := by decide +kernel
theorem dX9_gladNow_4 : decode cX9_gladNow 4 = .ok (.iload_n 1, 1) := by decide +kernel
theorem dX9_gladNow_5 : decode cX9_gladNow 5 = .ok (.invokevirtual 396, 3) := by decide +kernel
theorem dX9_gladNow_8 : decode cX9_gladNow 8 = .ok (.iload_n 2, 1) := by decide +kernel
theorem dX9_gladNow_9 : decode cX9_gladNow 9 = .ok (.if_icmp .ne 15, 3) := by decide +kernel
theorem dX9_gladNow_12 : decode cX9_gladNow 12 = .ok (.aload_n 0, 1) := by decide +kernel
theorem dX9_gladNow_13 : decode cX9_gladNow 13 = .ok (.getfield 88, 3) := by decide +kernel

theorem dX3_sameBy_55 : decode cX3_sameBy 55 = .ok (.iload 5, 2) := by decide +kernel
theorem dX3_sameBy_57 : decode cX3_sameBy 57 = .ok (.aload_n 0, 1) := by decide +kernel
theorem dX3_sameBy_58 : decode cX3_sameBy 58 = .ok (.getfield 34, 3) := by decide +kernel
theorem dX3_sameBy_61 : decode cX3_sameBy 61 = .ok (.iload 4, 2) := by decide +kernel
theorem dX3_sameBy_63 : decode cX3_sameBy 63 = .ok (.iaload, 1) := by decide +kernel
theorem dX3_sameBy_64 : decode cX3_sameBy 64 = .ok (.iadd, 1) := by decide +kernel
theorem dX3_sameBy_65 : decode cX3_sameBy 65 = .ok (.istore 5, 2) := by decide +kernel
theorem dX3_sameBy_67 : decode cX3_sameBy 67 = .ok (.iload 5, 2) := by decide +kernel
theorem dX3_sameBy_69 : decode cX3_sameBy 69 = .ok (.ireturn, 1) := by decide +kernel
theorem dX3_sift_0 : decode cX3_sift 0 = .ok (.aload_n 1, 1) := by decide +kernel
theorem dX3_sift_1 : decode cX3_sift 1 = .ok (.getfield 57, 3) := by decide +kernel
theorem dX3_sift_4 : decode cX3_sift 4 = .ok (.ifCond .ne 5, 3) := by decide +kernel
theorem dX3_sift_7 : decode cX3_sift 7 = .ok (.iconst 0, 1) := by decide +kernel
theorem dX3_sift_8 : decode cX3_sift 8 = .ok (.ireturn, 1) := by decide +kernel
theorem dX3_sift_9 : decode cX3_sift 9 = .ok (.aload_n 0, 1) := by decide +kernel
theorem dX3_sift_10 : decode cX3_sift 10 = .ok (.getfield 53, 3) := by decide +kernel
theorem dX3_sift_13 : decode cX3_sift 13 = .ok (.ifCond .ne 13, 3) := by decide +kernel
theorem dX3_sift_16 : decode cX3_sift 16 = .ok (.aload_n 0, 1) := by decide +kernel
theorem dX3_sift_17 : decode cX3_sift 17 = .ok (.aload_n 1, 1) := by decide +kernel
theorem dX3_sift_18 : decode cX3_sift 18 = .ok (.invokevirtual 62, 3) := by decide +kernel
theorem dX3_sift_21 : decode cX3_sift 21 = .ok (.aload_n 0, 1) := by decide +kernel
theorem dX3_sift_22 : decode cX3_sift 22 = .ok (.iconst 1, 1) := by decide +kernel
theorem dX3_sift_23 : decode cX3_sift 23 = .ok (.putfield 53, 3) := by decide +kernel
theorem dX3_sift_26 : decode cX3_sift 26 = .ok (.iconst 0, 1) := by decide +kernel
theorem dX3_sift_27 : decode cX3_sift 27 = .ok (.istore_n 3, 1) := by decide +kernel
theorem dX3_sift_28 : decode cX3_sift 28 = .ok (.iload_n 3, 1) := by decide +kernel
theorem dX3_sift_29 : decode cX3_sift 29 = .ok (.sipush 343, 3) := by decide +kernel
theorem dX3_sift_32 : decode cX3_sift 32 = .ok (.if_icmp .ge 16, 3) := by decide +kernel
theorem dX3_sift_35 : decode cX3_sift 35 = .ok (.aload_n 0, 1) := by decide +kernel
theorem dX3_sift_36 : decode cX3_sift 36 = .ok (.getfield 31, 3) := by decide +kernel
theorem dX3_sift_39 : decode cX3_sift 39 = .ok (.iload_n 3, 1) := by decide +kernel
theorem dX3_sift_40 : decode cX3_sift 40 = .ok (.iconst 1, 1) := by decide +kernel
theorem dX3_sift_41 : decode cX3_sift 41 = .ok (.bastore, 1) := by decide +kernel
theorem dX3_sift_42 : decode cX3_sift 42 = .ok (.iinc 3 1, 3) := by decide +kernel
theorem dX3_sift_45 : decode cX3_sift 45 = .ok (.goto (-17), 3) := by decide +kernel
theorem dX3_sift_48 : decode cX3_sift 48 = .ok (.iconst 0, 1) := by decide +kernel
theorem dX3_sift_49 : decode cX3_sift 49 = .ok (.istore_n 3, 1) := by decide +kernel
theorem dX3_sift_50 : decode cX3_sift 50 = .ok (.iload_n 3, 1) := by decide +kernel
theorem dX3_sift_51 : decode cX3_sift 51 = .ok (.aload_n 0, 1) := by decide +kernel
theorem dX3_sift_52 : decode cX3_sift 52 = .ok (.getfield 49, 3) := by decide +kernel
theorem dX3_sift_55 : decode cX3_sift 55 = .ok (.if_icmp .ge 23, 3) := by decide +kernel
theorem dX3_sift_58 : decode cX3_sift 58 = .ok (.aload_n 0, 1) := by decide +kernel
theorem dX3_sift_59 : decode cX3_sift 59 = .ok (.iload_n 3, 1) := by decide +kernel
theorem dX3_sift_60 : decode cX3_sift 60 = .ok (.iload_n 2, 1) := by decide +kernel
theorem dX3_sift_61 : decode cX3_sift 61 = .ok (.invokevirtual 66, 3) := by decide +kernel
theorem dX3_sift_64 : decode cX3_sift 64 = .ok (.ifCond .eq 8, 3) := by decide +kernel
theorem dX3_sift_67 : decode cX3_sift 67 = .ok (.aload_n 0, 1) := by decide +kernel
theorem dX3_sift_68 : decode cX3_sift 68 = .ok (.iload_n 3, 1) := by decide +kernel
theorem dX3_sift_69 : decode cX3_sift 69 = .ok (.invokevirtual 70, 3) := by decide +kernel
theorem dX3_sift_72 : decode cX3_sift 72 = .ok (.iinc 3 1, 3) := by decide +kernel
theorem dX3_sift_75 : decode cX3_sift 75 = .ok (.goto (-25), 3) := by decide +kernel
theorem dX3_sift_78 : decode cX3_sift 78 = .ok (.iconst 0, 1) := by decide +kernel
theorem dX3_sift_79 : decode cX3_sift 79 = .ok (.istore_n 3, 1) := by decide +kernel
theorem dX3_sift_80 : decode cX3_sift 80 = .ok (.iconst 0, 1) := by decide +kernel
theorem dX3_sift_81 : decode cX3_sift 81 = .ok (.istore 4, 2) := by decide +kernel
theorem dX3_sift_83 : decode cX3_sift 83 = .ok (.iload 4, 2) := by decide +kernel
theorem dX3_sift_85 : decode cX3_sift 85 = .ok (.sipush 343, 3) := by decide +kernel
theorem dX3_sift_88 : decode cX3_sift 88 = .ok (.if_icmp .ge 22, 3) := by decide +kernel
theorem dX3_sift_91 : decode cX3_sift 91 = .ok (.aload_n 0, 1) := by decide +kernel
theorem dX3_sift_92 : decode cX3_sift 92 = .ok (.getfield 31, 3) := by decide +kernel
theorem dX3_sift_95 : decode cX3_sift 95 = .ok (.iload 4, 2) := by decide +kernel
theorem dX3_sift_97 : decode cX3_sift 97 = .ok (.baload, 1) := by decide +kernel
theorem dX3_sift_98 : decode cX3_sift 98 = .ok (.ifCond .eq 6, 3) := by decide +kernel
theorem dX3_sift_101 : decode cX3_sift 101 = .ok (.iinc 3 1, 3) := by decide +kernel
theorem dX3_sift_104 : decode cX3_sift 104 = .ok (.iinc 4 1, 3) := by decide +kernel
theorem dX3_sift_107 : decode cX3_sift 107 = .ok (.goto (-24), 3) := by decide +kernel
theorem dX3_sift_110 : decode cX3_sift 110 = .ok (.iload_n 3, 1) := by decide +kernel
theorem dX3_sift_111 : decode cX3_sift 111 = .ok (.ireturn, 1) := by decide +kernel
theorem dX3_strike_0 : decode cX3_strike 0 = .ok (.aload_n 0, 1) := by decide +kernel
theorem dX3_strike_1 : decode cX3_strike 1 = .ok (.getfield 9, 3) := by decide +kernel
theorem dX3_strike_4 : decode cX3_strike 4 = .ok (.iload_n 1, 1) := by decide +kernel
theorem dX3_strike_5 : decode cX3_strike 5 = .ok (.iaload, 1) := by decide +kernel
theorem dX3_strike_6 : decode cX3_strike 6 = .ok (.sipush 343, 3) := by decide +kernel
theorem dX3_strike_9 : decode cX3_strike 9 = .ok (.imul, 1) := by decide +kernel
theorem dX3_strike_10 : decode cX3_strike 10 = .ok (.istore_n 2, 1) := by decide +kernel
theorem dX3_strike_11 : decode cX3_strike 11 = .ok (.iconst 0, 1) := by decide +kernel
theorem dX3_strike_12 : decode cX3_strike 12 = .ok (.istore_n 3, 1) := by decide +kernel
theorem dX3_strike_13 : decode cX3_strike 13 = .ok (.iload_n 3, 1) := by decide +kernel
theorem dX3_strike_14 : decode cX3_strike 14 = .ok (.sipush 343, 3) := by decide +kernel
theorem dX3_strike_17 : decode cX3_strike 17 = .ok (.if_icmp .ge 51, 3) := by decide +kernel
theorem dX3_strike_20 : decode cX3_strike 20 = .ok (.aload_n 0, 1) := by decide +kernel
theorem dX3_strike_21 : decode cX3_strike 21 = .ok (.getfield 28, 3) := by decide +kernel
theorem dX3_strike_24 : decode cX3_strike 24 = .ok (.iload_n 2, 1) := by decide +kernel
theorem dX3_strike_25 : decode cX3_strike 25 = .ok (.iload_n 3, 1) := by decide +kernel
theorem dX3_strike_26 : decode cX3_strike 26 = .ok (.iadd, 1) := by decide +kernel
theorem dX3_strike_27 : decode cX3_strike 27 = .ok (.iaload, 1) := by decide +kernel
theorem dX3_strike_28 : decode cX3_strike 28 = .ok (.aload_n 0, 1) := by decide +kernel
theorem dX3_strike_29 : decode cX3_strike 29 = .ok (.getfield 15, 3) := by decide +kernel
theorem dX3_strike_32 : decode cX3_strike 32 = .ok (.iload_n 1, 1) := by decide +kernel
theorem dX3_strike_33 : decode cX3_strike 33 = .ok (.iaload, 1) := by decide +kernel
theorem dX3_strike_34 : decode cX3_strike 34 = .ok (.if_icmp .lt 7, 3) := by decide +kernel
theorem dX3_strike_37 : decode cX3_strike 37 = .ok (.iconst 1, 1) := by decide +kernel
theorem dX3_strike_38 : decode cX3_strike 38 = .ok (.goto 4, 3) := by decide +kernel
theorem dX3_strike_41 : decode cX3_strike 41 = .ok (.iconst 0, 1) := by decide +kernel
theorem dX3_strike_42 : decode cX3_strike 42 = .ok (.istore 4, 2) := by decide +kernel
theorem dX3_strike_44 : decode cX3_strike 44 = .ok (.iload 4, 2) := by decide +kernel
theorem dX3_strike_46 : decode cX3_strike 46 = .ok (.aload_n 0, 1) := by decide +kernel
theorem dX3_strike_47 : decode cX3_strike 47 = .ok (.getfield 18, 3) := by decide +kernel
theorem dX3_strike_50 : decode cX3_strike 50 = .ok (.iload_n 1, 1) := by decide +kernel
theorem dX3_strike_51 : decode cX3_strike 51 = .ok (.baload, 1) := by decide +kernel
theorem dX3_strike_52 : decode cX3_strike 52 = .ok (.if_icmp .eq 10, 3) := by decide +kernel
theorem dX3_strike_55 : decode cX3_strike 55 = .ok (.aload_n 0, 1) := by decide +kernel
theorem dX3_strike_56 : decode cX3_strike 56 = .ok (.getfield 31, 3) := by decide +kernel
theorem dX3_strike_59 : decode cX3_strike 59 = .ok (.iload_n 3, 1) := by decide +kernel
theorem dX3_strike_60 : decode cX3_strike 60 = .ok (.iconst 0, 1) := by decide +kernel
theorem dX3_strike_61 : decode cX3_strike 61 = .ok (.bastore, 1) := by decide +kernel
theorem dX3_strike_62 : decode cX3_strike 62 = .ok (.iinc 3 1, 3) := by decide +kernel
theorem dX3_strike_65 : decode cX3_strike 65 = .ok (.goto (-52), 3) := by decide +kernel
theorem dX3_strike_68 : decode cX3_strike 68 = .ok (.return_, 1) := by decide +kernel
theorem dX3_weigh_0 : decode cX3_weigh 0 = .ok (.iconst 0, 1) := by decide +kernel
theorem dX3_weigh_1 : decode cX3_weigh 1 = .ok (.istore_n 2, 1) := by decide +kernel
theorem dX3_weigh_2 : decode cX3_weigh 2 = .ok (.iload_n 2, 1) := by decide +kernel
theorem dX3_weigh_3 : decode cX3_weigh 3 = .ok (.aload_n 1, 1) := by decide +kernel
theorem dX3_weigh_4 : decode cX3_weigh 4 = .ok (.getfield 74, 3) := by decide +kernel
theorem dX3_weigh_7 : decode cX3_weigh 7 = .ok (.if_icmp .ge 15, 3) := by decide +kernel
theorem dX3_weigh_10 : decode cX3_weigh 10 = .ok (.aload_n 0, 1) := by decide +kernel
theorem dX3_weigh_11 : decode cX3_weigh 11 = .ok (.aload_n 1, 1) := by decide +kernel
theorem dX3_weigh_12 : decode cX3_weigh 12 = .ok (.iload_n 2, 1) := by decide +kernel
theorem dX3_weigh_13 : decode cX3_weigh 13 = .ok (.invokevirtual 76, 3) := by decide +kernel
theorem dX3_weigh_16 : decode cX3_weigh 16 = .ok (.iinc 2 1, 3) := by decide +kernel
theorem dX3_weigh_19 : decode cX3_weigh 19 = .ok (.goto (-17), 3) := by decide +kernel
theorem dX3_weigh_22 : decode cX3_weigh 22 = .ok (.return_, 1) := by decide +kernel
theorem dX3_weighTune_0 : decode cX3_weighTune 0 = .ok (.aload_n 1, 1) := by decide +kernel
theorem dX3_weighTune_1 : decode cX3_weighTune 1 = .ok (.getfield 80, 3) := by decide +kernel
theorem dX3_weighTune_4 : decode cX3_weighTune 4 = .ok (.aload_n 1, 1) := by decide +kernel
theorem dX3_weighTune_5 : decode cX3_weighTune 5 = .ok (.getfield 57, 3) := by decide +kernel
theorem dX3_weighTune_8 : decode cX3_weighTune 8 = .ok (.iconst 1, 1) := by decide +kernel
theorem dX3_weighTune_9 : decode cX3_weighTune 9 = .ok (.isub, 1) := by decide +kernel
theorem dX3_weighTune_10 : decode cX3_weighTune 10 = .ok (.iaload, 1) := by decide +kernel
theorem dX3_weighTune_11 : decode cX3_weighTune 11 = .ok (.istore_n 3, 1) := by decide +kernel
theorem dX3_weighTune_12 : decode cX3_weighTune 12 = .ok (.aload_n 1, 1) := by decide +kernel
theorem dX3_weighTune_13 : decode cX3_weighTune 13 = .ok (.getfield 83, 3) := by decide +kernel
theorem dX3_weighTune_16 : decode cX3_weighTune 16 = .ok (.iload_n 2, 1) := by decide +kernel
theorem dX3_weighTune_17 : decode cX3_weighTune 17 = .ok (.iaload, 1) := by decide +kernel
theorem dX3_weighTune_18 : decode cX3_weighTune 18 = .ok (.istore 4, 2) := by decide +kernel
theorem dX3_weighTune_20 : decode cX3_weighTune 20 = .ok (.aload_n 0, 1) := by decide +kernel
theorem dX3_weighTune_21 : decode cX3_weighTune 21 = .ok (.aload_n 1, 1) := by decide +kernel
theorem dX3_weighTune_22 : decode cX3_weighTune 22 = .ok (.iload_n 2, 1) := by decide +kernel
theorem dX3_weighTune_23 : decode cX3_weighTune 23 = .ok (.invokevirtual 86, 3) := by decide +kernel
theorem dX3_weighTune_26 : decode cX3_weighTune 26 = .ok (.iconst 0, 1) := by decide +kernel
theorem dX3_weighTune_27 : decode cX3_weighTune 27 = .ok (.istore 5, 2) := by decide +kernel
theorem dX3_weighTune_29 : decode cX3_weighTune 29 = .ok (.iload 5, 2) := by decide +kernel
theorem dX3_weighTune_31 : decode cX3_weighTune 31 = .ok (.iload 4, 2) := by decide +kernel
theorem dX3_weighTune_33 : decode cX3_weighTune 33 = .ok (.if_icmp .gt 45, 3) := by decide +kernel
theorem dX3_weighTune_36 : decode cX3_weighTune 36 = .ok (.aload_n 0, 1) := by decide +kernel
theorem dX3_weighTune_37 : decode cX3_weighTune 37 = .ok (.getfield 37, 3) := by decide +kernel
theorem dX3_weighTune_40 : decode cX3_weighTune 40 = .ok (.iload 5, 2) := by decide +kernel
theorem dX3_weighTune_42 : decode cX3_weighTune 42 = .ok (.aload_n 1, 1) := by decide +kernel
theorem dX3_weighTune_43 : decode cX3_weighTune 43 = .ok (.iload 5, 2) := by decide +kernel
theorem dX3_weighTune_45 : decode cX3_weighTune 45 = .ok (.iconst 0, 1) := by decide +kernel
theorem dX3_weighTune_46 : decode cX3_weighTune 46 = .ok (.iload_n 2, 1) := by decide +kernel
theorem dX3_weighTune_47 : decode cX3_weighTune 47 = .ok (.iconst 0, 1) := by decide +kernel
theorem dX3_weighTune_48 : decode cX3_weighTune 48 = .ok (.iconst 0, 1) := by decide +kernel
theorem dX3_weighTune_49 : decode cX3_weighTune 49 = .ok (.iload_n 3, 1) := by decide +kernel
theorem dX3_weighTune_50 : decode cX3_weighTune 50 = .ok (.invokevirtual 89, 3) := by decide +kernel
theorem dX3_weighTune_53 : decode cX3_weighTune 53 = .ok (.iastore, 1) := by decide +kernel
theorem dX3_weighTune_54 : decode cX3_weighTune 54 = .ok (.aload_n 0, 1) := by decide +kernel
theorem dX3_weighTune_55 : decode cX3_weighTune 55 = .ok (.getfield 40, 3) := by decide +kernel
theorem dX3_weighTune_58 : decode cX3_weighTune 58 = .ok (.iload 5, 2) := by decide +kernel
theorem dX3_weighTune_60 : decode cX3_weighTune 60 = .ok (.aload_n 1, 1) := by decide +kernel
theorem dX3_weighTune_61 : decode cX3_weighTune 61 = .ok (.iload 5, 2) := by decide +kernel
theorem dX3_weighTune_63 : decode cX3_weighTune 63 = .ok (.iconst 1, 1) := by decide +kernel
theorem dX3_weighTune_64 : decode cX3_weighTune 64 = .ok (.iload_n 2, 1) := by decide +kernel
theorem dX3_weighTune_65 : decode cX3_weighTune 65 = .ok (.iconst 0, 1) := by decide +kernel
theorem dX3_weighTune_66 : decode cX3_weighTune 66 = .ok (.iconst 0, 1) := by decide +kernel
theorem dX3_weighTune_67 : decode cX3_weighTune 67 = .ok (.iload_n 3, 1) := by decide +kernel
theorem dX3_weighTune_68 : decode cX3_weighTune 68 = .ok (.invokevirtual 89, 3) := by decide +kernel
theorem dX3_weighTune_71 : decode cX3_weighTune 71 = .ok (.iastore, 1) := by decide +kernel
theorem dX3_weighTune_72 : decode cX3_weighTune 72 = .ok (.iinc 5 1, 3) := by decide +kernel
theorem dX3_weighTune_75 : decode cX3_weighTune 75 = .ok (.goto (-46), 3) := by decide +kernel
theorem dX3_weighTune_78 : decode cX3_weighTune 78 = .ok (.iconst 0, 1) := by decide +kernel
theorem dX3_weighTune_79 : decode cX3_weighTune 79 = .ok (.istore 5, 2) := by decide +kernel
theorem dX3_weighTune_81 : decode cX3_weighTune 81 = .ok (.iload 5, 2) := by decide +kernel
theorem dX3_weighTune_83 : decode cX3_weighTune 83 = .ok (.sipush 343, 3) := by decide +kernel
theorem dX3_weighTune_86 : decode cX3_weighTune 86 = .ok (.if_icmp .ge 33, 3) := by decide +kernel
theorem dX3_weighTune_89 : decode cX3_weighTune 89 = .ok (.aload_n 0, 1) := by decide +kernel
theorem dX3_weighTune_90 : decode cX3_weighTune 90 = .ok (.getfield 28, 3) := by decide +kernel
theorem dX3_weighTune_93 : decode cX3_weighTune 93 = .ok (.iload_n 2, 1) := by decide +kernel
theorem dX3_weighTune_94 : decode cX3_weighTune 94 = .ok (.sipush 343, 3) := by decide +kernel
theorem dX3_weighTune_97 : decode cX3_weighTune 97 = .ok (.imul, 1) := by decide +kernel
theorem dX3_weighTune_98 : decode cX3_weighTune 98 = .ok (.iload 5, 2) := by decide +kernel
theorem dX3_weighTune_100 : decode cX3_weighTune 100 = .ok (.iadd, 1) := by decide +kernel
theorem dX3_weighTune_101 : decode cX3_weighTune 101 = .ok (.aload_n 0, 1) := by decide +kernel
theorem dX3_weighTune_102 : decode cX3_weighTune 102 = .ok (.getfield 37, 3) := by decide +kernel
theorem dX3_weighTune_105 : decode cX3_weighTune 105 = .ok (.aload_n 0, 1) := by decide +kernel
theorem dX3_weighTune_106 : decode cX3_weighTune 106 = .ok (.iload 5, 2) := by decide +kernel
theorem dX3_weighTune_108 : decode cX3_weighTune 108 = .ok (.invokevirtual 93, 3) := by decide +kernel
theorem dX3_weighTune_111 : decode cX3_weighTune 111 = .ok (.iaload, 1) := by decide +kernel
theorem dX3_weighTune_112 : decode cX3_weighTune 112 = .ok (.iastore, 1) := by decide +kernel
theorem dX3_weighTune_113 : decode cX3_weighTune 113 = .ok (.iinc 5 1, 3) := by decide +kernel
theorem dX3_weighTune_116 : decode cX3_weighTune 116 = .ok (.goto (-35), 3) := by decide +kernel
theorem dX3_weighTune_119 : decode cX3_weighTune 119 = .ok (.iconst 0, 1) := by decide +kernel
theorem dX3_weighTune_120 : decode cX3_weighTune 120 = .ok (.istore 5, 2) := by decide +kernel
theorem dX3_weighTune_122 : decode cX3_weighTune 122 = .ok (.iload 5, 2) := by decide +kernel
theorem dX3_weighTune_124 : decode cX3_weighTune 124 = .ok (.iconst 2, 1) := by decide +kernel
theorem dX3_weighTune_125 : decode cX3_weighTune 125 = .ok (.iadd, 1) := by decide +kernel
theorem dX3_weighTune_126 : decode cX3_weighTune 126 = .ok (.iload 4, 2) := by decide +kernel
theorem dX3_weighTune_128 : decode cX3_weighTune 128 = .ok (.if_icmp .ge 42, 3) := by decide +kernel
theorem dX3_weighTune_131 : decode cX3_weighTune 131 = .ok (.aload_n 1, 1) := by decide +kernel
theorem dX3_weighTune_132 : decode cX3_weighTune 132 = .ok (.iload_n 2, 1) := by decide +kernel
theorem dX3_weighTune_133 : decode cX3_weighTune 133 = .ok (.iload 5, 2) := by decide +kernel
theorem dX3_weighTune_135 : decode cX3_weighTune 135 = .ok (.invokestatic 97, 3) := by decide +kernel
theorem dX3_weighTune_138 : decode cX3_weighTune 138 = .ok (.istore 6, 2) := by decide +kernel
theorem dX3_weighTune_140 : decode cX3_weighTune 140 = .ok (.aload_n 0, 1) := by decide +kernel
theorem dX3_weighTune_141 : decode cX3_weighTune 141 = .ok (.getfield 28, 3) := by decide +kernel
theorem dX3_weighTune_144 : decode cX3_weighTune 144 = .ok (.iload_n 2, 1) := by decide +kernel
theorem dX3_weighTune_145 : decode cX3_weighTune 145 = .ok (.sipush 343, 3) := by decide +kernel
theorem dX3_weighTune_148 : decode cX3_weighTune 148 = .ok (.imul, 1) := by decide +kernel
theorem dX3_weighTune_149 : decode cX3_weighTune 149 = .ok (.iload 6, 2) := by decide +kernel
theorem dX3_weighTune_151 : decode cX3_weighTune 151 = .ok (.iadd, 1) := by decide +kernel
theorem dX3_weighTune_152 : decode cX3_weighTune 152 = .ok (.aload_n 0, 1) := by decide +kernel
theorem dX3_weighTune_153 : decode cX3_weighTune 153 = .ok (.getfield 40, 3) := by decide +kernel
theorem dX3_weighTune_156 : decode cX3_weighTune 156 = .ok (.aload_n 0, 1) := by decide +kernel
theorem dX3_weighTune_157 : decode cX3_weighTune 157 = .ok (.iload 6, 2) := by decide +kernel
theorem dX3_weighTune_159 : decode cX3_weighTune 159 = .ok (.invokevirtual 93, 3) := by decide +kernel
theorem dX3_weighTune_162 : decode cX3_weighTune 162 = .ok (.iaload, 1) := by decide +kernel
theorem dX3_weighTune_163 : decode cX3_weighTune 163 = .ok (.iastore, 1) := by decide +kernel
theorem dX3_weighTune_164 : decode cX3_weighTune 164 = .ok (.iinc 5 1, 3) := by decide +kernel
theorem dX3_weighTune_167 : decode cX3_weighTune 167 = .ok (.goto (-45), 3) := by decide +kernel
theorem dX3_weighTune_170 : decode cX3_weighTune 170 = .ok (.return_, 1) := by decide +kernel
theorem dX4_clear_0 : decode cX4_clear 0 = .ok (.aload_n 0, 1) := by decide +kernel
theorem dX4_clear_1 : decode cX4_clear 1 = .ok (.iconst 1, 1) := by decide +kernel
theorem dX4_clear_2 : decode cX4_clear 2 = .ok (.putfield 9, 3) := by decide +kernel
theorem dX4_clear_5 : decode cX4_clear 5 = .ok (.aload_n 0, 1) := by decide +kernel
theorem dX4_clear_6 : decode cX4_clear 6 = .ok (.iconst 0, 1) := by decide +kernel
theorem dX4_clear_7 : decode cX4_clear 7 = .ok (.putfield 49, 3) := by decide +kernel
theorem dX4_clear_10 : decode cX4_clear 10 = .ok (.aload_n 0, 1) := by decide +kernel
theorem dX4_clear_11 : decode cX4_clear 11 = .ok (.iconst 0, 1) := by decide +kernel
theorem dX4_clear_12 : decode cX4_clear 12 = .ok (.putfield 52, 3) := by decide +kernel
theorem dX4_clear_15 : decode cX4_clear 15 = .ok (.aload_n 0, 1) := by decide +kernel
theorem dX4_clear_16 : decode cX4_clear 16 = .ok (.iconst 0, 1) := by decide +kernel
theorem dX4_clear_17 : decode cX4_clear 17 = .ok (.putfield 55, 3) := by decide +kernel
theorem dX4_clear_20 : decode cX4_clear 20 = .ok (.aload_n 0, 1) := by decide +kernel
theorem dX4_clear_21 : decode cX4_clear 21 = .ok (.iconst 0, 1) := by decide +kernel
theorem dX4_clear_22 : decode cX4_clear 22 = .ok (.putfield 58, 3) := by decide +kernel
theorem dX4_clear_25 : decode cX4_clear 25 = .ok (.aload_n 0, 1) := by decide +kernel
theorem dX4_clear_26 : decode cX4_clear 26 = .ok (.iconst 0, 1) := by decide +kernel
theorem dX4_clear_27 : decode cX4_clear 27 = .ok (.putfield 61, 3) := by decide +kernel
theorem dX4_clear_30 : decode cX4_clear 30 = .ok (.aload_n 0, 1) := by decide +kernel
theorem dX4_clear_31 : decode cX4_clear 31 = .ok (.invokevirtual 46, 3) := by decide +kernel
theorem dX4_clear_34 : decode cX4_clear 34 = .ok (.return_, 1) := by decide +kernel
theorem dX4_doesLike_0 : decode cX4_doesLike 0 = .ok (.iload_n 1, 1) := by decide +kernel
theorem dX4_doesLike_1 : decode cX4_doesLike 1 = .ok (.iconst 3, 1) := by decide +kernel
theorem dX4_doesLike_2 : decode cX4_doesLike 2 = .ok (.imul, 1) := by decide +kernel
theorem dX4_doesLike_3 : decode cX4_doesLike 3 = .ok (.istore_n 3, 1) := by decide +kernel
theorem dX4_doesLike_4 : decode cX4_doesLike 4 = .ok (.aload_n 0, 1) := by decide +kernel
theorem dX4_doesLike_5 : decode cX4_doesLike 5 = .ok (.getfield 31, 3) := by decide +kernel
theorem dX4_doesLike_8 : decode cX4_doesLike 8 = .ok (.iload_n 3, 1) := by decide +kernel
theorem dX4_doesLike_9 : decode cX4_doesLike 9 = .ok (.iaload, 1) := by decide +kernel
theorem dX4_doesLike_10 : decode cX4_doesLike 10 = .ok (.iload_n 2, 1) := by decide +kernel
theorem dX4_doesLike_11 : decode cX4_doesLike 11 = .ok (.if_icmp .eq 27, 3) := by decide +kernel
theorem dX4_doesLike_14 : decode cX4_doesLike 14 = .ok (.aload_n 0, 1) := by decide +kernel
theorem dX4_doesLike_15 : decode cX4_doesLike 15 = .ok (.getfield 31, 3) := by decide +kernel
theorem dX4_doesLike_18 : decode cX4_doesLike 18 = .ok (.iload_n 3, 1) := by decide +kernel
theorem dX4_doesLike_19 : decode cX4_doesLike 19 = .ok (.iconst 1, 1) := by decide +kernel
theorem dX4_doesLike_20 : decode cX4_doesLike 20 = .ok (.iadd, 1) := by decide +kernel
theorem dX4_doesLike_21 : decode cX4_doesLike 21 = .ok (.iaload, 1) := by decide +kernel
theorem dX4_doesLike_22 : decode cX4_doesLike 22 = .ok (.iload_n 2, 1) := by decide +kernel
theorem dX4_doesLike_23 : decode cX4_doesLike 23 = .ok (.if_icmp .eq 15, 3) := by decide +kernel
theorem dX4_doesLike_26 : decode cX4_doesLike 26 = .ok (.aload_n 0, 1) := by decide +kernel
theorem dX4_doesLike_27 : decode cX4_doesLike 27 = .ok (.getfield 31, 3) := by decide +kernel
theorem dX4_doesLike_30 : decode cX4_doesLike 30 = .ok (.iload_n 3, 1) := by decide +kernel
theorem dX4_doesLike_31 : decode cX4_doesLike 31 = .ok (.iconst 2, 1) := by decide +kernel
theorem dX4_doesLike_32 : decode cX4_doesLike 32 = .ok (.iadd, 1) := by decide +kernel
theorem dX4_doesLike_33 : decode cX4_doesLike 33 = .ok (.iaload, 1) := by decide +kernel
theorem dX4_doesLike_34 : decode cX4_doesLike 34 = .ok (.iload_n 2, 1) := by decide +kernel
theorem dX4_doesLike_35 : decode cX4_doesLike 35 = .ok (.if_icmp .ne 7, 3) := by decide +kernel
theorem dX4_doesLike_38 : decode cX4_doesLike 38 = .ok (.iconst 1, 1) := by decide +kernel
theorem dX4_doesLike_39 : decode cX4_doesLike 39 = .ok (.goto 4, 3) := by decide +kernel
theorem dX4_doesLike_42 : decode cX4_doesLike 42 = .ok (.iconst 0, 1) := by decide +kernel
theorem dX4_doesLike_43 : decode cX4_doesLike 43 = .ok (.ireturn, 1) := by decide +kernel
theorem dX4_gladness_0 : decode cX4_gladness 0 = .ok (.aload_n 0, 1) := by decide +kernel
theorem dX4_gladness_1 : decode cX4_gladness 1 = .ok (.iload_n 2, 1) := by decide +kernel
theorem dX4_gladness_2 : decode cX4_gladness 2 = .ok (.iload_n 3, 1) := by decide +kernel
theorem dX4_gladness_3 : decode cX4_gladness 3 = .ok (.invokevirtual 77, 3) := by decide +kernel
theorem dX4_gladness_6 : decode cX4_gladness 6 = .ok (.istore 6, 2) := by decide +kernel
theorem dX4_gladness_8 : decode cX4_gladness 8 = .ok (.iconst 0, 1) := by decide +kernel
theorem dX4_gladness_9 : decode cX4_gladness 9 = .ok (.istore 7, 2) := by decide +kernel
theorem dX4_gladness_11 : decode cX4_gladness 11 = .ok (.iconst 0, 1) := by decide +kernel
theorem dX4_gladness_12 : decode cX4_gladness 12 = .ok (.istore 8, 2) := by decide +kernel
theorem dX4_gladness_14 : decode cX4_gladness 14 = .ok (.iload 8, 2) := by decide +kernel
theorem dX4_gladness_16 : decode cX4_gladness 16 = .ok (.iload 6, 2) := by decide +kernel
theorem dX4_gladness_18 : decode cX4_gladness 18 = .ok (.if_icmp .ge 28, 3) := by decide +kernel
theorem dX4_gladness_21 : decode cX4_gladness 21 = .ok (.aload_n 0, 1) := by decide +kernel
theorem dX4_gladness_22 : decode cX4_gladness 22 = .ok (.iload_n 1, 1) := by decide +kernel
theorem dX4_gladness_23 : decode cX4_gladness 23 = .ok (.aload_n 0, 1) := by decide +kernel
theorem dX4_gladness_24 : decode cX4_gladness 24 = .ok (.iload_n 2, 1) := by decide +kernel
theorem dX4_gladness_25 : decode cX4_gladness 25 = .ok (.iload_n 3, 1) := by decide +kernel
theorem dX4_gladness_26 : decode cX4_gladness 26 = .ok (.iload 8, 2) := by decide +kernel
theorem dX4_gladness_28 : decode cX4_gladness 28 = .ok (.invokevirtual 81, 3) := by decide +kernel
theorem dX4_gladness_31 : decode cX4_gladness 31 = .ok (.invokevirtual 85, 3) := by decide +kernel
theorem dX4_gladness_34 : decode cX4_gladness 34 = .ok (.ifCond .eq 6, 3) := by decide +kernel
theorem dX4_gladness_37 : decode cX4_gladness 37 = .ok (.iinc 7 1, 3) := by decide +kernel
theorem dX4_gladness_40 : decode cX4_gladness 40 = .ok (.iinc 8 1, 3) := by decide +kernel
theorem dX4_gladness_43 : decode cX4_gladness 43 = .ok (.goto (-29), 3) := by decide +kernel
theorem dX4_gladness_46 : decode cX4_gladness 46 = .ok (.iload_n 1, 1) := by decide +kernel
theorem dX4_gladness_47 : decode cX4_gladness 47 = .ok (.iconst 3, 1) := by decide +kernel
theorem dX4_gladness_48 : decode cX4_gladness 48 = .ok (.imul, 1) := by decide +kernel
theorem dX4_gladness_49 : decode cX4_gladness 49 = .ok (.istore 8, 2) := by decide +kernel
theorem dX4_gladness_51 : decode cX4_gladness 51 = .ok (.aload_n 0, 1) := by decide +kernel
theorem dX4_gladness_52 : decode cX4_gladness 52 = .ok (.iload_n 2, 1) := by decide +kernel
theorem dX4_gladness_53 : decode cX4_gladness 53 = .ok (.iload_n 3, 1) := by decide +kernel
theorem dX4_gladness_54 : decode cX4_gladness 54 = .ok (.iconst 0, 1) := by decide +kernel
theorem dX4_gladness_55 : decode cX4_gladness 55 = .ok (.aload_n 0, 1) := by decide +kernel
theorem dX4_gladness_56 : decode cX4_gladness 56 = .ok (.getfield 31, 3) := by decide +kernel
theorem dX4_gladness_59 : decode cX4_gladness 59 = .ok (.iload 8, 2) := by decide +kernel
theorem dX4_gladness_61 : decode cX4_gladness 61 = .ok (.iaload, 1) := by decide +kernel
theorem dX4_gladness_62 : decode cX4_gladness 62 = .ok (.aload_n 0, 1) := by decide +kernel
theorem dX4_gladness_63 : decode cX4_gladness 63 = .ok (.getfield 31, 3) := by decide +kernel
theorem dX4_gladness_66 : decode cX4_gladness 66 = .ok (.iload 8, 2) := by decide +kernel
theorem dX4_gladness_68 : decode cX4_gladness 68 = .ok (.iconst 1, 1) := by decide +kernel
theorem dX4_gladness_69 : decode cX4_gladness 69 = .ok (.iadd, 1) := by decide +kernel
theorem dX4_gladness_70 : decode cX4_gladness 70 = .ok (.iaload, 1) := by decide +kernel
theorem dX4_gladness_71 : decode cX4_gladness 71 = .ok (.aload_n 0, 1) := by decide +kernel
theorem dX4_gladness_72 : decode cX4_gladness 72 = .ok (.getfield 31, 3) := by decide +kernel
theorem dX4_gladness_75 : decode cX4_gladness 75 = .ok (.iload 8, 2) := by decide +kernel
theorem dX4_gladness_77 : decode cX4_gladness 77 = .ok (.iconst 2, 1) := by decide +kernel
theorem dX4_gladness_78 : decode cX4_gladness 78 = .ok (.iadd, 1) := by decide +kernel
theorem dX4_gladness_79 : decode cX4_gladness 79 = .ok (.iaload, 1) := by decide +kernel
theorem dX4_gladness_80 : decode cX4_gladness 80 = .ok (.invokevirtual 89, 3) := by decide +kernel
theorem dX4_gladness_83 : decode cX4_gladness 83 = .ok (.istore 9, 2) := by decide +kernel
theorem dX4_gladness_85 : decode cX4_gladness 85 = .ok (.aload_n 0, 1) := by decide +kernel
theorem dX4_gladness_86 : decode cX4_gladness 86 = .ok (.iload 7, 2) := by decide +kernel
theorem dX4_gladness_88 : decode cX4_gladness 88 = .ok (.iload 9, 2) := by decide +kernel
theorem dX4_gladness_90 : decode cX4_gladness 90 = .ok (.iload_n 2, 1) := by decide +kernel
theorem dX4_gladness_91 : decode cX4_gladness 91 = .ok (.iload_n 3, 1) := by decide +kernel
theorem dX4_gladness_92 : decode cX4_gladness 92 = .ok (.iload 4, 2) := by decide +kernel
theorem dX4_gladness_94 : decode cX4_gladness 94 = .ok (.iload 5, 2) := by decide +kernel
theorem dX4_gladness_96 : decode cX4_gladness 96 = .ok (.invokevirtual 93, 3) := by decide +kernel
theorem dX4_gladness_99 : decode cX4_gladness 99 = .ok (.ireturn, 1) := by decide +kernel
theorem dX4_gladnessBy_0 : decode cX4_gladnessBy 0 = .ok (.aload_n 0, 1) := by decide +kernel
theorem dX4_gladnessBy_1 : decode cX4_gladnessBy 1 = .ok (.getfield 43, 3) := by decide +kernel
theorem dX4_gladnessBy_4 : decode cX4_gladnessBy 4 = .ok (.iconst 0, 1) := by decide +kernel
theorem dX4_gladnessBy_5 : decode cX4_gladnessBy 5 = .ok (.iload_n 1, 1) := by decide +kernel
theorem dX4_gladnessBy_6 : decode cX4_gladnessBy 6 = .ok (.iastore, 1) := by decide +kernel
theorem dX4_gladnessBy_7 : decode cX4_gladnessBy 7 = .ok (.aload_n 0, 1) := by decide +kernel
theorem dX4_gladnessBy_8 : decode cX4_gladnessBy 8 = .ok (.getfield 43, 3) := by decide +kernel
theorem dX4_gladnessBy_11 : decode cX4_gladnessBy 11 = .ok (.iconst 1, 1) := by decide +kernel
theorem dX4_gladnessBy_12 : decode cX4_gladnessBy 12 = .ok (.iload_n 2, 1) := by decide +kernel
theorem dX4_gladnessBy_13 : decode cX4_gladnessBy 13 = .ok (.ifCond .eq 7, 3) := by decide +kernel
theorem dX4_gladnessBy_16 : decode cX4_gladnessBy 16 = .ok (.iconst 1, 1) := by decide +kernel
theorem dX4_gladnessBy_17 : decode cX4_gladnessBy 17 = .ok (.goto 4, 3) := by decide +kernel
theorem dX4_gladnessBy_20 : decode cX4_gladnessBy 20 = .ok (.iconst 0, 1) := by decide +kernel
theorem dX4_gladnessBy_21 : decode cX4_gladnessBy 21 = .ok (.iastore, 1) := by decide +kernel
theorem dX4_gladnessBy_22 : decode cX4_gladnessBy 22 = .ok (.aload_n 0, 1) := by decide +kernel
theorem dX4_gladnessBy_23 : decode cX4_gladnessBy 23 = .ok (.getfield 43, 3) := by decide +kernel
theorem dX4_gladnessBy_26 : decode cX4_gladnessBy 26 = .ok (.iconst 2, 1) := by decide +kernel
theorem dX4_gladnessBy_27 : decode cX4_gladnessBy 27 = .ok (.aload_n 0, 1) := by decide +kernel
theorem dX4_gladnessBy_28 : decode cX4_gladnessBy 28 = .ok (.iload_n 3, 1) := by decide +kernel
theorem dX4_gladnessBy_29 : decode cX4_gladnessBy 29 = .ok (.iload 4, 2) := by decide +kernel
theorem dX4_gladnessBy_31 : decode cX4_gladnessBy 31 = .ok (.invokevirtual 77, 3) := by decide +kernel
theorem dX4_gladnessBy_34 : decode cX4_gladnessBy 34 = .ok (.iastore, 1) := by decide +kernel
theorem dX4_gladnessBy_35 : decode cX4_gladnessBy 35 = .ok (.aload_n 0, 1) := by decide +kernel
theorem dX4_gladnessBy_36 : decode cX4_gladnessBy 36 = .ok (.getfield 43, 3) := by decide +kernel
theorem dX4_gladnessBy_39 : decode cX4_gladnessBy 39 = .ok (.iconst 3, 1) := by decide +kernel
theorem dX4_gladnessBy_40 : decode cX4_gladnessBy 40 = .ok (.iload 4, 2) := by decide +kernel
theorem dX4_gladnessBy_42 : decode cX4_gladnessBy 42 = .ok (.iastore, 1) := by decide +kernel
theorem dX4_gladnessBy_43 : decode cX4_gladnessBy 43 = .ok (.aload_n 0, 1) := by decide +kernel
theorem dX4_gladnessBy_44 : decode cX4_gladnessBy 44 = .ok (.getfield 43, 3) := by decide +kernel
theorem dX4_gladnessBy_47 : decode cX4_gladnessBy 47 = .ok (.iconst 4, 1) := by decide +kernel
theorem dX4_gladnessBy_48 : decode cX4_gladnessBy 48 = .ok (.iload 5, 2) := by decide +kernel
theorem dX4_gladnessBy_50 : decode cX4_gladnessBy 50 = .ok (.iastore, 1) := by decide +kernel
theorem dX4_gladnessBy_51 : decode cX4_gladnessBy 51 = .ok (.aload_n 0, 1) := by decide +kernel
theorem dX4_gladnessBy_52 : decode cX4_gladnessBy 52 = .ok (.getfield 43, 3) := by decide +kernel
theorem dX4_gladnessBy_55 : decode cX4_gladnessBy 55 = .ok (.iconst 5, 1) := by decide +kernel
theorem dX4_gladnessBy_56 : decode cX4_gladnessBy 56 = .ok (.aload_n 0, 1) := by decide +kernel
theorem dX4_gladnessBy_57 : decode cX4_gladnessBy 57 = .ok (.getfield 15, 3) := by decide +kernel
theorem dX4_gladnessBy_60 : decode cX4_gladnessBy 60 = .ok (.iload_n 3, 1) := by decide +kernel
theorem dX4_gladnessBy_61 : decode cX4_gladnessBy 61 = .ok (.iaload, 1) := by decide +kernel
theorem dX4_gladnessBy_62 : decode cX4_gladnessBy 62 = .ok (.iastore, 1) := by decide +kernel
theorem dX4_gladnessBy_63 : decode cX4_gladnessBy 63 = .ok (.aload_n 0, 1) := by decide +kernel
theorem dX4_gladnessBy_64 : decode cX4_gladnessBy 64 = .ok (.getfield 43, 3) := by decide +kernel
theorem dX4_gladnessBy_67 : decode cX4_gladnessBy 67 = .ok (.bipush 6, 2) := by decide +kernel
theorem dX4_gladnessBy_69 : decode cX4_gladnessBy 69 = .ok (.iload 6, 2) := by decide +kernel
theorem dX4_gladnessBy_71 : decode cX4_gladnessBy 71 = .ok (.iastore, 1) := by decide +kernel
theorem dX4_gladnessBy_72 : decode cX4_gladnessBy 72 = .ok (.sipush (-9999), 3) := by decide +kernel
theorem dX4_gladnessBy_75 : decode cX4_gladnessBy 75 = .ok (.sipush 9999, 3) := by decide +kernel
theorem dX4_gladnessBy_78 : decode cX4_gladnessBy 78 = .ok (.aload_n 0, 1) := by decide +kernel
theorem dX4_gladnessBy_79 : decode cX4_gladnessBy 79 = .ok (.getfield 37, 3) := by decide +kernel
theorem dX4_gladnessBy_82 : decode cX4_gladnessBy 82 = .ok (.aload_n 0, 1) := by decide +kernel
theorem dX4_gladnessBy_83 : decode cX4_gladnessBy 83 = .ok (.getfield 43, 3) := by decide +kernel
theorem dX4_gladnessBy_86 : decode cX4_gladnessBy 86 = .ok (.invokevirtual 97, 3) := by decide +kernel
theorem dX4_gladnessBy_89 : decode cX4_gladnessBy 89 = .ok (.invokestatic 101, 3) := by decide +kernel
theorem dX4_gladnessBy_92 : decode cX4_gladnessBy 92 = .ok (.invokestatic 106, 3) := by decide +kernel
theorem dX4_gladnessBy_95 : decode cX4_gladnessBy 95 = .ok (.ireturn, 1) := by decide +kernel
theorem dX4_hasTurn_0 : decode cX4_hasTurn 0 = .ok (.aload_n 0, 1) := by decide +kernel
theorem dX4_hasTurn_1 : decode cX4_hasTurn 1 = .ok (.iload_n 1, 1) := by decide +kernel
theorem dX4_hasTurn_2 : decode cX4_hasTurn 2 = .ok (.iload_n 2, 1) := by decide +kernel
theorem dX4_hasTurn_3 : decode cX4_hasTurn 3 = .ok (.invokevirtual 77, 3) := by decide +kernel
theorem dX4_hasTurn_6 : decode cX4_hasTurn 6 = .ok (.istore 7, 2) := by decide +kernel
theorem dX4_hasTurn_8 : decode cX4_hasTurn 8 = .ok (.iload_n 3, 1) := by decide +kernel
theorem dX4_hasTurn_9 : decode cX4_hasTurn 9 = .ok (.istore 8, 2) := by decide +kernel
theorem dX4_hasTurn_11 : decode cX4_hasTurn 11 = .ok (.iload 8, 2) := by decide +kernel
theorem dX4_hasTurn_13 : decode cX4_hasTurn 13 = .ok (.iconst 2, 1) := by decide +kernel
theorem dX4_hasTurn_14 : decode cX4_hasTurn 14 = .ok (.iadd, 1) := by decide +kernel
theorem dX4_hasTurn_15 : decode cX4_hasTurn 15 = .ok (.iload 7, 2) := by decide +kernel
theorem dX4_hasTurn_17 : decode cX4_hasTurn 17 = .ok (.if_icmp .ge 54, 3) := by decide +kernel
theorem dX4_hasTurn_20 : decode cX4_hasTurn 20 = .ok (.aload_n 0, 1) := by decide +kernel
theorem dX4_hasTurn_21 : decode cX4_hasTurn 21 = .ok (.iload_n 1, 1) := by decide +kernel
theorem dX4_hasTurn_22 : decode cX4_hasTurn 22 = .ok (.iload_n 2, 1) := by decide +kernel
theorem dX4_hasTurn_23 : decode cX4_hasTurn 23 = .ok (.iload 8, 2) := by decide +kernel
theorem dX4_hasTurn_25 : decode cX4_hasTurn 25 = .ok (.invokevirtual 81, 3) := by decide +kernel
theorem dX4_hasTurn_28 : decode cX4_hasTurn 28 = .ok (.iload 4, 2) := by decide +kernel
theorem dX4_hasTurn_30 : decode cX4_hasTurn 30 = .ok (.if_icmp .ne 35, 3) := by decide +kernel
theorem dX4_hasTurn_33 : decode cX4_hasTurn 33 = .ok (.aload_n 0, 1) := by decide +kernel
theorem dX4_hasTurn_34 : decode cX4_hasTurn 34 = .ok (.iload_n 1, 1) := by decide +kernel
theorem dX4_hasTurn_35 : decode cX4_hasTurn 35 = .ok (.iload_n 2, 1) := by decide +kernel
theorem dX4_hasTurn_36 : decode cX4_hasTurn 36 = .ok (.iload 8, 2) := by decide +kernel
theorem dX4_hasTurn_38 : decode cX4_hasTurn 38 = .ok (.iconst 1, 1) := by decide +kernel
theorem dX4_hasTurn_39 : decode cX4_hasTurn 39 = .ok (.iadd, 1) := by decide +kernel
theorem dX4_hasTurn_40 : decode cX4_hasTurn 40 = .ok (.invokevirtual 81, 3) := by decide +kernel
theorem dX4_hasTurn_43 : decode cX4_hasTurn 43 = .ok (.iload 5, 2) := by decide +kernel
theorem dX4_hasTurn_45 : decode cX4_hasTurn 45 = .ok (.if_icmp .ne 20, 3) := by decide +kernel
theorem dX4_hasTurn_48 : decode cX4_hasTurn 48 = .ok (.aload_n 0, 1) := by decide +kernel
theorem dX4_hasTurn_49 : decode cX4_hasTurn 49 = .ok (.iload_n 1, 1) := by decide +kernel
theorem dX4_hasTurn_50 : decode cX4_hasTurn 50 = .ok (.iload_n 2, 1) := by decide +kernel
theorem dX4_hasTurn_51 : decode cX4_hasTurn 51 = .ok (.iload 8, 2) := by decide +kernel
theorem dX4_hasTurn_53 : decode cX4_hasTurn 53 = .ok (.iconst 2, 1) := by decide +kernel
theorem dX4_hasTurn_54 : decode cX4_hasTurn 54 = .ok (.iadd, 1) := by decide +kernel
theorem dX4_hasTurn_55 : decode cX4_hasTurn 55 = .ok (.invokevirtual 81, 3) := by decide +kernel
theorem dX4_hasTurn_58 : decode cX4_hasTurn 58 = .ok (.iload 6, 2) := by decide +kernel
theorem dX4_hasTurn_60 : decode cX4_hasTurn 60 = .ok (.if_icmp .ne 5, 3) := by decide +kernel
theorem dX4_hasTurn_63 : decode cX4_hasTurn 63 = .ok (.iconst 1, 1) := by decide +kernel
theorem dX4_hasTurn_64 : decode cX4_hasTurn 64 = .ok (.ireturn, 1) := by decide +kernel
theorem dX4_hasTurn_65 : decode cX4_hasTurn 65 = .ok (.iinc 8 1, 3) := by decide +kernel
theorem dX4_hasTurn_68 : decode cX4_hasTurn 68 = .ok (.goto (-57), 3) := by decide +kernel
theorem dX4_hasTurn_71 : decode cX4_hasTurn 71 = .ok (.iconst 0, 1) := by decide +kernel
theorem dX4_hasTurn_72 : decode cX4_hasTurn 72 = .ok (.ireturn, 1) := by decide +kernel
theorem dX4_left_0 : decode cX4_left 0 = .ok (.aload_n 0, 1) := by decide +kernel
theorem dX4_left_1 : decode cX4_left 1 = .ok (.getfield 19, 3) := by decide +kernel
theorem dX4_left_4 : decode cX4_left 4 = .ok (.iload_n 1, 1) := by decide +kernel
theorem dX4_left_5 : decode cX4_left 5 = .ok (.iaload, 1) := by decide +kernel
theorem dX4_left_6 : decode cX4_left 6 = .ok (.iload_n 2, 1) := by decide +kernel
theorem dX4_left_7 : decode cX4_left 7 = .ok (.isub, 1) := by decide +kernel
theorem dX4_left_8 : decode cX4_left 8 = .ok (.istore_n 3, 1) := by decide +kernel
theorem dX4_left_9 : decode cX4_left 9 = .ok (.iload_n 3, 1) := by decide +kernel
theorem dX4_left_10 : decode cX4_left 10 = .ok (.iconst 3, 1) := by decide +kernel
theorem dX4_left_11 : decode cX4_left 11 = .ok (.if_icmp .ge 7, 3) := by decide +kernel
theorem dX4_left_14 : decode cX4_left 14 = .ok (.iconst 3, 1) := by decide +kernel
theorem dX4_left_15 : decode cX4_left 15 = .ok (.goto 4, 3) := by decide +kernel
theorem dX4_left_18 : decode cX4_left 18 = .ok (.iload_n 3, 1) := by decide +kernel
theorem dX4_left_19 : decode cX4_left 19 = .ok (.ireturn, 1) := by decide +kernel
theorem dX4_noteLeft_0 : decode cX4_noteLeft 0 = .ok (.aload_n 0, 1) := by decide +kernel
theorem dX4_noteLeft_1 : decode cX4_noteLeft 1 = .ok (.getfield 19, 3) := by decide +kernel
theorem dX4_noteLeft_4 : decode cX4_noteLeft 4 = .ok (.iload_n 1, 1) := by decide +kernel
theorem dX4_noteLeft_5 : decode cX4_noteLeft 5 = .ok (.iaload, 1) := by decide +kernel
theorem dX4_noteLeft_6 : decode cX4_noteLeft 6 = .ok (.aload_n 0, 1) := by decide +kernel
theorem dX4_noteLeft_7 : decode cX4_noteLeft 7 = .ok (.iload_n 1, 1) := by decide +kernel
theorem dX4_noteLeft_8 : decode cX4_noteLeft 8 = .ok (.iload_n 2, 1) := by decide +kernel
theorem dX4_noteLeft_9 : decode cX4_noteLeft 9 = .ok (.invokevirtual 77, 3) := by decide +kernel
theorem dX4_noteLeft_12 : decode cX4_noteLeft 12 = .ok (.isub, 1) := by decide +kernel
theorem dX4_noteLeft_13 : decode cX4_noteLeft 13 = .ok (.istore 4, 2) := by decide +kernel
theorem dX4_noteLeft_15 : decode cX4_noteLeft 15 = .ok (.aload_n 0, 1) := by decide +kernel
theorem dX4_noteLeft_16 : decode cX4_noteLeft 16 = .ok (.getfield 22, 3) := by decide +kernel
theorem dX4_noteLeft_19 : decode cX4_noteLeft 19 = .ok (.iload_n 1, 1) := by decide +kernel
theorem dX4_noteLeft_20 : decode cX4_noteLeft 20 = .ok (.bipush 8, 2) := by decide +kernel
theorem dX4_noteLeft_22 : decode cX4_noteLeft 22 = .ok (.imul, 1) := by decide +kernel
theorem dX4_noteLeft_23 : decode cX4_noteLeft 23 = .ok (.iload 4, 2) := by decide +kernel
theorem dX4_noteLeft_25 : decode cX4_noteLeft 25 = .ok (.iadd, 1) := by decide +kernel
theorem dX4_noteLeft_26 : decode cX4_noteLeft 26 = .ok (.iload_n 3, 1) := by decide +kernel
theorem dX4_noteLeft_27 : decode cX4_noteLeft 27 = .ok (.iadd, 1) := by decide +kernel
theorem dX4_noteLeft_28 : decode cX4_noteLeft 28 = .ok (.iaload, 1) := by decide +kernel
theorem dX4_noteLeft_29 : decode cX4_noteLeft 29 = .ok (.ireturn, 1) := by decide +kernel
theorem dX4_tellUsualGladness_0 : decode cX4_tellUsualGladness 0 = .ok (.aload_n 0, 1) := by decide +kernel
theorem dX4_tellUsualGladness_1 : decode cX4_tellUsualGladness 1 = .ok (.getfield 37, 3) := by decide +kernel
theorem dX4_tellUsualGladness_4 : decode cX4_tellUsualGladness 4 = .ok (.invokevirtual 64, 3) := by decide +kernel
theorem dX4_tellUsualGladness_7 : decode cX4_tellUsualGladness 7 = .ok (.aload_n 0, 1) := by decide +kernel
theorem dX4_tellUsualGladness_8 : decode cX4_tellUsualGladness 8 = .ok (.getfield 37, 3) := by decide +kernel
theorem dX4_tellUsualGladness_11 : decode cX4_tellUsualGladness 11 = .ok (.bipush 112, 2) := by decide +kernel
theorem dX4_tellUsualGladness_13 : decode cX4_tellUsualGladness 13 = .ok (.invokevirtual 67, 3) := by decide +kernel
theorem dX4_tellUsualGladness_16 : decode cX4_tellUsualGladness 16 = .ok (.aload_n 0, 1) := by decide +kernel
theorem dX4_tellUsualGladness_17 : decode cX4_tellUsualGladness 17 = .ok (.getfield 37, 3) := by decide +kernel
theorem dX4_tellUsualGladness_20 : decode cX4_tellUsualGladness 20 = .ok (.bipush 113, 2) := by decide +kernel
theorem dX4_tellUsualGladness_22 : decode cX4_tellUsualGladness 22 = .ok (.invokevirtual 67, 3) := by decide +kernel
theorem dX4_tellUsualGladness_25 : decode cX4_tellUsualGladness 25 = .ok (.aload_n 0, 1) := by decide +kernel
theorem dX4_tellUsualGladness_26 : decode cX4_tellUsualGladness 26 = .ok (.getfield 37, 3) := by decide +kernel
theorem dX4_tellUsualGladness_29 : decode cX4_tellUsualGladness 29 = .ok (.iconst 3, 1) := by decide +kernel
theorem dX4_tellUsualGladness_30 : decode cX4_tellUsualGladness 30 = .ok (.invokevirtual 71, 3) := by decide +kernel
theorem dX4_tellUsualGladness_33 : decode cX4_tellUsualGladness 33 = .ok (.aload_n 0, 1) := by decide +kernel
theorem dX4_tellUsualGladness_34 : decode cX4_tellUsualGladness 34 = .ok (.getfield 37, 3) := by decide +kernel
theorem dX4_tellUsualGladness_37 : decode cX4_tellUsualGladness 37 = .ok (.bipush 42, 2) := by decide +kernel
theorem dX4_tellUsualGladness_39 : decode cX4_tellUsualGladness 39 = .ok (.invokevirtual 74, 3) := by decide +kernel
theorem dX4_tellUsualGladness_42 : decode cX4_tellUsualGladness 42 = .ok (.aload_n 0, 1) := by decide +kernel
theorem dX4_tellUsualGladness_43 : decode cX4_tellUsualGladness 43 = .ok (.getfield 37, 3) := by decide +kernel
theorem dX4_tellUsualGladness_46 : decode cX4_tellUsualGladness 46 = .ok (.bipush 43, 2) := by decide +kernel
theorem dX4_tellUsualGladness_48 : decode cX4_tellUsualGladness 48 = .ok (.invokevirtual 74, 3) := by decide +kernel
theorem dX4_tellUsualGladness_51 : decode cX4_tellUsualGladness 51 = .ok (.aload_n 0, 1) := by decide +kernel
theorem dX4_tellUsualGladness_52 : decode cX4_tellUsualGladness 52 = .ok (.getfield 37, 3) := by decide +kernel
theorem dX4_tellUsualGladness_55 : decode cX4_tellUsualGladness 55 = .ok (.bipush 115, 2) := by decide +kernel
theorem dX4_tellUsualGladness_57 : decode cX4_tellUsualGladness 57 = .ok (.invokevirtual 67, 3) := by decide +kernel
theorem dX4_tellUsualGladness_60 : decode cX4_tellUsualGladness 60 = .ok (.aload_n 0, 1) := by decide +kernel
theorem dX4_tellUsualGladness_61 : decode cX4_tellUsualGladness 61 = .ok (.getfield 37, 3) := by decide +kernel
theorem dX4_tellUsualGladness_64 : decode cX4_tellUsualGladness 64 = .ok (.bipush 45, 2) := by decide +kernel
theorem dX4_tellUsualGladness_66 : decode cX4_tellUsualGladness 66 = .ok (.invokevirtual 74, 3) := by decide +kernel
theorem dX4_tellUsualGladness_69 : decode cX4_tellUsualGladness 69 = .ok (.return_, 1) := by decide +kernel
theorem dX5_advance_0 : decode cX5_advance 0 = .ok (.aload_n 0, 1) := by decide +kernel
theorem dX5_advance_1 : decode cX5_advance 1 = .ok (.getfield 43, 3) := by decide +kernel
theorem dX5_advance_4 : decode cX5_advance 4 = .ok (.ifCond .ne 54, 3) := by decide +kernel
theorem dX5_advance_7 : decode cX5_advance 7 = .ok (.aload_n 0, 1) := by decide +kernel
theorem dX5_advance_8 : decode cX5_advance 8 = .ok (.getfield 66, 3) := by decide +kernel
theorem dX5_advance_11 : decode cX5_advance 11 = .ok (.iconst 1, 1) := by decide +kernel
theorem dX5_advance_12 : decode cX5_advance 12 = .ok (.if_icmp .eq 46, 3) := by decide +kernel
theorem dX5_advance_15 : decode cX5_advance 15 = .ok (.aload_n 0, 1) := by decide +kernel
theorem dX5_advance_16 : decode cX5_advance 16 = .ok (.getfield 66, 3) := by decide +kernel
theorem dX5_advance_19 : decode cX5_advance 19 = .ok (.ifCond .eq 39, 3) := by decide +kernel
theorem dX5_advance_22 : decode cX5_advance 22 = .ok (.aload_n 0, 1) := by decide +kernel
theorem dX5_advance_23 : decode cX5_advance 23 = .ok (.getfield 59, 3) := by decide +kernel
theorem dX5_advance_26 : decode cX5_advance 26 = .ok (.sipush 1600, 3) := by decide +kernel
theorem dX5_advance_29 : decode cX5_advance 29 = .ok (.if_icmp .ge 29, 3) := by decide +kernel
theorem dX5_advance_32 : decode cX5_advance 32 = .ok (.aload_n 0, 1) := by decide +kernel
theorem dX5_advance_33 : decode cX5_advance 33 = .ok (.dup, 1) := by decide +kernel
theorem dX5_advance_34 : decode cX5_advance 34 = .ok (.getfield 59, 3) := by decide +kernel
theorem dX5_advance_37 : decode cX5_advance 37 = .ok (.iconst 1, 1) := by decide +kernel
theorem dX5_advance_38 : decode cX5_advance 38 = .ok (.iadd, 1) := by decide +kernel
theorem dX5_advance_39 : decode cX5_advance 39 = .ok (.putfield 59, 3) := by decide +kernel
theorem dX5_advance_42 : decode cX5_advance 42 = .ok (.aload_n 0, 1) := by decide +kernel
theorem dX5_advance_43 : decode cX5_advance 43 = .ok (.aload_n 0, 1) := by decide +kernel
theorem dX5_advance_44 : decode cX5_advance 44 = .ok (.getfield 18, 3) := by decide +kernel
theorem dX5_advance_47 : decode cX5_advance 47 = .ok (.getfield 62, 3) := by decide +kernel
theorem dX5_advance_50 : decode cX5_advance 50 = .ok (.aload_n 0, 1) := by decide +kernel
theorem dX5_advance_51 : decode cX5_advance 51 = .ok (.getfield 59, 3) := by decide +kernel
theorem dX5_advance_54 : decode cX5_advance 54 = .ok (.iaload, 1) := by decide +kernel
theorem dX5_advance_55 : decode cX5_advance 55 = .ok (.putfield 66, 3) := by decide +kernel
theorem dX5_advance_58 : decode cX5_advance 58 = .ok (.return_, 1) := by decide +kernel
theorem dX5_handOver_0 : decode cX5_handOver 0 = .ok (.aload_n 0, 1) := by decide +kernel
theorem dX5_handOver_1 : decode cX5_handOver 1 = .ok (.getfield 25, 3) := by decide +kernel
theorem dX5_handOver_4 : decode cX5_handOver 4 = .ok (.astore_n 2, 1) := by decide +kernel
theorem dX5_handOver_5 : decode cX5_handOver 5 = .ok (.aload_n 0, 1) := by decide +kernel
theorem dX5_handOver_6 : decode cX5_handOver 6 = .ok (.aload_n 1, 1) := by decide +kernel
theorem dX5_handOver_7 : decode cX5_handOver 7 = .ok (.putfield 25, 3) := by decide +kernel
theorem dX5_handOver_10 : decode cX5_handOver 10 = .ok (.aload_n 2, 1) := by decide +kernel
theorem dX5_handOver_11 : decode cX5_handOver 11 = .ok (.areturn, 1) := by decide +kernel
theorem dX5_mayBeginLine_0 : decode cX5_mayBeginLine 0 = .ok (.aload_n 0, 1) := by decide +kernel
theorem dX5_mayBeginLine_1 : decode cX5_mayBeginLine 1 = .ok (.getfield 66, 3) := by decide +kernel
theorem dX5_mayBeginLine_4 : decode cX5_mayBeginLine 4 = .ok (.tableswitch 126 100 105 #[40, 53, 70, 87, 100, 113], 40) := by decide +kernel
theorem dX5_mayBeginLine_44 : decode cX5_mayBeginLine 44 = .ok (.aload_n 0, 1) := by decide +kernel
theorem dX5_mayBeginLine_45 : decode cX5_mayBeginLine 45 = .ok (.getfield 46, 3) := by decide +kernel
theorem dX5_mayBeginLine_48 : decode cX5_mayBeginLine 48 = .ok (.ifCond .ne 7, 3) := by decide +kernel
theorem dX5_mayBeginLine_51 : decode cX5_mayBeginLine 51 = .ok (.iconst 1, 1) := by decide +kernel
theorem dX5_mayBeginLine_52 : decode cX5_mayBeginLine 52 = .ok (.goto 4, 3) := by decide +kernel
theorem dX5_mayBeginLine_55 : decode cX5_mayBeginLine 55 = .ok (.iconst 0, 1) := by decide +kernel
theorem dX5_mayBeginLine_56 : decode cX5_mayBeginLine 56 = .ok (.ireturn, 1) := by decide +kernel
theorem dX5_mayBeginLine_57 : decode cX5_mayBeginLine 57 = .ok (.aload_n 0, 1) := by decide +kernel
theorem dX5_mayBeginLine_58 : decode cX5_mayBeginLine 58 = .ok (.getfield 25, 3) := by decide +kernel
theorem dX5_mayBeginLine_61 : decode cX5_mayBeginLine 61 = .ok (.getfield 91, 3) := by decide +kernel
theorem dX5_mayBeginLine_64 : decode cX5_mayBeginLine 64 = .ok (.iconst 5, 1) := by decide +kernel
theorem dX5_mayBeginLine_65 : decode cX5_mayBeginLine 65 = .ok (.if_icmp .ge 7, 3) := by decide +kernel
theorem dX5_mayBeginLine_68 : decode cX5_mayBeginLine 68 = .ok (.iconst 1, 1) := by decide +kernel
theorem dX5_mayBeginLine_69 : decode cX5_mayBeginLine 69 = .ok (.goto 4, 3) := by decide +kernel
theorem dX5_mayBeginLine_72 : decode cX5_mayBeginLine 72 = .ok (.iconst 0, 1) := by decide +kernel
theorem dX5_mayBeginLine_73 : decode cX5_mayBeginLine 73 = .ok (.ireturn, 1) := by decide +kernel
theorem dX5_mayBeginLine_74 : decode cX5_mayBeginLine 74 = .ok (.aload_n 0, 1) := by decide +kernel
theorem dX5_mayBeginLine_75 : decode cX5_mayBeginLine 75 = .ok (.getfield 25, 3) := by decide +kernel
theorem dX5_mayBeginLine_78 : decode cX5_mayBeginLine 78 = .ok (.getfield 98, 3) := by decide +kernel
theorem dX5_mayBeginLine_81 : decode cX5_mayBeginLine 81 = .ok (.iconst 4, 1) := by decide +kernel
theorem dX5_mayBeginLine_82 : decode cX5_mayBeginLine 82 = .ok (.if_icmp .ge 7, 3) := by decide +kernel
theorem dX5_mayBeginLine_85 : decode cX5_mayBeginLine 85 = .ok (.iconst 1, 1) := by decide +kernel
theorem dX5_mayBeginLine_86 : decode cX5_mayBeginLine 86 = .ok (.goto 4, 3) := by decide +kernel
theorem dX5_mayBeginLine_89 : decode cX5_mayBeginLine 89 = .ok (.iconst 0, 1) := by decide +kernel
theorem dX5_mayBeginLine_90 : decode cX5_mayBeginLine 90 = .ok (.ireturn, 1) := by decide +kernel
theorem dX5_mayBeginLine_91 : decode cX5_mayBeginLine 91 = .ok (.aload_n 0, 1) := by decide +kernel
theorem dX5_mayBeginLine_92 : decode cX5_mayBeginLine 92 = .ok (.getfield 50, 3) := by decide +kernel
theorem dX5_mayBeginLine_95 : decode cX5_mayBeginLine 95 = .ok (.ifCond .ne 7, 3) := by decide +kernel
theorem dX5_mayBeginLine_98 : decode cX5_mayBeginLine 98 = .ok (.iconst 1, 1) := by decide +kernel
theorem dX5_mayBeginLine_99 : decode cX5_mayBeginLine 99 = .ok (.goto 4, 3) := by decide +kernel
theorem dX5_mayBeginLine_102 : decode cX5_mayBeginLine 102 = .ok (.iconst 0, 1) := by decide +kernel
theorem dX5_mayBeginLine_103 : decode cX5_mayBeginLine 103 = .ok (.ireturn, 1) := by decide +kernel
theorem dX5_mayBeginLine_104 : decode cX5_mayBeginLine 104 = .ok (.aload_n 0, 1) := by decide +kernel
theorem dX5_mayBeginLine_105 : decode cX5_mayBeginLine 105 = .ok (.getfield 53, 3) := by decide +kernel
theorem dX5_mayBeginLine_108 : decode cX5_mayBeginLine 108 = .ok (.ifCond .ne 7, 3) := by decide +kernel
theorem dX5_mayBeginLine_111 : decode cX5_mayBeginLine 111 = .ok (.iconst 1, 1) := by decide +kernel
theorem dX5_mayBeginLine_112 : decode cX5_mayBeginLine 112 = .ok (.goto 4, 3) := by decide +kernel
theorem dX5_mayBeginLine_115 : decode cX5_mayBeginLine 115 = .ok (.iconst 0, 1) := by decide +kernel
theorem dX5_mayBeginLine_116 : decode cX5_mayBeginLine 116 = .ok (.ireturn, 1) := by decide +kernel
theorem dX5_mayBeginLine_117 : decode cX5_mayBeginLine 117 = .ok (.aload_n 0, 1) := by decide +kernel
theorem dX5_mayBeginLine_118 : decode cX5_mayBeginLine 118 = .ok (.getfield 56, 3) := by decide +kernel
theorem dX5_mayBeginLine_121 : decode cX5_mayBeginLine 121 = .ok (.ifCond .ne 7, 3) := by decide +kernel
theorem dX5_mayBeginLine_124 : decode cX5_mayBeginLine 124 = .ok (.iconst 1, 1) := by decide +kernel
theorem dX5_mayBeginLine_125 : decode cX5_mayBeginLine 125 = .ok (.goto 4, 3) := by decide +kernel
theorem dX5_mayBeginLine_128 : decode cX5_mayBeginLine 128 = .ok (.iconst 0, 1) := by decide +kernel
theorem dX5_mayBeginLine_129 : decode cX5_mayBeginLine 129 = .ok (.ireturn, 1) := by decide +kernel
theorem dX5_mayBeginLine_130 : decode cX5_mayBeginLine 130 = .ok (.iconst 0, 1) := by decide +kernel
theorem dX5_mayBeginLine_131 : decode cX5_mayBeginLine 131 = .ok (.ireturn, 1) := by decide +kernel
theorem dX5_pass_0 : decode cX5_pass 0 = .ok (.aload_n 0, 1) := by decide +kernel
theorem dX5_pass_1 : decode cX5_pass 1 = .ok (.getfield 66, 3) := by decide +kernel
theorem dX5_pass_4 : decode cX5_pass 4 = .ok (.iload_n 1, 1) := by decide +kernel
theorem dX5_pass_5 : decode cX5_pass 5 = .ok (.if_icmp .ne 10, 3) := by decide +kernel
theorem dX5_pass_8 : decode cX5_pass 8 = .ok (.aload_n 0, 1) := by decide +kernel
theorem dX5_pass_9 : decode cX5_pass 9 = .ok (.invokevirtual 81, 3) := by decide +kernel
theorem dX5_pass_12 : decode cX5_pass 12 = .ok (.goto 7, 3) := by decide +kernel
theorem dX5_pass_15 : decode cX5_pass 15 = .ok (.aload_n 0, 1) := by decide +kernel
theorem dX5_pass_16 : decode cX5_pass 16 = .ok (.invokevirtual 78, 3) := by decide +kernel
theorem dX5_pass_19 : decode cX5_pass 19 = .ok (.return_, 1) := by decide +kernel
theorem dX5_read_0 : decode cX5_read 0 = .ok (.aload_n 0, 1) := by decide +kernel
theorem dX5_read_1 : decode cX5_read 1 = .ok (.getfield 18, 3) := by decide +kernel
theorem dX5_read_4 : decode cX5_read 4 = .ok (.aload_n 1, 1) := by decide +kernel
theorem dX5_read_5 : decode cX5_read 5 = .ok (.iload_n 2, 1) := by decide +kernel
theorem dX5_read_6 : decode cX5_read 6 = .ok (.invokevirtual 36, 3) := by decide +kernel
theorem dX5_read_9 : decode cX5_read 9 = .ok (.aload_n 0, 1) := by decide +kernel
theorem dX5_read_10 : decode cX5_read 10 = .ok (.getfield 25, 3) := by decide +kernel
theorem dX5_read_13 : decode cX5_read 13 = .ok (.invokevirtual 40, 3) := by decide +kernel
theorem dX5_read_16 : decode cX5_read 16 = .ok (.aload_n 0, 1) := by decide +kernel
theorem dX5_read_17 : decode cX5_read 17 = .ok (.iconst 0, 1) := by decide +kernel
theorem dX5_read_18 : decode cX5_read 18 = .ok (.putfield 43, 3) := by decide +kernel
theorem dX5_read_21 : decode cX5_read 21 = .ok (.aload_n 0, 1) := by decide +kernel
theorem dX5_read_22 : decode cX5_read 22 = .ok (.iconst (-1), 1) := by decide +kernel
theorem dX5_read_23 : decode cX5_read 23 = .ok (.putfield 9, 3) := by decide +kernel
theorem dX5_read_26 : decode cX5_read 26 = .ok (.aload_n 0, 1) := by decide +kernel
theorem dX5_read_27 : decode cX5_read 27 = .ok (.iconst 0, 1) := by decide +kernel
theorem dX5_read_28 : decode cX5_read 28 = .ok (.putfield 46, 3) := by decide +kernel
theorem dX5_read_31 : decode cX5_read 31 = .ok (.aload_n 0, 1) := by decide +kernel
theorem dX5_read_32 : decode cX5_read 32 = .ok (.iconst 0, 1) := by decide +kernel
theorem dX5_read_33 : decode cX5_read 33 = .ok (.putfield 50, 3) := by decide +kernel
theorem dX5_read_36 : decode cX5_read 36 = .ok (.aload_n 0, 1) := by decide +kernel
theorem dX5_read_37 : decode cX5_read 37 = .ok (.iconst 0, 1) := by decide +kernel
theorem dX5_read_38 : decode cX5_read 38 = .ok (.putfield 53, 3) := by decide +kernel
theorem dX5_read_41 : decode cX5_read 41 = .ok (.aload_n 0, 1) := by decide +kernel
theorem dX5_read_42 : decode cX5_read 42 = .ok (.iconst 0, 1) := by decide +kernel
theorem dX5_read_43 : decode cX5_read 43 = .ok (.putfield 56, 3) := by decide +kernel
theorem dX5_read_46 : decode cX5_read 46 = .ok (.aload_n 0, 1) := by decide +kernel
theorem dX5_read_47 : decode cX5_read 47 = .ok (.iconst 0, 1) := by decide +kernel
theorem dX5_read_48 : decode cX5_read 48 = .ok (.putfield 59, 3) := by decide +kernel
theorem dX5_read_51 : decode cX5_read 51 = .ok (.aload_n 0, 1) := by decide +kernel
theorem dX5_read_52 : decode cX5_read 52 = .ok (.aload_n 0, 1) := by decide +kernel
theorem dX5_read_53 : decode cX5_read 53 = .ok (.getfield 18, 3) := by decide +kernel
theorem dX5_read_56 : decode cX5_read 56 = .ok (.getfield 62, 3) := by decide +kernel
theorem dX5_read_59 : decode cX5_read 59 = .ok (.iconst 0, 1) := by decide +kernel
theorem dX5_read_60 : decode cX5_read 60 = .ok (.iaload, 1) := by decide +kernel
theorem dX5_read_61 : decode cX5_read 61 = .ok (.putfield 66, 3) := by decide +kernel
theorem dX5_read_64 : decode cX5_read 64 = .ok (.iconst 0, 1) := by decide +kernel
theorem dX5_read_65 : decode cX5_read 65 = .ok (.istore_n 3, 1) := by decide +kernel
theorem dX5_read_66 : decode cX5_read 66 = .ok (.iload_n 3, 1) := by decide +kernel
theorem dX5_read_67 : decode cX5_read 67 = .ok (.sipush 1600, 3) := by decide +kernel
theorem dX5_read_70 : decode cX5_read 70 = .ok (.if_icmp .ge 28, 3) := by decide +kernel
theorem dX5_read_73 : decode cX5_read 73 = .ok (.aload_n 0, 1) := by decide +kernel
theorem dX5_read_74 : decode cX5_read 74 = .ok (.getfield 43, 3) := by decide +kernel
theorem dX5_read_77 : decode cX5_read 77 = .ok (.ifCond .ne 21, 3) := by decide +kernel
theorem dX5_read_80 : decode cX5_read 80 = .ok (.aload_n 0, 1) := by decide +kernel
theorem dX5_read_81 : decode cX5_read 81 = .ok (.getfield 66, 3) := by decide +kernel
theorem dX5_read_84 : decode cX5_read 84 = .ok (.iconst 1, 1) := by decide +kernel
theorem dX5_read_85 : decode cX5_read 85 = .ok (.if_icmp .eq 13, 3) := by decide +kernel
theorem dX5_read_88 : decode cX5_read 88 = .ok (.aload_n 0, 1) := by decide +kernel
theorem dX5_read_89 : decode cX5_read 89 = .ok (.invokevirtual 71, 3) := by decide +kernel
theorem dX5_read_92 : decode cX5_read 92 = .ok (.iinc 3 1, 3) := by decide +kernel
theorem dX5_read_95 : decode cX5_read 95 = .ok (.goto (-29), 3) := by decide +kernel
theorem dX5_read_98 : decode cX5_read 98 = .ok (.aload_n 0, 1) := by decide +kernel
theorem dX5_read_99 : decode cX5_read 99 = .ok (.getfield 43, 3) := by decide +kernel
theorem dX5_read_102 : decode cX5_read 102 = .ok (.ifCond .ne 7, 3) := by decide +kernel
theorem dX5_read_105 : decode cX5_read 105 = .ok (.iconst 1, 1) := by decide +kernel
theorem dX5_read_106 : decode cX5_read 106 = .ok (.goto 4, 3) := by decide +kernel
theorem dX5_read_109 : decode cX5_read 109 = .ok (.iconst 0, 1) := by decide +kernel
theorem dX5_read_110 : decode cX5_read 110 = .ok (.ireturn, 1) := by decide +kernel
theorem dX5_readFormula_0 : decode cX5_readFormula 0 = .ok (.aload_n 0, 1) := by decide +kernel
theorem dX5_readFormula_1 : decode cX5_readFormula 1 = .ok (.getfield 43, 3) := by decide +kernel
theorem dX5_readFormula_4 : decode cX5_readFormula 4 = .ok (.ifCond .eq 4, 3) := by decide +kernel
theorem dX5_readFormula_7 : decode cX5_readFormula 7 = .ok (.return_, 1) := by decide +kernel
theorem dX5_readFormula_8 : decode cX5_readFormula 8 = .ok (.iload_n 1, 1) := by decide +kernel
theorem dX5_readFormula_9 : decode cX5_readFormula 9 = .ok (.iconst 5, 1) := by decide +kernel
theorem dX5_readFormula_10 : decode cX5_readFormula 10 = .ok (.if_icmp .lt 9, 3) := by decide +kernel
theorem dX5_readFormula_13 : decode cX5_readFormula 13 = .ok (.aload_n 0, 1) := by decide +kernel
theorem dX5_readFormula_14 : decode cX5_readFormula 14 = .ok (.iload_n 2, 1) := by decide +kernel
theorem dX5_readFormula_15 : decode cX5_readFormula 15 = .ok (.invokevirtual 155, 3) := by decide +kernel
theorem dX5_readFormula_18 : decode cX5_readFormula 18 = .ok (.return_, 1) := by decide +kernel
theorem dX5_readFormula_19 : decode cX5_readFormula 19 = .ok (.iload_n 1, 1) := by decide +kernel
theorem dX5_readFormula_20 : decode cX5_readFormula 20 = .ok (.iconst 2, 1) := by decide +kernel
theorem dX5_readFormula_21 : decode cX5_readFormula 21 = .ok (.if_icmp .ne 18, 3) := by decide +kernel
theorem dX5_readFormula_24 : decode cX5_readFormula 24 = .ok (.aload_n 0, 1) := by decide +kernel
theorem dX5_readFormula_25 : decode cX5_readFormula 25 = .ok (.getfield 66, 3) := by decide +kernel
theorem dX5_readFormula_28 : decode cX5_readFormula 28 = .ok (.bipush 111, 2) := by decide +kernel
theorem dX5_readFormula_30 : decode cX5_readFormula 30 = .ok (.if_icmp .ne 9, 3) := by decide +kernel
theorem dX5_readFormula_33 : decode cX5_readFormula 33 = .ok (.aload_n 0, 1) := by decide +kernel
theorem dX5_readFormula_34 : decode cX5_readFormula 34 = .ok (.iload_n 2, 1) := by decide +kernel
theorem dX5_readFormula_35 : decode cX5_readFormula 35 = .ok (.invokevirtual 158, 3) := by decide +kernel
theorem dX5_readFormula_38 : decode cX5_readFormula 38 = .ok (.return_, 1) := by decide +kernel
theorem dX5_readFormula_39 : decode cX5_readFormula 39 = .ok (.aload_n 0, 1) := by decide +kernel
theorem dX5_readFormula_40 : decode cX5_readFormula 40 = .ok (.iload_n 1, 1) := by decide +kernel
theorem dX5_readFormula_41 : decode cX5_readFormula 41 = .ok (.iconst 1, 1) := by decide +kernel
theorem dX5_readFormula_42 : decode cX5_readFormula 42 = .ok (.iadd, 1) := by decide +kernel
theorem dX5_readFormula_43 : decode cX5_readFormula 43 = .ok (.iload_n 2, 1) := by decide +kernel
theorem dX5_readFormula_44 : decode cX5_readFormula 44 = .ok (.invokevirtual 113, 3) := by decide +kernel
theorem dX5_readFormula_47 : decode cX5_readFormula 47 = .ok (.iload_n 1, 1) := by decide +kernel
theorem dX5_readFormula_48 : decode cX5_readFormula 48 = .ok (.iconst 2, 1) := by decide +kernel
theorem dX5_readFormula_49 : decode cX5_readFormula 49 = .ok (.if_icmp .ne 7, 3) := by decide +kernel
theorem dX5_readFormula_52 : decode cX5_readFormula 52 = .ok (.iconst 1, 1) := by decide +kernel
theorem dX5_readFormula_53 : decode cX5_readFormula 53 = .ok (.goto 6, 3) := by decide +kernel
theorem dX5_readFormula_56 : decode cX5_readFormula 56 = .ok (.sipush 1600, 3) := by decide +kernel
theorem dX5_readFormula_59 : decode cX5_readFormula 59 = .ok (.istore_n 3, 1) := by decide +kernel
theorem dX5_readFormula_60 : decode cX5_readFormula 60 = .ok (.iconst 0, 1) := by decide +kernel
theorem dX5_readFormula_61 : decode cX5_readFormula 61 = .ok (.istore 4, 2) := by decide +kernel
theorem dX5_readFormula_63 : decode cX5_readFormula 63 = .ok (.iload 4, 2) := by decide +kernel
theorem dX5_readFormula_65 : decode cX5_readFormula 65 = .ok (.iload_n 3, 1) := by decide +kernel
theorem dX5_readFormula_66 : decode cX5_readFormula 66 = .ok (.if_icmp .ge 57, 3) := by decide +kernel
theorem dX5_readFormula_69 : decode cX5_readFormula 69 = .ok (.aload_n 0, 1) := by decide +kernel
theorem dX5_readFormula_70 : decode cX5_readFormula 70 = .ok (.getfield 43, 3) := by decide +kernel
theorem dX5_readFormula_73 : decode cX5_readFormula 73 = .ok (.ifCond .ne 50, 3) := by decide +kernel
theorem dX5_readFormula_76 : decode cX5_readFormula 76 = .ok (.aload_n 0, 1) := by decide +kernel
theorem dX5_readFormula_77 : decode cX5_readFormula 77 = .ok (.getfield 66, 3) := by decide +kernel
theorem dX5_readFormula_80 : decode cX5_readFormula 80 = .ok (.invokestatic 161, 3) := by decide +kernel
theorem dX5_readFormula_83 : decode cX5_readFormula 83 = .ok (.iload_n 1, 1) := by decide +kernel
theorem dX5_readFormula_84 : decode cX5_readFormula 84 = .ok (.if_icmp .ne 39, 3) := by decide +kernel

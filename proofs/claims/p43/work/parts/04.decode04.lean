theorem dX9_layRows_14 : decode cX9_layRows 14 = .ok (.getfield 118, 3) := by decide +kernel
theorem dX9_layRows_17 : decode cX9_layRows 17 = .ok (.iload_n 2, 1) := by decide +kernel
theorem dX9_layRows_18 : decode cX9_layRows 18 = .ok (.iconst 0, 1) := by decide +kernel
theorem dX9_layRows_19 : decode cX9_layRows 19 = .ok (.iastore, 1) := by decide +kernel
theorem dX9_layRows_20 : decode cX9_layRows 20 = .ok (.iinc 2 1, 3) := by decide +kernel
theorem dX9_layRows_23 : decode cX9_layRows 23 = .ok (.goto (-16), 3) := by decide +kernel
theorem dX9_layRows_26 : decode cX9_layRows 26 = .ok (.aload_n 0, 1) := by decide +kernel
theorem dX9_layRows_27 : decode cX9_layRows 27 = .ok (.invokevirtual 358, 3) := by decide +kernel
theorem dX9_layRows_30 : decode cX9_layRows 30 = .ok (.ifCond .ne 4, 3) := by decide +kernel
theorem dX9_layRows_33 : decode cX9_layRows 33 = .ok (.return_, 1) := by decide +kernel
theorem dX9_layRows_34 : decode cX9_layRows 34 = .ok (.aload_n 0, 1) := by decide +kernel
theorem dX9_layRows_35 : decode cX9_layRows 35 = .ok (.invokevirtual 502, 3) := by decide +kernel
theorem dX9_layRows_38 : decode cX9_layRows 38 = .ok (.iconst 0, 1) := by decide +kernel
theorem dX9_layRows_39 : decode cX9_layRows 39 = .ok (.istore_n 2, 1) := by decide +kernel
theorem dX9_layRows_40 : decode cX9_layRows 40 = .ok (.iload_n 2, 1) := by decide +kernel
theorem dX9_layRows_41 : decode cX9_layRows 41 = .ok (.sipush 343, 3) := by decide +kernel
theorem dX9_layRows_44 : decode cX9_layRows 44 = .ok (.if_icmp .ge 75, 3) := by decide +kernel
theorem dX9_layRows_47 : decode cX9_layRows 47 = .ok (.aload_n 0, 1) := by decide +kernel
theorem dX9_layRows_48 : decode cX9_layRows 48 = .ok (.getfield 121, 3) := by decide +kernel
theorem dX9_layRows_51 : decode cX9_layRows 51 = .ok (.iload_n 2, 1) := by decide +kernel
theorem dX9_layRows_52 : decode cX9_layRows 52 = .ok (.aload_n 0, 1) := by decide +kernel
theorem dX9_layRows_53 : decode cX9_layRows 53 = .ok (.iload_n 2, 1) := by decide +kernel
theorem dX9_layRows_54 : decode cX9_layRows 54 = .ok (.iload_n 1, 1) := by decide +kernel
theorem dX9_layRows_55 : decode cX9_layRows 55 = .ok (.invokevirtual 505, 3) := by decide +kernel
theorem dX9_layRows_58 : decode cX9_layRows 58 = .ok (.bastore, 1) := by decide +kernel
theorem dX9_layRows_59 : decode cX9_layRows 59 = .ok (.aload_n 0, 1) := by decide +kernel
theorem dX9_layRows_60 : decode cX9_layRows 60 = .ok (.getfield 121, 3) := by decide +kernel
theorem dX9_layRows_63 : decode cX9_layRows 63 = .ok (.iload_n 2, 1) := by decide +kernel
theorem dX9_layRows_64 : decode cX9_layRows 64 = .ok (.baload, 1) := by decide +kernel
theorem dX9_layRows_65 : decode cX9_layRows 65 = .ok (.ifCond .ne 6, 3) := by decide +kernel
theorem dX9_layRows_68 : decode cX9_layRows 68 = .ok (.goto 45, 3) := by decide +kernel
theorem dX9_layRows_71 : decode cX9_layRows 71 = .ok (.aload_n 0, 1) := by decide +kernel
theorem dX9_layRows_72 : decode cX9_layRows 72 = .ok (.dup, 1) := by decide +kernel
theorem dX9_layRows_73 : decode cX9_layRows 73 = .ok (.getfield 499, 3) := by decide +kernel
theorem dX9_layRows_76 : decode cX9_layRows 76 = .ok (.iconst 1, 1) := by decide +kernel
theorem dX9_layRows_77 : decode cX9_layRows 77 = .ok (.iadd, 1) := by decide +kernel
theorem dX9_layRows_78 : decode cX9_layRows 78 = .ok (.putfield 499, 3) := by decide +kernel
theorem dX9_layRows_81 : decode cX9_layRows 81 = .ok (.iconst 0, 1) := by decide +kernel
theorem dX9_layRows_82 : decode cX9_layRows 82 = .ok (.istore_n 3, 1) := by decide +kernel
theorem dX9_layRows_83 : decode cX9_layRows 83 = .ok (.iload_n 3, 1) := by decide +kernel
theorem dX9_layRows_84 : decode cX9_layRows 84 = .ok (.iconst 3, 1) := by decide +kernel
theorem dX9_layRows_85 : decode cX9_layRows 85 = .ok (.if_icmp .ge 28, 3) := by decide +kernel
theorem dX9_layRows_88 : decode cX9_layRows 88 = .ok (.aload_n 0, 1) := by decide +kernel
theorem dX9_layRows_89 : decode cX9_layRows 89 = .ok (.getfield 118, 3) := by decide +kernel
theorem dX9_layRows_92 : decode cX9_layRows 92 = .ok (.bipush 7, 2) := by decide +kernel
theorem dX9_layRows_94 : decode cX9_layRows 94 = .ok (.iload_n 3, 1) := by decide +kernel
theorem dX9_layRows_95 : decode cX9_layRows 95 = .ok (.imul, 1) := by decide +kernel
theorem dX9_layRows_96 : decode cX9_layRows 96 = .ok (.iload_n 2, 1) := by decide +kernel
theorem dX9_layRows_97 : decode cX9_layRows 97 = .ok (.iload_n 3, 1) := by decide +kernel
theorem dX9_layRows_98 : decode cX9_layRows 98 = .ok (.invokestatic 496, 3) := by decide +kernel
theorem dX9_layRows_101 : decode cX9_layRows 101 = .ok (.iadd, 1) := by decide +kernel
theorem dX9_layRows_102 : decode cX9_layRows 102 = .ok (.dup2, 1) := by decide +kernel
theorem dX9_layRows_103 : decode cX9_layRows 103 = .ok (.iaload, 1) := by decide +kernel
theorem dX9_layRows_104 : decode cX9_layRows 104 = .ok (.iconst 1, 1) := by decide +kernel
theorem dX9_layRows_105 : decode cX9_layRows 105 = .ok (.iadd, 1) := by decide +kernel
theorem dX9_layRows_106 : decode cX9_layRows 106 = .ok (.iastore, 1) := by decide +kernel
theorem dX9_layRows_107 : decode cX9_layRows 107 = .ok (.iinc 3 1, 3) := by decide +kernel
theorem dX9_layRows_110 : decode cX9_layRows 110 = .ok (.goto (-27), 3) := by decide +kernel
theorem dX9_layRows_113 : decode cX9_layRows 113 = .ok (.iinc 2 1, 3) := by decide +kernel
theorem dX9_layRows_116 : decode cX9_layRows 116 = .ok (.goto (-76), 3) := by decide +kernel
theorem dX9_layRows_119 : decode cX9_layRows 119 = .ok (.return_, 1) := by decide +kernel
theorem dX9_layTold_0 : decode cX9_layTold 0 = .ok (.iconst 0, 1) := by decide +kernel
theorem dX9_layTold_1 : decode cX9_layTold 1 = .ok (.istore_n 1, 1) := by decide +kernel
theorem dX9_layTold_2 : decode cX9_layTold 2 = .ok (.iload_n 1, 1) := by decide +kernel
theorem dX9_layTold_3 : decode cX9_layTold 3 = .ok (.bipush 26, 2) := by decide +kernel
theorem dX9_layTold_5 : decode cX9_layTold 5 = .ok (.if_icmp .ge 16, 3) := by decide +kernel
theorem dX9_layTold_8 : decode cX9_layTold 8 = .ok (.aload_n 0, 1) := by decide +kernel
theorem dX9_layTold_9 : decode cX9_layTold 9 = .ok (.getfield 88, 3) := by decide +kernel
theorem dX9_layTold_12 : decode cX9_layTold 12 = .ok (.iload_n 1, 1) := by decide +kernel
theorem dX9_layTold_13 : decode cX9_layTold 13 = .ok (.iconst 0, 1) := by decide +kernel
theorem dX9_layTold_14 : decode cX9_layTold 14 = .ok (.iastore, 1) := by decide +kernel
theorem dX9_layTold_15 : decode cX9_layTold 15 = .ok (.iinc 1 1, 3) := by decide +kernel
theorem dX9_layTold_18 : decode cX9_layTold 18 = .ok (.goto (-16), 3) := by decide +kernel
theorem dX9_layTold_21 : decode cX9_layTold 21 = .ok (.iconst 0, 1) := by decide +kernel
theorem dX9_layTold_22 : decode cX9_layTold 22 = .ok (.istore_n 1, 1) := by decide +kernel
theorem dX9_layTold_23 : decode cX9_layTold 23 = .ok (.iload_n 1, 1) := by decide +kernel
theorem dX9_layTold_24 : decode cX9_layTold 24 = .ok (.iconst 5, 1) := by decide +kernel
theorem dX9_layTold_25 : decode cX9_layTold 25 = .ok (.if_icmp .ge 18, 3) := by decide +kernel
theorem dX9_layTold_28 : decode cX9_layTold 28 = .ok (.aload_n 0, 1) := by decide +kernel
theorem dX9_layTold_29 : decode cX9_layTold 29 = .ok (.getfield 88, 3) := by decide +kernel
theorem dX9_layTold_32 : decode cX9_layTold 32 = .ok (.iconst 0, 1) := by decide +kernel
theorem dX9_layTold_33 : decode cX9_layTold 33 = .ok (.iload_n 1, 1) := by decide +kernel
theorem dX9_layTold_34 : decode cX9_layTold 34 = .ok (.iadd, 1) := by decide +kernel
theorem dX9_layTold_35 : decode cX9_layTold 35 = .ok (.iconst (-1), 1) := by decide +kernel
theorem dX9_layTold_36 : decode cX9_layTold 36 = .ok (.iastore, 1) := by decide +kernel
theorem dX9_layTold_37 : decode cX9_layTold 37 = .ok (.iinc 1 1, 3) := by decide +kernel
theorem dX9_layTold_40 : decode cX9_layTold 40 = .ok (.goto (-17), 3) := by decide +kernel
theorem dX9_layTold_43 : decode cX9_layTold 43 = .ok (.iconst 0, 1) := by decide +kernel
theorem dX9_layTold_44 : decode cX9_layTold 44 = .ok (.istore_n 1, 1) := by decide +kernel
theorem dX9_layTold_45 : decode cX9_layTold 45 = .ok (.iload_n 1, 1) := by decide +kernel
theorem dX9_layTold_46 : decode cX9_layTold 46 = .ok (.aload_n 0, 1) := by decide +kernel
theorem dX9_layTold_47 : decode cX9_layTold 47 = .ok (.invokevirtual 358, 3) := by decide +kernel
theorem dX9_layTold_50 : decode cX9_layTold 50 = .ok (.if_icmp .ge 31, 3) := by decide +kernel
theorem dX9_layTold_53 : decode cX9_layTold 53 = .ok (.aload_n 0, 1) := by decide +kernel
theorem dX9_layTold_54 : decode cX9_layTold 54 = .ok (.getfield 88, 3) := by decide +kernel
theorem dX9_layTold_57 : decode cX9_layTold 57 = .ok (.bipush 20, 2) := by decide +kernel
theorem dX9_layTold_59 : decode cX9_layTold 59 = .ok (.iload_n 1, 1) := by decide +kernel
theorem dX9_layTold_60 : decode cX9_layTold 60 = .ok (.iadd, 1) := by decide +kernel
theorem dX9_layTold_61 : decode cX9_layTold 61 = .ok (.aload_n 0, 1) := by decide +kernel
theorem dX9_layTold_62 : decode cX9_layTold 62 = .ok (.getfield 54, 3) := by decide +kernel
theorem dX9_layTold_65 : decode cX9_layTold 65 = .ok (.iconst 4, 1) := by decide +kernel
theorem dX9_layTold_66 : decode cX9_layTold 66 = .ok (.aload_n 0, 1) := by decide +kernel
theorem dX9_layTold_67 : decode cX9_layTold 67 = .ok (.getfield 249, 3) := by decide +kernel
theorem dX9_layTold_70 : decode cX9_layTold 70 = .ok (.imul, 1) := by decide +kernel
theorem dX9_layTold_71 : decode cX9_layTold 71 = .ok (.iload_n 1, 1) := by decide +kernel
theorem dX9_layTold_72 : decode cX9_layTold 72 = .ok (.iadd, 1) := by decide +kernel
theorem dX9_layTold_73 : decode cX9_layTold 73 = .ok (.iaload, 1) := by decide +kernel
theorem dX9_layTold_74 : decode cX9_layTold 74 = .ok (.iastore, 1) := by decide +kernel
theorem dX9_layTold_75 : decode cX9_layTold 75 = .ok (.iinc 1 1, 3) := by decide +kernel
theorem dX9_layTold_78 : decode cX9_layTold 78 = .ok (.goto (-33), 3) := by decide +kernel
theorem dX9_layTold_81 : decode cX9_layTold 81 = .ok (.aload_n 0, 1) := by decide +kernel
theorem dX9_layTold_82 : decode cX9_layTold 82 = .ok (.getfield 88, 3) := by decide +kernel
theorem dX9_layTold_85 : decode cX9_layTold 85 = .ok (.bipush 25, 2) := by decide +kernel
theorem dX9_layTold_87 : decode cX9_layTold 87 = .ok (.aload_n 0, 1) := by decide +kernel
theorem dX9_layTold_88 : decode cX9_layTold 88 = .ok (.getfield 36, 3) := by decide +kernel
theorem dX9_layTold_91 : decode cX9_layTold 91 = .ok (.aload_n 0, 1) := by decide +kernel
theorem dX9_layTold_92 : decode cX9_layTold 92 = .ok (.getfield 249, 3) := by decide +kernel
theorem dX9_layTold_95 : decode cX9_layTold 95 = .ok (.iaload, 1) := by decide +kernel
theorem dX9_layTold_96 : decode cX9_layTold 96 = .ok (.iastore, 1) := by decide +kernel
theorem dX9_layTold_97 : decode cX9_layTold 97 = .ok (.return_, 1) := by decide +kernel
theorem dX9_leftOf_0 : decode cX9_leftOf 0 = .ok (.aload_n 0, 1) := by decide +kernel
theorem dX9_leftOf_1 : decode cX9_leftOf 1 = .ok (.getfield 45, 3) := by decide +kernel
theorem dX9_leftOf_4 : decode cX9_leftOf 4 = .ok (.iconst 5, 1) := by decide +kernel
theorem dX9_leftOf_5 : decode cX9_leftOf 5 = .ok (.aload_n 0, 1) := by decide +kernel
theorem dX9_leftOf_6 : decode cX9_leftOf 6 = .ok (.getfield 249, 3) := by decide +kernel
theorem dX9_leftOf_9 : decode cX9_leftOf 9 = .ok (.imul, 1) := by decide +kernel
theorem dX9_leftOf_10 : decode cX9_leftOf 10 = .ok (.iload_n 1, 1) := by decide +kernel
theorem dX9_leftOf_11 : decode cX9_leftOf 11 = .ok (.iadd, 1) := by decide +kernel
theorem dX9_leftOf_12 : decode cX9_leftOf 12 = .ok (.iaload, 1) := by decide +kernel
theorem dX9_leftOf_13 : decode cX9_leftOf 13 = .ok (.aload_n 0, 1) := by decide +kernel
theorem dX9_leftOf_14 : decode cX9_leftOf 14 = .ok (.getfield 88, 3) := by decide +kernel
theorem dX9_leftOf_17 : decode cX9_leftOf 17 = .ok (.bipush 10, 2) := by decide +kernel
theorem dX9_leftOf_19 : decode cX9_leftOf 19 = .ok (.iload_n 1, 1) := by decide +kernel
theorem dX9_leftOf_20 : decode cX9_leftOf 20 = .ok (.iadd, 1) := by decide +kernel
theorem dX9_leftOf_21 : decode cX9_leftOf 21 = .ok (.iaload, 1) := by decide +kernel
theorem dX9_leftOf_22 : decode cX9_leftOf 22 = .ok (.isub, 1) := by decide +kernel
theorem dX9_leftOf_23 : decode cX9_leftOf 23 = .ok (.iconst 3, 1) := by decide +kernel
theorem dX9_leftOf_24 : decode cX9_leftOf 24 = .ok (.bipush 8, 2) := by decide +kernel
theorem dX9_leftOf_26 : decode cX9_leftOf 26 = .ok (.invokestatic 376, 3) := by decide +kernel
theorem dX9_leftOf_29 : decode cX9_leftOf 29 = .ok (.ireturn, 1) := by decide +kernel
theorem dX9_lies_0 : decode cX9_lies 0 = .ok (.iload_n 1, 1) := by decide +kernel
theorem dX9_lies_1 : decode cX9_lies 1 = .ok (.iconst 0, 1) := by decide +kernel
theorem dX9_lies_2 : decode cX9_lies 2 = .ok (.aload_n 0, 1) := by decide +kernel
theorem dX9_lies_3 : decode cX9_lies 3 = .ok (.getfield 373, 3) := by decide +kernel
theorem dX9_lies_6 : decode cX9_lies 6 = .ok (.iconst 1, 1) := by decide +kernel
theorem dX9_lies_7 : decode cX9_lies 7 = .ok (.isub, 1) := by decide +kernel
theorem dX9_lies_8 : decode cX9_lies 8 = .ok (.invokestatic 354, 3) := by decide +kernel
theorem dX9_lies_11 : decode cX9_lies 11 = .ok (.ifCond .eq 12, 3) := by decide +kernel
theorem dX9_lies_14 : decode cX9_lies 14 = .ok (.aload_n 0, 1) := by decide +kernel
theorem dX9_lies_15 : decode cX9_lies 15 = .ok (.getfield 97, 3) := by decide +kernel
theorem dX9_lies_18 : decode cX9_lies 18 = .ok (.iload_n 1, 1) := by decide +kernel
theorem dX9_lies_19 : decode cX9_lies 19 = .ok (.iaload, 1) := by decide +kernel
theorem dX9_lies_20 : decode cX9_lies 20 = .ok (.goto 5, 3) := by decide +kernel
theorem dX9_lies_23 : decode cX9_lies 23 = .ok (.bipush (-2), 2) := by decide +kernel
theorem dX9_lies_25 : decode cX9_lies 25 = .ok (.ireturn, 1) := by decide +kernel
theorem dX9_likesOf_0 : decode cX9_likesOf 0 = .ok (.aload_n 0, 1) := by decide +kernel
theorem dX9_likesOf_1 : decode cX9_likesOf 1 = .ok (.getfield 57, 3) := by decide +kernel
theorem dX9_likesOf_4 : decode cX9_likesOf 4 = .ok (.iconst 3, 1) := by decide +kernel
theorem dX9_likesOf_5 : decode cX9_likesOf 5 = .ok (.iconst 4, 1) := by decide +kernel
theorem dX9_likesOf_6 : decode cX9_likesOf 6 = .ok (.aload_n 0, 1) := by decide +kernel
theorem dX9_likesOf_7 : decode cX9_likesOf 7 = .ok (.getfield 249, 3) := by decide +kernel
theorem dX9_likesOf_10 : decode cX9_likesOf 10 = .ok (.imul, 1) := by decide +kernel
theorem dX9_likesOf_11 : decode cX9_likesOf 11 = .ok (.iload_n 1, 1) := by decide +kernel
theorem dX9_likesOf_12 : decode cX9_likesOf 12 = .ok (.iadd, 1) := by decide +kernel
theorem dX9_likesOf_13 : decode cX9_likesOf 13 = .ok (.imul, 1) := by decide +kernel
theorem dX9_likesOf_14 : decode cX9_likesOf 14 = .ok (.iload_n 2, 1) := by decide +kernel
theorem dX9_likesOf_15 : decode cX9_likesOf 15 = .ok (.iadd, 1) := by decide +kernel
theorem dX9_likesOf_16 : decode cX9_likesOf 16 = .ok (.iaload, 1) := by decide +kernel
theorem dX9_likesOf_17 : decode cX9_likesOf 17 = .ok (.ireturn, 1) := by decide +kernel
theorem dX9_misplaced_0 : decode cX9_misplaced 0 = .ok (.aload_n 0, 1) := by decide +kernel
theorem dX9_misplaced_1 : decode cX9_misplaced 1 = .ok (.aload_n 0, 1) := by decide +kernel
theorem dX9_misplaced_2 : decode cX9_misplaced 2 = .ok (.getfield 191, 3) := by decide +kernel
theorem dX9_misplaced_5 : decode cX9_misplaced 5 = .ok (.iconst 1, 1) := by decide +kernel
theorem dX9_misplaced_6 : decode cX9_misplaced 6 = .ok (.if_icmp .ne 7, 3) := by decide +kernel
theorem dX9_misplaced_9 : decode cX9_misplaced 9 = .ok (.iconst 1, 1) := by decide +kernel
theorem dX9_misplaced_10 : decode cX9_misplaced 10 = .ok (.goto 4, 3) := by decide +kernel
theorem dX9_misplaced_13 : decode cX9_misplaced 13 = .ok (.iconst 2, 1) := by decide +kernel
theorem dX9_misplaced_14 : decode cX9_misplaced 14 = .ok (.aload_n 0, 1) := by decide +kernel
theorem dX9_misplaced_15 : decode cX9_misplaced 15 = .ok (.getfield 184, 3) := by decide +kernel
theorem dX9_misplaced_18 : decode cX9_misplaced 18 = .ok (.invokevirtual 215, 3) := by decide +kernel
theorem dX9_misplaced_21 : decode cX9_misplaced 21 = .ok (.return_, 1) := by decide +kernel
theorem dX9_mostBy_0 : decode cX9_mostBy 0 = .ok (.iconst 0, 1) := by decide +kernel
theorem dX9_mostBy_1 : decode cX9_mostBy 1 = .ok (.istore_n 2, 1) := by decide +kernel
theorem dX9_mostBy_2 : decode cX9_mostBy 2 = .ok (.iconst 0, 1) := by decide +kernel
theorem dX9_mostBy_3 : decode cX9_mostBy 3 = .ok (.istore_n 3, 1) := by decide +kernel
theorem dX9_mostBy_4 : decode cX9_mostBy 4 = .ok (.iload_n 3, 1) := by decide +kernel
theorem dX9_mostBy_5 : decode cX9_mostBy 5 = .ok (.sipush 343, 3) := by decide +kernel
theorem dX9_mostBy_8 : decode cX9_mostBy 8 = .ok (.if_icmp .ge 94, 3) := by decide +kernel
theorem dX9_mostBy_11 : decode cX9_mostBy 11 = .ok (.aload_n 0, 1) := by decide +kernel
theorem dX9_mostBy_12 : decode cX9_mostBy 12 = .ok (.getfield 121, 3) := by decide +kernel
theorem dX9_mostBy_15 : decode cX9_mostBy 15 = .ok (.iload_n 3, 1) := by decide +kernel
theorem dX9_mostBy_16 : decode cX9_mostBy 16 = .ok (.baload, 1) := by decide +kernel
theorem dX9_mostBy_17 : decode cX9_mostBy 17 = .ok (.ifCond .ne 6, 3) := by decide +kernel
theorem dX9_mostBy_20 : decode cX9_mostBy 20 = .ok (.goto 76, 3) := by decide +kernel
theorem dX9_mostBy_23 : decode cX9_mostBy 23 = .ok (.iconst 0, 1) := by decide +kernel
theorem dX9_mostBy_24 : decode cX9_mostBy 24 = .ok (.istore 4, 2) := by decide +kernel
theorem dX9_mostBy_26 : decode cX9_mostBy 26 = .ok (.iload_n 3, 1) := by decide +kernel
theorem dX9_mostBy_27 : decode cX9_mostBy 27 = .ok (.istore 5, 2) := by decide +kernel
theorem dX9_mostBy_29 : decode cX9_mostBy 29 = .ok (.iload 5, 2) := by decide +kernel
theorem dX9_mostBy_31 : decode cX9_mostBy 31 = .ok (.sipush 343, 3) := by decide +kernel
theorem dX9_mostBy_34 : decode cX9_mostBy 34 = .ok (.if_icmp .ge 53, 3) := by decide +kernel
theorem dX9_mostBy_37 : decode cX9_mostBy 37 = .ok (.iload 4, 2) := by decide +kernel
theorem dX9_mostBy_39 : decode cX9_mostBy 39 = .ok (.aload_n 0, 1) := by decide +kernel
theorem dX9_mostBy_40 : decode cX9_mostBy 40 = .ok (.getfield 121, 3) := by decide +kernel
theorem dX9_mostBy_43 : decode cX9_mostBy 43 = .ok (.iload 5, 2) := by decide +kernel
theorem dX9_mostBy_45 : decode cX9_mostBy 45 = .ok (.baload, 1) := by decide +kernel
theorem dX9_mostBy_46 : decode cX9_mostBy 46 = .ok (.ifCond .eq 31, 3) := by decide +kernel
theorem dX9_mostBy_49 : decode cX9_mostBy 49 = .ok (.aload_n 0, 1) := by decide +kernel
theorem dX9_mostBy_50 : decode cX9_mostBy 50 = .ok (.getfield 100, 3) := by decide +kernel
theorem dX9_mostBy_53 : decode cX9_mostBy 53 = .ok (.iconst 5, 1) := by decide +kernel
theorem dX9_mostBy_54 : decode cX9_mostBy 54 = .ok (.iload 5, 2) := by decide +kernel
theorem dX9_mostBy_56 : decode cX9_mostBy 56 = .ok (.imul, 1) := by decide +kernel
theorem dX9_mostBy_57 : decode cX9_mostBy 57 = .ok (.iload_n 1, 1) := by decide +kernel
theorem dX9_mostBy_58 : decode cX9_mostBy 58 = .ok (.iadd, 1) := by decide +kernel
theorem dX9_mostBy_59 : decode cX9_mostBy 59 = .ok (.iaload, 1) := by decide +kernel
theorem dX9_mostBy_60 : decode cX9_mostBy 60 = .ok (.aload_n 0, 1) := by decide +kernel
theorem dX9_mostBy_61 : decode cX9_mostBy 61 = .ok (.getfield 100, 3) := by decide +kernel
theorem dX9_mostBy_64 : decode cX9_mostBy 64 = .ok (.iconst 5, 1) := by decide +kernel
theorem dX9_mostBy_65 : decode cX9_mostBy 65 = .ok (.iload_n 3, 1) := by decide +kernel
theorem dX9_mostBy_66 : decode cX9_mostBy 66 = .ok (.imul, 1) := by decide +kernel
theorem dX9_mostBy_67 : decode cX9_mostBy 67 = .ok (.iload_n 1, 1) := by decide +kernel
theorem dX9_mostBy_68 : decode cX9_mostBy 68 = .ok (.iadd, 1) := by decide +kernel
theorem dX9_mostBy_69 : decode cX9_mostBy 69 = .ok (.iaload, 1) := by decide +kernel
theorem dX9_mostBy_70 : decode cX9_mostBy 70 = .ok (.if_icmp .ne 7, 3) := by decide +kernel
theorem dX9_mostBy_73 : decode cX9_mostBy 73 = .ok (.iconst 1, 1) := by decide +kernel
theorem dX9_mostBy_74 : decode cX9_mostBy 74 = .ok (.goto 4, 3) := by decide +kernel
theorem dX9_mostBy_77 : decode cX9_mostBy 77 = .ok (.iconst 0, 1) := by decide +kernel
theorem dX9_mostBy_78 : decode cX9_mostBy 78 = .ok (.iadd, 1) := by decide +kernel
theorem dX9_mostBy_79 : decode cX9_mostBy 79 = .ok (.istore 4, 2) := by decide +kernel
theorem dX9_mostBy_81 : decode cX9_mostBy 81 = .ok (.iinc 5 1, 3) := by decide +kernel
theorem dX9_mostBy_84 : decode cX9_mostBy 84 = .ok (.goto (-55), 3) := by decide +kernel
theorem dX9_mostBy_87 : decode cX9_mostBy 87 = .ok (.iload 4, 2) := by decide +kernel
theorem dX9_mostBy_89 : decode cX9_mostBy 89 = .ok (.iload_n 2, 1) := by decide +kernel
theorem dX9_mostBy_90 : decode cX9_mostBy 90 = .ok (.if_icmp .le 6, 3) := by decide +kernel
theorem dX9_mostBy_93 : decode cX9_mostBy 93 = .ok (.iload 4, 2) := by decide +kernel
theorem dX9_mostBy_95 : decode cX9_mostBy 95 = .ok (.istore_n 2, 1) := by decide +kernel
theorem dX9_mostBy_96 : decode cX9_mostBy 96 = .ok (.iinc 3 1, 3) := by decide +kernel
theorem dX9_mostBy_99 : decode cX9_mostBy 99 = .ok (.goto (-95), 3) := by decide +kernel
theorem dX9_mostBy_102 : decode cX9_mostBy 102 = .ok (.iload_n 2, 1) := by decide +kernel
theorem dX9_mostBy_103 : decode cX9_mostBy 103 = .ok (.ireturn, 1) := by decide +kernel
theorem dX9_must_0 : decode cX9_must 0 = .ok (.aload_n 0, 1) := by decide +kernel
theorem dX9_must_1 : decode cX9_must 1 = .ok (.invokevirtual 219, 3) := by decide +kernel
theorem dX9_must_4 : decode cX9_must 4 = .ok (.ifCond .ne 4, 3) := by decide +kernel
theorem dX9_must_7 : decode cX9_must 7 = .ok (.return_, 1) := by decide +kernel
theorem dX9_must_8 : decode cX9_must 8 = .ok (.iload_n 1, 1) := by decide +kernel
theorem dX9_must_9 : decode cX9_must 9 = .ok (.ifCond .eq 10, 3) := by decide +kernel
theorem dX9_must_12 : decode cX9_must 12 = .ok (.aload_n 0, 1) := by decide +kernel
theorem dX9_must_13 : decode cX9_must 13 = .ok (.invokevirtual 223, 3) := by decide +kernel
theorem dX9_must_16 : decode cX9_must 16 = .ok (.goto 7, 3) := by decide +kernel
theorem dX9_must_19 : decode cX9_must 19 = .ok (.aload_n 0, 1) := by decide +kernel
theorem dX9_must_20 : decode cX9_must 20 = .ok (.invokevirtual 226, 3) := by decide +kernel
theorem dX9_must_23 : decode cX9_must 23 = .ok (.return_, 1) := by decide +kernel
theorem dX9_note_0 : decode cX9_note 0 = .ok (.aload_n 0, 1) := by decide +kernel
theorem dX9_note_1 : decode cX9_note 1 = .ok (.iload_n 1, 1) := by decide +kernel
theorem dX9_note_2 : decode cX9_note 2 = .ok (.invokevirtual 412, 3) := by decide +kernel
theorem dX9_note_5 : decode cX9_note 5 = .ok (.ifCond .eq 27, 3) := by decide +kernel
theorem dX9_note_8 : decode cX9_note 8 = .ok (.iload_n 2, 1) := by decide +kernel
theorem dX9_note_9 : decode cX9_note 9 = .ok (.iconst 0, 1) := by decide +kernel
theorem dX9_note_10 : decode cX9_note 10 = .ok (.aload_n 0, 1) := by decide +kernel
theorem dX9_note_11 : decode cX9_note 11 = .ok (.iload_n 1, 1) := by decide +kernel
theorem dX9_note_12 : decode cX9_note 12 = .ok (.invokevirtual 336, 3) := by decide +kernel
theorem dX9_note_15 : decode cX9_note 15 = .ok (.iconst 1, 1) := by decide +kernel
theorem dX9_note_16 : decode cX9_note 16 = .ok (.isub, 1) := by decide +kernel
theorem dX9_note_17 : decode cX9_note 17 = .ok (.invokestatic 354, 3) := by decide +kernel
theorem dX9_note_20 : decode cX9_note 20 = .ok (.ifCond .eq 12, 3) := by decide +kernel
theorem dX9_note_23 : decode cX9_note 23 = .ok (.aload_n 0, 1) := by decide +kernel
theorem dX9_note_24 : decode cX9_note 24 = .ok (.iload_n 1, 1) := by decide +kernel
theorem dX9_note_25 : decode cX9_note 25 = .ok (.iload_n 2, 1) := by decide +kernel
theorem dX9_note_26 : decode cX9_note 26 = .ok (.invokevirtual 379, 3) := by decide +kernel
theorem dX9_note_29 : decode cX9_note 29 = .ok (.goto 4, 3) := by decide +kernel
theorem dX9_note_32 : decode cX9_note 32 = .ok (.iconst (-1), 1) := by decide +kernel
theorem dX9_note_33 : decode cX9_note 33 = .ok (.ireturn, 1) := by decide +kernel
theorem dX9_noteIn_0 : decode cX9_noteIn 0 = .ok (.iload_n 1, 1) := by decide +kernel
theorem dX9_noteIn_1 : decode cX9_noteIn 1 = .ok (.ifCond .ne 10, 3) := by decide +kernel
theorem dX9_noteIn_4 : decode cX9_noteIn 4 = .ok (.iload_n 0, 1) := by decide +kernel
theorem dX9_noteIn_5 : decode cX9_noteIn 5 = .ok (.bipush 49, 2) := by decide +kernel
theorem dX9_noteIn_7 : decode cX9_noteIn 7 = .ok (.idiv, 1) := by decide +kernel
theorem dX9_noteIn_8 : decode cX9_noteIn 8 = .ok (.goto 22, 3) := by decide +kernel
theorem dX9_noteIn_11 : decode cX9_noteIn 11 = .ok (.iload_n 1, 1) := by decide +kernel
theorem dX9_noteIn_12 : decode cX9_noteIn 12 = .ok (.iconst 1, 1) := by decide +kernel
theorem dX9_noteIn_13 : decode cX9_noteIn 13 = .ok (.if_icmp .ne 13, 3) := by decide +kernel
theorem dX9_noteIn_16 : decode cX9_noteIn 16 = .ok (.iload_n 0, 1) := by decide +kernel
theorem dX9_noteIn_17 : decode cX9_noteIn 17 = .ok (.bipush 7, 2) := by decide +kernel
theorem dX9_noteIn_19 : decode cX9_noteIn 19 = .ok (.idiv, 1) := by decide +kernel
theorem dX9_noteIn_20 : decode cX9_noteIn 20 = .ok (.bipush 7, 2) := by decide +kernel
theorem dX9_noteIn_22 : decode cX9_noteIn 22 = .ok (.irem, 1) := by decide +kernel
theorem dX9_noteIn_23 : decode cX9_noteIn 23 = .ok (.goto 7, 3) := by decide +kernel
theorem dX9_noteIn_26 : decode cX9_noteIn 26 = .ok (.iload_n 0, 1) := by decide +kernel
theorem dX9_noteIn_27 : decode cX9_noteIn 27 = .ok (.bipush 7, 2) := by decide +kernel
theorem dX9_noteIn_29 : decode cX9_noteIn 29 = .ok (.irem, 1) := by decide +kernel
theorem dX9_noteIn_30 : decode cX9_noteIn 30 = .ok (.ireturn, 1) := by decide +kernel
theorem dX9_noteOf_0 : decode cX9_noteOf 0 = .ok (.iconst 5, 1) := by decide +kernel
theorem dX9_noteOf_1 : decode cX9_noteOf 1 = .ok (.aload_n 0, 1) := by decide +kernel
theorem dX9_noteOf_2 : decode cX9_noteOf 2 = .ok (.getfield 249, 3) := by decide +kernel
theorem dX9_noteOf_5 : decode cX9_noteOf 5 = .ok (.imul, 1) := by decide +kernel
theorem dX9_noteOf_6 : decode cX9_noteOf 6 = .ok (.iload_n 1, 1) := by decide +kernel
theorem dX9_noteOf_7 : decode cX9_noteOf 7 = .ok (.iadd, 1) := by decide +kernel
theorem dX9_noteOf_8 : decode cX9_noteOf 8 = .ok (.istore_n 3, 1) := by decide +kernel
theorem dX9_noteOf_9 : decode cX9_noteOf 9 = .ok (.aload_n 0, 1) := by decide +kernel
theorem dX9_noteOf_10 : decode cX9_noteOf 10 = .ok (.getfield 48, 3) := by decide +kernel
theorem dX9_noteOf_13 : decode cX9_noteOf 13 = .ok (.bipush 8, 2) := by decide +kernel
theorem dX9_noteOf_15 : decode cX9_noteOf 15 = .ok (.iload_n 3, 1) := by decide +kernel
theorem dX9_noteOf_16 : decode cX9_noteOf 16 = .ok (.imul, 1) := by decide +kernel
theorem dX9_noteOf_17 : decode cX9_noteOf 17 = .ok (.aload_n 0, 1) := by decide +kernel
theorem dX9_noteOf_18 : decode cX9_noteOf 18 = .ok (.getfield 45, 3) := by decide +kernel
theorem dX9_noteOf_21 : decode cX9_noteOf 21 = .ok (.iload_n 3, 1) := by decide +kernel
theorem dX9_noteOf_22 : decode cX9_noteOf 22 = .ok (.iaload, 1) := by decide +kernel
theorem dX9_noteOf_23 : decode cX9_noteOf 23 = .ok (.iadd, 1) := by decide +kernel
theorem dX9_noteOf_24 : decode cX9_noteOf 24 = .ok (.aload_n 0, 1) := by decide +kernel
theorem dX9_noteOf_25 : decode cX9_noteOf 25 = .ok (.iload_n 1, 1) := by decide +kernel
theorem dX9_noteOf_26 : decode cX9_noteOf 26 = .ok (.invokevirtual 336, 3) := by decide +kernel
theorem dX9_noteOf_29 : decode cX9_noteOf 29 = .ok (.isub, 1) := by decide +kernel
theorem dX9_noteOf_30 : decode cX9_noteOf 30 = .ok (.iload_n 2, 1) := by decide +kernel
theorem dX9_noteOf_31 : decode cX9_noteOf 31 = .ok (.iadd, 1) := by decide +kernel
theorem dX9_noteOf_32 : decode cX9_noteOf 32 = .ok (.iaload, 1) := by decide +kernel
theorem dX9_noteOf_33 : decode cX9_noteOf 33 = .ok (.ireturn, 1) := by decide +kernel
theorem dX9_numeral_0 : decode cX9_numeral 0 = .ok (.aload_n 0, 1) := by decide +kernel
theorem dX9_numeral_1 : decode cX9_numeral 1 = .ok (.invokevirtual 219, 3) := by decide +kernel
theorem dX9_numeral_4 : decode cX9_numeral 4 = .ok (.ifCond .ne 5, 3) := by decide +kernel
theorem dX9_numeral_7 : decode cX9_numeral 7 = .ok (.iload_n 1, 1) := by decide +kernel
theorem dX9_numeral_8 : decode cX9_numeral 8 = .ok (.ireturn, 1) := by decide +kernel
theorem dX9_numeral_9 : decode cX9_numeral 9 = .ok (.aload_n 0, 1) := by decide +kernel
theorem dX9_numeral_10 : decode cX9_numeral 10 = .ok (.getfield 191, 3) := by decide +kernel
theorem dX9_numeral_13 : decode cX9_numeral 13 = .ok (.iconst 4, 1) := by decide +kernel
theorem dX9_numeral_14 : decode cX9_numeral 14 = .ok (.if_icmp .eq 7, 3) := by decide +kernel
theorem dX9_numeral_17 : decode cX9_numeral 17 = .ok (.aload_n 0, 1) := by decide +kernel
theorem dX9_numeral_18 : decode cX9_numeral 18 = .ok (.invokevirtual 226, 3) := by decide +kernel
theorem dX9_numeral_21 : decode cX9_numeral 21 = .ok (.aload_n 0, 1) := by decide +kernel
theorem dX9_numeral_22 : decode cX9_numeral 22 = .ok (.invokevirtual 219, 3) := by decide +kernel
theorem dX9_numeral_25 : decode cX9_numeral 25 = .ok (.ifCond .eq 28, 3) := by decide +kernel
theorem dX9_numeral_28 : decode cX9_numeral 28 = .ok (.aload_n 0, 1) := by decide +kernel
theorem dX9_numeral_29 : decode cX9_numeral 29 = .ok (.getfield 209, 3) := by decide +kernel
theorem dX9_numeral_32 : decode cX9_numeral 32 = .ok (.iload_n 1, 1) := by decide +kernel
theorem dX9_numeral_33 : decode cX9_numeral 33 = .ok (.if_icmp .lt 11, 3) := by decide +kernel
theorem dX9_numeral_36 : decode cX9_numeral 36 = .ok (.aload_n 0, 1) := by decide +kernel
theorem dX9_numeral_37 : decode cX9_numeral 37 = .ok (.getfield 209, 3) := by decide +kernel
theorem dX9_numeral_40 : decode cX9_numeral 40 = .ok (.iload_n 2, 1) := by decide +kernel
theorem dX9_numeral_41 : decode cX9_numeral 41 = .ok (.if_icmp .le 12, 3) := by decide +kernel
theorem dX9_numeral_44 : decode cX9_numeral 44 = .ok (.aload_n 0, 1) := by decide +kernel
theorem dX9_numeral_45 : decode cX9_numeral 45 = .ok (.iconst 4, 1) := by decide +kernel
theorem dX9_numeral_46 : decode cX9_numeral 46 = .ok (.aload_n 0, 1) := by decide +kernel
theorem dX9_numeral_47 : decode cX9_numeral 47 = .ok (.getfield 184, 3) := by decide +kernel
theorem dX9_numeral_50 : decode cX9_numeral 50 = .ok (.invokevirtual 215, 3) := by decide +kernel
theorem dX9_numeral_53 : decode cX9_numeral 53 = .ok (.aload_n 0, 1) := by decide +kernel
theorem dX9_numeral_54 : decode cX9_numeral 54 = .ok (.getfield 209, 3) := by decide +kernel
theorem dX9_numeral_57 : decode cX9_numeral 57 = .ok (.istore_n 3, 1) := by decide +kernel
theorem dX9_numeral_58 : decode cX9_numeral 58 = .ok (.aload_n 0, 1) := by decide +kernel
theorem dX9_numeral_59 : decode cX9_numeral 59 = .ok (.invokevirtual 219, 3) := by decide +kernel
theorem dX9_numeral_62 : decode cX9_numeral 62 = .ok (.ifCond .eq 7, 3) := by decide +kernel
theorem dX9_numeral_65 : decode cX9_numeral 65 = .ok (.aload_n 0, 1) := by decide +kernel
theorem dX9_numeral_66 : decode cX9_numeral 66 = .ok (.invokevirtual 223, 3) := by decide +kernel
theorem dX9_numeral_69 : decode cX9_numeral 69 = .ok (.aload_n 0, 1) := by decide +kernel
theorem dX9_numeral_70 : decode cX9_numeral 70 = .ok (.invokevirtual 219, 3) := by decide +kernel
theorem dX9_numeral_73 : decode cX9_numeral 73 = .ok (.ifCond .eq 7, 3) := by decide +kernel
theorem dX9_numeral_76 : decode cX9_numeral 76 = .ok (.iload_n 3, 1) := by decide +kernel
theorem dX9_numeral_77 : decode cX9_numeral 77 = .ok (.goto 4, 3) := by decide +kernel
theorem dX9_numeral_80 : decode cX9_numeral 80 = .ok (.iload_n 1, 1) := by decide +kernel
theorem dX9_numeral_81 : decode cX9_numeral 81 = .ok (.ireturn, 1) := by decide +kernel
theorem dX9_odds_0 : decode cX9_odds 0 = .ok (.iload_n 1, 1) := by decide +kernel
theorem dX9_odds_1 : decode cX9_odds 1 = .ok (.iconst 0, 1) := by decide +kernel
theorem dX9_odds_2 : decode cX9_odds 2 = .ok (.iconst 4, 1) := by decide +kernel
theorem dX9_odds_3 : decode cX9_odds 3 = .ok (.invokestatic 354, 3) := by decide +kernel
theorem dX9_odds_6 : decode cX9_odds 6 = .ok (.ifCond .eq 12, 3) := by decide +kernel
theorem dX9_odds_9 : decode cX9_odds 9 = .ok (.iload_n 2, 1) := by decide +kernel
theorem dX9_odds_10 : decode cX9_odds 10 = .ok (.iconst 0, 1) := by decide +kernel
theorem dX9_odds_11 : decode cX9_odds 11 = .ok (.iconst 1, 1) := by decide +kernel
theorem dX9_odds_12 : decode cX9_odds 12 = .ok (.invokestatic 354, 3) := by decide +kernel
theorem dX9_odds_15 : decode cX9_odds 15 = .ok (.ifCond .ne 5, 3) := by decide +kernel
theorem dX9_odds_18 : decode cX9_odds 18 = .ok (.iconst (-1), 1) := by decide +kernel
theorem dX9_odds_19 : decode cX9_odds 19 = .ok (.ireturn, 1) := by decide +kernel
theorem dX9_odds_20 : decode cX9_odds 20 = .ok (.bipush 100, 2) := by decide +kernel
theorem dX9_odds_22 : decode cX9_odds 22 = .ok (.aload_n 0, 1) := by decide +kernel
theorem dX9_odds_23 : decode cX9_odds 23 = .ok (.getfield 33, 3) := by decide +kernel
theorem dX9_odds_26 : decode cX9_odds 26 = .ok (.aload_n 0, 1) := by decide +kernel
theorem dX9_odds_27 : decode cX9_odds 27 = .ok (.getfield 249, 3) := by decide +kernel
theorem dX9_odds_30 : decode cX9_odds 30 = .ok (.iaload, 1) := by decide +kernel
theorem dX9_odds_31 : decode cX9_odds 31 = .ok (.isub, 1) := by decide +kernel
theorem dX9_odds_32 : decode cX9_odds 32 = .ok (.iload_n 1, 1) := by decide +kernel
theorem dX9_odds_33 : decode cX9_odds 33 = .ok (.invokestatic 462, 3) := by decide +kernel
theorem dX9_odds_36 : decode cX9_odds 36 = .ok (.istore_n 3, 1) := by decide +kernel
theorem dX9_odds_37 : decode cX9_odds 37 = .ok (.bipush 100, 2) := by decide +kernel
theorem dX9_odds_39 : decode cX9_odds 39 = .ok (.iload_n 1, 1) := by decide +kernel
theorem dX9_odds_40 : decode cX9_odds 40 = .ok (.invokestatic 462, 3) := by decide +kernel
theorem dX9_odds_43 : decode cX9_odds 43 = .ok (.istore 4, 2) := by decide +kernel
theorem dX9_odds_45 : decode cX9_odds 45 = .ok (.iload_n 2, 1) := by decide +kernel
theorem dX9_odds_46 : decode cX9_odds 46 = .ok (.ifCond .ne 7, 3) := by decide +kernel
theorem dX9_odds_49 : decode cX9_odds 49 = .ok (.iload_n 3, 1) := by decide +kernel
theorem dX9_odds_50 : decode cX9_odds 50 = .ok (.goto 5, 3) := by decide +kernel
theorem dX9_odds_53 : decode cX9_odds 53 = .ok (.iload 4, 2) := by decide +kernel
theorem dX9_odds_55 : decode cX9_odds 55 = .ok (.iload 4, 2) := by decide +kernel
theorem dX9_odds_57 : decode cX9_odds 57 = .ok (.iload_n 3, 1) := by decide +kernel
theorem dX9_odds_58 : decode cX9_odds 58 = .ok (.invokestatic 489, 3) := by decide +kernel
theorem dX9_odds_61 : decode cX9_odds 61 = .ok (.idiv, 1) := by decide +kernel
theorem dX9_odds_62 : decode cX9_odds 62 = .ok (.ireturn, 1) := by decide +kernel
theorem dX9_once_0 : decode cX9_once 0 = .ok (.aload_n 0, 1) := by decide +kernel
theorem dX9_once_1 : decode cX9_once 1 = .ok (.getfield 39, 3) := by decide +kernel
theorem dX9_once_4 : decode cX9_once 4 = .ok (.aload_n 0, 1) := by decide +kernel
theorem dX9_once_5 : decode cX9_once 5 = .ok (.getfield 240, 3) := by decide +kernel
theorem dX9_once_8 : decode cX9_once 8 = .ok (.dup2, 1) := by decide +kernel
theorem dX9_once_9 : decode cX9_once 9 = .ok (.iaload, 1) := by decide +kernel
theorem dX9_once_10 : decode cX9_once 10 = .ok (.iconst 1, 1) := by decide +kernel
theorem dX9_once_11 : decode cX9_once 11 = .ok (.iload_n 1, 1) := by decide +kernel
theorem dX9_once_12 : decode cX9_once 12 = .ok (.ishl, 1) := by decide +kernel
theorem dX9_once_13 : decode cX9_once 13 = .ok (.ior, 1) := by decide +kernel
theorem dX9_once_14 : decode cX9_once 14 = .ok (.iastore, 1) := by decide +kernel
theorem dX9_once_15 : decode cX9_once 15 = .ok (.aload_n 0, 1) := by decide +kernel
theorem dX9_once_16 : decode cX9_once 16 = .ok (.iload_n 2, 1) := by decide +kernel
theorem dX9_once_17 : decode cX9_once 17 = .ok (.iload_n 3, 1) := by decide +kernel
theorem dX9_once_18 : decode cX9_once 18 = .ok (.invokevirtual 236, 3) := by decide +kernel
theorem dX9_once_21 : decode cX9_once 21 = .ok (.ireturn, 1) := by decide +kernel
theorem dX9_paidBy_0 : decode cX9_paidBy 0 = .ok (.iconst 0, 1) := by decide +kernel
theorem dX9_paidBy_1 : decode cX9_paidBy 1 = .ok (.istore_n 2, 1) := by decide +kernel
theorem dX9_paidBy_2 : decode cX9_paidBy 2 = .ok (.iconst 0, 1) := by decide +kernel
theorem dX9_paidBy_3 : decode cX9_paidBy 3 = .ok (.istore_n 3, 1) := by decide +kernel
theorem dX9_paidBy_4 : decode cX9_paidBy 4 = .ok (.iload_n 3, 1) := by decide +kernel
theorem dX9_paidBy_5 : decode cX9_paidBy 5 = .ok (.aload_n 0, 1) := by decide +kernel
theorem dX9_paidBy_6 : decode cX9_paidBy 6 = .ok (.invokevirtual 351, 3) := by decide +kernel
theorem dX9_paidBy_9 : decode cX9_paidBy 9 = .ok (.if_icmp .ge 39, 3) := by decide +kernel
theorem dX9_paidBy_12 : decode cX9_paidBy 12 = .ok (.aload_n 0, 1) := by decide +kernel
theorem dX9_paidBy_13 : decode cX9_paidBy 13 = .ok (.getfield 88, 3) := by decide +kernel
theorem dX9_paidBy_16 : decode cX9_paidBy 16 = .ok (.iconst 0, 1) := by decide +kernel
theorem dX9_paidBy_17 : decode cX9_paidBy 17 = .ok (.iload_n 3, 1) := by decide +kernel
theorem dX9_paidBy_18 : decode cX9_paidBy 18 = .ok (.iadd, 1) := by decide +kernel
theorem dX9_paidBy_19 : decode cX9_paidBy 19 = .ok (.iaload, 1) := by decide +kernel
theorem dX9_paidBy_20 : decode cX9_paidBy 20 = .ok (.iload_n 1, 1) := by decide +kernel
theorem dX9_paidBy_21 : decode cX9_paidBy 21 = .ok (.if_icmp .ne 21, 3) := by decide +kernel
theorem dX9_paidBy_24 : decode cX9_paidBy 24 = .ok (.aload_n 0, 1) := by decide +kernel
theorem dX9_paidBy_25 : decode cX9_paidBy 25 = .ok (.getfield 88, 3) := by decide +kernel
theorem dX9_paidBy_28 : decode cX9_paidBy 28 = .ok (.iconst 5, 1) := by decide +kernel
theorem dX9_paidBy_29 : decode cX9_paidBy 29 = .ok (.iload_n 3, 1) := by decide +kernel
theorem dX9_paidBy_30 : decode cX9_paidBy 30 = .ok (.iadd, 1) := by decide +kernel
theorem dX9_paidBy_31 : decode cX9_paidBy 31 = .ok (.iaload, 1) := by decide +kernel
theorem dX9_paidBy_32 : decode cX9_paidBy 32 = .ok (.iconst 1, 1) := by decide +kernel
theorem dX9_paidBy_33 : decode cX9_paidBy 33 = .ok (.if_icmp .ne 9, 3) := by decide +kernel
theorem dX9_paidBy_36 : decode cX9_paidBy 36 = .ok (.iload_n 2, 1) := by decide +kernel
theorem dX9_paidBy_37 : decode cX9_paidBy 37 = .ok (.iconst 1, 1) := by decide +kernel
theorem dX9_paidBy_38 : decode cX9_paidBy 38 = .ok (.iload_n 3, 1) := by decide +kernel
theorem dX9_paidBy_39 : decode cX9_paidBy 39 = .ok (.ishl, 1) := by decide +kernel
theorem dX9_paidBy_40 : decode cX9_paidBy 40 = .ok (.ior, 1) := by decide +kernel
theorem dX9_paidBy_41 : decode cX9_paidBy 41 = .ok (.istore_n 2, 1) := by decide +kernel
theorem dX9_paidBy_42 : decode cX9_paidBy 42 = .ok (.iinc 3 1, 3) := by decide +kernel
theorem dX9_paidBy_45 : decode cX9_paidBy 45 = .ok (.goto (-41), 3) := by decide +kernel
theorem dX9_paidBy_48 : decode cX9_paidBy 48 = .ok (.iload_n 2, 1) := by decide +kernel
theorem dX9_paidBy_49 : decode cX9_paidBy 49 = .ok (.ireturn, 1) := by decide +kernel
theorem dX9_paidNow_0 : decode cX9_paidNow 0 = .ok (.iconst 0, 1) := by decide +kernel
theorem dX9_paidNow_1 : decode cX9_paidNow 1 = .ok (.istore_n 1, 1) := by decide +kernel
theorem dX9_paidNow_2 : decode cX9_paidNow 2 = .ok (.iconst 0, 1) := by decide +kernel
theorem dX9_paidNow_3 : decode cX9_paidNow 3 = .ok (.istore_n 2, 1) := by decide +kernel
theorem dX9_paidNow_4 : decode cX9_paidNow 4 = .ok (.iload_n 2, 1) := by decide +kernel
theorem dX9_paidNow_5 : decode cX9_paidNow 5 = .ok (.aload_n 0, 1) := by decide +kernel
theorem dX9_paidNow_6 : decode cX9_paidNow 6 = .ok (.invokevirtual 351, 3) := by decide +kernel
theorem dX9_paidNow_9 : decode cX9_paidNow 9 = .ok (.if_icmp .ge 22, 3) := by decide +kernel
theorem dX9_paidNow_12 : decode cX9_paidNow 12 = .ok (.iload_n 1, 1) := by decide +kernel
theorem dX9_paidNow_13 : decode cX9_paidNow 13 = .ok (.aload_n 0, 1) := by decide +kernel
theorem dX9_paidNow_14 : decode cX9_paidNow 14 = .ok (.getfield 88, 3) := by decide +kernel
theorem dX9_paidNow_17 : decode cX9_paidNow 17 = .ok (.iconst 5, 1) := by decide +kernel
theorem dX9_paidNow_18 : decode cX9_paidNow 18 = .ok (.iload_n 2, 1) := by decide +kernel
theorem dX9_paidNow_19 : decode cX9_paidNow 19 = .ok (.iadd, 1) := by decide +kernel
theorem dX9_paidNow_20 : decode cX9_paidNow 20 = .ok (.iaload, 1) := by decide +kernel
theorem dX9_paidNow_21 : decode cX9_paidNow 21 = .ok (.iload_n 2, 1) := by decide +kernel
theorem dX9_paidNow_22 : decode cX9_paidNow 22 = .ok (.ishl, 1) := by decide +kernel
theorem dX9_paidNow_23 : decode cX9_paidNow 23 = .ok (.ior, 1) := by decide +kernel
theorem dX9_paidNow_24 : decode cX9_paidNow 24 = .ok (.istore_n 1, 1) := by decide +kernel
theorem dX9_paidNow_25 : decode cX9_paidNow 25 = .ok (.iinc 2 1, 3) := by decide +kernel
theorem dX9_paidNow_28 : decode cX9_paidNow 28 = .ok (.goto (-24), 3) := by decide +kernel
theorem dX9_paidNow_31 : decode cX9_paidNow 31 = .ok (.iload_n 1, 1) := by decide +kernel
theorem dX9_paidNow_32 : decode cX9_paidNow 32 = .ok (.ireturn, 1) := by decide +kernel
theorem dX9_pair_0 : decode cX9_pair 0 = .ok (.aload_n 0, 1) := by decide +kernel
theorem dX9_pair_1 : decode cX9_pair 1 = .ok (.iload_n 1, 1) := by decide +kernel
theorem dX9_pair_2 : decode cX9_pair 2 = .ok (.invokevirtual 412, 3) := by decide +kernel
theorem dX9_pair_5 : decode cX9_pair 5 = .ok (.ifCond .eq 19, 3) := by decide +kernel
theorem dX9_pair_8 : decode cX9_pair 8 = .ok (.iload_n 2, 1) := by decide +kernel
theorem dX9_pair_9 : decode cX9_pair 9 = .ok (.iconst 0, 1) := by decide +kernel
theorem dX9_pair_10 : decode cX9_pair 10 = .ok (.iconst 1, 1) := by decide +kernel
theorem dX9_pair_11 : decode cX9_pair 11 = .ok (.invokestatic 354, 3) := by decide +kernel
theorem dX9_pair_14 : decode cX9_pair 14 = .ok (.ifCond .eq 10, 3) := by decide +kernel
theorem dX9_pair_17 : decode cX9_pair 17 = .ok (.aload_n 0, 1) := by decide +kernel
theorem dX9_pair_18 : decode cX9_pair 18 = .ok (.invokevirtual 358, 3) := by decide +kernel
theorem dX9_pair_21 : decode cX9_pair 21 = .ok (.ifCond .ne 7, 3) := by decide +kernel
theorem dX9_pair_24 : decode cX9_pair 24 = .ok (.ldc_w 427, 3) := by decide +kernel
theorem dX9_pair_27 : decode cX9_pair 27 = .ok (.ireturn, 1) := by decide +kernel
theorem dX9_pair_28 : decode cX9_pair 28 = .ok (.iconst 0, 1) := by decide +kernel
theorem dX9_pair_29 : decode cX9_pair 29 = .ok (.istore_n 3, 1) := by decide +kernel
theorem dX9_pair_30 : decode cX9_pair 30 = .ok (.iconst 1, 1) := by decide +kernel
theorem dX9_pair_31 : decode cX9_pair 31 = .ok (.istore 4, 2) := by decide +kernel
theorem dX9_pair_33 : decode cX9_pair 33 = .ok (.iload 4, 2) := by decide +kernel
theorem dX9_pair_35 : decode cX9_pair 35 = .ok (.aload_n 0, 1) := by decide +kernel
theorem dX9_pair_36 : decode cX9_pair 36 = .ok (.invokevirtual 358, 3) := by decide +kernel
theorem dX9_pair_39 : decode cX9_pair 39 = .ok (.if_icmp .ge 28, 3) := by decide +kernel
theorem dX9_pair_42 : decode cX9_pair 42 = .ok (.aload_n 0, 1) := by decide +kernel
theorem dX9_pair_43 : decode cX9_pair 43 = .ok (.iload 4, 2) := by decide +kernel
theorem dX9_pair_45 : decode cX9_pair 45 = .ok (.iload_n 1, 1) := by decide +kernel
theorem dX9_pair_46 : decode cX9_pair 46 = .ok (.invokevirtual 424, 3) := by decide +kernel
theorem dX9_pair_49 : decode cX9_pair 49 = .ok (.aload_n 0, 1) := by decide +kernel
theorem dX9_pair_50 : decode cX9_pair 50 = .ok (.iload_n 3, 1) := by decide +kernel
theorem dX9_pair_51 : decode cX9_pair 51 = .ok (.iload_n 1, 1) := by decide +kernel
theorem dX9_pair_52 : decode cX9_pair 52 = .ok (.invokevirtual 424, 3) := by decide +kernel
theorem dX9_pair_55 : decode cX9_pair 55 = .ok (.if_icmp .le 6, 3) := by decide +kernel
theorem dX9_pair_58 : decode cX9_pair 58 = .ok (.iload 4, 2) := by decide +kernel
theorem dX9_pair_60 : decode cX9_pair 60 = .ok (.istore_n 3, 1) := by decide +kernel
theorem dX9_pair_61 : decode cX9_pair 61 = .ok (.iinc 4 1, 3) := by decide +kernel
theorem dX9_pair_64 : decode cX9_pair 64 = .ok (.goto (-31), 3) := by decide +kernel
theorem dX9_pair_67 : decode cX9_pair 67 = .ok (.iload_n 2, 1) := by decide +kernel
theorem dX9_pair_68 : decode cX9_pair 68 = .ok (.ifCond .ne 7, 3) := by decide +kernel
theorem dX9_pair_71 : decode cX9_pair 71 = .ok (.iload_n 3, 1) := by decide +kernel
theorem dX9_pair_72 : decode cX9_pair 72 = .ok (.goto 9, 3) := by decide +kernel
theorem dX9_pair_75 : decode cX9_pair 75 = .ok (.aload_n 0, 1) := by decide +kernel
theorem dX9_pair_76 : decode cX9_pair 76 = .ok (.iload_n 3, 1) := by decide +kernel
theorem dX9_pair_77 : decode cX9_pair 77 = .ok (.iload_n 1, 1) := by decide +kernel
theorem dX9_pair_78 : decode cX9_pair 78 = .ok (.invokevirtual 424, 3) := by decide +kernel
theorem dX9_pair_81 : decode cX9_pair 81 = .ok (.ireturn, 1) := by decide +kernel
theorem dX9_placeOf_0 : decode cX9_placeOf 0 = .ok (.aload_n 0, 1) := by decide +kernel
theorem dX9_placeOf_1 : decode cX9_placeOf 1 = .ok (.getfield 51, 3) := by decide +kernel
theorem dX9_placeOf_4 : decode cX9_placeOf 4 = .ok (.iconst 4, 1) := by decide +kernel
theorem dX9_placeOf_5 : decode cX9_placeOf 5 = .ok (.aload_n 0, 1) := by decide +kernel
theorem dX9_placeOf_6 : decode cX9_placeOf 6 = .ok (.getfield 249, 3) := by decide +kernel
theorem dX9_placeOf_9 : decode cX9_placeOf 9 = .ok (.imul, 1) := by decide +kernel
theorem dX9_placeOf_10 : decode cX9_placeOf 10 = .ok (.iload_n 1, 1) := by decide +kernel
theorem dX9_placeOf_11 : decode cX9_placeOf 11 = .ok (.iadd, 1) := by decide +kernel
theorem dX9_placeOf_12 : decode cX9_placeOf 12 = .ok (.iaload, 1) := by decide +kernel
theorem dX9_placeOf_13 : decode cX9_placeOf 13 = .ok (.ireturn, 1) := by decide +kernel
theorem dX9_power_0 : decode cX9_power 0 = .ok (.iconst 1, 1) := by decide +kernel
theorem dX9_power_1 : decode cX9_power 1 = .ok (.istore_n 2, 1) := by decide +kernel
theorem dX9_power_2 : decode cX9_power 2 = .ok (.iconst 0, 1) := by decide +kernel
theorem dX9_power_3 : decode cX9_power 3 = .ok (.istore_n 3, 1) := by decide +kernel
theorem dX9_power_4 : decode cX9_power 4 = .ok (.iload_n 3, 1) := by decide +kernel
theorem dX9_power_5 : decode cX9_power 5 = .ok (.iload_n 1, 1) := by decide +kernel
theorem dX9_power_6 : decode cX9_power 6 = .ok (.if_icmp .ge 13, 3) := by decide +kernel
theorem dX9_power_9 : decode cX9_power 9 = .ok (.iload_n 2, 1) := by decide +kernel
theorem dX9_power_10 : decode cX9_power 10 = .ok (.iload_n 0, 1) := by decide +kernel
theorem dX9_power_11 : decode cX9_power 11 = .ok (.imul, 1) := by decide +kernel
theorem dX9_power_12 : decode cX9_power 12 = .ok (.istore_n 2, 1) := by decide +kernel
theorem dX9_power_13 : decode cX9_power 13 = .ok (.iinc 3 1, 3) := by decide +kernel
theorem dX9_power_16 : decode cX9_power 16 = .ok (.goto (-12), 3) := by decide +kernel
theorem dX9_power_19 : decode cX9_power 19 = .ok (.iload_n 2, 1) := by decide +kernel
theorem dX9_power_20 : decode cX9_power 20 = .ok (.ireturn, 1) := by decide +kernel
theorem dX9_priceOf_0 : decode cX9_priceOf 0 = .ok (.aload_n 0, 1) := by decide +kernel
theorem dX9_priceOf_1 : decode cX9_priceOf 1 = .ok (.getfield 42, 3) := by decide +kernel
theorem dX9_priceOf_4 : decode cX9_priceOf 4 = .ok (.iconst 5, 1) := by decide +kernel
theorem dX9_priceOf_5 : decode cX9_priceOf 5 = .ok (.aload_n 0, 1) := by decide +kernel
theorem dX9_priceOf_6 : decode cX9_priceOf 6 = .ok (.getfield 249, 3) := by decide +kernel
theorem dX9_priceOf_9 : decode cX9_priceOf 9 = .ok (.imul, 1) := by decide +kernel
theorem dX9_priceOf_10 : decode cX9_priceOf 10 = .ok (.iload_n 1, 1) := by decide +kernel
theorem dX9_priceOf_11 : decode cX9_priceOf 11 = .ok (.iadd, 1) := by decide +kernel
theorem dX9_priceOf_12 : decode cX9_priceOf 12 = .ok (.iaload, 1) := by decide +kernel
theorem dX9_priceOf_13 : decode cX9_priceOf 13 = .ok (.ireturn, 1) := by decide +kernel
theorem dX9_purse_0 : decode cX9_purse 0 = .ok (.aload_n 0, 1) := by decide +kernel
theorem dX9_purse_1 : decode cX9_purse 1 = .ok (.iload_n 1, 1) := by decide +kernel
theorem dX9_purse_2 : decode cX9_purse 2 = .ok (.invokevirtual 415, 3) := by decide +kernel
theorem dX9_purse_5 : decode cX9_purse 5 = .ok (.ifCond .eq 13, 3) := by decide +kernel
theorem dX9_purse_8 : decode cX9_purse 8 = .ok (.iload_n 2, 1) := by decide +kernel
theorem dX9_purse_9 : decode cX9_purse 9 = .ok (.iconst 0, 1) := by decide +kernel
theorem dX9_purse_10 : decode cX9_purse 10 = .ok (.bipush 60, 2) := by decide +kernel
theorem dX9_purse_12 : decode cX9_purse 12 = .ok (.invokestatic 354, 3) := by decide +kernel
theorem dX9_purse_15 : decode cX9_purse 15 = .ok (.ifCond .ne 5, 3) := by decide +kernel
theorem dX9_purse_18 : decode cX9_purse 18 = .ok (.iconst (-1), 1) := by decide +kernel
theorem dX9_purse_19 : decode cX9_purse 19 = .ok (.ireturn, 1) := by decide +kernel
theorem dX9_purse_20 : decode cX9_purse 20 = .ok (.aload_n 0, 1) := by decide +kernel
theorem dX9_purse_21 : decode cX9_purse 21 = .ok (.invokevirtual 456, 3) := by decide +kernel
theorem dX9_purse_24 : decode cX9_purse 24 = .ok (.iconst 0, 1) := by decide +kernel
theorem dX9_purse_25 : decode cX9_purse 25 = .ok (.istore_n 3, 1) := by decide +kernel
theorem dX9_purse_26 : decode cX9_purse 26 = .ok (.iconst 0, 1) := by decide +kernel
theorem dX9_purse_27 : decode cX9_purse 27 = .ok (.istore 4, 2) := by decide +kernel
theorem dX9_purse_29 : decode cX9_purse 29 = .ok (.iload 4, 2) := by decide +kernel
theorem dX9_purse_31 : decode cX9_purse 31 = .ok (.iload_n 2, 1) := by decide +kernel
theorem dX9_purse_32 : decode cX9_purse 32 = .ok (.if_icmp .ge 17, 3) := by decide +kernel
theorem dX9_purse_35 : decode cX9_purse 35 = .ok (.iload_n 3, 1) := by decide +kernel
theorem dX9_purse_36 : decode cX9_purse 36 = .ok (.aload_n 0, 1) := by decide +kernel
theorem dX9_purse_37 : decode cX9_purse 37 = .ok (.iconst 0, 1) := by decide +kernel
theorem dX9_purse_38 : decode cX9_purse 38 = .ok (.invokevirtual 446, 3) := by decide +kernel
theorem dX9_purse_41 : decode cX9_purse 41 = .ok (.iadd, 1) := by decide +kernel
theorem dX9_purse_42 : decode cX9_purse 42 = .ok (.istore_n 3, 1) := by decide +kernel
theorem dX9_purse_43 : decode cX9_purse 43 = .ok (.iinc 4 1, 3) := by decide +kernel
theorem dX9_purse_46 : decode cX9_purse 46 = .ok (.goto (-17), 3) := by decide +kernel
theorem dX9_purse_49 : decode cX9_purse 49 = .ok (.aload_n 0, 1) := by decide +kernel
theorem dX9_purse_50 : decode cX9_purse 50 = .ok (.getfield 88, 3) := by decide +kernel
theorem dX9_purse_53 : decode cX9_purse 53 = .ok (.bipush 20, 2) := by decide +kernel
theorem dX9_purse_55 : decode cX9_purse 55 = .ok (.iload_n 1, 1) := by decide +kernel
theorem dX9_purse_56 : decode cX9_purse 56 = .ok (.iadd, 1) := by decide +kernel
theorem dX9_purse_57 : decode cX9_purse 57 = .ok (.iaload, 1) := by decide +kernel
theorem dX9_purse_58 : decode cX9_purse 58 = .ok (.istore 4, 2) := by decide +kernel
theorem dX9_purse_60 : decode cX9_purse 60 = .ok (.aload_n 0, 1) := by decide +kernel
theorem dX9_purse_61 : decode cX9_purse 61 = .ok (.invokevirtual 459, 3) := by decide +kernel
theorem dX9_purse_64 : decode cX9_purse 64 = .ok (.iload 4, 2) := by decide +kernel
theorem dX9_purse_66 : decode cX9_purse 66 = .ok (.ireturn, 1) := by decide +kernel
theorem dX9_pushE_0 : decode cX9_pushE 0 = .ok (.aload_n 0, 1) := by decide +kernel
theorem dX9_pushE_1 : decode cX9_pushE 1 = .ok (.getfield 79, 3) := by decide +kernel
theorem dX9_pushE_4 : decode cX9_pushE 4 = .ok (.aload_n 0, 1) := by decide +kernel
theorem dX9_pushE_5 : decode cX9_pushE 5 = .ok (.getfield 296, 3) := by decide +kernel
theorem dX9_pushE_8 : decode cX9_pushE 8 = .ok (.iload_n 1, 1) := by decide +kernel
theorem dX9_pushE_9 : decode cX9_pushE 9 = .ok (.iastore, 1) := by decide +kernel
theorem dX9_pushE_10 : decode cX9_pushE 10 = .ok (.aload_n 0, 1) := by decide +kernel
theorem dX9_pushE_11 : decode cX9_pushE 11 = .ok (.getfield 82, 3) := by decide +kernel
theorem dX9_pushE_14 : decode cX9_pushE 14 = .ok (.aload_n 0, 1) := by decide +kernel
theorem dX9_pushE_15 : decode cX9_pushE 15 = .ok (.getfield 296, 3) := by decide +kernel
theorem dX9_pushE_18 : decode cX9_pushE 18 = .ok (.iload_n 2, 1) := by decide +kernel
theorem dX9_pushE_19 : decode cX9_pushE 19 = .ok (.iastore, 1) := by decide +kernel
theorem dX9_pushE_20 : decode cX9_pushE 20 = .ok (.aload_n 0, 1) := by decide +kernel
theorem dX9_pushE_21 : decode cX9_pushE 21 = .ok (.dup, 1) := by decide +kernel
theorem dX9_pushE_22 : decode cX9_pushE 22 = .ok (.getfield 296, 3) := by decide +kernel
theorem dX9_pushE_25 : decode cX9_pushE 25 = .ok (.iconst 1, 1) := by decide +kernel
theorem dX9_pushE_26 : decode cX9_pushE 26 = .ok (.iadd, 1) := by decide +kernel
theorem dX9_pushE_27 : decode cX9_pushE 27 = .ok (.putfield 296, 3) := by decide +kernel
theorem dX9_pushE_30 : decode cX9_pushE 30 = .ok (.return_, 1) := by decide +kernel
theorem dX9_rankHere_0 : decode cX9_rankHere 0 = .ok (.aload_n 0, 1) := by decide +kernel
theorem dX9_rankHere_1 : decode cX9_rankHere 1 = .ok (.ldc2_w 177, 3) := by decide +kernel
theorem dX9_rankHere_4 : decode cX9_rankHere 4 = .ok (.invokevirtual 229, 3) := by decide +kernel
theorem dX9_rankHere_7 : decode cX9_rankHere 7 = .ok (.ifCond .eq 5, 3) := by decide +kernel
theorem dX9_rankHere_10 : decode cX9_rankHere 10 = .ok (.iconst 2, 1) := by decide +kernel
theorem dX9_rankHere_11 : decode cX9_rankHere 11 = .ok (.ireturn, 1) := by decide +kernel
theorem dX9_rankHere_12 : decode cX9_rankHere 12 = .ok (.aload_n 0, 1) := by decide +kernel
theorem dX9_rankHere_13 : decode cX9_rankHere 13 = .ok (.ldc2_w 175, 3) := by decide +kernel
theorem dX9_rankHere_16 : decode cX9_rankHere 16 = .ok (.invokevirtual 229, 3) := by decide +kernel
theorem dX9_rankHere_19 : decode cX9_rankHere 19 = .ok (.ifCond .eq 5, 3) := by decide +kernel
theorem dX9_rankHere_22 : decode cX9_rankHere 22 = .ok (.iconst 1, 1) := by decide +kernel
theorem dX9_rankHere_23 : decode cX9_rankHere 23 = .ok (.ireturn, 1) := by decide +kernel
theorem dX9_rankHere_24 : decode cX9_rankHere 24 = .ok (.aload_n 0, 1) := by decide +kernel
theorem dX9_rankHere_25 : decode cX9_rankHere 25 = .ok (.bipush 60, 2) := by decide +kernel
theorem dX9_rankHere_27 : decode cX9_rankHere 27 = .ok (.invokevirtual 275, 3) := by decide +kernel
theorem dX9_rankHere_30 : decode cX9_rankHere 30 = .ok (.ifCond .ne 21, 3) := by decide +kernel
theorem dX9_rankHere_33 : decode cX9_rankHere 33 = .ok (.aload_n 0, 1) := by decide +kernel
theorem dX9_rankHere_34 : decode cX9_rankHere 34 = .ok (.bipush 62, 2) := by decide +kernel
theorem dX9_rankHere_36 : decode cX9_rankHere 36 = .ok (.invokevirtual 275, 3) := by decide +kernel
theorem dX9_rankHere_39 : decode cX9_rankHere 39 = .ok (.ifCond .ne 12, 3) := by decide +kernel
theorem dX9_rankHere_42 : decode cX9_rankHere 42 = .ok (.aload_n 0, 1) := by decide +kernel
theorem dX9_rankHere_43 : decode cX9_rankHere 43 = .ok (.bipush 61, 2) := by decide +kernel
theorem dX9_rankHere_45 : decode cX9_rankHere 45 = .ok (.invokevirtual 275, 3) := by decide +kernel
theorem dX9_rankHere_48 : decode cX9_rankHere 48 = .ok (.ifCond .eq 5, 3) := by decide +kernel
theorem dX9_rankHere_51 : decode cX9_rankHere 51 = .ok (.iconst 4, 1) := by decide +kernel
theorem dX9_rankHere_52 : decode cX9_rankHere 52 = .ok (.ireturn, 1) := by decide +kernel
theorem dX9_rankHere_53 : decode cX9_rankHere 53 = .ok (.aload_n 0, 1) := by decide +kernel
theorem dX9_rankHere_54 : decode cX9_rankHere 54 = .ok (.bipush 43, 2) := by decide +kernel
theorem dX9_rankHere_56 : decode cX9_rankHere 56 = .ok (.invokevirtual 275, 3) := by decide +kernel
theorem dX9_rankHere_59 : decode cX9_rankHere 59 = .ok (.ifCond .ne 12, 3) := by decide +kernel
theorem dX9_rankHere_62 : decode cX9_rankHere 62 = .ok (.aload_n 0, 1) := by decide +kernel
theorem dX9_rankHere_63 : decode cX9_rankHere 63 = .ok (.bipush 45, 2) := by decide +kernel
theorem dX9_rankHere_65 : decode cX9_rankHere 65 = .ok (.invokevirtual 275, 3) := by decide +kernel
theorem dX9_rankHere_68 : decode cX9_rankHere 68 = .ok (.ifCond .eq 5, 3) := by decide +kernel
theorem dX9_rankHere_71 : decode cX9_rankHere 71 = .ok (.iconst 5, 1) := by decide +kernel
theorem dX9_rankHere_72 : decode cX9_rankHere 72 = .ok (.ireturn, 1) := by decide +kernel
theorem dX9_rankHere_73 : decode cX9_rankHere 73 = .ok (.aload_n 0, 1) := by decide +kernel
theorem dX9_rankHere_74 : decode cX9_rankHere 74 = .ok (.bipush 42, 2) := by decide +kernel
theorem dX9_rankHere_76 : decode cX9_rankHere 76 = .ok (.invokevirtual 275, 3) := by decide +kernel
theorem dX9_rankHere_79 : decode cX9_rankHere 79 = .ok (.ifCond .ne 21, 3) := by decide +kernel
theorem dX9_rankHere_82 : decode cX9_rankHere 82 = .ok (.aload_n 0, 1) := by decide +kernel
theorem dX9_rankHere_83 : decode cX9_rankHere 83 = .ok (.bipush 47, 2) := by decide +kernel
theorem dX9_rankHere_85 : decode cX9_rankHere 85 = .ok (.invokevirtual 275, 3) := by decide +kernel
theorem dX9_rankHere_88 : decode cX9_rankHere 88 = .ok (.ifCond .ne 12, 3) := by decide +kernel
theorem dX9_rankHere_91 : decode cX9_rankHere 91 = .ok (.aload_n 0, 1) := by decide +kernel
theorem dX9_rankHere_92 : decode cX9_rankHere 92 = .ok (.bipush 37, 2) := by decide +kernel
theorem dX9_rankHere_94 : decode cX9_rankHere 94 = .ok (.invokevirtual 275, 3) := by decide +kernel
theorem dX9_rankHere_97 : decode cX9_rankHere 97 = .ok (.ifCond .eq 8, 3) := by decide +kernel
theorem dX9_rankHere_100 : decode cX9_rankHere 100 = .ok (.bipush 6, 2) := by decide +kernel
theorem dX9_rankHere_102 : decode cX9_rankHere 102 = .ok (.goto 4, 3) := by decide +kernel
theorem dX9_rankHere_105 : decode cX9_rankHere 105 = .ok (.iconst 0, 1) := by decide +kernel
theorem dX9_rankHere_106 : decode cX9_rankHere 106 = .ok (.ireturn, 1) := by decide +kernel
theorem dX9_readHouse_0 : decode cX9_readHouse 0 = .ok (.iconst 4, 1) := by decide +kernel
theorem dX9_readHouse_1 : decode cX9_readHouse 1 = .ok (.aload_n 0, 1) := by decide +kernel
theorem dX9_readHouse_2 : decode cX9_readHouse 2 = .ok (.getfield 240, 3) := by decide +kernel
theorem dX9_readHouse_5 : decode cX9_readHouse 5 = .ok (.imul, 1) := by decide +kernel
theorem dX9_readHouse_6 : decode cX9_readHouse 6 = .ok (.aload_n 0, 1) := by decide +kernel
theorem dX9_readHouse_7 : decode cX9_readHouse 7 = .ok (.getfield 27, 3) := by decide +kernel
theorem dX9_readHouse_10 : decode cX9_readHouse 10 = .ok (.aload_n 0, 1) := by decide +kernel
theorem dX9_readHouse_11 : decode cX9_readHouse 11 = .ok (.getfield 240, 3) := by decide +kernel
theorem dX9_readHouse_14 : decode cX9_readHouse 14 = .ok (.iaload, 1) := by decide +kernel
theorem dX9_readHouse_15 : decode cX9_readHouse 15 = .ok (.iadd, 1) := by decide +kernel
theorem dX9_readHouse_16 : decode cX9_readHouse 16 = .ok (.istore_n 1, 1) := by decide +kernel
theorem dX9_readHouse_17 : decode cX9_readHouse 17 = .ok (.aload_n 0, 1) := by decide +kernel
theorem dX9_readHouse_18 : decode cX9_readHouse 18 = .ok (.getfield 70, 3) := by decide +kernel
theorem dX9_readHouse_21 : decode cX9_readHouse 21 = .ok (.iload_n 1, 1) := by decide +kernel
theorem dX9_readHouse_22 : decode cX9_readHouse 22 = .ok (.aload_n 0, 1) := by decide +kernel
theorem dX9_readHouse_23 : decode cX9_readHouse 23 = .ok (.aload_n 0, 1) := by decide +kernel
theorem dX9_readHouse_24 : decode cX9_readHouse 24 = .ok (.aload_n 0, 1) := by decide +kernel
theorem dX9_readHouse_25 : decode cX9_readHouse 25 = .ok (.getfield 70, 3) := by decide +kernel
theorem dX9_readHouse_28 : decode cX9_readHouse 28 = .ok (.iconst 4, 1) := by decide +kernel
theorem dX9_readHouse_29 : decode cX9_readHouse 29 = .ok (.aload_n 0, 1) := by decide +kernel
theorem dX9_readHouse_30 : decode cX9_readHouse 30 = .ok (.getfield 240, 3) := by decide +kernel
theorem dX9_readHouse_33 : decode cX9_readHouse 33 = .ok (.imul, 1) := by decide +kernel
theorem dX9_readHouse_34 : decode cX9_readHouse 34 = .ok (.aload_n 0, 1) := by decide +kernel
theorem dX9_readHouse_35 : decode cX9_readHouse 35 = .ok (.getfield 27, 3) := by decide +kernel
theorem dX9_readHouse_38 : decode cX9_readHouse 38 = .ok (.aload_n 0, 1) := by decide +kernel
theorem dX9_readHouse_39 : decode cX9_readHouse 39 = .ok (.getfield 240, 3) := by decide +kernel
theorem dX9_readHouse_42 : decode cX9_readHouse 42 = .ok (.iaload, 1) := by decide +kernel
theorem dX9_readHouse_43 : decode cX9_readHouse 43 = .ok (.invokevirtual 278, 3) := by decide +kernel
theorem dX9_readHouse_46 : decode cX9_readHouse 46 = .ok (.invokevirtual 282, 3) := by decide +kernel
theorem dX9_readHouse_49 : decode cX9_readHouse 49 = .ok (.lastore, 1) := by decide +kernel
theorem dX9_readHouse_50 : decode cX9_readHouse 50 = .ok (.aload_n 0, 1) := by decide +kernel
theorem dX9_readHouse_51 : decode cX9_readHouse 51 = .ok (.getfield 51, 3) := by decide +kernel
theorem dX9_readHouse_54 : decode cX9_readHouse 54 = .ok (.iload_n 1, 1) := by decide +kernel
theorem dX9_readHouse_55 : decode cX9_readHouse 55 = .ok (.aload_n 0, 1) := by decide +kernel
theorem dX9_readHouse_56 : decode cX9_readHouse 56 = .ok (.ldc2_w 153, 3) := by decide +kernel
theorem dX9_readHouse_59 : decode cX9_readHouse 59 = .ok (.iconst 0, 1) := by decide +kernel
theorem dX9_readHouse_60 : decode cX9_readHouse 60 = .ok (.bipush 99, 2) := by decide +kernel
theorem dX9_readHouse_62 : decode cX9_readHouse 62 = .ok (.invokevirtual 286, 3) := by decide +kernel
theorem dX9_readHouse_65 : decode cX9_readHouse 65 = .ok (.iastore, 1) := by decide +kernel
theorem dX9_readHouse_66 : decode cX9_readHouse 66 = .ok (.aload_n 0, 1) := by decide +kernel
theorem dX9_readHouse_67 : decode cX9_readHouse 67 = .ok (.getfield 54, 3) := by decide +kernel
theorem dX9_readHouse_70 : decode cX9_readHouse 70 = .ok (.iload_n 1, 1) := by decide +kernel
theorem dX9_readHouse_71 : decode cX9_readHouse 71 = .ok (.aload_n 0, 1) := by decide +kernel
theorem dX9_readHouse_72 : decode cX9_readHouse 72 = .ok (.ldc2_w 155, 3) := by decide +kernel

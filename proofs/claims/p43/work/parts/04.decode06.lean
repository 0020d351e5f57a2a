theorem dX9_spinsters_29 : decode cX9_spinsters 29 = .ok (.goto (-25), 3) := by decide +kernel
theorem dX9_spinsters_32 : decode cX9_spinsters 32 = .ok (.iload_n 1, 1) := by decide +kernel
theorem dX9_spinsters_33 : decode cX9_spinsters 33 = .ok (.ireturn, 1) := by decide +kernel
theorem dX9_startAnew_0 : decode cX9_startAnew 0 = .ok (.aload_n 0, 1) := by decide +kernel
theorem dX9_startAnew_1 : decode cX9_startAnew 1 = .ok (.invokevirtual 361, 3) := by decide +kernel
theorem dX9_startAnew_4 : decode cX9_startAnew 4 = .ok (.aload_n 0, 1) := by decide +kernel
theorem dX9_startAnew_5 : decode cX9_startAnew 5 = .ok (.iconst 0, 1) := by decide +kernel
theorem dX9_startAnew_6 : decode cX9_startAnew 6 = .ok (.putfield 364, 3) := by decide +kernel
theorem dX9_startAnew_9 : decode cX9_startAnew 9 = .ok (.aload_n 0, 1) := by decide +kernel
theorem dX9_startAnew_10 : decode cX9_startAnew 10 = .ok (.iconst 0, 1) := by decide +kernel
theorem dX9_startAnew_11 : decode cX9_startAnew 11 = .ok (.putfield 367, 3) := by decide +kernel
theorem dX9_startAnew_14 : decode cX9_startAnew 14 = .ok (.aload_n 0, 1) := by decide +kernel
theorem dX9_startAnew_15 : decode cX9_startAnew 15 = .ok (.iconst 0, 1) := by decide +kernel
theorem dX9_startAnew_16 : decode cX9_startAnew 16 = .ok (.putfield 370, 3) := by decide +kernel
theorem dX9_startAnew_19 : decode cX9_startAnew 19 = .ok (.aload_n 0, 1) := by decide +kernel
theorem dX9_startAnew_20 : decode cX9_startAnew 20 = .ok (.iconst 0, 1) := by decide +kernel
theorem dX9_startAnew_21 : decode cX9_startAnew 21 = .ok (.putfield 373, 3) := by decide +kernel
theorem dX9_startAnew_24 : decode cX9_startAnew 24 = .ok (.iconst 0, 1) := by decide +kernel
theorem dX9_startAnew_25 : decode cX9_startAnew 25 = .ok (.istore_n 1, 1) := by decide +kernel
theorem dX9_startAnew_26 : decode cX9_startAnew 26 = .ok (.iload_n 1, 1) := by decide +kernel
theorem dX9_startAnew_27 : decode cX9_startAnew 27 = .ok (.iconst 3, 1) := by decide +kernel
theorem dX9_startAnew_28 : decode cX9_startAnew 28 = .ok (.if_icmp .ge 16, 3) := by decide +kernel
theorem dX9_startAnew_31 : decode cX9_startAnew 31 = .ok (.aload_n 0, 1) := by decide +kernel
theorem dX9_startAnew_32 : decode cX9_startAnew 32 = .ok (.getfield 128, 3) := by decide +kernel
theorem dX9_startAnew_35 : decode cX9_startAnew 35 = .ok (.iload_n 1, 1) := by decide +kernel
theorem dX9_startAnew_36 : decode cX9_startAnew 36 = .ok (.iconst 0, 1) := by decide +kernel
theorem dX9_startAnew_37 : decode cX9_startAnew 37 = .ok (.bastore, 1) := by decide +kernel
theorem dX9_startAnew_38 : decode cX9_startAnew 38 = .ok (.iinc 1 1, 3) := by decide +kernel
theorem dX9_startAnew_41 : decode cX9_startAnew 41 = .ok (.goto (-15), 3) := by decide +kernel
theorem dX9_startAnew_44 : decode cX9_startAnew 44 = .ok (.return_, 1) := by decide +kernel
theorem dX9_sure_0 : decode cX9_sure 0 = .ok (.aload_n 0, 1) := by decide +kernel
theorem dX9_sure_1 : decode cX9_sure 1 = .ok (.iload_n 2, 1) := by decide +kernel
theorem dX9_sure_2 : decode cX9_sure 2 = .ok (.invokevirtual 508, 3) := by decide +kernel
theorem dX9_sure_5 : decode cX9_sure 5 = .ok (.iload_n 1, 1) := by decide +kernel
theorem dX9_sure_6 : decode cX9_sure 6 = .ok (.iconst 0, 1) := by decide +kernel
theorem dX9_sure_7 : decode cX9_sure 7 = .ok (.iconst 2, 1) := by decide +kernel
theorem dX9_sure_8 : decode cX9_sure 8 = .ok (.invokestatic 354, 3) := by decide +kernel
theorem dX9_sure_11 : decode cX9_sure 11 = .ok (.ifCond .eq 10, 3) := by decide +kernel
theorem dX9_sure_14 : decode cX9_sure 14 = .ok (.aload_n 0, 1) := by decide +kernel
theorem dX9_sure_15 : decode cX9_sure 15 = .ok (.getfield 499, 3) := by decide +kernel
theorem dX9_sure_18 : decode cX9_sure 18 = .ok (.ifCond .ne 5, 3) := by decide +kernel
theorem dX9_sure_21 : decode cX9_sure 21 = .ok (.iconst (-1), 1) := by decide +kernel
theorem dX9_sure_22 : decode cX9_sure 22 = .ok (.ireturn, 1) := by decide +kernel
theorem dX9_sure_23 : decode cX9_sure 23 = .ok (.iconst 0, 1) := by decide +kernel
theorem dX9_sure_24 : decode cX9_sure 24 = .ok (.istore_n 3, 1) := by decide +kernel
theorem dX9_sure_25 : decode cX9_sure 25 = .ok (.iload_n 3, 1) := by decide +kernel
theorem dX9_sure_26 : decode cX9_sure 26 = .ok (.bipush 7, 2) := by decide +kernel
theorem dX9_sure_28 : decode cX9_sure 28 = .ok (.if_icmp .ge 29, 3) := by decide +kernel
theorem dX9_sure_31 : decode cX9_sure 31 = .ok (.aload_n 0, 1) := by decide +kernel
theorem dX9_sure_32 : decode cX9_sure 32 = .ok (.getfield 118, 3) := by decide +kernel
theorem dX9_sure_35 : decode cX9_sure 35 = .ok (.bipush 7, 2) := by decide +kernel
theorem dX9_sure_37 : decode cX9_sure 37 = .ok (.iload_n 1, 1) := by decide +kernel
theorem dX9_sure_38 : decode cX9_sure 38 = .ok (.imul, 1) := by decide +kernel
theorem dX9_sure_39 : decode cX9_sure 39 = .ok (.iload_n 3, 1) := by decide +kernel
theorem dX9_sure_40 : decode cX9_sure 40 = .ok (.iadd, 1) := by decide +kernel
theorem dX9_sure_41 : decode cX9_sure 41 = .ok (.iaload, 1) := by decide +kernel
theorem dX9_sure_42 : decode cX9_sure 42 = .ok (.aload_n 0, 1) := by decide +kernel
theorem dX9_sure_43 : decode cX9_sure 43 = .ok (.getfield 499, 3) := by decide +kernel
theorem dX9_sure_46 : decode cX9_sure 46 = .ok (.if_icmp .ne 5, 3) := by decide +kernel
theorem dX9_sure_49 : decode cX9_sure 49 = .ok (.iload_n 3, 1) := by decide +kernel
theorem dX9_sure_50 : decode cX9_sure 50 = .ok (.ireturn, 1) := by decide +kernel
theorem dX9_sure_51 : decode cX9_sure 51 = .ok (.iinc 3 1, 3) := by decide +kernel
theorem dX9_sure_54 : decode cX9_sure 54 = .ok (.goto (-29), 3) := by decide +kernel
theorem dX9_sure_57 : decode cX9_sure 57 = .ok (.bipush (-2), 2) := by decide +kernel
theorem dX9_sure_59 : decode cX9_sure 59 = .ok (.ireturn, 1) := by decide +kernel
theorem dX9_swap_0 : decode cX9_swap 0 = .ok (.iload_n 1, 1) := by decide +kernel
theorem dX9_swap_1 : decode cX9_swap 1 = .ok (.iconst 0, 1) := by decide +kernel
theorem dX9_swap_2 : decode cX9_swap 2 = .ok (.iconst 1, 1) := by decide +kernel
theorem dX9_swap_3 : decode cX9_swap 3 = .ok (.invokestatic 354, 3) := by decide +kernel
theorem dX9_swap_6 : decode cX9_swap 6 = .ok (.ifCond .ne 5, 3) := by decide +kernel
theorem dX9_swap_9 : decode cX9_swap 9 = .ok (.iconst (-1), 1) := by decide +kernel
theorem dX9_swap_10 : decode cX9_swap 10 = .ok (.ireturn, 1) := by decide +kernel
theorem dX9_swap_11 : decode cX9_swap 11 = .ok (.iconst 0, 1) := by decide +kernel
theorem dX9_swap_12 : decode cX9_swap 12 = .ok (.istore_n 2, 1) := by decide +kernel
theorem dX9_swap_13 : decode cX9_swap 13 = .ok (.iload_n 2, 1) := by decide +kernel
theorem dX9_swap_14 : decode cX9_swap 14 = .ok (.bipush 16, 2) := by decide +kernel
theorem dX9_swap_16 : decode cX9_swap 16 = .ok (.if_icmp .ge 114, 3) := by decide +kernel
theorem dX9_swap_19 : decode cX9_swap 19 = .ok (.iload_n 2, 1) := by decide +kernel
theorem dX9_swap_20 : decode cX9_swap 20 = .ok (.iconst 4, 1) := by decide +kernel
theorem dX9_swap_21 : decode cX9_swap 21 = .ok (.idiv, 1) := by decide +kernel
theorem dX9_swap_22 : decode cX9_swap 22 = .ok (.istore_n 3, 1) := by decide +kernel
theorem dX9_swap_23 : decode cX9_swap 23 = .ok (.iload_n 2, 1) := by decide +kernel
theorem dX9_swap_24 : decode cX9_swap 24 = .ok (.iconst 4, 1) := by decide +kernel
theorem dX9_swap_25 : decode cX9_swap 25 = .ok (.irem, 1) := by decide +kernel
theorem dX9_swap_26 : decode cX9_swap 26 = .ok (.istore 4, 2) := by decide +kernel
theorem dX9_swap_28 : decode cX9_swap 28 = .ok (.iload_n 3, 1) := by decide +kernel
theorem dX9_swap_29 : decode cX9_swap 29 = .ok (.iload 4, 2) := by decide +kernel
theorem dX9_swap_31 : decode cX9_swap 31 = .ok (.if_icmp .ge 93, 3) := by decide +kernel
theorem dX9_swap_34 : decode cX9_swap 34 = .ok (.aload_n 0, 1) := by decide +kernel
theorem dX9_swap_35 : decode cX9_swap 35 = .ok (.iload 4, 2) := by decide +kernel
theorem dX9_swap_37 : decode cX9_swap 37 = .ok (.invokevirtual 415, 3) := by decide +kernel
theorem dX9_swap_40 : decode cX9_swap 40 = .ok (.ifCond .eq 84, 3) := by decide +kernel
theorem dX9_swap_43 : decode cX9_swap 43 = .ok (.aload_n 0, 1) := by decide +kernel
theorem dX9_swap_44 : decode cX9_swap 44 = .ok (.iload_n 3, 1) := by decide +kernel
theorem dX9_swap_45 : decode cX9_swap 45 = .ok (.invokevirtual 396, 3) := by decide +kernel
theorem dX9_swap_48 : decode cX9_swap 48 = .ok (.ifCond .lt 76, 3) := by decide +kernel
theorem dX9_swap_51 : decode cX9_swap 51 = .ok (.aload_n 0, 1) := by decide +kernel
theorem dX9_swap_52 : decode cX9_swap 52 = .ok (.iload 4, 2) := by decide +kernel
theorem dX9_swap_54 : decode cX9_swap 54 = .ok (.invokevirtual 396, 3) := by decide +kernel
theorem dX9_swap_57 : decode cX9_swap 57 = .ok (.ifCond .ge 6, 3) := by decide +kernel
theorem dX9_swap_60 : decode cX9_swap 60 = .ok (.goto 64, 3) := by decide +kernel
theorem dX9_swap_63 : decode cX9_swap 63 = .ok (.aload_n 0, 1) := by decide +kernel
theorem dX9_swap_64 : decode cX9_swap 64 = .ok (.iload_n 3, 1) := by decide +kernel
theorem dX9_swap_65 : decode cX9_swap 65 = .ok (.aload_n 0, 1) := by decide +kernel
theorem dX9_swap_66 : decode cX9_swap 66 = .ok (.iload 4, 2) := by decide +kernel
theorem dX9_swap_68 : decode cX9_swap 68 = .ok (.invokevirtual 396, 3) := by decide +kernel
theorem dX9_swap_71 : decode cX9_swap 71 = .ok (.invokevirtual 477, 3) := by decide +kernel
theorem dX9_swap_74 : decode cX9_swap 74 = .ok (.aload_n 0, 1) := by decide +kernel
theorem dX9_swap_75 : decode cX9_swap 75 = .ok (.iload_n 3, 1) := by decide +kernel
theorem dX9_swap_76 : decode cX9_swap 76 = .ok (.aload_n 0, 1) := by decide +kernel
theorem dX9_swap_77 : decode cX9_swap 77 = .ok (.iload_n 3, 1) := by decide +kernel
theorem dX9_swap_78 : decode cX9_swap 78 = .ok (.invokevirtual 396, 3) := by decide +kernel
theorem dX9_swap_81 : decode cX9_swap 81 = .ok (.invokevirtual 424, 3) := by decide +kernel
theorem dX9_swap_84 : decode cX9_swap 84 = .ok (.if_icmp .le 40, 3) := by decide +kernel
theorem dX9_swap_87 : decode cX9_swap 87 = .ok (.aload_n 0, 1) := by decide +kernel
theorem dX9_swap_88 : decode cX9_swap 88 = .ok (.iload 4, 2) := by decide +kernel
theorem dX9_swap_90 : decode cX9_swap 90 = .ok (.aload_n 0, 1) := by decide +kernel
theorem dX9_swap_91 : decode cX9_swap 91 = .ok (.iload_n 3, 1) := by decide +kernel
theorem dX9_swap_92 : decode cX9_swap 92 = .ok (.invokevirtual 396, 3) := by decide +kernel
theorem dX9_swap_95 : decode cX9_swap 95 = .ok (.invokevirtual 477, 3) := by decide +kernel
theorem dX9_swap_98 : decode cX9_swap 98 = .ok (.aload_n 0, 1) := by decide +kernel
theorem dX9_swap_99 : decode cX9_swap 99 = .ok (.iload 4, 2) := by decide +kernel
theorem dX9_swap_101 : decode cX9_swap 101 = .ok (.aload_n 0, 1) := by decide +kernel
theorem dX9_swap_102 : decode cX9_swap 102 = .ok (.iload 4, 2) := by decide +kernel
theorem dX9_swap_104 : decode cX9_swap 104 = .ok (.invokevirtual 396, 3) := by decide +kernel
theorem dX9_swap_107 : decode cX9_swap 107 = .ok (.invokevirtual 424, 3) := by decide +kernel
theorem dX9_swap_110 : decode cX9_swap 110 = .ok (.if_icmp .le 14, 3) := by decide +kernel
theorem dX9_swap_113 : decode cX9_swap 113 = .ok (.iload_n 1, 1) := by decide +kernel
theorem dX9_swap_114 : decode cX9_swap 114 = .ok (.ifCond .ne 7, 3) := by decide +kernel
theorem dX9_swap_117 : decode cX9_swap 117 = .ok (.iload_n 3, 1) := by decide +kernel
theorem dX9_swap_118 : decode cX9_swap 118 = .ok (.goto 5, 3) := by decide +kernel
theorem dX9_swap_121 : decode cX9_swap 121 = .ok (.iload 4, 2) := by decide +kernel
theorem dX9_swap_123 : decode cX9_swap 123 = .ok (.ireturn, 1) := by decide +kernel
theorem dX9_swap_124 : decode cX9_swap 124 = .ok (.iinc 2 1, 3) := by decide +kernel
theorem dX9_swap_127 : decode cX9_swap 127 = .ok (.goto (-114), 3) := by decide +kernel
theorem dX9_swap_130 : decode cX9_swap 130 = .ok (.iconst (-1), 1) := by decide +kernel
theorem dX9_swap_131 : decode cX9_swap 131 = .ok (.ireturn, 1) := by decide +kernel
theorem dX9_swapAll_0 : decode cX9_swapAll 0 = .ok (.iconst 0, 1) := by decide +kernel
theorem dX9_swapAll_1 : decode cX9_swapAll 1 = .ok (.istore_n 1, 1) := by decide +kernel
theorem dX9_swapAll_2 : decode cX9_swapAll 2 = .ok (.iload_n 1, 1) := by decide +kernel
theorem dX9_swapAll_3 : decode cX9_swapAll 3 = .ok (.bipush 26, 2) := by decide +kernel
theorem dX9_swapAll_5 : decode cX9_swapAll 5 = .ok (.if_icmp .ge 51, 3) := by decide +kernel
theorem dX9_swapAll_8 : decode cX9_swapAll 8 = .ok (.aload_n 0, 1) := by decide +kernel
theorem dX9_swapAll_9 : decode cX9_swapAll 9 = .ok (.getfield 94, 3) := by decide +kernel
theorem dX9_swapAll_12 : decode cX9_swapAll 12 = .ok (.bipush 26, 2) := by decide +kernel
theorem dX9_swapAll_14 : decode cX9_swapAll 14 = .ok (.aload_n 0, 1) := by decide +kernel
theorem dX9_swapAll_15 : decode cX9_swapAll 15 = .ok (.getfield 364, 3) := by decide +kernel
theorem dX9_swapAll_18 : decode cX9_swapAll 18 = .ok (.imul, 1) := by decide +kernel
theorem dX9_swapAll_19 : decode cX9_swapAll 19 = .ok (.iload_n 1, 1) := by decide +kernel
theorem dX9_swapAll_20 : decode cX9_swapAll 20 = .ok (.iadd, 1) := by decide +kernel
theorem dX9_swapAll_21 : decode cX9_swapAll 21 = .ok (.iaload, 1) := by decide +kernel
theorem dX9_swapAll_22 : decode cX9_swapAll 22 = .ok (.istore_n 2, 1) := by decide +kernel
theorem dX9_swapAll_23 : decode cX9_swapAll 23 = .ok (.aload_n 0, 1) := by decide +kernel
theorem dX9_swapAll_24 : decode cX9_swapAll 24 = .ok (.getfield 94, 3) := by decide +kernel
theorem dX9_swapAll_27 : decode cX9_swapAll 27 = .ok (.bipush 26, 2) := by decide +kernel
theorem dX9_swapAll_29 : decode cX9_swapAll 29 = .ok (.aload_n 0, 1) := by decide +kernel
theorem dX9_swapAll_30 : decode cX9_swapAll 30 = .ok (.getfield 364, 3) := by decide +kernel
theorem dX9_swapAll_33 : decode cX9_swapAll 33 = .ok (.imul, 1) := by decide +kernel
theorem dX9_swapAll_34 : decode cX9_swapAll 34 = .ok (.iload_n 1, 1) := by decide +kernel
theorem dX9_swapAll_35 : decode cX9_swapAll 35 = .ok (.iadd, 1) := by decide +kernel
theorem dX9_swapAll_36 : decode cX9_swapAll 36 = .ok (.aload_n 0, 1) := by decide +kernel
theorem dX9_swapAll_37 : decode cX9_swapAll 37 = .ok (.getfield 88, 3) := by decide +kernel
theorem dX9_swapAll_40 : decode cX9_swapAll 40 = .ok (.iload_n 1, 1) := by decide +kernel
theorem dX9_swapAll_41 : decode cX9_swapAll 41 = .ok (.iaload, 1) := by decide +kernel
theorem dX9_swapAll_42 : decode cX9_swapAll 42 = .ok (.iastore, 1) := by decide +kernel
theorem dX9_swapAll_43 : decode cX9_swapAll 43 = .ok (.aload_n 0, 1) := by decide +kernel
theorem dX9_swapAll_44 : decode cX9_swapAll 44 = .ok (.getfield 88, 3) := by decide +kernel
theorem dX9_swapAll_47 : decode cX9_swapAll 47 = .ok (.iload_n 1, 1) := by decide +kernel
theorem dX9_swapAll_48 : decode cX9_swapAll 48 = .ok (.iload_n 2, 1) := by decide +kernel
theorem dX9_swapAll_49 : decode cX9_swapAll 49 = .ok (.iastore, 1) := by decide +kernel
theorem dX9_swapAll_50 : decode cX9_swapAll 50 = .ok (.iinc 1 1, 3) := by decide +kernel
theorem dX9_swapAll_53 : decode cX9_swapAll 53 = .ok (.goto (-51), 3) := by decide +kernel
theorem dX9_swapAll_56 : decode cX9_swapAll 56 = .ok (.return_, 1) := by decide +kernel
theorem dX9_takenBy_0 : decode cX9_takenBy 0 = .ok (.iconst 0, 1) := by decide +kernel
theorem dX9_takenBy_1 : decode cX9_takenBy 1 = .ok (.istore_n 2, 1) := by decide +kernel
theorem dX9_takenBy_2 : decode cX9_takenBy 2 = .ok (.iconst 0, 1) := by decide +kernel
theorem dX9_takenBy_3 : decode cX9_takenBy 3 = .ok (.istore_n 3, 1) := by decide +kernel
theorem dX9_takenBy_4 : decode cX9_takenBy 4 = .ok (.iload_n 3, 1) := by decide +kernel
theorem dX9_takenBy_5 : decode cX9_takenBy 5 = .ok (.aload_n 0, 1) := by decide +kernel
theorem dX9_takenBy_6 : decode cX9_takenBy 6 = .ok (.invokevirtual 351, 3) := by decide +kernel
theorem dX9_takenBy_9 : decode cX9_takenBy 9 = .ok (.if_icmp .ge 24, 3) := by decide +kernel
theorem dX9_takenBy_12 : decode cX9_takenBy 12 = .ok (.aload_n 0, 1) := by decide +kernel
theorem dX9_takenBy_13 : decode cX9_takenBy 13 = .ok (.iload_n 1, 1) := by decide +kernel
theorem dX9_takenBy_14 : decode cX9_takenBy 14 = .ok (.iload_n 3, 1) := by decide +kernel
theorem dX9_takenBy_15 : decode cX9_takenBy 15 = .ok (.invokevirtual 402, 3) := by decide +kernel
theorem dX9_takenBy_18 : decode cX9_takenBy 18 = .ok (.ifCond .eq 9, 3) := by decide +kernel
theorem dX9_takenBy_21 : decode cX9_takenBy 21 = .ok (.iload_n 2, 1) := by decide +kernel
theorem dX9_takenBy_22 : decode cX9_takenBy 22 = .ok (.iconst 1, 1) := by decide +kernel
theorem dX9_takenBy_23 : decode cX9_takenBy 23 = .ok (.iload_n 3, 1) := by decide +kernel
theorem dX9_takenBy_24 : decode cX9_takenBy 24 = .ok (.ishl, 1) := by decide +kernel
theorem dX9_takenBy_25 : decode cX9_takenBy 25 = .ok (.ior, 1) := by decide +kernel
theorem dX9_takenBy_26 : decode cX9_takenBy 26 = .ok (.istore_n 2, 1) := by decide +kernel
theorem dX9_takenBy_27 : decode cX9_takenBy 27 = .ok (.iinc 3 1, 3) := by decide +kernel
theorem dX9_takenBy_30 : decode cX9_takenBy 30 = .ok (.goto (-26), 3) := by decide +kernel
theorem dX9_takenBy_33 : decode cX9_takenBy 33 = .ok (.iload_n 2, 1) := by decide +kernel
theorem dX9_takenBy_34 : decode cX9_takenBy 34 = .ok (.ireturn, 1) := by decide +kernel
theorem dX9_takers_0 : decode cX9_takers 0 = .ok (.iconst 0, 1) := by decide +kernel
theorem dX9_takers_1 : decode cX9_takers 1 = .ok (.istore_n 2, 1) := by decide +kernel
theorem dX9_takers_2 : decode cX9_takers 2 = .ok (.iconst 0, 1) := by decide +kernel
theorem dX9_takers_3 : decode cX9_takers 3 = .ok (.istore_n 3, 1) := by decide +kernel
theorem dX9_takers_4 : decode cX9_takers 4 = .ok (.iload_n 3, 1) := by decide +kernel
theorem dX9_takers_5 : decode cX9_takers 5 = .ok (.aload_n 0, 1) := by decide +kernel
theorem dX9_takers_6 : decode cX9_takers 6 = .ok (.invokevirtual 358, 3) := by decide +kernel
theorem dX9_takers_9 : decode cX9_takers 9 = .ok (.if_icmp .ge 24, 3) := by decide +kernel
theorem dX9_takers_12 : decode cX9_takers 12 = .ok (.aload_n 0, 1) := by decide +kernel
theorem dX9_takers_13 : decode cX9_takers 13 = .ok (.iload_n 3, 1) := by decide +kernel
theorem dX9_takers_14 : decode cX9_takers 14 = .ok (.iload_n 1, 1) := by decide +kernel
theorem dX9_takers_15 : decode cX9_takers 15 = .ok (.invokevirtual 402, 3) := by decide +kernel
theorem dX9_takers_18 : decode cX9_takers 18 = .ok (.ifCond .eq 9, 3) := by decide +kernel
theorem dX9_takers_21 : decode cX9_takers 21 = .ok (.iload_n 2, 1) := by decide +kernel
theorem dX9_takers_22 : decode cX9_takers 22 = .ok (.iconst 1, 1) := by decide +kernel
theorem dX9_takers_23 : decode cX9_takers 23 = .ok (.iload_n 3, 1) := by decide +kernel
theorem dX9_takers_24 : decode cX9_takers 24 = .ok (.ishl, 1) := by decide +kernel
theorem dX9_takers_25 : decode cX9_takers 25 = .ok (.ior, 1) := by decide +kernel
theorem dX9_takers_26 : decode cX9_takers 26 = .ok (.istore_n 2, 1) := by decide +kernel
theorem dX9_takers_27 : decode cX9_takers 27 = .ok (.iinc 3 1, 3) := by decide +kernel
theorem dX9_takers_30 : decode cX9_takers 30 = .ok (.goto (-26), 3) := by decide +kernel
theorem dX9_takers_33 : decode cX9_takers 33 = .ok (.iload_n 2, 1) := by decide +kernel
theorem dX9_takers_34 : decode cX9_takers 34 = .ok (.ireturn, 1) := by decide +kernel
theorem dX9_takes_0 : decode cX9_takes 0 = .ok (.aload_n 0, 1) := by decide +kernel
theorem dX9_takes_1 : decode cX9_takes 1 = .ok (.iload_n 1, 1) := by decide +kernel
theorem dX9_takes_2 : decode cX9_takes 2 = .ok (.invokevirtual 415, 3) := by decide +kernel
theorem dX9_takes_5 : decode cX9_takes 5 = .ok (.ifCond .eq 11, 3) := by decide +kernel
theorem dX9_takes_8 : decode cX9_takes 8 = .ok (.aload_n 0, 1) := by decide +kernel
theorem dX9_takes_9 : decode cX9_takes 9 = .ok (.iload_n 1, 1) := by decide +kernel
theorem dX9_takes_10 : decode cX9_takes 10 = .ok (.invokevirtual 428, 3) := by decide +kernel
theorem dX9_takes_13 : decode cX9_takes 13 = .ok (.goto 4, 3) := by decide +kernel
theorem dX9_takes_16 : decode cX9_takes 16 = .ok (.iconst (-1), 1) := by decide +kernel
theorem dX9_takes_17 : decode cX9_takes 17 = .ok (.ireturn, 1) := by decide +kernel
theorem dX9_toCart_0 : decode cX9_toCart 0 = .ok (.aload_n 0, 1) := by decide +kernel
theorem dX9_toCart_1 : decode cX9_toCart 1 = .ok (.getfield 88, 3) := by decide +kernel
theorem dX9_toCart_4 : decode cX9_toCart 4 = .ok (.iconst 0, 1) := by decide +kernel
theorem dX9_toCart_5 : decode cX9_toCart 5 = .ok (.iload_n 1, 1) := by decide +kernel
theorem dX9_toCart_6 : decode cX9_toCart 6 = .ok (.iadd, 1) := by decide +kernel
theorem dX9_toCart_7 : decode cX9_toCart 7 = .ok (.iconst (-1), 1) := by decide +kernel
theorem dX9_toCart_8 : decode cX9_toCart 8 = .ok (.iastore, 1) := by decide +kernel
theorem dX9_toCart_9 : decode cX9_toCart 9 = .ok (.aload_n 0, 1) := by decide +kernel
theorem dX9_toCart_10 : decode cX9_toCart 10 = .ok (.getfield 88, 3) := by decide +kernel
theorem dX9_toCart_13 : decode cX9_toCart 13 = .ok (.iconst 5, 1) := by decide +kernel
theorem dX9_toCart_14 : decode cX9_toCart 14 = .ok (.iload_n 1, 1) := by decide +kernel
theorem dX9_toCart_15 : decode cX9_toCart 15 = .ok (.iadd, 1) := by decide +kernel
theorem dX9_toCart_16 : decode cX9_toCart 16 = .ok (.iconst 0, 1) := by decide +kernel
theorem dX9_toCart_17 : decode cX9_toCart 17 = .ok (.iastore, 1) := by decide +kernel
theorem dX9_toCart_18 : decode cX9_toCart 18 = .ok (.aload_n 0, 1) := by decide +kernel
theorem dX9_toCart_19 : decode cX9_toCart 19 = .ok (.getfield 88, 3) := by decide +kernel
theorem dX9_toCart_22 : decode cX9_toCart 22 = .ok (.bipush 15, 2) := by decide +kernel
theorem dX9_toCart_24 : decode cX9_toCart 24 = .ok (.iload_n 1, 1) := by decide +kernel
theorem dX9_toCart_25 : decode cX9_toCart 25 = .ok (.iadd, 1) := by decide +kernel
theorem dX9_toCart_26 : decode cX9_toCart 26 = .ok (.iconst 0, 1) := by decide +kernel
theorem dX9_toCart_27 : decode cX9_toCart 27 = .ok (.iastore, 1) := by decide +kernel
theorem dX9_toCart_28 : decode cX9_toCart 28 = .ok (.return_, 1) := by decide +kernel
theorem dX9_triedBy_0 : decode cX9_triedBy 0 = .ok (.iconst 0, 1) := by decide +kernel
theorem dX9_triedBy_1 : decode cX9_triedBy 1 = .ok (.istore_n 2, 1) := by decide +kernel
theorem dX9_triedBy_2 : decode cX9_triedBy 2 = .ok (.iload_n 2, 1) := by decide +kernel
theorem dX9_triedBy_3 : decode cX9_triedBy 3 = .ok (.aload_n 0, 1) := by decide +kernel
theorem dX9_triedBy_4 : decode cX9_triedBy 4 = .ok (.invokevirtual 351, 3) := by decide +kernel
theorem dX9_triedBy_7 : decode cX9_triedBy 7 = .ok (.if_icmp .ge 34, 3) := by decide +kernel
theorem dX9_triedBy_10 : decode cX9_triedBy 10 = .ok (.aload_n 0, 1) := by decide +kernel
theorem dX9_triedBy_11 : decode cX9_triedBy 11 = .ok (.getfield 88, 3) := by decide +kernel
theorem dX9_triedBy_14 : decode cX9_triedBy 14 = .ok (.iconst 0, 1) := by decide +kernel
theorem dX9_triedBy_15 : decode cX9_triedBy 15 = .ok (.iload_n 2, 1) := by decide +kernel
theorem dX9_triedBy_16 : decode cX9_triedBy 16 = .ok (.iadd, 1) := by decide +kernel
theorem dX9_triedBy_17 : decode cX9_triedBy 17 = .ok (.iaload, 1) := by decide +kernel
theorem dX9_triedBy_18 : decode cX9_triedBy 18 = .ok (.iload_n 1, 1) := by decide +kernel
theorem dX9_triedBy_19 : decode cX9_triedBy 19 = .ok (.if_icmp .ne 16, 3) := by decide +kernel
theorem dX9_triedBy_22 : decode cX9_triedBy 22 = .ok (.aload_n 0, 1) := by decide +kernel
theorem dX9_triedBy_23 : decode cX9_triedBy 23 = .ok (.getfield 88, 3) := by decide +kernel
theorem dX9_triedBy_26 : decode cX9_triedBy 26 = .ok (.iconst 5, 1) := by decide +kernel
theorem dX9_triedBy_27 : decode cX9_triedBy 27 = .ok (.iload_n 2, 1) := by decide +kernel
theorem dX9_triedBy_28 : decode cX9_triedBy 28 = .ok (.iadd, 1) := by decide +kernel
theorem dX9_triedBy_29 : decode cX9_triedBy 29 = .ok (.iaload, 1) := by decide +kernel
theorem dX9_triedBy_30 : decode cX9_triedBy 30 = .ok (.ifCond .ne 5, 3) := by decide +kernel
theorem dX9_triedBy_33 : decode cX9_triedBy 33 = .ok (.iload_n 2, 1) := by decide +kernel
theorem dX9_triedBy_34 : decode cX9_triedBy 34 = .ok (.ireturn, 1) := by decide +kernel
theorem dX9_triedBy_35 : decode cX9_triedBy 35 = .ok (.iinc 2 1, 3) := by decide +kernel
theorem dX9_triedBy_38 : decode cX9_triedBy 38 = .ok (.goto (-36), 3) := by decide +kernel
theorem dX9_triedBy_41 : decode cX9_triedBy 41 = .ok (.iconst (-1), 1) := by decide +kernel
theorem dX9_triedBy_42 : decode cX9_triedBy 42 = .ok (.ireturn, 1) := by decide +kernel
theorem dX9_tune_0 : decode cX9_tune 0 = .ok (.aload_n 0, 1) := by decide +kernel
theorem dX9_tune_1 : decode cX9_tune 1 = .ok (.iload_n 1, 1) := by decide +kernel
theorem dX9_tune_2 : decode cX9_tune 2 = .ok (.invokevirtual 412, 3) := by decide +kernel
theorem dX9_tune_5 : decode cX9_tune 5 = .ok (.ifCond .ne 6, 3) := by decide +kernel
theorem dX9_tune_8 : decode cX9_tune 8 = .ok (.bipush (-2), 2) := by decide +kernel
theorem dX9_tune_10 : decode cX9_tune 10 = .ok (.ireturn, 1) := by decide +kernel
theorem dX9_tune_11 : decode cX9_tune 11 = .ok (.iload_n 2, 1) := by decide +kernel
theorem dX9_tune_12 : decode cX9_tune 12 = .ok (.tableswitch 90 0 5 #[40, 46, 52, 62, 71, 80], 40) := by decide +kernel
theorem dX9_tune_52 : decode cX9_tune 52 = .ok (.aload_n 0, 1) := by decide +kernel
theorem dX9_tune_53 : decode cX9_tune 53 = .ok (.iload_n 1, 1) := by decide +kernel
theorem dX9_tune_54 : decode cX9_tune 54 = .ok (.invokevirtual 342, 3) := by decide +kernel
theorem dX9_tune_57 : decode cX9_tune 57 = .ok (.ireturn, 1) := by decide +kernel
theorem dX9_tune_58 : decode cX9_tune 58 = .ok (.aload_n 0, 1) := by decide +kernel
theorem dX9_tune_59 : decode cX9_tune 59 = .ok (.iload_n 1, 1) := by decide +kernel
theorem dX9_tune_60 : decode cX9_tune 60 = .ok (.invokevirtual 336, 3) := by decide +kernel
theorem dX9_tune_63 : decode cX9_tune 63 = .ok (.ireturn, 1) := by decide +kernel
theorem dX9_tune_64 : decode cX9_tune 64 = .ok (.aload_n 0, 1) := by decide +kernel
theorem dX9_tune_65 : decode cX9_tune 65 = .ok (.getfield 88, 3) := by decide +kernel
theorem dX9_tune_68 : decode cX9_tune 68 = .ok (.bipush 10, 2) := by decide +kernel
theorem dX9_tune_70 : decode cX9_tune 70 = .ok (.iload_n 1, 1) := by decide +kernel
theorem dX9_tune_71 : decode cX9_tune 71 = .ok (.iadd, 1) := by decide +kernel
theorem dX9_tune_72 : decode cX9_tune 72 = .ok (.iaload, 1) := by decide +kernel
theorem dX9_tune_73 : decode cX9_tune 73 = .ok (.ireturn, 1) := by decide +kernel
theorem dX9_tune_74 : decode cX9_tune 74 = .ok (.aload_n 0, 1) := by decide +kernel
theorem dX9_tune_75 : decode cX9_tune 75 = .ok (.getfield 88, 3) := by decide +kernel
theorem dX9_tune_78 : decode cX9_tune 78 = .ok (.iconst 0, 1) := by decide +kernel
theorem dX9_tune_79 : decode cX9_tune 79 = .ok (.iload_n 1, 1) := by decide +kernel
theorem dX9_tune_80 : decode cX9_tune 80 = .ok (.iadd, 1) := by decide +kernel
theorem dX9_tune_81 : decode cX9_tune 81 = .ok (.iaload, 1) := by decide +kernel
theorem dX9_tune_82 : decode cX9_tune 82 = .ok (.ireturn, 1) := by decide +kernel
theorem dX9_tune_83 : decode cX9_tune 83 = .ok (.aload_n 0, 1) := by decide +kernel
theorem dX9_tune_84 : decode cX9_tune 84 = .ok (.getfield 88, 3) := by decide +kernel
theorem dX9_tune_87 : decode cX9_tune 87 = .ok (.iconst 5, 1) := by decide +kernel
theorem dX9_tune_88 : decode cX9_tune 88 = .ok (.iload_n 1, 1) := by decide +kernel
theorem dX9_tune_89 : decode cX9_tune 89 = .ok (.iadd, 1) := by decide +kernel
theorem dX9_tune_90 : decode cX9_tune 90 = .ok (.iaload, 1) := by decide +kernel
theorem dX9_tune_91 : decode cX9_tune 91 = .ok (.ireturn, 1) := by decide +kernel
theorem dX9_tune_92 : decode cX9_tune 92 = .ok (.aload_n 0, 1) := by decide +kernel
theorem dX9_tune_93 : decode cX9_tune 93 = .ok (.getfield 88, 3) := by decide +kernel
theorem dX9_tune_96 : decode cX9_tune 96 = .ok (.bipush 15, 2) := by decide +kernel
theorem dX9_tune_98 : decode cX9_tune 98 = .ok (.iload_n 1, 1) := by decide +kernel
theorem dX9_tune_99 : decode cX9_tune 99 = .ok (.iadd, 1) := by decide +kernel
theorem dX9_tune_100 : decode cX9_tune 100 = .ok (.iaload, 1) := by decide +kernel
theorem dX9_tune_101 : decode cX9_tune 101 = .ok (.ireturn, 1) := by decide +kernel
theorem dX9_tune_102 : decode cX9_tune 102 = .ok (.bipush (-2), 2) := by decide +kernel
theorem dX9_tune_104 : decode cX9_tune 104 = .ok (.ireturn, 1) := by decide +kernel
theorem dX9_turnOf_0 : decode cX9_turnOf 0 = .ok (.aload_n 0, 1) := by decide +kernel
theorem dX9_turnOf_1 : decode cX9_turnOf 1 = .ok (.iload_n 2, 1) := by decide +kernel
theorem dX9_turnOf_2 : decode cX9_turnOf 2 = .ok (.aload_n 0, 1) := by decide +kernel
theorem dX9_turnOf_3 : decode cX9_turnOf 3 = .ok (.iload_n 1, 1) := by decide +kernel
theorem dX9_turnOf_4 : decode cX9_turnOf 4 = .ok (.iconst 0, 1) := by decide +kernel
theorem dX9_turnOf_5 : decode cX9_turnOf 5 = .ok (.invokevirtual 386, 3) := by decide +kernel
theorem dX9_turnOf_8 : decode cX9_turnOf 8 = .ok (.aload_n 0, 1) := by decide +kernel
theorem dX9_turnOf_9 : decode cX9_turnOf 9 = .ok (.iload_n 1, 1) := by decide +kernel
theorem dX9_turnOf_10 : decode cX9_turnOf 10 = .ok (.iconst 1, 1) := by decide +kernel
theorem dX9_turnOf_11 : decode cX9_turnOf 11 = .ok (.invokevirtual 386, 3) := by decide +kernel
theorem dX9_turnOf_14 : decode cX9_turnOf 14 = .ok (.aload_n 0, 1) := by decide +kernel
theorem dX9_turnOf_15 : decode cX9_turnOf 15 = .ok (.iload_n 1, 1) := by decide +kernel
theorem dX9_turnOf_16 : decode cX9_turnOf 16 = .ok (.iconst 2, 1) := by decide +kernel
theorem dX9_turnOf_17 : decode cX9_turnOf 17 = .ok (.invokevirtual 386, 3) := by decide +kernel
theorem dX9_turnOf_20 : decode cX9_turnOf 20 = .ok (.invokevirtual 389, 3) := by decide +kernel
theorem dX9_turnOf_23 : decode cX9_turnOf 23 = .ok (.ifCond .eq 7, 3) := by decide +kernel
theorem dX9_turnOf_26 : decode cX9_turnOf 26 = .ok (.iconst 1, 1) := by decide +kernel
theorem dX9_turnOf_27 : decode cX9_turnOf 27 = .ok (.goto 4, 3) := by decide +kernel
theorem dX9_turnOf_30 : decode cX9_turnOf 30 = .ok (.iconst 0, 1) := by decide +kernel
theorem dX9_turnOf_31 : decode cX9_turnOf 31 = .ok (.ireturn, 1) := by decide +kernel
theorem dX9_two_0 : decode cX9_two 0 = .ok (.iload_n 0, 1) := by decide +kernel
theorem dX9_two_1 : decode cX9_two 1 = .ok (.tableswitch 202 37 62 #[143, 188, 202, 202, 202, 127, 119, 202, 123, 202, 131, 202, 202, 202, 202, 202, 202, 202, 202, 202, 202, 202, 202, 155, 177, 166], 119) := by decide +kernel
theorem dX9_two_120 : decode cX9_two 120 = .ok (.iload_n 1, 1) := by decide +kernel
theorem dX9_two_121 : decode cX9_two 121 = .ok (.iload_n 2, 1) := by decide +kernel
theorem dX9_two_122 : decode cX9_two 122 = .ok (.iadd, 1) := by decide +kernel
theorem dX9_two_123 : decode cX9_two 123 = .ok (.ireturn, 1) := by decide +kernel
theorem dX9_two_124 : decode cX9_two 124 = .ok (.iload_n 1, 1) := by decide +kernel
theorem dX9_two_125 : decode cX9_two 125 = .ok (.iload_n 2, 1) := by decide +kernel
theorem dX9_two_126 : decode cX9_two 126 = .ok (.isub, 1) := by decide +kernel
theorem dX9_two_127 : decode cX9_two 127 = .ok (.ireturn, 1) := by decide +kernel
theorem dX9_two_128 : decode cX9_two 128 = .ok (.iload_n 1, 1) := by decide +kernel
theorem dX9_two_129 : decode cX9_two 129 = .ok (.iload_n 2, 1) := by decide +kernel
theorem dX9_two_130 : decode cX9_two 130 = .ok (.imul, 1) := by decide +kernel
theorem dX9_two_131 : decode cX9_two 131 = .ok (.ireturn, 1) := by decide +kernel
theorem dX9_two_132 : decode cX9_two 132 = .ok (.iload_n 2, 1) := by decide +kernel
theorem dX9_two_133 : decode cX9_two 133 = .ok (.ifCond .ne 7, 3) := by decide +kernel
theorem dX9_two_136 : decode cX9_two 136 = .ok (.iconst 0, 1) := by decide +kernel
theorem dX9_two_137 : decode cX9_two 137 = .ok (.goto 6, 3) := by decide +kernel
theorem dX9_two_140 : decode cX9_two 140 = .ok (.iload_n 1, 1) := by decide +kernel
theorem dX9_two_141 : decode cX9_two 141 = .ok (.iload_n 2, 1) := by decide +kernel
theorem dX9_two_142 : decode cX9_two 142 = .ok (.idiv, 1) := by decide +kernel
theorem dX9_two_143 : decode cX9_two 143 = .ok (.ireturn, 1) := by decide +kernel
theorem dX9_two_144 : decode cX9_two 144 = .ok (.iload_n 2, 1) := by decide +kernel
theorem dX9_two_145 : decode cX9_two 145 = .ok (.ifCond .ne 7, 3) := by decide +kernel
theorem dX9_two_148 : decode cX9_two 148 = .ok (.iconst 0, 1) := by decide +kernel
theorem dX9_two_149 : decode cX9_two 149 = .ok (.goto 6, 3) := by decide +kernel
theorem dX9_two_152 : decode cX9_two 152 = .ok (.iload_n 1, 1) := by decide +kernel
theorem dX9_two_153 : decode cX9_two 153 = .ok (.iload_n 2, 1) := by decide +kernel
theorem dX9_two_154 : decode cX9_two 154 = .ok (.irem, 1) := by decide +kernel
theorem dX9_two_155 : decode cX9_two 155 = .ok (.ireturn, 1) := by decide +kernel
theorem dX9_two_156 : decode cX9_two 156 = .ok (.iload_n 1, 1) := by decide +kernel
theorem dX9_two_157 : decode cX9_two 157 = .ok (.iload_n 2, 1) := by decide +kernel
theorem dX9_two_158 : decode cX9_two 158 = .ok (.if_icmp .ge 7, 3) := by decide +kernel
theorem dX9_two_161 : decode cX9_two 161 = .ok (.iconst 1, 1) := by decide +kernel
theorem dX9_two_162 : decode cX9_two 162 = .ok (.goto 4, 3) := by decide +kernel
theorem dX9_two_165 : decode cX9_two 165 = .ok (.iconst 0, 1) := by decide +kernel
theorem dX9_two_166 : decode cX9_two 166 = .ok (.ireturn, 1) := by decide +kernel
theorem dX9_two_167 : decode cX9_two 167 = .ok (.iload_n 1, 1) := by decide +kernel
theorem dX9_two_168 : decode cX9_two 168 = .ok (.iload_n 2, 1) := by decide +kernel
theorem dX9_two_169 : decode cX9_two 169 = .ok (.if_icmp .le 7, 3) := by decide +kernel
theorem dX9_two_172 : decode cX9_two 172 = .ok (.iconst 1, 1) := by decide +kernel
theorem dX9_two_173 : decode cX9_two 173 = .ok (.goto 4, 3) := by decide +kernel
theorem dX9_two_176 : decode cX9_two 176 = .ok (.iconst 0, 1) := by decide +kernel
theorem dX9_two_177 : decode cX9_two 177 = .ok (.ireturn, 1) := by decide +kernel
theorem dX9_two_178 : decode cX9_two 178 = .ok (.iload_n 1, 1) := by decide +kernel
theorem dX9_two_179 : decode cX9_two 179 = .ok (.iload_n 2, 1) := by decide +kernel
theorem dX9_two_180 : decode cX9_two 180 = .ok (.if_icmp .ne 7, 3) := by decide +kernel
theorem dX9_two_183 : decode cX9_two 183 = .ok (.iconst 1, 1) := by decide +kernel
theorem dX9_two_184 : decode cX9_two 184 = .ok (.goto 4, 3) := by decide +kernel
theorem dX9_two_187 : decode cX9_two 187 = .ok (.iconst 0, 1) := by decide +kernel
theorem dX9_two_188 : decode cX9_two 188 = .ok (.ireturn, 1) := by decide +kernel
theorem dX9_two_189 : decode cX9_two 189 = .ok (.iload_n 1, 1) := by decide +kernel
theorem dX9_two_190 : decode cX9_two 190 = .ok (.ifCond .eq 11, 3) := by decide +kernel
theorem dX9_two_193 : decode cX9_two 193 = .ok (.iload_n 2, 1) := by decide +kernel
theorem dX9_two_194 : decode cX9_two 194 = .ok (.ifCond .eq 7, 3) := by decide +kernel
theorem dX9_two_197 : decode cX9_two 197 = .ok (.iconst 1, 1) := by decide +kernel
theorem dX9_two_198 : decode cX9_two 198 = .ok (.goto 4, 3) := by decide +kernel
theorem dX9_two_201 : decode cX9_two 201 = .ok (.iconst 0, 1) := by decide +kernel
theorem dX9_two_202 : decode cX9_two 202 = .ok (.ireturn, 1) := by decide +kernel
theorem dX9_two_203 : decode cX9_two 203 = .ok (.iload_n 1, 1) := by decide +kernel
theorem dX9_two_204 : decode cX9_two 204 = .ok (.ifCond .ne 7, 3) := by decide +kernel
theorem dX9_two_207 : decode cX9_two 207 = .ok (.iload_n 2, 1) := by decide +kernel
theorem dX9_two_208 : decode cX9_two 208 = .ok (.ifCond .eq 7, 3) := by decide +kernel
theorem dX9_two_211 : decode cX9_two 211 = .ok (.iconst 1, 1) := by decide +kernel
theorem dX9_two_212 : decode cX9_two 212 = .ok (.goto 4, 3) := by decide +kernel
theorem dX9_two_215 : decode cX9_two 215 = .ok (.iconst 0, 1) := by decide +kernel
theorem dX9_two_216 : decode cX9_two 216 = .ok (.ireturn, 1) := by decide +kernel
theorem dX9_undo_0 : decode cX9_undo 0 = .ok (.aload_n 0, 1) := by decide +kernel
theorem dX9_undo_1 : decode cX9_undo 1 = .ok (.getfield 364, 3) := by decide +kernel
theorem dX9_undo_4 : decode cX9_undo 4 = .ok (.ifCond .ne 5, 3) := by decide +kernel
theorem dX9_undo_7 : decode cX9_undo 7 = .ok (.iconst 0, 1) := by decide +kernel
theorem dX9_undo_8 : decode cX9_undo 8 = .ok (.ireturn, 1) := by decide +kernel
theorem dX9_undo_9 : decode cX9_undo 9 = .ok (.aload_n 0, 1) := by decide +kernel
theorem dX9_undo_10 : decode cX9_undo 10 = .ok (.dup, 1) := by decide +kernel
theorem dX9_undo_11 : decode cX9_undo 11 = .ok (.getfield 364, 3) := by decide +kernel
theorem dX9_undo_14 : decode cX9_undo 14 = .ok (.iconst 1, 1) := by decide +kernel
theorem dX9_undo_15 : decode cX9_undo 15 = .ok (.isub, 1) := by decide +kernel
theorem dX9_undo_16 : decode cX9_undo 16 = .ok (.putfield 364, 3) := by decide +kernel
theorem dX9_undo_19 : decode cX9_undo 19 = .ok (.aload_n 0, 1) := by decide +kernel
theorem dX9_undo_20 : decode cX9_undo 20 = .ok (.dup, 1) := by decide +kernel
theorem dX9_undo_21 : decode cX9_undo 21 = .ok (.getfield 367, 3) := by decide +kernel
theorem dX9_undo_24 : decode cX9_undo 24 = .ok (.iconst 1, 1) := by decide +kernel
theorem dX9_undo_25 : decode cX9_undo 25 = .ok (.iadd, 1) := by decide +kernel
theorem dX9_undo_26 : decode cX9_undo 26 = .ok (.putfield 367, 3) := by decide +kernel
theorem dX9_undo_29 : decode cX9_undo 29 = .ok (.aload_n 0, 1) := by decide +kernel
theorem dX9_undo_30 : decode cX9_undo 30 = .ok (.invokevirtual 453, 3) := by decide +kernel
theorem dX9_undo_33 : decode cX9_undo 33 = .ok (.iconst 1, 1) := by decide +kernel
theorem dX9_undo_34 : decode cX9_undo 34 = .ok (.ireturn, 1) := by decide +kernel
theorem dX9_unit_0 : decode cX9_unit 0 = .ok (.aload_n 0, 1) := by decide +kernel
theorem dX9_unit_1 : decode cX9_unit 1 = .ok (.getfield 79, 3) := by decide +kernel
theorem dX9_unit_4 : decode cX9_unit 4 = .ok (.aload_n 0, 1) := by decide +kernel
theorem dX9_unit_5 : decode cX9_unit 5 = .ok (.getfield 296, 3) := by decide +kernel
theorem dX9_unit_8 : decode cX9_unit 8 = .ok (.iconst 1, 1) := by decide +kernel
theorem dX9_unit_9 : decode cX9_unit 9 = .ok (.isub, 1) := by decide +kernel
theorem dX9_unit_10 : decode cX9_unit 10 = .ok (.iaload, 1) := by decide +kernel
theorem dX9_unit_11 : decode cX9_unit 11 = .ok (.iconst 3, 1) := by decide +kernel
theorem dX9_unit_12 : decode cX9_unit 12 = .ok (.if_icmp .le 19, 3) := by decide +kernel
theorem dX9_unit_15 : decode cX9_unit 15 = .ok (.aload_n 0, 1) := by decide +kernel
theorem dX9_unit_16 : decode cX9_unit 16 = .ok (.getfield 79, 3) := by decide +kernel
theorem dX9_unit_19 : decode cX9_unit 19 = .ok (.aload_n 0, 1) := by decide +kernel
theorem dX9_unit_20 : decode cX9_unit 20 = .ok (.getfield 296, 3) := by decide +kernel
theorem dX9_unit_23 : decode cX9_unit 23 = .ok (.iconst 1, 1) := by decide +kernel
theorem dX9_unit_24 : decode cX9_unit 24 = .ok (.isub, 1) := by decide +kernel
theorem dX9_unit_25 : decode cX9_unit 25 = .ok (.iaload, 1) := by decide +kernel
theorem dX9_unit_26 : decode cX9_unit 26 = .ok (.bipush 7, 2) := by decide +kernel
theorem dX9_unit_28 : decode cX9_unit 28 = .ok (.if_icmp .lt 7, 3) := by decide +kernel
theorem dX9_unit_31 : decode cX9_unit 31 = .ok (.iconst 1, 1) := by decide +kernel
theorem dX9_unit_32 : decode cX9_unit 32 = .ok (.goto 4, 3) := by decide +kernel
theorem dX9_unit_35 : decode cX9_unit 35 = .ok (.iconst 0, 1) := by decide +kernel
theorem dX9_unit_36 : decode cX9_unit 36 = .ok (.istore_n 1, 1) := by decide +kernel
theorem dX9_unit_37 : decode cX9_unit 37 = .ok (.iload_n 1, 1) := by decide +kernel
theorem dX9_unit_38 : decode cX9_unit 38 = .ok (.ifCond .eq 17, 3) := by decide +kernel
theorem dX9_unit_41 : decode cX9_unit 41 = .ok (.aload_n 0, 1) := by decide +kernel
theorem dX9_unit_42 : decode cX9_unit 42 = .ok (.ldc2_w 179, 3) := by decide +kernel
theorem dX9_unit_45 : decode cX9_unit 45 = .ok (.invokevirtual 229, 3) := by decide +kernel
theorem dX9_unit_48 : decode cX9_unit 48 = .ok (.ifCond .eq 7, 3) := by decide +kernel
theorem dX9_unit_51 : decode cX9_unit 51 = .ok (.iconst 1, 1) := by decide +kernel
theorem dX9_unit_52 : decode cX9_unit 52 = .ok (.goto 4, 3) := by decide +kernel
theorem dX9_unit_55 : decode cX9_unit 55 = .ok (.iconst 0, 1) := by decide +kernel
theorem dX9_unit_56 : decode cX9_unit 56 = .ok (.istore_n 2, 1) := by decide +kernel
theorem dX9_unit_57 : decode cX9_unit 57 = .ok (.aload_n 0, 1) := by decide +kernel
theorem dX9_unit_58 : decode cX9_unit 58 = .ok (.bipush 40, 2) := by decide +kernel
theorem dX9_unit_60 : decode cX9_unit 60 = .ok (.invokevirtual 275, 3) := by decide +kernel
theorem dX9_unit_63 : decode cX9_unit 63 = .ok (.istore_n 3, 1) := by decide +kernel
theorem dX9_unit_64 : decode cX9_unit 64 = .ok (.aload_n 0, 1) := by decide +kernel
theorem dX9_unit_65 : decode cX9_unit 65 = .ok (.invokevirtual 311, 3) := by decide +kernel
theorem dX9_unit_68 : decode cX9_unit 68 = .ok (.istore 4, 2) := by decide +kernel
theorem dX9_unit_70 : decode cX9_unit 70 = .ok (.aload_n 0, 1) := by decide +kernel
theorem dX9_unit_71 : decode cX9_unit 71 = .ok (.getfield 30, 3) := by decide +kernel
theorem dX9_unit_74 : decode cX9_unit 74 = .ok (.aload_n 0, 1) := by decide +kernel
theorem dX9_unit_75 : decode cX9_unit 75 = .ok (.getfield 240, 3) := by decide +kernel
theorem dX9_unit_78 : decode cX9_unit 78 = .ok (.iaload, 1) := by decide +kernel
theorem dX9_unit_79 : decode cX9_unit 79 = .ok (.bipush 60, 2) := by decide +kernel
theorem dX9_unit_81 : decode cX9_unit 81 = .ok (.if_icmp .eq 12, 3) := by decide +kernel
theorem dX9_unit_84 : decode cX9_unit 84 = .ok (.aload_n 0, 1) := by decide +kernel
theorem dX9_unit_85 : decode cX9_unit 85 = .ok (.getfield 290, 3) := by decide +kernel
theorem dX9_unit_88 : decode cX9_unit 88 = .ok (.bipush 30, 2) := by decide +kernel
theorem dX9_unit_90 : decode cX9_unit 90 = .ok (.if_icmp .ne 7, 3) := by decide +kernel
theorem dX9_unit_93 : decode cX9_unit 93 = .ok (.iconst 1, 1) := by decide +kernel
theorem dX9_unit_94 : decode cX9_unit 94 = .ok (.goto 4, 3) := by decide +kernel
theorem dX9_unit_97 : decode cX9_unit 97 = .ok (.iconst 0, 1) := by decide +kernel
theorem dX9_unit_98 : decode cX9_unit 98 = .ok (.istore 5, 2) := by decide +kernel
theorem dX9_unit_100 : decode cX9_unit 100 = .ok (.iload_n 2, 1) := by decide +kernel
theorem dX9_unit_101 : decode cX9_unit 101 = .ok (.ifCond .ne 25, 3) := by decide +kernel
theorem dX9_unit_104 : decode cX9_unit 104 = .ok (.iload 4, 2) := by decide +kernel
theorem dX9_unit_106 : decode cX9_unit 106 = .ok (.ifCond .ne 15, 3) := by decide +kernel
theorem dX9_unit_109 : decode cX9_unit 109 = .ok (.aload_n 0, 1) := by decide +kernel
theorem dX9_unit_110 : decode cX9_unit 110 = .ok (.getfield 191, 3) := by decide +kernel
theorem dX9_unit_113 : decode cX9_unit 113 = .ok (.iconst 4, 1) := by decide +kernel
theorem dX9_unit_114 : decode cX9_unit 114 = .ok (.if_icmp .eq 7, 3) := by decide +kernel
theorem dX9_unit_117 : decode cX9_unit 117 = .ok (.iload_n 3, 1) := by decide +kernel
theorem dX9_unit_118 : decode cX9_unit 118 = .ok (.ifCond .eq 25, 3) := by decide +kernel
theorem dX9_unit_121 : decode cX9_unit 121 = .ok (.iload 5, 2) := by decide +kernel
theorem dX9_unit_123 : decode cX9_unit 123 = .ok (.ifCond .ne 20, 3) := by decide +kernel
theorem dX9_unit_126 : decode cX9_unit 126 = .ok (.iload_n 2, 1) := by decide +kernel
theorem dX9_unit_127 : decode cX9_unit 127 = .ok (.ifCond .ne 7, 3) := by decide +kernel
theorem dX9_unit_130 : decode cX9_unit 130 = .ok (.iload_n 3, 1) := by decide +kernel
theorem dX9_unit_131 : decode cX9_unit 131 = .ok (.ifCond .eq 16, 3) := by decide +kernel
theorem dX9_unit_134 : decode cX9_unit 134 = .ok (.aload_n 0, 1) := by decide +kernel
theorem dX9_unit_135 : decode cX9_unit 135 = .ok (.getfield 299, 3) := by decide +kernel
theorem dX9_unit_138 : decode cX9_unit 138 = .ok (.bipush 7, 2) := by decide +kernel
theorem dX9_unit_140 : decode cX9_unit 140 = .ok (.if_icmp .ne 7, 3) := by decide +kernel
theorem dX9_unit_143 : decode cX9_unit 143 = .ok (.aload_n 0, 1) := by decide +kernel
theorem dX9_unit_144 : decode cX9_unit 144 = .ok (.invokevirtual 226, 3) := by decide +kernel
theorem dX9_unit_147 : decode cX9_unit 147 = .ok (.aload_n 0, 1) := by decide +kernel
theorem dX9_unit_148 : decode cX9_unit 148 = .ok (.invokevirtual 219, 3) := by decide +kernel
theorem dX9_unit_151 : decode cX9_unit 151 = .ok (.ifCond .ne 5, 3) := by decide +kernel
theorem dX9_unit_154 : decode cX9_unit 154 = .ok (.iconst 1, 1) := by decide +kernel
theorem dX9_unit_155 : decode cX9_unit 155 = .ok (.ireturn, 1) := by decide +kernel
theorem dX9_unit_156 : decode cX9_unit 156 = .ok (.aload_n 0, 1) := by decide +kernel
theorem dX9_unit_157 : decode cX9_unit 157 = .ok (.getfield 30, 3) := by decide +kernel
theorem dX9_unit_160 : decode cX9_unit 160 = .ok (.aload_n 0, 1) := by decide +kernel
theorem dX9_unit_161 : decode cX9_unit 161 = .ok (.getfield 240, 3) := by decide +kernel
theorem dX9_unit_164 : decode cX9_unit 164 = .ok (.dup2, 1) := by decide +kernel
theorem dX9_unit_165 : decode cX9_unit 165 = .ok (.iaload, 1) := by decide +kernel
theorem dX9_unit_166 : decode cX9_unit 166 = .ok (.iload_n 2, 1) := by decide +kernel
theorem dX9_unit_167 : decode cX9_unit 167 = .ok (.ifCond .eq 7, 3) := by decide +kernel
theorem dX9_unit_170 : decode cX9_unit 170 = .ok (.iconst 0, 1) := by decide +kernel
theorem dX9_unit_171 : decode cX9_unit 171 = .ok (.goto 4, 3) := by decide +kernel
theorem dX9_unit_174 : decode cX9_unit 174 = .ok (.iconst 1, 1) := by decide +kernel
theorem dX9_unit_175 : decode cX9_unit 175 = .ok (.iadd, 1) := by decide +kernel
theorem dX9_unit_176 : decode cX9_unit 176 = .ok (.iastore, 1) := by decide +kernel
theorem dX9_unit_177 : decode cX9_unit 177 = .ok (.aload_n 0, 1) := by decide +kernel
theorem dX9_unit_178 : decode cX9_unit 178 = .ok (.dup, 1) := by decide +kernel
theorem dX9_unit_179 : decode cX9_unit 179 = .ok (.getfield 290, 3) := by decide +kernel
theorem dX9_unit_182 : decode cX9_unit 182 = .ok (.iload_n 2, 1) := by decide +kernel
theorem dX9_unit_183 : decode cX9_unit 183 = .ok (.ifCond .eq 7, 3) := by decide +kernel
theorem dX9_unit_186 : decode cX9_unit 186 = .ok (.iconst 0, 1) := by decide +kernel
theorem dX9_unit_187 : decode cX9_unit 187 = .ok (.goto 4, 3) := by decide +kernel
theorem dX9_unit_190 : decode cX9_unit 190 = .ok (.iconst 1, 1) := by decide +kernel
theorem dX9_unit_191 : decode cX9_unit 191 = .ok (.iadd, 1) := by decide +kernel
theorem dX9_unit_192 : decode cX9_unit 192 = .ok (.putfield 290, 3) := by decide +kernel
theorem dX9_unit_195 : decode cX9_unit 195 = .ok (.iload 4, 2) := by decide +kernel
theorem dX9_unit_197 : decode cX9_unit 197 = .ok (.ifCond .ne 10, 3) := by decide +kernel
theorem dX9_unit_200 : decode cX9_unit 200 = .ok (.aload_n 0, 1) := by decide +kernel
theorem dX9_unit_201 : decode cX9_unit 201 = .ok (.getfield 209, 3) := by decide +kernel
theorem dX9_unit_204 : decode cX9_unit 204 = .ok (.goto 4, 3) := by decide +kernel
theorem dX9_unit_207 : decode cX9_unit 207 = .ok (.iconst 0, 1) := by decide +kernel
theorem dX9_unit_208 : decode cX9_unit 208 = .ok (.istore 6, 2) := by decide +kernel
theorem dX9_unit_210 : decode cX9_unit 210 = .ok (.aload_n 0, 1) := by decide +kernel
theorem dX9_unit_211 : decode cX9_unit 211 = .ok (.invokevirtual 223, 3) := by decide +kernel
theorem dX9_unit_214 : decode cX9_unit 214 = .ok (.iload_n 2, 1) := by decide +kernel
theorem dX9_unit_215 : decode cX9_unit 215 = .ok (.ifCond .ne 7, 3) := by decide +kernel
theorem dX9_unit_218 : decode cX9_unit 218 = .ok (.iload_n 3, 1) := by decide +kernel
theorem dX9_unit_219 : decode cX9_unit 219 = .ok (.ifCond .eq 31, 3) := by decide +kernel
theorem dX9_unit_222 : decode cX9_unit 222 = .ok (.aload_n 0, 1) := by decide +kernel
theorem dX9_unit_223 : decode cX9_unit 223 = .ok (.iload_n 2, 1) := by decide +kernel
theorem dX9_unit_224 : decode cX9_unit 224 = .ok (.ifCond .eq 7, 3) := by decide +kernel
theorem dX9_unit_227 : decode cX9_unit 227 = .ok (.iconst 3, 1) := by decide +kernel
theorem dX9_unit_228 : decode cX9_unit 228 = .ok (.goto 5, 3) := by decide +kernel
theorem dX9_unit_231 : decode cX9_unit 231 = .ok (.bipush 7, 2) := by decide +kernel
theorem dX9_unit_233 : decode cX9_unit 233 = .ok (.bipush 126, 2) := by decide +kernel
theorem dX9_unit_235 : decode cX9_unit 235 = .ok (.invokevirtual 302, 3) := by decide +kernel
theorem dX9_unit_238 : decode cX9_unit 238 = .ok (.aload_n 0, 1) := by decide +kernel
theorem dX9_unit_239 : decode cX9_unit 239 = .ok (.dup, 1) := by decide +kernel
theorem dX9_unit_240 : decode cX9_unit 240 = .ok (.getfield 299, 3) := by decide +kernel
theorem dX9_unit_243 : decode cX9_unit 243 = .ok (.iconst 1, 1) := by decide +kernel
theorem dX9_unit_244 : decode cX9_unit 244 = .ok (.iadd, 1) := by decide +kernel
theorem dX9_unit_245 : decode cX9_unit 245 = .ok (.putfield 299, 3) := by decide +kernel
theorem dX9_unit_248 : decode cX9_unit 248 = .ok (.iconst 1, 1) := by decide +kernel
theorem dX9_unit_249 : decode cX9_unit 249 = .ok (.ireturn, 1) := by decide +kernel
theorem dX9_unit_250 : decode cX9_unit 250 = .ok (.aload_n 0, 1) := by decide +kernel
theorem dX9_unit_251 : decode cX9_unit 251 = .ok (.iload 4, 2) := by decide +kernel
theorem dX9_unit_253 : decode cX9_unit 253 = .ok (.ifCond .ne 8, 3) := by decide +kernel
theorem dX9_unit_256 : decode cX9_unit 256 = .ok (.bipush 110, 2) := by decide +kernel
theorem dX9_unit_258 : decode cX9_unit 258 = .ok (.goto 5, 3) := by decide +kernel
theorem dX9_unit_261 : decode cX9_unit 261 = .ok (.iload 4, 2) := by decide +kernel
theorem dX9_unit_263 : decode cX9_unit 263 = .ok (.iload 6, 2) := by decide +kernel
theorem dX9_unit_265 : decode cX9_unit 265 = .ok (.invokevirtual 315, 3) := by decide +kernel
theorem dX9_unit_268 : decode cX9_unit 268 = .ok (.iconst 0, 1) := by decide +kernel
theorem dX9_unit_269 : decode cX9_unit 269 = .ok (.ireturn, 1) := by decide +kernel
theorem dX9_untell_0 : decode cX9_untell 0 = .ok (.iload_n 1, 1) := by decide +kernel
theorem dX9_untell_1 : decode cX9_untell 1 = .ok (.iconst 0, 1) := by decide +kernel
theorem dX9_untell_2 : decode cX9_untell 2 = .ok (.aload_n 0, 1) := by decide +kernel
theorem dX9_untell_3 : decode cX9_untell 3 = .ok (.getfield 370, 3) := by decide +kernel
theorem dX9_untell_6 : decode cX9_untell 6 = .ok (.iconst 1, 1) := by decide +kernel
theorem dX9_untell_7 : decode cX9_untell 7 = .ok (.isub, 1) := by decide +kernel
theorem dX9_untell_8 : decode cX9_untell 8 = .ok (.invokestatic 354, 3) := by decide +kernel
theorem dX9_untell_11 : decode cX9_untell 11 = .ok (.ifCond .eq 12, 3) := by decide +kernel
theorem dX9_untell_14 : decode cX9_untell 14 = .ok (.aload_n 0, 1) := by decide +kernel
theorem dX9_untell_15 : decode cX9_untell 15 = .ok (.getfield 115, 3) := by decide +kernel
theorem dX9_untell_18 : decode cX9_untell 18 = .ok (.iload_n 1, 1) := by decide +kernel
theorem dX9_untell_19 : decode cX9_untell 19 = .ok (.iaload, 1) := by decide +kernel
theorem dX9_untell_20 : decode cX9_untell 20 = .ok (.ifCond .lt 5, 3) := by decide +kernel
theorem dX9_untell_23 : decode cX9_untell 23 = .ok (.iconst 0, 1) := by decide +kernel
theorem dX9_untell_24 : decode cX9_untell 24 = .ok (.ireturn, 1) := by decide +kernel
theorem dX9_untell_25 : decode cX9_untell 25 = .ok (.aload_n 0, 1) := by decide +kernel
theorem dX9_untell_26 : decode cX9_untell 26 = .ok (.getfield 115, 3) := by decide +kernel
theorem dX9_untell_29 : decode cX9_untell 29 = .ok (.iload_n 1, 1) := by decide +kernel
theorem dX9_untell_30 : decode cX9_untell 30 = .ok (.aload_n 0, 1) := by decide +kernel
theorem dX9_untell_31 : decode cX9_untell 31 = .ok (.getfield 492, 3) := by decide +kernel
theorem dX9_untell_34 : decode cX9_untell 34 = .ok (.iastore, 1) := by decide +kernel
theorem dX9_untell_35 : decode cX9_untell 35 = .ok (.iconst 1, 1) := by decide +kernel
theorem dX9_untell_36 : decode cX9_untell 36 = .ok (.ireturn, 1) := by decide +kernel
theorem dX9_walk_0 : decode cX9_walk 0 = .ok (.iload_n 1, 1) := by decide +kernel
theorem dX9_walk_1 : decode cX9_walk 1 = .ok (.iconst 0, 1) := by decide +kernel
theorem dX9_walk_2 : decode cX9_walk 2 = .ok (.bipush 99, 2) := by decide +kernel
theorem dX9_walk_4 : decode cX9_walk 4 = .ok (.invokestatic 354, 3) := by decide +kernel
theorem dX9_walk_7 : decode cX9_walk 7 = .ok (.ifCond .ne 5, 3) := by decide +kernel
theorem dX9_walk_10 : decode cX9_walk 10 = .ok (.iconst (-1), 1) := by decide +kernel
theorem dX9_walk_11 : decode cX9_walk 11 = .ok (.ireturn, 1) := by decide +kernel
theorem dX9_walk_12 : decode cX9_walk 12 = .ok (.iconst 0, 1) := by decide +kernel
theorem dX9_walk_13 : decode cX9_walk 13 = .ok (.istore_n 2, 1) := by decide +kernel
theorem dX9_walk_14 : decode cX9_walk 14 = .ok (.iconst (-1), 1) := by decide +kernel
theorem dX9_walk_15 : decode cX9_walk 15 = .ok (.istore_n 3, 1) := by decide +kernel
theorem dX9_walk_16 : decode cX9_walk 16 = .ok (.iconst 0, 1) := by decide +kernel
theorem dX9_walk_17 : decode cX9_walk 17 = .ok (.istore 4, 2) := by decide +kernel
theorem dX9_walk_19 : decode cX9_walk 19 = .ok (.iload 4, 2) := by decide +kernel
theorem dX9_walk_21 : decode cX9_walk 21 = .ok (.aload_n 0, 1) := by decide +kernel
theorem dX9_walk_22 : decode cX9_walk 22 = .ok (.invokevirtual 358, 3) := by decide +kernel
theorem dX9_walk_25 : decode cX9_walk 25 = .ok (.aload_n 0, 1) := by decide +kernel
theorem dX9_walk_26 : decode cX9_walk 26 = .ok (.invokevirtual 358, 3) := by decide +kernel
theorem dX9_walk_29 : decode cX9_walk 29 = .ok (.invokestatic 462, 3) := by decide +kernel
theorem dX9_walk_32 : decode cX9_walk 32 = .ok (.if_icmp .ge 42, 3) := by decide +kernel
theorem dX9_walk_35 : decode cX9_walk 35 = .ok (.aload_n 0, 1) := by decide +kernel
theorem dX9_walk_36 : decode cX9_walk 36 = .ok (.iload 4, 2) := by decide +kernel
theorem dX9_walk_38 : decode cX9_walk 38 = .ok (.iload_n 1, 1) := by decide +kernel
theorem dX9_walk_39 : decode cX9_walk 39 = .ok (.invokevirtual 474, 3) := by decide +kernel
theorem dX9_walk_42 : decode cX9_walk 42 = .ok (.istore 5, 2) := by decide +kernel
theorem dX9_walk_44 : decode cX9_walk 44 = .ok (.iload 5, 2) := by decide +kernel
theorem dX9_walk_46 : decode cX9_walk 46 = .ok (.ifCond .lt 22, 3) := by decide +kernel
theorem dX9_walk_49 : decode cX9_walk 49 = .ok (.iload_n 3, 1) := by decide +kernel
theorem dX9_walk_50 : decode cX9_walk 50 = .ok (.ifCond .lt 12, 3) := by decide +kernel
theorem dX9_walk_53 : decode cX9_walk 53 = .ok (.iload 5, 2) := by decide +kernel
theorem dX9_walk_55 : decode cX9_walk 55 = .ok (.iload_n 3, 1) := by decide +kernel
theorem dX9_walk_56 : decode cX9_walk 56 = .ok (.if_icmp .lt 6, 3) := by decide +kernel
theorem dX9_walk_59 : decode cX9_walk 59 = .ok (.goto 9, 3) := by decide +kernel
theorem dX9_walk_62 : decode cX9_walk 62 = .ok (.iload 4, 2) := by decide +kernel
theorem dX9_walk_64 : decode cX9_walk 64 = .ok (.istore_n 2, 1) := by decide +kernel
theorem dX9_walk_65 : decode cX9_walk 65 = .ok (.iload 5, 2) := by decide +kernel
theorem dX9_walk_67 : decode cX9_walk 67 = .ok (.istore_n 3, 1) := by decide +kernel
theorem dX9_walk_68 : decode cX9_walk 68 = .ok (.iinc 4 1, 3) := by decide +kernel
theorem dX9_walk_71 : decode cX9_walk 71 = .ok (.goto (-52), 3) := by decide +kernel
theorem dX9_walk_74 : decode cX9_walk 74 = .ok (.aload_n 0, 1) := by decide +kernel
theorem dX9_walk_75 : decode cX9_walk 75 = .ok (.aload_n 0, 1) := by decide +kernel
theorem dX9_walk_76 : decode cX9_walk 76 = .ok (.invokevirtual 358, 3) := by decide +kernel
theorem dX9_walk_79 : decode cX9_walk 79 = .ok (.putfield 373, 3) := by decide +kernel
theorem dX9_walk_82 : decode cX9_walk 82 = .ok (.iconst 0, 1) := by decide +kernel
theorem dX9_walk_83 : decode cX9_walk 83 = .ok (.istore 4, 2) := by decide +kernel
theorem dX9_walk_85 : decode cX9_walk 85 = .ok (.iload 4, 2) := by decide +kernel
theorem dX9_walk_87 : decode cX9_walk 87 = .ok (.aload_n 0, 1) := by decide +kernel
theorem dX9_walk_88 : decode cX9_walk 88 = .ok (.invokevirtual 358, 3) := by decide +kernel
theorem dX9_walk_91 : decode cX9_walk 91 = .ok (.if_icmp .ge 27, 3) := by decide +kernel
theorem dX9_walk_94 : decode cX9_walk 94 = .ok (.aload_n 0, 1) := by decide +kernel
theorem dX9_walk_95 : decode cX9_walk 95 = .ok (.getfield 97, 3) := by decide +kernel
theorem dX9_walk_98 : decode cX9_walk 98 = .ok (.iload 4, 2) := by decide +kernel
theorem dX9_walk_100 : decode cX9_walk 100 = .ok (.aload_n 0, 1) := by decide +kernel
theorem dX9_walk_101 : decode cX9_walk 101 = .ok (.iload_n 2, 1) := by decide +kernel
theorem dX9_walk_102 : decode cX9_walk 102 = .ok (.aload_n 0, 1) := by decide +kernel
theorem dX9_walk_103 : decode cX9_walk 103 = .ok (.invokevirtual 358, 3) := by decide +kernel
theorem dX9_walk_106 : decode cX9_walk 106 = .ok (.iload 4, 2) := by decide +kernel
theorem dX9_walk_108 : decode cX9_walk 108 = .ok (.invokevirtual 465, 3) := by decide +kernel
theorem dX9_walk_111 : decode cX9_walk 111 = .ok (.iastore, 1) := by decide +kernel
theorem dX9_walk_112 : decode cX9_walk 112 = .ok (.iinc 4 1, 3) := by decide +kernel
theorem dX9_walk_115 : decode cX9_walk 115 = .ok (.goto (-30), 3) := by decide +kernel
theorem dX9_walk_118 : decode cX9_walk 118 = .ok (.iload_n 3, 1) := by decide +kernel
theorem dX9_walk_119 : decode cX9_walk 119 = .ok (.ireturn, 1) := by decide +kernel
theorem dX9_wayOf_0 : decode cX9_wayOf 0 = .ok (.iconst 0, 1) := by decide +kernel
theorem dX9_wayOf_1 : decode cX9_wayOf 1 = .ok (.istore_n 3, 1) := by decide +kernel
theorem dX9_wayOf_2 : decode cX9_wayOf 2 = .ok (.iconst 0, 1) := by decide +kernel
theorem dX9_wayOf_3 : decode cX9_wayOf 3 = .ok (.istore 4, 2) := by decide +kernel
theorem dX9_wayOf_5 : decode cX9_wayOf 5 = .ok (.iload_n 2, 1) := by decide +kernel
theorem dX9_wayOf_6 : decode cX9_wayOf 6 = .ok (.istore 5, 2) := by decide +kernel
theorem dX9_wayOf_8 : decode cX9_wayOf 8 = .ok (.iconst 0, 1) := by decide +kernel
theorem dX9_wayOf_9 : decode cX9_wayOf 9 = .ok (.istore 6, 2) := by decide +kernel
theorem dX9_wayOf_11 : decode cX9_wayOf 11 = .ok (.iload 6, 2) := by decide +kernel
theorem dX9_wayOf_13 : decode cX9_wayOf 13 = .ok (.aload_n 0, 1) := by decide +kernel
theorem dX9_wayOf_14 : decode cX9_wayOf 14 = .ok (.invokevirtual 358, 3) := by decide +kernel
theorem dX9_wayOf_17 : decode cX9_wayOf 17 = .ok (.if_icmp .ge 65, 3) := by decide +kernel
theorem dX9_wayOf_20 : decode cX9_wayOf 20 = .ok (.aload_n 0, 1) := by decide +kernel
theorem dX9_wayOf_21 : decode cX9_wayOf 21 = .ok (.iload_n 1, 1) := by decide +kernel
theorem dX9_wayOf_22 : decode cX9_wayOf 22 = .ok (.aload_n 0, 1) := by decide +kernel
theorem dX9_wayOf_23 : decode cX9_wayOf 23 = .ok (.invokevirtual 358, 3) := by decide +kernel
theorem dX9_wayOf_26 : decode cX9_wayOf 26 = .ok (.iload 6, 2) := by decide +kernel
theorem dX9_wayOf_28 : decode cX9_wayOf 28 = .ok (.invokevirtual 465, 3) := by decide +kernel
theorem dX9_wayOf_31 : decode cX9_wayOf 31 = .ok (.istore 7, 2) := by decide +kernel
theorem dX9_wayOf_33 : decode cX9_wayOf 33 = .ok (.iload_n 3, 1) := by decide +kernel
theorem dX9_wayOf_34 : decode cX9_wayOf 34 = .ok (.iload 7, 2) := by decide +kernel
theorem dX9_wayOf_36 : decode cX9_wayOf 36 = .ok (.invokestatic 255, 3) := by decide +kernel
theorem dX9_wayOf_39 : decode cX9_wayOf 39 = .ok (.ifCond .eq 5, 3) := by decide +kernel
theorem dX9_wayOf_42 : decode cX9_wayOf 42 = .ok (.iconst (-1), 1) := by decide +kernel
theorem dX9_wayOf_43 : decode cX9_wayOf 43 = .ok (.ireturn, 1) := by decide +kernel
theorem dX9_wayOf_44 : decode cX9_wayOf 44 = .ok (.iload_n 3, 1) := by decide +kernel
theorem dX9_wayOf_45 : decode cX9_wayOf 45 = .ok (.iconst 1, 1) := by decide +kernel
theorem dX9_wayOf_46 : decode cX9_wayOf 46 = .ok (.iload 7, 2) := by decide +kernel
theorem dX9_wayOf_48 : decode cX9_wayOf 48 = .ok (.ishl, 1) := by decide +kernel
theorem dX9_wayOf_49 : decode cX9_wayOf 49 = .ok (.ior, 1) := by decide +kernel
theorem dX9_wayOf_50 : decode cX9_wayOf 50 = .ok (.istore_n 3, 1) := by decide +kernel
theorem dX9_wayOf_51 : decode cX9_wayOf 51 = .ok (.iload 4, 2) := by decide +kernel
theorem dX9_wayOf_53 : decode cX9_wayOf 53 = .ok (.aload_n 0, 1) := by decide +kernel
theorem dX9_wayOf_54 : decode cX9_wayOf 54 = .ok (.iload 7, 2) := by decide +kernel
theorem dX9_wayOf_56 : decode cX9_wayOf 56 = .ok (.invokevirtual 418, 3) := by decide +kernel
theorem dX9_wayOf_59 : decode cX9_wayOf 59 = .ok (.iload 5, 2) := by decide +kernel
theorem dX9_wayOf_61 : decode cX9_wayOf 61 = .ok (.isub, 1) := by decide +kernel
theorem dX9_wayOf_62 : decode cX9_wayOf 62 = .ok (.invokestatic 471, 3) := by decide +kernel
theorem dX9_wayOf_65 : decode cX9_wayOf 65 = .ok (.iadd, 1) := by decide +kernel

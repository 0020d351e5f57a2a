theorem dX8_spinsters_12 : decode cX8_spinsters 12 = .ok (.iconst 0, 1) := by decide +kernel
theorem dX8_spinsters_13 : decode cX8_spinsters 13 = .ok (.istore_n 2, 1) := by decide +kernel
theorem dX8_spinsters_14 : decode cX8_spinsters 14 = .ok (.iload_n 2, 1) := by decide +kernel
theorem dX8_spinsters_15 : decode cX8_spinsters 15 = .ok (.aload_n 0, 1) := by decide +kernel
theorem dX8_spinsters_16 : decode cX8_spinsters 16 = .ok (.getfield 23, 3) := by decide +kernel
theorem dX8_spinsters_19 : decode cX8_spinsters 19 = .ok (.getfield 99, 3) := by decide +kernel
theorem dX8_spinsters_22 : decode cX8_spinsters 22 = .ok (.if_icmp .ge 19, 3) := by decide +kernel
theorem dX8_spinsters_41 : decode cX8_spinsters 41 = .ok (.iload_n 1, 1) := by decide +kernel
theorem dX8_spinsters_42 : decode cX8_spinsters 42 = .ok (.ireturn, 1) := by decide +kernel
theorem dX8_spread_0 : decode cX8_spread 0 = .ok (.iload_n 1, 1) := by decide +kernel
theorem dX8_spread_1 : decode cX8_spread 1 = .ok (.istore_n 3, 1) := by decide +kernel
theorem dX8_spread_2 : decode cX8_spread 2 = .ok (.aload_n 0, 1) := by decide +kernel
theorem dX8_spread_3 : decode cX8_spread 3 = .ok (.getfield 23, 3) := by decide +kernel
theorem dX8_spread_6 : decode cX8_spread 6 = .ok (.getfield 99, 3) := by decide +kernel
theorem dX8_spread_9 : decode cX8_spread 9 = .ok (.iconst 1, 1) := by decide +kernel
theorem dX8_spread_10 : decode cX8_spread 10 = .ok (.isub, 1) := by decide +kernel
theorem dX8_spread_11 : decode cX8_spread 11 = .ok (.istore 4, 2) := by decide +kernel
theorem dX8_spread_13 : decode cX8_spread 13 = .ok (.iload 4, 2) := by decide +kernel
theorem dX8_spread_15 : decode cX8_spread 15 = .ok (.ifCond .lt 39, 3) := by decide +kernel
theorem dX8_spread_54 : decode cX8_spread 54 = .ok (.return_, 1) := by decide +kernel
theorem dX8_sure_0 : decode cX8_sure 0 = .ok (.iload_n 1, 1) := by decide +kernel
theorem dX8_sure_1 : decode cX8_sure 1 = .ok (.ifCond .lt 23, 3) := by decide +kernel
theorem dX8_sure_4 : decode cX8_sure 4 = .ok (.iload_n 1, 1) := by decide +kernel
theorem dX8_sure_5 : decode cX8_sure 5 = .ok (.iconst 3, 1) := by decide +kernel
theorem dX8_sure_6 : decode cX8_sure 6 = .ok (.if_icmp .ge 18, 3) := by decide +kernel
theorem dX8_sure_9 : decode cX8_sure 9 = .ok (.aload_n 0, 1) := by decide +kernel
theorem dX8_sure_10 : decode cX8_sure 10 = .ok (.getfield 55, 3) := by decide +kernel
theorem dX8_sure_13 : decode cX8_sure 13 = .ok (.aload_n 0, 1) := by decide +kernel
theorem dX8_sure_14 : decode cX8_sure 14 = .ok (.getfield 23, 3) := by decide +kernel
theorem dX8_sure_17 : decode cX8_sure 17 = .ok (.iload_n 2, 1) := by decide +kernel
theorem dX8_sure_18 : decode cX8_sure 18 = .ok (.invokevirtual 332, 3) := by decide +kernel
theorem dX8_sure_21 : decode cX8_sure 21 = .ok (.ifCond .ne 5, 3) := by decide +kernel
theorem dX8_sure_24 : decode cX8_sure 24 = .ok (.iconst (-1), 1) := by decide +kernel
theorem dX8_sure_25 : decode cX8_sure 25 = .ok (.ireturn, 1) := by decide +kernel
theorem dX8_swap_0 : decode cX8_swap 0 = .ok (.iload_n 1, 1) := by decide +kernel
theorem dX8_swap_1 : decode cX8_swap 1 = .ok (.ifCond .lt 8, 3) := by decide +kernel
theorem dX8_swap_4 : decode cX8_swap 4 = .ok (.iload_n 1, 1) := by decide +kernel
theorem dX8_swap_5 : decode cX8_swap 5 = .ok (.iconst 1, 1) := by decide +kernel
theorem dX8_swap_6 : decode cX8_swap 6 = .ok (.if_icmp .le 5, 3) := by decide +kernel
theorem dX8_swap_9 : decode cX8_swap 9 = .ok (.iconst (-1), 1) := by decide +kernel
theorem dX8_swap_10 : decode cX8_swap 10 = .ok (.ireturn, 1) := by decide +kernel
theorem dX8_swap_11 : decode cX8_swap 11 = .ok (.iconst 0, 1) := by decide +kernel
theorem dX8_swap_12 : decode cX8_swap 12 = .ok (.istore_n 2, 1) := by decide +kernel
theorem dX8_swap_13 : decode cX8_swap 13 = .ok (.iload_n 2, 1) := by decide +kernel
theorem dX8_swap_14 : decode cX8_swap 14 = .ok (.aload_n 0, 1) := by decide +kernel
theorem dX8_swap_15 : decode cX8_swap 15 = .ok (.getfield 23, 3) := by decide +kernel
theorem dX8_swap_18 : decode cX8_swap 18 = .ok (.getfield 99, 3) := by decide +kernel
theorem dX8_swap_21 : decode cX8_swap 21 = .ok (.if_icmp .ge 49, 3) := by decide +kernel
theorem dX8_swap_70 : decode cX8_swap 70 = .ok (.iconst (-1), 1) := by decide +kernel
theorem dX8_swap_71 : decode cX8_swap 71 = .ok (.ireturn, 1) := by decide +kernel
theorem dX8_takes_0 : decode cX8_takes 0 = .ok (.aload_n 0, 1) := by decide +kernel
theorem dX8_takes_1 : decode cX8_takes 1 = .ok (.iload_n 1, 1) := by decide +kernel
theorem dX8_takes_2 : decode cX8_takes 2 = .ok (.invokevirtual 138, 3) := by decide +kernel
theorem dX8_takes_5 : decode cX8_takes 5 = .ok (.ifCond .eq 11, 3) := by decide +kernel
theorem dX8_takes_16 : decode cX8_takes 16 = .ok (.iconst (-1), 1) := by decide +kernel
theorem dX8_takes_17 : decode cX8_takes 17 = .ok (.ireturn, 1) := by decide +kernel
theorem dX8_trialIsBarter_0 : decode cX8_trialIsBarter 0 = .ok (.iconst 0, 1) := by decide +kernel
theorem dX8_trialIsBarter_1 : decode cX8_trialIsBarter 1 = .ok (.istore_n 1, 1) := by decide +kernel
theorem dX8_trialIsBarter_2 : decode cX8_trialIsBarter 2 = .ok (.iconst 0, 1) := by decide +kernel
theorem dX8_trialIsBarter_3 : decode cX8_trialIsBarter 3 = .ok (.istore_n 2, 1) := by decide +kernel
theorem dX8_trialIsBarter_4 : decode cX8_trialIsBarter 4 = .ok (.iload_n 2, 1) := by decide +kernel
theorem dX8_trialIsBarter_5 : decode cX8_trialIsBarter 5 = .ok (.aload_n 0, 1) := by decide +kernel
theorem dX8_trialIsBarter_6 : decode cX8_trialIsBarter 6 = .ok (.getfield 23, 3) := by decide +kernel
theorem dX8_trialIsBarter_9 : decode cX8_trialIsBarter 9 = .ok (.getfield 99, 3) := by decide +kernel
theorem dX8_trialIsBarter_12 : decode cX8_trialIsBarter 12 = .ok (.if_icmp .ge 89, 3) := by decide +kernel
theorem dX8_trialIsBarter_101 : decode cX8_trialIsBarter 101 = .ok (.iconst 1, 1) := by decide +kernel
theorem dX8_trialIsBarter_102 : decode cX8_trialIsBarter 102 = .ok (.ireturn, 1) := by decide +kernel
theorem dX8_trialIsOrder_0 : decode cX8_trialIsOrder 0 = .ok (.iconst 0, 1) := by decide +kernel
theorem dX8_trialIsOrder_1 : decode cX8_trialIsOrder 1 = .ok (.istore_n 1, 1) := by decide +kernel
theorem dX8_trialIsOrder_2 : decode cX8_trialIsOrder 2 = .ok (.iconst 0, 1) := by decide +kernel
theorem dX8_trialIsOrder_3 : decode cX8_trialIsOrder 3 = .ok (.istore_n 2, 1) := by decide +kernel
theorem dX8_trialIsOrder_4 : decode cX8_trialIsOrder 4 = .ok (.iload_n 2, 1) := by decide +kernel
theorem dX8_trialIsOrder_5 : decode cX8_trialIsOrder 5 = .ok (.aload_n 0, 1) := by decide +kernel
theorem dX8_trialIsOrder_6 : decode cX8_trialIsOrder 6 = .ok (.getfield 23, 3) := by decide +kernel
theorem dX8_trialIsOrder_9 : decode cX8_trialIsOrder 9 = .ok (.getfield 99, 3) := by decide +kernel
theorem dX8_trialIsOrder_12 : decode cX8_trialIsOrder 12 = .ok (.if_icmp .ge 20, 3) := by decide +kernel
theorem dX8_trialIsOrder_32 : decode cX8_trialIsOrder 32 = .ok (.iload_n 1, 1) := by decide +kernel
theorem dX8_trialIsOrder_33 : decode cX8_trialIsOrder 33 = .ok (.invokestatic 232, 3) := by decide +kernel
theorem dX8_trialIsOrder_36 : decode cX8_trialIsOrder 36 = .ok (.aload_n 0, 1) := by decide +kernel
theorem dX8_trialIsOrder_37 : decode cX8_trialIsOrder 37 = .ok (.getfield 23, 3) := by decide +kernel
theorem dX8_trialIsOrder_40 : decode cX8_trialIsOrder 40 = .ok (.getfield 99, 3) := by decide +kernel
theorem dX8_trialIsOrder_43 : decode cX8_trialIsOrder 43 = .ok (.if_icmp .ne 7, 3) := by decide +kernel
theorem dX8_trialIsOrder_46 : decode cX8_trialIsOrder 46 = .ok (.iconst 1, 1) := by decide +kernel
theorem dX8_trialIsOrder_47 : decode cX8_trialIsOrder 47 = .ok (.goto 4, 3) := by decide +kernel
theorem dX8_trialIsOrder_51 : decode cX8_trialIsOrder 51 = .ok (.ireturn, 1) := by decide +kernel
theorem dX8_tune_0 : decode cX8_tune 0 = .ok (.aload_n 0, 1) := by decide +kernel
theorem dX8_tune_1 : decode cX8_tune 1 = .ok (.iload_n 1, 1) := by decide +kernel
theorem dX8_tune_2 : decode cX8_tune 2 = .ok (.invokevirtual 111, 3) := by decide +kernel
theorem dX8_tune_5 : decode cX8_tune 5 = .ok (.ifCond .ne 6, 3) := by decide +kernel
theorem dX8_tune_8 : decode cX8_tune 8 = .ok (.bipush (-2), 2) := by decide +kernel
theorem dX8_tune_10 : decode cX8_tune 10 = .ok (.ireturn, 1) := by decide +kernel
theorem dX8_tunesWith_0 : decode cX8_tunesWith 0 = .ok (.iconst 0, 1) := by decide +kernel
theorem dX8_tunesWith_1 : decode cX8_tunesWith 1 = .ok (.istore 5, 2) := by decide +kernel
theorem dX8_tunesWith_3 : decode cX8_tunesWith 3 = .ok (.iconst 0, 1) := by decide +kernel
theorem dX8_tunesWith_4 : decode cX8_tunesWith 4 = .ok (.istore 6, 2) := by decide +kernel
theorem dX8_tunesWith_6 : decode cX8_tunesWith 6 = .ok (.iload 6, 2) := by decide +kernel
theorem dX8_tunesWith_8 : decode cX8_tunesWith 8 = .ok (.aload_n 0, 1) := by decide +kernel
theorem dX8_tunesWith_9 : decode cX8_tunesWith 9 = .ok (.getfield 23, 3) := by decide +kernel
theorem dX8_tunesWith_12 : decode cX8_tunesWith 12 = .ok (.getfield 108, 3) := by decide +kernel
theorem dX8_tunesWith_15 : decode cX8_tunesWith 15 = .ok (.if_icmp .ge 73, 3) := by decide +kernel
theorem dX8_tunesWith_88 : decode cX8_tunesWith 88 = .ok (.iload 5, 2) := by decide +kernel
theorem dX8_tunesWith_90 : decode cX8_tunesWith 90 = .ok (.ireturn, 1) := by decide +kernel
theorem dX8_undo_0 : decode cX8_undo 0 = .ok (.aload_n 0, 1) := by decide +kernel
theorem dX8_undo_1 : decode cX8_undo 1 = .ok (.getfield 40, 3) := by decide +kernel
theorem dX8_undo_4 : decode cX8_undo 4 = .ok (.aload_n 0, 1) := by decide +kernel
theorem dX8_undo_5 : decode cX8_undo 5 = .ok (.getfield 30, 3) := by decide +kernel
theorem dX8_undo_8 : decode cX8_undo 8 = .ok (.invokevirtual 205, 3) := by decide +kernel
theorem dX8_undo_11 : decode cX8_undo 11 = .ok (.ireturn, 1) := by decide +kernel
theorem dX8_untell_0 : decode cX8_untell 0 = .ok (.aload_n 0, 1) := by decide +kernel
theorem dX8_untell_1 : decode cX8_untell 1 = .ok (.getfield 55, 3) := by decide +kernel
theorem dX8_untell_4 : decode cX8_untell 4 = .ok (.iload_n 1, 1) := by decide +kernel
theorem dX8_untell_5 : decode cX8_untell 5 = .ok (.aload_n 0, 1) := by decide +kernel
theorem dX8_untell_6 : decode cX8_untell 6 = .ok (.getfield 321, 3) := by decide +kernel
theorem dX8_untell_9 : decode cX8_untell 9 = .ok (.invokevirtual 328, 3) := by decide +kernel
theorem dX8_untell_12 : decode cX8_untell 12 = .ok (.ireturn, 1) := by decide +kernel
theorem dX8_walk_0 : decode cX8_walk 0 = .ok (.iload_n 1, 1) := by decide +kernel
theorem dX8_walk_1 : decode cX8_walk 1 = .ok (.invokestatic 260, 3) := by decide +kernel
theorem dX8_walk_4 : decode cX8_walk 4 = .ok (.ifCond .ne 5, 3) := by decide +kernel
theorem dX8_walk_7 : decode cX8_walk 7 = .ok (.iconst (-1), 1) := by decide +kernel
theorem dX8_walk_8 : decode cX8_walk 8 = .ok (.ireturn, 1) := by decide +kernel
theorem dX8_walk_9 : decode cX8_walk 9 = .ok (.sipush 400, 3) := by decide +kernel
theorem dX8_walk_12 : decode cX8_walk 12 = .ok (.istore_n 2, 1) := by decide +kernel
theorem dX8_walk_13 : decode cX8_walk 13 = .ok (.aload_n 0, 1) := by decide +kernel
theorem dX8_walk_14 : decode cX8_walk 14 = .ok (.aload_n 0, 1) := by decide +kernel
theorem dX8_walk_15 : decode cX8_walk 15 = .ok (.getfield 23, 3) := by decide +kernel
theorem dX8_walk_18 : decode cX8_walk 18 = .ok (.getfield 99, 3) := by decide +kernel
theorem dX8_walk_21 : decode cX8_walk 21 = .ok (.invokevirtual 241, 3) := by decide +kernel
theorem dX8_walk_24 : decode cX8_walk 24 = .ok (.istore_n 3, 1) := by decide +kernel
theorem dX8_walk_25 : decode cX8_walk 25 = .ok (.iconst 0, 1) := by decide +kernel
theorem dX8_walk_26 : decode cX8_walk 26 = .ok (.istore 4, 2) := by decide +kernel
theorem dX8_walk_28 : decode cX8_walk 28 = .ok (.iload 4, 2) := by decide +kernel
theorem dX8_walk_30 : decode cX8_walk 30 = .ok (.iload_n 3, 1) := by decide +kernel
theorem dX8_walk_31 : decode cX8_walk 31 = .ok (.if_icmp .ge 55, 3) := by decide +kernel
theorem dX8_walk_34 : decode cX8_walk 34 = .ok (.aload_n 0, 1) := by decide +kernel
theorem dX8_walk_35 : decode cX8_walk 35 = .ok (.iload 4, 2) := by decide +kernel
theorem dX8_walk_37 : decode cX8_walk 37 = .ok (.aload_n 0, 1) := by decide +kernel
theorem dX8_walk_38 : decode cX8_walk 38 = .ok (.getfield 23, 3) := by decide +kernel
theorem dX8_walk_41 : decode cX8_walk 41 = .ok (.getfield 99, 3) := by decide +kernel
theorem dX8_walk_44 : decode cX8_walk 44 = .ok (.invokevirtual 244, 3) := by decide +kernel
theorem dX8_walk_47 : decode cX8_walk 47 = .ok (.aload_n 0, 1) := by decide +kernel
theorem dX8_walk_48 : decode cX8_walk 48 = .ok (.invokevirtual 263, 3) := by decide +kernel
theorem dX8_walk_51 : decode cX8_walk 51 = .ok (.ifCond .eq 11, 3) := by decide +kernel
theorem dX8_walk_54 : decode cX8_walk 54 = .ok (.aload_n 0, 1) := by decide +kernel
theorem dX8_walk_55 : decode cX8_walk 55 = .ok (.iload_n 1, 1) := by decide +kernel
theorem dX8_walk_56 : decode cX8_walk 56 = .ok (.invokevirtual 267, 3) := by decide +kernel
theorem dX8_walk_59 : decode cX8_walk 59 = .ok (.goto 6, 3) := by decide +kernel
theorem dX8_walk_65 : decode cX8_walk 65 = .ok (.istore 5, 2) := by decide +kernel
theorem dX8_walk_67 : decode cX8_walk 67 = .ok (.iload 5, 2) := by decide +kernel
theorem dX8_walk_69 : decode cX8_walk 69 = .ok (.iload_n 2, 1) := by decide +kernel
theorem dX8_walk_70 : decode cX8_walk 70 = .ok (.if_icmp .ge 10, 3) := by decide +kernel
theorem dX8_walk_73 : decode cX8_walk 73 = .ok (.iload 5, 2) := by decide +kernel
theorem dX8_walk_75 : decode cX8_walk 75 = .ok (.istore_n 2, 1) := by decide +kernel
theorem dX8_walk_76 : decode cX8_walk 76 = .ok (.aload_n 0, 1) := by decide +kernel
theorem dX8_walk_77 : decode cX8_walk 77 = .ok (.invokevirtual 253, 3) := by decide +kernel
theorem dX8_walk_80 : decode cX8_walk 80 = .ok (.iinc 4 1, 3) := by decide +kernel
theorem dX8_walk_83 : decode cX8_walk 83 = .ok (.goto (-55), 3) := by decide +kernel
theorem dX8_walk_86 : decode cX8_walk 86 = .ok (.iload_n 2, 1) := by decide +kernel
theorem dX8_walk_87 : decode cX8_walk 87 = .ok (.ireturn, 1) := by decide +kernel
theorem dX8_wayFrom_0 : decode cX8_wayFrom 0 = .ok (.iconst 0, 1) := by decide +kernel
theorem dX8_wayFrom_1 : decode cX8_wayFrom 1 = .ok (.istore_n 2, 1) := by decide +kernel
theorem dX8_wayFrom_2 : decode cX8_wayFrom 2 = .ok (.iload_n 1, 1) := by decide +kernel
theorem dX8_wayFrom_3 : decode cX8_wayFrom 3 = .ok (.istore_n 3, 1) := by decide +kernel
theorem dX8_wayFrom_4 : decode cX8_wayFrom 4 = .ok (.iconst 0, 1) := by decide +kernel
theorem dX8_wayFrom_5 : decode cX8_wayFrom 5 = .ok (.istore 4, 2) := by decide +kernel
theorem dX8_wayFrom_7 : decode cX8_wayFrom 7 = .ok (.iload 4, 2) := by decide +kernel
theorem dX8_wayFrom_9 : decode cX8_wayFrom 9 = .ok (.aload_n 0, 1) := by decide +kernel
theorem dX8_wayFrom_10 : decode cX8_wayFrom 10 = .ok (.getfield 23, 3) := by decide +kernel
theorem dX8_wayFrom_13 : decode cX8_wayFrom 13 = .ok (.getfield 99, 3) := by decide +kernel
theorem dX8_wayFrom_16 : decode cX8_wayFrom 16 = .ok (.if_icmp .ge 39, 3) := by decide +kernel
theorem dX8_wayFrom_55 : decode cX8_wayFrom 55 = .ok (.iload_n 2, 1) := by decide +kernel
theorem dX8_wayFrom_56 : decode cX8_wayFrom 56 = .ok (.ireturn, 1) := by decide +kernel
theorem dX8_week_0 : decode cX8_week 0 = .ok (.aload_n 0, 1) := by decide +kernel
theorem dX8_week_1 : decode cX8_week 1 = .ok (.getfield 30, 3) := by decide +kernel
theorem dX8_week_4 : decode cX8_week 4 = .ok (.getfield 168, 3) := by decide +kernel
theorem dX8_week_7 : decode cX8_week 7 = .ok (.sipush 999, 3) := by decide +kernel
theorem dX8_week_10 : decode cX8_week 10 = .ok (.if_icmp .lt 5, 3) := by decide +kernel
theorem dX8_week_15 : decode cX8_week 15 = .ok (.aload_n 0, 1) := by decide +kernel
theorem dX8_week_16 : decode cX8_week 16 = .ok (.aload_n 0, 1) := by decide +kernel
theorem dX8_week_17 : decode cX8_week 17 = .ok (.getfield 30, 3) := by decide +kernel
theorem dX8_week_20 : decode cX8_week 20 = .ok (.aload_n 0, 1) := by decide +kernel
theorem dX8_week_21 : decode cX8_week 21 = .ok (.getfield 23, 3) := by decide +kernel
theorem dX8_week_24 : decode cX8_week 24 = .ok (.getfield 171, 3) := by decide +kernel
theorem dX8_week_27 : decode cX8_week 27 = .ok (.invokevirtual 174, 3) := by decide +kernel
theorem dX8_week_30 : decode cX8_week 30 = .ok (.istore_n 1, 1) := by decide +kernel
theorem dX8_week_31 : decode cX8_week 31 = .ok (.aload_n 0, 1) := by decide +kernel
theorem dX8_week_32 : decode cX8_week 32 = .ok (.getfield 40, 3) := by decide +kernel
theorem dX8_week_35 : decode cX8_week 35 = .ok (.aload_n 0, 1) := by decide +kernel
theorem dX8_week_36 : decode cX8_week 36 = .ok (.getfield 30, 3) := by decide +kernel
theorem dX8_week_39 : decode cX8_week 39 = .ok (.invokevirtual 178, 3) := by decide +kernel
theorem dX8_week_42 : decode cX8_week 42 = .ok (.iload_n 1, 1) := by decide +kernel
theorem dX8_week_43 : decode cX8_week 43 = .ok (.ireturn, 1) := by decide +kernel
theorem dX8_will_0 : decode cX8_will 0 = .ok (.aload_n 0, 1) := by decide +kernel
theorem dX8_will_1 : decode cX8_will 1 = .ok (.iload_n 1, 1) := by decide +kernel
theorem dX8_will_2 : decode cX8_will 2 = .ok (.invokevirtual 111, 3) := by decide +kernel
theorem dX8_will_5 : decode cX8_will 5 = .ok (.ifCond .eq 19, 3) := by decide +kernel
theorem dX8_will_24 : decode cX8_will 24 = .ok (.bipush (-2), 2) := by decide +kernel
theorem dX8_will_26 : decode cX8_will 26 = .ok (.ireturn, 1) := by decide +kernel

theorem dX9_layRows_7 : decode cX9_layRows 7 = .ok (.iload_n 2, 1) := by decide +kernel
theorem dX9_layRows_8 : decode cX9_layRows 8 = .ok (.bipush 21, 2) := by decide +kernel
theorem dX9_layRows_10 : decode cX9_layRows 10 = .ok (.if_icmp .ge 16, 3) := by decide +kernel
theorem dX9_layRows_13 : decode cX9_layRows 13 = .ok (.aload_n 0, 1) := by decide +kernel
theorem dX9_layRows_14 : decode cX9_layRows 14 = .ok (.getfield 118, 3) := by decide +kernel
theorem dX9_layRows_17 : decode cX9_layRows 17 = .ok (.iload_n 2, 1) := by decide +kernel
theorem dX9_layRows_18 : decode cX9_layRows 18 = .ok (.iconst 0, 1) := by decide +kernel
theorem dX9_layRows_19 : decode cX9_layRows 19 = .ok (.iastore, 1) := by decide +kernel
theorem dX9_layRows_20 : decode cX9_layRows 20 = .ok (.iinc 2 1, 3) := by decide +kernel
theorem dX9_layRows_23 : decode cX9_layRows 23 = .ok (.goto (-16), 3) := by decide +kernel
theorem dX9_layRows_26 : decode cX9_layRows 26 = .ok (.aload_n 0, 1) := by decide +kernel
theorem dX9_layRows_27 : decode cX9_layRows 27 = .ok (.invokevirtual 358, 3) := by decide +kernel
theorem dX9_layRows_30 : decode cX9_layRows 30 = .ok (.ifCond .ne 4, 3) := by decide +kernel
theorem dX9_layRows_33 : decode cX9_layRows 33 = .ok (.return_, 1) := by decide +kernel
theorem dX9_layTold_0 : decode cX9_layTold 0 = .ok (.iconst 0, 1) := by decide +kernel
theorem dX9_layTold_1 : decode cX9_layTold 1 = .ok (.istore_n 1, 1) := by decide +kernel
theorem dX9_layTold_2 : decode cX9_layTold 2 = .ok (.iload_n 1, 1) := by decide +kernel
theorem dX9_layTold_3 : decode cX9_layTold 3 = .ok (.bipush 26, 2) := by decide +kernel
theorem dX9_layTold_5 : decode cX9_layTold 5 = .ok (.if_icmp .ge 16, 3) := by decide +kernel
theorem dX9_layTold_8 : decode cX9_layTold 8 = .ok (.aload_n 0, 1) := by decide +kernel
theorem dX9_layTold_9 : decode cX9_layTold 9 = .ok (.getfield 88, 3) := by decide +kernel
theorem dX9_layTold_12 : decode cX9_layTold 12 = .ok (.iload_n 1, 1) := by decide +kernel
theorem dX9_layTold_13 : decode cX9_layTold 13 = .ok (.iconst 0, 1) := by decide +kernel
theorem dX9_layTold_14 : decode cX9_layTold 14 = .ok (.iastore, 1) := by decide +kernel
theorem dX9_layTold_15 : decode cX9_layTold 15 = .ok (.iinc 1 1, 3) := by decide +kernel
theorem dX9_layTold_18 : decode cX9_layTold 18 = .ok (.goto (-16), 3) := by decide +kernel
theorem dX9_layTold_21 : decode cX9_layTold 21 = .ok (.iconst 0, 1) := by decide +kernel
theorem dX9_layTold_22 : decode cX9_layTold 22 = .ok (.istore_n 1, 1) := by decide +kernel
theorem dX9_layTold_23 : decode cX9_layTold 23 = .ok (.iload_n 1, 1) := by decide +kernel
theorem dX9_layTold_24 : decode cX9_layTold 24 = .ok (.iconst 5, 1) := by decide +kernel
theorem dX9_layTold_25 : decode cX9_layTold 25 = .ok (.if_icmp .ge 18, 3) := by decide +kernel
theorem dX9_layTold_28 : decode cX9_layTold 28 = .ok (.aload_n 0, 1) := by decide +kernel
theorem dX9_layTold_29 : decode cX9_layTold 29 = .ok (.getfield 88, 3) := by decide +kernel
theorem dX9_layTold_32 : decode cX9_layTold 32 = .ok (.iconst 0, 1) := by decide +kernel
theorem dX9_layTold_33 : decode cX9_layTold 33 = .ok (.iload_n 1, 1) := by decide +kernel
theorem dX9_layTold_34 : decode cX9_layTold 34 = .ok (.iadd, 1) := by decide +kernel
theorem dX9_layTold_35 : decode cX9_layTold 35 = .ok (.iconst (-1), 1) := by decide +kernel
theorem dX9_layTold_36 : decode cX9_layTold 36 = .ok (.iastore, 1) := by decide +kernel
theorem dX9_layTold_37 : decode cX9_layTold 37 = .ok (.iinc 1 1, 3) := by decide +kernel
theorem dX9_layTold_40 : decode cX9_layTold 40 = .ok (.goto (-17), 3) := by decide +kernel
theorem dX9_layTold_43 : decode cX9_layTold 43 = .ok (.iconst 0, 1) := by decide +kernel
theorem dX9_layTold_44 : decode cX9_layTold 44 = .ok (.istore_n 1, 1) := by decide +kernel
theorem dX9_layTold_45 : decode cX9_layTold 45 = .ok (.iload_n 1, 1) := by decide +kernel
theorem dX9_layTold_46 : decode cX9_layTold 46 = .ok (.aload_n 0, 1) := by decide +kernel
theorem dX9_layTold_47 : decode cX9_layTold 47 = .ok (.invokevirtual 358, 3) := by decide +kernel
theorem dX9_layTold_50 : decode cX9_layTold 50 = .ok (.if_icmp .ge 31, 3) := by decide +kernel
theorem dX9_layTold_81 : decode cX9_layTold 81 = .ok (.aload_n 0, 1) := by decide +kernel
theorem dX9_layTold_82 : decode cX9_layTold 82 = .ok (.getfield 88, 3) := by decide +kernel
theorem dX9_layTold_85 : decode cX9_layTold 85 = .ok (.bipush 25, 2) := by decide +kernel
theorem dX9_layTold_87 : decode cX9_layTold 87 = .ok (.aload_n 0, 1) := by decide +kernel
theorem dX9_layTold_88 : decode cX9_layTold 88 = .ok (.getfield 36, 3) := by decide +kernel
theorem dX9_layTold_91 : decode cX9_layTold 91 = .ok (.aload_n 0, 1) := by decide +kernel
theorem dX9_layTold_92 : decode cX9_layTold 92 = .ok (.getfield 249, 3) := by decide +kernel
theorem dX9_layTold_95 : decode cX9_layTold 95 = .ok (.iaload, 1) := by decide +kernel
theorem dX9_layTold_96 : decode cX9_layTold 96 = .ok (.iastore, 1) := by decide +kernel
theorem dX9_layTold_97 : decode cX9_layTold 97 = .ok (.return_, 1) := by decide +kernel
theorem dX9_lies_0 : decode cX9_lies 0 = .ok (.iload_n 1, 1) := by decide +kernel
theorem dX9_lies_1 : decode cX9_lies 1 = .ok (.iconst 0, 1) := by decide +kernel
theorem dX9_lies_2 : decode cX9_lies 2 = .ok (.aload_n 0, 1) := by decide +kernel
theorem dX9_lies_3 : decode cX9_lies 3 = .ok (.getfield 373, 3) := by decide +kernel
theorem dX9_lies_6 : decode cX9_lies 6 = .ok (.iconst 1, 1) := by decide +kernel
theorem dX9_lies_7 : decode cX9_lies 7 = .ok (.isub, 1) := by decide +kernel
theorem dX9_lies_8 : decode cX9_lies 8 = .ok (.invokestatic 354, 3) := by decide +kernel
theorem dX9_lies_11 : decode cX9_lies 11 = .ok (.ifCond .eq 12, 3) := by decide +kernel
theorem dX9_lies_23 : decode cX9_lies 23 = .ok (.bipush (-2), 2) := by decide +kernel
theorem dX9_lies_25 : decode cX9_lies 25 = .ok (.ireturn, 1) := by decide +kernel
theorem dX9_note_0 : decode cX9_note 0 = .ok (.aload_n 0, 1) := by decide +kernel
theorem dX9_note_1 : decode cX9_note 1 = .ok (.iload_n 1, 1) := by decide +kernel
theorem dX9_note_2 : decode cX9_note 2 = .ok (.invokevirtual 412, 3) := by decide +kernel
theorem dX9_note_5 : decode cX9_note 5 = .ok (.ifCond .eq 27, 3) := by decide +kernel
theorem dX9_note_32 : decode cX9_note 32 = .ok (.iconst (-1), 1) := by decide +kernel
theorem dX9_note_33 : decode cX9_note 33 = .ok (.ireturn, 1) := by decide +kernel
theorem dX9_odds_0 : decode cX9_odds 0 = .ok (.iload_n 1, 1) := by decide +kernel
theorem dX9_odds_1 : decode cX9_odds 1 = .ok (.iconst 0, 1) := by decide +kernel
theorem dX9_odds_2 : decode cX9_odds 2 = .ok (.iconst 4, 1) := by decide +kernel
theorem dX9_odds_3 : decode cX9_odds 3 = .ok (.invokestatic 354, 3) := by decide +kernel
theorem dX9_odds_6 : decode cX9_odds 6 = .ok (.ifCond .eq 12, 3) := by decide +kernel
theorem dX9_odds_9 : decode cX9_odds 9 = .ok (.iload_n 2, 1) := by decide +kernel
theorem dX9_odds_10 : decode cX9_odds 10 = .ok (.iconst 0, 1) := by decide +kernel
theorem dX9_odds_11 : decode cX9_odds 11 = .ok (.iconst 1, 1) := by decide +kernel
theorem dX9_odds_12 : decode cX9_odds 12 = .ok (.invokestatic 354, 3) := by decide +kernel
theorem dX9_odds_15 : decode cX9_odds 15 = .ok (.ifCond .ne 5, 3) := by decide +kernel
theorem dX9_odds_18 : decode cX9_odds 18 = .ok (.iconst (-1), 1) := by decide +kernel
theorem dX9_odds_19 : decode cX9_odds 19 = .ok (.ireturn, 1) := by decide +kernel
theorem dX9_odds_20 : decode cX9_odds 20 = .ok (.bipush 100, 2) := by decide +kernel
theorem dX9_odds_22 : decode cX9_odds 22 = .ok (.aload_n 0, 1) := by decide +kernel
theorem dX9_odds_23 : decode cX9_odds 23 = .ok (.getfield 33, 3) := by decide +kernel
theorem dX9_odds_26 : decode cX9_odds 26 = .ok (.aload_n 0, 1) := by decide +kernel
theorem dX9_odds_27 : decode cX9_odds 27 = .ok (.getfield 249, 3) := by decide +kernel
theorem dX9_odds_30 : decode cX9_odds 30 = .ok (.iaload, 1) := by decide +kernel
theorem dX9_odds_31 : decode cX9_odds 31 = .ok (.isub, 1) := by decide +kernel
theorem dX9_odds_32 : decode cX9_odds 32 = .ok (.iload_n 1, 1) := by decide +kernel
theorem dX9_odds_33 : decode cX9_odds 33 = .ok (.invokestatic 462, 3) := by decide +kernel
theorem dX9_odds_36 : decode cX9_odds 36 = .ok (.istore_n 3, 1) := by decide +kernel
theorem dX9_odds_37 : decode cX9_odds 37 = .ok (.bipush 100, 2) := by decide +kernel
theorem dX9_odds_39 : decode cX9_odds 39 = .ok (.iload_n 1, 1) := by decide +kernel
theorem dX9_odds_40 : decode cX9_odds 40 = .ok (.invokestatic 462, 3) := by decide +kernel
theorem dX9_odds_43 : decode cX9_odds 43 = .ok (.istore 4, 2) := by decide +kernel
theorem dX9_odds_45 : decode cX9_odds 45 = .ok (.iload_n 2, 1) := by decide +kernel
theorem dX9_odds_46 : decode cX9_odds 46 = .ok (.ifCond .ne 7, 3) := by decide +kernel
theorem dX9_odds_49 : decode cX9_odds 49 = .ok (.iload_n 3, 1) := by decide +kernel
theorem dX9_odds_50 : decode cX9_odds 50 = .ok (.goto 5, 3) := by decide +kernel
theorem dX9_odds_53 : decode cX9_odds 53 = .ok (.iload 4, 2) := by decide +kernel
theorem dX9_odds_55 : decode cX9_odds 55 = .ok (.iload 4, 2) := by decide +kernel
theorem dX9_odds_57 : decode cX9_odds 57 = .ok (.iload_n 3, 1) := by decide +kernel
theorem dX9_odds_58 : decode cX9_odds 58 = .ok (.invokestatic 489, 3) := by decide +kernel
theorem dX9_odds_61 : decode cX9_odds 61 = .ok (.idiv, 1) := by decide +kernel
theorem dX9_odds_62 : decode cX9_odds 62 = .ok (.ireturn, 1) := by decide +kernel
theorem dX9_paidNow_0 : decode cX9_paidNow 0 = .ok (.iconst 0, 1) := by decide +kernel
theorem dX9_paidNow_1 : decode cX9_paidNow 1 = .ok (.istore_n 1, 1) := by decide +kernel
theorem dX9_paidNow_2 : decode cX9_paidNow 2 = .ok (.iconst 0, 1) := by decide +kernel
theorem dX9_paidNow_3 : decode cX9_paidNow 3 = .ok (.istore_n 2, 1) := by decide +kernel
theorem dX9_paidNow_4 : decode cX9_paidNow 4 = .ok (.iload_n 2, 1) := by decide +kernel
theorem dX9_paidNow_5 : decode cX9_paidNow 5 = .ok (.aload_n 0, 1) := by decide +kernel
theorem dX9_paidNow_6 : decode cX9_paidNow 6 = .ok (.invokevirtual 351, 3) := by decide +kernel
theorem dX9_paidNow_9 : decode cX9_paidNow 9 = .ok (.if_icmp .ge 22, 3) := by decide +kernel
theorem dX9_paidNow_31 : decode cX9_paidNow 31 = .ok (.iload_n 1, 1) := by decide +kernel
theorem dX9_paidNow_32 : decode cX9_paidNow 32 = .ok (.ireturn, 1) := by decide +kernel
theorem dX9_pair_0 : decode cX9_pair 0 = .ok (.aload_n 0, 1) := by decide +kernel
theorem dX9_pair_1 : decode cX9_pair 1 = .ok (.iload_n 1, 1) := by decide +kernel
theorem dX9_pair_2 : decode cX9_pair 2 = .ok (.invokevirtual 412, 3) := by decide +kernel
theorem dX9_pair_5 : decode cX9_pair 5 = .ok (.ifCond .eq 19, 3) := by decide +kernel
theorem dX9_pair_24 : decode cX9_pair 24 = .ok (.ldc_w 427, 3) := by decide +kernel
theorem dX9_pair_27 : decode cX9_pair 27 = .ok (.ireturn, 1) := by decide +kernel
theorem dX9_power_0 : decode cX9_power 0 = .ok (.iconst 1, 1) := by decide +kernel
theorem dX9_power_1 : decode cX9_power 1 = .ok (.istore_n 2, 1) := by decide +kernel
theorem dX9_power_2 : decode cX9_power 2 = .ok (.iconst 0, 1) := by decide +kernel
theorem dX9_power_3 : decode cX9_power 3 = .ok (.istore_n 3, 1) := by decide +kernel
theorem dX9_power_4 : decode cX9_power 4 = .ok (.iload_n 3, 1) := by decide +kernel
theorem dX9_power_5 : decode cX9_power 5 = .ok (.iload_n 1, 1) := by decide +kernel
theorem dX9_power_6 : decode cX9_power 6 = .ok (.if_icmp .ge 13, 3) := by decide +kernel
theorem dX9_power_9 : decode cX9_power 9 = .ok (.iload_n 2, 1) := by decide +kernel
theorem dX9_power_10 : decode cX9_power 10 = .ok (.iload_n 0, 1) := by decide +kernel
theorem dX9_power_11 : decode cX9_power 11 = .ok (.imul, 1) := by decide +kernel
theorem dX9_power_12 : decode cX9_power 12 = .ok (.istore_n 2, 1) := by decide +kernel
theorem dX9_power_13 : decode cX9_power 13 = .ok (.iinc 3 1, 3) := by decide +kernel
theorem dX9_power_16 : decode cX9_power 16 = .ok (.goto (-12), 3) := by decide +kernel
theorem dX9_power_19 : decode cX9_power 19 = .ok (.iload_n 2, 1) := by decide +kernel
theorem dX9_power_20 : decode cX9_power 20 = .ok (.ireturn, 1) := by decide +kernel
theorem dX9_purse_0 : decode cX9_purse 0 = .ok (.aload_n 0, 1) := by decide +kernel
theorem dX9_purse_1 : decode cX9_purse 1 = .ok (.iload_n 1, 1) := by decide +kernel
theorem dX9_purse_2 : decode cX9_purse 2 = .ok (.invokevirtual 415, 3) := by decide +kernel
theorem dX9_purse_5 : decode cX9_purse 5 = .ok (.ifCond .eq 13, 3) := by decide +kernel
theorem dX9_purse_18 : decode cX9_purse 18 = .ok (.iconst (-1), 1) := by decide +kernel
theorem dX9_purse_19 : decode cX9_purse 19 = .ok (.ireturn, 1) := by decide +kernel
theorem dX9_redo_0 : decode cX9_redo 0 = .ok (.aload_n 0, 1) := by decide +kernel
theorem dX9_redo_1 : decode cX9_redo 1 = .ok (.getfield 367, 3) := by decide +kernel
theorem dX9_redo_4 : decode cX9_redo 4 = .ok (.ifCond .ne 5, 3) := by decide +kernel
theorem dX9_redo_7 : decode cX9_redo 7 = .ok (.iconst 0, 1) := by decide +kernel
theorem dX9_redo_8 : decode cX9_redo 8 = .ok (.ireturn, 1) := by decide +kernel
theorem dX9_restore_0 : decode cX9_restore 0 = .ok (.iload_n 1, 1) := by decide +kernel
theorem dX9_restore_1 : decode cX9_restore 1 = .ok (.iconst 0, 1) := by decide +kernel
theorem dX9_restore_2 : decode cX9_restore 2 = .ok (.iconst 2, 1) := by decide +kernel
theorem dX9_restore_3 : decode cX9_restore 3 = .ok (.invokestatic 354, 3) := by decide +kernel
theorem dX9_restore_6 : decode cX9_restore 6 = .ok (.ifCond .eq 12, 3) := by decide +kernel
theorem dX9_restore_9 : decode cX9_restore 9 = .ok (.aload_n 0, 1) := by decide +kernel
theorem dX9_restore_10 : decode cX9_restore 10 = .ok (.getfield 128, 3) := by decide +kernel
theorem dX9_restore_13 : decode cX9_restore 13 = .ok (.iload_n 1, 1) := by decide +kernel
theorem dX9_restore_14 : decode cX9_restore 14 = .ok (.baload, 1) := by decide +kernel
theorem dX9_restore_15 : decode cX9_restore 15 = .ok (.ifCond .ne 5, 3) := by decide +kernel
theorem dX9_restore_18 : decode cX9_restore 18 = .ok (.iconst (-1), 1) := by decide +kernel
theorem dX9_restore_19 : decode cX9_restore 19 = .ok (.ireturn, 1) := by decide +kernel
theorem dX9_rivals_0 : decode cX9_rivals 0 = .ok (.aload_n 0, 1) := by decide +kernel
theorem dX9_rivals_1 : decode cX9_rivals 1 = .ok (.iconst 0, 1) := by decide +kernel
theorem dX9_rivals_2 : decode cX9_rivals 2 = .ok (.putfield 373, 3) := by decide +kernel
theorem dX9_rivals_5 : decode cX9_rivals 5 = .ok (.iconst 0, 1) := by decide +kernel
theorem dX9_rivals_6 : decode cX9_rivals 6 = .ok (.istore_n 3, 1) := by decide +kernel
theorem dX9_rivals_7 : decode cX9_rivals 7 = .ok (.iconst 0, 1) := by decide +kernel
theorem dX9_rivals_8 : decode cX9_rivals 8 = .ok (.istore 4, 2) := by decide +kernel
theorem dX9_rivals_10 : decode cX9_rivals 10 = .ok (.iload 4, 2) := by decide +kernel
theorem dX9_rivals_12 : decode cX9_rivals 12 = .ok (.aload_n 0, 1) := by decide +kernel
theorem dX9_rivals_13 : decode cX9_rivals 13 = .ok (.invokevirtual 351, 3) := by decide +kernel
theorem dX9_rivals_16 : decode cX9_rivals 16 = .ok (.if_icmp .ge 26, 3) := by decide +kernel
theorem dX9_rivals_42 : decode cX9_rivals 42 = .ok (.aload_n 0, 1) := by decide +kernel
theorem dX9_rivals_43 : decode cX9_rivals 43 = .ok (.iload_n 1, 1) := by decide +kernel
theorem dX9_rivals_44 : decode cX9_rivals 44 = .ok (.invokevirtual 415, 3) := by decide +kernel
theorem dX9_rivals_47 : decode cX9_rivals 47 = .ok (.ifCond .eq 20, 3) := by decide +kernel
theorem dX9_rivals_67 : decode cX9_rivals 67 = .ok (.iconst (-1), 1) := by decide +kernel
theorem dX9_rivals_68 : decode cX9_rivals 68 = .ok (.ireturn, 1) := by decide +kernel
theorem dX9_round_0 : decode cX9_round 0 = .ok (.iload_n 1, 1) := by decide +kernel
theorem dX9_round_1 : decode cX9_round 1 = .ok (.iconst 0, 1) := by decide +kernel
theorem dX9_round_2 : decode cX9_round 2 = .ok (.iconst 1, 1) := by decide +kernel
theorem dX9_round_3 : decode cX9_round 3 = .ok (.invokestatic 354, 3) := by decide +kernel
theorem dX9_round_6 : decode cX9_round 6 = .ok (.ifCond .ne 5, 3) := by decide +kernel
theorem dX9_round_9 : decode cX9_round 9 = .ok (.iconst (-1), 1) := by decide +kernel
theorem dX9_round_10 : decode cX9_round 10 = .ok (.ireturn, 1) := by decide +kernel
theorem dX9_round_11 : decode cX9_round 11 = .ok (.iconst (-1), 1) := by decide +kernel
theorem dX9_round_12 : decode cX9_round 12 = .ok (.istore_n 2, 1) := by decide +kernel
theorem dX9_round_13 : decode cX9_round 13 = .ok (.iconst (-1), 1) := by decide +kernel
theorem dX9_round_14 : decode cX9_round 14 = .ok (.istore_n 3, 1) := by decide +kernel
theorem dX9_round_15 : decode cX9_round 15 = .ok (.iconst 0, 1) := by decide +kernel
theorem dX9_round_16 : decode cX9_round 16 = .ok (.istore 4, 2) := by decide +kernel
theorem dX9_round_18 : decode cX9_round 18 = .ok (.iload 4, 2) := by decide +kernel
theorem dX9_round_20 : decode cX9_round 20 = .ok (.aload_n 0, 1) := by decide +kernel
theorem dX9_round_21 : decode cX9_round 21 = .ok (.invokevirtual 351, 3) := by decide +kernel
theorem dX9_round_24 : decode cX9_round 24 = .ok (.iconst 1, 1) := by decide +kernel
theorem dX9_round_25 : decode cX9_round 25 = .ok (.iadd, 1) := by decide +kernel
theorem dX9_round_26 : decode cX9_round 26 = .ok (.aload_n 0, 1) := by decide +kernel
theorem dX9_round_27 : decode cX9_round 27 = .ok (.invokevirtual 358, 3) := by decide +kernel
theorem dX9_round_30 : decode cX9_round 30 = .ok (.invokestatic 462, 3) := by decide +kernel
theorem dX9_round_33 : decode cX9_round 33 = .ok (.if_icmp .ge 109, 3) := by decide +kernel
theorem dX9_round_36 : decode cX9_round 36 = .ok (.aload_n 0, 1) := by decide +kernel
theorem dX9_round_37 : decode cX9_round 37 = .ok (.iload 4, 2) := by decide +kernel
theorem dX9_round_39 : decode cX9_round 39 = .ok (.invokevirtual 468, 3) := by decide +kernel
theorem dX9_round_42 : decode cX9_round 42 = .ok (.ifCond .ne 6, 3) := by decide +kernel
theorem dX9_round_48 : decode cX9_round 48 = .ok (.iconst 0, 1) := by decide +kernel
theorem dX9_round_49 : decode cX9_round 49 = .ok (.istore 5, 2) := by decide +kernel
theorem dX9_round_51 : decode cX9_round 51 = .ok (.iconst 0, 1) := by decide +kernel
theorem dX9_round_52 : decode cX9_round 52 = .ok (.istore 6, 2) := by decide +kernel
theorem dX9_round_54 : decode cX9_round 54 = .ok (.iload 6, 2) := by decide +kernel
theorem dX9_round_56 : decode cX9_round 56 = .ok (.aload_n 0, 1) := by decide +kernel
theorem dX9_round_57 : decode cX9_round 57 = .ok (.invokevirtual 358, 3) := by decide +kernel
theorem dX9_round_60 : decode cX9_round 60 = .ok (.if_icmp .ge 61, 3) := by decide +kernel
theorem dX9_round_121 : decode cX9_round 121 = .ok (.iload 5, 2) := by decide +kernel
theorem dX9_round_123 : decode cX9_round 123 = .ok (.iload_n 3, 1) := by decide +kernel
theorem dX9_round_124 : decode cX9_round 124 = .ok (.if_icmp .gt 6, 3) := by decide +kernel
theorem dX9_round_130 : decode cX9_round 130 = .ok (.iload 4, 2) := by decide +kernel
theorem dX9_round_132 : decode cX9_round 132 = .ok (.istore_n 2, 1) := by decide +kernel
theorem dX9_round_133 : decode cX9_round 133 = .ok (.iload 5, 2) := by decide +kernel
theorem dX9_round_135 : decode cX9_round 135 = .ok (.istore_n 3, 1) := by decide +kernel
theorem dX9_round_136 : decode cX9_round 136 = .ok (.iinc 4 1, 3) := by decide +kernel
theorem dX9_round_139 : decode cX9_round 139 = .ok (.goto (-121), 3) := by decide +kernel
theorem dX9_round_142 : decode cX9_round 142 = .ok (.aload_n 0, 1) := by decide +kernel
theorem dX9_round_143 : decode cX9_round 143 = .ok (.aload_n 0, 1) := by decide +kernel
theorem dX9_round_144 : decode cX9_round 144 = .ok (.invokevirtual 358, 3) := by decide +kernel
theorem dX9_round_147 : decode cX9_round 147 = .ok (.putfield 373, 3) := by decide +kernel
theorem dX9_round_150 : decode cX9_round 150 = .ok (.iconst 0, 1) := by decide +kernel
theorem dX9_round_151 : decode cX9_round 151 = .ok (.istore 4, 2) := by decide +kernel
theorem dX9_round_153 : decode cX9_round 153 = .ok (.iload 4, 2) := by decide +kernel
theorem dX9_round_155 : decode cX9_round 155 = .ok (.aload_n 0, 1) := by decide +kernel
theorem dX9_round_156 : decode cX9_round 156 = .ok (.invokevirtual 358, 3) := by decide +kernel
theorem dX9_round_159 : decode cX9_round 159 = .ok (.if_icmp .ge 53, 3) := by decide +kernel
theorem dX9_round_212 : decode cX9_round 212 = .ok (.iload_n 1, 1) := by decide +kernel
theorem dX9_round_213 : decode cX9_round 213 = .ok (.ifCond .ne 11, 3) := by decide +kernel
theorem dX9_round_216 : decode cX9_round 216 = .ok (.iload_n 3, 1) := by decide +kernel
theorem dX9_round_217 : decode cX9_round 217 = .ok (.sipush 1000, 3) := by decide +kernel
theorem dX9_round_220 : decode cX9_round 220 = .ok (.idiv, 1) := by decide +kernel
theorem dX9_round_221 : decode cX9_round 221 = .ok (.goto 8, 3) := by decide +kernel
theorem dX9_round_224 : decode cX9_round 224 = .ok (.iload_n 3, 1) := by decide +kernel
theorem dX9_round_225 : decode cX9_round 225 = .ok (.sipush 1000, 3) := by decide +kernel
theorem dX9_round_228 : decode cX9_round 228 = .ok (.irem, 1) := by decide +kernel
theorem dX9_round_229 : decode cX9_round 229 = .ok (.ireturn, 1) := by decide +kernel
theorem dX9_rows_0 : decode cX9_rows 0 = .ok (.aload_n 0, 1) := by decide +kernel
theorem dX9_rows_1 : decode cX9_rows 1 = .ok (.iload_n 1, 1) := by decide +kernel
theorem dX9_rows_2 : decode cX9_rows 2 = .ok (.invokevirtual 508, 3) := by decide +kernel
theorem dX9_rows_5 : decode cX9_rows 5 = .ok (.aload_n 0, 1) := by decide +kernel
theorem dX9_rows_6 : decode cX9_rows 6 = .ok (.getfield 499, 3) := by decide +kernel
theorem dX9_rows_9 : decode cX9_rows 9 = .ok (.ireturn, 1) := by decide +kernel
theorem dX9_sale_0 : decode cX9_sale 0 = .ok (.aload_n 0, 1) := by decide +kernel
theorem dX9_sale_1 : decode cX9_sale 1 = .ok (.iload_n 1, 1) := by decide +kernel
theorem dX9_sale_2 : decode cX9_sale 2 = .ok (.invokevirtual 415, 3) := by decide +kernel
theorem dX9_sale_5 : decode cX9_sale 5 = .ok (.ifCond .eq 12, 3) := by decide +kernel
theorem dX9_sale_17 : decode cX9_sale 17 = .ok (.iconst (-1), 1) := by decide +kernel
theorem dX9_sale_18 : decode cX9_sale 18 = .ok (.ireturn, 1) := by decide +kernel
theorem dX9_sign_0 : decode cX9_sign 0 = .ok (.iload_n 1, 1) := by decide +kernel
theorem dX9_sign_1 : decode cX9_sign 1 = .ok (.aload_n 0, 1) := by decide +kernel
theorem dX9_sign_2 : decode cX9_sign 2 = .ok (.getfield 137, 3) := by decide +kernel
theorem dX9_sign_5 : decode cX9_sign 5 = .ok (.if_icmp .ge 16, 3) := by decide +kernel
theorem dX9_sign_21 : decode cX9_sign 21 = .ok (.iconst 0, 1) := by decide +kernel
theorem dX9_sign_22 : decode cX9_sign 22 = .ok (.ireturn, 1) := by decide +kernel
theorem dX9_songs_0 : decode cX9_songs 0 = .ok (.aload_n 0, 1) := by decide +kernel
theorem dX9_songs_1 : decode cX9_songs 1 = .ok (.getfield 24, 3) := by decide +kernel
theorem dX9_songs_4 : decode cX9_songs 4 = .ok (.aload_n 0, 1) := by decide +kernel
theorem dX9_songs_5 : decode cX9_songs 5 = .ok (.getfield 249, 3) := by decide +kernel
theorem dX9_songs_8 : decode cX9_songs 8 = .ok (.iaload, 1) := by decide +kernel
theorem dX9_songs_9 : decode cX9_songs 9 = .ok (.ireturn, 1) := by decide +kernel
theorem dX9_spinsters_0 : decode cX9_spinsters 0 = .ok (.iconst 0, 1) := by decide +kernel
theorem dX9_spinsters_1 : decode cX9_spinsters 1 = .ok (.istore_n 1, 1) := by decide +kernel
theorem dX9_spinsters_2 : decode cX9_spinsters 2 = .ok (.iconst 0, 1) := by decide +kernel
theorem dX9_spinsters_3 : decode cX9_spinsters 3 = .ok (.istore_n 2, 1) := by decide +kernel
theorem dX9_spinsters_4 : decode cX9_spinsters 4 = .ok (.iload_n 2, 1) := by decide +kernel
theorem dX9_spinsters_5 : decode cX9_spinsters 5 = .ok (.aload_n 0, 1) := by decide +kernel
theorem dX9_spinsters_6 : decode cX9_spinsters 6 = .ok (.invokevirtual 351, 3) := by decide +kernel
theorem dX9_spinsters_9 : decode cX9_spinsters 9 = .ok (.if_icmp .ge 23, 3) := by decide +kernel
theorem dX9_spinsters_32 : decode cX9_spinsters 32 = .ok (.iload_n 1, 1) := by decide +kernel
theorem dX9_spinsters_33 : decode cX9_spinsters 33 = .ok (.ireturn, 1) := by decide +kernel
theorem dX9_startAnew_0 : decode cX9_startAnew 0 = .ok (.aload_n 0, 1) := by decide +kernel
theorem dX9_startAnew_1 : decode cX9_startAnew 1 = .ok (.invokevirtual 361, 3) := by decide +kernel
theorem dX9_startAnew_4 : decode cX9_startAnew 4 = .ok (.aload_n 0, 1) := by decide +kernel
theorem dX9_startAnew_5 : decode cX9_startAnew 5 = .ok (.iconst 0, 1) := by decide +kernel
theorem dX9_startAnew_6 : decode cX9_startAnew 6 = .ok (.putfield 364, 3) := by decide +kernel
theorem dX9_startAnew_9 : decode cX9_startAnew 9 = .ok (.aload_n 0, 1) := by decide +kernel
theorem dX9_startAnew_10 : decode cX9_startAnew 10 = .ok (.iconst 0, 1) := by decide +kernel
theorem dX9_startAnew_11 : decode cX9_startAnew 11 = .ok (.putfield 367, 3) := by decide +kernel
theorem dX9_startAnew_14 : decode cX9_startAnew 14 = .ok (.aload_n 0, 1) := by decide +kernel
theorem dX9_startAnew_15 : decode cX9_startAnew 15 = .ok (.iconst 0, 1) := by decide +kernel
theorem dX9_startAnew_16 : decode cX9_startAnew 16 = .ok (.putfield 370, 3) := by decide +kernel
theorem dX9_startAnew_19 : decode cX9_startAnew 19 = .ok (.aload_n 0, 1) := by decide +kernel
theorem dX9_startAnew_20 : decode cX9_startAnew 20 = .ok (.iconst 0, 1) := by decide +kernel
theorem dX9_startAnew_21 : decode cX9_startAnew 21 = .ok (.putfield 373, 3) := by decide +kernel
theorem dX9_startAnew_24 : decode cX9_startAnew 24 = .ok (.iconst 0, 1) := by decide +kernel
theorem dX9_startAnew_25 : decode cX9_startAnew 25 = .ok (.istore_n 1, 1) := by decide +kernel
theorem dX9_startAnew_26 : decode cX9_startAnew 26 = .ok (.iload_n 1, 1) := by decide +kernel
theorem dX9_startAnew_27 : decode cX9_startAnew 27 = .ok (.iconst 3, 1) := by decide +kernel
theorem dX9_startAnew_28 : decode cX9_startAnew 28 = .ok (.if_icmp .ge 16, 3) := by decide +kernel
theorem dX9_startAnew_31 : decode cX9_startAnew 31 = .ok (.aload_n 0, 1) := by decide +kernel
theorem dX9_startAnew_32 : decode cX9_startAnew 32 = .ok (.getfield 128, 3) := by decide +kernel
theorem dX9_startAnew_35 : decode cX9_startAnew 35 = .ok (.iload_n 1, 1) := by decide +kernel
theorem dX9_startAnew_36 : decode cX9_startAnew 36 = .ok (.iconst 0, 1) := by decide +kernel
theorem dX9_startAnew_37 : decode cX9_startAnew 37 = .ok (.bastore, 1) := by decide +kernel
theorem dX9_startAnew_38 : decode cX9_startAnew 38 = .ok (.iinc 1 1, 3) := by decide +kernel
theorem dX9_startAnew_41 : decode cX9_startAnew 41 = .ok (.goto (-15), 3) := by decide +kernel
theorem dX9_startAnew_44 : decode cX9_startAnew 44 = .ok (.return_, 1) := by decide +kernel
theorem dX9_sure_0 : decode cX9_sure 0 = .ok (.aload_n 0, 1) := by decide +kernel
theorem dX9_sure_1 : decode cX9_sure 1 = .ok (.iload_n 2, 1) := by decide +kernel
theorem dX9_sure_2 : decode cX9_sure 2 = .ok (.invokevirtual 508, 3) := by decide +kernel
theorem dX9_sure_5 : decode cX9_sure 5 = .ok (.iload_n 1, 1) := by decide +kernel
theorem dX9_sure_6 : decode cX9_sure 6 = .ok (.iconst 0, 1) := by decide +kernel
theorem dX9_sure_7 : decode cX9_sure 7 = .ok (.iconst 2, 1) := by decide +kernel
theorem dX9_sure_8 : decode cX9_sure 8 = .ok (.invokestatic 354, 3) := by decide +kernel
theorem dX9_sure_11 : decode cX9_sure 11 = .ok (.ifCond .eq 10, 3) := by decide +kernel
theorem dX9_sure_14 : decode cX9_sure 14 = .ok (.aload_n 0, 1) := by decide +kernel
theorem dX9_sure_15 : decode cX9_sure 15 = .ok (.getfield 499, 3) := by decide +kernel
theorem dX9_sure_18 : decode cX9_sure 18 = .ok (.ifCond .ne 5, 3) := by decide +kernel
theorem dX9_sure_21 : decode cX9_sure 21 = .ok (.iconst (-1), 1) := by decide +kernel
theorem dX9_sure_22 : decode cX9_sure 22 = .ok (.ireturn, 1) := by decide +kernel
theorem dX9_swap_0 : decode cX9_swap 0 = .ok (.iload_n 1, 1) := by decide +kernel
theorem dX9_swap_1 : decode cX9_swap 1 = .ok (.iconst 0, 1) := by decide +kernel
theorem dX9_swap_2 : decode cX9_swap 2 = .ok (.iconst 1, 1) := by decide +kernel
theorem dX9_swap_3 : decode cX9_swap 3 = .ok (.invokestatic 354, 3) := by decide +kernel
theorem dX9_swap_6 : decode cX9_swap 6 = .ok (.ifCond .ne 5, 3) := by decide +kernel
theorem dX9_swap_9 : decode cX9_swap 9 = .ok (.iconst (-1), 1) := by decide +kernel
theorem dX9_swap_10 : decode cX9_swap 10 = .ok (.ireturn, 1) := by decide +kernel
theorem dX9_swap_11 : decode cX9_swap 11 = .ok (.iconst 0, 1) := by decide +kernel
theorem dX9_swap_12 : decode cX9_swap 12 = .ok (.istore_n 2, 1) := by decide +kernel
theorem dX9_swap_13 : decode cX9_swap 13 = .ok (.iload_n 2, 1) := by decide +kernel
theorem dX9_swap_14 : decode cX9_swap 14 = .ok (.bipush 16, 2) := by decide +kernel
theorem dX9_swap_16 : decode cX9_swap 16 = .ok (.if_icmp .ge 114, 3) := by decide +kernel
theorem dX9_swap_19 : decode cX9_swap 19 = .ok (.iload_n 2, 1) := by decide +kernel
theorem dX9_swap_20 : decode cX9_swap 20 = .ok (.iconst 4, 1) := by decide +kernel
theorem dX9_swap_21 : decode cX9_swap 21 = .ok (.idiv, 1) := by decide +kernel
theorem dX9_swap_22 : decode cX9_swap 22 = .ok (.istore_n 3, 1) := by decide +kernel
theorem dX9_swap_23 : decode cX9_swap 23 = .ok (.iload_n 2, 1) := by decide +kernel
theorem dX9_swap_24 : decode cX9_swap 24 = .ok (.iconst 4, 1) := by decide +kernel
theorem dX9_swap_25 : decode cX9_swap 25 = .ok (.irem, 1) := by decide +kernel
theorem dX9_swap_26 : decode cX9_swap 26 = .ok (.istore 4, 2) := by decide +kernel
theorem dX9_swap_28 : decode cX9_swap 28 = .ok (.iload_n 3, 1) := by decide +kernel
theorem dX9_swap_29 : decode cX9_swap 29 = .ok (.iload 4, 2) := by decide +kernel
theorem dX9_swap_31 : decode cX9_swap 31 = .ok (.if_icmp .ge 93, 3) := by decide +kernel
theorem dX9_swap_34 : decode cX9_swap 34 = .ok (.aload_n 0, 1) := by decide +kernel
theorem dX9_swap_35 : decode cX9_swap 35 = .ok (.iload 4, 2) := by decide +kernel
theorem dX9_swap_37 : decode cX9_swap 37 = .ok (.invokevirtual 415, 3) := by decide +kernel
theorem dX9_swap_40 : decode cX9_swap 40 = .ok (.ifCond .eq 84, 3) := by decide +kernel
theorem dX9_swap_124 : decode cX9_swap 124 = .ok (.iinc 2 1, 3) := by decide +kernel
theorem dX9_swap_127 : decode cX9_swap 127 = .ok (.goto (-114), 3) := by decide +kernel
theorem dX9_swap_130 : decode cX9_swap 130 = .ok (.iconst (-1), 1) := by decide +kernel
theorem dX9_swap_131 : decode cX9_swap 131 = .ok (.ireturn, 1) := by decide +kernel
theorem dX9_takes_0 : decode cX9_takes 0 = .ok (.aload_n 0, 1) := by decide +kernel
theorem dX9_takes_1 : decode cX9_takes 1 = .ok (.iload_n 1, 1) := by decide +kernel
theorem dX9_takes_2 : decode cX9_takes 2 = .ok (.invokevirtual 415, 3) := by decide +kernel
theorem dX9_takes_5 : decode cX9_takes 5 = .ok (.ifCond .eq 11, 3) := by decide +kernel
theorem dX9_takes_16 : decode cX9_takes 16 = .ok (.iconst (-1), 1) := by decide +kernel
theorem dX9_takes_17 : decode cX9_takes 17 = .ok (.ireturn, 1) := by decide +kernel
theorem dX9_tune_0 : decode cX9_tune 0 = .ok (.aload_n 0, 1) := by decide +kernel
theorem dX9_tune_1 : decode cX9_tune 1 = .ok (.iload_n 1, 1) := by decide +kernel
theorem dX9_tune_2 : decode cX9_tune 2 = .ok (.invokevirtual 412, 3) := by decide +kernel
theorem dX9_tune_5 : decode cX9_tune 5 = .ok (.ifCond .ne 6, 3) := by decide +kernel
theorem dX9_tune_8 : decode cX9_tune 8 = .ok (.bipush (-2), 2) := by decide +kernel
theorem dX9_tune_10 : decode cX9_tune 10 = .ok (.ireturn, 1) := by decide +kernel
theorem dX9_undo_0 : decode cX9_undo 0 = .ok (.aload_n 0, 1) := by decide +kernel
theorem dX9_undo_1 : decode cX9_undo 1 = .ok (.getfield 364, 3) := by decide +kernel
theorem dX9_undo_4 : decode cX9_undo 4 = .ok (.ifCond .ne 5, 3) := by decide +kernel
theorem dX9_undo_7 : decode cX9_undo 7 = .ok (.iconst 0, 1) := by decide +kernel
theorem dX9_undo_8 : decode cX9_undo 8 = .ok (.ireturn, 1) := by decide +kernel
theorem dX9_untell_0 : decode cX9_untell 0 = .ok (.iload_n 1, 1) := by decide +kernel
theorem dX9_untell_1 : decode cX9_untell 1 = .ok (.iconst 0, 1) := by decide +kernel
theorem dX9_untell_2 : decode cX9_untell 2 = .ok (.aload_n 0, 1) := by decide +kernel
theorem dX9_untell_3 : decode cX9_untell 3 = .ok (.getfield 370, 3) := by decide +kernel
theorem dX9_untell_6 : decode cX9_untell 6 = .ok (.iconst 1, 1) := by decide +kernel
theorem dX9_untell_7 : decode cX9_untell 7 = .ok (.isub, 1) := by decide +kernel
theorem dX9_untell_8 : decode cX9_untell 8 = .ok (.invokestatic 354, 3) := by decide +kernel
theorem dX9_untell_11 : decode cX9_untell 11 = .ok (.ifCond .eq 12, 3) := by decide +kernel
theorem dX9_untell_23 : decode cX9_untell 23 = .ok (.iconst 0, 1) := by decide +kernel
theorem dX9_untell_24 : decode cX9_untell 24 = .ok (.ireturn, 1) := by decide +kernel
theorem dX9_walk_0 : decode cX9_walk 0 = .ok (.iload_n 1, 1) := by decide +kernel
theorem dX9_walk_1 : decode cX9_walk 1 = .ok (.iconst 0, 1) := by decide +kernel
theorem dX9_walk_2 : decode cX9_walk 2 = .ok (.bipush 99, 2) := by decide +kernel
theorem dX9_walk_4 : decode cX9_walk 4 = .ok (.invokestatic 354, 3) := by decide +kernel
theorem dX9_walk_7 : decode cX9_walk 7 = .ok (.ifCond .ne 5, 3) := by decide +kernel
theorem dX9_walk_10 : decode cX9_walk 10 = .ok (.iconst (-1), 1) := by decide +kernel
theorem dX9_walk_11 : decode cX9_walk 11 = .ok (.ireturn, 1) := by decide +kernel
theorem dX9_walk_12 : decode cX9_walk 12 = .ok (.iconst 0, 1) := by decide +kernel
theorem dX9_walk_13 : decode cX9_walk 13 = .ok (.istore_n 2, 1) := by decide +kernel
theorem dX9_walk_14 : decode cX9_walk 14 = .ok (.iconst (-1), 1) := by decide +kernel
theorem dX9_walk_15 : decode cX9_walk 15 = .ok (.istore_n 3, 1) := by decide +kernel
theorem dX9_walk_16 : decode cX9_walk 16 = .ok (.iconst 0, 1) := by decide +kernel
theorem dX9_walk_17 : decode cX9_walk 17 = .ok (.istore 4, 2) := by decide +kernel
theorem dX9_walk_19 : decode cX9_walk 19 = .ok (.iload 4, 2) := by decide +kernel
theorem dX9_walk_21 : decode cX9_walk 21 = .ok (.aload_n 0, 1) := by decide +kernel
theorem dX9_walk_22 : decode cX9_walk 22 = .ok (.invokevirtual 358, 3) := by decide +kernel
theorem dX9_walk_25 : decode cX9_walk 25 = .ok (.aload_n 0, 1) := by decide +kernel
theorem dX9_walk_26 : decode cX9_walk 26 = .ok (.invokevirtual 358, 3) := by decide +kernel
theorem dX9_walk_29 : decode cX9_walk 29 = .ok (.invokestatic 462, 3) := by decide +kernel
theorem dX9_walk_32 : decode cX9_walk 32 = .ok (.if_icmp .ge 42, 3) := by decide +kernel
theorem dX9_walk_35 : decode cX9_walk 35 = .ok (.aload_n 0, 1) := by decide +kernel
theorem dX9_walk_36 : decode cX9_walk 36 = .ok (.iload 4, 2) := by decide +kernel
theorem dX9_walk_38 : decode cX9_walk 38 = .ok (.iload_n 1, 1) := by decide +kernel
theorem dX9_walk_39 : decode cX9_walk 39 = .ok (.invokevirtual 474, 3) := by decide +kernel
theorem dX9_walk_42 : decode cX9_walk 42 = .ok (.istore 5, 2) := by decide +kernel
theorem dX9_walk_44 : decode cX9_walk 44 = .ok (.iload 5, 2) := by decide +kernel
theorem dX9_walk_46 : decode cX9_walk 46 = .ok (.ifCond .lt 22, 3) := by decide +kernel
theorem dX9_walk_49 : decode cX9_walk 49 = .ok (.iload_n 3, 1) := by decide +kernel
theorem dX9_walk_50 : decode cX9_walk 50 = .ok (.ifCond .lt 12, 3) := by decide +kernel
theorem dX9_walk_62 : decode cX9_walk 62 = .ok (.iload 4, 2) := by decide +kernel
theorem dX9_walk_64 : decode cX9_walk 64 = .ok (.istore_n 2, 1) := by decide +kernel
theorem dX9_walk_65 : decode cX9_walk 65 = .ok (.iload 5, 2) := by decide +kernel
theorem dX9_walk_67 : decode cX9_walk 67 = .ok (.istore_n 3, 1) := by decide +kernel
theorem dX9_walk_68 : decode cX9_walk 68 = .ok (.iinc 4 1, 3) := by decide +kernel
theorem dX9_walk_71 : decode cX9_walk 71 = .ok (.goto (-52), 3) := by decide +kernel
theorem dX9_walk_74 : decode cX9_walk 74 = .ok (.aload_n 0, 1) := by decide +kernel
theorem dX9_walk_75 : decode cX9_walk 75 = .ok (.aload_n 0, 1) := by decide +kernel
theorem dX9_walk_76 : decode cX9_walk 76 = .ok (.invokevirtual 358, 3) := by decide +kernel
theorem dX9_walk_79 : decode cX9_walk 79 = .ok (.putfield 373, 3) := by decide +kernel
theorem dX9_walk_82 : decode cX9_walk 82 = .ok (.iconst 0, 1) := by decide +kernel
theorem dX9_walk_83 : decode cX9_walk 83 = .ok (.istore 4, 2) := by decide +kernel
theorem dX9_walk_85 : decode cX9_walk 85 = .ok (.iload 4, 2) := by decide +kernel
theorem dX9_walk_87 : decode cX9_walk 87 = .ok (.aload_n 0, 1) := by decide +kernel
theorem dX9_walk_88 : decode cX9_walk 88 = .ok (.invokevirtual 358, 3) := by decide +kernel
theorem dX9_walk_91 : decode cX9_walk 91 = .ok (.if_icmp .ge 27, 3) := by decide +kernel
theorem dX9_walk_118 : decode cX9_walk 118 = .ok (.iload_n 3, 1) := by decide +kernel
theorem dX9_walk_119 : decode cX9_walk 119 = .ok (.ireturn, 1) := by decide +kernel
theorem dX9_wayOf_0 : decode cX9_wayOf 0 = .ok (.iconst 0, 1) := by decide +kernel
theorem dX9_wayOf_1 : decode cX9_wayOf 1 = .ok (.istore_n 3, 1) := by decide +kernel
theorem dX9_wayOf_2 : decode cX9_wayOf 2 = .ok (.iconst 0, 1) := by decide +kernel
theorem dX9_wayOf_3 : decode cX9_wayOf 3 = .ok (.istore 4, 2) := by decide +kernel
theorem dX9_wayOf_5 : decode cX9_wayOf 5 = .ok (.iload_n 2, 1) := by decide +kernel
theorem dX9_wayOf_6 : decode cX9_wayOf 6 = .ok (.istore 5, 2) := by decide +kernel
theorem dX9_wayOf_8 : decode cX9_wayOf 8 = .ok (.iconst 0, 1) := by decide +kernel
theorem dX9_wayOf_9 : decode cX9_wayOf 9 = .ok (.istore 6, 2) := by decide +kernel
theorem dX9_wayOf_11 : decode cX9_wayOf 11 = .ok (.iload 6, 2) := by decide +kernel
theorem dX9_wayOf_13 : decode cX9_wayOf 13 = .ok (.aload_n 0, 1) := by decide +kernel
theorem dX9_wayOf_14 : decode cX9_wayOf 14 = .ok (.invokevirtual 358, 3) := by decide +kernel
theorem dX9_wayOf_17 : decode cX9_wayOf 17 = .ok (.if_icmp .ge 65, 3) := by decide +kernel
theorem dX9_wayOf_82 : decode cX9_wayOf 82 = .ok (.iload 4, 2) := by decide +kernel
theorem dX9_wayOf_84 : decode cX9_wayOf 84 = .ok (.ireturn, 1) := by decide +kernel
theorem dX9_week_0 : decode cX9_week 0 = .ok (.aload_n 0, 1) := by decide +kernel
theorem dX9_week_1 : decode cX9_week 1 = .ok (.getfield 88, 3) := by decide +kernel
theorem dX9_week_4 : decode cX9_week 4 = .ok (.bipush 24, 2) := by decide +kernel
theorem dX9_week_6 : decode cX9_week 6 = .ok (.iaload, 1) := by decide +kernel
theorem dX9_week_7 : decode cX9_week 7 = .ok (.sipush 999, 3) := by decide +kernel
theorem dX9_week_10 : decode cX9_week 10 = .ok (.if_icmp .ne 5, 3) := by decide +kernel
theorem dX9_week_15 : decode cX9_week 15 = .ok (.aload_n 0, 1) := by decide +kernel
theorem dX9_week_16 : decode cX9_week 16 = .ok (.invokevirtual 443, 3) := by decide +kernel
theorem dX9_week_19 : decode cX9_week 19 = .ok (.aload_n 0, 1) := by decide +kernel
theorem dX9_week_20 : decode cX9_week 20 = .ok (.iconst 1, 1) := by decide +kernel
theorem dX9_week_21 : decode cX9_week 21 = .ok (.invokevirtual 446, 3) := by decide +kernel
theorem dX9_week_24 : decode cX9_week 24 = .ok (.ireturn, 1) := by decide +kernel
theorem dX9_will_0 : decode cX9_will 0 = .ok (.aload_n 0, 1) := by decide +kernel
theorem dX9_will_1 : decode cX9_will 1 = .ok (.iload_n 1, 1) := by decide +kernel
theorem dX9_will_2 : decode cX9_will 2 = .ok (.invokevirtual 412, 3) := by decide +kernel
theorem dX9_will_5 : decode cX9_will 5 = .ok (.ifCond .eq 22, 3) := by decide +kernel
theorem dX9_will_27 : decode cX9_will 27 = .ok (.bipush (-2), 2) := by decide +kernel
theorem dX9_will_29 : decode cX9_will 29 = .ok (.ireturn, 1) := by decide +kernel

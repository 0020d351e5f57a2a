theorem dX8_later_35 : decode cX8_later 35 = .ok (.aload_n 0, 1) := by decide +kernel
theorem dX8_later_36 : decode cX8_later 36 = .ok (.getfield 321, 3) := by decide +kernel
theorem dX8_later_39 : decode cX8_later 39 = .ok (.ireturn, 1) := by decide +kernel
theorem dX8_law_0 : decode cX8_law 0 = .ok (.aload_n 0, 1) := by decide +kernel
theorem dX8_law_1 : decode cX8_law 1 = .ok (.iload_n 1, 1) := by decide +kernel
theorem dX8_law_2 : decode cX8_law 2 = .ok (.invokevirtual 138, 3) := by decide +kernel
theorem dX8_law_5 : decode cX8_law 5 = .ok (.ifCond .eq 14, 3) := by decide +kernel
theorem dX8_law_19 : decode cX8_law 19 = .ok (.iconst (-1), 1) := by decide +kernel
theorem dX8_law_20 : decode cX8_law 20 = .ok (.ireturn, 1) := by decide +kernel
theorem dX8_layTrial_0 : decode cX8_layTrial 0 = .ok (.aload_n 0, 1) := by decide +kernel
theorem dX8_layTrial_1 : decode cX8_layTrial 1 = .ok (.aload_n 0, 1) := by decide +kernel
theorem dX8_layTrial_2 : decode cX8_layTrial 2 = .ok (.getfield 23, 3) := by decide +kernel
theorem dX8_layTrial_5 : decode cX8_layTrial 5 = .ok (.getfield 99, 3) := by decide +kernel
theorem dX8_layTrial_8 : decode cX8_layTrial 8 = .ok (.putfield 96, 3) := by decide +kernel
theorem dX8_layTrial_11 : decode cX8_layTrial 11 = .ok (.iconst 0, 1) := by decide +kernel
theorem dX8_layTrial_12 : decode cX8_layTrial 12 = .ok (.istore_n 1, 1) := by decide +kernel
theorem dX8_layTrial_13 : decode cX8_layTrial 13 = .ok (.iload_n 1, 1) := by decide +kernel
theorem dX8_layTrial_14 : decode cX8_layTrial 14 = .ok (.aload_n 0, 1) := by decide +kernel
theorem dX8_layTrial_15 : decode cX8_layTrial 15 = .ok (.getfield 96, 3) := by decide +kernel
theorem dX8_layTrial_18 : decode cX8_layTrial 18 = .ok (.if_icmp .ge 21, 3) := by decide +kernel
theorem dX8_layTrial_39 : decode cX8_layTrial 39 = .ok (.return_, 1) := by decide +kernel
theorem dX8_lies_0 : decode cX8_lies 0 = .ok (.iload_n 1, 1) := by decide +kernel
theorem dX8_lies_1 : decode cX8_lies 1 = .ok (.ifCond .lt 20, 3) := by decide +kernel
theorem dX8_lies_4 : decode cX8_lies 4 = .ok (.iload_n 1, 1) := by decide +kernel
theorem dX8_lies_5 : decode cX8_lies 5 = .ok (.aload_n 0, 1) := by decide +kernel
theorem dX8_lies_6 : decode cX8_lies 6 = .ok (.getfield 96, 3) := by decide +kernel
theorem dX8_lies_9 : decode cX8_lies 9 = .ok (.if_icmp .ge 12, 3) := by decide +kernel
theorem dX8_lies_21 : decode cX8_lies 21 = .ok (.bipush (-2), 2) := by decide +kernel
theorem dX8_lies_23 : decode cX8_lies 23 = .ok (.ireturn, 1) := by decide +kernel
theorem dX8_note_0 : decode cX8_note 0 = .ok (.aload_n 0, 1) := by decide +kernel
theorem dX8_note_1 : decode cX8_note 1 = .ok (.iload_n 1, 1) := by decide +kernel
theorem dX8_note_2 : decode cX8_note 2 = .ok (.invokevirtual 111, 3) := by decide +kernel
theorem dX8_note_5 : decode cX8_note 5 = .ok (.ifCond .eq 28, 3) := by decide +kernel
theorem dX8_note_33 : decode cX8_note 33 = .ok (.iconst (-1), 1) := by decide +kernel
theorem dX8_note_34 : decode cX8_note 34 = .ok (.ireturn, 1) := by decide +kernel
theorem dX8_odds_0 : decode cX8_odds 0 = .ok (.iload_n 1, 1) := by decide +kernel
theorem dX8_odds_1 : decode cX8_odds 1 = .ok (.ifCond .lt 17, 3) := by decide +kernel
theorem dX8_odds_4 : decode cX8_odds 4 = .ok (.iload_n 1, 1) := by decide +kernel
theorem dX8_odds_5 : decode cX8_odds 5 = .ok (.iconst 4, 1) := by decide +kernel
theorem dX8_odds_6 : decode cX8_odds 6 = .ok (.if_icmp .gt 12, 3) := by decide +kernel
theorem dX8_odds_9 : decode cX8_odds 9 = .ok (.iload_n 2, 1) := by decide +kernel
theorem dX8_odds_10 : decode cX8_odds 10 = .ok (.ifCond .lt 8, 3) := by decide +kernel
theorem dX8_odds_13 : decode cX8_odds 13 = .ok (.iload_n 2, 1) := by decide +kernel
theorem dX8_odds_14 : decode cX8_odds 14 = .ok (.iconst 1, 1) := by decide +kernel
theorem dX8_odds_15 : decode cX8_odds 15 = .ok (.if_icmp .le 5, 3) := by decide +kernel
theorem dX8_odds_18 : decode cX8_odds 18 = .ok (.iconst (-1), 1) := by decide +kernel
theorem dX8_odds_19 : decode cX8_odds 19 = .ok (.ireturn, 1) := by decide +kernel
theorem dX8_odds_20 : decode cX8_odds 20 = .ok (.iconst 1, 1) := by decide +kernel
theorem dX8_odds_21 : decode cX8_odds 21 = .ok (.istore_n 3, 1) := by decide +kernel
theorem dX8_odds_22 : decode cX8_odds 22 = .ok (.iconst 1, 1) := by decide +kernel
theorem dX8_odds_23 : decode cX8_odds 23 = .ok (.istore 4, 2) := by decide +kernel
theorem dX8_odds_25 : decode cX8_odds 25 = .ok (.iconst 0, 1) := by decide +kernel
theorem dX8_odds_26 : decode cX8_odds 26 = .ok (.istore 5, 2) := by decide +kernel
theorem dX8_odds_28 : decode cX8_odds 28 = .ok (.iload 5, 2) := by decide +kernel
theorem dX8_odds_30 : decode cX8_odds 30 = .ok (.iload_n 1, 1) := by decide +kernel
theorem dX8_odds_31 : decode cX8_odds 31 = .ok (.if_icmp .ge 29, 3) := by decide +kernel
theorem dX8_odds_34 : decode cX8_odds 34 = .ok (.iload_n 3, 1) := by decide +kernel
theorem dX8_odds_35 : decode cX8_odds 35 = .ok (.bipush 100, 2) := by decide +kernel
theorem dX8_odds_37 : decode cX8_odds 37 = .ok (.aload_n 0, 1) := by decide +kernel
theorem dX8_odds_38 : decode cX8_odds 38 = .ok (.getfield 23, 3) := by decide +kernel
theorem dX8_odds_41 : decode cX8_odds 41 = .ok (.getfield 171, 3) := by decide +kernel
theorem dX8_odds_44 : decode cX8_odds 44 = .ok (.isub, 1) := by decide +kernel
theorem dX8_odds_45 : decode cX8_odds 45 = .ok (.imul, 1) := by decide +kernel
theorem dX8_odds_46 : decode cX8_odds 46 = .ok (.istore_n 3, 1) := by decide +kernel
theorem dX8_odds_47 : decode cX8_odds 47 = .ok (.iload 4, 2) := by decide +kernel
theorem dX8_odds_49 : decode cX8_odds 49 = .ok (.bipush 100, 2) := by decide +kernel
theorem dX8_odds_51 : decode cX8_odds 51 = .ok (.imul, 1) := by decide +kernel
theorem dX8_odds_52 : decode cX8_odds 52 = .ok (.istore 4, 2) := by decide +kernel
theorem dX8_odds_54 : decode cX8_odds 54 = .ok (.iinc 5 1, 3) := by decide +kernel
theorem dX8_odds_57 : decode cX8_odds 57 = .ok (.goto (-29), 3) := by decide +kernel
theorem dX8_odds_60 : decode cX8_odds 60 = .ok (.iload_n 3, 1) := by decide +kernel
theorem dX8_odds_61 : decode cX8_odds 61 = .ok (.iload 4, 2) := by decide +kernel
theorem dX8_odds_63 : decode cX8_odds 63 = .ok (.invokestatic 318, 3) := by decide +kernel
theorem dX8_odds_66 : decode cX8_odds 66 = .ok (.istore 5, 2) := by decide +kernel
theorem dX8_odds_68 : decode cX8_odds 68 = .ok (.iload_n 2, 1) := by decide +kernel
theorem dX8_odds_69 : decode cX8_odds 69 = .ok (.ifCond .ne 7, 3) := by decide +kernel
theorem dX8_odds_72 : decode cX8_odds 72 = .ok (.iload_n 3, 1) := by decide +kernel
theorem dX8_odds_73 : decode cX8_odds 73 = .ok (.goto 5, 3) := by decide +kernel
theorem dX8_odds_76 : decode cX8_odds 76 = .ok (.iload 4, 2) := by decide +kernel
theorem dX8_odds_78 : decode cX8_odds 78 = .ok (.iload 5, 2) := by decide +kernel
theorem dX8_odds_80 : decode cX8_odds 80 = .ok (.idiv, 1) := by decide +kernel
theorem dX8_odds_81 : decode cX8_odds 81 = .ok (.ireturn, 1) := by decide +kernel
theorem dX8_onCart_0 : decode cX8_onCart 0 = .ok (.iconst 0, 1) := by decide +kernel
theorem dX8_onCart_1 : decode cX8_onCart 1 = .ok (.istore_n 1, 1) := by decide +kernel
theorem dX8_onCart_2 : decode cX8_onCart 2 = .ok (.iconst 0, 1) := by decide +kernel
theorem dX8_onCart_3 : decode cX8_onCart 3 = .ok (.istore_n 2, 1) := by decide +kernel
theorem dX8_onCart_4 : decode cX8_onCart 4 = .ok (.iload_n 2, 1) := by decide +kernel
theorem dX8_onCart_5 : decode cX8_onCart 5 = .ok (.aload_n 0, 1) := by decide +kernel
theorem dX8_onCart_6 : decode cX8_onCart 6 = .ok (.getfield 23, 3) := by decide +kernel
theorem dX8_onCart_9 : decode cX8_onCart 9 = .ok (.getfield 108, 3) := by decide +kernel
theorem dX8_onCart_12 : decode cX8_onCart 12 = .ok (.if_icmp .ge 26, 3) := by decide +kernel
theorem dX8_onCart_38 : decode cX8_onCart 38 = .ok (.iload_n 1, 1) := by decide +kernel
theorem dX8_onCart_39 : decode cX8_onCart 39 = .ok (.ireturn, 1) := by decide +kernel
theorem dX8_paidFor_0 : decode cX8_paidFor 0 = .ok (.iconst 0, 1) := by decide +kernel
theorem dX8_paidFor_1 : decode cX8_paidFor 1 = .ok (.istore_n 1, 1) := by decide +kernel
theorem dX8_paidFor_2 : decode cX8_paidFor 2 = .ok (.iconst 0, 1) := by decide +kernel
theorem dX8_paidFor_3 : decode cX8_paidFor 3 = .ok (.istore_n 2, 1) := by decide +kernel
theorem dX8_paidFor_4 : decode cX8_paidFor 4 = .ok (.iload_n 2, 1) := by decide +kernel
theorem dX8_paidFor_5 : decode cX8_paidFor 5 = .ok (.aload_n 0, 1) := by decide +kernel
theorem dX8_paidFor_6 : decode cX8_paidFor 6 = .ok (.getfield 23, 3) := by decide +kernel
theorem dX8_paidFor_9 : decode cX8_paidFor 9 = .ok (.getfield 99, 3) := by decide +kernel
theorem dX8_paidFor_12 : decode cX8_paidFor 12 = .ok (.if_icmp .ge 17, 3) := by decide +kernel
theorem dX8_paidFor_29 : decode cX8_paidFor 29 = .ok (.iload_n 1, 1) := by decide +kernel
theorem dX8_paidFor_30 : decode cX8_paidFor 30 = .ok (.ireturn, 1) := by decide +kernel
theorem dX8_pair_0 : decode cX8_pair 0 = .ok (.aload_n 0, 1) := by decide +kernel
theorem dX8_pair_1 : decode cX8_pair 1 = .ok (.iload_n 1, 1) := by decide +kernel
theorem dX8_pair_2 : decode cX8_pair 2 = .ok (.invokevirtual 111, 3) := by decide +kernel
theorem dX8_pair_5 : decode cX8_pair 5 = .ok (.ifCond .eq 22, 3) := by decide +kernel
theorem dX8_pair_27 : decode cX8_pair 27 = .ok (.ldc 160, 2) := by decide +kernel
theorem dX8_pair_29 : decode cX8_pair 29 = .ok (.ireturn, 1) := by decide +kernel
theorem dX8_passWeek_0 : decode cX8_passWeek 0 = .ok (.iconst 0, 1) := by decide +kernel
theorem dX8_passWeek_1 : decode cX8_passWeek 1 = .ok (.istore_n 3, 1) := by decide +kernel
theorem dX8_passWeek_2 : decode cX8_passWeek 2 = .ok (.iconst 0, 1) := by decide +kernel
theorem dX8_passWeek_3 : decode cX8_passWeek 3 = .ok (.istore 4, 2) := by decide +kernel
theorem dX8_passWeek_5 : decode cX8_passWeek 5 = .ok (.iload 4, 2) := by decide +kernel
theorem dX8_passWeek_7 : decode cX8_passWeek 7 = .ok (.aload_n 0, 1) := by decide +kernel
theorem dX8_passWeek_8 : decode cX8_passWeek 8 = .ok (.getfield 23, 3) := by decide +kernel
theorem dX8_passWeek_11 : decode cX8_passWeek 11 = .ok (.getfield 99, 3) := by decide +kernel
theorem dX8_passWeek_14 : decode cX8_passWeek 14 = .ok (.if_icmp .ge 39, 3) := by decide +kernel
theorem dX8_passWeek_53 : decode cX8_passWeek 53 = .ok (.aload_n 1, 1) := by decide +kernel
theorem dX8_passWeek_54 : decode cX8_passWeek 54 = .ok (.dup, 1) := by decide +kernel
theorem dX8_passWeek_55 : decode cX8_passWeek 55 = .ok (.getfield 168, 3) := by decide +kernel
theorem dX8_passWeek_58 : decode cX8_passWeek 58 = .ok (.iconst 1, 1) := by decide +kernel
theorem dX8_passWeek_59 : decode cX8_passWeek 59 = .ok (.iadd, 1) := by decide +kernel
theorem dX8_passWeek_60 : decode cX8_passWeek 60 = .ok (.putfield 168, 3) := by decide +kernel
theorem dX8_passWeek_63 : decode cX8_passWeek 63 = .ok (.iload_n 3, 1) := by decide +kernel
theorem dX8_passWeek_64 : decode cX8_passWeek 64 = .ok (.ireturn, 1) := by decide +kernel
theorem dX8_priceOf_0 : decode cX8_priceOf 0 = .ok (.iconst 0, 1) := by decide +kernel
theorem dX8_priceOf_1 : decode cX8_priceOf 1 = .ok (.istore_n 2, 1) := by decide +kernel
theorem dX8_priceOf_2 : decode cX8_priceOf 2 = .ok (.iconst 0, 1) := by decide +kernel
theorem dX8_priceOf_3 : decode cX8_priceOf 3 = .ok (.istore_n 3, 1) := by decide +kernel
theorem dX8_priceOf_4 : decode cX8_priceOf 4 = .ok (.iload_n 3, 1) := by decide +kernel
theorem dX8_priceOf_5 : decode cX8_priceOf 5 = .ok (.aload_n 0, 1) := by decide +kernel
theorem dX8_priceOf_6 : decode cX8_priceOf 6 = .ok (.getfield 23, 3) := by decide +kernel
theorem dX8_priceOf_9 : decode cX8_priceOf 9 = .ok (.getfield 108, 3) := by decide +kernel
theorem dX8_priceOf_12 : decode cX8_priceOf 12 = .ok (.if_icmp .ge 29, 3) := by decide +kernel
theorem dX8_priceOf_41 : decode cX8_priceOf 41 = .ok (.iload_n 2, 1) := by decide +kernel
theorem dX8_priceOf_42 : decode cX8_priceOf 42 = .ok (.ireturn, 1) := by decide +kernel
theorem dX8_purse_0 : decode cX8_purse 0 = .ok (.aload_n 0, 1) := by decide +kernel
theorem dX8_purse_1 : decode cX8_purse 1 = .ok (.iload_n 1, 1) := by decide +kernel
theorem dX8_purse_2 : decode cX8_purse 2 = .ok (.invokevirtual 138, 3) := by decide +kernel
theorem dX8_purse_5 : decode cX8_purse 5 = .ok (.ifCond .eq 10, 3) := by decide +kernel
theorem dX8_purse_15 : decode cX8_purse 15 = .ok (.iconst (-1), 1) := by decide +kernel
theorem dX8_purse_16 : decode cX8_purse 16 = .ok (.ireturn, 1) := by decide +kernel
theorem dX8_putBytes_0 : decode cX8_putBytes 0 = .ok (.bipush 24, 2) := by decide +kernel
theorem dX8_putBytes_2 : decode cX8_putBytes 2 = .ok (.istore_n 2, 1) := by decide +kernel
theorem dX8_putBytes_3 : decode cX8_putBytes 3 = .ok (.iload_n 2, 1) := by decide +kernel
theorem dX8_putBytes_4 : decode cX8_putBytes 4 = .ok (.ifCond .lt 42, 3) := by decide +kernel
theorem dX8_putBytes_7 : decode cX8_putBytes 7 = .ok (.aload_n 0, 1) := by decide +kernel
theorem dX8_putBytes_8 : decode cX8_putBytes 8 = .ok (.getfield 78, 3) := by decide +kernel
theorem dX8_putBytes_11 : decode cX8_putBytes 11 = .ok (.sipush 1600, 3) := by decide +kernel
theorem dX8_putBytes_14 : decode cX8_putBytes 14 = .ok (.if_icmp .ge 26, 3) := by decide +kernel
theorem dX8_putBytes_17 : decode cX8_putBytes 17 = .ok (.aload_n 0, 1) := by decide +kernel
theorem dX8_putBytes_18 : decode cX8_putBytes 18 = .ok (.getfield 9, 3) := by decide +kernel
theorem dX8_putBytes_21 : decode cX8_putBytes 21 = .ok (.aload_n 0, 1) := by decide +kernel
theorem dX8_putBytes_22 : decode cX8_putBytes 22 = .ok (.getfield 78, 3) := by decide +kernel
theorem dX8_putBytes_25 : decode cX8_putBytes 25 = .ok (.iload_n 1, 1) := by decide +kernel
theorem dX8_putBytes_26 : decode cX8_putBytes 26 = .ok (.iload_n 2, 1) := by decide +kernel
theorem dX8_putBytes_27 : decode cX8_putBytes 27 = .ok (.iushr, 1) := by decide +kernel
theorem dX8_putBytes_28 : decode cX8_putBytes 28 = .ok (.i2b, 1) := by decide +kernel
theorem dX8_putBytes_29 : decode cX8_putBytes 29 = .ok (.bastore, 1) := by decide +kernel
theorem dX8_putBytes_30 : decode cX8_putBytes 30 = .ok (.aload_n 0, 1) := by decide +kernel
theorem dX8_putBytes_31 : decode cX8_putBytes 31 = .ok (.dup, 1) := by decide +kernel
theorem dX8_putBytes_32 : decode cX8_putBytes 32 = .ok (.getfield 78, 3) := by decide +kernel
theorem dX8_putBytes_35 : decode cX8_putBytes 35 = .ok (.iconst 1, 1) := by decide +kernel
theorem dX8_putBytes_36 : decode cX8_putBytes 36 = .ok (.iadd, 1) := by decide +kernel
theorem dX8_putBytes_37 : decode cX8_putBytes 37 = .ok (.putfield 78, 3) := by decide +kernel
theorem dX8_putBytes_40 : decode cX8_putBytes 40 = .ok (.iinc 2 (-8), 3) := by decide +kernel
theorem dX8_putBytes_43 : decode cX8_putBytes 43 = .ok (.goto (-40), 3) := by decide +kernel
theorem dX8_putBytes_46 : decode cX8_putBytes 46 = .ok (.return_, 1) := by decide +kernel
theorem dX8_rateAll_0 : decode cX8_rateAll 0 = .ok (.iconst 0, 1) := by decide +kernel
theorem dX8_rateAll_1 : decode cX8_rateAll 1 = .ok (.istore_n 1, 1) := by decide +kernel
theorem dX8_rateAll_2 : decode cX8_rateAll 2 = .ok (.iload_n 1, 1) := by decide +kernel
theorem dX8_rateAll_3 : decode cX8_rateAll 3 = .ok (.aload_n 0, 1) := by decide +kernel
theorem dX8_rateAll_4 : decode cX8_rateAll 4 = .ok (.getfield 23, 3) := by decide +kernel
theorem dX8_rateAll_7 : decode cX8_rateAll 7 = .ok (.getfield 99, 3) := by decide +kernel
theorem dX8_rateAll_10 : decode cX8_rateAll 10 = .ok (.if_icmp .ge 44, 3) := by decide +kernel
theorem dX8_rateAll_54 : decode cX8_rateAll 54 = .ok (.return_, 1) := by decide +kernel
theorem dX8_redo_0 : decode cX8_redo 0 = .ok (.aload_n 0, 1) := by decide +kernel
theorem dX8_redo_1 : decode cX8_redo 1 = .ok (.getfield 40, 3) := by decide +kernel
theorem dX8_redo_4 : decode cX8_redo 4 = .ok (.aload_n 0, 1) := by decide +kernel
theorem dX8_redo_5 : decode cX8_redo 5 = .ok (.getfield 30, 3) := by decide +kernel
theorem dX8_redo_8 : decode cX8_redo 8 = .ok (.invokevirtual 209, 3) := by decide +kernel
theorem dX8_redo_11 : decode cX8_redo 11 = .ok (.ireturn, 1) := by decide +kernel
theorem dX8_restore_0 : decode cX8_restore 0 = .ok (.iload_n 1, 1) := by decide +kernel
theorem dX8_restore_1 : decode cX8_restore 1 = .ok (.ifCond .lt 17, 3) := by decide +kernel
theorem dX8_restore_4 : decode cX8_restore 4 = .ok (.iload_n 1, 1) := by decide +kernel
theorem dX8_restore_5 : decode cX8_restore 5 = .ok (.iconst 3, 1) := by decide +kernel
theorem dX8_restore_6 : decode cX8_restore 6 = .ok (.if_icmp .ge 12, 3) := by decide +kernel
theorem dX8_restore_9 : decode cX8_restore 9 = .ok (.aload_n 0, 1) := by decide +kernel
theorem dX8_restore_10 : decode cX8_restore 10 = .ok (.getfield 48, 3) := by decide +kernel
theorem dX8_restore_13 : decode cX8_restore 13 = .ok (.iload_n 1, 1) := by decide +kernel
theorem dX8_restore_14 : decode cX8_restore 14 = .ok (.baload, 1) := by decide +kernel
theorem dX8_restore_15 : decode cX8_restore 15 = .ok (.ifCond .ne 5, 3) := by decide +kernel
theorem dX8_restore_18 : decode cX8_restore 18 = .ok (.iconst (-1), 1) := by decide +kernel
theorem dX8_restore_19 : decode cX8_restore 19 = .ok (.ireturn, 1) := by decide +kernel
theorem dX8_rivals_0 : decode cX8_rivals 0 = .ok (.aload_n 0, 1) := by decide +kernel
theorem dX8_rivals_1 : decode cX8_rivals 1 = .ok (.iconst 0, 1) := by decide +kernel
theorem dX8_rivals_2 : decode cX8_rivals 2 = .ok (.putfield 96, 3) := by decide +kernel
theorem dX8_rivals_5 : decode cX8_rivals 5 = .ok (.aload_n 0, 1) := by decide +kernel
theorem dX8_rivals_6 : decode cX8_rivals 6 = .ok (.invokevirtual 237, 3) := by decide +kernel
theorem dX8_rivals_9 : decode cX8_rivals 9 = .ok (.istore_n 3, 1) := by decide +kernel
theorem dX8_rivals_10 : decode cX8_rivals 10 = .ok (.aload_n 0, 1) := by decide +kernel
theorem dX8_rivals_11 : decode cX8_rivals 11 = .ok (.iload_n 1, 1) := by decide +kernel
theorem dX8_rivals_12 : decode cX8_rivals 12 = .ok (.invokevirtual 138, 3) := by decide +kernel
theorem dX8_rivals_15 : decode cX8_rivals 15 = .ok (.ifCond .eq 20, 3) := by decide +kernel
theorem dX8_rivals_35 : decode cX8_rivals 35 = .ok (.iconst (-1), 1) := by decide +kernel
theorem dX8_rivals_36 : decode cX8_rivals 36 = .ok (.ireturn, 1) := by decide +kernel
theorem dX8_round_0 : decode cX8_round 0 = .ok (.iload_n 1, 1) := by decide +kernel
theorem dX8_round_1 : decode cX8_round 1 = .ok (.ifCond .lt 8, 3) := by decide +kernel
theorem dX8_round_4 : decode cX8_round 4 = .ok (.iload_n 1, 1) := by decide +kernel
theorem dX8_round_5 : decode cX8_round 5 = .ok (.iconst 1, 1) := by decide +kernel
theorem dX8_round_6 : decode cX8_round 6 = .ok (.if_icmp .le 5, 3) := by decide +kernel
theorem dX8_round_9 : decode cX8_round 9 = .ok (.iconst (-1), 1) := by decide +kernel
theorem dX8_round_10 : decode cX8_round 10 = .ok (.ireturn, 1) := by decide +kernel
theorem dX8_round_11 : decode cX8_round 11 = .ok (.aload_n 0, 1) := by decide +kernel
theorem dX8_round_12 : decode cX8_round 12 = .ok (.invokevirtual 237, 3) := by decide +kernel
theorem dX8_round_15 : decode cX8_round 15 = .ok (.istore_n 2, 1) := by decide +kernel
theorem dX8_round_16 : decode cX8_round 16 = .ok (.iconst 0, 1) := by decide +kernel
theorem dX8_round_17 : decode cX8_round 17 = .ok (.istore_n 3, 1) := by decide +kernel
theorem dX8_round_18 : decode cX8_round 18 = .ok (.iload_n 3, 1) := by decide +kernel
theorem dX8_round_19 : decode cX8_round 19 = .ok (.aload_n 0, 1) := by decide +kernel
theorem dX8_round_20 : decode cX8_round 20 = .ok (.getfield 23, 3) := by decide +kernel
theorem dX8_round_23 : decode cX8_round 23 = .ok (.getfield 99, 3) := by decide +kernel
theorem dX8_round_26 : decode cX8_round 26 = .ok (.if_icmp .ge 38, 3) := by decide +kernel
theorem dX8_round_64 : decode cX8_round 64 = .ok (.iconst (-1), 1) := by decide +kernel
theorem dX8_round_65 : decode cX8_round 65 = .ok (.istore_n 3, 1) := by decide +kernel
theorem dX8_round_66 : decode cX8_round 66 = .ok (.iconst (-1), 1) := by decide +kernel
theorem dX8_round_67 : decode cX8_round 67 = .ok (.istore 4, 2) := by decide +kernel
theorem dX8_round_69 : decode cX8_round 69 = .ok (.aload_n 0, 1) := by decide +kernel
theorem dX8_round_70 : decode cX8_round 70 = .ok (.aload_n 0, 1) := by decide +kernel
theorem dX8_round_71 : decode cX8_round 71 = .ok (.getfield 23, 3) := by decide +kernel
theorem dX8_round_74 : decode cX8_round 74 = .ok (.getfield 108, 3) := by decide +kernel
theorem dX8_round_77 : decode cX8_round 77 = .ok (.iconst 1, 1) := by decide +kernel
theorem dX8_round_78 : decode cX8_round 78 = .ok (.iadd, 1) := by decide +kernel
theorem dX8_round_79 : decode cX8_round 79 = .ok (.invokevirtual 241, 3) := by decide +kernel
theorem dX8_round_82 : decode cX8_round 82 = .ok (.istore 5, 2) := by decide +kernel
theorem dX8_round_84 : decode cX8_round 84 = .ok (.iconst 0, 1) := by decide +kernel
theorem dX8_round_85 : decode cX8_round 85 = .ok (.istore 6, 2) := by decide +kernel
theorem dX8_round_87 : decode cX8_round 87 = .ok (.iload 6, 2) := by decide +kernel
theorem dX8_round_89 : decode cX8_round 89 = .ok (.iload 5, 2) := by decide +kernel
theorem dX8_round_91 : decode cX8_round 91 = .ok (.if_icmp .ge 75, 3) := by decide +kernel
theorem dX8_round_94 : decode cX8_round 94 = .ok (.aload_n 0, 1) := by decide +kernel
theorem dX8_round_95 : decode cX8_round 95 = .ok (.iload 6, 2) := by decide +kernel
theorem dX8_round_97 : decode cX8_round 97 = .ok (.aload_n 0, 1) := by decide +kernel
theorem dX8_round_98 : decode cX8_round 98 = .ok (.getfield 23, 3) := by decide +kernel
theorem dX8_round_101 : decode cX8_round 101 = .ok (.getfield 108, 3) := by decide +kernel
theorem dX8_round_104 : decode cX8_round 104 = .ok (.iconst 1, 1) := by decide +kernel
theorem dX8_round_105 : decode cX8_round 105 = .ok (.iadd, 1) := by decide +kernel
theorem dX8_round_106 : decode cX8_round 106 = .ok (.invokevirtual 244, 3) := by decide +kernel
theorem dX8_round_109 : decode cX8_round 109 = .ok (.aload_n 0, 1) := by decide +kernel
theorem dX8_round_110 : decode cX8_round 110 = .ok (.invokevirtual 247, 3) := by decide +kernel
theorem dX8_round_113 : decode cX8_round 113 = .ok (.istore 7, 2) := by decide +kernel
theorem dX8_round_115 : decode cX8_round 115 = .ok (.iload 7, 2) := by decide +kernel
theorem dX8_round_117 : decode cX8_round 117 = .ok (.ifCond .ge 7, 3) := by decide +kernel
theorem dX8_round_124 : decode cX8_round 124 = .ok (.aload_n 0, 1) := by decide +kernel
theorem dX8_round_125 : decode cX8_round 125 = .ok (.invokevirtual 250, 3) := by decide +kernel
theorem dX8_round_128 : decode cX8_round 128 = .ok (.istore 8, 2) := by decide +kernel
theorem dX8_round_130 : decode cX8_round 130 = .ok (.iload 7, 2) := by decide +kernel
theorem dX8_round_132 : decode cX8_round 132 = .ok (.iload_n 3, 1) := by decide +kernel
theorem dX8_round_133 : decode cX8_round 133 = .ok (.if_icmp .gt 16, 3) := by decide +kernel
theorem dX8_round_149 : decode cX8_round 149 = .ok (.iload 7, 2) := by decide +kernel
theorem dX8_round_151 : decode cX8_round 151 = .ok (.istore_n 3, 1) := by decide +kernel
theorem dX8_round_152 : decode cX8_round 152 = .ok (.iload 8, 2) := by decide +kernel
theorem dX8_round_154 : decode cX8_round 154 = .ok (.istore 4, 2) := by decide +kernel
theorem dX8_round_156 : decode cX8_round 156 = .ok (.aload_n 0, 1) := by decide +kernel
theorem dX8_round_157 : decode cX8_round 157 = .ok (.invokevirtual 253, 3) := by decide +kernel
theorem dX8_round_160 : decode cX8_round 160 = .ok (.iinc 6 1, 3) := by decide +kernel
theorem dX8_round_163 : decode cX8_round 163 = .ok (.goto (-76), 3) := by decide +kernel
theorem dX8_round_166 : decode cX8_round 166 = .ok (.iload_n 1, 1) := by decide +kernel
theorem dX8_round_167 : decode cX8_round 167 = .ok (.ifCond .ne 7, 3) := by decide +kernel
theorem dX8_round_170 : decode cX8_round 170 = .ok (.iload_n 3, 1) := by decide +kernel
theorem dX8_round_171 : decode cX8_round 171 = .ok (.goto 5, 3) := by decide +kernel
theorem dX8_round_174 : decode cX8_round 174 = .ok (.iload 4, 2) := by decide +kernel
theorem dX8_round_176 : decode cX8_round 176 = .ok (.ireturn, 1) := by decide +kernel
theorem dX8_roundCount_0 : decode cX8_roundCount 0 = .ok (.iconst 0, 1) := by decide +kernel
theorem dX8_roundCount_1 : decode cX8_roundCount 1 = .ok (.istore_n 1, 1) := by decide +kernel
theorem dX8_roundCount_2 : decode cX8_roundCount 2 = .ok (.iconst 0, 1) := by decide +kernel
theorem dX8_roundCount_3 : decode cX8_roundCount 3 = .ok (.istore_n 2, 1) := by decide +kernel
theorem dX8_roundCount_4 : decode cX8_roundCount 4 = .ok (.iload_n 2, 1) := by decide +kernel
theorem dX8_roundCount_5 : decode cX8_roundCount 5 = .ok (.aload_n 0, 1) := by decide +kernel
theorem dX8_roundCount_6 : decode cX8_roundCount 6 = .ok (.getfield 23, 3) := by decide +kernel
theorem dX8_roundCount_9 : decode cX8_roundCount 9 = .ok (.getfield 99, 3) := by decide +kernel
theorem dX8_roundCount_12 : decode cX8_roundCount 12 = .ok (.if_icmp .ge 66, 3) := by decide +kernel
theorem dX8_roundCount_78 : decode cX8_roundCount 78 = .ok (.iload_n 1, 1) := by decide +kernel
theorem dX8_roundCount_79 : decode cX8_roundCount 79 = .ok (.invokestatic 232, 3) := by decide +kernel
theorem dX8_roundCount_82 : decode cX8_roundCount 82 = .ok (.ireturn, 1) := by decide +kernel
theorem dX8_roundPrice_0 : decode cX8_roundPrice 0 = .ok (.iconst 0, 1) := by decide +kernel
theorem dX8_roundPrice_1 : decode cX8_roundPrice 1 = .ok (.istore_n 1, 1) := by decide +kernel
theorem dX8_roundPrice_2 : decode cX8_roundPrice 2 = .ok (.iconst 0, 1) := by decide +kernel
theorem dX8_roundPrice_3 : decode cX8_roundPrice 3 = .ok (.istore_n 2, 1) := by decide +kernel
theorem dX8_roundPrice_4 : decode cX8_roundPrice 4 = .ok (.iload_n 2, 1) := by decide +kernel
theorem dX8_roundPrice_5 : decode cX8_roundPrice 5 = .ok (.aload_n 0, 1) := by decide +kernel
theorem dX8_roundPrice_6 : decode cX8_roundPrice 6 = .ok (.getfield 23, 3) := by decide +kernel
theorem dX8_roundPrice_9 : decode cX8_roundPrice 9 = .ok (.getfield 99, 3) := by decide +kernel
theorem dX8_roundPrice_12 : decode cX8_roundPrice 12 = .ok (.if_icmp .ge 39, 3) := by decide +kernel
theorem dX8_roundPrice_51 : decode cX8_roundPrice 51 = .ok (.iload_n 1, 1) := by decide +kernel
theorem dX8_roundPrice_52 : decode cX8_roundPrice 52 = .ok (.ireturn, 1) := by decide +kernel
theorem dX8_rows_0 : decode cX8_rows 0 = .ok (.aload_n 0, 1) := by decide +kernel
theorem dX8_rows_1 : decode cX8_rows 1 = .ok (.getfield 55, 3) := by decide +kernel
theorem dX8_rows_4 : decode cX8_rows 4 = .ok (.aload_n 0, 1) := by decide +kernel
theorem dX8_rows_5 : decode cX8_rows 5 = .ok (.getfield 23, 3) := by decide +kernel
theorem dX8_rows_8 : decode cX8_rows 8 = .ok (.iload_n 1, 1) := by decide +kernel
theorem dX8_rows_9 : decode cX8_rows 9 = .ok (.invokevirtual 332, 3) := by decide +kernel
theorem dX8_rows_12 : decode cX8_rows 12 = .ok (.ireturn, 1) := by decide +kernel
theorem dX8_rowsOf_0 : decode cX8_rowsOf 0 = .ok (.iconst 1, 1) := by decide +kernel
theorem dX8_rowsOf_1 : decode cX8_rowsOf 1 = .ok (.istore_n 2, 1) := by decide +kernel
theorem dX8_rowsOf_2 : decode cX8_rowsOf 2 = .ok (.iconst 0, 1) := by decide +kernel
theorem dX8_rowsOf_3 : decode cX8_rowsOf 3 = .ok (.istore_n 3, 1) := by decide +kernel
theorem dX8_rowsOf_4 : decode cX8_rowsOf 4 = .ok (.iload_n 3, 1) := by decide +kernel
theorem dX8_rowsOf_5 : decode cX8_rowsOf 5 = .ok (.aload_n 0, 1) := by decide +kernel
theorem dX8_rowsOf_6 : decode cX8_rowsOf 6 = .ok (.getfield 23, 3) := by decide +kernel
theorem dX8_rowsOf_9 : decode cX8_rowsOf 9 = .ok (.getfield 99, 3) := by decide +kernel
theorem dX8_rowsOf_12 : decode cX8_rowsOf 12 = .ok (.if_icmp .ge 13, 3) := by decide +kernel
theorem dX8_rowsOf_25 : decode cX8_rowsOf 25 = .ok (.iload_n 2, 1) := by decide +kernel
theorem dX8_rowsOf_26 : decode cX8_rowsOf 26 = .ok (.ireturn, 1) := by decide +kernel
theorem dX8_sale_0 : decode cX8_sale 0 = .ok (.aload_n 0, 1) := by decide +kernel
theorem dX8_sale_1 : decode cX8_sale 1 = .ok (.iload_n 1, 1) := by decide +kernel
theorem dX8_sale_2 : decode cX8_sale 2 = .ok (.invokevirtual 138, 3) := by decide +kernel
theorem dX8_sale_5 : decode cX8_sale 5 = .ok (.ifCond .eq 12, 3) := by decide +kernel
theorem dX8_sale_17 : decode cX8_sale 17 = .ok (.iconst (-1), 1) := by decide +kernel
theorem dX8_sale_18 : decode cX8_sale 18 = .ok (.ireturn, 1) := by decide +kernel
theorem dX8_sharedDivisor_0 : decode cX8_sharedDivisor 0 = .ok (.iload_n 0, 1) := by decide +kernel
theorem dX8_sharedDivisor_1 : decode cX8_sharedDivisor 1 = .ok (.istore_n 2, 1) := by decide +kernel
theorem dX8_sharedDivisor_2 : decode cX8_sharedDivisor 2 = .ok (.iload_n 1, 1) := by decide +kernel
theorem dX8_sharedDivisor_3 : decode cX8_sharedDivisor 3 = .ok (.istore_n 3, 1) := by decide +kernel
theorem dX8_sharedDivisor_4 : decode cX8_sharedDivisor 4 = .ok (.iconst 0, 1) := by decide +kernel
theorem dX8_sharedDivisor_5 : decode cX8_sharedDivisor 5 = .ok (.istore 4, 2) := by decide +kernel
theorem dX8_sharedDivisor_7 : decode cX8_sharedDivisor 7 = .ok (.iload 4, 2) := by decide +kernel
theorem dX8_sharedDivisor_9 : decode cX8_sharedDivisor 9 = .ok (.bipush 64, 2) := by decide +kernel
theorem dX8_sharedDivisor_11 : decode cX8_sharedDivisor 11 = .ok (.if_icmp .ge 23, 3) := by decide +kernel
theorem dX8_sharedDivisor_14 : decode cX8_sharedDivisor 14 = .ok (.iload_n 3, 1) := by decide +kernel
theorem dX8_sharedDivisor_15 : decode cX8_sharedDivisor 15 = .ok (.ifCond .eq 19, 3) := by decide +kernel
theorem dX8_sharedDivisor_18 : decode cX8_sharedDivisor 18 = .ok (.iload_n 2, 1) := by decide +kernel
theorem dX8_sharedDivisor_19 : decode cX8_sharedDivisor 19 = .ok (.iload_n 3, 1) := by decide +kernel
theorem dX8_sharedDivisor_20 : decode cX8_sharedDivisor 20 = .ok (.irem, 1) := by decide +kernel
theorem dX8_sharedDivisor_21 : decode cX8_sharedDivisor 21 = .ok (.istore 5, 2) := by decide +kernel
theorem dX8_sharedDivisor_23 : decode cX8_sharedDivisor 23 = .ok (.iload_n 3, 1) := by decide +kernel
theorem dX8_sharedDivisor_24 : decode cX8_sharedDivisor 24 = .ok (.istore_n 2, 1) := by decide +kernel
theorem dX8_sharedDivisor_25 : decode cX8_sharedDivisor 25 = .ok (.iload 5, 2) := by decide +kernel
theorem dX8_sharedDivisor_27 : decode cX8_sharedDivisor 27 = .ok (.istore_n 3, 1) := by decide +kernel
theorem dX8_sharedDivisor_28 : decode cX8_sharedDivisor 28 = .ok (.iinc 4 1, 3) := by decide +kernel
theorem dX8_sharedDivisor_31 : decode cX8_sharedDivisor 31 = .ok (.goto (-24), 3) := by decide +kernel
theorem dX8_sharedDivisor_34 : decode cX8_sharedDivisor 34 = .ok (.iconst 1, 1) := by decide +kernel
theorem dX8_sharedDivisor_35 : decode cX8_sharedDivisor 35 = .ok (.iload_n 2, 1) := by decide +kernel
theorem dX8_sharedDivisor_36 : decode cX8_sharedDivisor 36 = .ok (.invokestatic 276, 3) := by decide +kernel
theorem dX8_sharedDivisor_39 : decode cX8_sharedDivisor 39 = .ok (.ireturn, 1) := by decide +kernel
theorem dX8_spinsters_0 : decode cX8_spinsters 0 = .ok (.iconst 1, 1) := by decide +kernel
theorem dX8_spinsters_1 : decode cX8_spinsters 1 = .ok (.aload_n 0, 1) := by decide +kernel
theorem dX8_spinsters_2 : decode cX8_spinsters 2 = .ok (.getfield 23, 3) := by decide +kernel
theorem dX8_spinsters_5 : decode cX8_spinsters 5 = .ok (.getfield 108, 3) := by decide +kernel
theorem dX8_spinsters_8 : decode cX8_spinsters 8 = .ok (.ishl, 1) := by decide +kernel
theorem dX8_spinsters_9 : decode cX8_spinsters 9 = .ok (.iconst 1, 1) := by decide +kernel
theorem dX8_spinsters_10 : decode cX8_spinsters 10 = .ok (.isub, 1) := by decide +kernel
theorem dX8_spinsters_11 : decode cX8_spinsters 11 = .ok (.istore_n 1, 1) := by decide +kernel
theorem dX8_spinsters_12 : decode cX8_spinsters 12 = .ok (.iconst 0, 1) := by decide +kernel
theorem dX8_spinsters_13 : decode cX8_spinsters 13 = .ok (.istore_n 2, 1) := by decide +kernel
theorem dX8_spinsters_14 : decode cX8_spinsters 14 = .ok (.iload_n 2, 1) := by decide +kernel
theorem dX8_spinsters_15 : decode cX8_spinsters 15 = .ok (.aload_n 0, 1) := by decide +kernel
theorem dX8_spinsters_16 : decode cX8_spinsters 16 = .ok (.getfield 23, 3) := by decide +kernel
theorem dX8_spinsters_19 : decode cX8_spinsters 19 = .ok (.getfield 99, 3) := by decide +kernel
theorem dX8_spinsters_22 : decode cX8_spinsters 22 = .ok (.if_icmp .ge 19, 3) := by decide +kernel
theorem dX8_spinsters_41 : decode cX8_spinsters 41 = .ok (.iload_n 1, 1) := by decide +kernel
theorem dX8_spinsters_42 : decode cX8_spinsters 42 = .ok (.ireturn, 1) := by decide +kernel
theorem dX8_spread_0 : decode cX8_spread 0 = .ok (.iload_n 1, 1) := by decide +kernel
theorem dX8_spread_1 : decode cX8_spread 1 = .ok (.istore_n 3, 1) := by decide +kernel
theorem dX8_spread_2 : decode cX8_spread 2 = .ok (.aload_n 0, 1) := by decide +kernel
theorem dX8_spread_3 : decode cX8_spread 3 = .ok (.getfield 23, 3) := by decide +kernel
theorem dX8_spread_6 : decode cX8_spread 6 = .ok (.getfield 99, 3) := by decide +kernel
theorem dX8_spread_9 : decode cX8_spread 9 = .ok (.iconst 1, 1) := by decide +kernel
theorem dX8_spread_10 : decode cX8_spread 10 = .ok (.isub, 1) := by decide +kernel
theorem dX8_spread_11 : decode cX8_spread 11 = .ok (.istore 4, 2) := by decide +kernel
theorem dX8_spread_13 : decode cX8_spread 13 = .ok (.iload 4, 2) := by decide +kernel
theorem dX8_spread_15 : decode cX8_spread 15 = .ok (.ifCond .lt 39, 3) := by decide +kernel
theorem dX8_spread_54 : decode cX8_spread 54 = .ok (.return_, 1) := by decide +kernel
theorem dX8_sure_0 : decode cX8_sure 0 = .ok (.iload_n 1, 1) := by decide +kernel
theorem dX8_sure_1 : decode cX8_sure 1 = .ok (.ifCond .lt 23, 3) := by decide +kernel
theorem dX8_sure_4 : decode cX8_sure 4 = .ok (.iload_n 1, 1) := by decide +kernel
theorem dX8_sure_5 : decode cX8_sure 5 = .ok (.iconst 3, 1) := by decide +kernel
theorem dX8_sure_6 : decode cX8_sure 6 = .ok (.if_icmp .ge 18, 3) := by decide +kernel
theorem dX8_sure_9 : decode cX8_sure 9 = .ok (.aload_n 0, 1) := by decide +kernel
theorem dX8_sure_10 : decode cX8_sure 10 = .ok (.getfield 55, 3) := by decide +kernel
theorem dX8_sure_13 : decode cX8_sure 13 = .ok (.aload_n 0, 1) := by decide +kernel
theorem dX8_sure_14 : decode cX8_sure 14 = .ok (.getfield 23, 3) := by decide +kernel
theorem dX8_sure_17 : decode cX8_sure 17 = .ok (.iload_n 2, 1) := by decide +kernel
theorem dX8_sure_18 : decode cX8_sure 18 = .ok (.invokevirtual 332, 3) := by decide +kernel
theorem dX8_sure_21 : decode cX8_sure 21 = .ok (.ifCond .ne 5, 3) := by decide +kernel
theorem dX8_sure_24 : decode cX8_sure 24 = .ok (.iconst (-1), 1) := by decide +kernel
theorem dX8_sure_25 : decode cX8_sure 25 = .ok (.ireturn, 1) := by decide +kernel
theorem dX8_swap_0 : decode cX8_swap 0 = .ok (.iload_n 1, 1) := by decide +kernel
theorem dX8_swap_1 : decode cX8_swap 1 = .ok (.ifCond .lt 8, 3) := by decide +kernel
theorem dX8_swap_4 : decode cX8_swap 4 = .ok (.iload_n 1, 1) := by decide +kernel
theorem dX8_swap_5 : decode cX8_swap 5 = .ok (.iconst 1, 1) := by decide +kernel
theorem dX8_swap_6 : decode cX8_swap 6 = .ok (.if_icmp .le 5, 3) := by decide +kernel
theorem dX8_swap_9 : decode cX8_swap 9 = .ok (.iconst (-1), 1) := by decide +kernel
theorem dX8_swap_10 : decode cX8_swap 10 = .ok (.ireturn, 1) := by decide +kernel
theorem dX8_swap_11 : decode cX8_swap 11 = .ok (.iconst 0, 1) := by decide +kernel
theorem dX8_swap_12 : decode cX8_swap 12 = .ok (.istore_n 2, 1) := by decide +kernel
theorem dX8_swap_13 : decode cX8_swap 13 = .ok (.iload_n 2, 1) := by decide +kernel
theorem dX8_swap_14 : decode cX8_swap 14 = .ok (.aload_n 0, 1) := by decide +kernel
theorem dX8_swap_15 : decode cX8_swap 15 = .ok (.getfield 23, 3) := by decide +kernel
theorem dX8_swap_18 : decode cX8_swap 18 = .ok (.getfield 99, 3) := by decide +kernel
theorem dX8_swap_21 : decode cX8_swap 21 = .ok (.if_icmp .ge 49, 3) := by decide +kernel
theorem dX8_swap_70 : decode cX8_swap 70 = .ok (.iconst (-1), 1) := by decide +kernel
theorem dX8_swap_71 : decode cX8_swap 71 = .ok (.ireturn, 1) := by decide +kernel
theorem dX8_takes_0 : decode cX8_takes 0 = .ok (.aload_n 0, 1) := by decide +kernel
theorem dX8_takes_1 : decode cX8_takes 1 = .ok (.iload_n 1, 1) := by decide +kernel
theorem dX8_takes_2 : decode cX8_takes 2 = .ok (.invokevirtual 138, 3) := by decide +kernel
theorem dX8_takes_5 : decode cX8_takes 5 = .ok (.ifCond .eq 11, 3) := by decide +kernel
theorem dX8_takes_16 : decode cX8_takes 16 = .ok (.iconst (-1), 1) := by decide +kernel
theorem dX8_takes_17 : decode cX8_takes 17 = .ok (.ireturn, 1) := by decide +kernel
theorem dX8_trialIsBarter_0 : decode cX8_trialIsBarter 0 = .ok (.iconst 0, 1) := by decide +kernel
theorem dX8_trialIsBarter_1 : decode cX8_trialIsBarter 1 = .ok (.istore_n 1, 1) := by decide +kernel
theorem dX8_trialIsBarter_2 : decode cX8_trialIsBarter 2 = .ok (.iconst 0, 1) := by decide +kernel
theorem dX8_trialIsBarter_3 : decode cX8_trialIsBarter 3 = .ok (.istore_n 2, 1) := by decide +kernel
theorem dX8_trialIsBarter_4 : decode cX8_trialIsBarter 4 = .ok (.iload_n 2, 1) := by decide +kernel
theorem dX8_trialIsBarter_5 : decode cX8_trialIsBarter 5 = .ok (.aload_n 0, 1) := by decide +kernel
theorem dX8_trialIsBarter_6 : decode cX8_trialIsBarter 6 = .ok (.getfield 23, 3) := by decide +kernel
theorem dX8_trialIsBarter_9 : decode cX8_trialIsBarter 9 = .ok (.getfield 99, 3) := by decide +kernel
theorem dX8_trialIsBarter_12 : decode cX8_trialIsBarter 12 = .ok (.if_icmp .ge 89, 3) := by decide +kernel
theorem dX8_trialIsBarter_101 : decode cX8_trialIsBarter 101 = .ok (.iconst 1, 1) := by decide +kernel
theorem dX8_trialIsBarter_102 : decode cX8_trialIsBarter 102 = .ok (.ireturn, 1) := by decide +kernel
theorem dX8_trialIsOrder_0 : decode cX8_trialIsOrder 0 = .ok (.iconst 0, 1) := by decide +kernel
theorem dX8_trialIsOrder_1 : decode cX8_trialIsOrder 1 = .ok (.istore_n 1, 1) := by decide +kernel
theorem dX8_trialIsOrder_2 : decode cX8_trialIsOrder 2 = .ok (.iconst 0, 1) := by decide +kernel
theorem dX8_trialIsOrder_3 : decode cX8_trialIsOrder 3 = .ok (.istore_n 2, 1) := by decide +kernel
theorem dX8_trialIsOrder_4 : decode cX8_trialIsOrder 4 = .ok (.iload_n 2, 1) := by decide +kernel
theorem dX8_trialIsOrder_5 : decode cX8_trialIsOrder 5 = .ok (.aload_n 0, 1) := by decide +kernel
theorem dX8_trialIsOrder_6 : decode cX8_trialIsOrder 6 = .ok (.getfield 23, 3) := by decide +kernel
theorem dX8_trialIsOrder_9 : decode cX8_trialIsOrder 9 = .ok (.getfield 99, 3) := by decide +kernel
theorem dX8_trialIsOrder_12 : decode cX8_trialIsOrder 12 = .ok (.if_icmp .ge 20, 3) := by decide +kernel
theorem dX8_trialIsOrder_32 : decode cX8_trialIsOrder 32 = .ok (.iload_n 1, 1) := by decide +kernel
theorem dX8_trialIsOrder_33 : decode cX8_trialIsOrder 33 = .ok (.invokestatic 232, 3) := by decide +kernel
theorem dX8_trialIsOrder_36 : decode cX8_trialIsOrder 36 = .ok (.aload_n 0, 1) := by decide +kernel
theorem dX8_trialIsOrder_37 : decode cX8_trialIsOrder 37 = .ok (.getfield 23, 3) := by decide +kernel
theorem dX8_trialIsOrder_40 : decode cX8_trialIsOrder 40 = .ok (.getfield 99, 3) := by decide +kernel
theorem dX8_trialIsOrder_43 : decode cX8_trialIsOrder 43 = .ok (.if_icmp .ne 7, 3) := by decide +kernel
theorem dX8_trialIsOrder_46 : decode cX8_trialIsOrder 46 = .ok (.iconst 1, 1) := by decide +kernel
theorem dX8_trialIsOrder_47 : decode cX8_trialIsOrder 47 = .ok (.goto 4, 3) := by decide +kernel
theorem dX8_trialIsOrder_51 : decode cX8_trialIsOrder 51 = .ok (.ireturn, 1) := by decide +kernel
theorem dX8_tune_0 : decode cX8_tune 0 = .ok (.aload_n 0, 1) := by decide +kernel
theorem dX8_tune_1 : decode cX8_tune 1 = .ok (.iload_n 1, 1) := by decide +kernel
theorem dX8_tune_2 : decode cX8_tune 2 = .ok (.invokevirtual 111, 3) := by decide +kernel
theorem dX8_tune_5 : decode cX8_tune 5 = .ok (.ifCond .ne 6, 3) := by decide +kernel
theorem dX8_tune_8 : decode cX8_tune 8 = .ok (.bipush (-2), 2) := by decide +kernel
theorem dX8_tune_10 : decode cX8_tune 10 = .ok (.ireturn, 1) := by decide +kernel
theorem dX8_tunesWith_0 : decode cX8_tunesWith 0 = .ok (.iconst 0, 1) := by decide +kernel
theorem dX8_tunesWith_1 : decode cX8_tunesWith 1 = .ok (.istore 5, 2) := by decide +kernel
theorem dX8_tunesWith_3 : decode cX8_tunesWith 3 = .ok (.iconst 0, 1) := by decide +kernel
theorem dX8_tunesWith_4 : decode cX8_tunesWith 4 = .ok (.istore 6, 2) := by decide +kernel
theorem dX8_tunesWith_6 : decode cX8_tunesWith 6 = .ok (.iload 6, 2) := by decide +kernel
theorem dX8_tunesWith_8 : decode cX8_tunesWith 8 = .ok (.aload_n 0, 1) := by decide +kernel
theorem dX8_tunesWith_9 : decode cX8_tunesWith 9 = .ok (.getfield 23, 3) := by decide +kernel
theorem dX8_tunesWith_12 : decode cX8_tunesWith 12 = .ok (.getfield 108, 3) := by decide +kernel
theorem dX8_tunesWith_15 : decode cX8_tunesWith 15 = .ok (.if_icmp .ge 73, 3) := by decide +kernel
theorem dX8_tunesWith_88 : decode cX8_tunesWith 88 = .ok (.iload 5, 2) := by decide +kernel
theorem dX8_tunesWith_90 : decode cX8_tunesWith 90 = .ok (.ireturn, 1) := by decide +kernel
theorem dX8_undo_0 : decode cX8_undo 0 = .ok (.aload_n 0, 1) := by decide +kernel
theorem dX8_undo_1 : decode cX8_undo 1 = .ok (.getfield 40, 3) := by decide +kernel
theorem dX8_undo_4 : decode cX8_undo 4 = .ok (.aload_n 0, 1) := by decide +kernel
theorem dX8_undo_5 : decode cX8_undo 5 = .ok (.getfield 30, 3) := by decide +kernel
theorem dX8_undo_8 : decode cX8_undo 8 = .ok (.invokevirtual 205, 3) := by decide +kernel
theorem dX8_undo_11 : decode cX8_undo 11 = .ok (.ireturn, 1) := by decide +kernel
theorem dX8_untell_0 : decode cX8_untell 0 = .ok (.aload_n 0, 1) := by decide +kernel
theorem dX8_untell_1 : decode cX8_untell 1 = .ok (.getfield 55, 3) := by decide +kernel
theorem dX8_untell_4 : decode cX8_untell 4 = .ok (.iload_n 1, 1) := by decide +kernel
theorem dX8_untell_5 : decode cX8_untell 5 = .ok (.aload_n 0, 1) := by decide +kernel
theorem dX8_untell_6 : decode cX8_untell 6 = .ok (.getfield 321, 3) := by decide +kernel
theorem dX8_untell_9 : decode cX8_untell 9 = .ok (.invokevirtual 328, 3) := by decide +kernel
theorem dX8_untell_12 : decode cX8_untell 12 = .ok (.ireturn, 1) := by decide +kernel
theorem dX8_walk_0 : decode cX8_walk 0 = .ok (.iload_n 1, 1) := by decide +kernel
theorem dX8_walk_1 : decode cX8_walk 1 = .ok (.invokestatic 260, 3) := by decide +kernel
theorem dX8_walk_4 : decode cX8_walk 4 = .ok (.ifCond .ne 5, 3) := by decide +kernel
theorem dX8_walk_7 : decode cX8_walk 7 = .ok (.iconst (-1), 1) := by decide +kernel
theorem dX8_walk_8 : decode cX8_walk 8 = .ok (.ireturn, 1) := by decide +kernel
theorem dX8_walk_9 : decode cX8_walk 9 = .ok (.sipush 400, 3) := by decide +kernel
theorem dX8_walk_12 : decode cX8_walk 12 = .ok (.istore_n 2, 1) := by decide +kernel
theorem dX8_walk_13 : decode cX8_walk 13 = .ok (.aload_n 0, 1) := by decide +kernel
theorem dX8_walk_14 : decode cX8_walk 14 = .ok (.aload_n 0, 1) := by decide +kernel
theorem dX8_walk_15 : decode cX8_walk 15 = .ok (.getfield 23, 3) := by decide +kernel
theorem dX8_walk_18 : decode cX8_walk 18 = .ok (.getfield 99, 3) := by decide +kernel
theorem dX8_walk_21 : decode cX8_walk 21 = .ok (.invokevirtual 241, 3) := by decide +kernel
theorem dX8_walk_24 : decode cX8_walk 24 = .ok (.istore_n 3, 1) := by decide +kernel
theorem dX8_walk_25 : decode cX8_walk 25 = .ok (.iconst 0, 1) := by decide +kernel
theorem dX8_walk_26 : decode cX8_walk 26 = .ok (.istore 4, 2) := by decide +kernel
theorem dX8_walk_28 : decode cX8_walk 28 = .ok (.iload 4, 2) := by decide +kernel
theorem dX8_walk_30 : decode cX8_walk 30 = .ok (.iload_n 3, 1) := by decide +kernel
theorem dX8_walk_31 : decode cX8_walk 31 = .ok (.if_icmp .ge 55, 3) := by decide +kernel
theorem dX8_walk_34 : decode cX8_walk 34 = .ok (.aload_n 0, 1) := by decide +kernel
theorem dX8_walk_35 : decode cX8_walk 35 = .ok (.iload 4, 2) := by decide +kernel
theorem dX8_walk_37 : decode cX8_walk 37 = .ok (.aload_n 0, 1) := by decide +kernel
theorem dX8_walk_38 : decode cX8_walk 38 = .ok (.getfield 23, 3) := by decide +kernel
theorem dX8_walk_41 : decode cX8_walk 41 = .ok (.getfield 99, 3) := by decide +kernel
theorem dX8_walk_44 : decode cX8_walk 44 = .ok (.invokevirtual 244, 3) := by decide +kernel
theorem dX8_walk_47 : decode cX8_walk 47 = .ok (.aload_n 0, 1) := by decide +kernel
theorem dX8_walk_48 : decode cX8_walk 48 = .ok (.invokevirtual 263, 3) := by decide +kernel
theorem dX8_walk_51 : decode cX8_walk 51 = .ok (.ifCond .eq 11, 3) := by decide +kernel
theorem dX8_walk_54 : decode cX8_walk 54 = .ok (.aload_n 0, 1) := by decide +kernel
theorem dX8_walk_55 : decode cX8_walk 55 = .ok (.iload_n 1, 1) := by decide +kernel
theorem dX8_walk_56 : decode cX8_walk 56 = .ok (.invokevirtual 267, 3) := by decide +kernel
theorem dX8_walk_59 : decode cX8_walk 59 = .ok (.goto 6, 3) := by decide +kernel
theorem dX8_walk_65 : decode cX8_walk 65 = .ok (.istore 5, 2) := by decide +kernel
theorem dX8_walk_67 : decode cX8_walk 67 = .ok (.iload 5, 2) := by decide +kernel
theorem dX8_walk_69 : decode cX8_walk 69 = .ok (.iload_n 2, 1) := by decide +kernel
theorem dX8_walk_70 : decode cX8_walk 70 = .ok (.if_icmp .ge 10, 3) := by decide +kernel
theorem dX8_walk_73 : decode cX8_walk 73 = .ok (.iload 5, 2) := by decide +kernel
theorem dX8_walk_75 : decode cX8_walk 75 = .ok (.istore_n 2, 1) := by decide +kernel
theorem dX8_walk_76 : decode cX8_walk 76 = .ok (.aload_n 0, 1) := by decide +kernel
theorem dX8_walk_77 : decode cX8_walk 77 = .ok (.invokevirtual 253, 3) := by decide +kernel
theorem dX8_walk_80 : decode cX8_walk 80 = .ok (.iinc 4 1, 3) := by decide +kernel
theorem dX8_walk_83 : decode cX8_walk 83 = .ok (.goto (-55), 3) := by decide +kernel
theorem dX8_walk_86 : decode cX8_walk 86 = .ok (.iload_n 2, 1) := by decide +kernel
theorem dX8_walk_87 : decode cX8_walk 87 = .ok (.ireturn, 1) := by decide +kernel
theorem dX8_wayFrom_0 : decode cX8_wayFrom 0 = .ok (.iconst 0, 1) := by decide +kernel
theorem dX8_wayFrom_1 : decode cX8_wayFrom 1 = .ok (.istore_n 2, 1) := by decide +kernel
theorem dX8_wayFrom_2 : decode cX8_wayFrom 2 = .ok (.iload_n 1, 1) := by decide +kernel
theorem dX8_wayFrom_3 : decode cX8_wayFrom 3 = .ok (.istore_n 3, 1) := by decide +kernel
theorem dX8_wayFrom_4 : decode cX8_wayFrom 4 = .ok (.iconst 0, 1) := by decide +kernel
theorem dX8_wayFrom_5 : decode cX8_wayFrom 5 = .ok (.istore 4, 2) := by decide +kernel
theorem dX8_wayFrom_7 : decode cX8_wayFrom 7 = .ok (.iload 4, 2) := by decide +kernel
theorem dX8_wayFrom_9 : decode cX8_wayFrom 9 = .ok (.aload_n 0, 1) := by decide +kernel
theorem dX8_wayFrom_10 : decode cX8_wayFrom 10 = .ok (.getfield 23, 3) := by decide +kernel
theorem dX8_wayFrom_13 : decode cX8_wayFrom 13 = .ok (.getfield 99, 3) := by decide +kernel
theorem dX8_wayFrom_16 : decode cX8_wayFrom 16 = .ok (.if_icmp .ge 39, 3) := by decide +kernel
theorem dX8_wayFrom_55 : decode cX8_wayFrom 55 = .ok (.iload_n 2, 1) := by decide +kernel
theorem dX8_wayFrom_56 : decode cX8_wayFrom 56 = .ok (.ireturn, 1) := by decide +kernel
theorem dX8_week_0 : decode cX8_week 0 = .ok (.aload_n 0, 1) := by decide +kernel
theorem dX8_week_1 : decode cX8_week 1 = .ok (.getfield 30, 3) := by decide +kernel
theorem dX8_week_4 : decode cX8_week 4 = .ok (.getfield 168, 3) := by decide +kernel
theorem dX8_week_7 : decode cX8_week 7 = .ok (.sipush 999, 3) := by decide +kernel
theorem dX8_week_10 : decode cX8_week 10 = .ok (.if_icmp .lt 5, 3) := by decide +kernel
theorem dX8_week_15 : decode cX8_week 15 = .ok (.aload_n 0, 1) := by decide +kernel
theorem dX8_week_16 : decode cX8_week 16 = .ok (.aload_n 0, 1) := by decide +kernel
theorem dX8_week_17 : decode cX8_week 17 = .ok (.getfield 30, 3) := by decide +kernel
theorem dX8_week_20 : decode cX8_week 20 = .ok (.aload_n 0, 1) := by decide +kernel
theorem dX8_week_21 : decode cX8_week 21 = .ok (.getfield 23, 3) := by decide +kernel
theorem dX8_week_24 : decode cX8_week 24 = .ok (.getfield 171, 3) := by decide +kernel
theorem dX8_week_27 : decode cX8_week 27 = .ok (.invokevirtual 174, 3) := by decide +kernel
theorem dX8_week_30 : decode cX8_week 30 = .ok (.istore_n 1, 1) := by decide +kernel
theorem dX8_week_31 : decode cX8_week 31 = .ok (.aload_n 0, 1) := by decide +kernel
theorem dX8_week_32 : decode cX8_week 32 = .ok (.getfield 40, 3) := by decide +kernel
theorem dX8_week_35 : decode cX8_week 35 = .ok (.aload_n 0, 1) := by decide +kernel
theorem dX8_week_36 : decode cX8_week 36 = .ok (.getfield 30, 3) := by decide +kernel
theorem dX8_week_39 : decode cX8_week 39 = .ok (.invokevirtual 178, 3) := by decide +kernel
theorem dX8_week_42 : decode cX8_week 42 = .ok (.iload_n 1, 1) := by decide +kernel
theorem dX8_week_43 : decode cX8_week 43 = .ok (.ireturn, 1) := by decide +kernel
theorem dX8_will_0 : decode cX8_will 0 = .ok (.aload_n 0, 1) := by decide +kernel
theorem dX8_will_1 : decode cX8_will 1 = .ok (.iload_n 1, 1) := by decide +kernel
theorem dX8_will_2 : decode cX8_will 2 = .ok (.invokevirtual 111, 3) := by decide +kernel
theorem dX8_will_5 : decode cX8_will 5 = .ok (.ifCond .eq 19, 3) := by decide +kernel
theorem dX8_will_24 : decode cX8_will 24 = .ok (.bipush (-2), 2) := by decide +kernel
theorem dX8_will_26 : decode cX8_will 26 = .ok (.ireturn, 1) := by decide +kernel
theorem dX9_about_0 : decode cX9_about 0 = .ok (.iload_n 1, 1) := by decide +kernel
theorem dX9_about_1 : decode cX9_about 1 = .ok (.tableswitch 171 0 14 #[75, 80, 85, 95, 100, 105, 113, 121, 126, 131, 136, 141, 146, 156, 161], 75) := by decide +kernel
theorem dX9_about_76 : decode cX9_about 76 = .ok (.aload_n 0, 1) := by decide +kernel
theorem dX9_about_77 : decode cX9_about 77 = .ok (.invokevirtual 358, 3) := by decide +kernel
theorem dX9_about_80 : decode cX9_about 80 = .ok (.ireturn, 1) := by decide +kernel
theorem dX9_about_81 : decode cX9_about 81 = .ok (.aload_n 0, 1) := by decide +kernel
theorem dX9_about_82 : decode cX9_about 82 = .ok (.invokevirtual 351, 3) := by decide +kernel
theorem dX9_about_85 : decode cX9_about 85 = .ok (.ireturn, 1) := by decide +kernel
theorem dX9_about_86 : decode cX9_about 86 = .ok (.aload_n 0, 1) := by decide +kernel
theorem dX9_about_87 : decode cX9_about 87 = .ok (.getfield 20, 3) := by decide +kernel
theorem dX9_about_90 : decode cX9_about 90 = .ok (.aload_n 0, 1) := by decide +kernel
theorem dX9_about_91 : decode cX9_about 91 = .ok (.getfield 249, 3) := by decide +kernel
theorem dX9_about_94 : decode cX9_about 94 = .ok (.iaload, 1) := by decide +kernel
theorem dX9_about_95 : decode cX9_about 95 = .ok (.ireturn, 1) := by decide +kernel
theorem dX9_about_96 : decode cX9_about 96 = .ok (.aload_n 0, 1) := by decide +kernel
theorem dX9_about_97 : decode cX9_about 97 = .ok (.invokevirtual 514, 3) := by decide +kernel
theorem dX9_about_100 : decode cX9_about 100 = .ok (.ireturn, 1) := by decide +kernel
theorem dX9_about_101 : decode cX9_about 101 = .ok (.aload_n 0, 1) := by decide +kernel
theorem dX9_about_102 : decode cX9_about 102 = .ok (.invokevirtual 517, 3) := by decide +kernel
theorem dX9_about_105 : decode cX9_about 105 = .ok (.ireturn, 1) := by decide +kernel
theorem dX9_about_106 : decode cX9_about 106 = .ok (.aload_n 0, 1) := by decide +kernel
theorem dX9_about_107 : decode cX9_about 107 = .ok (.getfield 88, 3) := by decide +kernel
theorem dX9_about_110 : decode cX9_about 110 = .ok (.bipush 24, 2) := by decide +kernel
theorem dX9_about_112 : decode cX9_about 112 = .ok (.iaload, 1) := by decide +kernel
theorem dX9_about_113 : decode cX9_about 113 = .ok (.ireturn, 1) := by decide +kernel
theorem dX9_about_114 : decode cX9_about 114 = .ok (.aload_n 0, 1) := by decide +kernel
theorem dX9_about_115 : decode cX9_about 115 = .ok (.getfield 88, 3) := by decide +kernel
theorem dX9_about_118 : decode cX9_about 118 = .ok (.bipush 25, 2) := by decide +kernel
theorem dX9_about_120 : decode cX9_about 120 = .ok (.iaload, 1) := by decide +kernel
theorem dX9_about_121 : decode cX9_about 121 = .ok (.ireturn, 1) := by decide +kernel
theorem dX9_about_122 : decode cX9_about 122 = .ok (.aload_n 0, 1) := by decide +kernel
theorem dX9_about_123 : decode cX9_about 123 = .ok (.getfield 364, 3) := by decide +kernel
theorem dX9_about_126 : decode cX9_about 126 = .ok (.ireturn, 1) := by decide +kernel
theorem dX9_about_127 : decode cX9_about 127 = .ok (.aload_n 0, 1) := by decide +kernel
theorem dX9_about_128 : decode cX9_about 128 = .ok (.getfield 367, 3) := by decide +kernel
theorem dX9_about_131 : decode cX9_about 131 = .ok (.ireturn, 1) := by decide +kernel
theorem dX9_about_132 : decode cX9_about 132 = .ok (.aload_n 0, 1) := by decide +kernel
theorem dX9_about_133 : decode cX9_about 133 = .ok (.getfield 370, 3) := by decide +kernel
theorem dX9_about_136 : decode cX9_about 136 = .ok (.ireturn, 1) := by decide +kernel
theorem dX9_about_137 : decode cX9_about 137 = .ok (.aload_n 0, 1) := by decide +kernel
theorem dX9_about_138 : decode cX9_about 138 = .ok (.getfield 492, 3) := by decide +kernel
theorem dX9_about_141 : decode cX9_about 141 = .ok (.ireturn, 1) := by decide +kernel
theorem dX9_about_142 : decode cX9_about 142 = .ok (.aload_n 0, 1) := by decide +kernel
theorem dX9_about_143 : decode cX9_about 143 = .ok (.getfield 246, 3) := by decide +kernel
theorem dX9_about_146 : decode cX9_about 146 = .ok (.ireturn, 1) := by decide +kernel
theorem dX9_about_147 : decode cX9_about 147 = .ok (.aload_n 0, 1) := by decide +kernel
theorem dX9_about_148 : decode cX9_about 148 = .ok (.getfield 30, 3) := by decide +kernel
theorem dX9_about_151 : decode cX9_about 151 = .ok (.aload_n 0, 1) := by decide +kernel
theorem dX9_about_152 : decode cX9_about 152 = .ok (.getfield 249, 3) := by decide +kernel
theorem dX9_about_155 : decode cX9_about 155 = .ok (.iaload, 1) := by decide +kernel
theorem dX9_about_156 : decode cX9_about 156 = .ok (.ireturn, 1) := by decide +kernel
theorem dX9_about_157 : decode cX9_about 157 = .ok (.aload_n 0, 1) := by decide +kernel
theorem dX9_about_158 : decode cX9_about 158 = .ok (.getfield 373, 3) := by decide +kernel
theorem dX9_about_161 : decode cX9_about 161 = .ok (.ireturn, 1) := by decide +kernel
theorem dX9_about_162 : decode cX9_about 162 = .ok (.aload_n 0, 1) := by decide +kernel
theorem dX9_about_163 : decode cX9_about 163 = .ok (.getfield 33, 3) := by decide +kernel
theorem dX9_about_166 : decode cX9_about 166 = .ok (.aload_n 0, 1) := by decide +kernel
theorem dX9_about_167 : decode cX9_about 167 = .ok (.getfield 249, 3) := by decide +kernel
theorem dX9_about_170 : decode cX9_about 170 = .ok (.iaload, 1) := by decide +kernel
theorem dX9_about_171 : decode cX9_about 171 = .ok (.ireturn, 1) := by decide +kernel
theorem dX9_about_172 : decode cX9_about 172 = .ok (.iconst (-1), 1) := by decide +kernel
theorem dX9_about_173 : decode cX9_about 173 = .ok (.ireturn, 1) := by decide +kernel
theorem dX9_alike_0 : decode cX9_alike 0 = .ok (.aload_n 0, 1) := by decide +kernel
theorem dX9_alike_1 : decode cX9_alike 1 = .ok (.iload_n 1, 1) := by decide +kernel
theorem dX9_alike_2 : decode cX9_alike 2 = .ok (.invokevirtual 412, 3) := by decide +kernel
theorem dX9_alike_5 : decode cX9_alike 5 = .ok (.ifCond .eq 11, 3) := by decide +kernel
theorem dX9_alike_16 : decode cX9_alike 16 = .ok (.iconst (-1), 1) := by decide +kernel
theorem dX9_alike_17 : decode cX9_alike 17 = .ok (.ireturn, 1) := by decide +kernel
theorem dX9_along_0 : decode cX9_along 0 = .ok (.iload_n 1, 1) := by decide +kernel
theorem dX9_along_1 : decode cX9_along 1 = .ok (.iconst 0, 1) := by decide +kernel
theorem dX9_along_2 : decode cX9_along 2 = .ok (.bipush 99, 2) := by decide +kernel
theorem dX9_along_4 : decode cX9_along 4 = .ok (.invokestatic 354, 3) := by decide +kernel
theorem dX9_along_7 : decode cX9_along 7 = .ok (.ifCond .eq 13, 3) := by decide +kernel
theorem dX9_along_10 : decode cX9_along 10 = .ok (.iload_n 2, 1) := by decide +kernel
theorem dX9_along_11 : decode cX9_along 11 = .ok (.iconst 0, 1) := by decide +kernel
theorem dX9_along_12 : decode cX9_along 12 = .ok (.bipush 99, 2) := by decide +kernel
theorem dX9_along_14 : decode cX9_along 14 = .ok (.invokestatic 354, 3) := by decide +kernel
theorem dX9_along_17 : decode cX9_along 17 = .ok (.ifCond .ne 5, 3) := by decide +kernel
theorem dX9_along_20 : decode cX9_along 20 = .ok (.iconst (-1), 1) := by decide +kernel
theorem dX9_along_21 : decode cX9_along 21 = .ok (.ireturn, 1) := by decide +kernel
theorem dX9_along_22 : decode cX9_along 22 = .ok (.iconst 0, 1) := by decide +kernel
theorem dX9_along_23 : decode cX9_along 23 = .ok (.istore_n 3, 1) := by decide +kernel
theorem dX9_along_24 : decode cX9_along 24 = .ok (.iconst 0, 1) := by decide +kernel
theorem dX9_along_25 : decode cX9_along 25 = .ok (.istore 4, 2) := by decide +kernel
theorem dX9_along_27 : decode cX9_along 27 = .ok (.iload 4, 2) := by decide +kernel
theorem dX9_along_29 : decode cX9_along 29 = .ok (.aload_n 0, 1) := by decide +kernel
theorem dX9_along_30 : decode cX9_along 30 = .ok (.invokevirtual 358, 3) := by decide +kernel
theorem dX9_along_33 : decode cX9_along 33 = .ok (.if_icmp .ge 44, 3) := by decide +kernel
theorem dX9_along_77 : decode cX9_along 77 = .ok (.iload_n 3, 1) := by decide +kernel
theorem dX9_along_78 : decode cX9_along 78 = .ok (.ireturn, 1) := by decide +kernel
theorem dX9_ask_0 : decode cX9_ask 0 = .ok (.aload_n 0, 1) := by decide +kernel
theorem dX9_ask_1 : decode cX9_ask 1 = .ok (.iload_n 2, 1) := by decide +kernel
theorem dX9_ask_2 : decode cX9_ask 2 = .ok (.invokevirtual 508, 3) := by decide +kernel
theorem dX9_ask_5 : decode cX9_ask 5 = .ok (.iload_n 1, 1) := by decide +kernel
theorem dX9_ask_6 : decode cX9_ask 6 = .ok (.iconst 0, 1) := by decide +kernel
theorem dX9_ask_7 : decode cX9_ask 7 = .ok (.iconst 1, 1) := by decide +kernel
theorem dX9_ask_8 : decode cX9_ask 8 = .ok (.invokestatic 354, 3) := by decide +kernel
theorem dX9_ask_11 : decode cX9_ask 11 = .ok (.ifCond .eq 17, 3) := by decide +kernel
theorem dX9_ask_14 : decode cX9_ask 14 = .ok (.aload_n 0, 1) := by decide +kernel
theorem dX9_ask_15 : decode cX9_ask 15 = .ok (.invokevirtual 351, 3) := by decide +kernel
theorem dX9_ask_18 : decode cX9_ask 18 = .ok (.ifCond .eq 10, 3) := by decide +kernel
theorem dX9_ask_28 : decode cX9_ask 28 = .ok (.iconst (-1), 1) := by decide +kernel
theorem dX9_ask_29 : decode cX9_ask 29 = .ok (.ireturn, 1) := by decide +kernel
theorem dX9_barter_0 : decode cX9_barter 0 = .ok (.iconst (-1), 1) := by decide +kernel
theorem dX9_barter_1 : decode cX9_barter 1 = .ok (.istore_n 1, 1) := by decide +kernel
theorem dX9_barter_2 : decode cX9_barter 2 = .ok (.ldc_w 427, 3) := by decide +kernel
theorem dX9_barter_5 : decode cX9_barter 5 = .ok (.istore_n 2, 1) := by decide +kernel
theorem dX9_barter_6 : decode cX9_barter 6 = .ok (.iconst 0, 1) := by decide +kernel
theorem dX9_barter_7 : decode cX9_barter 7 = .ok (.istore_n 3, 1) := by decide +kernel
theorem dX9_barter_8 : decode cX9_barter 8 = .ok (.iload_n 3, 1) := by decide +kernel
theorem dX9_barter_9 : decode cX9_barter 9 = .ok (.aload_n 0, 1) := by decide +kernel
theorem dX9_barter_10 : decode cX9_barter 10 = .ok (.invokevirtual 351, 3) := by decide +kernel
theorem dX9_barter_13 : decode cX9_barter 13 = .ok (.iconst 1, 1) := by decide +kernel
theorem dX9_barter_14 : decode cX9_barter 14 = .ok (.iadd, 1) := by decide +kernel
theorem dX9_barter_15 : decode cX9_barter 15 = .ok (.aload_n 0, 1) := by decide +kernel
theorem dX9_barter_16 : decode cX9_barter 16 = .ok (.invokevirtual 358, 3) := by decide +kernel
theorem dX9_barter_19 : decode cX9_barter 19 = .ok (.invokestatic 462, 3) := by decide +kernel
theorem dX9_barter_22 : decode cX9_barter 22 = .ok (.if_icmp .ge 30, 3) := by decide +kernel
theorem dX9_barter_25 : decode cX9_barter 25 = .ok (.aload_n 0, 1) := by decide +kernel
theorem dX9_barter_26 : decode cX9_barter 26 = .ok (.iload_n 3, 1) := by decide +kernel
theorem dX9_barter_27 : decode cX9_barter 27 = .ok (.invokevirtual 480, 3) := by decide +kernel
theorem dX9_barter_30 : decode cX9_barter 30 = .ok (.istore 4, 2) := by decide +kernel
theorem dX9_barter_32 : decode cX9_barter 32 = .ok (.iload 4, 2) := by decide +kernel
theorem dX9_barter_34 : decode cX9_barter 34 = .ok (.iload_n 2, 1) := by decide +kernel
theorem dX9_barter_35 : decode cX9_barter 35 = .ok (.if_icmp .gt 6, 3) := by decide +kernel
theorem dX9_barter_41 : decode cX9_barter 41 = .ok (.iload_n 3, 1) := by decide +kernel
theorem dX9_barter_42 : decode cX9_barter 42 = .ok (.istore_n 1, 1) := by decide +kernel
theorem dX9_barter_43 : decode cX9_barter 43 = .ok (.iload 4, 2) := by decide +kernel
theorem dX9_barter_45 : decode cX9_barter 45 = .ok (.istore_n 2, 1) := by decide +kernel
theorem dX9_barter_46 : decode cX9_barter 46 = .ok (.iinc 3 1, 3) := by decide +kernel
theorem dX9_barter_49 : decode cX9_barter 49 = .ok (.goto (-41), 3) := by decide +kernel
theorem dX9_barter_52 : decode cX9_barter 52 = .ok (.aload_n 0, 1) := by decide +kernel
theorem dX9_barter_53 : decode cX9_barter 53 = .ok (.aload_n 0, 1) := by decide +kernel
theorem dX9_barter_54 : decode cX9_barter 54 = .ok (.invokevirtual 358, 3) := by decide +kernel
theorem dX9_barter_57 : decode cX9_barter 57 = .ok (.putfield 373, 3) := by decide +kernel
theorem dX9_barter_60 : decode cX9_barter 60 = .ok (.iconst 0, 1) := by decide +kernel
theorem dX9_barter_61 : decode cX9_barter 61 = .ok (.istore_n 3, 1) := by decide +kernel
theorem dX9_barter_62 : decode cX9_barter 62 = .ok (.iload_n 3, 1) := by decide +kernel
theorem dX9_barter_63 : decode cX9_barter 63 = .ok (.aload_n 0, 1) := by decide +kernel
theorem dX9_barter_64 : decode cX9_barter 64 = .ok (.invokevirtual 358, 3) := by decide +kernel
theorem dX9_barter_67 : decode cX9_barter 67 = .ok (.if_icmp .ge 50, 3) := by decide +kernel
theorem dX9_barter_117 : decode cX9_barter 117 = .ok (.iload_n 2, 1) := by decide +kernel
theorem dX9_barter_118 : decode cX9_barter 118 = .ok (.ireturn, 1) := by decide +kernel
theorem dX9_barterOf_0 : decode cX9_barterOf 0 = .ok (.iconst 0, 1) := by decide +kernel
theorem dX9_barterOf_1 : decode cX9_barterOf 1 = .ok (.istore_n 2, 1) := by decide +kernel
theorem dX9_barterOf_2 : decode cX9_barterOf 2 = .ok (.iconst 0, 1) := by decide +kernel
theorem dX9_barterOf_3 : decode cX9_barterOf 3 = .ok (.istore_n 3, 1) := by decide +kernel
theorem dX9_barterOf_4 : decode cX9_barterOf 4 = .ok (.iconst 0, 1) := by decide +kernel

theorem dX8_later_20 : decode cX8_later 20 = .ok (.if_icmp .le 5, 3) := by decide +kernel
theorem dX8_later_23 : decode cX8_later 23 = .ok (.iconst (-1), 1) := by decide +kernel
theorem dX8_later_24 : decode cX8_later 24 = .ok (.ireturn, 1) := by decide +kernel
theorem dX8_later_25 : decode cX8_later 25 = .ok (.aload_n 0, 1) := by decide +kernel
theorem dX8_later_26 : decode cX8_later 26 = .ok (.dup, 1) := by decide +kernel
theorem dX8_later_27 : decode cX8_later 27 = .ok (.getfield 321, 3) := by decide +kernel
theorem dX8_later_30 : decode cX8_later 30 = .ok (.iload_n 1, 1) := by decide +kernel
theorem dX8_later_31 : decode cX8_later 31 = .ok (.iadd, 1) := by decide +kernel
theorem dX8_later_32 : decode cX8_later 32 = .ok (.putfield 321, 3) := by decide +kernel
theorem dX8_later_35 : decode cX8_later 35 = .ok (.aload_n 0, 1) := by decide +kernel
theorem dX8_later_36 : decode cX8_later 36 = .ok (.getfield 321, 3) := by decide +kernel
theorem dX8_later_39 : decode cX8_later 39 = .ok (.ireturn, 1) := by decide +kernel
theorem dX8_law_0 : decode cX8_law 0 = .ok (.aload_n 0, 1) := by decide +kernel
theorem dX8_law_1 : decode cX8_law 1 = .ok (.iload_n 1, 1) := by decide +kernel
theorem dX8_law_2 : decode cX8_law 2 = .ok (.invokevirtual 138, 3) := by decide +kernel
theorem dX8_law_5 : decode cX8_law 5 = .ok (.ifCond .eq 14, 3) := by decide +kernel
theorem dX8_law_8 : decode cX8_law 8 = .ok (.iload_n 2, 1) := by decide +kernel
theorem dX8_law_9 : decode cX8_law 9 = .ok (.ifCond .lt 10, 3) := by decide +kernel
theorem dX8_law_12 : decode cX8_law 12 = .ok (.iload_n 2, 1) := by decide +kernel
theorem dX8_law_13 : decode cX8_law 13 = .ok (.sipush 999, 3) := by decide +kernel
theorem dX8_law_16 : decode cX8_law 16 = .ok (.if_icmp .le 5, 3) := by decide +kernel
theorem dX8_law_19 : decode cX8_law 19 = .ok (.iconst (-1), 1) := by decide +kernel
theorem dX8_law_20 : decode cX8_law 20 = .ok (.ireturn, 1) := by decide +kernel
theorem dX8_law_21 : decode cX8_law 21 = .ok (.aload_n 0, 1) := by decide +kernel
theorem dX8_law_22 : decode cX8_law 22 = .ok (.iload_n 1, 1) := by decide +kernel
theorem dX8_law_23 : decode cX8_law 23 = .ok (.iload_n 2, 1) := by decide +kernel
theorem dX8_law_24 : decode cX8_law 24 = .ok (.invokevirtual 226, 3) := by decide +kernel
theorem dX8_law_27 : decode cX8_law 27 = .ok (.invokestatic 232, 3) := by decide +kernel
theorem dX8_law_30 : decode cX8_law 30 = .ok (.ireturn, 1) := by decide +kernel
theorem dX8_layTrial_0 : decode cX8_layTrial 0 = .ok (.aload_n 0, 1) := by decide +kernel
theorem dX8_layTrial_1 : decode cX8_layTrial 1 = .ok (.aload_n 0, 1) := by decide +kernel
theorem dX8_layTrial_2 : decode cX8_layTrial 2 = .ok (.getfield 23, 3) := by decide +kernel
theorem dX8_layTrial_5 : decode cX8_layTrial 5 = .ok (.getfield 99, 3) := by decide +kernel
theorem dX8_layTrial_8 : decode cX8_layTrial 8 = .ok (.putfield 96, 3) := by decide +kernel
theorem dX8_layTrial_11 : decode cX8_layTrial 11 = .ok (.iconst 0, 1) := by decide +kernel
theorem dX8_layTrial_12 : decode cX8_layTrial 12 = .ok (.istore_n 1, 1) := by decide +kernel
theorem dX8_layTrial_13 : decode cX8_layTrial 13 = .ok (.iload_n 1, 1) := by decide +kernel
theorem dX8_layTrial_14 : decode cX8_layTrial 14 = .ok (.aload_n 0, 1) := by decide +kernel
theorem dX8_layTrial_15 : decode cX8_layTrial 15 = .ok (.getfield 96, 3) := by decide +kernel
theorem dX8_layTrial_18 : decode cX8_layTrial 18 = .ok (.if_icmp .ge 21, 3) := by decide +kernel
theorem dX8_layTrial_21 : decode cX8_layTrial 21 = .ok (.aload_n 0, 1) := by decide +kernel
theorem dX8_layTrial_22 : decode cX8_layTrial 22 = .ok (.getfield 59, 3) := by decide +kernel
theorem dX8_layTrial_25 : decode cX8_layTrial 25 = .ok (.iload_n 1, 1) := by decide +kernel
theorem dX8_layTrial_26 : decode cX8_layTrial 26 = .ok (.aload_n 0, 1) := by decide +kernel
theorem dX8_layTrial_27 : decode cX8_layTrial 27 = .ok (.getfield 62, 3) := by decide +kernel
theorem dX8_layTrial_30 : decode cX8_layTrial 30 = .ok (.iload_n 1, 1) := by decide +kernel
theorem dX8_layTrial_31 : decode cX8_layTrial 31 = .ok (.iaload, 1) := by decide +kernel
theorem dX8_layTrial_32 : decode cX8_layTrial 32 = .ok (.iastore, 1) := by decide +kernel
theorem dX8_layTrial_33 : decode cX8_layTrial 33 = .ok (.iinc 1 1, 3) := by decide +kernel
theorem dX8_layTrial_36 : decode cX8_layTrial 36 = .ok (.goto (-23), 3) := by decide +kernel
theorem dX8_layTrial_39 : decode cX8_layTrial 39 = .ok (.return_, 1) := by decide +kernel
theorem dX8_layTwo_0 : decode cX8_layTwo 0 = .ok (.aload_n 0, 1) := by decide +kernel
theorem dX8_layTwo_1 : decode cX8_layTwo 1 = .ok (.getfield 59, 3) := by decide +kernel
theorem dX8_layTwo_4 : decode cX8_layTwo 4 = .ok (.iconst 0, 1) := by decide +kernel
theorem dX8_layTwo_5 : decode cX8_layTwo 5 = .ok (.iload_n 1, 1) := by decide +kernel
theorem dX8_layTwo_6 : decode cX8_layTwo 6 = .ok (.iastore, 1) := by decide +kernel
theorem dX8_layTwo_7 : decode cX8_layTwo 7 = .ok (.aload_n 0, 1) := by decide +kernel
theorem dX8_layTwo_8 : decode cX8_layTwo 8 = .ok (.getfield 59, 3) := by decide +kernel
theorem dX8_layTwo_11 : decode cX8_layTwo 11 = .ok (.iconst 1, 1) := by decide +kernel
theorem dX8_layTwo_12 : decode cX8_layTwo 12 = .ok (.iload_n 2, 1) := by decide +kernel
theorem dX8_layTwo_13 : decode cX8_layTwo 13 = .ok (.iastore, 1) := by decide +kernel
theorem dX8_layTwo_14 : decode cX8_layTwo 14 = .ok (.aload_n 0, 1) := by decide +kernel
theorem dX8_layTwo_15 : decode cX8_layTwo 15 = .ok (.iconst 2, 1) := by decide +kernel
theorem dX8_layTwo_16 : decode cX8_layTwo 16 = .ok (.putfield 96, 3) := by decide +kernel
theorem dX8_layTwo_19 : decode cX8_layTwo 19 = .ok (.return_, 1) := by decide +kernel
theorem dX8_lies_0 : decode cX8_lies 0 = .ok (.iload_n 1, 1) := by decide +kernel
theorem dX8_lies_1 : decode cX8_lies 1 = .ok (.ifCond .lt 20, 3) := by decide +kernel
theorem dX8_lies_4 : decode cX8_lies 4 = .ok (.iload_n 1, 1) := by decide +kernel
theorem dX8_lies_5 : decode cX8_lies 5 = .ok (.aload_n 0, 1) := by decide +kernel
theorem dX8_lies_6 : decode cX8_lies 6 = .ok (.getfield 96, 3) := by decide +kernel
theorem dX8_lies_9 : decode cX8_lies 9 = .ok (.if_icmp .ge 12, 3) := by decide +kernel
theorem dX8_lies_12 : decode cX8_lies 12 = .ok (.aload_n 0, 1) := by decide +kernel
theorem dX8_lies_13 : decode cX8_lies 13 = .ok (.getfield 59, 3) := by decide +kernel
theorem dX8_lies_16 : decode cX8_lies 16 = .ok (.iload_n 1, 1) := by decide +kernel
theorem dX8_lies_17 : decode cX8_lies 17 = .ok (.iaload, 1) := by decide +kernel
theorem dX8_lies_18 : decode cX8_lies 18 = .ok (.goto 5, 3) := by decide +kernel
theorem dX8_lies_21 : decode cX8_lies 21 = .ok (.bipush (-2), 2) := by decide +kernel
theorem dX8_lies_23 : decode cX8_lies 23 = .ok (.ireturn, 1) := by decide +kernel
theorem dX8_lookAhead_0 : decode cX8_lookAhead 0 = .ok (.aload_n 0, 1) := by decide +kernel
theorem dX8_lookAhead_1 : decode cX8_lookAhead 1 = .ok (.getfield 34, 3) := by decide +kernel
theorem dX8_lookAhead_4 : decode cX8_lookAhead 4 = .ok (.aload_n 0, 1) := by decide +kernel
theorem dX8_lookAhead_5 : decode cX8_lookAhead 5 = .ok (.getfield 30, 3) := by decide +kernel
theorem dX8_lookAhead_8 : decode cX8_lookAhead 8 = .ok (.invokevirtual 212, 3) := by decide +kernel
theorem dX8_lookAhead_11 : decode cX8_lookAhead 11 = .ok (.iconst 0, 1) := by decide +kernel
theorem dX8_lookAhead_12 : decode cX8_lookAhead 12 = .ok (.istore_n 3, 1) := by decide +kernel
theorem dX8_lookAhead_13 : decode cX8_lookAhead 13 = .ok (.iload_n 3, 1) := by decide +kernel
theorem dX8_lookAhead_14 : decode cX8_lookAhead 14 = .ok (.iload_n 1, 1) := by decide +kernel
theorem dX8_lookAhead_15 : decode cX8_lookAhead 15 = .ok (.if_icmp .ge 25, 3) := by decide +kernel
theorem dX8_lookAhead_18 : decode cX8_lookAhead 18 = .ok (.iload_n 3, 1) := by decide +kernel
theorem dX8_lookAhead_19 : decode cX8_lookAhead 19 = .ok (.bipush 60, 2) := by decide +kernel
theorem dX8_lookAhead_21 : decode cX8_lookAhead 21 = .ok (.if_icmp .ge 19, 3) := by decide +kernel
theorem dX8_lookAhead_24 : decode cX8_lookAhead 24 = .ok (.aload_n 0, 1) := by decide +kernel
theorem dX8_lookAhead_25 : decode cX8_lookAhead 25 = .ok (.aload_n 0, 1) := by decide +kernel
theorem dX8_lookAhead_26 : decode cX8_lookAhead 26 = .ok (.getfield 34, 3) := by decide +kernel
theorem dX8_lookAhead_29 : decode cX8_lookAhead 29 = .ok (.iload_n 2, 1) := by decide +kernel
theorem dX8_lookAhead_30 : decode cX8_lookAhead 30 = .ok (.invokevirtual 174, 3) := by decide +kernel
theorem dX8_lookAhead_33 : decode cX8_lookAhead 33 = .ok (.pop, 1) := by decide +kernel
theorem dX8_lookAhead_34 : decode cX8_lookAhead 34 = .ok (.iinc 3 1, 3) := by decide +kernel
theorem dX8_lookAhead_37 : decode cX8_lookAhead 37 = .ok (.goto (-24), 3) := by decide +kernel
theorem dX8_lookAhead_40 : decode cX8_lookAhead 40 = .ok (.return_, 1) := by decide +kernel
theorem dX8_note_0 : decode cX8_note 0 = .ok (.aload_n 0, 1) := by decide +kernel
theorem dX8_note_1 : decode cX8_note 1 = .ok (.iload_n 1, 1) := by decide +kernel
theorem dX8_note_2 : decode cX8_note 2 = .ok (.invokevirtual 111, 3) := by decide +kernel
theorem dX8_note_5 : decode cX8_note 5 = .ok (.ifCond .eq 28, 3) := by decide +kernel
theorem dX8_note_8 : decode cX8_note 8 = .ok (.iload_n 2, 1) := by decide +kernel
theorem dX8_note_9 : decode cX8_note 9 = .ok (.ifCond .lt 24, 3) := by decide +kernel
theorem dX8_note_12 : decode cX8_note 12 = .ok (.iload_n 2, 1) := by decide +kernel
theorem dX8_note_13 : decode cX8_note 13 = .ok (.aload_n 0, 1) := by decide +kernel
theorem dX8_note_14 : decode cX8_note 14 = .ok (.getfield 23, 3) := by decide +kernel
theorem dX8_note_17 : decode cX8_note 17 = .ok (.iload_n 1, 1) := by decide +kernel
theorem dX8_note_18 : decode cX8_note 18 = .ok (.aload_n 0, 1) := by decide +kernel
theorem dX8_note_19 : decode cX8_note 19 = .ok (.getfield 30, 3) := by decide +kernel
theorem dX8_note_22 : decode cX8_note 22 = .ok (.getfield 118, 3) := by decide +kernel
theorem dX8_note_25 : decode cX8_note 25 = .ok (.iload_n 1, 1) := by decide +kernel
theorem dX8_note_26 : decode cX8_note 26 = .ok (.iaload, 1) := by decide +kernel
theorem dX8_note_27 : decode cX8_note 27 = .ok (.invokevirtual 121, 3) := by decide +kernel
theorem dX8_note_30 : decode cX8_note 30 = .ok (.if_icmp .lt 5, 3) := by decide +kernel
theorem dX8_note_33 : decode cX8_note 33 = .ok (.iconst (-1), 1) := by decide +kernel
theorem dX8_note_34 : decode cX8_note 34 = .ok (.ireturn, 1) := by decide +kernel
theorem dX8_note_35 : decode cX8_note 35 = .ok (.aload_n 0, 1) := by decide +kernel
theorem dX8_note_36 : decode cX8_note 36 = .ok (.getfield 23, 3) := by decide +kernel
theorem dX8_note_39 : decode cX8_note 39 = .ok (.iload_n 1, 1) := by decide +kernel
theorem dX8_note_40 : decode cX8_note 40 = .ok (.aload_n 0, 1) := by decide +kernel
theorem dX8_note_41 : decode cX8_note 41 = .ok (.getfield 30, 3) := by decide +kernel
theorem dX8_note_44 : decode cX8_note 44 = .ok (.getfield 118, 3) := by decide +kernel
theorem dX8_note_47 : decode cX8_note 47 = .ok (.iload_n 1, 1) := by decide +kernel
theorem dX8_note_48 : decode cX8_note 48 = .ok (.iaload, 1) := by decide +kernel
theorem dX8_note_49 : decode cX8_note 49 = .ok (.iload_n 2, 1) := by decide +kernel
theorem dX8_note_50 : decode cX8_note 50 = .ok (.invokevirtual 134, 3) := by decide +kernel
theorem dX8_note_53 : decode cX8_note 53 = .ok (.ireturn, 1) := by decide +kernel
theorem dX8_odds_0 : decode cX8_odds 0 = .ok (.iload_n 1, 1) := by decide +kernel
theorem dX8_odds_1 : decode cX8_odds 1 = .ok (.ifCond .lt 17, 3) := by decide +kernel
theorem dX8_odds_4 : decode cX8_odds 4 = .ok (.iload_n 1, 1) := by decide +kernel
theorem dX8_odds_5 : decode cX8_odds 5 = .ok (.iconst 4, 1) := by decide +kernel
theorem dX8_odds_6 : decode cX8_odds 6 = .ok (.if_icmp .gt 12, 3) := by decide +kernel
theorem dX8_odds_9 : decode cX8_odds 9 = .ok (.iload_n 2, 1) := by decide +kernel
theorem dX8_odds_10 : decode cX8_odds 10 = .ok (.ifCond .lt 8, 3) := by decide +kernel
theorem dX8_odds_13 : decode cX8_odds 13 = .ok (.iload_n 2, 1) := by decide +kernel
theorem dX8_odds_14 : decode cX8_odds 14 = .ok (.iconst 1, 1) := by decide +kernel
theorem dX8_odds_15 : decode cX8_odds 15 = .ok (.if_icmp .le 5, 3) := by decide +kernel
theorem dX8_odds_18 : decode cX8_odds 18 = .ok (.iconst (-1), 1) := by decide +kernel
theorem dX8_odds_19 : decode cX8_odds 19 = .ok (.ireturn, 1) := by decide +kernel
theorem dX8_odds_20 : decode cX8_odds 20 = .ok (.iconst 1, 1) := by decide +kernel
theorem dX8_odds_21 : decode cX8_odds 21 = .ok (.istore_n 3, 1) := by decide +kernel
theorem dX8_odds_22 : decode cX8_odds 22 = .ok (.iconst 1, 1) := by decide +kernel
theorem dX8_odds_23 : decode cX8_odds 23 = .ok (.istore 4, 2) := by decide +kernel
theorem dX8_odds_25 : decode cX8_odds 25 = .ok (.iconst 0, 1) := by decide +kernel
theorem dX8_odds_26 : decode cX8_odds 26 = .ok (.istore 5, 2) := by decide +kernel
theorem dX8_odds_28 : decode cX8_odds 28 = .ok (.iload 5, 2) := by decide +kernel
theorem dX8_odds_30 : decode cX8_odds 30 = .ok (.iload_n 1, 1) := by decide +kernel
theorem dX8_odds_31 : decode cX8_odds 31 = .ok (.if_icmp .ge 29, 3) := by decide +kernel
theorem dX8_odds_34 : decode cX8_odds 34 = .ok (.iload_n 3, 1) := by decide +kernel
theorem dX8_odds_35 : decode cX8_odds 35 = .ok (.bipush 100, 2) := by decide +kernel
theorem dX8_odds_37 : decode cX8_odds 37 = .ok (.aload_n 0, 1) := by decide +kernel
theorem dX8_odds_38 : decode cX8_odds 38 = .ok (.getfield 23, 3) := by decide +kernel
theorem dX8_odds_41 : decode cX8_odds 41 = .ok (.getfield 171, 3) := by decide +kernel
theorem dX8_odds_44 : decode cX8_odds 44 = .ok (.isub, 1) := by decide +kernel
theorem dX8_odds_45 : decode cX8_odds 45 = .ok (.imul, 1) := by decide +kernel
theorem dX8_odds_46 : decode cX8_odds 46 = .ok (.istore_n 3, 1) := by decide +kernel
theorem dX8_odds_47 : decode cX8_odds 47 = .ok (.iload 4, 2) := by decide +kernel
theorem dX8_odds_49 : decode cX8_odds 49 = .ok (.bipush 100, 2) := by decide +kernel
theorem dX8_odds_51 : decode cX8_odds 51 = .ok (.imul, 1) := by decide +kernel
theorem dX8_odds_52 : decode cX8_odds 52 = .ok (.istore 4, 2) := by decide +kernel
theorem dX8_odds_54 : decode cX8_odds 54 = .ok (.iinc 5 1, 3) := by decide +kernel
theorem dX8_odds_57 : decode cX8_odds 57 = .ok (.goto (-29), 3) := by decide +kernel
theorem dX8_odds_60 : decode cX8_odds 60 = .ok (.iload_n 3, 1) := by decide +kernel
theorem dX8_odds_61 : decode cX8_odds 61 = .ok (.iload 4, 2) := by decide +kernel
theorem dX8_odds_63 : decode cX8_odds 63 = .ok (.invokestatic 318, 3) := by decide +kernel
theorem dX8_odds_66 : decode cX8_odds 66 = .ok (.istore 5, 2) := by decide +kernel
theorem dX8_odds_68 : decode cX8_odds 68 = .ok (.iload_n 2, 1) := by decide +kernel
theorem dX8_odds_69 : decode cX8_odds 69 = .ok (.ifCond .ne 7, 3) := by decide +kernel
theorem dX8_odds_72 : decode cX8_odds 72 = .ok (.iload_n 3, 1) := by decide +kernel
theorem dX8_odds_73 : decode cX8_odds 73 = .ok (.goto 5, 3) := by decide +kernel
theorem dX8_odds_76 : decode cX8_odds 76 = .ok (.iload 4, 2) := by decide +kernel
theorem dX8_odds_78 : decode cX8_odds 78 = .ok (.iload 5, 2) := by decide +kernel
theorem dX8_odds_80 : decode cX8_odds 80 = .ok (.idiv, 1) := by decide +kernel
theorem dX8_odds_81 : decode cX8_odds 81 = .ok (.ireturn, 1) := by decide +kernel
theorem dX8_onCart_0 : decode cX8_onCart 0 = .ok (.iconst 0, 1) := by decide +kernel
theorem dX8_onCart_1 : decode cX8_onCart 1 = .ok (.istore_n 1, 1) := by decide +kernel
theorem dX8_onCart_2 : decode cX8_onCart 2 = .ok (.iconst 0, 1) := by decide +kernel
theorem dX8_onCart_3 : decode cX8_onCart 3 = .ok (.istore_n 2, 1) := by decide +kernel
theorem dX8_onCart_4 : decode cX8_onCart 4 = .ok (.iload_n 2, 1) := by decide +kernel
theorem dX8_onCart_5 : decode cX8_onCart 5 = .ok (.aload_n 0, 1) := by decide +kernel
theorem dX8_onCart_6 : decode cX8_onCart 6 = .ok (.getfield 23, 3) := by decide +kernel
theorem dX8_onCart_9 : decode cX8_onCart 9 = .ok (.getfield 108, 3) := by decide +kernel
theorem dX8_onCart_12 : decode cX8_onCart 12 = .ok (.if_icmp .ge 26, 3) := by decide +kernel
theorem dX8_onCart_15 : decode cX8_onCart 15 = .ok (.aload_n 0, 1) := by decide +kernel
theorem dX8_onCart_16 : decode cX8_onCart 16 = .ok (.getfield 30, 3) := by decide +kernel
theorem dX8_onCart_19 : decode cX8_onCart 19 = .ok (.iload_n 2, 1) := by decide +kernel
theorem dX8_onCart_20 : decode cX8_onCart 20 = .ok (.invokevirtual 202, 3) := by decide +kernel
theorem dX8_onCart_23 : decode cX8_onCart 23 = .ok (.ifCond .eq 9, 3) := by decide +kernel
theorem dX8_onCart_26 : decode cX8_onCart 26 = .ok (.iload_n 1, 1) := by decide +kernel
theorem dX8_onCart_27 : decode cX8_onCart 27 = .ok (.iconst 1, 1) := by decide +kernel
theorem dX8_onCart_28 : decode cX8_onCart 28 = .ok (.iload_n 2, 1) := by decide +kernel
theorem dX8_onCart_29 : decode cX8_onCart 29 = .ok (.ishl, 1) := by decide +kernel
theorem dX8_onCart_30 : decode cX8_onCart 30 = .ok (.ior, 1) := by decide +kernel
theorem dX8_onCart_31 : decode cX8_onCart 31 = .ok (.istore_n 1, 1) := by decide +kernel
theorem dX8_onCart_32 : decode cX8_onCart 32 = .ok (.iinc 2 1, 3) := by decide +kernel
theorem dX8_onCart_35 : decode cX8_onCart 35 = .ok (.goto (-31), 3) := by decide +kernel
theorem dX8_onCart_38 : decode cX8_onCart 38 = .ok (.iload_n 1, 1) := by decide +kernel
theorem dX8_onCart_39 : decode cX8_onCart 39 = .ok (.ireturn, 1) := by decide +kernel
theorem dX8_paidBy_0 : decode cX8_paidBy 0 = .ok (.iconst 0, 1) := by decide +kernel
theorem dX8_paidBy_1 : decode cX8_paidBy 1 = .ok (.istore_n 2, 1) := by decide +kernel
theorem dX8_paidBy_2 : decode cX8_paidBy 2 = .ok (.iconst 0, 1) := by decide +kernel
theorem dX8_paidBy_3 : decode cX8_paidBy 3 = .ok (.istore_n 3, 1) := by decide +kernel
theorem dX8_paidBy_4 : decode cX8_paidBy 4 = .ok (.iload_n 3, 1) := by decide +kernel
theorem dX8_paidBy_5 : decode cX8_paidBy 5 = .ok (.aload_n 0, 1) := by decide +kernel
theorem dX8_paidBy_6 : decode cX8_paidBy 6 = .ok (.getfield 23, 3) := by decide +kernel
theorem dX8_paidBy_9 : decode cX8_paidBy 9 = .ok (.getfield 108, 3) := by decide +kernel
theorem dX8_paidBy_12 : decode cX8_paidBy 12 = .ok (.if_icmp .ge 39, 3) := by decide +kernel
theorem dX8_paidBy_15 : decode cX8_paidBy 15 = .ok (.aload_n 0, 1) := by decide +kernel
theorem dX8_paidBy_16 : decode cX8_paidBy 16 = .ok (.getfield 30, 3) := by decide +kernel
theorem dX8_paidBy_19 : decode cX8_paidBy 19 = .ok (.iload_n 3, 1) := by decide +kernel
theorem dX8_paidBy_20 : decode cX8_paidBy 20 = .ok (.invokevirtual 154, 3) := by decide +kernel
theorem dX8_paidBy_23 : decode cX8_paidBy 23 = .ok (.ifCond .eq 22, 3) := by decide +kernel
theorem dX8_paidBy_26 : decode cX8_paidBy 26 = .ok (.aload_n 0, 1) := by decide +kernel
theorem dX8_paidBy_27 : decode cX8_paidBy 27 = .ok (.getfield 30, 3) := by decide +kernel
theorem dX8_paidBy_30 : decode cX8_paidBy 30 = .ok (.getfield 125, 3) := by decide +kernel
theorem dX8_paidBy_33 : decode cX8_paidBy 33 = .ok (.iload_n 3, 1) := by decide +kernel
theorem dX8_paidBy_34 : decode cX8_paidBy 34 = .ok (.iaload, 1) := by decide +kernel
theorem dX8_paidBy_35 : decode cX8_paidBy 35 = .ok (.iload_n 1, 1) := by decide +kernel
theorem dX8_paidBy_36 : decode cX8_paidBy 36 = .ok (.if_icmp .ne 9, 3) := by decide +kernel
theorem dX8_paidBy_39 : decode cX8_paidBy 39 = .ok (.iload_n 2, 1) := by decide +kernel
theorem dX8_paidBy_40 : decode cX8_paidBy 40 = .ok (.iconst 1, 1) := by decide +kernel
theorem dX8_paidBy_41 : decode cX8_paidBy 41 = .ok (.iload_n 3, 1) := by decide +kernel
theorem dX8_paidBy_42 : decode cX8_paidBy 42 = .ok (.ishl, 1) := by decide +kernel
theorem dX8_paidBy_43 : decode cX8_paidBy 43 = .ok (.ior, 1) := by decide +kernel
theorem dX8_paidBy_44 : decode cX8_paidBy 44 = .ok (.istore_n 2, 1) := by decide +kernel
theorem dX8_paidBy_45 : decode cX8_paidBy 45 = .ok (.iinc 3 1, 3) := by decide +kernel
theorem dX8_paidBy_48 : decode cX8_paidBy 48 = .ok (.goto (-44), 3) := by decide +kernel
theorem dX8_paidBy_51 : decode cX8_paidBy 51 = .ok (.iload_n 2, 1) := by decide +kernel
theorem dX8_paidBy_52 : decode cX8_paidBy 52 = .ok (.ireturn, 1) := by decide +kernel
theorem dX8_paidFor_0 : decode cX8_paidFor 0 = .ok (.iconst 0, 1) := by decide +kernel
theorem dX8_paidFor_1 : decode cX8_paidFor 1 = .ok (.istore_n 1, 1) := by decide +kernel
theorem dX8_paidFor_2 : decode cX8_paidFor 2 = .ok (.iconst 0, 1) := by decide +kernel
theorem dX8_paidFor_3 : decode cX8_paidFor 3 = .ok (.istore_n 2, 1) := by decide +kernel
theorem dX8_paidFor_4 : decode cX8_paidFor 4 = .ok (.iload_n 2, 1) := by decide +kernel
theorem dX8_paidFor_5 : decode cX8_paidFor 5 = .ok (.aload_n 0, 1) := by decide +kernel
theorem dX8_paidFor_6 : decode cX8_paidFor 6 = .ok (.getfield 23, 3) := by decide +kernel
theorem dX8_paidFor_9 : decode cX8_paidFor 9 = .ok (.getfield 99, 3) := by decide +kernel
theorem dX8_paidFor_12 : decode cX8_paidFor 12 = .ok (.if_icmp .ge 17, 3) := by decide +kernel
theorem dX8_paidFor_15 : decode cX8_paidFor 15 = .ok (.iload_n 1, 1) := by decide +kernel
theorem dX8_paidFor_16 : decode cX8_paidFor 16 = .ok (.aload_n 0, 1) := by decide +kernel
theorem dX8_paidFor_17 : decode cX8_paidFor 17 = .ok (.iload_n 2, 1) := by decide +kernel
theorem dX8_paidFor_18 : decode cX8_paidFor 18 = .ok (.invokevirtual 151, 3) := by decide +kernel
theorem dX8_paidFor_21 : decode cX8_paidFor 21 = .ok (.ior, 1) := by decide +kernel
theorem dX8_paidFor_22 : decode cX8_paidFor 22 = .ok (.istore_n 1, 1) := by decide +kernel
theorem dX8_paidFor_23 : decode cX8_paidFor 23 = .ok (.iinc 2 1, 3) := by decide +kernel
theorem dX8_paidFor_26 : decode cX8_paidFor 26 = .ok (.goto (-22), 3) := by decide +kernel
theorem dX8_paidFor_29 : decode cX8_paidFor 29 = .ok (.iload_n 1, 1) := by decide +kernel
theorem dX8_paidFor_30 : decode cX8_paidFor 30 = .ok (.ireturn, 1) := by decide +kernel
theorem dX8_pair_0 : decode cX8_pair 0 = .ok (.aload_n 0, 1) := by decide +kernel
theorem dX8_pair_1 : decode cX8_pair 1 = .ok (.iload_n 1, 1) := by decide +kernel
theorem dX8_pair_2 : decode cX8_pair 2 = .ok (.invokevirtual 111, 3) := by decide +kernel
theorem dX8_pair_5 : decode cX8_pair 5 = .ok (.ifCond .eq 22, 3) := by decide +kernel
theorem dX8_pair_8 : decode cX8_pair 8 = .ok (.aload_n 0, 1) := by decide +kernel
theorem dX8_pair_9 : decode cX8_pair 9 = .ok (.getfield 23, 3) := by decide +kernel
theorem dX8_pair_12 : decode cX8_pair 12 = .ok (.getfield 99, 3) := by decide +kernel
theorem dX8_pair_15 : decode cX8_pair 15 = .ok (.ifCond .eq 12, 3) := by decide +kernel
theorem dX8_pair_18 : decode cX8_pair 18 = .ok (.iload_n 2, 1) := by decide +kernel
theorem dX8_pair_19 : decode cX8_pair 19 = .ok (.ifCond .lt 8, 3) := by decide +kernel
theorem dX8_pair_22 : decode cX8_pair 22 = .ok (.iload_n 2, 1) := by decide +kernel
theorem dX8_pair_23 : decode cX8_pair 23 = .ok (.iconst 1, 1) := by decide +kernel
theorem dX8_pair_24 : decode cX8_pair 24 = .ok (.if_icmp .le 6, 3) := by decide +kernel
theorem dX8_pair_27 : decode cX8_pair 27 = .ok (.ldc 160, 2) := by decide +kernel
theorem dX8_pair_29 : decode cX8_pair 29 = .ok (.ireturn, 1) := by decide +kernel
theorem dX8_pair_30 : decode cX8_pair 30 = .ok (.iconst 0, 1) := by decide +kernel
theorem dX8_pair_31 : decode cX8_pair 31 = .ok (.istore_n 3, 1) := by decide +kernel
theorem dX8_pair_32 : decode cX8_pair 32 = .ok (.aload_n 0, 1) := by decide +kernel
theorem dX8_pair_33 : decode cX8_pair 33 = .ok (.iconst 0, 1) := by decide +kernel
theorem dX8_pair_34 : decode cX8_pair 34 = .ok (.iload_n 1, 1) := by decide +kernel
theorem dX8_pair_35 : decode cX8_pair 35 = .ok (.invokevirtual 157, 3) := by decide +kernel
theorem dX8_pair_38 : decode cX8_pair 38 = .ok (.istore 4, 2) := by decide +kernel
theorem dX8_pair_40 : decode cX8_pair 40 = .ok (.iconst 1, 1) := by decide +kernel
theorem dX8_pair_41 : decode cX8_pair 41 = .ok (.istore 5, 2) := by decide +kernel
theorem dX8_pair_43 : decode cX8_pair 43 = .ok (.iload 5, 2) := by decide +kernel
theorem dX8_pair_45 : decode cX8_pair 45 = .ok (.aload_n 0, 1) := by decide +kernel
theorem dX8_pair_46 : decode cX8_pair 46 = .ok (.getfield 23, 3) := by decide +kernel
theorem dX8_pair_49 : decode cX8_pair 49 = .ok (.getfield 99, 3) := by decide +kernel
theorem dX8_pair_52 : decode cX8_pair 52 = .ok (.if_icmp .ge 32, 3) := by decide +kernel
theorem dX8_pair_55 : decode cX8_pair 55 = .ok (.aload_n 0, 1) := by decide +kernel
theorem dX8_pair_56 : decode cX8_pair 56 = .ok (.iload 5, 2) := by decide +kernel
theorem dX8_pair_58 : decode cX8_pair 58 = .ok (.iload_n 1, 1) := by decide +kernel
theorem dX8_pair_59 : decode cX8_pair 59 = .ok (.invokevirtual 157, 3) := by decide +kernel
theorem dX8_pair_62 : decode cX8_pair 62 = .ok (.istore 6, 2) := by decide +kernel
theorem dX8_pair_64 : decode cX8_pair 64 = .ok (.iload 6, 2) := by decide +kernel
theorem dX8_pair_66 : decode cX8_pair 66 = .ok (.iload 4, 2) := by decide +kernel
theorem dX8_pair_68 : decode cX8_pair 68 = .ok (.if_icmp .le 10, 3) := by decide +kernel
theorem dX8_pair_71 : decode cX8_pair 71 = .ok (.iload 6, 2) := by decide +kernel
theorem dX8_pair_73 : decode cX8_pair 73 = .ok (.istore 4, 2) := by decide +kernel
theorem dX8_pair_75 : decode cX8_pair 75 = .ok (.iload 5, 2) := by decide +kernel
theorem dX8_pair_77 : decode cX8_pair 77 = .ok (.istore_n 3, 1) := by decide +kernel
theorem dX8_pair_78 : decode cX8_pair 78 = .ok (.iinc 5 1, 3) := by decide +kernel
theorem dX8_pair_81 : decode cX8_pair 81 = .ok (.goto (-38), 3) := by decide +kernel
theorem dX8_pair_84 : decode cX8_pair 84 = .ok (.iload_n 2, 1) := by decide +kernel
theorem dX8_pair_85 : decode cX8_pair 85 = .ok (.ifCond .ne 7, 3) := by decide +kernel
theorem dX8_pair_88 : decode cX8_pair 88 = .ok (.iload_n 3, 1) := by decide +kernel
theorem dX8_pair_89 : decode cX8_pair 89 = .ok (.goto 5, 3) := by decide +kernel
theorem dX8_pair_92 : decode cX8_pair 92 = .ok (.iload 4, 2) := by decide +kernel
theorem dX8_pair_94 : decode cX8_pair 94 = .ok (.ireturn, 1) := by decide +kernel
theorem dX8_passWeek_0 : decode cX8_passWeek 0 = .ok (.iconst 0, 1) := by decide +kernel
theorem dX8_passWeek_1 : decode cX8_passWeek 1 = .ok (.istore_n 3, 1) := by decide +kernel
theorem dX8_passWeek_2 : decode cX8_passWeek 2 = .ok (.iconst 0, 1) := by decide +kernel
theorem dX8_passWeek_3 : decode cX8_passWeek 3 = .ok (.istore 4, 2) := by decide +kernel
theorem dX8_passWeek_5 : decode cX8_passWeek 5 = .ok (.iload 4, 2) := by decide +kernel
theorem dX8_passWeek_7 : decode cX8_passWeek 7 = .ok (.aload_n 0, 1) := by decide +kernel
theorem dX8_passWeek_8 : decode cX8_passWeek 8 = .ok (.getfield 23, 3) := by decide +kernel
theorem dX8_passWeek_11 : decode cX8_passWeek 11 = .ok (.getfield 99, 3) := by decide +kernel
theorem dX8_passWeek_14 : decode cX8_passWeek 14 = .ok (.if_icmp .ge 39, 3) := by decide +kernel
theorem dX8_passWeek_17 : decode cX8_passWeek 17 = .ok (.aload_n 1, 1) := by decide +kernel
theorem dX8_passWeek_18 : decode cX8_passWeek 18 = .ok (.iload 4, 2) := by decide +kernel
theorem dX8_passWeek_20 : decode cX8_passWeek 20 = .ok (.invokevirtual 147, 3) := by decide +kernel
theorem dX8_passWeek_23 : decode cX8_passWeek 23 = .ok (.istore 5, 2) := by decide +kernel
theorem dX8_passWeek_25 : decode cX8_passWeek 25 = .ok (.iload 5, 2) := by decide +kernel
theorem dX8_passWeek_27 : decode cX8_passWeek 27 = .ok (.iconst (-1), 1) := by decide +kernel
theorem dX8_passWeek_28 : decode cX8_passWeek 28 = .ok (.if_icmp .eq 19, 3) := by decide +kernel
theorem dX8_passWeek_31 : decode cX8_passWeek 31 = .ok (.aload_n 0, 1) := by decide +kernel
theorem dX8_passWeek_32 : decode cX8_passWeek 32 = .ok (.aload_n 1, 1) := by decide +kernel
theorem dX8_passWeek_33 : decode cX8_passWeek 33 = .ok (.iload 4, 2) := by decide +kernel
theorem dX8_passWeek_35 : decode cX8_passWeek 35 = .ok (.iload 5, 2) := by decide +kernel
theorem dX8_passWeek_37 : decode cX8_passWeek 37 = .ok (.iload_n 2, 1) := by decide +kernel
theorem dX8_passWeek_38 : decode cX8_passWeek 38 = .ok (.invokevirtual 181, 3) := by decide +kernel
theorem dX8_passWeek_41 : decode cX8_passWeek 41 = .ok (.ifCond .eq 6, 3) := by decide +kernel
theorem dX8_passWeek_44 : decode cX8_passWeek 44 = .ok (.iinc 3 1, 3) := by decide +kernel
theorem dX8_passWeek_47 : decode cX8_passWeek 47 = .ok (.iinc 4 1, 3) := by decide +kernel
theorem dX8_passWeek_50 : decode cX8_passWeek 50 = .ok (.goto (-45), 3) := by decide +kernel
theorem dX8_passWeek_53 : decode cX8_passWeek 53 = .ok (.aload_n 1, 1) := by decide +kernel
theorem dX8_passWeek_54 : decode cX8_passWeek 54 = .ok (.dup, 1) := by decide +kernel
theorem dX8_passWeek_55 : decode cX8_passWeek 55 = .ok (.getfield 168, 3) := by decide +kernel
theorem dX8_passWeek_58 : decode cX8_passWeek 58 = .ok (.iconst 1, 1) := by decide +kernel
theorem dX8_passWeek_59 : decode cX8_passWeek 59 = .ok (.iadd, 1) := by decide +kernel
theorem dX8_passWeek_60 : decode cX8_passWeek 60 = .ok (.putfield 168, 3) := by decide +kernel
theorem dX8_passWeek_63 : decode cX8_passWeek 63 = .ok (.iload_n 3, 1) := by decide +kernel
theorem dX8_passWeek_64 : decode cX8_passWeek 64 = .ok (.ireturn, 1) := by decide +kernel
theorem dX8_passWeekIn_0 : decode cX8_passWeekIn 0 = .ok (.aload_n 1, 1) := by decide +kernel
theorem dX8_passWeekIn_1 : decode cX8_passWeekIn 1 = .ok (.getfield 131, 3) := by decide +kernel
theorem dX8_passWeekIn_4 : decode cX8_passWeekIn 4 = .ok (.iload_n 3, 1) := by decide +kernel
theorem dX8_passWeekIn_5 : decode cX8_passWeekIn 5 = .ok (.dup2, 1) := by decide +kernel
theorem dX8_passWeekIn_6 : decode cX8_passWeekIn 6 = .ok (.iaload, 1) := by decide +kernel
theorem dX8_passWeekIn_7 : decode cX8_passWeekIn 7 = .ok (.iconst 1, 1) := by decide +kernel
theorem dX8_passWeekIn_8 : decode cX8_passWeekIn 8 = .ok (.iadd, 1) := by decide +kernel
theorem dX8_passWeekIn_9 : decode cX8_passWeekIn 9 = .ok (.iastore, 1) := by decide +kernel
theorem dX8_passWeekIn_10 : decode cX8_passWeekIn 10 = .ok (.aload_n 1, 1) := by decide +kernel
theorem dX8_passWeekIn_11 : decode cX8_passWeekIn 11 = .ok (.aload_n 1, 1) := by decide +kernel
theorem dX8_passWeekIn_12 : decode cX8_passWeekIn 12 = .ok (.getfield 185, 3) := by decide +kernel
theorem dX8_passWeekIn_15 : decode cX8_passWeekIn 15 = .ok (.sipush 137, 3) := by decide +kernel
theorem dX8_passWeekIn_18 : decode cX8_passWeekIn 18 = .ok (.imul, 1) := by decide +kernel
theorem dX8_passWeekIn_19 : decode cX8_passWeekIn 19 = .ok (.bipush 71, 2) := by decide +kernel
theorem dX8_passWeekIn_21 : decode cX8_passWeekIn 21 = .ok (.iadd, 1) := by decide +kernel
theorem dX8_passWeekIn_22 : decode cX8_passWeekIn 22 = .ok (.sipush 1000, 3) := by decide +kernel
theorem dX8_passWeekIn_25 : decode cX8_passWeekIn 25 = .ok (.irem, 1) := by decide +kernel
theorem dX8_passWeekIn_26 : decode cX8_passWeekIn 26 = .ok (.putfield 185, 3) := by decide +kernel
theorem dX8_passWeekIn_29 : decode cX8_passWeekIn 29 = .ok (.aload_n 1, 1) := by decide +kernel
theorem dX8_passWeekIn_30 : decode cX8_passWeekIn 30 = .ok (.getfield 185, 3) := by decide +kernel
theorem dX8_passWeekIn_33 : decode cX8_passWeekIn 33 = .ok (.bipush 100, 2) := by decide +kernel
theorem dX8_passWeekIn_35 : decode cX8_passWeekIn 35 = .ok (.irem, 1) := by decide +kernel
theorem dX8_passWeekIn_36 : decode cX8_passWeekIn 36 = .ok (.iload 4, 2) := by decide +kernel
theorem dX8_passWeekIn_38 : decode cX8_passWeekIn 38 = .ok (.if_icmp .ge 7, 3) := by decide +kernel
theorem dX8_passWeekIn_41 : decode cX8_passWeekIn 41 = .ok (.iconst 1, 1) := by decide +kernel
theorem dX8_passWeekIn_42 : decode cX8_passWeekIn 42 = .ok (.goto 4, 3) := by decide +kernel
theorem dX8_passWeekIn_45 : decode cX8_passWeekIn 45 = .ok (.iconst 0, 1) := by decide +kernel
theorem dX8_passWeekIn_46 : decode cX8_passWeekIn 46 = .ok (.istore 5, 2) := by decide +kernel
theorem dX8_passWeekIn_48 : decode cX8_passWeekIn 48 = .ok (.iload 5, 2) := by decide +kernel
theorem dX8_passWeekIn_50 : decode cX8_passWeekIn 50 = .ok (.ifCond .ne 19, 3) := by decide +kernel
theorem dX8_passWeekIn_53 : decode cX8_passWeekIn 53 = .ok (.aload_n 1, 1) := by decide +kernel
theorem dX8_passWeekIn_54 : decode cX8_passWeekIn 54 = .ok (.getfield 131, 3) := by decide +kernel
theorem dX8_passWeekIn_57 : decode cX8_passWeekIn 57 = .ok (.iload_n 3, 1) := by decide +kernel
theorem dX8_passWeekIn_58 : decode cX8_passWeekIn 58 = .ok (.iaload, 1) := by decide +kernel
theorem dX8_passWeekIn_59 : decode cX8_passWeekIn 59 = .ok (.aload_n 0, 1) := by decide +kernel
theorem dX8_passWeekIn_60 : decode cX8_passWeekIn 60 = .ok (.getfield 23, 3) := by decide +kernel
theorem dX8_passWeekIn_63 : decode cX8_passWeekIn 63 = .ok (.getfield 188, 3) := by decide +kernel
theorem dX8_passWeekIn_66 : decode cX8_passWeekIn 66 = .ok (.if_icmp .ge 5, 3) := by decide +kernel
theorem dX8_passWeekIn_69 : decode cX8_passWeekIn 69 = .ok (.iconst 0, 1) := by decide +kernel
theorem dX8_passWeekIn_70 : decode cX8_passWeekIn 70 = .ok (.ireturn, 1) := by decide +kernel
theorem dX8_passWeekIn_71 : decode cX8_passWeekIn 71 = .ok (.aload_n 0, 1) := by decide +kernel
theorem dX8_passWeekIn_72 : decode cX8_passWeekIn 72 = .ok (.getfield 23, 3) := by decide +kernel
theorem dX8_passWeekIn_75 : decode cX8_passWeekIn 75 = .ok (.getfield 115, 3) := by decide +kernel
theorem dX8_passWeekIn_78 : decode cX8_passWeekIn 78 = .ok (.iload_n 3, 1) := by decide +kernel
theorem dX8_passWeekIn_79 : decode cX8_passWeekIn 79 = .ok (.iaload, 1) := by decide +kernel
theorem dX8_passWeekIn_80 : decode cX8_passWeekIn 80 = .ok (.istore 6, 2) := by decide +kernel
theorem dX8_passWeekIn_82 : decode cX8_passWeekIn 82 = .ok (.aload_n 1, 1) := by decide +kernel
theorem dX8_passWeekIn_83 : decode cX8_passWeekIn 83 = .ok (.getfield 144, 3) := by decide +kernel
theorem dX8_passWeekIn_86 : decode cX8_passWeekIn 86 = .ok (.iload_n 2, 1) := by decide +kernel
theorem dX8_passWeekIn_87 : decode cX8_passWeekIn 87 = .ok (.iaload, 1) := by decide +kernel
theorem dX8_passWeekIn_88 : decode cX8_passWeekIn 88 = .ok (.istore 7, 2) := by decide +kernel
theorem dX8_passWeekIn_90 : decode cX8_passWeekIn 90 = .ok (.aload_n 0, 1) := by decide +kernel
theorem dX8_passWeekIn_91 : decode cX8_passWeekIn 91 = .ok (.getfield 23, 3) := by decide +kernel
theorem dX8_passWeekIn_94 : decode cX8_passWeekIn 94 = .ok (.iload_n 2, 1) := by decide +kernel
theorem dX8_passWeekIn_95 : decode cX8_passWeekIn 95 = .ok (.iload_n 3, 1) := by decide +kernel
theorem dX8_passWeekIn_96 : decode cX8_passWeekIn 96 = .ok (.aload_n 1, 1) := by decide +kernel
theorem dX8_passWeekIn_97 : decode cX8_passWeekIn 97 = .ok (.getfield 118, 3) := by decide +kernel
theorem dX8_passWeekIn_100 : decode cX8_passWeekIn 100 = .ok (.iload_n 3, 1) := by decide +kernel
theorem dX8_passWeekIn_101 : decode cX8_passWeekIn 101 = .ok (.iaload, 1) := by decide +kernel
theorem dX8_passWeekIn_102 : decode cX8_passWeekIn 102 = .ok (.aload_n 1, 1) := by decide +kernel
theorem dX8_passWeekIn_103 : decode cX8_passWeekIn 103 = .ok (.getfield 131, 3) := by decide +kernel
theorem dX8_passWeekIn_106 : decode cX8_passWeekIn 106 = .ok (.iload_n 3, 1) := by decide +kernel
theorem dX8_passWeekIn_107 : decode cX8_passWeekIn 107 = .ok (.iaload, 1) := by decide +kernel
theorem dX8_passWeekIn_108 : decode cX8_passWeekIn 108 = .ok (.iload 7, 2) := by decide +kernel
theorem dX8_passWeekIn_110 : decode cX8_passWeekIn 110 = .ok (.invokevirtual 164, 3) := by decide +kernel
theorem dX8_passWeekIn_113 : decode cX8_passWeekIn 113 = .ok (.istore 8, 2) := by decide +kernel
theorem dX8_passWeekIn_115 : decode cX8_passWeekIn 115 = .ok (.iload 8, 2) := by decide +kernel
theorem dX8_passWeekIn_117 : decode cX8_passWeekIn 117 = .ok (.ifCond .le 28, 3) := by decide +kernel
theorem dX8_passWeekIn_120 : decode cX8_passWeekIn 120 = .ok (.iload 7, 2) := by decide +kernel
theorem dX8_passWeekIn_122 : decode cX8_passWeekIn 122 = .ok (.iload 6, 2) := by decide +kernel
theorem dX8_passWeekIn_124 : decode cX8_passWeekIn 124 = .ok (.if_icmp .lt 21, 3) := by decide +kernel
theorem dX8_passWeekIn_127 : decode cX8_passWeekIn 127 = .ok (.aload_n 1, 1) := by decide +kernel
theorem dX8_passWeekIn_128 : decode cX8_passWeekIn 128 = .ok (.getfield 144, 3) := by decide +kernel
theorem dX8_passWeekIn_131 : decode cX8_passWeekIn 131 = .ok (.iload_n 2, 1) := by decide +kernel
theorem dX8_passWeekIn_132 : decode cX8_passWeekIn 132 = .ok (.iload 7, 2) := by decide +kernel
theorem dX8_passWeekIn_134 : decode cX8_passWeekIn 134 = .ok (.iload 6, 2) := by decide +kernel
theorem dX8_passWeekIn_136 : decode cX8_passWeekIn 136 = .ok (.isub, 1) := by decide +kernel
theorem dX8_passWeekIn_137 : decode cX8_passWeekIn 137 = .ok (.iastore, 1) := by decide +kernel
theorem dX8_passWeekIn_138 : decode cX8_passWeekIn 138 = .ok (.aload_n 1, 1) := by decide +kernel
theorem dX8_passWeekIn_139 : decode cX8_passWeekIn 139 = .ok (.iload_n 3, 1) := by decide +kernel
theorem dX8_passWeekIn_140 : decode cX8_passWeekIn 140 = .ok (.invokevirtual 191, 3) := by decide +kernel
theorem dX8_passWeekIn_143 : decode cX8_passWeekIn 143 = .ok (.iconst 1, 1) := by decide +kernel
theorem dX8_passWeekIn_144 : decode cX8_passWeekIn 144 = .ok (.ireturn, 1) := by decide +kernel
theorem dX8_passWeekIn_145 : decode cX8_passWeekIn 145 = .ok (.aload_n 1, 1) := by decide +kernel
theorem dX8_passWeekIn_146 : decode cX8_passWeekIn 146 = .ok (.iload_n 3, 1) := by decide +kernel
theorem dX8_passWeekIn_147 : decode cX8_passWeekIn 147 = .ok (.invokevirtual 194, 3) := by decide +kernel
theorem dX8_passWeekIn_150 : decode cX8_passWeekIn 150 = .ok (.aload_n 1, 1) := by decide +kernel
theorem dX8_passWeekIn_151 : decode cX8_passWeekIn 151 = .ok (.getfield 118, 3) := by decide +kernel
theorem dX8_passWeekIn_154 : decode cX8_passWeekIn 154 = .ok (.iload_n 3, 1) := by decide +kernel
theorem dX8_passWeekIn_155 : decode cX8_passWeekIn 155 = .ok (.bipush 99, 2) := by decide +kernel
theorem dX8_passWeekIn_157 : decode cX8_passWeekIn 157 = .ok (.aload_n 1, 1) := by decide +kernel
theorem dX8_passWeekIn_158 : decode cX8_passWeekIn 158 = .ok (.getfield 118, 3) := by decide +kernel
theorem dX8_passWeekIn_161 : decode cX8_passWeekIn 161 = .ok (.iload_n 3, 1) := by decide +kernel
theorem dX8_passWeekIn_162 : decode cX8_passWeekIn 162 = .ok (.iaload, 1) := by decide +kernel
theorem dX8_passWeekIn_163 : decode cX8_passWeekIn 163 = .ok (.iconst 1, 1) := by decide +kernel
theorem dX8_passWeekIn_164 : decode cX8_passWeekIn 164 = .ok (.iadd, 1) := by decide +kernel
theorem dX8_passWeekIn_165 : decode cX8_passWeekIn 165 = .ok (.invokestatic 197, 3) := by decide +kernel
theorem dX8_passWeekIn_168 : decode cX8_passWeekIn 168 = .ok (.iastore, 1) := by decide +kernel
theorem dX8_passWeekIn_169 : decode cX8_passWeekIn 169 = .ok (.iconst 0, 1) := by decide +kernel
theorem dX8_passWeekIn_170 : decode cX8_passWeekIn 170 = .ok (.ireturn, 1) := by decide +kernel
theorem dX8_priceOf_0 : decode cX8_priceOf 0 = .ok (.iconst 0, 1) := by decide +kernel
theorem dX8_priceOf_1 : decode cX8_priceOf 1 = .ok (.istore_n 2, 1) := by decide +kernel
theorem dX8_priceOf_2 : decode cX8_priceOf 2 = .ok (.iconst 0, 1) := by decide +kernel
theorem dX8_priceOf_3 : decode cX8_priceOf 3 = .ok (.istore_n 3, 1) := by decide +kernel
theorem dX8_priceOf_4 : decode cX8_priceOf 4 = .ok (.iload_n 3, 1) := by decide +kernel
theorem dX8_priceOf_5 : decode cX8_priceOf 5 = .ok (.aload_n 0, 1) := by decide +kernel
theorem dX8_priceOf_6 : decode cX8_priceOf 6 = .ok (.getfield 23, 3) := by decide +kernel
theorem dX8_priceOf_9 : decode cX8_priceOf 9 = .ok (.getfield 108, 3) := by decide +kernel
theorem dX8_priceOf_12 : decode cX8_priceOf 12 = .ok (.if_icmp .ge 29, 3) := by decide +kernel
theorem dX8_priceOf_15 : decode cX8_priceOf 15 = .ok (.iload_n 1, 1) := by decide +kernel
theorem dX8_priceOf_16 : decode cX8_priceOf 16 = .ok (.iload_n 3, 1) := by decide +kernel
theorem dX8_priceOf_17 : decode cX8_priceOf 17 = .ok (.invokestatic 256, 3) := by decide +kernel
theorem dX8_priceOf_20 : decode cX8_priceOf 20 = .ok (.ifCond .eq 15, 3) := by decide +kernel
theorem dX8_priceOf_23 : decode cX8_priceOf 23 = .ok (.iload_n 2, 1) := by decide +kernel
theorem dX8_priceOf_24 : decode cX8_priceOf 24 = .ok (.aload_n 0, 1) := by decide +kernel
theorem dX8_priceOf_25 : decode cX8_priceOf 25 = .ok (.getfield 23, 3) := by decide +kernel
theorem dX8_priceOf_28 : decode cX8_priceOf 28 = .ok (.getfield 115, 3) := by decide +kernel
theorem dX8_priceOf_31 : decode cX8_priceOf 31 = .ok (.iload_n 3, 1) := by decide +kernel
theorem dX8_priceOf_32 : decode cX8_priceOf 32 = .ok (.iaload, 1) := by decide +kernel
theorem dX8_priceOf_33 : decode cX8_priceOf 33 = .ok (.iadd, 1) := by decide +kernel
theorem dX8_priceOf_34 : decode cX8_priceOf 34 = .ok (.istore_n 2, 1) := by decide +kernel
theorem dX8_priceOf_35 : decode cX8_priceOf 35 = .ok (.iinc 3 1, 3) := by decide +kernel
theorem dX8_priceOf_38 : decode cX8_priceOf 38 = .ok (.goto (-34), 3) := by decide +kernel
theorem dX8_priceOf_41 : decode cX8_priceOf 41 = .ok (.iload_n 2, 1) := by decide +kernel
theorem dX8_priceOf_42 : decode cX8_priceOf 42 = .ok (.ireturn, 1) := by decide +kernel
theorem dX8_purse_0 : decode cX8_purse 0 = .ok (.aload_n 0, 1) := by decide +kernel
theorem dX8_purse_1 : decode cX8_purse 1 = .ok (.iload_n 1, 1) := by decide +kernel
theorem dX8_purse_2 : decode cX8_purse 2 = .ok (.invokevirtual 138, 3) := by decide +kernel
theorem dX8_purse_5 : decode cX8_purse 5 = .ok (.ifCond .eq 10, 3) := by decide +kernel
theorem dX8_purse_8 : decode cX8_purse 8 = .ok (.iload_n 2, 1) := by decide +kernel
theorem dX8_purse_9 : decode cX8_purse 9 = .ok (.invokestatic 215, 3) := by decide +kernel
theorem dX8_purse_12 : decode cX8_purse 12 = .ok (.ifCond .ne 5, 3) := by decide +kernel
theorem dX8_purse_15 : decode cX8_purse 15 = .ok (.iconst (-1), 1) := by decide +kernel
theorem dX8_purse_16 : decode cX8_purse 16 = .ok (.ireturn, 1) := by decide +kernel
theorem dX8_purse_17 : decode cX8_purse 17 = .ok (.aload_n 0, 1) := by decide +kernel
theorem dX8_purse_18 : decode cX8_purse 18 = .ok (.iload_n 2, 1) := by decide +kernel
theorem dX8_purse_19 : decode cX8_purse 19 = .ok (.iconst 0, 1) := by decide +kernel
theorem dX8_purse_20 : decode cX8_purse 20 = .ok (.invokevirtual 218, 3) := by decide +kernel
theorem dX8_purse_23 : decode cX8_purse 23 = .ok (.aload_n 0, 1) := by decide +kernel
theorem dX8_purse_24 : decode cX8_purse 24 = .ok (.getfield 34, 3) := by decide +kernel
theorem dX8_purse_27 : decode cX8_purse 27 = .ok (.getfield 144, 3) := by decide +kernel
theorem dX8_purse_30 : decode cX8_purse 30 = .ok (.iload_n 1, 1) := by decide +kernel
theorem dX8_purse_31 : decode cX8_purse 31 = .ok (.iaload, 1) := by decide +kernel
theorem dX8_purse_32 : decode cX8_purse 32 = .ok (.ireturn, 1) := by decide +kernel
theorem dX8_putBytes_0 : decode cX8_putBytes 0 = .ok (.bipush 24, 2) := by decide +kernel
theorem dX8_putBytes_2 : decode cX8_putBytes 2 = .ok (.istore_n 2, 1) := by decide +kernel
theorem dX8_putBytes_3 : decode cX8_putBytes 3 = .ok (.iload_n 2, 1) := by decide +kernel
theorem dX8_putBytes_4 : decode cX8_putBytes 4 = .ok (.ifCond .lt 42, 3) := by decide +kernel
theorem dX8_putBytes_7 : decode cX8_putBytes 7 = .ok (.aload_n 0, 1) := by decide +kernel
theorem dX8_putBytes_8 : decode cX8_putBytes 8 = .ok (.getfield 78, 3) := by decide +kernel
theorem dX8_putBytes_11 : decode cX8_putBytes 11 = .ok (.sipush 1600, 3) := by decide +kernel
theorem dX8_putBytes_14 : decode cX8_putBytes 14 = .ok (.if_icmp .ge 26, 3) := by decide +kernel
theorem dX8_putBytes_17 : decode cX8_putBytes 17 = .ok (.aload_n 0, 1) := by decide +kernel
theorem dX8_putBytes_18 : decode cX8_putBytes 18 = .ok (.getfield 9, 3) := by decide +kernel
theorem dX8_putBytes_21 : decode cX8_putBytes 21 = .ok (.aload_n 0, 1) := by decide +kernel
theorem dX8_putBytes_22 : decode cX8_putBytes 22 = .ok (.getfield 78, 3) := by decide +kernel
theorem dX8_putBytes_25 : decode cX8_putBytes 25 = .ok (.iload_n 1, 1) := by decide +kernel
theorem dX8_putBytes_26 : decode cX8_putBytes 26 = .ok (.iload_n 2, 1) := by decide +kernel
theorem dX8_putBytes_27 : decode cX8_putBytes 27 = .ok (.iushr, 1) := by decide +kernel
theorem dX8_putBytes_28 : decode cX8_putBytes 28 = .ok (.i2b, 1) := by decide +kernel
theorem dX8_putBytes_29 : decode cX8_putBytes 29 = .ok (.bastore, 1) := by decide +kernel
theorem dX8_putBytes_30 : decode cX8_putBytes 30 = .ok (.aload_n 0, 1) := by decide +kernel
theorem dX8_putBytes_31 : decode cX8_putBytes 31 = .ok (.dup, 1) := by decide +kernel
theorem dX8_putBytes_32 : decode cX8_putBytes 32 = .ok (.getfield 78, 3) := by decide +kernel
theorem dX8_putBytes_35 : decode cX8_putBytes 35 = .ok (.iconst 1, 1) := by decide +kernel
theorem dX8_putBytes_36 : decode cX8_putBytes 36 = .ok (.iadd, 1) := by decide +kernel
theorem dX8_putBytes_37 : decode cX8_putBytes 37 = .ok (.putfield 78, 3) := by decide +kernel
theorem dX8_putBytes_40 : decode cX8_putBytes 40 = .ok (.iinc 2 (-8), 3) := by decide +kernel
theorem dX8_putBytes_43 : decode cX8_putBytes 43 = .ok (.goto (-40), 3) := by decide +kernel
theorem dX8_putBytes_46 : decode cX8_putBytes 46 = .ok (.return_, 1) := by decide +kernel
theorem dX8_rate_0 : decode cX8_rate 0 = .ok (.aload_n 0, 1) := by decide +kernel
theorem dX8_rate_1 : decode cX8_rate 1 = .ok (.getfield 68, 3) := by decide +kernel
theorem dX8_rate_4 : decode cX8_rate 4 = .ok (.iload_n 1, 1) := by decide +kernel
theorem dX8_rate_5 : decode cX8_rate 5 = .ok (.iconst 5, 1) := by decide +kernel
theorem dX8_rate_6 : decode cX8_rate 6 = .ok (.imul, 1) := by decide +kernel
theorem dX8_rate_7 : decode cX8_rate 7 = .ok (.iload_n 2, 1) := by decide +kernel
theorem dX8_rate_8 : decode cX8_rate 8 = .ok (.iadd, 1) := by decide +kernel
theorem dX8_rate_9 : decode cX8_rate 9 = .ok (.iaload, 1) := by decide +kernel
theorem dX8_rate_10 : decode cX8_rate 10 = .ok (.ireturn, 1) := by decide +kernel
theorem dX8_rateAll_0 : decode cX8_rateAll 0 = .ok (.iconst 0, 1) := by decide +kernel
theorem dX8_rateAll_1 : decode cX8_rateAll 1 = .ok (.istore_n 1, 1) := by decide +kernel
theorem dX8_rateAll_2 : decode cX8_rateAll 2 = .ok (.iload_n 1, 1) := by decide +kernel
theorem dX8_rateAll_3 : decode cX8_rateAll 3 = .ok (.aload_n 0, 1) := by decide +kernel
theorem dX8_rateAll_4 : decode cX8_rateAll 4 = .ok (.getfield 23, 3) := by decide +kernel
theorem dX8_rateAll_7 : decode cX8_rateAll 7 = .ok (.getfield 99, 3) := by decide +kernel
theorem dX8_rateAll_10 : decode cX8_rateAll 10 = .ok (.if_icmp .ge 44, 3) := by decide +kernel
theorem dX8_rateAll_13 : decode cX8_rateAll 13 = .ok (.iconst 0, 1) := by decide +kernel
theorem dX8_rateAll_14 : decode cX8_rateAll 14 = .ok (.istore_n 2, 1) := by decide +kernel
theorem dX8_rateAll_15 : decode cX8_rateAll 15 = .ok (.iload_n 2, 1) := by decide +kernel
theorem dX8_rateAll_16 : decode cX8_rateAll 16 = .ok (.aload_n 0, 1) := by decide +kernel
theorem dX8_rateAll_17 : decode cX8_rateAll 17 = .ok (.getfield 23, 3) := by decide +kernel
theorem dX8_rateAll_20 : decode cX8_rateAll 20 = .ok (.getfield 108, 3) := by decide +kernel
theorem dX8_rateAll_23 : decode cX8_rateAll 23 = .ok (.if_icmp .ge 25, 3) := by decide +kernel
theorem dX8_rateAll_26 : decode cX8_rateAll 26 = .ok (.aload_n 0, 1) := by decide +kernel
theorem dX8_rateAll_27 : decode cX8_rateAll 27 = .ok (.getfield 68, 3) := by decide +kernel
theorem dX8_rateAll_30 : decode cX8_rateAll 30 = .ok (.iload_n 1, 1) := by decide +kernel
theorem dX8_rateAll_31 : decode cX8_rateAll 31 = .ok (.iconst 5, 1) := by decide +kernel
theorem dX8_rateAll_32 : decode cX8_rateAll 32 = .ok (.imul, 1) := by decide +kernel
theorem dX8_rateAll_33 : decode cX8_rateAll 33 = .ok (.iload_n 2, 1) := by decide +kernel
theorem dX8_rateAll_34 : decode cX8_rateAll 34 = .ok (.iadd, 1) := by decide +kernel
theorem dX8_rateAll_35 : decode cX8_rateAll 35 = .ok (.aload_n 0, 1) := by decide +kernel
theorem dX8_rateAll_36 : decode cX8_rateAll 36 = .ok (.iload_n 1, 1) := by decide +kernel
theorem dX8_rateAll_37 : decode cX8_rateAll 37 = .ok (.iload_n 2, 1) := by decide +kernel
theorem dX8_rateAll_38 : decode cX8_rateAll 38 = .ok (.invokevirtual 157, 3) := by decide +kernel
theorem dX8_rateAll_41 : decode cX8_rateAll 41 = .ok (.iastore, 1) := by decide +kernel
theorem dX8_rateAll_42 : decode cX8_rateAll 42 = .ok (.iinc 2 1, 3) := by decide +kernel
theorem dX8_rateAll_45 : decode cX8_rateAll 45 = .ok (.goto (-30), 3) := by decide +kernel
theorem dX8_rateAll_48 : decode cX8_rateAll 48 = .ok (.iinc 1 1, 3) := by decide +kernel
theorem dX8_rateAll_51 : decode cX8_rateAll 51 = .ok (.goto (-49), 3) := by decide +kernel
theorem dX8_rateAll_54 : decode cX8_rateAll 54 = .ok (.return_, 1) := by decide +kernel
theorem dX8_redo_0 : decode cX8_redo 0 = .ok (.aload_n 0, 1) := by decide +kernel
theorem dX8_redo_1 : decode cX8_redo 1 = .ok (.getfield 40, 3) := by decide +kernel
theorem dX8_redo_4 : decode cX8_redo 4 = .ok (.aload_n 0, 1) := by decide +kernel
theorem dX8_redo_5 : decode cX8_redo 5 = .ok (.getfield 30, 3) := by decide +kernel
theorem dX8_redo_8 : decode cX8_redo 8 = .ok (.invokevirtual 209, 3) := by decide +kernel
theorem dX8_redo_11 : decode cX8_redo 11 = .ok (.ireturn, 1) := by decide +kernel
theorem dX8_restore_0 : decode cX8_restore 0 = .ok (.iload_n 1, 1) := by decide +kernel
theorem dX8_restore_1 : decode cX8_restore 1 = .ok (.ifCond .lt 17, 3) := by decide +kernel
theorem dX8_restore_4 : decode cX8_restore 4 = .ok (.iload_n 1, 1) := by decide +kernel
theorem dX8_restore_5 : decode cX8_restore 5 = .ok (.iconst 3, 1) := by decide +kernel
theorem dX8_restore_6 : decode cX8_restore 6 = .ok (.if_icmp .ge 12, 3) := by decide +kernel
theorem dX8_restore_9 : decode cX8_restore 9 = .ok (.aload_n 0, 1) := by decide +kernel
theorem dX8_restore_10 : decode cX8_restore 10 = .ok (.getfield 48, 3) := by decide +kernel
theorem dX8_restore_13 : decode cX8_restore 13 = .ok (.iload_n 1, 1) := by decide +kernel
theorem dX8_restore_14 : decode cX8_restore 14 = .ok (.baload, 1) := by decide +kernel
theorem dX8_restore_15 : decode cX8_restore 15 = .ok (.ifCond .ne 5, 3) := by decide +kernel
theorem dX8_restore_18 : decode cX8_restore 18 = .ok (.iconst (-1), 1) := by decide +kernel
theorem dX8_restore_19 : decode cX8_restore 19 = .ok (.ireturn, 1) := by decide +kernel
theorem dX8_restore_20 : decode cX8_restore 20 = .ok (.aload_n 0, 1) := by decide +kernel
theorem dX8_restore_21 : decode cX8_restore 21 = .ok (.getfield 30, 3) := by decide +kernel
theorem dX8_restore_24 : decode cX8_restore 24 = .ok (.aload_n 0, 1) := by decide +kernel
theorem dX8_restore_25 : decode cX8_restore 25 = .ok (.getfield 44, 3) := by decide +kernel
theorem dX8_restore_28 : decode cX8_restore 28 = .ok (.iload_n 1, 1) := by decide +kernel
theorem dX8_restore_29 : decode cX8_restore 29 = .ok (.invokevirtual 346, 3) := by decide +kernel
theorem dX8_restore_32 : decode cX8_restore 32 = .ok (.aload_n 0, 1) := by decide +kernel
theorem dX8_restore_33 : decode cX8_restore 33 = .ok (.getfield 40, 3) := by decide +kernel
theorem dX8_restore_36 : decode cX8_restore 36 = .ok (.aload_n 0, 1) := by decide +kernel
theorem dX8_restore_37 : decode cX8_restore 37 = .ok (.getfield 30, 3) := by decide +kernel
theorem dX8_restore_40 : decode cX8_restore 40 = .ok (.invokevirtual 75, 3) := by decide +kernel
theorem dX8_restore_43 : decode cX8_restore 43 = .ok (.aload_n 0, 1) := by decide +kernel
theorem dX8_restore_44 : decode cX8_restore 44 = .ok (.getfield 30, 3) := by decide +kernel
theorem dX8_restore_47 : decode cX8_restore 47 = .ok (.getfield 168, 3) := by decide +kernel
theorem dX8_restore_50 : decode cX8_restore 50 = .ok (.ireturn, 1) := by decide +kernel
theorem dX8_rivals_0 : decode cX8_rivals 0 = .ok (.aload_n 0, 1) := by decide +kernel
theorem dX8_rivals_1 : decode cX8_rivals 1 = .ok (.iconst 0, 1) := by decide +kernel
theorem dX8_rivals_2 : decode cX8_rivals 2 = .ok (.putfield 96, 3) := by decide +kernel
theorem dX8_rivals_5 : decode cX8_rivals 5 = .ok (.aload_n 0, 1) := by decide +kernel
theorem dX8_rivals_6 : decode cX8_rivals 6 = .ok (.invokevirtual 237, 3) := by decide +kernel
theorem dX8_rivals_9 : decode cX8_rivals 9 = .ok (.istore_n 3, 1) := by decide +kernel
theorem dX8_rivals_10 : decode cX8_rivals 10 = .ok (.aload_n 0, 1) := by decide +kernel
theorem dX8_rivals_11 : decode cX8_rivals 11 = .ok (.iload_n 1, 1) := by decide +kernel
theorem dX8_rivals_12 : decode cX8_rivals 12 = .ok (.invokevirtual 138, 3) := by decide +kernel
theorem dX8_rivals_15 : decode cX8_rivals 15 = .ok (.ifCond .eq 20, 3) := by decide +kernel
theorem dX8_rivals_18 : decode cX8_rivals 18 = .ok (.aload_n 0, 1) := by decide +kernel
theorem dX8_rivals_19 : decode cX8_rivals 19 = .ok (.iload_n 2, 1) := by decide +kernel
theorem dX8_rivals_20 : decode cX8_rivals 20 = .ok (.invokevirtual 138, 3) := by decide +kernel
theorem dX8_rivals_23 : decode cX8_rivals 23 = .ok (.ifCond .eq 12, 3) := by decide +kernel
theorem dX8_rivals_26 : decode cX8_rivals 26 = .ok (.iload_n 1, 1) := by decide +kernel
theorem dX8_rivals_27 : decode cX8_rivals 27 = .ok (.iload_n 2, 1) := by decide +kernel
theorem dX8_rivals_28 : decode cX8_rivals 28 = .ok (.if_icmp .eq 7, 3) := by decide +kernel
theorem dX8_rivals_31 : decode cX8_rivals 31 = .ok (.iload_n 3, 1) := by decide +kernel
theorem dX8_rivals_32 : decode cX8_rivals 32 = .ok (.ifCond .ne 5, 3) := by decide +kernel
theorem dX8_rivals_35 : decode cX8_rivals 35 = .ok (.iconst (-1), 1) := by decide +kernel
theorem dX8_rivals_36 : decode cX8_rivals 36 = .ok (.ireturn, 1) := by decide +kernel
theorem dX8_rivals_37 : decode cX8_rivals 37 = .ok (.aload_n 0, 1) := by decide +kernel
theorem dX8_rivals_38 : decode cX8_rivals 38 = .ok (.invokevirtual 273, 3) := by decide +kernel
theorem dX8_rivals_41 : decode cX8_rivals 41 = .ok (.iconst 0, 1) := by decide +kernel
theorem dX8_rivals_42 : decode cX8_rivals 42 = .ok (.istore 4, 2) := by decide +kernel
theorem dX8_rivals_44 : decode cX8_rivals 44 = .ok (.iconst 0, 1) := by decide +kernel
theorem dX8_rivals_45 : decode cX8_rivals 45 = .ok (.istore 5, 2) := by decide +kernel
theorem dX8_rivals_47 : decode cX8_rivals 47 = .ok (.iload 5, 2) := by decide +kernel
theorem dX8_rivals_49 : decode cX8_rivals 49 = .ok (.aload_n 0, 1) := by decide +kernel
theorem dX8_rivals_50 : decode cX8_rivals 50 = .ok (.getfield 23, 3) := by decide +kernel
theorem dX8_rivals_53 : decode cX8_rivals 53 = .ok (.getfield 108, 3) := by decide +kernel
theorem dX8_rivals_56 : decode cX8_rivals 56 = .ok (.if_icmp .ge 72, 3) := by decide +kernel
theorem dX8_rivals_59 : decode cX8_rivals 59 = .ok (.iconst 0, 1) := by decide +kernel
theorem dX8_rivals_60 : decode cX8_rivals 60 = .ok (.istore 6, 2) := by decide +kernel
theorem dX8_rivals_62 : decode cX8_rivals 62 = .ok (.iload 6, 2) := by decide +kernel
theorem dX8_rivals_64 : decode cX8_rivals 64 = .ok (.aload_n 0, 1) := by decide +kernel
theorem dX8_rivals_65 : decode cX8_rivals 65 = .ok (.getfield 23, 3) := by decide +kernel
theorem dX8_rivals_68 : decode cX8_rivals 68 = .ok (.getfield 108, 3) := by decide +kernel
theorem dX8_rivals_71 : decode cX8_rivals 71 = .ok (.if_icmp .ge 51, 3) := by decide +kernel
theorem dX8_rivals_74 : decode cX8_rivals 74 = .ok (.aload_n 0, 1) := by decide +kernel
theorem dX8_rivals_75 : decode cX8_rivals 75 = .ok (.iload_n 1, 1) := by decide +kernel
theorem dX8_rivals_76 : decode cX8_rivals 76 = .ok (.iload 5, 2) := by decide +kernel
theorem dX8_rivals_78 : decode cX8_rivals 78 = .ok (.iload 6, 2) := by decide +kernel
theorem dX8_rivals_80 : decode cX8_rivals 80 = .ok (.iload_n 3, 1) := by decide +kernel
theorem dX8_rivals_81 : decode cX8_rivals 81 = .ok (.invokevirtual 291, 3) := by decide +kernel
theorem dX8_rivals_84 : decode cX8_rivals 84 = .ok (.ifCond .eq 32, 3) := by decide +kernel
theorem dX8_rivals_87 : decode cX8_rivals 87 = .ok (.aload_n 0, 1) := by decide +kernel
theorem dX8_rivals_88 : decode cX8_rivals 88 = .ok (.iload_n 2, 1) := by decide +kernel
theorem dX8_rivals_89 : decode cX8_rivals 89 = .ok (.iload 6, 2) := by decide +kernel
theorem dX8_rivals_91 : decode cX8_rivals 91 = .ok (.iload 5, 2) := by decide +kernel
theorem dX8_rivals_93 : decode cX8_rivals 93 = .ok (.iload_n 3, 1) := by decide +kernel
theorem dX8_rivals_94 : decode cX8_rivals 94 = .ok (.invokevirtual 291, 3) := by decide +kernel
theorem dX8_rivals_97 : decode cX8_rivals 97 = .ok (.ifCond .eq 19, 3) := by decide +kernel
theorem dX8_rivals_100 : decode cX8_rivals 100 = .ok (.iload 4, 2) := by decide +kernel
theorem dX8_rivals_102 : decode cX8_rivals 102 = .ok (.ifCond .ne 11, 3) := by decide +kernel
theorem dX8_rivals_105 : decode cX8_rivals 105 = .ok (.aload_n 0, 1) := by decide +kernel
theorem dX8_rivals_106 : decode cX8_rivals 106 = .ok (.iload 5, 2) := by decide +kernel
theorem dX8_rivals_108 : decode cX8_rivals 108 = .ok (.iload 6, 2) := by decide +kernel
theorem dX8_rivals_110 : decode cX8_rivals 110 = .ok (.invokevirtual 295, 3) := by decide +kernel
theorem dX8_rivals_113 : decode cX8_rivals 113 = .ok (.iinc 4 1, 3) := by decide +kernel
theorem dX8_rivals_116 : decode cX8_rivals 116 = .ok (.iinc 6 1, 3) := by decide +kernel
theorem dX8_rivals_119 : decode cX8_rivals 119 = .ok (.goto (-57), 3) := by decide +kernel
theorem dX8_rivals_122 : decode cX8_rivals 122 = .ok (.iinc 5 1, 3) := by decide +kernel
theorem dX8_rivals_125 : decode cX8_rivals 125 = .ok (.goto (-78), 3) := by decide +kernel
theorem dX8_rivals_128 : decode cX8_rivals 128 = .ok (.iload 4, 2) := by decide +kernel
theorem dX8_rivals_130 : decode cX8_rivals 130 = .ok (.ireturn, 1) := by decide +kernel
theorem dX8_round_0 : decode cX8_round 0 = .ok (.iload_n 1, 1) := by decide +kernel
theorem dX8_round_1 : decode cX8_round 1 = .ok (.ifCond .lt 8, 3) := by decide +kernel
theorem dX8_round_4 : decode cX8_round 4 = .ok (.iload_n 1, 1) := by decide +kernel
theorem dX8_round_5 : decode cX8_round 5 = .ok (.iconst 1, 1) := by decide +kernel
theorem dX8_round_6 : decode cX8_round 6 = .ok (.if_icmp .le 5, 3) := by decide +kernel
theorem dX8_round_9 : decode cX8_round 9 = .ok (.iconst (-1), 1) := by decide +kernel
theorem dX8_round_10 : decode cX8_round 10 = .ok (.ireturn, 1) := by decide +kernel
theorem dX8_round_11 : decode cX8_round 11 = .ok (.aload_n 0, 1) := by decide +kernel
theorem dX8_round_12 : decode cX8_round 12 = .ok (.invokevirtual 237, 3) := by decide +kernel
theorem dX8_round_15 : decode cX8_round 15 = .ok (.istore_n 2, 1) := by decide +kernel
theorem dX8_round_16 : decode cX8_round 16 = .ok (.iconst 0, 1) := by decide +kernel
theorem dX8_round_17 : decode cX8_round 17 = .ok (.istore_n 3, 1) := by decide +kernel
theorem dX8_round_18 : decode cX8_round 18 = .ok (.iload_n 3, 1) := by decide +kernel
theorem dX8_round_19 : decode cX8_round 19 = .ok (.aload_n 0, 1) := by decide +kernel
theorem dX8_round_20 : decode cX8_round 20 = .ok (.getfield 23, 3) := by decide +kernel
theorem dX8_round_23 : decode cX8_round 23 = .ok (.getfield 99, 3) := by decide +kernel
theorem dX8_round_26 : decode cX8_round 26 = .ok (.if_icmp .ge 38, 3) := by decide +kernel
theorem dX8_round_29 : decode cX8_round 29 = .ok (.aload_n 0, 1) := by decide +kernel
theorem dX8_round_30 : decode cX8_round 30 = .ok (.getfield 65, 3) := by decide +kernel
theorem dX8_round_33 : decode cX8_round 33 = .ok (.iload_n 3, 1) := by decide +kernel
theorem dX8_round_34 : decode cX8_round 34 = .ok (.aload_n 0, 1) := by decide +kernel
theorem dX8_round_35 : decode cX8_round 35 = .ok (.getfield 30, 3) := by decide +kernel
theorem dX8_round_38 : decode cX8_round 38 = .ok (.iload_n 3, 1) := by decide +kernel
theorem dX8_round_39 : decode cX8_round 39 = .ok (.invokevirtual 147, 3) := by decide +kernel
theorem dX8_round_42 : decode cX8_round 42 = .ok (.iconst (-1), 1) := by decide +kernel
theorem dX8_round_43 : decode cX8_round 43 = .ok (.if_icmp .ne 13, 3) := by decide +kernel
theorem dX8_round_46 : decode cX8_round 46 = .ok (.iload_n 2, 1) := by decide +kernel
theorem dX8_round_47 : decode cX8_round 47 = .ok (.aload_n 0, 1) := by decide +kernel
theorem dX8_round_48 : decode cX8_round 48 = .ok (.iload_n 3, 1) := by decide +kernel
theorem dX8_round_49 : decode cX8_round 49 = .ok (.invokevirtual 229, 3) := by decide +kernel
theorem dX8_round_52 : decode cX8_round 52 = .ok (.iand, 1) := by decide +kernel
theorem dX8_round_53 : decode cX8_round 53 = .ok (.goto 4, 3) := by decide +kernel
theorem dX8_round_56 : decode cX8_round 56 = .ok (.iconst 0, 1) := by decide +kernel
theorem dX8_round_57 : decode cX8_round 57 = .ok (.iastore, 1) := by decide +kernel
theorem dX8_round_58 : decode cX8_round 58 = .ok (.iinc 3 1, 3) := by decide +kernel
theorem dX8_round_61 : decode cX8_round 61 = .ok (.goto (-43), 3) := by decide +kernel
theorem dX8_round_64 : decode cX8_round 64 = .ok (.iconst (-1), 1) := by decide +kernel
theorem dX8_round_65 : decode cX8_round 65 = .ok (.istore_n 3, 1) := by decide +kernel
theorem dX8_round_66 : decode cX8_round 66 = .ok (.iconst (-1), 1) := by decide +kernel
theorem dX8_round_67 : decode cX8_round 67 = .ok (.istore 4, 2) := by decide +kernel
theorem dX8_round_69 : decode cX8_round 69 = .ok (.aload_n 0, 1) := by decide +kernel
theorem dX8_round_70 : decode cX8_round 70 = .ok (.aload_n 0, 1) := by decide +kernel
theorem dX8_round_71 : decode cX8_round 71 = .ok (.getfield 23, 3) := by decide +kernel
theorem dX8_round_74 : decode cX8_round 74 = .ok (.getfield 108, 3) := by decide +kernel
theorem dX8_round_77 : decode cX8_round 77 = .ok (.iconst 1, 1) := by decide +kernel
theorem dX8_round_78 : decode cX8_round 78 = .ok (.iadd, 1) := by decide +kernel
theorem dX8_round_79 : decode cX8_round 79 = .ok (.invokevirtual 241, 3) := by decide +kernel
theorem dX8_round_82 : decode cX8_round 82 = .ok (.istore 5, 2) := by decide +kernel
theorem dX8_round_84 : decode cX8_round 84 = .ok (.iconst 0, 1) := by decide +kernel
theorem dX8_round_85 : decode cX8_round 85 = .ok (.istore 6, 2) := by decide +kernel
theorem dX8_round_87 : decode cX8_round 87 = .ok (.iload 6, 2) := by decide +kernel
theorem dX8_round_89 : decode cX8_round 89 = .ok (.iload 5, 2) := by decide +kernel
theorem dX8_round_91 : decode cX8_round 91 = .ok (.if_icmp .ge 75, 3) := by decide +kernel
theorem dX8_round_94 : decode cX8_round 94 = .ok (.aload_n 0, 1) := by decide +kernel
theorem dX8_round_95 : decode cX8_round 95 = .ok (.iload 6, 2) := by decide +kernel
theorem dX8_round_97 : decode cX8_round 97 = .ok (.aload_n 0, 1) := by decide +kernel
theorem dX8_round_98 : decode cX8_round 98 = .ok (.getfield 23, 3) := by decide +kernel

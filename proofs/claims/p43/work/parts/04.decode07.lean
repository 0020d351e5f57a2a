theorem dX9_wayOf_66 : decode cX9_wayOf 66 = .ok (.istore 4, 2) := by decide +kernel
theorem dX9_wayOf_68 : decode cX9_wayOf 68 = .ok (.aload_n 0, 1) := by decide +kernel
theorem dX9_wayOf_69 : decode cX9_wayOf 69 = .ok (.iload 7, 2) := by decide +kernel
theorem dX9_wayOf_71 : decode cX9_wayOf 71 = .ok (.invokevirtual 418, 3) := by decide +kernel
theorem dX9_wayOf_74 : decode cX9_wayOf 74 = .ok (.istore 5, 2) := by decide +kernel
theorem dX9_wayOf_76 : decode cX9_wayOf 76 = .ok (.iinc 6 1, 3) := by decide +kernel
theorem dX9_wayOf_79 : decode cX9_wayOf 79 = .ok (.goto (-68), 3) := by decide +kernel
theorem dX9_wayOf_82 : decode cX9_wayOf 82 = .ok (.iload 4, 2) := by decide +kernel
theorem dX9_wayOf_84 : decode cX9_wayOf 84 = .ok (.ireturn, 1) := by decide +kernel
theorem dX9_week_0 : decode cX9_week 0 = .ok (.aload_n 0, 1) := by decide +kernel
theorem dX9_week_1 : decode cX9_week 1 = .ok (.getfield 88, 3) := by decide +kernel
theorem dX9_week_4 : decode cX9_week 4 = .ok (.bipush 24, 2) := by decide +kernel
theorem dX9_week_6 : decode cX9_week 6 = .ok (.iaload, 1) := by decide +kernel
theorem dX9_week_7 : decode cX9_week 7 = .ok (.sipush 999, 3) := by decide +kernel
theorem dX9_week_10 : decode cX9_week 10 = .ok (.if_icmp .ne 5, 3) := by decide +kernel
theorem dX9_week_13 : decode cX9_week 13 = .ok (.iconst (-1), 1) := by decide +kernel
theorem dX9_week_14 : decode cX9_week 14 = .ok (.ireturn, 1) := by decide +kernel
theorem dX9_week_15 : decode cX9_week 15 = .ok (.aload_n 0, 1) := by decide +kernel
theorem dX9_week_16 : decode cX9_week 16 = .ok (.invokevirtual 443, 3) := by decide +kernel
theorem dX9_week_19 : decode cX9_week 19 = .ok (.aload_n 0, 1) := by decide +kernel
theorem dX9_week_20 : decode cX9_week 20 = .ok (.iconst 1, 1) := by decide +kernel
theorem dX9_week_21 : decode cX9_week 21 = .ok (.invokevirtual 446, 3) := by decide +kernel
theorem dX9_week_24 : decode cX9_week 24 = .ok (.ireturn, 1) := by decide +kernel
theorem dX9_will_0 : decode cX9_will 0 = .ok (.aload_n 0, 1) := by decide +kernel
theorem dX9_will_1 : decode cX9_will 1 = .ok (.iload_n 1, 1) := by decide +kernel
theorem dX9_will_2 : decode cX9_will 2 = .ok (.invokevirtual 412, 3) := by decide +kernel
theorem dX9_will_5 : decode cX9_will 5 = .ok (.ifCond .eq 22, 3) := by decide +kernel
theorem dX9_will_8 : decode cX9_will 8 = .ok (.iload_n 2, 1) := by decide +kernel
theorem dX9_will_9 : decode cX9_will 9 = .ok (.iconst 0, 1) := by decide +kernel
theorem dX9_will_10 : decode cX9_will 10 = .ok (.bipush 60, 2) := by decide +kernel
theorem dX9_will_12 : decode cX9_will 12 = .ok (.invokestatic 354, 3) := by decide +kernel
theorem dX9_will_15 : decode cX9_will 15 = .ok (.ifCond .eq 12, 3) := by decide +kernel
theorem dX9_will_18 : decode cX9_will 18 = .ok (.iload_n 3, 1) := by decide +kernel
theorem dX9_will_19 : decode cX9_will 19 = .ok (.iconst 0, 1) := by decide +kernel
theorem dX9_will_20 : decode cX9_will 20 = .ok (.iconst 1, 1) := by decide +kernel
theorem dX9_will_21 : decode cX9_will 21 = .ok (.invokestatic 354, 3) := by decide +kernel
theorem dX9_will_24 : decode cX9_will 24 = .ok (.ifCond .ne 6, 3) := by decide +kernel
theorem dX9_will_27 : decode cX9_will 27 = .ok (.bipush (-2), 2) := by decide +kernel
theorem dX9_will_29 : decode cX9_will 29 = .ok (.ireturn, 1) := by decide +kernel
theorem dX9_will_30 : decode cX9_will 30 = .ok (.aload_n 0, 1) := by decide +kernel
theorem dX9_will_31 : decode cX9_will 31 = .ok (.invokevirtual 456, 3) := by decide +kernel
theorem dX9_will_34 : decode cX9_will 34 = .ok (.iconst 0, 1) := by decide +kernel
theorem dX9_will_35 : decode cX9_will 35 = .ok (.istore 4, 2) := by decide +kernel
theorem dX9_will_37 : decode cX9_will 37 = .ok (.iconst 0, 1) := by decide +kernel
theorem dX9_will_38 : decode cX9_will 38 = .ok (.istore 5, 2) := by decide +kernel
theorem dX9_will_40 : decode cX9_will 40 = .ok (.iload 5, 2) := by decide +kernel
theorem dX9_will_42 : decode cX9_will 42 = .ok (.iload_n 2, 1) := by decide +kernel
theorem dX9_will_43 : decode cX9_will 43 = .ok (.if_icmp .ge 28, 3) := by decide +kernel
theorem dX9_will_46 : decode cX9_will 46 = .ok (.iload 4, 2) := by decide +kernel
theorem dX9_will_48 : decode cX9_will 48 = .ok (.aload_n 0, 1) := by decide +kernel
theorem dX9_will_49 : decode cX9_will 49 = .ok (.iload_n 3, 1) := by decide +kernel
theorem dX9_will_50 : decode cX9_will 50 = .ok (.iconst 1, 1) := by decide +kernel
theorem dX9_will_51 : decode cX9_will 51 = .ok (.if_icmp .ne 7, 3) := by decide +kernel
theorem dX9_will_54 : decode cX9_will 54 = .ok (.iconst 1, 1) := by decide +kernel
theorem dX9_will_55 : decode cX9_will 55 = .ok (.goto 4, 3) := by decide +kernel
theorem dX9_will_58 : decode cX9_will 58 = .ok (.iconst 0, 1) := by decide +kernel
theorem dX9_will_59 : decode cX9_will 59 = .ok (.invokevirtual 446, 3) := by decide +kernel
theorem dX9_will_62 : decode cX9_will 62 = .ok (.iadd, 1) := by decide +kernel
theorem dX9_will_63 : decode cX9_will 63 = .ok (.istore 4, 2) := by decide +kernel
theorem dX9_will_65 : decode cX9_will 65 = .ok (.iinc 5 1, 3) := by decide +kernel
theorem dX9_will_68 : decode cX9_will 68 = .ok (.goto (-28), 3) := by decide +kernel
theorem dX9_will_71 : decode cX9_will 71 = .ok (.aload_n 0, 1) := by decide +kernel
theorem dX9_will_72 : decode cX9_will 72 = .ok (.getfield 88, 3) := by decide +kernel
theorem dX9_will_75 : decode cX9_will 75 = .ok (.iconst 0, 1) := by decide +kernel
theorem dX9_will_76 : decode cX9_will 76 = .ok (.iload_n 1, 1) := by decide +kernel
theorem dX9_will_77 : decode cX9_will 77 = .ok (.iadd, 1) := by decide +kernel
theorem dX9_will_78 : decode cX9_will 78 = .ok (.iaload, 1) := by decide +kernel
theorem dX9_will_79 : decode cX9_will 79 = .ok (.aload_n 0, 1) := by decide +kernel
theorem dX9_will_80 : decode cX9_will 80 = .ok (.getfield 88, 3) := by decide +kernel
theorem dX9_will_83 : decode cX9_will 83 = .ok (.iconst 5, 1) := by decide +kernel
theorem dX9_will_84 : decode cX9_will 84 = .ok (.iload_n 1, 1) := by decide +kernel
theorem dX9_will_85 : decode cX9_will 85 = .ok (.iadd, 1) := by decide +kernel
theorem dX9_will_86 : decode cX9_will 86 = .ok (.iaload, 1) := by decide +kernel
theorem dX9_will_87 : decode cX9_will 87 = .ok (.bipush 10, 2) := by decide +kernel
theorem dX9_will_89 : decode cX9_will 89 = .ok (.imul, 1) := by decide +kernel
theorem dX9_will_90 : decode cX9_will 90 = .ok (.iadd, 1) := by decide +kernel
theorem dX9_will_91 : decode cX9_will 91 = .ok (.istore 5, 2) := by decide +kernel
theorem dX9_will_93 : decode cX9_will 93 = .ok (.aload_n 0, 1) := by decide +kernel
theorem dX9_will_94 : decode cX9_will 94 = .ok (.invokevirtual 459, 3) := by decide +kernel
theorem dX9_will_97 : decode cX9_will 97 = .ok (.iload 5, 2) := by decide +kernel
theorem dX9_will_99 : decode cX9_will 99 = .ok (.ireturn, 1) := by decide +kernel
theorem dX9_wordHere_0 : decode cX9_wordHere 0 = .ok (.aload_n 0, 1) := by decide +kernel
theorem dX9_wordHere_1 : decode cX9_wordHere 1 = .ok (.ldc2_w 165, 3) := by decide +kernel
theorem dX9_wordHere_4 : decode cX9_wordHere 4 = .ok (.invokevirtual 229, 3) := by decide +kernel
theorem dX9_wordHere_7 : decode cX9_wordHere 7 = .ok (.ifCond .eq 6, 3) := by decide +kernel
theorem dX9_wordHere_10 : decode cX9_wordHere 10 = .ok (.bipush 115, 2) := by decide +kernel
theorem dX9_wordHere_12 : decode cX9_wordHere 12 = .ok (.ireturn, 1) := by decide +kernel
theorem dX9_wordHere_13 : decode cX9_wordHere 13 = .ok (.aload_n 0, 1) := by decide +kernel
theorem dX9_wordHere_14 : decode cX9_wordHere 14 = .ok (.ldc2_w 167, 3) := by decide +kernel
theorem dX9_wordHere_17 : decode cX9_wordHere 17 = .ok (.invokevirtual 229, 3) := by decide +kernel
theorem dX9_wordHere_20 : decode cX9_wordHere 20 = .ok (.ifCond .eq 6, 3) := by decide +kernel
theorem dX9_wordHere_23 : decode cX9_wordHere 23 = .ok (.bipush 116, 2) := by decide +kernel
theorem dX9_wordHere_25 : decode cX9_wordHere 25 = .ok (.ireturn, 1) := by decide +kernel
theorem dX9_wordHere_26 : decode cX9_wordHere 26 = .ok (.aload_n 0, 1) := by decide +kernel
theorem dX9_wordHere_27 : decode cX9_wordHere 27 = .ok (.ldc2_w 169, 3) := by decide +kernel
theorem dX9_wordHere_30 : decode cX9_wordHere 30 = .ok (.invokevirtual 229, 3) := by decide +kernel
theorem dX9_wordHere_33 : decode cX9_wordHere 33 = .ok (.ifCond .eq 6, 3) := by decide +kernel
theorem dX9_wordHere_36 : decode cX9_wordHere 36 = .ok (.bipush 108, 2) := by decide +kernel
theorem dX9_wordHere_38 : decode cX9_wordHere 38 = .ok (.ireturn, 1) := by decide +kernel
theorem dX9_wordHere_39 : decode cX9_wordHere 39 = .ok (.aload_n 0, 1) := by decide +kernel
theorem dX9_wordHere_40 : decode cX9_wordHere 40 = .ok (.ldc2_w 171, 3) := by decide +kernel
theorem dX9_wordHere_43 : decode cX9_wordHere 43 = .ok (.invokevirtual 229, 3) := by decide +kernel
theorem dX9_wordHere_46 : decode cX9_wordHere 46 = .ok (.ifCond .eq 6, 3) := by decide +kernel
theorem dX9_wordHere_49 : decode cX9_wordHere 49 = .ok (.bipush 111, 2) := by decide +kernel
theorem dX9_wordHere_51 : decode cX9_wordHere 51 = .ok (.ireturn, 1) := by decide +kernel
theorem dX9_wordHere_52 : decode cX9_wordHere 52 = .ok (.aload_n 0, 1) := by decide +kernel
theorem dX9_wordHere_53 : decode cX9_wordHere 53 = .ok (.ldc2_w 173, 3) := by decide +kernel
theorem dX9_wordHere_56 : decode cX9_wordHere 56 = .ok (.invokevirtual 229, 3) := by decide +kernel
theorem dX9_wordHere_59 : decode cX9_wordHere 59 = .ok (.ifCond .eq 6, 3) := by decide +kernel
theorem dX9_wordHere_62 : decode cX9_wordHere 62 = .ok (.bipush 119, 2) := by decide +kernel
theorem dX9_wordHere_64 : decode cX9_wordHere 64 = .ok (.ireturn, 1) := by decide +kernel
theorem dX9_wordHere_65 : decode cX9_wordHere 65 = .ok (.aload_n 0, 1) := by decide +kernel
theorem dX9_wordHere_66 : decode cX9_wordHere 66 = .ok (.ldc2_w 147, 3) := by decide +kernel
theorem dX9_wordHere_69 : decode cX9_wordHere 69 = .ok (.invokevirtual 229, 3) := by decide +kernel
theorem dX9_wordHere_72 : decode cX9_wordHere 72 = .ok (.ifCond .eq 6, 3) := by decide +kernel
theorem dX9_wordHere_75 : decode cX9_wordHere 75 = .ok (.bipush 112, 2) := by decide +kernel
theorem dX9_wordHere_77 : decode cX9_wordHere 77 = .ok (.ireturn, 1) := by decide +kernel
theorem dX9_wordHere_78 : decode cX9_wordHere 78 = .ok (.aload_n 0, 1) := by decide +kernel
theorem dX9_wordHere_79 : decode cX9_wordHere 79 = .ok (.ldc2_w 155, 3) := by decide +kernel
theorem dX9_wordHere_82 : decode cX9_wordHere 82 = .ok (.invokevirtual 229, 3) := by decide +kernel
theorem dX9_wordHere_85 : decode cX9_wordHere 85 = .ok (.ifCond .eq 8, 3) := by decide +kernel
theorem dX9_wordHere_88 : decode cX9_wordHere 88 = .ok (.bipush 117, 2) := by decide +kernel
theorem dX9_wordHere_90 : decode cX9_wordHere 90 = .ok (.goto 4, 3) := by decide +kernel
theorem dX9_wordHere_93 : decode cX9_wordHere 93 = .ok (.iconst 0, 1) := by decide +kernel
theorem dX9_wordHere_94 : decode cX9_wordHere 94 = .ok (.ireturn, 1) := by decide +kernel

theorem dX8_about_0 : decode cX8_about 0 = .ok (.iload_n 1, 1) := by decide +kernel
theorem dX8_about_1 : decode cX8_about 1 = .ok (.tableswitch 180 0 14 #[75, 83, 91, 99, 104, 109, 117, 125, 133, 141, 149, 154, 159, 167, 172], 75) := by decide +kernel
theorem dX8_about_76 : decode cX8_about 76 = .ok (.aload_n 0, 1) := by decide +kernel
theorem dX8_about_77 : decode cX8_about 77 = .ok (.getfield 23, 3) := by decide +kernel
theorem dX8_about_80 : decode cX8_about 80 = .ok (.getfield 99, 3) := by decide +kernel
theorem dX8_about_83 : decode cX8_about 83 = .ok (.ireturn, 1) := by decide +kernel
theorem dX8_about_84 : decode cX8_about 84 = .ok (.aload_n 0, 1) := by decide +kernel
theorem dX8_about_85 : decode cX8_about 85 = .ok (.getfield 23, 3) := by decide +kernel
theorem dX8_about_88 : decode cX8_about 88 = .ok (.getfield 108, 3) := by decide +kernel
theorem dX8_about_91 : decode cX8_about 91 = .ok (.ireturn, 1) := by decide +kernel
theorem dX8_about_92 : decode cX8_about 92 = .ok (.aload_n 0, 1) := by decide +kernel
theorem dX8_about_93 : decode cX8_about 93 = .ok (.getfield 23, 3) := by decide +kernel
theorem dX8_about_96 : decode cX8_about 96 = .ok (.getfield 188, 3) := by decide +kernel
theorem dX8_about_99 : decode cX8_about 99 = .ok (.ireturn, 1) := by decide +kernel
theorem dX8_about_100 : decode cX8_about 100 = .ok (.aload_n 0, 1) := by decide +kernel
theorem dX8_about_101 : decode cX8_about 101 = .ok (.invokevirtual 237, 3) := by decide +kernel
theorem dX8_about_104 : decode cX8_about 104 = .ok (.ireturn, 1) := by decide +kernel
theorem dX8_about_105 : decode cX8_about 105 = .ok (.aload_n 0, 1) := by decide +kernel
theorem dX8_about_106 : decode cX8_about 106 = .ok (.invokevirtual 301, 3) := by decide +kernel
theorem dX8_about_109 : decode cX8_about 109 = .ok (.ireturn, 1) := by decide +kernel
theorem dX8_about_110 : decode cX8_about 110 = .ok (.aload_n 0, 1) := by decide +kernel
theorem dX8_about_111 : decode cX8_about 111 = .ok (.getfield 30, 3) := by decide +kernel
theorem dX8_about_114 : decode cX8_about 114 = .ok (.getfield 168, 3) := by decide +kernel
theorem dX8_about_117 : decode cX8_about 117 = .ok (.ireturn, 1) := by decide +kernel
theorem dX8_about_118 : decode cX8_about 118 = .ok (.aload_n 0, 1) := by decide +kernel
theorem dX8_about_119 : decode cX8_about 119 = .ok (.getfield 30, 3) := by decide +kernel
theorem dX8_about_122 : decode cX8_about 122 = .ok (.getfield 185, 3) := by decide +kernel
theorem dX8_about_125 : decode cX8_about 125 = .ok (.ireturn, 1) := by decide +kernel
theorem dX8_about_126 : decode cX8_about 126 = .ok (.aload_n 0, 1) := by decide +kernel
theorem dX8_about_127 : decode cX8_about 127 = .ok (.getfield 40, 3) := by decide +kernel
theorem dX8_about_130 : decode cX8_about 130 = .ok (.getfield 349, 3) := by decide +kernel
theorem dX8_about_133 : decode cX8_about 133 = .ok (.ireturn, 1) := by decide +kernel
theorem dX8_about_134 : decode cX8_about 134 = .ok (.aload_n 0, 1) := by decide +kernel
theorem dX8_about_135 : decode cX8_about 135 = .ok (.getfield 40, 3) := by decide +kernel
theorem dX8_about_138 : decode cX8_about 138 = .ok (.getfield 352, 3) := by decide +kernel
theorem dX8_about_141 : decode cX8_about 141 = .ok (.ireturn, 1) := by decide +kernel
theorem dX8_about_142 : decode cX8_about 142 = .ok (.aload_n 0, 1) := by decide +kernel
theorem dX8_about_143 : decode cX8_about 143 = .ok (.getfield 55, 3) := by decide +kernel
theorem dX8_about_146 : decode cX8_about 146 = .ok (.getfield 355, 3) := by decide +kernel
theorem dX8_about_149 : decode cX8_about 149 = .ok (.ireturn, 1) := by decide +kernel
theorem dX8_about_150 : decode cX8_about 150 = .ok (.aload_n 0, 1) := by decide +kernel
theorem dX8_about_151 : decode cX8_about 151 = .ok (.getfield 321, 3) := by decide +kernel
theorem dX8_about_154 : decode cX8_about 154 = .ok (.ireturn, 1) := by decide +kernel
theorem dX8_about_155 : decode cX8_about 155 = .ok (.aload_n 0, 1) := by decide +kernel
theorem dX8_about_156 : decode cX8_about 156 = .ok (.getfield 78, 3) := by decide +kernel
theorem dX8_about_159 : decode cX8_about 159 = .ok (.ireturn, 1) := by decide +kernel
theorem dX8_about_160 : decode cX8_about 160 = .ok (.aload_n 0, 1) := by decide +kernel
theorem dX8_about_161 : decode cX8_about 161 = .ok (.getfield 23, 3) := by decide +kernel
theorem dX8_about_164 : decode cX8_about 164 = .ok (.getfield 358, 3) := by decide +kernel
theorem dX8_about_167 : decode cX8_about 167 = .ok (.ireturn, 1) := by decide +kernel
theorem dX8_about_168 : decode cX8_about 168 = .ok (.aload_n 0, 1) := by decide +kernel
theorem dX8_about_169 : decode cX8_about 169 = .ok (.getfield 96, 3) := by decide +kernel
theorem dX8_about_172 : decode cX8_about 172 = .ok (.ireturn, 1) := by decide +kernel
theorem dX8_about_173 : decode cX8_about 173 = .ok (.aload_n 0, 1) := by decide +kernel
theorem dX8_about_174 : decode cX8_about 174 = .ok (.getfield 23, 3) := by decide +kernel
theorem dX8_about_177 : decode cX8_about 177 = .ok (.getfield 171, 3) := by decide +kernel
theorem dX8_about_180 : decode cX8_about 180 = .ok (.ireturn, 1) := by decide +kernel
theorem dX8_about_181 : decode cX8_about 181 = .ok (.iconst (-1), 1) := by decide +kernel
theorem dX8_about_182 : decode cX8_about 182 = .ok (.ireturn, 1) := by decide +kernel
theorem dX8_alike_0 : decode cX8_alike 0 = .ok (.aload_n 0, 1) := by decide +kernel
theorem dX8_alike_1 : decode cX8_alike 1 = .ok (.iload_n 1, 1) := by decide +kernel
theorem dX8_alike_2 : decode cX8_alike 2 = .ok (.invokevirtual 111, 3) := by decide +kernel
theorem dX8_alike_5 : decode cX8_alike 5 = .ok (.ifCond .eq 11, 3) := by decide +kernel
theorem dX8_alike_16 : decode cX8_alike 16 = .ok (.iconst (-1), 1) := by decide +kernel
theorem dX8_alike_17 : decode cX8_alike 17 = .ok (.ireturn, 1) := by decide +kernel
theorem dX8_along_0 : decode cX8_along 0 = .ok (.iload_n 1, 1) := by decide +kernel
theorem dX8_along_1 : decode cX8_along 1 = .ok (.invokestatic 260, 3) := by decide +kernel
theorem dX8_along_4 : decode cX8_along 4 = .ok (.ifCond .eq 10, 3) := by decide +kernel
theorem dX8_along_7 : decode cX8_along 7 = .ok (.iload_n 2, 1) := by decide +kernel
theorem dX8_along_8 : decode cX8_along 8 = .ok (.invokestatic 260, 3) := by decide +kernel
theorem dX8_along_11 : decode cX8_along 11 = .ok (.ifCond .ne 5, 3) := by decide +kernel
theorem dX8_along_14 : decode cX8_along 14 = .ok (.iconst (-1), 1) := by decide +kernel
theorem dX8_along_15 : decode cX8_along 15 = .ok (.ireturn, 1) := by decide +kernel
theorem dX8_along_16 : decode cX8_along 16 = .ok (.iconst 0, 1) := by decide +kernel
theorem dX8_along_17 : decode cX8_along 17 = .ok (.istore_n 3, 1) := by decide +kernel
theorem dX8_along_18 : decode cX8_along 18 = .ok (.iconst 0, 1) := by decide +kernel
theorem dX8_along_19 : decode cX8_along 19 = .ok (.istore 4, 2) := by decide +kernel
theorem dX8_along_21 : decode cX8_along 21 = .ok (.iload 4, 2) := by decide +kernel
theorem dX8_along_23 : decode cX8_along 23 = .ok (.aload_n 0, 1) := by decide +kernel
theorem dX8_along_24 : decode cX8_along 24 = .ok (.getfield 23, 3) := by decide +kernel
theorem dX8_along_27 : decode cX8_along 27 = .ok (.getfield 99, 3) := by decide +kernel
theorem dX8_along_30 : decode cX8_along 30 = .ok (.if_icmp .ge 48, 3) := by decide +kernel
theorem dX8_along_78 : decode cX8_along 78 = .ok (.iload_n 3, 1) := by decide +kernel
theorem dX8_along_79 : decode cX8_along 79 = .ok (.ireturn, 1) := by decide +kernel
theorem dX8_ask_0 : decode cX8_ask 0 = .ok (.iload_n 1, 1) := by decide +kernel
theorem dX8_ask_1 : decode cX8_ask 1 = .ok (.ifCond .lt 33, 3) := by decide +kernel
theorem dX8_ask_4 : decode cX8_ask 4 = .ok (.iload_n 1, 1) := by decide +kernel
theorem dX8_ask_5 : decode cX8_ask 5 = .ok (.iconst 1, 1) := by decide +kernel
theorem dX8_ask_6 : decode cX8_ask 6 = .ok (.if_icmp .gt 28, 3) := by decide +kernel
theorem dX8_ask_9 : decode cX8_ask 9 = .ok (.aload_n 0, 1) := by decide +kernel
theorem dX8_ask_10 : decode cX8_ask 10 = .ok (.getfield 23, 3) := by decide +kernel
theorem dX8_ask_13 : decode cX8_ask 13 = .ok (.getfield 108, 3) := by decide +kernel
theorem dX8_ask_16 : decode cX8_ask 16 = .ok (.ifCond .eq 18, 3) := by decide +kernel
theorem dX8_ask_34 : decode cX8_ask 34 = .ok (.iconst (-1), 1) := by decide +kernel
theorem dX8_ask_35 : decode cX8_ask 35 = .ok (.ireturn, 1) := by decide +kernel
theorem dX8_barter_0 : decode cX8_barter 0 = .ok (.aload_n 0, 1) := by decide +kernel
theorem dX8_barter_1 : decode cX8_barter 1 = .ok (.invokevirtual 273, 3) := by decide +kernel
theorem dX8_barter_4 : decode cX8_barter 4 = .ok (.iconst 0, 1) := by decide +kernel
theorem dX8_barter_5 : decode cX8_barter 5 = .ok (.istore_n 1, 1) := by decide +kernel
theorem dX8_barter_6 : decode cX8_barter 6 = .ok (.iload_n 1, 1) := by decide +kernel
theorem dX8_barter_7 : decode cX8_barter 7 = .ok (.aload_n 0, 1) := by decide +kernel
theorem dX8_barter_8 : decode cX8_barter 8 = .ok (.getfield 23, 3) := by decide +kernel
theorem dX8_barter_11 : decode cX8_barter 11 = .ok (.getfield 99, 3) := by decide +kernel
theorem dX8_barter_14 : decode cX8_barter 14 = .ok (.if_icmp .ge 23, 3) := by decide +kernel
theorem dX8_barter_37 : decode cX8_barter 37 = .ok (.ldc 160, 2) := by decide +kernel
theorem dX8_barter_39 : decode cX8_barter 39 = .ok (.istore_n 1, 1) := by decide +kernel
theorem dX8_barter_40 : decode cX8_barter 40 = .ok (.iconst 1, 1) := by decide +kernel
theorem dX8_barter_41 : decode cX8_barter 41 = .ok (.aload_n 0, 1) := by decide +kernel
theorem dX8_barter_42 : decode cX8_barter 42 = .ok (.getfield 23, 3) := by decide +kernel
theorem dX8_barter_45 : decode cX8_barter 45 = .ok (.getfield 108, 3) := by decide +kernel
theorem dX8_barter_48 : decode cX8_barter 48 = .ok (.invokestatic 276, 3) := by decide +kernel
theorem dX8_barter_51 : decode cX8_barter 51 = .ok (.istore_n 2, 1) := by decide +kernel
theorem dX8_barter_52 : decode cX8_barter 52 = .ok (.aload_n 0, 1) := by decide +kernel
theorem dX8_barter_53 : decode cX8_barter 53 = .ok (.iload_n 2, 1) := by decide +kernel
theorem dX8_barter_54 : decode cX8_barter 54 = .ok (.invokevirtual 241, 3) := by decide +kernel
theorem dX8_barter_57 : decode cX8_barter 57 = .ok (.istore_n 3, 1) := by decide +kernel
theorem dX8_barter_58 : decode cX8_barter 58 = .ok (.iconst 0, 1) := by decide +kernel
theorem dX8_barter_59 : decode cX8_barter 59 = .ok (.istore 4, 2) := by decide +kernel
theorem dX8_barter_61 : decode cX8_barter 61 = .ok (.iload 4, 2) := by decide +kernel
theorem dX8_barter_63 : decode cX8_barter 63 = .ok (.iload_n 3, 1) := by decide +kernel
theorem dX8_barter_64 : decode cX8_barter 64 = .ok (.if_icmp .ge 47, 3) := by decide +kernel
theorem dX8_barter_67 : decode cX8_barter 67 = .ok (.aload_n 0, 1) := by decide +kernel
theorem dX8_barter_68 : decode cX8_barter 68 = .ok (.iload 4, 2) := by decide +kernel
theorem dX8_barter_70 : decode cX8_barter 70 = .ok (.iload_n 2, 1) := by decide +kernel
theorem dX8_barter_71 : decode cX8_barter 71 = .ok (.invokevirtual 244, 3) := by decide +kernel
theorem dX8_barter_74 : decode cX8_barter 74 = .ok (.aload_n 0, 1) := by decide +kernel
theorem dX8_barter_75 : decode cX8_barter 75 = .ok (.invokevirtual 279, 3) := by decide +kernel
theorem dX8_barter_78 : decode cX8_barter 78 = .ok (.ifCond .eq 10, 3) := by decide +kernel
theorem dX8_barter_81 : decode cX8_barter 81 = .ok (.aload_n 0, 1) := by decide +kernel
theorem dX8_barter_82 : decode cX8_barter 82 = .ok (.invokevirtual 282, 3) := by decide +kernel
theorem dX8_barter_85 : decode cX8_barter 85 = .ok (.goto 5, 3) := by decide +kernel
theorem dX8_barter_90 : decode cX8_barter 90 = .ok (.istore 5, 2) := by decide +kernel
theorem dX8_barter_92 : decode cX8_barter 92 = .ok (.iload 5, 2) := by decide +kernel
theorem dX8_barter_94 : decode cX8_barter 94 = .ok (.iload_n 1, 1) := by decide +kernel
theorem dX8_barter_95 : decode cX8_barter 95 = .ok (.if_icmp .le 10, 3) := by decide +kernel
theorem dX8_barter_98 : decode cX8_barter 98 = .ok (.iload 5, 2) := by decide +kernel
theorem dX8_barter_100 : decode cX8_barter 100 = .ok (.istore_n 1, 1) := by decide +kernel
theorem dX8_barter_101 : decode cX8_barter 101 = .ok (.aload_n 0, 1) := by decide +kernel
theorem dX8_barter_102 : decode cX8_barter 102 = .ok (.invokevirtual 253, 3) := by decide +kernel
theorem dX8_barter_105 : decode cX8_barter 105 = .ok (.iinc 4 1, 3) := by decide +kernel
theorem dX8_barter_108 : decode cX8_barter 108 = .ok (.goto (-47), 3) := by decide +kernel
theorem dX8_barter_111 : decode cX8_barter 111 = .ok (.iload_n 1, 1) := by decide +kernel
theorem dX8_barter_112 : decode cX8_barter 112 = .ok (.ireturn, 1) := by decide +kernel
theorem dX8_barterGladness_0 : decode cX8_barterGladness 0 = .ok (.iconst 0, 1) := by decide +kernel
theorem dX8_barterGladness_1 : decode cX8_barterGladness 1 = .ok (.istore_n 1, 1) := by decide +kernel
theorem dX8_barterGladness_2 : decode cX8_barterGladness 2 = .ok (.iconst 0, 1) := by decide +kernel
theorem dX8_barterGladness_3 : decode cX8_barterGladness 3 = .ok (.istore_n 2, 1) := by decide +kernel
theorem dX8_barterGladness_4 : decode cX8_barterGladness 4 = .ok (.iload_n 2, 1) := by decide +kernel
theorem dX8_barterGladness_5 : decode cX8_barterGladness 5 = .ok (.aload_n 0, 1) := by decide +kernel
theorem dX8_barterGladness_6 : decode cX8_barterGladness 6 = .ok (.getfield 23, 3) := by decide +kernel
theorem dX8_barterGladness_9 : decode cX8_barterGladness 9 = .ok (.getfield 99, 3) := by decide +kernel
theorem dX8_barterGladness_12 : decode cX8_barterGladness 12 = .ok (.if_icmp .ge 36, 3) := by decide +kernel
theorem dX8_barterGladness_48 : decode cX8_barterGladness 48 = .ok (.iload_n 1, 1) := by decide +kernel
theorem dX8_barterGladness_49 : decode cX8_barterGladness 49 = .ok (.ireturn, 1) := by decide +kernel
theorem dX8_bring_0 : decode cX8_bring 0 = .ok (.aload_n 0, 1) := by decide +kernel
theorem dX8_bring_1 : decode cX8_bring 1 = .ok (.iload_n 1, 1) := by decide +kernel
theorem dX8_bring_2 : decode cX8_bring 2 = .ok (.invokevirtual 111, 3) := by decide +kernel
theorem dX8_bring_5 : decode cX8_bring 5 = .ok (.ifCond .eq 34, 3) := by decide +kernel
theorem dX8_bring_39 : decode cX8_bring 39 = .ok (.ldc 160, 2) := by decide +kernel
theorem dX8_bring_41 : decode cX8_bring 41 = .ok (.ireturn, 1) := by decide +kernel
theorem dX8_due_0 : decode cX8_due 0 = .ok (.aload_n 0, 1) := by decide +kernel
theorem dX8_due_1 : decode cX8_due 1 = .ok (.iload_n 1, 1) := by decide +kernel
theorem dX8_due_2 : decode cX8_due 2 = .ok (.invokevirtual 111, 3) := by decide +kernel
theorem dX8_due_5 : decode cX8_due 5 = .ok (.ifCond .eq 14, 3) := by decide +kernel
theorem dX8_due_19 : decode cX8_due 19 = .ok (.iconst (-1), 1) := by decide +kernel
theorem dX8_due_20 : decode cX8_due 20 = .ok (.ireturn, 1) := by decide +kernel
theorem dX8_earned_0 : decode cX8_earned 0 = .ok (.aload_n 0, 1) := by decide +kernel
theorem dX8_earned_1 : decode cX8_earned 1 = .ok (.aload_n 0, 1) := by decide +kernel
theorem dX8_earned_2 : decode cX8_earned 2 = .ok (.invokevirtual 301, 3) := by decide +kernel
theorem dX8_earned_5 : decode cX8_earned 5 = .ok (.invokevirtual 298, 3) := by decide +kernel
theorem dX8_earned_8 : decode cX8_earned 8 = .ok (.ireturn, 1) := by decide +kernel
theorem dX8_end_0 : decode cX8_end 0 = .ok (.iload_n 1, 1) := by decide +kernel
theorem dX8_end_1 : decode cX8_end 1 = .ok (.ifCond .lt 11, 3) := by decide +kernel
theorem dX8_end_4 : decode cX8_end 4 = .ok (.iload_n 1, 1) := by decide +kernel
theorem dX8_end_5 : decode cX8_end 5 = .ok (.aload_n 0, 1) := by decide +kernel
theorem dX8_end_6 : decode cX8_end 6 = .ok (.getfield 78, 3) := by decide +kernel
theorem dX8_end_9 : decode cX8_end 9 = .ok (.if_icmp .le 5, 3) := by decide +kernel
theorem dX8_end_12 : decode cX8_end 12 = .ok (.iconst (-1), 1) := by decide +kernel
theorem dX8_end_13 : decode cX8_end 13 = .ok (.ireturn, 1) := by decide +kernel
theorem dX8_end_14 : decode cX8_end 14 = .ok (.aload_n 0, 1) := by decide +kernel
theorem dX8_end_15 : decode cX8_end 15 = .ok (.iload_n 1, 1) := by decide +kernel
theorem dX8_end_16 : decode cX8_end 16 = .ok (.putfield 78, 3) := by decide +kernel
theorem dX8_end_19 : decode cX8_end 19 = .ok (.iload_n 1, 1) := by decide +kernel
theorem dX8_end_20 : decode cX8_end 20 = .ok (.ireturn, 1) := by decide +kernel
theorem dX8_fashion_0 : decode cX8_fashion 0 = .ok (.iconst (-1), 1) := by decide +kernel
theorem dX8_fashion_1 : decode cX8_fashion 1 = .ok (.istore_n 1, 1) := by decide +kernel
theorem dX8_fashion_2 : decode cX8_fashion 2 = .ok (.iconst 0, 1) := by decide +kernel
theorem dX8_fashion_3 : decode cX8_fashion 3 = .ok (.istore_n 2, 1) := by decide +kernel
theorem dX8_fashion_4 : decode cX8_fashion 4 = .ok (.iconst 0, 1) := by decide +kernel
theorem dX8_fashion_5 : decode cX8_fashion 5 = .ok (.istore_n 3, 1) := by decide +kernel
theorem dX8_fashion_6 : decode cX8_fashion 6 = .ok (.iload_n 3, 1) := by decide +kernel
theorem dX8_fashion_7 : decode cX8_fashion 7 = .ok (.bipush 7, 2) := by decide +kernel
theorem dX8_fashion_9 : decode cX8_fashion 9 = .ok (.if_icmp .ge 60, 3) := by decide +kernel
theorem dX8_fashion_12 : decode cX8_fashion 12 = .ok (.iconst 0, 1) := by decide +kernel
theorem dX8_fashion_13 : decode cX8_fashion 13 = .ok (.istore 4, 2) := by decide +kernel
theorem dX8_fashion_15 : decode cX8_fashion 15 = .ok (.iconst 0, 1) := by decide +kernel
theorem dX8_fashion_16 : decode cX8_fashion 16 = .ok (.istore 5, 2) := by decide +kernel
theorem dX8_fashion_18 : decode cX8_fashion 18 = .ok (.iload 5, 2) := by decide +kernel
theorem dX8_fashion_20 : decode cX8_fashion 20 = .ok (.aload_n 0, 1) := by decide +kernel
theorem dX8_fashion_21 : decode cX8_fashion 21 = .ok (.getfield 23, 3) := by decide +kernel
theorem dX8_fashion_24 : decode cX8_fashion 24 = .ok (.getfield 99, 3) := by decide +kernel
theorem dX8_fashion_27 : decode cX8_fashion 27 = .ok (.if_icmp .ge 25, 3) := by decide +kernel
theorem dX8_fashion_52 : decode cX8_fashion 52 = .ok (.iload 4, 2) := by decide +kernel
theorem dX8_fashion_54 : decode cX8_fashion 54 = .ok (.iload_n 2, 1) := by decide +kernel
theorem dX8_fashion_55 : decode cX8_fashion 55 = .ok (.if_icmp .le 8, 3) := by decide +kernel
theorem dX8_fashion_63 : decode cX8_fashion 63 = .ok (.iinc 3 1, 3) := by decide +kernel
theorem dX8_fashion_66 : decode cX8_fashion 66 = .ok (.goto (-60), 3) := by decide +kernel
theorem dX8_fashion_69 : decode cX8_fashion 69 = .ok (.iload_n 1, 1) := by decide +kernel
theorem dX8_fashion_70 : decode cX8_fashion 70 = .ok (.ireturn, 1) := by decide +kernel
theorem dX8_fault_0 : decode cX8_fault 0 = .ok (.iload_n 1, 1) := by decide +kernel
theorem dX8_fault_1 : decode cX8_fault 1 = .ok (.lookupswitch 43 #[(0, 27), (1, 35)], 27) := by decide +kernel
theorem dX8_fault_28 : decode cX8_fault 28 = .ok (.aload_n 0, 1) := by decide +kernel
theorem dX8_fault_29 : decode cX8_fault 29 = .ok (.getfield 16, 3) := by decide +kernel
theorem dX8_fault_32 : decode cX8_fault 32 = .ok (.getfield 102, 3) := by decide +kernel
theorem dX8_fault_35 : decode cX8_fault 35 = .ok (.ireturn, 1) := by decide +kernel
theorem dX8_fault_36 : decode cX8_fault 36 = .ok (.aload_n 0, 1) := by decide +kernel
theorem dX8_fault_37 : decode cX8_fault 37 = .ok (.getfield 16, 3) := by decide +kernel
theorem dX8_fault_40 : decode cX8_fault 40 = .ok (.getfield 105, 3) := by decide +kernel
theorem dX8_fault_43 : decode cX8_fault 43 = .ok (.ireturn, 1) := by decide +kernel
theorem dX8_fault_44 : decode cX8_fault 44 = .ok (.iconst (-1), 1) := by decide +kernel
theorem dX8_fault_45 : decode cX8_fault 45 = .ok (.ireturn, 1) := by decide +kernel
theorem dX8_favourite_0 : decode cX8_favourite 0 = .ok (.iconst (-1), 1) := by decide +kernel
theorem dX8_favourite_1 : decode cX8_favourite 1 = .ok (.istore_n 1, 1) := by decide +kernel
theorem dX8_favourite_2 : decode cX8_favourite 2 = .ok (.iconst (-1), 1) := by decide +kernel
theorem dX8_favourite_3 : decode cX8_favourite 3 = .ok (.istore_n 2, 1) := by decide +kernel
theorem dX8_favourite_4 : decode cX8_favourite 4 = .ok (.iconst 0, 1) := by decide +kernel
theorem dX8_favourite_5 : decode cX8_favourite 5 = .ok (.istore_n 3, 1) := by decide +kernel
theorem dX8_favourite_6 : decode cX8_favourite 6 = .ok (.iload_n 3, 1) := by decide +kernel
theorem dX8_favourite_7 : decode cX8_favourite 7 = .ok (.aload_n 0, 1) := by decide +kernel
theorem dX8_favourite_8 : decode cX8_favourite 8 = .ok (.getfield 23, 3) := by decide +kernel
theorem dX8_favourite_11 : decode cX8_favourite 11 = .ok (.getfield 108, 3) := by decide +kernel
theorem dX8_favourite_14 : decode cX8_favourite 14 = .ok (.if_icmp .ge 67, 3) := by decide +kernel
theorem dX8_favourite_81 : decode cX8_favourite 81 = .ok (.iload_n 1, 1) := by decide +kernel
theorem dX8_favourite_82 : decode cX8_favourite 82 = .ok (.ireturn, 1) := by decide +kernel
theorem dX8_feed_0 : decode cX8_feed 0 = .ok (.aload_n 0, 1) := by decide +kernel
theorem dX8_feed_1 : decode cX8_feed 1 = .ok (.getfield 78, 3) := by decide +kernel
theorem dX8_feed_4 : decode cX8_feed 4 = .ok (.bipush 20, 2) := by decide +kernel
theorem dX8_feed_6 : decode cX8_feed 6 = .ok (.iadd, 1) := by decide +kernel
theorem dX8_feed_7 : decode cX8_feed 7 = .ok (.sipush 1600, 3) := by decide +kernel
theorem dX8_feed_10 : decode cX8_feed 10 = .ok (.if_icmp .le 5, 3) := by decide +kernel
theorem dX8_feed_15 : decode cX8_feed 15 = .ok (.aload_n 0, 1) := by decide +kernel
theorem dX8_feed_16 : decode cX8_feed 16 = .ok (.iload_n 1, 1) := by decide +kernel
theorem dX8_feed_17 : decode cX8_feed 17 = .ok (.invokevirtual 82, 3) := by decide +kernel
theorem dX8_feed_20 : decode cX8_feed 20 = .ok (.aload_n 0, 1) := by decide +kernel
theorem dX8_feed_21 : decode cX8_feed 21 = .ok (.iload_n 2, 1) := by decide +kernel
theorem dX8_feed_22 : decode cX8_feed 22 = .ok (.invokevirtual 82, 3) := by decide +kernel
theorem dX8_feed_25 : decode cX8_feed 25 = .ok (.aload_n 0, 1) := by decide +kernel
theorem dX8_feed_26 : decode cX8_feed 26 = .ok (.iload_n 3, 1) := by decide +kernel
theorem dX8_feed_27 : decode cX8_feed 27 = .ok (.invokevirtual 82, 3) := by decide +kernel
theorem dX8_feed_30 : decode cX8_feed 30 = .ok (.aload_n 0, 1) := by decide +kernel
theorem dX8_feed_31 : decode cX8_feed 31 = .ok (.iload 4, 2) := by decide +kernel
theorem dX8_feed_33 : decode cX8_feed 33 = .ok (.invokevirtual 82, 3) := by decide +kernel
theorem dX8_feed_36 : decode cX8_feed 36 = .ok (.aload_n 0, 1) := by decide +kernel
theorem dX8_feed_37 : decode cX8_feed 37 = .ok (.iload 5, 2) := by decide +kernel
theorem dX8_feed_39 : decode cX8_feed 39 = .ok (.invokevirtual 82, 3) := by decide +kernel
theorem dX8_feed_42 : decode cX8_feed 42 = .ok (.aload_n 0, 1) := by decide +kernel
theorem dX8_feed_43 : decode cX8_feed 43 = .ok (.getfield 78, 3) := by decide +kernel
theorem dX8_feed_46 : decode cX8_feed 46 = .ok (.ireturn, 1) := by decide +kernel
theorem dX8_fetch_0 : decode cX8_fetch 0 = .ok (.aload_n 0, 1) := by decide +kernel
theorem dX8_fetch_1 : decode cX8_fetch 1 = .ok (.iload_n 1, 1) := by decide +kernel
theorem dX8_fetch_2 : decode cX8_fetch 2 = .ok (.invokevirtual 111, 3) := by decide +kernel
theorem dX8_fetch_5 : decode cX8_fetch 5 = .ok (.ifCond .eq 14, 3) := by decide +kernel
theorem dX8_fetch_19 : decode cX8_fetch 19 = .ok (.iconst (-1), 1) := by decide +kernel
theorem dX8_fetch_20 : decode cX8_fetch 20 = .ok (.ireturn, 1) := by decide +kernel
theorem dX8_fill_0 : decode cX8_fill 0 = .ok (.aload_n 0, 1) := by decide +kernel
theorem dX8_fill_1 : decode cX8_fill 1 = .ok (.iload_n 1, 1) := by decide +kernel
theorem dX8_fill_2 : decode cX8_fill 2 = .ok (.invokevirtual 138, 3) := by decide +kernel
theorem dX8_fill_5 : decode cX8_fill 5 = .ok (.ifCond .eq 29, 3) := by decide +kernel
theorem dX8_fill_34 : decode cX8_fill 34 = .ok (.iconst (-1), 1) := by decide +kernel
theorem dX8_fill_35 : decode cX8_fill 35 = .ok (.ireturn, 1) := by decide +kernel
theorem dX8_find_0 : decode cX8_find 0 = .ok (.iload_n 1, 1) := by decide +kernel
theorem dX8_find_1 : decode cX8_find 1 = .ok (.invokestatic 304, 3) := by decide +kernel
theorem dX8_find_4 : decode cX8_find 4 = .ok (.ifCond .eq 28, 3) := by decide +kernel
theorem dX8_find_7 : decode cX8_find 7 = .ok (.iload_n 2, 1) := by decide +kernel
theorem dX8_find_8 : decode cX8_find 8 = .ok (.invokestatic 304, 3) := by decide +kernel
theorem dX8_find_11 : decode cX8_find 11 = .ok (.ifCond .eq 21, 3) := by decide +kernel
theorem dX8_find_14 : decode cX8_find 14 = .ok (.iload_n 3, 1) := by decide +kernel
theorem dX8_find_15 : decode cX8_find 15 = .ok (.invokestatic 304, 3) := by decide +kernel
theorem dX8_find_18 : decode cX8_find 18 = .ok (.ifCond .eq 14, 3) := by decide +kernel
theorem dX8_find_21 : decode cX8_find 21 = .ok (.aload_n 0, 1) := by decide +kernel
theorem dX8_find_22 : decode cX8_find 22 = .ok (.iload_n 1, 1) := by decide +kernel
theorem dX8_find_23 : decode cX8_find 23 = .ok (.iload_n 2, 1) := by decide +kernel
theorem dX8_find_24 : decode cX8_find 24 = .ok (.iload_n 3, 1) := by decide +kernel
theorem dX8_find_25 : decode cX8_find 25 = .ok (.iconst 0, 1) := by decide +kernel
theorem dX8_find_26 : decode cX8_find 26 = .ok (.invokevirtual 307, 3) := by decide +kernel
theorem dX8_find_29 : decode cX8_find 29 = .ok (.goto 4, 3) := by decide +kernel
theorem dX8_find_32 : decode cX8_find 32 = .ok (.iconst (-1), 1) := by decide +kernel
theorem dX8_find_33 : decode cX8_find 33 = .ok (.ireturn, 1) := by decide +kernel
theorem dX8_frayed_0 : decode cX8_frayed 0 = .ok (.aload_n 0, 1) := by decide +kernel
theorem dX8_frayed_1 : decode cX8_frayed 1 = .ok (.iload_n 1, 1) := by decide +kernel
theorem dX8_frayed_2 : decode cX8_frayed 2 = .ok (.invokevirtual 111, 3) := by decide +kernel
theorem dX8_frayed_5 : decode cX8_frayed 5 = .ok (.ifCond .eq 25, 3) := by decide +kernel
theorem dX8_frayed_30 : decode cX8_frayed 30 = .ok (.iconst (-1), 1) := by decide +kernel
theorem dX8_frayed_31 : decode cX8_frayed 31 = .ok (.ireturn, 1) := by decide +kernel
theorem dX8_give_0 : decode cX8_give 0 = .ok (.aload_n 0, 1) := by decide +kernel
theorem dX8_give_1 : decode cX8_give 1 = .ok (.iload_n 1, 1) := by decide +kernel
theorem dX8_give_2 : decode cX8_give 2 = .ok (.invokevirtual 111, 3) := by decide +kernel
theorem dX8_give_5 : decode cX8_give 5 = .ok (.ifCond .eq 14, 3) := by decide +kernel
theorem dX8_give_19 : decode cX8_give 19 = .ok (.iconst (-1), 1) := by decide +kernel
theorem dX8_give_20 : decode cX8_give 20 = .ok (.ireturn, 1) := by decide +kernel
theorem dX8_glad_0 : decode cX8_glad 0 = .ok (.aload_n 0, 1) := by decide +kernel
theorem dX8_glad_1 : decode cX8_glad 1 = .ok (.iload_n 1, 1) := by decide +kernel
theorem dX8_glad_2 : decode cX8_glad 2 = .ok (.invokevirtual 138, 3) := by decide +kernel
theorem dX8_glad_5 : decode cX8_glad 5 = .ok (.ifCond .eq 20, 3) := by decide +kernel
theorem dX8_glad_25 : decode cX8_glad 25 = .ok (.ldc 160, 2) := by decide +kernel
theorem dX8_glad_27 : decode cX8_glad 27 = .ok (.ireturn, 1) := by decide +kernel
theorem dX8_house_0 : decode cX8_house 0 = .ok (.aload_n 0, 1) := by decide +kernel
theorem dX8_house_1 : decode cX8_house 1 = .ok (.iload_n 1, 1) := by decide +kernel
theorem dX8_house_2 : decode cX8_house 2 = .ok (.invokevirtual 138, 3) := by decide +kernel
theorem dX8_house_5 : decode cX8_house 5 = .ok (.ifCond .ne 6, 3) := by decide +kernel
theorem dX8_house_8 : decode cX8_house 8 = .ok (.bipush (-2), 2) := by decide +kernel
theorem dX8_house_10 : decode cX8_house 10 = .ok (.ireturn, 1) := by decide +kernel
theorem dX8_hum_0 : decode cX8_hum 0 = .ok (.iload_n 1, 1) := by decide +kernel
theorem dX8_hum_1 : decode cX8_hum 1 = .ok (.invokestatic 304, 3) := by decide +kernel
theorem dX8_hum_4 : decode cX8_hum 4 = .ok (.ifCond .eq 28, 3) := by decide +kernel
theorem dX8_hum_7 : decode cX8_hum 7 = .ok (.iload_n 2, 1) := by decide +kernel
theorem dX8_hum_8 : decode cX8_hum 8 = .ok (.invokestatic 304, 3) := by decide +kernel
theorem dX8_hum_11 : decode cX8_hum 11 = .ok (.ifCond .eq 21, 3) := by decide +kernel
theorem dX8_hum_14 : decode cX8_hum 14 = .ok (.iload_n 3, 1) := by decide +kernel
theorem dX8_hum_15 : decode cX8_hum 15 = .ok (.invokestatic 304, 3) := by decide +kernel
theorem dX8_hum_18 : decode cX8_hum 18 = .ok (.ifCond .eq 14, 3) := by decide +kernel
theorem dX8_hum_21 : decode cX8_hum 21 = .ok (.aload_n 0, 1) := by decide +kernel
theorem dX8_hum_22 : decode cX8_hum 22 = .ok (.iload_n 1, 1) := by decide +kernel
theorem dX8_hum_23 : decode cX8_hum 23 = .ok (.iload_n 2, 1) := by decide +kernel
theorem dX8_hum_24 : decode cX8_hum 24 = .ok (.iload_n 3, 1) := by decide +kernel
theorem dX8_hum_25 : decode cX8_hum 25 = .ok (.iconst 1, 1) := by decide +kernel
theorem dX8_hum_26 : decode cX8_hum 26 = .ok (.invokevirtual 307, 3) := by decide +kernel
theorem dX8_hum_29 : decode cX8_hum 29 = .ok (.goto 4, 3) := by decide +kernel
theorem dX8_hum_32 : decode cX8_hum 32 = .ok (.iconst (-1), 1) := by decide +kernel
theorem dX8_hum_33 : decode cX8_hum 33 = .ok (.ireturn, 1) := by decide +kernel
theorem dX8_idle_0 : decode cX8_idle 0 = .ok (.iconst 0, 1) := by decide +kernel
theorem dX8_idle_1 : decode cX8_idle 1 = .ok (.istore_n 1, 1) := by decide +kernel
theorem dX8_idle_2 : decode cX8_idle 2 = .ok (.iconst 0, 1) := by decide +kernel
theorem dX8_idle_3 : decode cX8_idle 3 = .ok (.istore_n 2, 1) := by decide +kernel
theorem dX8_idle_4 : decode cX8_idle 4 = .ok (.iload_n 2, 1) := by decide +kernel
theorem dX8_idle_5 : decode cX8_idle 5 = .ok (.aload_n 0, 1) := by decide +kernel
theorem dX8_idle_6 : decode cX8_idle 6 = .ok (.getfield 23, 3) := by decide +kernel
theorem dX8_idle_9 : decode cX8_idle 9 = .ok (.getfield 99, 3) := by decide +kernel
theorem dX8_idle_12 : decode cX8_idle 12 = .ok (.if_icmp .ge 27, 3) := by decide +kernel
theorem dX8_idle_39 : decode cX8_idle 39 = .ok (.iload_n 1, 1) := by decide +kernel
theorem dX8_idle_40 : decode cX8_idle 40 = .ok (.ireturn, 1) := by decide +kernel
theorem dX8_image_0 : decode cX8_image 0 = .ok (.iload_n 1, 1) := by decide +kernel
theorem dX8_image_1 : decode cX8_image 1 = .ok (.ifCond .lt 8, 3) := by decide +kernel
theorem dX8_image_4 : decode cX8_image 4 = .ok (.iload_n 1, 1) := by decide +kernel
theorem dX8_image_5 : decode cX8_image 5 = .ok (.iconst 3, 1) := by decide +kernel
theorem dX8_image_6 : decode cX8_image 6 = .ok (.if_icmp .lt 5, 3) := by decide +kernel
theorem dX8_image_9 : decode cX8_image 9 = .ok (.iconst (-1), 1) := by decide +kernel
theorem dX8_image_10 : decode cX8_image 10 = .ok (.ireturn, 1) := by decide +kernel
theorem dX8_image_11 : decode cX8_image 11 = .ok (.aload_n 0, 1) := by decide +kernel
theorem dX8_image_12 : decode cX8_image 12 = .ok (.getfield 30, 3) := by decide +kernel
theorem dX8_image_15 : decode cX8_image 15 = .ok (.aload_n 0, 1) := by decide +kernel
theorem dX8_image_16 : decode cX8_image 16 = .ok (.getfield 44, 3) := by decide +kernel
theorem dX8_image_19 : decode cX8_image 19 = .ok (.iload_n 1, 1) := by decide +kernel
theorem dX8_image_20 : decode cX8_image 20 = .ok (.invokevirtual 342, 3) := by decide +kernel
theorem dX8_image_23 : decode cX8_image 23 = .ok (.aload_n 0, 1) := by decide +kernel
theorem dX8_image_24 : decode cX8_image 24 = .ok (.getfield 48, 3) := by decide +kernel
theorem dX8_image_27 : decode cX8_image 27 = .ok (.iload_n 1, 1) := by decide +kernel
theorem dX8_image_28 : decode cX8_image 28 = .ok (.iconst 1, 1) := by decide +kernel
theorem dX8_image_29 : decode cX8_image 29 = .ok (.bastore, 1) := by decide +kernel
theorem dX8_image_30 : decode cX8_image 30 = .ok (.aload_n 0, 1) := by decide +kernel
theorem dX8_image_31 : decode cX8_image 31 = .ok (.getfield 30, 3) := by decide +kernel
theorem dX8_image_34 : decode cX8_image 34 = .ok (.getfield 168, 3) := by decide +kernel
theorem dX8_image_37 : decode cX8_image 37 = .ok (.ireturn, 1) := by decide +kernel
theorem dX8_init_0 : decode cX8_init 0 = .ok (.aload_n 0, 1) := by decide +kernel
theorem dX8_init_1 : decode cX8_init 1 = .ok (.invokespecial 3, 3) := by decide +kernel
theorem dX8_init_4 : decode cX8_init 4 = .ok (.aload_n 0, 1) := by decide +kernel
theorem dX8_init_5 : decode cX8_init 5 = .ok (.sipush 1600, 3) := by decide +kernel
theorem dX8_init_8 : decode cX8_init 8 = .ok (.newarray .byte, 2) := by decide +kernel
theorem dX8_init_10 : decode cX8_init 10 = .ok (.putfield 9, 3) := by decide +kernel
theorem dX8_init_13 : decode cX8_init 13 = .ok (.aload_n 0, 1) := by decide +kernel
theorem dX8_init_14 : decode cX8_init 14 = .ok (.new 13, 3) := by decide +kernel
theorem dX8_init_17 : decode cX8_init 17 = .ok (.dup, 1) := by decide +kernel
theorem dX8_init_18 : decode cX8_init 18 = .ok (.invokespecial 15, 3) := by decide +kernel
theorem dX8_init_21 : decode cX8_init 21 = .ok (.putfield 16, 3) := by decide +kernel
theorem dX8_init_24 : decode cX8_init 24 = .ok (.aload_n 0, 1) := by decide +kernel
theorem dX8_init_25 : decode cX8_init 25 = .ok (.new 20, 3) := by decide +kernel
theorem dX8_init_28 : decode cX8_init 28 = .ok (.dup, 1) := by decide +kernel
theorem dX8_init_29 : decode cX8_init 29 = .ok (.invokespecial 22, 3) := by decide +kernel
theorem dX8_init_32 : decode cX8_init 32 = .ok (.putfield 23, 3) := by decide +kernel
theorem dX8_init_35 : decode cX8_init 35 = .ok (.aload_n 0, 1) := by decide +kernel
theorem dX8_init_36 : decode cX8_init 36 = .ok (.new 27, 3) := by decide +kernel
theorem dX8_init_39 : decode cX8_init 39 = .ok (.dup, 1) := by decide +kernel
theorem dX8_init_40 : decode cX8_init 40 = .ok (.invokespecial 29, 3) := by decide +kernel
theorem dX8_init_43 : decode cX8_init 43 = .ok (.putfield 30, 3) := by decide +kernel
theorem dX8_init_46 : decode cX8_init 46 = .ok (.aload_n 0, 1) := by decide +kernel
theorem dX8_init_47 : decode cX8_init 47 = .ok (.new 27, 3) := by decide +kernel
theorem dX8_init_50 : decode cX8_init 50 = .ok (.dup, 1) := by decide +kernel
theorem dX8_init_51 : decode cX8_init 51 = .ok (.invokespecial 29, 3) := by decide +kernel
theorem dX8_init_54 : decode cX8_init 54 = .ok (.putfield 34, 3) := by decide +kernel
theorem dX8_init_57 : decode cX8_init 57 = .ok (.aload_n 0, 1) := by decide +kernel
theorem dX8_init_58 : decode cX8_init 58 = .ok (.new 37, 3) := by decide +kernel
theorem dX8_init_61 : decode cX8_init 61 = .ok (.dup, 1) := by decide +kernel
theorem dX8_init_62 : decode cX8_init 62 = .ok (.invokespecial 39, 3) := by decide +kernel
theorem dX8_init_65 : decode cX8_init 65 = .ok (.putfield 40, 3) := by decide +kernel
theorem dX8_init_68 : decode cX8_init 68 = .ok (.aload_n 0, 1) := by decide +kernel
theorem dX8_init_69 : decode cX8_init 69 = .ok (.bipush 78, 2) := by decide +kernel
theorem dX8_init_71 : decode cX8_init 71 = .ok (.newarray .int, 2) := by decide +kernel
theorem dX8_init_73 : decode cX8_init 73 = .ok (.putfield 44, 3) := by decide +kernel
theorem dX8_init_76 : decode cX8_init 76 = .ok (.aload_n 0, 1) := by decide +kernel
theorem dX8_init_77 : decode cX8_init 77 = .ok (.iconst 3, 1) := by decide +kernel
theorem dX8_init_78 : decode cX8_init 78 = .ok (.newarray .boolean, 2) := by decide +kernel
theorem dX8_init_80 : decode cX8_init 80 = .ok (.putfield 48, 3) := by decide +kernel
theorem dX8_init_83 : decode cX8_init 83 = .ok (.aload_n 0, 1) := by decide +kernel
theorem dX8_init_84 : decode cX8_init 84 = .ok (.new 52, 3) := by decide +kernel
theorem dX8_init_87 : decode cX8_init 87 = .ok (.dup, 1) := by decide +kernel
theorem dX8_init_88 : decode cX8_init 88 = .ok (.invokespecial 54, 3) := by decide +kernel
theorem dX8_init_91 : decode cX8_init 91 = .ok (.putfield 55, 3) := by decide +kernel
theorem dX8_init_94 : decode cX8_init 94 = .ok (.aload_n 0, 1) := by decide +kernel
theorem dX8_init_95 : decode cX8_init 95 = .ok (.iconst 4, 1) := by decide +kernel
theorem dX8_init_96 : decode cX8_init 96 = .ok (.newarray .int, 2) := by decide +kernel
theorem dX8_init_98 : decode cX8_init 98 = .ok (.putfield 59, 3) := by decide +kernel
theorem dX8_init_101 : decode cX8_init 101 = .ok (.aload_n 0, 1) := by decide +kernel
theorem dX8_init_102 : decode cX8_init 102 = .ok (.iconst 4, 1) := by decide +kernel
theorem dX8_init_103 : decode cX8_init 103 = .ok (.newarray .int, 2) := by decide +kernel
theorem dX8_init_105 : decode cX8_init 105 = .ok (.putfield 62, 3) := by decide +kernel
theorem dX8_init_108 : decode cX8_init 108 = .ok (.aload_n 0, 1) := by decide +kernel
theorem dX8_init_109 : decode cX8_init 109 = .ok (.iconst 4, 1) := by decide +kernel
theorem dX8_init_110 : decode cX8_init 110 = .ok (.newarray .int, 2) := by decide +kernel
theorem dX8_init_112 : decode cX8_init 112 = .ok (.putfield 65, 3) := by decide +kernel
theorem dX8_init_115 : decode cX8_init 115 = .ok (.aload_n 0, 1) := by decide +kernel
theorem dX8_init_116 : decode cX8_init 116 = .ok (.bipush 20, 2) := by decide +kernel
theorem dX8_init_118 : decode cX8_init 118 = .ok (.newarray .int, 2) := by decide +kernel
theorem dX8_init_120 : decode cX8_init 120 = .ok (.putfield 68, 3) := by decide +kernel
theorem dX8_init_123 : decode cX8_init 123 = .ok (.aload_n 0, 1) := by decide +kernel
theorem dX8_init_124 : decode cX8_init 124 = .ok (.getfield 30, 3) := by decide +kernel
theorem dX8_init_127 : decode cX8_init 127 = .ok (.aload_n 0, 1) := by decide +kernel
theorem dX8_init_128 : decode cX8_init 128 = .ok (.getfield 23, 3) := by decide +kernel
theorem dX8_init_131 : decode cX8_init 131 = .ok (.invokevirtual 71, 3) := by decide +kernel
theorem dX8_init_134 : decode cX8_init 134 = .ok (.aload_n 0, 1) := by decide +kernel
theorem dX8_init_135 : decode cX8_init 135 = .ok (.getfield 40, 3) := by decide +kernel
theorem dX8_init_138 : decode cX8_init 138 = .ok (.aload_n 0, 1) := by decide +kernel
theorem dX8_init_139 : decode cX8_init 139 = .ok (.getfield 30, 3) := by decide +kernel
theorem dX8_init_142 : decode cX8_init 142 = .ok (.invokevirtual 75, 3) := by decide +kernel
theorem dX8_init_145 : decode cX8_init 145 = .ok (.return_, 1) := by decide +kernel
theorem dX8_isHouse_0 : decode cX8_isHouse 0 = .ok (.iload_n 1, 1) := by decide +kernel
theorem dX8_isHouse_1 : decode cX8_isHouse 1 = .ok (.ifCond .lt 18, 3) := by decide +kernel
theorem dX8_isHouse_4 : decode cX8_isHouse 4 = .ok (.iload_n 1, 1) := by decide +kernel
theorem dX8_isHouse_5 : decode cX8_isHouse 5 = .ok (.aload_n 0, 1) := by decide +kernel
theorem dX8_isHouse_6 : decode cX8_isHouse 6 = .ok (.getfield 23, 3) := by decide +kernel
theorem dX8_isHouse_9 : decode cX8_isHouse 9 = .ok (.getfield 99, 3) := by decide +kernel
theorem dX8_isHouse_12 : decode cX8_isHouse 12 = .ok (.if_icmp .ge 7, 3) := by decide +kernel
theorem dX8_isHouse_19 : decode cX8_isHouse 19 = .ok (.iconst 0, 1) := by decide +kernel
theorem dX8_isHouse_20 : decode cX8_isHouse 20 = .ok (.ireturn, 1) := by decide +kernel
theorem dX8_isNote_0 : decode cX8_isNote 0 = .ok (.iload_n 0, 1) := by decide +kernel
theorem dX8_isNote_1 : decode cX8_isNote 1 = .ok (.ifCond .lt 13, 3) := by decide +kernel
theorem dX8_isNote_4 : decode cX8_isNote 4 = .ok (.iload_n 0, 1) := by decide +kernel
theorem dX8_isNote_5 : decode cX8_isNote 5 = .ok (.bipush 7, 2) := by decide +kernel
theorem dX8_isNote_7 : decode cX8_isNote 7 = .ok (.if_icmp .ge 7, 3) := by decide +kernel
theorem dX8_isNote_10 : decode cX8_isNote 10 = .ok (.iconst 1, 1) := by decide +kernel
theorem dX8_isNote_11 : decode cX8_isNote 11 = .ok (.goto 4, 3) := by decide +kernel
theorem dX8_isNote_14 : decode cX8_isNote 14 = .ok (.iconst 0, 1) := by decide +kernel
theorem dX8_isNote_15 : decode cX8_isNote 15 = .ok (.ireturn, 1) := by decide +kernel
theorem dX8_isPlace_0 : decode cX8_isPlace 0 = .ok (.iload_n 0, 1) := by decide +kernel
theorem dX8_isPlace_1 : decode cX8_isPlace 1 = .ok (.ifCond .lt 13, 3) := by decide +kernel
theorem dX8_isPlace_4 : decode cX8_isPlace 4 = .ok (.iload_n 0, 1) := by decide +kernel
theorem dX8_isPlace_5 : decode cX8_isPlace 5 = .ok (.bipush 99, 2) := by decide +kernel
theorem dX8_isPlace_7 : decode cX8_isPlace 7 = .ok (.if_icmp .gt 7, 3) := by decide +kernel
theorem dX8_isPlace_10 : decode cX8_isPlace 10 = .ok (.iconst 1, 1) := by decide +kernel
theorem dX8_isPlace_11 : decode cX8_isPlace 11 = .ok (.goto 4, 3) := by decide +kernel
theorem dX8_isPlace_14 : decode cX8_isPlace 14 = .ok (.iconst 0, 1) := by decide +kernel
theorem dX8_isPlace_15 : decode cX8_isPlace 15 = .ok (.ireturn, 1) := by decide +kernel
theorem dX8_isTune_0 : decode cX8_isTune 0 = .ok (.iload_n 1, 1) := by decide +kernel
theorem dX8_isTune_1 : decode cX8_isTune 1 = .ok (.ifCond .lt 18, 3) := by decide +kernel
theorem dX8_isTune_4 : decode cX8_isTune 4 = .ok (.iload_n 1, 1) := by decide +kernel
theorem dX8_isTune_5 : decode cX8_isTune 5 = .ok (.aload_n 0, 1) := by decide +kernel
theorem dX8_isTune_6 : decode cX8_isTune 6 = .ok (.getfield 23, 3) := by decide +kernel
theorem dX8_isTune_9 : decode cX8_isTune 9 = .ok (.getfield 108, 3) := by decide +kernel
theorem dX8_isTune_12 : decode cX8_isTune 12 = .ok (.if_icmp .ge 7, 3) := by decide +kernel
theorem dX8_isTune_19 : decode cX8_isTune 19 = .ok (.iconst 0, 1) := by decide +kernel
theorem dX8_isTune_20 : decode cX8_isTune 20 = .ok (.ireturn, 1) := by decide +kernel
theorem dX8_known_0 : decode cX8_known 0 = .ok (.aload_n 0, 1) := by decide +kernel
theorem dX8_known_1 : decode cX8_known 1 = .ok (.iload_n 1, 1) := by decide +kernel
theorem dX8_known_2 : decode cX8_known 2 = .ok (.invokevirtual 111, 3) := by decide +kernel
theorem dX8_known_5 : decode cX8_known 5 = .ok (.ifCond .eq 13, 3) := by decide +kernel
theorem dX8_known_18 : decode cX8_known 18 = .ok (.iconst (-1), 1) := by decide +kernel
theorem dX8_known_19 : decode cX8_known 19 = .ok (.ireturn, 1) := by decide +kernel
theorem dX8_lane_0 : decode cX8_lane 0 = .ok (.aload_n 0, 1) := by decide +kernel
theorem dX8_lane_1 : decode cX8_lane 1 = .ok (.getfield 16, 3) := by decide +kernel
theorem dX8_lane_4 : decode cX8_lane 4 = .ok (.aload_n 0, 1) := by decide +kernel
theorem dX8_lane_5 : decode cX8_lane 5 = .ok (.getfield 9, 3) := by decide +kernel
theorem dX8_lane_8 : decode cX8_lane 8 = .ok (.aload_n 0, 1) := by decide +kernel
theorem dX8_lane_9 : decode cX8_lane 9 = .ok (.getfield 78, 3) := by decide +kernel
theorem dX8_lane_12 : decode cX8_lane 12 = .ok (.invokevirtual 86, 3) := by decide +kernel
theorem dX8_lane_15 : decode cX8_lane 15 = .ok (.ifCond .ne 5, 3) := by decide +kernel
theorem dX8_lane_20 : decode cX8_lane 20 = .ok (.aload_n 0, 1) := by decide +kernel
theorem dX8_lane_21 : decode cX8_lane 21 = .ok (.aload_n 0, 1) := by decide +kernel
theorem dX8_lane_22 : decode cX8_lane 22 = .ok (.getfield 16, 3) := by decide +kernel
theorem dX8_lane_25 : decode cX8_lane 25 = .ok (.aload_n 0, 1) := by decide +kernel
theorem dX8_lane_26 : decode cX8_lane 26 = .ok (.getfield 23, 3) := by decide +kernel
theorem dX8_lane_29 : decode cX8_lane 29 = .ok (.invokevirtual 90, 3) := by decide +kernel
theorem dX8_lane_32 : decode cX8_lane 32 = .ok (.putfield 23, 3) := by decide +kernel
theorem dX8_lane_35 : decode cX8_lane 35 = .ok (.aload_n 0, 1) := by decide +kernel
theorem dX8_lane_36 : decode cX8_lane 36 = .ok (.iconst 0, 1) := by decide +kernel
theorem dX8_lane_37 : decode cX8_lane 37 = .ok (.putfield 78, 3) := by decide +kernel
theorem dX8_lane_40 : decode cX8_lane 40 = .ok (.aload_n 0, 1) := by decide +kernel
theorem dX8_lane_41 : decode cX8_lane 41 = .ok (.getfield 30, 3) := by decide +kernel
theorem dX8_lane_44 : decode cX8_lane 44 = .ok (.aload_n 0, 1) := by decide +kernel
theorem dX8_lane_45 : decode cX8_lane 45 = .ok (.getfield 23, 3) := by decide +kernel
theorem dX8_lane_48 : decode cX8_lane 48 = .ok (.invokevirtual 71, 3) := by decide +kernel
theorem dX8_lane_51 : decode cX8_lane 51 = .ok (.aload_n 0, 1) := by decide +kernel
theorem dX8_lane_52 : decode cX8_lane 52 = .ok (.getfield 40, 3) := by decide +kernel
theorem dX8_lane_55 : decode cX8_lane 55 = .ok (.aload_n 0, 1) := by decide +kernel
theorem dX8_lane_56 : decode cX8_lane 56 = .ok (.getfield 30, 3) := by decide +kernel
theorem dX8_lane_59 : decode cX8_lane 59 = .ok (.invokevirtual 75, 3) := by decide +kernel
theorem dX8_lane_62 : decode cX8_lane 62 = .ok (.aload_n 0, 1) := by decide +kernel
theorem dX8_lane_63 : decode cX8_lane 63 = .ok (.getfield 55, 3) := by decide +kernel
theorem dX8_lane_66 : decode cX8_lane 66 = .ok (.invokevirtual 94, 3) := by decide +kernel
theorem dX8_lane_69 : decode cX8_lane 69 = .ok (.aload_n 0, 1) := by decide +kernel
theorem dX8_lane_70 : decode cX8_lane 70 = .ok (.iconst 0, 1) := by decide +kernel
theorem dX8_lane_71 : decode cX8_lane 71 = .ok (.putfield 96, 3) := by decide +kernel
theorem dX8_lane_74 : decode cX8_lane 74 = .ok (.iconst 0, 1) := by decide +kernel
theorem dX8_lane_75 : decode cX8_lane 75 = .ok (.istore_n 1, 1) := by decide +kernel
theorem dX8_lane_76 : decode cX8_lane 76 = .ok (.iload_n 1, 1) := by decide +kernel
theorem dX8_lane_77 : decode cX8_lane 77 = .ok (.iconst 3, 1) := by decide +kernel
theorem dX8_lane_78 : decode cX8_lane 78 = .ok (.if_icmp .ge 16, 3) := by decide +kernel
theorem dX8_lane_81 : decode cX8_lane 81 = .ok (.aload_n 0, 1) := by decide +kernel
theorem dX8_lane_82 : decode cX8_lane 82 = .ok (.getfield 48, 3) := by decide +kernel
theorem dX8_lane_85 : decode cX8_lane 85 = .ok (.iload_n 1, 1) := by decide +kernel
theorem dX8_lane_86 : decode cX8_lane 86 = .ok (.iconst 0, 1) := by decide +kernel
theorem dX8_lane_87 : decode cX8_lane 87 = .ok (.bastore, 1) := by decide +kernel
theorem dX8_lane_88 : decode cX8_lane 88 = .ok (.iinc 1 1, 3) := by decide +kernel
theorem dX8_lane_91 : decode cX8_lane 91 = .ok (.goto (-15), 3) := by decide +kernel
theorem dX8_lane_94 : decode cX8_lane 94 = .ok (.aload_n 0, 1) := by decide +kernel
theorem dX8_lane_95 : decode cX8_lane 95 = .ok (.getfield 23, 3) := by decide +kernel
theorem dX8_lane_98 : decode cX8_lane 98 = .ok (.getfield 99, 3) := by decide +kernel
theorem dX8_lane_101 : decode cX8_lane 101 = .ok (.ireturn, 1) := by decide +kernel
theorem dX8_later_0 : decode cX8_later 0 = .ok (.iload_n 1, 1) := by decide +kernel
theorem dX8_later_1 : decode cX8_later 1 = .ok (.ifCond .lt 22, 3) := by decide +kernel
theorem dX8_later_4 : decode cX8_later 4 = .ok (.iload_n 1, 1) := by decide +kernel
theorem dX8_later_5 : decode cX8_later 5 = .ok (.sipush 1000, 3) := by decide +kernel
theorem dX8_later_8 : decode cX8_later 8 = .ok (.if_icmp .gt 15, 3) := by decide +kernel
theorem dX8_later_11 : decode cX8_later 11 = .ok (.aload_n 0, 1) := by decide +kernel
theorem dX8_later_12 : decode cX8_later 12 = .ok (.getfield 321, 3) := by decide +kernel
theorem dX8_later_15 : decode cX8_later 15 = .ok (.iload_n 1, 1) := by decide +kernel
theorem dX8_later_16 : decode cX8_later 16 = .ok (.iadd, 1) := by decide +kernel
theorem dX8_later_17 : decode cX8_later 17 = .ok (.ldc_w 331, 3) := by decide +kernel
theorem dX8_later_20 : decode cX8_later 20 = .ok (.if_icmp .le 5, 3) := by decide +kernel
theorem dX8_later_23 : decode cX8_later 23 = .ok (.iconst (-1), 1) := by decide +kernel
theorem dX8_later_24 : decode cX8_later 24 = .ok (.ireturn, 1) := by decide +kernel
theorem dX8_later_25 : decode cX8_later 25 = .ok (.aload_n 0, 1) := by decide +kernel
theorem dX8_later_26 : decode cX8_later 26 = .ok (.dup, 1) := by decide +kernel
theorem dX8_later_27 : decode cX8_later 27 = .ok (.getfield 321, 3) := by decide +kernel
theorem dX8_later_30 : decode cX8_later 30 = .ok (.iload_n 1, 1) := by decide +kernel
theorem dX8_later_31 : decode cX8_later 31 = .ok (.iadd, 1) := by decide +kernel
theorem dX8_later_32 : decode cX8_later 32 = .ok (.putfield 321, 3) := by decide +kernel
theorem dX8_later_35 : decode cX8_later 35 = .ok (.aload_n 0, 1) := by decide +kernel
theorem dX8_later_36 : decode cX8_later 36 = .ok (.getfield 321, 3) := by decide +kernel
theorem dX8_later_39 : decode cX8_later 39 = .ok (.ireturn, 1) := by decide +kernel
theorem dX8_law_0 : decode cX8_law 0 = .ok (.aload_n 0, 1) := by decide +kernel
theorem dX8_law_1 : decode cX8_law 1 = .ok (.iload_n 1, 1) := by decide +kernel
theorem dX8_law_2 : decode cX8_law 2 = .ok (.invokevirtual 138, 3) := by decide +kernel
theorem dX8_law_5 : decode cX8_law 5 = .ok (.ifCond .eq 14, 3) := by decide +kernel
theorem dX8_law_19 : decode cX8_law 19 = .ok (.iconst (-1), 1) := by decide +kernel
theorem dX8_law_20 : decode cX8_law 20 = .ok (.ireturn, 1) := by decide +kernel
theorem dX8_layTrial_0 : decode cX8_layTrial 0 = .ok (.aload_n 0, 1) := by decide +kernel
theorem dX8_layTrial_1 : decode cX8_layTrial 1 = .ok (.aload_n 0, 1) := by decide +kernel
theorem dX8_layTrial_2 : decode cX8_layTrial 2 = .ok (.getfield 23, 3) := by decide +kernel
theorem dX8_layTrial_5 : decode cX8_layTrial 5 = .ok (.getfield 99, 3) := by decide +kernel
theorem dX8_layTrial_8 : decode cX8_layTrial 8 = .ok (.putfield 96, 3) := by decide +kernel
theorem dX8_layTrial_11 : decode cX8_layTrial 11 = .ok (.iconst 0, 1) := by decide +kernel
theorem dX8_layTrial_12 : decode cX8_layTrial 12 = .ok (.istore_n 1, 1) := by decide +kernel
theorem dX8_layTrial_13 : decode cX8_layTrial 13 = .ok (.iload_n 1, 1) := by decide +kernel
theorem dX8_layTrial_14 : decode cX8_layTrial 14 = .ok (.aload_n 0, 1) := by decide +kernel
theorem dX8_layTrial_15 : decode cX8_layTrial 15 = .ok (.getfield 96, 3) := by decide +kernel
theorem dX8_layTrial_18 : decode cX8_layTrial 18 = .ok (.if_icmp .ge 21, 3) := by decide +kernel
theorem dX8_layTrial_39 : decode cX8_layTrial 39 = .ok (.return_, 1) := by decide +kernel
theorem dX8_lies_0 : decode cX8_lies 0 = .ok (.iload_n 1, 1) := by decide +kernel
theorem dX8_lies_1 : decode cX8_lies 1 = .ok (.ifCond .lt 20, 3) := by decide +kernel
theorem dX8_lies_4 : decode cX8_lies 4 = .ok (.iload_n 1, 1) := by decide +kernel
theorem dX8_lies_5 : decode cX8_lies 5 = .ok (.aload_n 0, 1) := by decide +kernel
theorem dX8_lies_6 : decode cX8_lies 6 = .ok (.getfield 96, 3) := by decide +kernel
theorem dX8_lies_9 : decode cX8_lies 9 = .ok (.if_icmp .ge 12, 3) := by decide +kernel
theorem dX8_lies_21 : decode cX8_lies 21 = .ok (.bipush (-2), 2) := by decide +kernel
theorem dX8_lies_23 : decode cX8_lies 23 = .ok (.ireturn, 1) := by decide +kernel
theorem dX8_note_0 : decode cX8_note 0 = .ok (.aload_n 0, 1) := by decide +kernel
theorem dX8_note_1 : decode cX8_note 1 = .ok (.iload_n 1, 1) := by decide +kernel
theorem dX8_note_2 : decode cX8_note 2 = .ok (.invokevirtual 111, 3) := by decide +kernel
theorem dX8_note_5 : decode cX8_note 5 = .ok (.ifCond .eq 28, 3) := by decide +kernel
theorem dX8_note_33 : decode cX8_note 33 = .ok (.iconst (-1), 1) := by decide +kernel
theorem dX8_note_34 : decode cX8_note 34 = .ok (.ireturn, 1) := by decide +kernel
theorem dX8_odds_0 : decode cX8_odds 0 = .ok (.iload_n 1, 1) := by decide +kernel
theorem dX8_odds_1 : decode cX8_odds 1 = .ok (.ifCond .lt 17, 3) := by decide +kernel
theorem dX8_odds_4 : decode cX8_odds 4 = .ok (.iload_n 1, 1) := by decide +kernel
theorem dX8_odds_5 : decode cX8_odds 5 = .ok (.iconst 4, 1) := by decide +kernel
theorem dX8_odds_6 : decode cX8_odds 6 = .ok (.if_icmp .gt 12, 3) := by decide +kernel
theorem dX8_odds_9 : decode cX8_odds 9 = .ok (.iload_n 2, 1) := by decide +kernel
theorem dX8_odds_10 : decode cX8_odds 10 = .ok (.ifCond .lt 8, 3) := by decide +kernel
theorem dX8_odds_13 : decode cX8_odds 13 = .ok (.iload_n 2, 1) := by decide +kernel
theorem dX8_odds_14 : decode cX8_odds 14 = .ok (.iconst 1, 1) := by decide +kernel
theorem dX8_odds_15 : decode cX8_odds 15 = .ok (.if_icmp .le 5, 3) := by decide +kernel
theorem dX8_odds_18 : decode cX8_odds 18 = .ok (.iconst (-1), 1) := by decide +kernel
theorem dX8_odds_19 : decode cX8_odds 19 = .ok (.ireturn, 1) := by decide +kernel
theorem dX8_odds_20 : decode cX8_odds 20 = .ok (.iconst 1, 1) := by decide +kernel
theorem dX8_odds_21 : decode cX8_odds 21 = .ok (.istore_n 3, 1) := by decide +kernel
theorem dX8_odds_22 : decode cX8_odds 22 = .ok (.iconst 1, 1) := by decide +kernel
theorem dX8_odds_23 : decode cX8_odds 23 = .ok (.istore 4, 2) := by decide +kernel
theorem dX8_odds_25 : decode cX8_odds 25 = .ok (.iconst 0, 1) := by decide +kernel
theorem dX8_odds_26 : decode cX8_odds 26 = .ok (.istore 5, 2) := by decide +kernel
theorem dX8_odds_28 : decode cX8_odds 28 = .ok (.iload 5, 2) := by decide +kernel
theorem dX8_odds_30 : decode cX8_odds 30 = .ok (.iload_n 1, 1) := by decide +kernel
theorem dX8_odds_31 : decode cX8_odds 31 = .ok (.if_icmp .ge 29, 3) := by decide +kernel
theorem dX8_odds_34 : decode cX8_odds 34 = .ok (.iload_n 3, 1) := by decide +kernel
theorem dX8_odds_35 : decode cX8_odds 35 = .ok (.bipush 100, 2) := by decide +kernel
theorem dX8_odds_37 : decode cX8_odds 37 = .ok (.aload_n 0, 1) := by decide +kernel
theorem dX8_odds_38 : decode cX8_odds 38 = .ok (.getfield 23, 3) := by decide +kernel
theorem dX8_odds_41 : decode cX8_odds 41 = .ok (.getfield 171, 3) := by decide +kernel
theorem dX8_odds_44 : decode cX8_odds 44 = .ok (.isub, 1) := by decide +kernel
theorem dX8_odds_45 : decode cX8_odds 45 = .ok (.imul, 1) := by decide +kernel
theorem dX8_odds_46 : decode cX8_odds 46 = .ok (.istore_n 3, 1) := by decide +kernel
theorem dX8_odds_47 : decode cX8_odds 47 = .ok (.iload 4, 2) := by decide +kernel
theorem dX8_odds_49 : decode cX8_odds 49 = .ok (.bipush 100, 2) := by decide +kernel
theorem dX8_odds_51 : decode cX8_odds 51 = .ok (.imul, 1) := by decide +kernel
theorem dX8_odds_52 : decode cX8_odds 52 = .ok (.istore 4, 2) := by decide +kernel
theorem dX8_odds_54 : decode cX8_odds 54 = .ok (.iinc 5 1, 3) := by decide +kernel
theorem dX8_odds_57 : decode cX8_odds 57 = .ok (.goto (-29), 3) := by decide +kernel
theorem dX8_odds_60 : decode cX8_odds 60 = .ok (.iload_n 3, 1) := by decide +kernel
theorem dX8_odds_61 : decode cX8_odds 61 = .ok (.iload 4, 2) := by decide +kernel
theorem dX8_odds_63 : decode cX8_odds 63 = .ok (.invokestatic 318, 3) := by decide +kernel
theorem dX8_odds_66 : decode cX8_odds 66 = .ok (.istore 5, 2) := by decide +kernel
theorem dX8_odds_68 : decode cX8_odds 68 = .ok (.iload_n 2, 1) := by decide +kernel
theorem dX8_odds_69 : decode cX8_odds 69 = .ok (.ifCond .ne 7, 3) := by decide +kernel
theorem dX8_odds_72 : decode cX8_odds 72 = .ok (.iload_n 3, 1) := by decide +kernel
theorem dX8_odds_73 : decode cX8_odds 73 = .ok (.goto 5, 3) := by decide +kernel
theorem dX8_odds_76 : decode cX8_odds 76 = .ok (.iload 4, 2) := by decide +kernel
theorem dX8_odds_78 : decode cX8_odds 78 = .ok (.iload 5, 2) := by decide +kernel
theorem dX8_odds_80 : decode cX8_odds 80 = .ok (.idiv, 1) := by decide +kernel
theorem dX8_odds_81 : decode cX8_odds 81 = .ok (.ireturn, 1) := by decide +kernel
theorem dX8_onCart_0 : decode cX8_onCart 0 = .ok (.iconst 0, 1) := by decide +kernel
theorem dX8_onCart_1 : decode cX8_onCart 1 = .ok (.istore_n 1, 1) := by decide +kernel
theorem dX8_onCart_2 : decode cX8_onCart 2 = .ok (.iconst 0, 1) := by decide +kernel
theorem dX8_onCart_3 : decode cX8_onCart 3 = .ok (.istore_n 2, 1) := by decide +kernel
theorem dX8_onCart_4 : decode cX8_onCart 4 = .ok (.iload_n 2, 1) := by decide +kernel
theorem dX8_onCart_5 : decode cX8_onCart 5 = .ok (.aload_n 0, 1) := by decide +kernel
theorem dX8_onCart_6 : decode cX8_onCart 6 = .ok (.getfield 23, 3) := by decide +kernel
theorem dX8_onCart_9 : decode cX8_onCart 9 = .ok (.getfield 108, 3) := by decide +kernel
theorem dX8_onCart_12 : decode cX8_onCart 12 = .ok (.if_icmp .ge 26, 3) := by decide +kernel
theorem dX8_onCart_38 : decode cX8_onCart 38 = .ok (.iload_n 1, 1) := by decide +kernel
theorem dX8_onCart_39 : decode cX8_onCart 39 = .ok (.ireturn, 1) := by decide +kernel
theorem dX8_paidFor_0 : decode cX8_paidFor 0 = .ok (.iconst 0, 1) := by decide +kernel
theorem dX8_paidFor_1 : decode cX8_paidFor 1 = .ok (.istore_n 1, 1) := by decide +kernel
theorem dX8_paidFor_2 : decode cX8_paidFor 2 = .ok (.iconst 0, 1) := by decide +kernel
theorem dX8_paidFor_3 : decode cX8_paidFor 3 = .ok (.istore_n 2, 1) := by decide +kernel
theorem dX8_paidFor_4 : decode cX8_paidFor 4 = .ok (.iload_n 2, 1) := by decide +kernel
theorem dX8_paidFor_5 : decode cX8_paidFor 5 = .ok (.aload_n 0, 1) := by decide +kernel
theorem dX8_paidFor_6 : decode cX8_paidFor 6 = .ok (.getfield 23, 3) := by decide +kernel
theorem dX8_paidFor_9 : decode cX8_paidFor 9 = .ok (.getfield 99, 3) := by decide +kernel
theorem dX8_paidFor_12 : decode cX8_paidFor 12 = .ok (.if_icmp .ge 17, 3) := by decide +kernel
theorem dX8_paidFor_29 : decode cX8_paidFor 29 = .ok (.iload_n 1, 1) := by decide +kernel
theorem dX8_paidFor_30 : decode cX8_paidFor 30 = .ok (.ireturn, 1) := by decide +kernel
theorem dX8_pair_0 : decode cX8_pair 0 = .ok (.aload_n 0, 1) := by decide +kernel
theorem dX8_pair_1 : decode cX8_pair 1 = .ok (.iload_n 1, 1) := by decide +kernel
theorem dX8_pair_2 : decode cX8_pair 2 = .ok (.invokevirtual 111, 3) := by decide +kernel
theorem dX8_pair_5 : decode cX8_pair 5 = .ok (.ifCond .eq 22, 3) := by decide +kernel
theorem dX8_pair_27 : decode cX8_pair 27 = .ok (.ldc 160, 2) := by decide +kernel
theorem dX8_pair_29 : decode cX8_pair 29 = .ok (.ireturn, 1) := by decide +kernel
theorem dX8_passWeek_0 : decode cX8_passWeek 0 = .ok (.iconst 0, 1) := by decide +kernel
theorem dX8_passWeek_1 : decode cX8_passWeek 1 = .ok (.istore_n 3, 1) := by decide +kernel
theorem dX8_passWeek_2 : decode cX8_passWeek 2 = .ok (.iconst 0, 1) := by decide +kernel
theorem dX8_passWeek_3 : decode cX8_passWeek 3 = .ok (.istore 4, 2) := by decide +kernel
theorem dX8_passWeek_5 : decode cX8_passWeek 5 = .ok (.iload 4, 2) := by decide +kernel
theorem dX8_passWeek_7 : decode cX8_passWeek 7 = .ok (.aload_n 0, 1) := by decide +kernel
theorem dX8_passWeek_8 : decode cX8_passWeek 8 = .ok (.getfield 23, 3) := by decide +kernel
theorem dX8_passWeek_11 : decode cX8_passWeek 11 = .ok (.getfield 99, 3) := by decide +kernel
theorem dX8_passWeek_14 : decode cX8_passWeek 14 = .ok (.if_icmp .ge 39, 3) := by decide +kernel
theorem dX8_passWeek_53 : decode cX8_passWeek 53 = .ok (.aload_n 1, 1) := by decide +kernel
theorem dX8_passWeek_54 : decode cX8_passWeek 54 = .ok (.dup, 1) := by decide +kernel
theorem dX8_passWeek_55 : decode cX8_passWeek 55 = .ok (.getfield 168, 3) := by decide +kernel
theorem dX8_passWeek_58 : decode cX8_passWeek 58 = .ok (.iconst 1, 1) := by decide +kernel
theorem dX8_passWeek_59 : decode cX8_passWeek 59 = .ok (.iadd, 1) := by decide +kernel
theorem dX8_passWeek_60 : decode cX8_passWeek 60 = .ok (.putfield 168, 3) := by decide +kernel
theorem dX8_passWeek_63 : decode cX8_passWeek 63 = .ok (.iload_n 3, 1) := by decide +kernel
theorem dX8_passWeek_64 : decode cX8_passWeek 64 = .ok (.ireturn, 1) := by decide +kernel
theorem dX8_priceOf_0 : decode cX8_priceOf 0 = .ok (.iconst 0, 1) := by decide +kernel
theorem dX8_priceOf_1 : decode cX8_priceOf 1 = .ok (.istore_n 2, 1) := by decide +kernel
theorem dX8_priceOf_2 : decode cX8_priceOf 2 = .ok (.iconst 0, 1) := by decide +kernel
theorem dX8_priceOf_3 : decode cX8_priceOf 3 = .ok (.istore_n 3, 1) := by decide +kernel
theorem dX8_priceOf_4 : decode cX8_priceOf 4 = .ok (.iload_n 3, 1) := by decide +kernel
theorem dX8_priceOf_5 : decode cX8_priceOf 5 = .ok (.aload_n 0, 1) := by decide +kernel
theorem dX8_priceOf_6 : decode cX8_priceOf 6 = .ok (.getfield 23, 3) := by decide +kernel
theorem dX8_priceOf_9 : decode cX8_priceOf 9 = .ok (.getfield 108, 3) := by decide +kernel
theorem dX8_priceOf_12 : decode cX8_priceOf 12 = .ok (.if_icmp .ge 29, 3) := by decide +kernel
theorem dX8_priceOf_41 : decode cX8_priceOf 41 = .ok (.iload_n 2, 1) := by decide +kernel
theorem dX8_priceOf_42 : decode cX8_priceOf 42 = .ok (.ireturn, 1) := by decide +kernel
theorem dX8_purse_0 : decode cX8_purse 0 = .ok (.aload_n 0, 1) := by decide +kernel
theorem dX8_purse_1 : decode cX8_purse 1 = .ok (.iload_n 1, 1) := by decide +kernel
theorem dX8_purse_2 : decode cX8_purse 2 = .ok (.invokevirtual 138, 3) := by decide +kernel
theorem dX8_purse_5 : decode cX8_purse 5 = .ok (.ifCond .eq 10, 3) := by decide +kernel
theorem dX8_purse_15 : decode cX8_purse 15 = .ok (.iconst (-1), 1) := by decide +kernel
theorem dX8_purse_16 : decode cX8_purse 16 = .ok (.ireturn, 1) := by decide +kernel
theorem dX8_putBytes_0 : decode cX8_putBytes 0 = .ok (.bipush 24, 2) := by decide +kernel
theorem dX8_putBytes_2 : decode cX8_putBytes 2 = .ok (.istore_n 2, 1) := by decide +kernel
theorem dX8_putBytes_3 : decode cX8_putBytes 3 = .ok (.iload_n 2, 1) := by decide +kernel
theorem dX8_putBytes_4 : decode cX8_putBytes 4 = .ok (.ifCond .lt 42, 3) := by decide +kernel
theorem dX8_putBytes_7 : decode cX8_putBytes 7 = .ok (.aload_n 0, 1) := by decide +kernel
theorem dX8_putBytes_8 : decode cX8_putBytes 8 = .ok (.getfield 78, 3) := by decide +kernel
theorem dX8_putBytes_11 : decode cX8_putBytes 11 = .ok (.sipush 1600, 3) := by decide +kernel
theorem dX8_putBytes_14 : decode cX8_putBytes 14 = .ok (.if_icmp .ge 26, 3) := by decide +kernel
theorem dX8_putBytes_17 : decode cX8_putBytes 17 = .ok (.aload_n 0, 1) := by decide +kernel
theorem dX8_putBytes_18 : decode cX8_putBytes 18 = .ok (.getfield 9, 3) := by decide +kernel
theorem dX8_putBytes_21 : decode cX8_putBytes 21 = .ok (.aload_n 0, 1) := by decide +kernel
theorem dX8_putBytes_22 : decode cX8_putBytes 22 = .ok (.getfield 78, 3) := by decide +kernel
theorem dX8_putBytes_25 : decode cX8_putBytes 25 = .ok (.iload_n 1, 1) := by decide +kernel
theorem dX8_putBytes_26 : decode cX8_putBytes 26 = .ok (.iload_n 2, 1) := by decide +kernel
theorem dX8_putBytes_27 : decode cX8_putBytes 27 = .ok (.iushr, 1) := by decide +kernel
theorem dX8_putBytes_28 : decode cX8_putBytes 28 = .ok (.i2b, 1) := by decide +kernel
theorem dX8_putBytes_29 : decode cX8_putBytes 29 = .ok (.bastore, 1) := by decide +kernel
theorem dX8_putBytes_30 : decode cX8_putBytes 30 = .ok (.aload_n 0, 1) := by decide +kernel
theorem dX8_putBytes_31 : decode cX8_putBytes 31 = .ok (.dup, 1) := by decide +kernel
theorem dX8_putBytes_32 : decode cX8_putBytes 32 = .ok (.getfield 78, 3) := by decide +kernel
theorem dX8_putBytes_35 : decode cX8_putBytes 35 = .ok (.iconst 1, 1) := by decide +kernel
theorem dX8_putBytes_36 : decode cX8_putBytes 36 = .ok (.iadd, 1) := by decide +kernel
theorem dX8_putBytes_37 : decode cX8_putBytes 37 = .ok (.putfield 78, 3) := by decide +kernel
theorem dX8_putBytes_40 : decode cX8_putBytes 40 = .ok (.iinc 2 (-8), 3) := by decide +kernel
theorem dX8_putBytes_43 : decode cX8_putBytes 43 = .ok (.goto (-40), 3) := by decide +kernel
theorem dX8_putBytes_46 : decode cX8_putBytes 46 = .ok (.return_, 1) := by decide +kernel
theorem dX8_rateAll_0 : decode cX8_rateAll 0 = .ok (.iconst 0, 1) := by decide +kernel
theorem dX8_rateAll_1 : decode cX8_rateAll 1 = .ok (.istore_n 1, 1) := by decide +kernel
theorem dX8_rateAll_2 : decode cX8_rateAll 2 = .ok (.iload_n 1, 1) := by decide +kernel
theorem dX8_rateAll_3 : decode cX8_rateAll 3 = .ok (.aload_n 0, 1) := by decide +kernel
theorem dX8_rateAll_4 : decode cX8_rateAll 4 = .ok (.getfield 23, 3) := by decide +kernel
theorem dX8_rateAll_7 : decode cX8_rateAll 7 = .ok (.getfield 99, 3) := by decide +kernel
theorem dX8_rateAll_10 : decode cX8_rateAll 10 = .ok (.if_icmp .ge 44, 3) := by decide +kernel
theorem dX8_rateAll_54 : decode cX8_rateAll 54 = .ok (.return_, 1) := by decide +kernel
theorem dX8_redo_0 : decode cX8_redo 0 = .ok (.aload_n 0, 1) := by decide +kernel
theorem dX8_redo_1 : decode cX8_redo 1 = .ok (.getfield 40, 3) := by decide +kernel
theorem dX8_redo_4 : decode cX8_redo 4 = .ok (.aload_n 0, 1) := by decide +kernel
theorem dX8_redo_5 : decode cX8_redo 5 = .ok (.getfield 30, 3) := by decide +kernel
theorem dX8_redo_8 : decode cX8_redo 8 = .ok (.invokevirtual 209, 3) := by decide +kernel
theorem dX8_redo_11 : decode cX8_redo 11 = .ok (.ireturn, 1) := by decide +kernel
theorem dX8_restore_0 : decode cX8_restore 0 = .ok (.iload_n 1, 1) := by decide +kernel
theorem dX8_restore_1 : decode cX8_restore 1 = .ok (.ifCond .lt 17, 3) := by decide +kernel
theorem dX8_restore_4 : decode cX8_restore 4 = .ok (.iload_n 1, 1) := by decide +kernel
theorem dX8_restore_5 : decode cX8_restore 5 = .ok (.iconst 3, 1) := by decide +kernel
theorem dX8_restore_6 : decode cX8_restore 6 = .ok (.if_icmp .ge 12, 3) := by decide +kernel
theorem dX8_restore_9 : decode cX8_restore 9 = .ok (.aload_n 0, 1) := by decide +kernel
theorem dX8_restore_10 : decode cX8_restore 10 = .ok (.getfield 48, 3) := by decide +kernel
theorem dX8_restore_13 : decode cX8_restore 13 = .ok (.iload_n 1, 1) := by decide +kernel
theorem dX8_restore_14 : decode cX8_restore 14 = .ok (.baload, 1) := by decide +kernel
theorem dX8_restore_15 : decode cX8_restore 15 = .ok (.ifCond .ne 5, 3) := by decide +kernel
theorem dX8_restore_18 : decode cX8_restore 18 = .ok (.iconst (-1), 1) := by decide +kernel
theorem dX8_restore_19 : decode cX8_restore 19 = .ok (.ireturn, 1) := by decide +kernel
theorem dX8_rivals_0 : decode cX8_rivals 0 = .ok (.aload_n 0, 1) := by decide +kernel
theorem dX8_rivals_1 : decode cX8_rivals 1 = .ok (.iconst 0, 1) := by decide +kernel
theorem dX8_rivals_2 : decode cX8_rivals 2 = .ok (.putfield 96, 3) := by decide +kernel
theorem dX8_rivals_5 : decode cX8_rivals 5 = .ok (.aload_n 0, 1) := by decide +kernel
theorem dX8_rivals_6 : decode cX8_rivals 6 = .ok (.invokevirtual 237, 3) := by decide +kernel
theorem dX8_rivals_9 : decode cX8_rivals 9 = .ok (.istore_n 3, 1) := by decide +kernel
theorem dX8_rivals_10 : decode cX8_rivals 10 = .ok (.aload_n 0, 1) := by decide +kernel
theorem dX8_rivals_11 : decode cX8_rivals 11 = .ok (.iload_n 1, 1) := by decide +kernel
theorem dX8_rivals_12 : decode cX8_rivals 12 = .ok (.invokevirtual 138, 3) := by decide +kernel
theorem dX8_rivals_15 : decode cX8_rivals 15 = .ok (.ifCond .eq 20, 3) := by decide +kernel
theorem dX8_rivals_35 : decode cX8_rivals 35 = .ok (.iconst (-1), 1) := by decide +kernel
theorem dX8_rivals_36 : decode cX8_rivals 36 = .ok (.ireturn, 1) := by decide +kernel
theorem dX8_round_0 : decode cX8_round 0 = .ok (.iload_n 1, 1) := by decide +kernel
theorem dX8_round_1 : decode cX8_round 1 = .ok (.ifCond .lt 8, 3) := by decide +kernel
theorem dX8_round_4 : decode cX8_round 4 = .ok (.iload_n 1, 1) := by decide +kernel
theorem dX8_round_5 : decode cX8_round 5 = .ok (.iconst 1, 1) := by decide +kernel
theorem dX8_round_6 : decode cX8_round 6 = .ok (.if_icmp .le 5, 3) := by decide +kernel
theorem dX8_round_9 : decode cX8_round 9 = .ok (.iconst (-1), 1) := by decide +kernel
theorem dX8_round_10 : decode cX8_round 10 = .ok (.ireturn, 1) := by decide +kernel
theorem dX8_round_11 : decode cX8_round 11 = .ok (.aload_n 0, 1) := by decide +kernel
theorem dX8_round_12 : decode cX8_round 12 = .ok (.invokevirtual 237, 3) := by decide +kernel
theorem dX8_round_15 : decode cX8_round 15 = .ok (.istore_n 2, 1) := by decide +kernel
theorem dX8_round_16 : decode cX8_round 16 = .ok (.iconst 0, 1) := by decide +kernel
theorem dX8_round_17 : decode cX8_round 17 = .ok (.istore_n 3, 1) := by decide +kernel
theorem dX8_round_18 : decode cX8_round 18 = .ok (.iload_n 3, 1) := by decide +kernel
theorem dX8_round_19 : decode cX8_round 19 = .ok (.aload_n 0, 1) := by decide +kernel
theorem dX8_round_20 : decode cX8_round 20 = .ok (.getfield 23, 3) := by decide +kernel
theorem dX8_round_23 : decode cX8_round 23 = .ok (.getfield 99, 3) := by decide +kernel
theorem dX8_round_26 : decode cX8_round 26 = .ok (.if_icmp .ge 38, 3) := by decide +kernel
theorem dX8_round_64 : decode cX8_round 64 = .ok (.iconst (-1), 1) := by decide +kernel
theorem dX8_round_65 : decode cX8_round 65 = .ok (.istore_n 3, 1) := by decide +kernel
theorem dX8_round_66 : decode cX8_round 66 = .ok (.iconst (-1), 1) := by decide +kernel
theorem dX8_round_67 : decode cX8_round 67 = .ok (.istore 4, 2) := by decide +kernel
theorem dX8_round_69 : decode cX8_round 69 = .ok (.aload_n 0, 1) := by decide +kernel
theorem dX8_round_70 : decode cX8_round 70 = .ok (.aload_n 0, 1) := by decide +kernel
theorem dX8_round_71 : decode cX8_round 71 = .ok (.getfield 23, 3) := by decide +kernel
theorem dX8_round_74 : decode cX8_round 74 = .ok (.getfield 108, 3) := by decide +kernel
theorem dX8_round_77 : decode cX8_round 77 = .ok (.iconst 1, 1) := by decide +kernel
theorem dX8_round_78 : decode cX8_round 78 = .ok (.iadd, 1) := by decide +kernel
theorem dX8_round_79 : decode cX8_round 79 = .ok (.invokevirtual 241, 3) := by decide +kernel
theorem dX8_round_82 : decode cX8_round 82 = .ok (.istore 5, 2) := by decide +kernel
theorem dX8_round_84 : decode cX8_round 84 = .ok (.iconst 0, 1) := by decide +kernel
theorem dX8_round_85 : decode cX8_round 85 = .ok (.istore 6, 2) := by decide +kernel
theorem dX8_round_87 : decode cX8_round 87 = .ok (.iload 6, 2) := by decide +kernel
theorem dX8_round_89 : decode cX8_round 89 = .ok (.iload 5, 2) := by decide +kernel
theorem dX8_round_91 : decode cX8_round 91 = .ok (.if_icmp .ge 75, 3) := by decide +kernel
theorem dX8_round_94 : decode cX8_round 94 = .ok (.aload_n 0, 1) := by decide +kernel
theorem dX8_round_95 : decode cX8_round 95 = .ok (.iload 6, 2) := by decide +kernel
theorem dX8_round_97 : decode cX8_round 97 = .ok (.aload_n 0, 1) := by decide +kernel
theorem dX8_round_98 : decode cX8_round 98 = .ok (.getfield 23, 3) := by decide +kernel
theorem dX8_round_101 : decode cX8_round 101 = .ok (.getfield 108, 3) := by decide +kernel
theorem dX8_round_104 : decode cX8_round 104 = .ok (.iconst 1, 1) := by decide +kernel
theorem dX8_round_105 : decode cX8_round 105 = .ok (.iadd, 1) := by decide +kernel
theorem dX8_round_106 : decode cX8_round 106 = .ok (.invokevirtual 244, 3) := by decide +kernel
theorem dX8_round_109 : decode cX8_round 109 = .ok (.aload_n 0, 1) := by decide +kernel
theorem dX8_round_110 : decode cX8_round 110 = .ok (.invokevirtual 247, 3) := by decide +kernel
theorem dX8_round_113 : decode cX8_round 113 = .ok (.istore 7, 2) := by decide +kernel
theorem dX8_round_115 : decode cX8_round 115 = .ok (.iload 7, 2) := by decide +kernel
theorem dX8_round_117 : decode cX8_round 117 = .ok (.ifCond .ge 7, 3) := by decide +kernel
theorem dX8_round_124 : decode cX8_round 124 = .ok (.aload_n 0, 1) := by decide +kernel
theorem dX8_round_125 : decode cX8_round 125 = .ok (.invokevirtual 250, 3) := by decide +kernel
theorem dX8_round_128 : decode cX8_round 128 = .ok (.istore 8, 2) := by decide +kernel
theorem dX8_round_130 : decode cX8_round 130 = .ok (.iload 7, 2) := by decide +kernel
theorem dX8_round_132 : decode cX8_round 132 = .ok (.iload_n 3, 1) := by decide +kernel
theorem dX8_round_133 : decode cX8_round 133 = .ok (.if_icmp .gt 16, 3) := by decide +kernel
theorem dX8_round_149 : decode cX8_round 149 = .ok (.iload 7, 2) := by decide +kernel
theorem dX8_round_151 : decode cX8_round 151 = .ok (.istore_n 3, 1) := by decide +kernel
theorem dX8_round_152 : decode cX8_round 152 = .ok (.iload 8, 2) := by decide +kernel
theorem dX8_round_154 : decode cX8_round 154 = .ok (.istore 4, 2) := by decide +kernel
theorem dX8_round_156 : decode cX8_round 156 = .ok (.aload_n 0, 1) := by decide +kernel
theorem dX8_round_157 : decode cX8_round 157 = .ok (.invokevirtual 253, 3) := by decide +kernel
theorem dX8_round_160 : decode cX8_round 160 = .ok (.iinc 6 1, 3) := by decide +kernel
theorem dX8_round_163 : decode cX8_round 163 = .ok (.goto (-76), 3) := by decide +kernel
theorem dX8_round_166 : decode cX8_round 166 = .ok (.iload_n 1, 1) := by decide +kernel
theorem dX8_round_167 : decode cX8_round 167 = .ok (.ifCond .ne 7, 3) := by decide +kernel
theorem dX8_round_170 : decode cX8_round 170 = .ok (.iload_n 3, 1) := by decide +kernel
theorem dX8_round_171 : decode cX8_round 171 = .ok (.goto 5, 3) := by decide +kernel
theorem dX8_round_174 : decode cX8_round 174 = .ok (.iload 4, 2) := by decide +kernel
theorem dX8_round_176 : decode cX8_round 176 = .ok (.ireturn, 1) := by decide +kernel
theorem dX8_roundCount_0 : decode cX8_roundCount 0 = .ok (.iconst 0, 1) := by decide +kernel
theorem dX8_roundCount_1 : decode cX8_roundCount 1 = .ok (.istore_n 1, 1) := by decide +kernel
theorem dX8_roundCount_2 : decode cX8_roundCount 2 = .ok (.iconst 0, 1) := by decide +kernel
theorem dX8_roundCount_3 : decode cX8_roundCount 3 = .ok (.istore_n 2, 1) := by decide +kernel
theorem dX8_roundCount_4 : decode cX8_roundCount 4 = .ok (.iload_n 2, 1) := by decide +kernel
theorem dX8_roundCount_5 : decode cX8_roundCount 5 = .ok (.aload_n 0, 1) := by decide +kernel
theorem dX8_roundCount_6 : decode cX8_roundCount 6 = .ok (.getfield 23, 3) := by decide +kernel
theorem dX8_roundCount_9 : decode cX8_roundCount 9 = .ok (.getfield 99, 3) := by decide +kernel
theorem dX8_roundCount_12 : decode cX8_roundCount 12 = .ok (.if_icmp .ge 66, 3) := by decide +kernel
theorem dX8_roundCount_78 : decode cX8_roundCount 78 = .ok (.iload_n 1, 1) := by decide +kernel
theorem dX8_roundCount_79 : decode cX8_roundCount 79 = .ok (.invokestatic 232, 3) := by decide +kernel
theorem dX8_roundCount_82 : decode cX8_roundCount 82 = .ok (.ireturn, 1) := by decide +kernel
theorem dX8_roundPrice_0 : decode cX8_roundPrice 0 = .ok (.iconst 0, 1) := by decide +kernel
theorem dX8_roundPrice_1 : decode cX8_roundPrice 1 = .ok (.istore_n 1, 1) := by decide +kernel
theorem dX8_roundPrice_2 : decode cX8_roundPrice 2 = .ok (.iconst 0, 1) := by decide +kernel
theorem dX8_roundPrice_3 : decode cX8_roundPrice 3 = .ok (.istore_n 2, 1) := by decide +kernel
theorem dX8_roundPrice_4 : decode cX8_roundPrice 4 = .ok (.iload_n 2, 1) := by decide +kernel
theorem dX8_roundPrice_5 : decode cX8_roundPrice 5 = .ok (.aload_n 0, 1) := by decide +kernel
theorem dX8_roundPrice_6 : decode cX8_roundPrice 6 = .ok (.getfield 23, 3) := by decide +kernel
theorem dX8_roundPrice_9 : decode cX8_roundPrice 9 = .ok (.getfield 99, 3) := by decide +kernel
theorem dX8_roundPrice_12 : decode cX8_roundPrice 12 = .ok (.if_icmp .ge 39, 3) := by decide +kernel
theorem dX8_roundPrice_51 : decode cX8_roundPrice 51 = .ok (.iload_n 1, 1) := by decide +kernel
theorem dX8_roundPrice_52 : decode cX8_roundPrice 52 = .ok (.ireturn, 1) := by decide +kernel
theorem dX8_rows_0 : decode cX8_rows 0 = .ok (.aload_n 0, 1) := by decide +kernel
theorem dX8_rows_1 : decode cX8_rows 1 = .ok (.getfield 55, 3) := by decide +kernel
theorem dX8_rows_4 : decode cX8_rows 4 = .ok (.aload_n 0, 1) := by decide +kernel
theorem dX8_rows_5 : decode cX8_rows 5 = .ok (.getfield 23, 3) := by decide +kernel
theorem dX8_rows_8 : decode cX8_rows 8 = .ok (.iload_n 1, 1) := by decide +kernel
theorem dX8_rows_9 : decode cX8_rows 9 = .ok (.invokevirtual 332, 3) := by decide +kernel
theorem dX8_rows_12 : decode cX8_rows 12 = .ok (.ireturn, 1) := by decide +kernel
theorem dX8_rowsOf_0 : decode cX8_rowsOf 0 = .ok (.iconst 1, 1) := by decide +kernel
theorem dX8_rowsOf_1 : decode cX8_rowsOf 1 = .ok (.istore_n 2, 1) := by decide +kernel
theorem dX8_rowsOf_2 : decode cX8_rowsOf 2 = .ok (.iconst 0, 1) := by decide +kernel
theorem dX8_rowsOf_3 : decode cX8_rowsOf 3 = .ok (.istore_n 3, 1) := by decide +kernel
theorem dX8_rowsOf_4 : decode cX8_rowsOf 4 = .ok (.iload_n 3, 1) := by decide +kernel
theorem dX8_rowsOf_5 : decode cX8_rowsOf 5 = .ok (.aload_n 0, 1) := by decide +kernel
theorem dX8_rowsOf_6 : decode cX8_rowsOf 6 = .ok (.getfield 23, 3) := by decide +kernel
theorem dX8_rowsOf_9 : decode cX8_rowsOf 9 = .ok (.getfield 99, 3) := by decide +kernel
theorem dX8_rowsOf_12 : decode cX8_rowsOf 12 = .ok (.if_icmp .ge 13, 3) := by decide +kernel
theorem dX8_rowsOf_25 : decode cX8_rowsOf 25 = .ok (.iload_n 2, 1) := by decide +kernel
theorem dX8_rowsOf_26 : decode cX8_rowsOf 26 = .ok (.ireturn, 1) := by decide +kernel
theorem dX8_sale_0 : decode cX8_sale 0 = .ok (.aload_n 0, 1) := by decide +kernel
theorem dX8_sale_1 : decode cX8_sale 1 = .ok (.iload_n 1, 1) := by decide +kernel
theorem dX8_sale_2 : decode cX8_sale 2 = .ok (.invokevirtual 138, 3) := by decide +kernel
theorem dX8_sale_5 : decode cX8_sale 5 = .ok (.ifCond .eq 12, 3) := by decide +kernel
theorem dX8_sale_17 : decode cX8_sale 17 = .ok (.iconst (-1), 1) := by decide +kernel
theorem dX8_sale_18 : decode cX8_sale 18 = .ok (.ireturn, 1) := by decide +kernel
theorem dX8_sharedDivisor_0 : decode cX8_sharedDivisor 0 = .ok (.iload_n 0, 1) := by decide +kernel
theorem dX8_sharedDivisor_1 : decode cX8_sharedDivisor 1 = .ok (.istore_n 2, 1) := by decide +kernel
theorem dX8_sharedDivisor_2 : decode cX8_sharedDivisor 2 = .ok (.iload_n 1, 1) := by decide +kernel
theorem dX8_sharedDivisor_3 : decode cX8_sharedDivisor 3 = .ok (.istore_n 3, 1) := by decide +kernel
theorem dX8_sharedDivisor_4 : decode cX8_sharedDivisor 4 = .ok (.iconst 0, 1) := by decide +kernel
theorem dX8_sharedDivisor_5 : decode cX8_sharedDivisor 5 = .ok (.istore 4, 2) := by decide +kernel
theorem dX8_sharedDivisor_7 : decode cX8_sharedDivisor 7 = .ok (.iload 4, 2) := by decide +kernel
theorem dX8_sharedDivisor_9 : decode cX8_sharedDivisor 9 = .ok (.bipush 64, 2) := by decide +kernel
theorem dX8_sharedDivisor_11 : decode cX8_sharedDivisor 11 = .ok (.if_icmp .ge 23, 3) := by decide +kernel
theorem dX8_sharedDivisor_14 : decode cX8_sharedDivisor 14 = .ok (.iload_n 3, 1) := by decide +kernel
theorem dX8_sharedDivisor_15 : decode cX8_sharedDivisor 15 = .ok (.ifCond .eq 19, 3) := by decide +kernel
theorem dX8_sharedDivisor_18 : decode cX8_sharedDivisor 18 = .ok (.iload_n 2, 1) := by decide +kernel
theorem dX8_sharedDivisor_19 : decode cX8_sharedDivisor 19 = .ok (.iload_n 3, 1) := by decide +kernel
theorem dX8_sharedDivisor_20 : decode cX8_sharedDivisor 20 = .ok (.irem, 1) := by decide +kernel
theorem dX8_sharedDivisor_21 : decode cX8_sharedDivisor 21 = .ok (.istore 5, 2) := by decide +kernel
theorem dX8_sharedDivisor_23 : decode cX8_sharedDivisor 23 = .ok (.iload_n 3, 1) := by decide +kernel
theorem dX8_sharedDivisor_24 : decode cX8_sharedDivisor 24 = .ok (.istore_n 2, 1) := by decide +kernel
theorem dX8_sharedDivisor_25 : decode cX8_sharedDivisor 25 = .ok (.iload 5, 2) := by decide +kernel
theorem dX8_sharedDivisor_27 : decode cX8_sharedDivisor 27 = .ok (.istore_n 3, 1) := by decide +kernel
theorem dX8_sharedDivisor_28 : decode cX8_sharedDivisor 28 = .ok (.iinc 4 1, 3) := by decide +kernel
theorem dX8_sharedDivisor_31 : decode cX8_sharedDivisor 31 = .ok (.goto (-24), 3) := by decide +kernel
theorem dX8_sharedDivisor_34 : decode cX8_sharedDivisor 34 = .ok (.iconst 1, 1) := by decide +kernel
theorem dX8_sharedDivisor_35 : decode cX8_sharedDivisor 35 = .ok (.iload_n 2, 1) := by decide +kernel
theorem dX8_sharedDivisor_36 : decode cX8_sharedDivisor 36 = .ok (.invokestatic 276, 3) := by decide +kernel
theorem dX8_sharedDivisor_39 : decode cX8_sharedDivisor 39 = .ok (.ireturn, 1) := by decide +kernel
theorem dX8_spinsters_0 : decode cX8_spinsters 0 = .ok (.iconst 1, 1) := by decide +kernel
theorem dX8_spinsters_1 : decode cX8_spinsters 1 = .ok (.aload_n 0, 1) := by decide +kernel
theorem dX8_spinsters_2 : decode cX8_spinsters 2 = .ok (.getfield 23, 3) := by decide +kernel
theorem dX8_spinsters_5 : decode cX8_spinsters 5 = .ok (.getfield 108, 3) := by decide +kernel
theorem dX8_spinsters_8 : decode cX8_spinsters 8 = .ok (.ishl, 1) := by decide +kernel
theorem dX8_spinsters_9 : decode cX8_spinsters 9 = .ok (.iconst 1, 1) := by decide +kernel
theorem dX8_spinsters_10 : decode cX8_spinsters 10 = .ok (.isub, 1) := by decide +kernel
theorem dX8_spinsters_11 : decode cX8_spinsters 11 = .ok (.istore_n 1, 1) := by decide +kernel

theorem dX9_about_0 : decode cX9_about 0 = .ok (.iload_n 1, 1) := by decide +kernel
theorem dX9_about_1 : decode cX9_about 1 = .ok (.tableswitch 171 0 14 #[75, 80, 85, 95, 100, 105, 113, 121, 126, 131, 136, 141, 146, 156, 161], 75) := by decide +kernel
theorem dX9_about_76 : decode cX9_about 76 = .ok (.aload_n 0, 1) := by decide +kernel
theorem dX9_about_77 : decode cX9_about 77 = .ok (.invokevirtual 358, 3) := by decide +kernel
theorem dX9_about_80 : decode cX9_about 80 = .ok (.ireturn, 1) := by decide +kernel
theorem dX9_about_81 : decode cX9_about 81 = .ok (.aload_n 0, 1) := by decide +kernel
theorem dX9_about_82 : decode cX9_about 82 = .ok (.invokevirtual 351, 3) := by decide +kernel
theorem dX9_about_85 : decode cX9_about 85 = .ok (.ireturn, 1) := by decide +kernel
theorem dX9_about_86 : decode cX9_about 86 = .ok (.aload_n 0, 1) := by decide +kernel
theorem dX9_about_87 : decode cX9_about 87 = .ok (.getfield 20, 3) := by decide +kernel
theorem dX9_about_90 : decode cX9_about 90 = .ok (.aload_n 0, 1) := by decide +kernel
theorem dX9_about_91 : decode cX9_about 91 = .ok (.getfield 249, 3) := by decide +kernel
theorem dX9_about_94 : decode cX9_about 94 = .ok (.iaload, 1) := by decide +kernel
theorem dX9_about_95 : decode cX9_about 95 = .ok (.ireturn, 1) := by decide +kernel
theorem dX9_about_96 : decode cX9_about 96 = .ok (.aload_n 0, 1) := by decide +kernel
theorem dX9_about_97 : decode cX9_about 97 = .ok (.invokevirtual 514, 3) := by decide +kernel
theorem dX9_about_100 : decode cX9_about 100 = .ok (.ireturn, 1) := by decide +kernel
theorem dX9_about_101 : decode cX9_about 101 = .ok (.aload_n 0, 1) := by decide +kernel
theorem dX9_about_102 : decode cX9_about 102 = .ok (.invokevirtual 517, 3) := by decide +kernel
theorem dX9_about_105 : decode cX9_about 105 = .ok (.ireturn, 1) := by decide +kernel
theorem dX9_about_106 : decode cX9_about 106 = .ok (.aload_n 0, 1) := by decide +kernel
theorem dX9_about_107 : decode cX9_about 107 = .ok (.getfield 88, 3) := by decide +kernel
theorem dX9_about_110 : decode cX9_about 110 = .ok (.bipush 24, 2) := by decide +kernel
theorem dX9_about_112 : decode cX9_about 112 = .ok (.iaload, 1) := by decide +kernel
theorem dX9_about_113 : decode cX9_about 113 = .ok (.ireturn, 1) := by decide +kernel
theorem dX9_about_114 : decode cX9_about 114 = .ok (.aload_n 0, 1) := by decide +kernel
theorem dX9_about_115 : decode cX9_about 115 = .ok (.getfield 88, 3) := by decide +kernel
theorem dX9_about_118 : decode cX9_about 118 = .ok (.bipush 25, 2) := by decide +kernel
theorem dX9_about_120 : decode cX9_about 120 = .ok (.iaload, 1) := by decide +kernel
theorem dX9_about_121 : decode cX9_about 121 = .ok (.ireturn, 1) := by decide +kernel
theorem dX9_about_122 : decode cX9_about 122 = .ok (.aload_n 0, 1) := by decide +kernel
theorem dX9_about_123 : decode cX9_about 123 = .ok (.getfield 364, 3) := by decide +kernel
theorem dX9_about_126 : decode cX9_about 126 = .ok (.ireturn, 1) := by decide +kernel
theorem dX9_about_127 : decode cX9_about 127 = .ok (.aload_n 0, 1) := by decide +kernel
theorem dX9_about_128 : decode cX9_about 128 = .ok (.getfield 367, 3) := by decide +kernel
theorem dX9_about_131 : decode cX9_about 131 = .ok (.ireturn, 1) := by decide +kernel
theorem dX9_about_132 : decode cX9_about 132 = .ok (.aload_n 0, 1) := by decide +kernel
theorem dX9_about_133 : decode cX9_about 133 = .ok (.getfield 370, 3) := by decide +kernel
theorem dX9_about_136 : decode cX9_about 136 = .ok (.ireturn, 1) := by decide +kernel
theorem dX9_about_137 : decode cX9_about 137 = .ok (.aload_n 0, 1) := by decide +kernel
theorem dX9_about_138 : decode cX9_about 138 = .ok (.getfield 492, 3) := by decide +kernel
theorem dX9_about_141 : decode cX9_about 141 = .ok (.ireturn, 1) := by decide +kernel
theorem dX9_about_142 : decode cX9_about 142 = .ok (.aload_n 0, 1) := by decide +kernel
theorem dX9_about_143 : decode cX9_about 143 = .ok (.getfield 246, 3) := by decide +kernel
theorem dX9_about_146 : decode cX9_about 146 = .ok (.ireturn, 1) := by decide +kernel
theorem dX9_about_147 : decode cX9_about 147 = .ok (.aload_n 0, 1) := by decide +kernel
theorem dX9_about_148 : decode cX9_about 148 = .ok (.getfield 30, 3) := by decide +kernel
theorem dX9_about_151 : decode cX9_about 151 = .ok (.aload_n 0, 1) := by decide +kernel
theorem dX9_about_152 : decode cX9_about 152 = .ok (.getfield 249, 3) := by decide +kernel
theorem dX9_about_155 : decode cX9_about 155 = .ok (.iaload, 1) := by decide +kernel
theorem dX9_about_156 : decode cX9_about 156 = .ok (.ireturn, 1) := by decide +kernel
theorem dX9_about_157 : decode cX9_about 157 = .ok (.aload_n 0, 1) := by decide +kernel
theorem dX9_about_158 : decode cX9_about 158 = .ok (.getfield 373, 3) := by decide +kernel
theorem dX9_about_161 : decode cX9_about 161 = .ok (.ireturn, 1) := by decide +kernel
theorem dX9_about_162 : decode cX9_about 162 = .ok (.aload_n 0, 1) := by decide +kernel
theorem dX9_about_163 : decode cX9_about 163 = .ok (.getfield 33, 3) := by decide +kernel
theorem dX9_about_166 : decode cX9_about 166 = .ok (.aload_n 0, 1) := by decide +kernel
theorem dX9_about_167 : decode cX9_about 167 = .ok (.getfield 249, 3) := by decide +kernel
theorem dX9_about_170 : decode cX9_about 170 = .ok (.iaload, 1) := by decide +kernel
theorem dX9_about_171 : decode cX9_about 171 = .ok (.ireturn, 1) := by decide +kernel
theorem dX9_about_172 : decode cX9_about 172 = .ok (.iconst (-1), 1) := by decide +kernel
theorem dX9_about_173 : decode cX9_about 173 = .ok (.ireturn, 1) := by decide +kernel
theorem dX9_alike_0 : decode cX9_alike 0 = .ok (.aload_n 0, 1) := by decide +kernel
theorem dX9_alike_1 : decode cX9_alike 1 = .ok (.iload_n 1, 1) := by decide +kernel
theorem dX9_alike_2 : decode cX9_alike 2 = .ok (.invokevirtual 412, 3) := by decide +kernel
theorem dX9_alike_5 : decode cX9_alike 5 = .ok (.ifCond .eq 11, 3) := by decide +kernel
theorem dX9_alike_16 : decode cX9_alike 16 = .ok (.iconst (-1), 1) := by decide +kernel
theorem dX9_alike_17 : decode cX9_alike 17 = .ok (.ireturn, 1) := by decide +kernel
theorem dX9_along_0 : decode cX9_along 0 = .ok (.iload_n 1, 1) := by decide +kernel
theorem dX9_along_1 : decode cX9_along 1 = .ok (.iconst 0, 1) := by decide +kernel
theorem dX9_along_2 : decode cX9_along 2 = .ok (.bipush 99, 2) := by decide +kernel
theorem dX9_along_4 : decode cX9_along 4 = .ok (.invokestatic 354, 3) := by decide +kernel
theorem dX9_along_7 : decode cX9_along 7 = .ok (.ifCond .eq 13, 3) := by decide +kernel
theorem dX9_along_10 : decode cX9_along 10 = .ok (.iload_n 2, 1) := by decide +kernel
theorem dX9_along_11 : decode cX9_along 11 = .ok (.iconst 0, 1) := by decide +kernel
theorem dX9_along_12 : decode cX9_along 12 = .ok (.bipush 99, 2) := by decide +kernel
theorem dX9_along_14 : decode cX9_along 14 = .ok (.invokestatic 354, 3) := by decide +kernel
theorem dX9_along_17 : decode cX9_along 17 = .ok (.ifCond .ne 5, 3) := by decide +kernel
theorem dX9_along_20 : decode cX9_along 20 = .ok (.iconst (-1), 1) := by decide +kernel
theorem dX9_along_21 : decode cX9_along 21 = .ok (.ireturn, 1) := by decide +kernel
theorem dX9_along_22 : decode cX9_along 22 = .ok (.iconst 0, 1) := by decide +kernel
theorem dX9_along_23 : decode cX9_along 23 = .ok (.istore_n 3, 1) := by decide +kernel
theorem dX9_along_24 : decode cX9_along 24 = .ok (.iconst 0, 1) := by decide +kernel
theorem dX9_along_25 : decode cX9_along 25 = .ok (.istore 4, 2) := by decide +kernel
theorem dX9_along_27 : decode cX9_along 27 = .ok (.iload 4, 2) := by decide +kernel
theorem dX9_along_29 : decode cX9_along 29 = .ok (.aload_n 0, 1) := by decide +kernel
theorem dX9_along_30 : decode cX9_along 30 = .ok (.invokevirtual 358, 3) := by decide +kernel
theorem dX9_along_33 : decode cX9_along 33 = .ok (.if_icmp .ge 44, 3) := by decide +kernel
theorem dX9_along_77 : decode cX9_along 77 = .ok (.iload_n 3, 1) := by decide +kernel
theorem dX9_along_78 : decode cX9_along 78 = .ok (.ireturn, 1) := by decide +kernel
theorem dX9_ask_0 : decode cX9_ask 0 = .ok (.aload_n 0, 1) := by decide +kernel
theorem dX9_ask_1 : decode cX9_ask 1 = .ok (.iload_n 2, 1) := by decide +kernel
theorem dX9_ask_2 : decode cX9_ask 2 = .ok (.invokevirtual 508, 3) := by decide +kernel
theorem dX9_ask_5 : decode cX9_ask 5 = .ok (.iload_n 1, 1) := by decide +kernel
theorem dX9_ask_6 : decode cX9_ask 6 = .ok (.iconst 0, 1) := by decide +kernel
theorem dX9_ask_7 : decode cX9_ask 7 = .ok (.iconst 1, 1) := by decide +kernel
theorem dX9_ask_8 : decode cX9_ask 8 = .ok (.invokestatic 354, 3) := by decide +kernel
theorem dX9_ask_11 : decode cX9_ask 11 = .ok (.ifCond .eq 17, 3) := by decide +kernel
theorem dX9_ask_14 : decode cX9_ask 14 = .ok (.aload_n 0, 1) := by decide +kernel
theorem dX9_ask_15 : decode cX9_ask 15 = .ok (.invokevirtual 351, 3) := by decide +kernel
theorem dX9_ask_18 : decode cX9_ask 18 = .ok (.ifCond .eq 10, 3) := by decide +kernel
theorem dX9_ask_28 : decode cX9_ask 28 = .ok (.iconst (-1), 1) := by decide +kernel
theorem dX9_ask_29 : decode cX9_ask 29 = .ok (.ireturn, 1) := by decide +kernel
theorem dX9_barter_0 : decode cX9_barter 0 = .ok (.iconst (-1), 1) := by decide +kernel
theorem dX9_barter_1 : decode cX9_barter 1 = .ok (.istore_n 1, 1) := by decide +kernel
theorem dX9_barter_2 : decode cX9_barter 2 = .ok (.ldc_w 427, 3) := by decide +kernel
theorem dX9_barter_5 : decode cX9_barter 5 = .ok (.istore_n 2, 1) := by decide +kernel
theorem dX9_barter_6 : decode cX9_barter 6 = .ok (.iconst 0, 1) := by decide +kernel
theorem dX9_barter_7 : decode cX9_barter 7 = .ok (.istore_n 3, 1) := by decide +kernel
theorem dX9_barter_8 : decode cX9_barter 8 = .ok (.iload_n 3, 1) := by decide +kernel
theorem dX9_barter_9 : decode cX9_barter 9 = .ok (.aload_n 0, 1) := by decide +kernel
theorem dX9_barter_10 : decode cX9_barter 10 = .ok (.invokevirtual 351, 3) := by decide +kernel
theorem dX9_barter_13 : decode cX9_barter 13 = .ok (.iconst 1, 1) := by decide +kernel
theorem dX9_barter_14 : decode cX9_barter 14 = .ok (.iadd, 1) := by decide +kernel
theorem dX9_barter_15 : decode cX9_barter 15 = .ok (.aload_n 0, 1) := by decide +kernel
theorem dX9_barter_16 : decode cX9_barter 16 = .ok (.invokevirtual 358, 3) := by decide +kernel
theorem dX9_barter_19 : decode cX9_barter 19 = .ok (.invokestatic 462, 3) := by decide +kernel
theorem dX9_barter_22 : decode cX9_barter 22 = .ok (.if_icmp .ge 30, 3) := by decide +kernel
theorem dX9_barter_25 : decode cX9_barter 25 = .ok (.aload_n 0, 1) := by decide +kernel
theorem dX9_barter_26 : decode cX9_barter 26 = .ok (.iload_n 3, 1) := by decide +kernel
theorem dX9_barter_27 : decode cX9_barter 27 = .ok (.invokevirtual 480, 3) := by decide +kernel
theorem dX9_barter_30 : decode cX9_barter 30 = .ok (.istore 4, 2) := by decide +kernel
theorem dX9_barter_32 : decode cX9_barter 32 = .ok (.iload 4, 2) := by decide +kernel
theorem dX9_barter_34 : decode cX9_barter 34 = .ok (.iload_n 2, 1) := by decide +kernel
theorem dX9_barter_35 : decode cX9_barter 35 = .ok (.if_icmp .gt 6, 3) := by decide +kernel
theorem dX9_barter_41 : decode cX9_barter 41 = .ok (.iload_n 3, 1) := by decide +kernel
theorem dX9_barter_42 : decode cX9_barter 42 = .ok (.istore_n 1, 1) := by decide +kernel
theorem dX9_barter_43 : decode cX9_barter 43 = .ok (.iload 4, 2) := by decide +kernel
theorem dX9_barter_45 : decode cX9_barter 45 = .ok (.istore_n 2, 1) := by decide +kernel
theorem dX9_barter_46 : decode cX9_barter 46 = .ok (.iinc 3 1, 3) := by decide +kernel
theorem dX9_barter_49 : decode cX9_barter 49 = .ok (.goto (-41), 3) := by decide +kernel
theorem dX9_barter_52 : decode cX9_barter 52 = .ok (.aload_n 0, 1) := by decide +kernel
theorem dX9_barter_53 : decode cX9_barter 53 = .ok (.aload_n 0, 1) := by decide +kernel
theorem dX9_barter_54 : decode cX9_barter 54 = .ok (.invokevirtual 358, 3) := by decide +kernel
theorem dX9_barter_57 : decode cX9_barter 57 = .ok (.putfield 373, 3) := by decide +kernel
theorem dX9_barter_60 : decode cX9_barter 60 = .ok (.iconst 0, 1) := by decide +kernel
theorem dX9_barter_61 : decode cX9_barter 61 = .ok (.istore_n 3, 1) := by decide +kernel
theorem dX9_barter_62 : decode cX9_barter 62 = .ok (.iload_n 3, 1) := by decide +kernel
theorem dX9_barter_63 : decode cX9_barter 63 = .ok (.aload_n 0, 1) := by decide +kernel
theorem dX9_barter_64 : decode cX9_barter 64 = .ok (.invokevirtual 358, 3) := by decide +kernel
theorem dX9_barter_67 : decode cX9_barter 67 = .ok (.if_icmp .ge 50, 3) := by decide +kernel
theorem dX9_barter_117 : decode cX9_barter 117 = .ok (.iload_n 2, 1) := by decide +kernel
theorem dX9_barter_118 : decode cX9_barter 118 = .ok (.ireturn, 1) := by decide +kernel
theorem dX9_barterOf_0 : decode cX9_barterOf 0 = .ok (.iconst 0, 1) := by decide +kernel
theorem dX9_barterOf_1 : decode cX9_barterOf 1 = .ok (.istore_n 2, 1) := by decide +kernel
theorem dX9_barterOf_2 : decode cX9_barterOf 2 = .ok (.iconst 0, 1) := by decide +kernel
theorem dX9_barterOf_3 : decode cX9_barterOf 3 = .ok (.istore_n 3, 1) := by decide +kernel
theorem dX9_barterOf_4 : decode cX9_barterOf 4 = .ok (.iconst 0, 1) := by decide +kernel
theorem dX9_barterOf_5 : decode cX9_barterOf 5 = .ok (.istore 4, 2) := by decide +kernel
theorem dX9_barterOf_7 : decode cX9_barterOf 7 = .ok (.iload 4, 2) := by decide +kernel
theorem dX9_barterOf_9 : decode cX9_barterOf 9 = .ok (.aload_n 0, 1) := by decide +kernel
theorem dX9_barterOf_10 : decode cX9_barterOf 10 = .ok (.invokevirtual 358, 3) := by decide +kernel
theorem dX9_barterOf_13 : decode cX9_barterOf 13 = .ok (.if_icmp .ge 122, 3) := by decide +kernel
theorem dX9_barterOf_135 : decode cX9_barterOf 135 = .ok (.iload_n 3, 1) := by decide +kernel
theorem dX9_barterOf_136 : decode cX9_barterOf 136 = .ok (.ireturn, 1) := by decide +kernel
theorem dX9_bring_0 : decode cX9_bring 0 = .ok (.aload_n 0, 1) := by decide +kernel
theorem dX9_bring_1 : decode cX9_bring 1 = .ok (.iload_n 1, 1) := by decide +kernel
theorem dX9_bring_2 : decode cX9_bring 2 = .ok (.invokevirtual 412, 3) := by decide +kernel
theorem dX9_bring_5 : decode cX9_bring 5 = .ok (.ifCond .eq 27, 3) := by decide +kernel
theorem dX9_bring_32 : decode cX9_bring 32 = .ok (.ldc_w 427, 3) := by decide +kernel
theorem dX9_bring_35 : decode cX9_bring 35 = .ok (.ireturn, 1) := by decide +kernel
theorem dX9_cartNow_0 : decode cX9_cartNow 0 = .ok (.iconst 0, 1) := by decide +kernel
theorem dX9_cartNow_1 : decode cX9_cartNow 1 = .ok (.istore_n 1, 1) := by decide +kernel
theorem dX9_cartNow_2 : decode cX9_cartNow 2 = .ok (.iconst 0, 1) := by decide +kernel
theorem dX9_cartNow_3 : decode cX9_cartNow 3 = .ok (.istore_n 2, 1) := by decide +kernel
theorem dX9_cartNow_4 : decode cX9_cartNow 4 = .ok (.iload_n 2, 1) := by decide +kernel
theorem dX9_cartNow_5 : decode cX9_cartNow 5 = .ok (.aload_n 0, 1) := by decide +kernel
theorem dX9_cartNow_6 : decode cX9_cartNow 6 = .ok (.invokevirtual 351, 3) := by decide +kernel
theorem dX9_cartNow_9 : decode cX9_cartNow 9 = .ok (.if_icmp .ge 23, 3) := by decide +kernel
theorem dX9_cartNow_32 : decode cX9_cartNow 32 = .ok (.iload_n 1, 1) := by decide +kernel
theorem dX9_cartNow_33 : decode cX9_cartNow 33 = .ok (.ireturn, 1) := by decide +kernel
theorem dX9_clearBank_0 : decode cX9_clearBank 0 = .ok (.aload_n 0, 1) := by decide +kernel
theorem dX9_clearBank_1 : decode cX9_clearBank 1 = .ok (.getfield 20, 3) := by decide +kernel
theorem dX9_clearBank_4 : decode cX9_clearBank 4 = .ok (.aload_n 0, 1) := by decide +kernel
theorem dX9_clearBank_5 : decode cX9_clearBank 5 = .ok (.getfield 240, 3) := by decide +kernel
theorem dX9_clearBank_8 : decode cX9_clearBank 8 = .ok (.iconst 1, 1) := by decide +kernel
theorem dX9_clearBank_9 : decode cX9_clearBank 9 = .ok (.iastore, 1) := by decide +kernel
theorem dX9_clearBank_10 : decode cX9_clearBank 10 = .ok (.aload_n 0, 1) := by decide +kernel
theorem dX9_clearBank_11 : decode cX9_clearBank 11 = .ok (.getfield 24, 3) := by decide +kernel
theorem dX9_clearBank_14 : decode cX9_clearBank 14 = .ok (.aload_n 0, 1) := by decide +kernel
theorem dX9_clearBank_15 : decode cX9_clearBank 15 = .ok (.getfield 240, 3) := by decide +kernel
theorem dX9_clearBank_18 : decode cX9_clearBank 18 = .ok (.iconst 0, 1) := by decide +kernel
theorem dX9_clearBank_19 : decode cX9_clearBank 19 = .ok (.iastore, 1) := by decide +kernel
theorem dX9_clearBank_20 : decode cX9_clearBank 20 = .ok (.aload_n 0, 1) := by decide +kernel
theorem dX9_clearBank_21 : decode cX9_clearBank 21 = .ok (.getfield 27, 3) := by decide +kernel
theorem dX9_clearBank_24 : decode cX9_clearBank 24 = .ok (.aload_n 0, 1) := by decide +kernel
theorem dX9_clearBank_25 : decode cX9_clearBank 25 = .ok (.getfield 240, 3) := by decide +kernel
theorem dX9_clearBank_28 : decode cX9_clearBank 28 = .ok (.iconst 0, 1) := by decide +kernel
theorem dX9_clearBank_29 : decode cX9_clearBank 29 = .ok (.iastore, 1) := by decide +kernel
theorem dX9_clearBank_30 : decode cX9_clearBank 30 = .ok (.aload_n 0, 1) := by decide +kernel
theorem dX9_clearBank_31 : decode cX9_clearBank 31 = .ok (.getfield 30, 3) := by decide +kernel
theorem dX9_clearBank_34 : decode cX9_clearBank 34 = .ok (.aload_n 0, 1) := by decide +kernel
theorem dX9_clearBank_35 : decode cX9_clearBank 35 = .ok (.getfield 240, 3) := by decide +kernel
theorem dX9_clearBank_38 : decode cX9_clearBank 38 = .ok (.iconst 0, 1) := by decide +kernel
theorem dX9_clearBank_39 : decode cX9_clearBank 39 = .ok (.iastore, 1) := by decide +kernel
theorem dX9_clearBank_40 : decode cX9_clearBank 40 = .ok (.aload_n 0, 1) := by decide +kernel
theorem dX9_clearBank_41 : decode cX9_clearBank 41 = .ok (.getfield 33, 3) := by decide +kernel
theorem dX9_clearBank_44 : decode cX9_clearBank 44 = .ok (.aload_n 0, 1) := by decide +kernel
theorem dX9_clearBank_45 : decode cX9_clearBank 45 = .ok (.getfield 240, 3) := by decide +kernel
theorem dX9_clearBank_48 : decode cX9_clearBank 48 = .ok (.iconst 0, 1) := by decide +kernel
theorem dX9_clearBank_49 : decode cX9_clearBank 49 = .ok (.iastore, 1) := by decide +kernel
theorem dX9_clearBank_50 : decode cX9_clearBank 50 = .ok (.aload_n 0, 1) := by decide +kernel
theorem dX9_clearBank_51 : decode cX9_clearBank 51 = .ok (.getfield 36, 3) := by decide +kernel
theorem dX9_clearBank_54 : decode cX9_clearBank 54 = .ok (.aload_n 0, 1) := by decide +kernel
theorem dX9_clearBank_55 : decode cX9_clearBank 55 = .ok (.getfield 240, 3) := by decide +kernel
theorem dX9_clearBank_58 : decode cX9_clearBank 58 = .ok (.iconst 0, 1) := by decide +kernel
theorem dX9_clearBank_59 : decode cX9_clearBank 59 = .ok (.iastore, 1) := by decide +kernel
theorem dX9_clearBank_60 : decode cX9_clearBank 60 = .ok (.aload_n 0, 1) := by decide +kernel
theorem dX9_clearBank_61 : decode cX9_clearBank 61 = .ok (.getfield 39, 3) := by decide +kernel
theorem dX9_clearBank_64 : decode cX9_clearBank 64 = .ok (.aload_n 0, 1) := by decide +kernel
theorem dX9_clearBank_65 : decode cX9_clearBank 65 = .ok (.getfield 240, 3) := by decide +kernel
theorem dX9_clearBank_68 : decode cX9_clearBank 68 = .ok (.iconst 0, 1) := by decide +kernel
theorem dX9_clearBank_69 : decode cX9_clearBank 69 = .ok (.iastore, 1) := by decide +kernel
theorem dX9_clearBank_70 : decode cX9_clearBank 70 = .ok (.aload_n 0, 1) := by decide +kernel
theorem dX9_clearBank_71 : decode cX9_clearBank 71 = .ok (.sipush 560, 3) := by decide +kernel
theorem dX9_clearBank_74 : decode cX9_clearBank 74 = .ok (.aload_n 0, 1) := by decide +kernel
theorem dX9_clearBank_75 : decode cX9_clearBank 75 = .ok (.getfield 240, 3) := by decide +kernel
theorem dX9_clearBank_78 : decode cX9_clearBank 78 = .ok (.imul, 1) := by decide +kernel
theorem dX9_clearBank_79 : decode cX9_clearBank 79 = .ok (.putfield 243, 3) := by decide +kernel
theorem dX9_clearBank_82 : decode cX9_clearBank 82 = .ok (.return_, 1) := by decide +kernel
theorem dX9_divisor_0 : decode cX9_divisor 0 = .ok (.iload_n 0, 1) := by decide +kernel
theorem dX9_divisor_1 : decode cX9_divisor 1 = .ok (.istore_n 2, 1) := by decide +kernel
theorem dX9_divisor_2 : decode cX9_divisor 2 = .ok (.iload_n 1, 1) := by decide +kernel
theorem dX9_divisor_3 : decode cX9_divisor 3 = .ok (.istore_n 3, 1) := by decide +kernel
theorem dX9_divisor_4 : decode cX9_divisor 4 = .ok (.iload_n 3, 1) := by decide +kernel
theorem dX9_divisor_5 : decode cX9_divisor 5 = .ok (.ifCond .le 16, 3) := by decide +kernel
theorem dX9_divisor_8 : decode cX9_divisor 8 = .ok (.iload_n 2, 1) := by decide +kernel
theorem dX9_divisor_9 : decode cX9_divisor 9 = .ok (.iload_n 3, 1) := by decide +kernel
theorem dX9_divisor_10 : decode cX9_divisor 10 = .ok (.irem, 1) := by decide +kernel
theorem dX9_divisor_11 : decode cX9_divisor 11 = .ok (.istore 4, 2) := by decide +kernel
theorem dX9_divisor_13 : decode cX9_divisor 13 = .ok (.iload_n 3, 1) := by decide +kernel
theorem dX9_divisor_14 : decode cX9_divisor 14 = .ok (.istore_n 2, 1) := by decide +kernel
theorem dX9_divisor_15 : decode cX9_divisor 15 = .ok (.iload 4, 2) := by decide +kernel
theorem dX9_divisor_17 : decode cX9_divisor 17 = .ok (.istore_n 3, 1) := by decide +kernel
theorem dX9_divisor_18 : decode cX9_divisor 18 = .ok (.goto (-14), 3) := by decide +kernel
theorem dX9_divisor_21 : decode cX9_divisor 21 = .ok (.iload_n 2, 1) := by decide +kernel
theorem dX9_divisor_22 : decode cX9_divisor 22 = .ok (.ireturn, 1) := by decide +kernel
theorem dX9_due_0 : decode cX9_due 0 = .ok (.aload_n 0, 1) := by decide +kernel
theorem dX9_due_1 : decode cX9_due 1 = .ok (.iload_n 1, 1) := by decide +kernel
theorem dX9_due_2 : decode cX9_due 2 = .ok (.invokevirtual 412, 3) := by decide +kernel
theorem dX9_due_5 : decode cX9_due 5 = .ok (.ifCond .eq 39, 3) := by decide +kernel
theorem dX9_due_44 : decode cX9_due 44 = .ok (.iconst (-1), 1) := by decide +kernel
theorem dX9_due_45 : decode cX9_due 45 = .ok (.ireturn, 1) := by decide +kernel
theorem dX9_earned_0 : decode cX9_earned 0 = .ok (.iconst 0, 1) := by decide +kernel
theorem dX9_earned_1 : decode cX9_earned 1 = .ok (.istore_n 1, 1) := by decide +kernel
theorem dX9_earned_2 : decode cX9_earned 2 = .ok (.iconst 0, 1) := by decide +kernel
theorem dX9_earned_3 : decode cX9_earned 3 = .ok (.istore_n 2, 1) := by decide +kernel
theorem dX9_earned_4 : decode cX9_earned 4 = .ok (.iload_n 2, 1) := by decide +kernel
theorem dX9_earned_5 : decode cX9_earned 5 = .ok (.aload_n 0, 1) := by decide +kernel
theorem dX9_earned_6 : decode cX9_earned 6 = .ok (.invokevirtual 351, 3) := by decide +kernel
theorem dX9_earned_9 : decode cX9_earned 9 = .ok (.if_icmp .ge 26, 3) := by decide +kernel
theorem dX9_earned_35 : decode cX9_earned 35 = .ok (.iload_n 1, 1) := by decide +kernel
theorem dX9_earned_36 : decode cX9_earned 36 = .ok (.ireturn, 1) := by decide +kernel
theorem dX9_end_0 : decode cX9_end 0 = .ok (.iload_n 1, 1) := by decide +kernel
theorem dX9_end_1 : decode cX9_end 1 = .ok (.ifCond .lt 11, 3) := by decide +kernel
theorem dX9_end_4 : decode cX9_end 4 = .ok (.iload_n 1, 1) := by decide +kernel
theorem dX9_end_5 : decode cX9_end 5 = .ok (.aload_n 0, 1) := by decide +kernel
theorem dX9_end_6 : decode cX9_end 6 = .ok (.getfield 246, 3) := by decide +kernel
theorem dX9_end_9 : decode cX9_end 9 = .ok (.if_icmp .le 5, 3) := by decide +kernel
theorem dX9_end_12 : decode cX9_end 12 = .ok (.iconst (-1), 1) := by decide +kernel
theorem dX9_end_13 : decode cX9_end 13 = .ok (.ireturn, 1) := by decide +kernel
theorem dX9_end_14 : decode cX9_end 14 = .ok (.aload_n 0, 1) := by decide +kernel
theorem dX9_end_15 : decode cX9_end 15 = .ok (.iload_n 1, 1) := by decide +kernel
theorem dX9_end_16 : decode cX9_end 16 = .ok (.putfield 246, 3) := by decide +kernel
theorem dX9_end_19 : decode cX9_end 19 = .ok (.iload_n 1, 1) := by decide +kernel
theorem dX9_end_20 : decode cX9_end 20 = .ok (.ireturn, 1) := by decide +kernel
theorem dX9_fashion_0 : decode cX9_fashion 0 = .ok (.iconst (-1), 1) := by decide +kernel
theorem dX9_fashion_1 : decode cX9_fashion 1 = .ok (.istore_n 1, 1) := by decide +kernel
theorem dX9_fashion_2 : decode cX9_fashion 2 = .ok (.iconst 0, 1) := by decide +kernel
theorem dX9_fashion_3 : decode cX9_fashion 3 = .ok (.istore_n 2, 1) := by decide +kernel
theorem dX9_fashion_4 : decode cX9_fashion 4 = .ok (.iconst 0, 1) := by decide +kernel
theorem dX9_fashion_5 : decode cX9_fashion 5 = .ok (.istore_n 3, 1) := by decide +kernel
theorem dX9_fashion_6 : decode cX9_fashion 6 = .ok (.iload_n 3, 1) := by decide +kernel
theorem dX9_fashion_7 : decode cX9_fashion 7 = .ok (.bipush 7, 2) := by decide +kernel
theorem dX9_fashion_9 : decode cX9_fashion 9 = .ok (.if_icmp .ge 87, 3) := by decide +kernel
theorem dX9_fashion_12 : decode cX9_fashion 12 = .ok (.iconst 0, 1) := by decide +kernel
theorem dX9_fashion_13 : decode cX9_fashion 13 = .ok (.istore 4, 2) := by decide +kernel
theorem dX9_fashion_15 : decode cX9_fashion 15 = .ok (.iconst 0, 1) := by decide +kernel
theorem dX9_fashion_16 : decode cX9_fashion 16 = .ok (.istore 5, 2) := by decide +kernel
theorem dX9_fashion_18 : decode cX9_fashion 18 = .ok (.iload 5, 2) := by decide +kernel
theorem dX9_fashion_20 : decode cX9_fashion 20 = .ok (.aload_n 0, 1) := by decide +kernel
theorem dX9_fashion_21 : decode cX9_fashion 21 = .ok (.invokevirtual 358, 3) := by decide +kernel
theorem dX9_fashion_24 : decode cX9_fashion 24 = .ok (.if_icmp .ge 52, 3) := by decide +kernel
theorem dX9_fashion_76 : decode cX9_fashion 76 = .ok (.iload 4, 2) := by decide +kernel
theorem dX9_fashion_78 : decode cX9_fashion 78 = .ok (.iload_n 2, 1) := by decide +kernel
theorem dX9_fashion_79 : decode cX9_fashion 79 = .ok (.if_icmp .gt 6, 3) := by decide +kernel
theorem dX9_fashion_82 : decode cX9_fashion 82 = .ok (.goto 8, 3) := by decide +kernel
theorem dX9_fashion_90 : decode cX9_fashion 90 = .ok (.iinc 3 1, 3) := by decide +kernel
theorem dX9_fashion_93 : decode cX9_fashion 93 = .ok (.goto (-87), 3) := by decide +kernel
theorem dX9_fashion_96 : decode cX9_fashion 96 = .ok (.iload_n 1, 1) := by decide +kernel
theorem dX9_fashion_97 : decode cX9_fashion 97 = .ok (.ireturn, 1) := by decide +kernel
theorem dX9_fault_0 : decode cX9_fault 0 = .ok (.iload_n 1, 1) := by decide +kernel
theorem dX9_fault_1 : decode cX9_fault 1 = .ok (.ifCond .ne 10, 3) := by decide +kernel
theorem dX9_fault_4 : decode cX9_fault 4 = .ok (.aload_n 0, 1) := by decide +kernel
theorem dX9_fault_5 : decode cX9_fault 5 = .ok (.getfield 140, 3) := by decide +kernel
theorem dX9_fault_8 : decode cX9_fault 8 = .ok (.goto 16, 3) := by decide +kernel
theorem dX9_fault_11 : decode cX9_fault 11 = .ok (.iload_n 1, 1) := by decide +kernel
theorem dX9_fault_12 : decode cX9_fault 12 = .ok (.iconst 1, 1) := by decide +kernel
theorem dX9_fault_13 : decode cX9_fault 13 = .ok (.if_icmp .ne 10, 3) := by decide +kernel
theorem dX9_fault_16 : decode cX9_fault 16 = .ok (.aload_n 0, 1) := by decide +kernel
theorem dX9_fault_17 : decode cX9_fault 17 = .ok (.getfield 16, 3) := by decide +kernel
theorem dX9_fault_20 : decode cX9_fault 20 = .ok (.goto 4, 3) := by decide +kernel
theorem dX9_fault_23 : decode cX9_fault 23 = .ok (.iconst (-1), 1) := by decide +kernel
theorem dX9_fault_24 : decode cX9_fault 24 = .ok (.ireturn, 1) := by decide +kernel
theorem dX9_favourite_0 : decode cX9_favourite 0 = .ok (.iconst (-1), 1) := by decide +kernel
theorem dX9_favourite_1 : decode cX9_favourite 1 = .ok (.istore_n 1, 1) := by decide +kernel
theorem dX9_favourite_2 : decode cX9_favourite 2 = .ok (.iconst 0, 1) := by decide +kernel
theorem dX9_favourite_3 : decode cX9_favourite 3 = .ok (.istore_n 2, 1) := by decide +kernel
theorem dX9_favourite_4 : decode cX9_favourite 4 = .ok (.iload_n 2, 1) := by decide +kernel
theorem dX9_favourite_5 : decode cX9_favourite 5 = .ok (.aload_n 0, 1) := by decide +kernel
theorem dX9_favourite_6 : decode cX9_favourite 6 = .ok (.invokevirtual 351, 3) := by decide +kernel
theorem dX9_favourite_9 : decode cX9_favourite 9 = .ok (.if_icmp .ge 34, 3) := by decide +kernel
theorem dX9_favourite_43 : decode cX9_favourite 43 = .ok (.iload_n 1, 1) := by decide +kernel
theorem dX9_favourite_44 : decode cX9_favourite 44 = .ok (.ireturn, 1) := by decide +kernel
theorem dX9_feed_0 : decode cX9_feed 0 = .ok (.aload_n 0, 1) := by decide +kernel
theorem dX9_feed_1 : decode cX9_feed 1 = .ok (.getfield 246, 3) := by decide +kernel
theorem dX9_feed_4 : decode cX9_feed 4 = .ok (.bipush 20, 2) := by decide +kernel
theorem dX9_feed_6 : decode cX9_feed 6 = .ok (.iadd, 1) := by decide +kernel
theorem dX9_feed_7 : decode cX9_feed 7 = .ok (.sipush 1600, 3) := by decide +kernel
theorem dX9_feed_10 : decode cX9_feed 10 = .ok (.if_icmp .le 5, 3) := by decide +kernel
theorem dX9_feed_15 : decode cX9_feed 15 = .ok (.iconst 0, 1) := by decide +kernel
theorem dX9_feed_16 : decode cX9_feed 16 = .ok (.istore 6, 2) := by decide +kernel
theorem dX9_feed_18 : decode cX9_feed 18 = .ok (.iload 6, 2) := by decide +kernel
theorem dX9_feed_20 : decode cX9_feed 20 = .ok (.bipush 20, 2) := by decide +kernel
theorem dX9_feed_22 : decode cX9_feed 22 = .ok (.if_icmp .ge 83, 3) := by decide +kernel
theorem dX9_feed_25 : decode cX9_feed 25 = .ok (.iload 6, 2) := by decide +kernel
theorem dX9_feed_27 : decode cX9_feed 27 = .ok (.iconst 4, 1) := by decide +kernel
theorem dX9_feed_28 : decode cX9_feed 28 = .ok (.if_icmp .ge 7, 3) := by decide +kernel
theorem dX9_feed_31 : decode cX9_feed 31 = .ok (.iload_n 1, 1) := by decide +kernel
theorem dX9_feed_32 : decode cX9_feed 32 = .ok (.goto 39, 3) := by decide +kernel
theorem dX9_feed_35 : decode cX9_feed 35 = .ok (.iload 6, 2) := by decide +kernel
theorem dX9_feed_37 : decode cX9_feed 37 = .ok (.bipush 8, 2) := by decide +kernel
theorem dX9_feed_39 : decode cX9_feed 39 = .ok (.if_icmp .ge 7, 3) := by decide +kernel
theorem dX9_feed_42 : decode cX9_feed 42 = .ok (.iload_n 2, 1) := by decide +kernel
theorem dX9_feed_43 : decode cX9_feed 43 = .ok (.goto 28, 3) := by decide +kernel
theorem dX9_feed_46 : decode cX9_feed 46 = .ok (.iload 6, 2) := by decide +kernel
theorem dX9_feed_48 : decode cX9_feed 48 = .ok (.bipush 12, 2) := by decide +kernel
theorem dX9_feed_50 : decode cX9_feed 50 = .ok (.if_icmp .ge 7, 3) := by decide +kernel
theorem dX9_feed_53 : decode cX9_feed 53 = .ok (.iload_n 3, 1) := by decide +kernel
theorem dX9_feed_54 : decode cX9_feed 54 = .ok (.goto 17, 3) := by decide +kernel
theorem dX9_feed_57 : decode cX9_feed 57 = .ok (.iload 6, 2) := by decide +kernel
theorem dX9_feed_59 : decode cX9_feed 59 = .ok (.bipush 16, 2) := by decide +kernel
theorem dX9_feed_61 : decode cX9_feed 61 = .ok (.if_icmp .ge 8, 3) := by decide +kernel
theorem dX9_feed_64 : decode cX9_feed 64 = .ok (.iload 4, 2) := by decide +kernel
theorem dX9_feed_66 : decode cX9_feed 66 = .ok (.goto 5, 3) := by decide +kernel
theorem dX9_feed_69 : decode cX9_feed 69 = .ok (.iload 5, 2) := by decide +kernel
theorem dX9_feed_71 : decode cX9_feed 71 = .ok (.istore 7, 2) := by decide +kernel
theorem dX9_feed_73 : decode cX9_feed 73 = .ok (.aload_n 0, 1) := by decide +kernel
theorem dX9_feed_74 : decode cX9_feed 74 = .ok (.getfield 7, 3) := by decide +kernel
theorem dX9_feed_77 : decode cX9_feed 77 = .ok (.aload_n 0, 1) := by decide +kernel
theorem dX9_feed_78 : decode cX9_feed 78 = .ok (.getfield 246, 3) := by decide +kernel
theorem dX9_feed_81 : decode cX9_feed 81 = .ok (.iload 6, 2) := by decide +kernel
theorem dX9_feed_83 : decode cX9_feed 83 = .ok (.iadd, 1) := by decide +kernel
theorem dX9_feed_84 : decode cX9_feed 84 = .ok (.iload 7, 2) := by decide +kernel
theorem dX9_feed_86 : decode cX9_feed 86 = .ok (.bipush 24, 2) := by decide +kernel
theorem dX9_feed_88 : decode cX9_feed 88 = .ok (.bipush 8, 2) := by decide +kernel
theorem dX9_feed_90 : decode cX9_feed 90 = .ok (.iload 6, 2) := by decide +kernel
theorem dX9_feed_92 : decode cX9_feed 92 = .ok (.iconst 3, 1) := by decide +kernel
theorem dX9_feed_93 : decode cX9_feed 93 = .ok (.iand, 1) := by decide +kernel
theorem dX9_feed_94 : decode cX9_feed 94 = .ok (.imul, 1) := by decide +kernel
theorem dX9_feed_95 : decode cX9_feed 95 = .ok (.isub, 1) := by decide +kernel
theorem dX9_feed_96 : decode cX9_feed 96 = .ok (.ishr, 1) := by decide +kernel
theorem dX9_feed_97 : decode cX9_feed 97 = .ok (.i2b, 1) := by decide +kernel
theorem dX9_feed_98 : decode cX9_feed 98 = .ok (.bastore, 1) := by decide +kernel
theorem dX9_feed_99 : decode cX9_feed 99 = .ok (.iinc 6 1, 3) := by decide +kernel
theorem dX9_feed_102 : decode cX9_feed 102 = .ok (.goto (-84), 3) := by decide +kernel
theorem dX9_feed_105 : decode cX9_feed 105 = .ok (.aload_n 0, 1) := by decide +kernel
theorem dX9_feed_106 : decode cX9_feed 106 = .ok (.dup, 1) := by decide +kernel
theorem dX9_feed_107 : decode cX9_feed 107 = .ok (.getfield 246, 3) := by decide +kernel
theorem dX9_feed_110 : decode cX9_feed 110 = .ok (.bipush 20, 2) := by decide +kernel
theorem dX9_feed_112 : decode cX9_feed 112 = .ok (.iadd, 1) := by decide +kernel
theorem dX9_feed_113 : decode cX9_feed 113 = .ok (.putfield 246, 3) := by decide +kernel
theorem dX9_feed_116 : decode cX9_feed 116 = .ok (.aload_n 0, 1) := by decide +kernel
theorem dX9_feed_117 : decode cX9_feed 117 = .ok (.getfield 246, 3) := by decide +kernel
theorem dX9_feed_120 : decode cX9_feed 120 = .ok (.ireturn, 1) := by decide +kernel
theorem dX9_fetch_0 : decode cX9_fetch 0 = .ok (.aload_n 0, 1) := by decide +kernel
theorem dX9_fetch_1 : decode cX9_fetch 1 = .ok (.iload_n 1, 1) := by decide +kernel
theorem dX9_fetch_2 : decode cX9_fetch 2 = .ok (.invokevirtual 412, 3) := by decide +kernel
theorem dX9_fetch_5 : decode cX9_fetch 5 = .ok (.ifCond .eq 11, 3) := by decide +kernel
theorem dX9_fetch_16 : decode cX9_fetch 16 = .ok (.iconst (-1), 1) := by decide +kernel
theorem dX9_fetch_17 : decode cX9_fetch 17 = .ok (.ireturn, 1) := by decide +kernel
theorem dX9_fill_0 : decode cX9_fill 0 = .ok (.aload_n 0, 1) := by decide +kernel
theorem dX9_fill_1 : decode cX9_fill 1 = .ok (.iload_n 1, 1) := by decide +kernel
theorem dX9_fill_2 : decode cX9_fill 2 = .ok (.invokevirtual 415, 3) := by decide +kernel
theorem dX9_fill_5 : decode cX9_fill 5 = .ok (.ifCond .eq 28, 3) := by decide +kernel
theorem dX9_fill_33 : decode cX9_fill 33 = .ok (.iconst (-1), 1) := by decide +kernel
theorem dX9_fill_34 : decode cX9_fill 34 = .ok (.ireturn, 1) := by decide +kernel
theorem dX9_find_0 : decode cX9_find 0 = .ok (.iload_n 1, 1) := by decide +kernel
theorem dX9_find_1 : decode cX9_find 1 = .ok (.invokestatic 434, 3) := by decide +kernel
theorem dX9_find_4 : decode cX9_find 4 = .ok (.ifCond .eq 17, 3) := by decide +kernel
theorem dX9_find_7 : decode cX9_find 7 = .ok (.iload_n 2, 1) := by decide +kernel
theorem dX9_find_8 : decode cX9_find 8 = .ok (.invokestatic 434, 3) := by decide +kernel
theorem dX9_find_11 : decode cX9_find 11 = .ok (.ifCond .eq 10, 3) := by decide +kernel
theorem dX9_find_14 : decode cX9_find 14 = .ok (.iload_n 3, 1) := by decide +kernel
theorem dX9_find_15 : decode cX9_find 15 = .ok (.invokestatic 434, 3) := by decide +kernel
theorem dX9_find_18 : decode cX9_find 18 = .ok (.ifCond .ne 5, 3) := by decide +kernel
theorem dX9_find_21 : decode cX9_find 21 = .ok (.iconst (-1), 1) := by decide +kernel
theorem dX9_find_22 : decode cX9_find 22 = .ok (.ireturn, 1) := by decide +kernel
theorem dX9_find_23 : decode cX9_find 23 = .ok (.iconst 0, 1) := by decide +kernel
theorem dX9_find_24 : decode cX9_find 24 = .ok (.istore 4, 2) := by decide +kernel
theorem dX9_find_26 : decode cX9_find 26 = .ok (.iconst 0, 1) := by decide +kernel
theorem dX9_find_27 : decode cX9_find 27 = .ok (.istore 5, 2) := by decide +kernel
theorem dX9_find_29 : decode cX9_find 29 = .ok (.iload 5, 2) := by decide +kernel
theorem dX9_find_31 : decode cX9_find 31 = .ok (.aload_n 0, 1) := by decide +kernel
theorem dX9_find_32 : decode cX9_find 32 = .ok (.invokevirtual 351, 3) := by decide +kernel
theorem dX9_find_35 : decode cX9_find 35 = .ok (.if_icmp .ge 30, 3) := by decide +kernel
theorem dX9_find_65 : decode cX9_find 65 = .ok (.iload 4, 2) := by decide +kernel
theorem dX9_find_67 : decode cX9_find 67 = .ok (.ireturn, 1) := by decide +kernel
theorem dX9_frayed_0 : decode cX9_frayed 0 = .ok (.aload_n 0, 1) := by decide +kernel
theorem dX9_frayed_1 : decode cX9_frayed 1 = .ok (.iload_n 1, 1) := by decide +kernel
theorem dX9_frayed_2 : decode cX9_frayed 2 = .ok (.invokevirtual 412, 3) := by decide +kernel
theorem dX9_frayed_5 : decode cX9_frayed 5 = .ok (.ifCond .eq 13, 3) := by decide +kernel
theorem dX9_frayed_18 : decode cX9_frayed 18 = .ok (.iconst (-1), 1) := by decide +kernel
theorem dX9_frayed_19 : decode cX9_frayed 19 = .ok (.ireturn, 1) := by decide +kernel
theorem dX9_give_0 : decode cX9_give 0 = .ok (.aload_n 0, 1) := by decide +kernel
theorem dX9_give_1 : decode cX9_give 1 = .ok (.iload_n 1, 1) := by decide +kernel
theorem dX9_give_2 : decode cX9_give 2 = .ok (.invokevirtual 412, 3) := by decide +kernel
theorem dX9_give_5 : decode cX9_give 5 = .ok (.ifCond .eq 14, 3) := by decide +kernel
theorem dX9_give_19 : decode cX9_give 19 = .ok (.iconst (-1), 1) := by decide +kernel
theorem dX9_give_20 : decode cX9_give 20 = .ok (.ireturn, 1) := by decide +kernel
theorem dX9_glad_0 : decode cX9_glad 0 = .ok (.aload_n 0, 1) := by decide +kernel
theorem dX9_glad_1 : decode cX9_glad 1 = .ok (.iload_n 1, 1) := by decide +kernel
theorem dX9_glad_2 : decode cX9_glad 2 = .ok (.invokevirtual 415, 3) := by decide +kernel
theorem dX9_glad_5 : decode cX9_glad 5 = .ok (.ifCond .eq 20, 3) := by decide +kernel
theorem dX9_glad_25 : decode cX9_glad 25 = .ok (.ldc_w 427, 3) := by decide +kernel
theorem dX9_glad_28 : decode cX9_glad 28 = .ok (.ireturn, 1) := by decide +kernel
theorem dX9_goOn_0 : decode cX9_goOn 0 = .ok (.aload_n 0, 1) := by decide +kernel
theorem dX9_goOn_1 : decode cX9_goOn 1 = .ok (.aload_n 0, 1) := by decide +kernel
theorem dX9_goOn_2 : decode cX9_goOn 2 = .ok (.getfield 181, 3) := by decide +kernel
theorem dX9_goOn_5 : decode cX9_goOn 5 = .ok (.putfield 184, 3) := by decide +kernel
theorem dX9_goOn_8 : decode cX9_goOn 8 = .ok (.aload_n 0, 1) := by decide +kernel
theorem dX9_goOn_9 : decode cX9_goOn 9 = .ok (.getfield 184, 3) := by decide +kernel
theorem dX9_goOn_12 : decode cX9_goOn 12 = .ok (.aload_n 0, 1) := by decide +kernel
theorem dX9_goOn_13 : decode cX9_goOn 13 = .ok (.getfield 137, 3) := by decide +kernel
theorem dX9_goOn_16 : decode cX9_goOn 16 = .ok (.if_icmp .ge 42, 3) := by decide +kernel
theorem dX9_goOn_58 : decode cX9_goOn 58 = .ok (.aload_n 0, 1) := by decide +kernel
theorem dX9_goOn_59 : decode cX9_goOn 59 = .ok (.aload_n 0, 1) := by decide +kernel
theorem dX9_goOn_60 : decode cX9_goOn 60 = .ok (.getfield 184, 3) := by decide +kernel
theorem dX9_goOn_63 : decode cX9_goOn 63 = .ok (.invokevirtual 187, 3) := by decide +kernel
theorem dX9_goOn_66 : decode cX9_goOn 66 = .ok (.istore_n 1, 1) := by decide +kernel
theorem dX9_goOn_67 : decode cX9_goOn 67 = .ok (.aload_n 0, 1) := by decide +kernel
theorem dX9_goOn_68 : decode cX9_goOn 68 = .ok (.aload_n 0, 1) := by decide +kernel
theorem dX9_goOn_69 : decode cX9_goOn 69 = .ok (.getfield 184, 3) := by decide +kernel
theorem dX9_goOn_72 : decode cX9_goOn 72 = .ok (.iconst 1, 1) := by decide +kernel
theorem dX9_goOn_73 : decode cX9_goOn 73 = .ok (.iadd, 1) := by decide +kernel
theorem dX9_goOn_74 : decode cX9_goOn 74 = .ok (.putfield 181, 3) := by decide +kernel
theorem dX9_goOn_77 : decode cX9_goOn 77 = .ok (.aload_n 0, 1) := by decide +kernel
theorem dX9_goOn_78 : decode cX9_goOn 78 = .ok (.getfield 184, 3) := by decide +kernel
theorem dX9_goOn_81 : decode cX9_goOn 81 = .ok (.aload_n 0, 1) := by decide +kernel
theorem dX9_goOn_82 : decode cX9_goOn 82 = .ok (.getfield 137, 3) := by decide +kernel
theorem dX9_goOn_85 : decode cX9_goOn 85 = .ok (.if_icmp .lt 27, 3) := by decide +kernel
theorem dX9_goOn_88 : decode cX9_goOn 88 = .ok (.aload_n 0, 1) := by decide +kernel
theorem dX9_goOn_89 : decode cX9_goOn 89 = .ok (.iconst 0, 1) := by decide +kernel
theorem dX9_goOn_90 : decode cX9_goOn 90 = .ok (.putfield 191, 3) := by decide +kernel
theorem dX9_goOn_93 : decode cX9_goOn 93 = .ok (.aload_n 0, 1) := by decide +kernel
theorem dX9_goOn_94 : decode cX9_goOn 94 = .ok (.aload_n 0, 1) := by decide +kernel
theorem dX9_goOn_95 : decode cX9_goOn 95 = .ok (.getfield 137, 3) := by decide +kernel
theorem dX9_goOn_98 : decode cX9_goOn 98 = .ok (.putfield 184, 3) := by decide +kernel
theorem dX9_goOn_101 : decode cX9_goOn 101 = .ok (.aload_n 0, 1) := by decide +kernel
theorem dX9_goOn_102 : decode cX9_goOn 102 = .ok (.aload_n 0, 1) := by decide +kernel
theorem dX9_goOn_103 : decode cX9_goOn 103 = .ok (.getfield 137, 3) := by decide +kernel
theorem dX9_goOn_106 : decode cX9_goOn 106 = .ok (.putfield 181, 3) := by decide +kernel
theorem dX9_goOn_109 : decode cX9_goOn 109 = .ok (.goto 268, 3) := by decide +kernel
theorem dX9_goOn_377 : decode cX9_goOn 377 = .ok (.return_, 1) := by decide +kernel
theorem dX9_goWeek_0 : decode cX9_goWeek 0 = .ok (.iconst 0, 1) := by decide +kernel
theorem dX9_goWeek_1 : decode cX9_goWeek 1 = .ok (.istore_n 2, 1) := by decide +kernel
theorem dX9_goWeek_2 : decode cX9_goWeek 2 = .ok (.iconst 0, 1) := by decide +kernel
theorem dX9_goWeek_3 : decode cX9_goWeek 3 = .ok (.istore_n 3, 1) := by decide +kernel
theorem dX9_goWeek_4 : decode cX9_goWeek 4 = .ok (.iload_n 3, 1) := by decide +kernel
theorem dX9_goWeek_5 : decode cX9_goWeek 5 = .ok (.aload_n 0, 1) := by decide +kernel
theorem dX9_goWeek_6 : decode cX9_goWeek 6 = .ok (.invokevirtual 358, 3) := by decide +kernel
theorem dX9_goWeek_9 : decode cX9_goWeek 9 = .ok (.if_icmp .ge 139, 3) := by decide +kernel
theorem dX9_goWeek_148 : decode cX9_goWeek 148 = .ok (.aload_n 0, 1) := by decide +kernel
theorem dX9_goWeek_149 : decode cX9_goWeek 149 = .ok (.getfield 88, 3) := by decide +kernel
theorem dX9_goWeek_152 : decode cX9_goWeek 152 = .ok (.bipush 24, 2) := by decide +kernel
theorem dX9_goWeek_154 : decode cX9_goWeek 154 = .ok (.dup2, 1) := by decide +kernel
theorem dX9_goWeek_155 : decode cX9_goWeek 155 = .ok (.iaload, 1) := by decide +kernel
theorem dX9_goWeek_156 : decode cX9_goWeek 156 = .ok (.iconst 1, 1) := by decide +kernel
theorem dX9_goWeek_157 : decode cX9_goWeek 157 = .ok (.iadd, 1) := by decide +kernel
theorem dX9_goWeek_158 : decode cX9_goWeek 158 = .ok (.iastore, 1) := by decide +kernel
theorem dX9_goWeek_159 : decode cX9_goWeek 159 = .ok (.iload_n 2, 1) := by decide +kernel
theorem dX9_goWeek_160 : decode cX9_goWeek 160 = .ok (.ireturn, 1) := by decide +kernel
theorem dX9_homes_0 : decode cX9_homes 0 = .ok (.aload_n 0, 1) := by decide +kernel
theorem dX9_homes_1 : decode cX9_homes 1 = .ok (.getfield 27, 3) := by decide +kernel
theorem dX9_homes_4 : decode cX9_homes 4 = .ok (.aload_n 0, 1) := by decide +kernel
theorem dX9_homes_5 : decode cX9_homes 5 = .ok (.getfield 249, 3) := by decide +kernel
theorem dX9_homes_8 : decode cX9_homes 8 = .ok (.iaload, 1) := by decide +kernel
theorem dX9_homes_9 : decode cX9_homes 9 = .ok (.ireturn, 1) := by decide +kernel
theorem dX9_house_0 : decode cX9_house 0 = .ok (.aload_n 0, 1) := by decide +kernel
theorem dX9_house_1 : decode cX9_house 1 = .ok (.iload_n 1, 1) := by decide +kernel
theorem dX9_house_2 : decode cX9_house 2 = .ok (.invokevirtual 415, 3) := by decide +kernel
theorem dX9_house_5 : decode cX9_house 5 = .ok (.ifCond .ne 6, 3) := by decide +kernel
theorem dX9_house_8 : decode cX9_house 8 = .ok (.bipush (-2), 2) := by decide +kernel
theorem dX9_house_10 : decode cX9_house 10 = .ok (.ireturn, 1) := by decide +kernel
theorem dX9_hum_0 : decode cX9_hum 0 = .ok (.iload_n 1, 1) := by decide +kernel
theorem dX9_hum_1 : decode cX9_hum 1 = .ok (.invokestatic 434, 3) := by decide +kernel
theorem dX9_hum_4 : decode cX9_hum 4 = .ok (.ifCond .eq 17, 3) := by decide +kernel
theorem dX9_hum_7 : decode cX9_hum 7 = .ok (.iload_n 2, 1) := by decide +kernel
theorem dX9_hum_8 : decode cX9_hum 8 = .ok (.invokestatic 434, 3) := by decide +kernel
theorem dX9_hum_11 : decode cX9_hum 11 = .ok (.ifCond .eq 10, 3) := by decide +kernel
theorem dX9_hum_14 : decode cX9_hum 14 = .ok (.iload_n 3, 1) := by decide +kernel
theorem dX9_hum_15 : decode cX9_hum 15 = .ok (.invokestatic 434, 3) := by decide +kernel
theorem dX9_hum_18 : decode cX9_hum 18 = .ok (.ifCond .ne 5, 3) := by decide +kernel
theorem dX9_hum_21 : decode cX9_hum 21 = .ok (.iconst (-1), 1) := by decide +kernel
theorem dX9_hum_22 : decode cX9_hum 22 = .ok (.ireturn, 1) := by decide +kernel
theorem dX9_hum_23 : decode cX9_hum 23 = .ok (.iconst 0, 1) := by decide +kernel
theorem dX9_hum_24 : decode cX9_hum 24 = .ok (.istore 4, 2) := by decide +kernel
theorem dX9_hum_26 : decode cX9_hum 26 = .ok (.iconst 0, 1) := by decide +kernel
theorem dX9_hum_27 : decode cX9_hum 27 = .ok (.istore 5, 2) := by decide +kernel
theorem dX9_hum_29 : decode cX9_hum 29 = .ok (.iload 5, 2) := by decide +kernel
theorem dX9_hum_31 : decode cX9_hum 31 = .ok (.aload_n 0, 1) := by decide +kernel
theorem dX9_hum_32 : decode cX9_hum 32 = .ok (.invokevirtual 351, 3) := by decide +kernel
theorem dX9_hum_35 : decode cX9_hum 35 = .ok (.if_icmp .ge 38, 3) := by decide +kernel
theorem dX9_hum_73 : decode cX9_hum 73 = .ok (.iload 4, 2) := by decide +kernel
theorem dX9_hum_75 : decode cX9_hum 75 = .ok (.ireturn, 1) := by decide +kernel
theorem dX9_idle_0 : decode cX9_idle 0 = .ok (.iconst 0, 1) := by decide +kernel
theorem dX9_idle_1 : decode cX9_idle 1 = .ok (.istore_n 1, 1) := by decide +kernel
theorem dX9_idle_2 : decode cX9_idle 2 = .ok (.iconst 0, 1) := by decide +kernel
theorem dX9_idle_3 : decode cX9_idle 3 = .ok (.istore_n 2, 1) := by decide +kernel
theorem dX9_idle_4 : decode cX9_idle 4 = .ok (.iload_n 2, 1) := by decide +kernel
theorem dX9_idle_5 : decode cX9_idle 5 = .ok (.aload_n 0, 1) := by decide +kernel
theorem dX9_idle_6 : decode cX9_idle 6 = .ok (.invokevirtual 358, 3) := by decide +kernel
theorem dX9_idle_9 : decode cX9_idle 9 = .ok (.if_icmp .ge 23, 3) := by decide +kernel
theorem dX9_idle_32 : decode cX9_idle 32 = .ok (.iload_n 1, 1) := by decide +kernel
theorem dX9_idle_33 : decode cX9_idle 33 = .ok (.ireturn, 1) := by decide +kernel
theorem dX9_image_0 : decode cX9_image 0 = .ok (.iload_n 1, 1) := by decide +kernel
theorem dX9_image_1 : decode cX9_image 1 = .ok (.iconst 0, 1) := by decide +kernel
theorem dX9_image_2 : decode cX9_image 2 = .ok (.iconst 2, 1) := by decide +kernel
theorem dX9_image_3 : decode cX9_image 3 = .ok (.invokestatic 354, 3) := by decide +kernel
theorem dX9_image_6 : decode cX9_image 6 = .ok (.ifCond .ne 5, 3) := by decide +kernel
theorem dX9_image_9 : decode cX9_image 9 = .ok (.iconst (-1), 1) := by decide +kernel
theorem dX9_image_10 : decode cX9_image 10 = .ok (.ireturn, 1) := by decide +kernel
theorem dX9_image_11 : decode cX9_image 11 = .ok (.iconst 0, 1) := by decide +kernel
theorem dX9_image_12 : decode cX9_image 12 = .ok (.istore_n 2, 1) := by decide +kernel
theorem dX9_image_13 : decode cX9_image 13 = .ok (.iload_n 2, 1) := by decide +kernel
theorem dX9_image_14 : decode cX9_image 14 = .ok (.bipush 26, 2) := by decide +kernel
theorem dX9_image_16 : decode cX9_image 16 = .ok (.if_icmp .ge 26, 3) := by decide +kernel
theorem dX9_image_19 : decode cX9_image 19 = .ok (.aload_n 0, 1) := by decide +kernel
theorem dX9_image_20 : decode cX9_image 20 = .ok (.getfield 125, 3) := by decide +kernel
theorem dX9_image_23 : decode cX9_image 23 = .ok (.bipush 26, 2) := by decide +kernel
theorem dX9_image_25 : decode cX9_image 25 = .ok (.iload_n 1, 1) := by decide +kernel
theorem dX9_image_26 : decode cX9_image 26 = .ok (.imul, 1) := by decide +kernel
theorem dX9_image_27 : decode cX9_image 27 = .ok (.iload_n 2, 1) := by decide +kernel
theorem dX9_image_28 : decode cX9_image 28 = .ok (.iadd, 1) := by decide +kernel
theorem dX9_image_29 : decode cX9_image 29 = .ok (.aload_n 0, 1) := by decide +kernel
theorem dX9_image_30 : decode cX9_image 30 = .ok (.getfield 88, 3) := by decide +kernel
theorem dX9_image_33 : decode cX9_image 33 = .ok (.iload_n 2, 1) := by decide +kernel
theorem dX9_image_34 : decode cX9_image 34 = .ok (.iaload, 1) := by decide +kernel
theorem dX9_image_35 : decode cX9_image 35 = .ok (.iastore, 1) := by decide +kernel
theorem dX9_image_36 : decode cX9_image 36 = .ok (.iinc 2 1, 3) := by decide +kernel
theorem dX9_image_39 : decode cX9_image 39 = .ok (.goto (-26), 3) := by decide +kernel
theorem dX9_image_42 : decode cX9_image 42 = .ok (.aload_n 0, 1) := by decide +kernel
theorem dX9_image_43 : decode cX9_image 43 = .ok (.getfield 128, 3) := by decide +kernel
theorem dX9_image_46 : decode cX9_image 46 = .ok (.iload_n 1, 1) := by decide +kernel
theorem dX9_image_47 : decode cX9_image 47 = .ok (.iconst 1, 1) := by decide +kernel
theorem dX9_image_48 : decode cX9_image 48 = .ok (.bastore, 1) := by decide +kernel
theorem dX9_image_49 : decode cX9_image 49 = .ok (.aload_n 0, 1) := by decide +kernel
theorem dX9_image_50 : decode cX9_image 50 = .ok (.getfield 88, 3) := by decide +kernel
theorem dX9_image_53 : decode cX9_image 53 = .ok (.bipush 24, 2) := by decide +kernel
theorem dX9_image_55 : decode cX9_image 55 = .ok (.iaload, 1) := by decide +kernel
theorem dX9_image_56 : decode cX9_image 56 = .ok (.ireturn, 1) := by decide +kernel
theorem dX9_init_0 : decode cX9_init 0 = .ok (.aload_n 0, 1) := by decide +kernel
theorem dX9_init_1 : decode cX9_init 1 = .ok (.invokespecial 1, 3) := by decide +kernel
theorem dX9_init_4 : decode cX9_init 4 = .ok (.aload_n 0, 1) := by decide +kernel
theorem dX9_init_5 : decode cX9_init 5 = .ok (.sipush 1620, 3) := by decide +kernel
theorem dX9_init_8 : decode cX9_init 8 = .ok (.newarray .byte, 2) := by decide +kernel
theorem dX9_init_10 : decode cX9_init 10 = .ok (.putfield 7, 3) := by decide +kernel
theorem dX9_init_13 : decode cX9_init 13 = .ok (.aload_n 0, 1) := by decide +kernel
theorem dX9_init_14 : decode cX9_init 14 = .ok (.sipush 1600, 3) := by decide +kernel
theorem dX9_init_17 : decode cX9_init 17 = .ok (.newarray .byte, 2) := by decide +kernel
theorem dX9_init_19 : decode cX9_init 19 = .ok (.putfield 13, 3) := by decide +kernel
theorem dX9_init_22 : decode cX9_init 22 = .ok (.aload_n 0, 1) := by decide +kernel
theorem dX9_init_23 : decode cX9_init 23 = .ok (.iconst (-1), 1) := by decide +kernel
theorem dX9_init_24 : decode cX9_init 24 = .ok (.putfield 16, 3) := by decide +kernel
theorem dX9_init_27 : decode cX9_init 27 = .ok (.aload_n 0, 1) := by decide +kernel
theorem dX9_init_28 : decode cX9_init 28 = .ok (.iconst 2, 1) := by decide +kernel
theorem dX9_init_29 : decode cX9_init 29 = .ok (.newarray .int, 2) := by decide +kernel
theorem dX9_init_31 : decode cX9_init 31 = .ok (.putfield 20, 3) := by decide +kernel
theorem dX9_init_34 : decode cX9_init 34 = .ok (.aload_n 0, 1) := by decide +kernel
theorem dX9_init_35 : decode cX9_init 35 = .ok (.iconst 2, 1) := by decide +kernel
theorem dX9_init_36 : decode cX9_init 36 = .ok (.newarray .int, 2) := by decide +kernel
theorem dX9_init_38 : decode cX9_init 38 = .ok (.putfield 24, 3) := by decide +kernel
theorem dX9_init_41 : decode cX9_init 41 = .ok (.aload_n 0, 1) := by decide +kernel
theorem dX9_init_42 : decode cX9_init 42 = .ok (.iconst 2, 1) := by decide +kernel
theorem dX9_init_43 : decode cX9_init 43 = .ok (.newarray .int, 2) := by decide +kernel
theorem dX9_init_45 : decode cX9_init 45 = .ok (.putfield 27, 3) := by decide +kernel
theorem dX9_init_48 : decode cX9_init 48 = .ok (.aload_n 0, 1) := by decide +kernel
theorem dX9_init_49 : decode cX9_init 49 = .ok (.iconst 2, 1) := by decide +kernel
theorem dX9_init_50 : decode cX9_init 50 = .ok (.newarray .int, 2) := by decide +kernel
theorem dX9_init_52 : decode cX9_init 52 = .ok (.putfield 30, 3) := by decide +kernel
theorem dX9_init_55 : decode cX9_init 55 = .ok (.aload_n 0, 1) := by decide +kernel
theorem dX9_init_56 : decode cX9_init 56 = .ok (.iconst 2, 1) := by decide +kernel
theorem dX9_init_57 : decode cX9_init 57 = .ok (.newarray .int, 2) := by decide +kernel
theorem dX9_init_59 : decode cX9_init 59 = .ok (.putfield 33, 3) := by decide +kernel
theorem dX9_init_62 : decode cX9_init 62 = .ok (.aload_n 0, 1) := by decide +kernel
theorem dX9_init_63 : decode cX9_init 63 = .ok (.iconst 2, 1) := by decide +kernel
theorem dX9_init_64 : decode cX9_init 64 = .ok (.newarray .int, 2) := by decide +kernel
theorem dX9_init_66 : decode cX9_init 66 = .ok (.putfield 36, 3) := by decide +kernel
theorem dX9_init_69 : decode cX9_init 69 = .ok (.aload_n 0, 1) := by decide +kernel
theorem dX9_init_70 : decode cX9_init 70 = .ok (.iconst 2, 1) := by decide +kernel
theorem dX9_init_71 : decode cX9_init 71 = .ok (.newarray .int, 2) := by decide +kernel
theorem dX9_init_73 : decode cX9_init 73 = .ok (.putfield 39, 3) := by decide +kernel
theorem dX9_init_76 : decode cX9_init 76 = .ok (.aload_n 0, 1) := by decide +kernel
theorem dX9_init_77 : decode cX9_init 77 = .ok (.bipush 10, 2) := by decide +kernel
theorem dX9_init_79 : decode cX9_init 79 = .ok (.newarray .int, 2) := by decide +kernel
theorem dX9_init_81 : decode cX9_init 81 = .ok (.putfield 42, 3) := by decide +kernel
theorem dX9_init_84 : decode cX9_init 84 = .ok (.aload_n 0, 1) := by decide +kernel
theorem dX9_init_85 : decode cX9_init 85 = .ok (.bipush 10, 2) := by decide +kernel
theorem dX9_init_87 : decode cX9_init 87 = .ok (.newarray .int, 2) := by decide +kernel
theorem dX9_init_89 : decode cX9_init 89 = .ok (.putfield 45, 3) := by decide +kernel
theorem dX9_init_92 : decode cX9_init 92 = .ok (.aload_n 0, 1) := by decide +kernel
theorem dX9_init_93 : decode cX9_init 93 = .ok (.bipush 80, 2) := by decide +kernel
theorem dX9_init_95 : decode cX9_init 95 = .ok (.newarray .int, 2) := by decide +kernel
theorem dX9_init_97 : decode cX9_init 97 = .ok (.putfield 48, 3) := by decide +kernel
theorem dX9_init_100 : decode cX9_init 100 = .ok (.aload_n 0, 1) := by decide +kernel
theorem dX9_init_101 : decode cX9_init 101 = .ok (.bipush 8, 2) := by decide +kernel
theorem dX9_init_103 : decode cX9_init 103 = .ok (.newarray .int, 2) := by decide +kernel
theorem dX9_init_105 : decode cX9_init 105 = .ok (.putfield 51, 3) := by decide +kernel
theorem dX9_init_108 : decode cX9_init 108 = .ok (.aload_n 0, 1) := by decide +kernel
theorem dX9_init_109 : decode cX9_init 109 = .ok (.bipush 8, 2) := by decide +kernel
theorem dX9_init_111 : decode cX9_init 111 = .ok (.newarray .int, 2) := by decide +kernel
theorem dX9_init_113 : decode cX9_init 113 = .ok (.putfield 54, 3) := by decide +kernel
theorem dX9_init_116 : decode cX9_init 116 = .ok (.aload_n 0, 1) := by decide +kernel
theorem dX9_init_117 : decode cX9_init 117 = .ok (.bipush 24, 2) := by decide +kernel
theorem dX9_init_119 : decode cX9_init 119 = .ok (.newarray .int, 2) := by decide +kernel
theorem dX9_init_121 : decode cX9_init 121 = .ok (.putfield 57, 3) := by decide +kernel
theorem dX9_init_124 : decode cX9_init 124 = .ok (.aload_n 0, 1) := by decide +kernel
theorem dX9_init_125 : decode cX9_init 125 = .ok (.iconst 2, 1) := by decide +kernel
theorem dX9_init_126 : decode cX9_init 126 = .ok (.newarray .int, 2) := by decide +kernel
theorem dX9_init_128 : decode cX9_init 128 = .ok (.putfield 60, 3) := by decide +kernel
theorem dX9_init_131 : decode cX9_init 131 = .ok (.aload_n 0, 1) := by decide +kernel
theorem dX9_init_132 : decode cX9_init 132 = .ok (.iconst 2, 1) := by decide +kernel
theorem dX9_init_133 : decode cX9_init 133 = .ok (.newarray .int, 2) := by decide +kernel
theorem dX9_init_135 : decode cX9_init 135 = .ok (.putfield 63, 3) := by decide +kernel
theorem dX9_init_138 : decode cX9_init 138 = .ok (.aload_n 0, 1) := by decide +kernel
theorem dX9_init_139 : decode cX9_init 139 = .ok (.bipush 10, 2) := by decide +kernel
theorem dX9_init_141 : decode cX9_init 141 = .ok (.newarray .long, 2) := by decide +kernel
theorem dX9_init_143 : decode cX9_init 143 = .ok (.putfield 66, 3) := by decide +kernel
theorem dX9_init_146 : decode cX9_init 146 = .ok (.aload_n 0, 1) := by decide +kernel
theorem dX9_init_147 : decode cX9_init 147 = .ok (.bipush 8, 2) := by decide +kernel
theorem dX9_init_149 : decode cX9_init 149 = .ok (.newarray .long, 2) := by decide +kernel
theorem dX9_init_151 : decode cX9_init 151 = .ok (.putfield 70, 3) := by decide +kernel
theorem dX9_init_154 : decode cX9_init 154 = .ok (.aload_n 0, 1) := by decide +kernel
theorem dX9_init_155 : decode cX9_init 155 = .ok (.sipush 1120, 3) := by decide +kernel
theorem dX9_init_158 : decode cX9_init 158 = .ok (.newarray .int, 2) := by decide +kernel
theorem dX9_init_160 : decode cX9_init 160 = .ok (.putfield 73, 3) := by decide +kernel
theorem dX9_init_163 : decode cX9_init 163 = .ok (.aload_n 0, 1) := by decide +kernel
theorem dX9_init_164 : decode cX9_init 164 = .ok (.sipush 1120, 3) := by decide +kernel
theorem dX9_init_167 : decode cX9_init 167 = .ok (.newarray .int, 2) := by decide +kernel
theorem dX9_init_169 : decode cX9_init 169 = .ok (.putfield 76, 3) := by decide +kernel
theorem dX9_init_172 : decode cX9_init 172 = .ok (.aload_n 0, 1) := by decide +kernel
theorem dX9_init_173 : decode cX9_init 173 = .ok (.bipush 90, 2) := by decide +kernel
theorem dX9_init_175 : decode cX9_init 175 = .ok (.newarray .int, 2) := by decide +kernel
theorem dX9_init_177 : decode cX9_init 177 = .ok (.putfield 79, 3) := by decide +kernel
theorem dX9_init_180 : decode cX9_init 180 = .ok (.aload_n 0, 1) := by decide +kernel
theorem dX9_init_181 : decode cX9_init 181 = .ok (.bipush 90, 2) := by decide +kernel
theorem dX9_init_183 : decode cX9_init 183 = .ok (.newarray .int, 2) := by decide +kernel
theorem dX9_init_185 : decode cX9_init 185 = .ok (.putfield 82, 3) := by decide +kernel
theorem dX9_init_188 : decode cX9_init 188 = .ok (.aload_n 0, 1) := by decide +kernel
theorem dX9_init_189 : decode cX9_init 189 = .ok (.bipush 60, 2) := by decide +kernel
theorem dX9_init_191 : decode cX9_init 191 = .ok (.newarray .int, 2) := by decide +kernel
theorem dX9_init_193 : decode cX9_init 193 = .ok (.putfield 85, 3) := by decide +kernel
theorem dX9_init_196 : decode cX9_init 196 = .ok (.aload_n 0, 1) := by decide +kernel
theorem dX9_init_197 : decode cX9_init 197 = .ok (.bipush 26, 2) := by decide +kernel
theorem dX9_init_199 : decode cX9_init 199 = .ok (.newarray .int, 2) := by decide +kernel
theorem dX9_init_201 : decode cX9_init 201 = .ok (.putfield 88, 3) := by decide +kernel
theorem dX9_init_204 : decode cX9_init 204 = .ok (.aload_n 0, 1) := by decide +kernel
theorem dX9_init_205 : decode cX9_init 205 = .ok (.bipush 26, 2) := by decide +kernel
theorem dX9_init_207 : decode cX9_init 207 = .ok (.newarray .int, 2) := by decide +kernel
theorem dX9_init_209 : decode cX9_init 209 = .ok (.putfield 91, 3) := by decide +kernel
theorem dX9_init_212 : decode cX9_init 212 = .ok (.aload_n 0, 1) := by decide +kernel
theorem dX9_init_213 : decode cX9_init 213 = .ok (.sipush 1066, 3) := by decide +kernel
theorem dX9_init_216 : decode cX9_init 216 = .ok (.newarray .int, 2) := by decide +kernel
theorem dX9_init_218 : decode cX9_init 218 = .ok (.putfield 94, 3) := by decide +kernel
theorem dX9_init_221 : decode cX9_init 221 = .ok (.aload_n 0, 1) := by decide +kernel
theorem dX9_init_222 : decode cX9_init 222 = .ok (.iconst 4, 1) := by decide +kernel
theorem dX9_init_223 : decode cX9_init 223 = .ok (.newarray .int, 2) := by decide +kernel
theorem dX9_init_225 : decode cX9_init 225 = .ok (.putfield 97, 3) := by decide +kernel
theorem dX9_init_228 : decode cX9_init 228 = .ok (.aload_n 0, 1) := by decide +kernel
theorem dX9_init_229 : decode cX9_init 229 = .ok (.sipush 1715, 3) := by decide +kernel
theorem dX9_init_232 : decode cX9_init 232 = .ok (.newarray .int, 2) := by decide +kernel
theorem dX9_init_234 : decode cX9_init 234 = .ok (.putfield 100, 3) := by decide +kernel
theorem dX9_init_237 : decode cX9_init 237 = .ok (.aload_n 0, 1) := by decide +kernel
theorem dX9_init_238 : decode cX9_init 238 = .ok (.bipush 30, 2) := by decide +kernel
theorem dX9_init_240 : decode cX9_init 240 = .ok (.newarray .int, 2) := by decide +kernel
theorem dX9_init_242 : decode cX9_init 242 = .ok (.putfield 103, 3) := by decide +kernel
theorem dX9_init_245 : decode cX9_init 245 = .ok (.aload_n 0, 1) := by decide +kernel
theorem dX9_init_246 : decode cX9_init 246 = .ok (.bipush 30, 2) := by decide +kernel
theorem dX9_init_248 : decode cX9_init 248 = .ok (.newarray .int, 2) := by decide +kernel
theorem dX9_init_250 : decode cX9_init 250 = .ok (.putfield 106, 3) := by decide +kernel
theorem dX9_init_253 : decode cX9_init 253 = .ok (.aload_n 0, 1) := by decide +kernel
theorem dX9_init_254 : decode cX9_init 254 = .ok (.bipush 30, 2) := by decide +kernel
theorem dX9_init_256 : decode cX9_init 256 = .ok (.newarray .int, 2) := by decide +kernel
theorem dX9_init_258 : decode cX9_init 258 = .ok (.putfield 109, 3) := by decide +kernel
theorem dX9_init_261 : decode cX9_init 261 = .ok (.aload_n 0, 1) := by decide +kernel
theorem dX9_init_262 : decode cX9_init 262 = .ok (.bipush 30, 2) := by decide +kernel
theorem dX9_init_264 : decode cX9_init 264 = .ok (.newarray .int, 2) := by decide +kernel
theorem dX9_init_266 : decode cX9_init 266 = .ok (.putfield 112, 3) := by decide +kernel
theorem dX9_init_269 : decode cX9_init 269 = .ok (.aload_n 0, 1) := by decide +kernel
theorem dX9_init_270 : decode cX9_init 270 = .ok (.bipush 30, 2) := by decide +kernel
theorem dX9_init_272 : decode cX9_init 272 = .ok (.newarray .int, 2) := by decide +kernel
theorem dX9_init_274 : decode cX9_init 274 = .ok (.putfield 115, 3) := by decide +kernel
theorem dX9_init_277 : decode cX9_init 277 = .ok (.aload_n 0, 1) := by decide +kernel
theorem dX9_init_278 : decode cX9_init 278 = .ok (.bipush 21, 2) := by decide +kernel
theorem dX9_init_280 : decode cX9_init 280 = .ok (.newarray .int, 2) := by decide +kernel
theorem dX9_init_282 : decode cX9_init 282 = .ok (.putfield 118, 3) := by decide +kernel
theorem dX9_init_285 : decode cX9_init 285 = .ok (.aload_n 0, 1) := by decide +kernel
theorem dX9_init_286 : decode cX9_init 286 = .ok (.sipush 343, 3) := by decide +kernel
theorem dX9_init_289 : decode cX9_init 289 = .ok (.newarray .boolean, 2) := by decide +kernel
theorem dX9_init_291 : decode cX9_init 291 = .ok (.putfield 121, 3) := by decide +kernel
theorem dX9_init_294 : decode cX9_init 294 = .ok (.aload_n 0, 1) := by decide +kernel
theorem dX9_init_295 : decode cX9_init 295 = .ok (.bipush 78, 2) := by decide +kernel
theorem dX9_init_297 : decode cX9_init 297 = .ok (.newarray .int, 2) := by decide +kernel
theorem dX9_init_299 : decode cX9_init 299 = .ok (.putfield 125, 3) := by decide +kernel
theorem dX9_init_302 : decode cX9_init 302 = .ok (.aload_n 0, 1) := by decide +kernel
theorem dX9_init_303 : decode cX9_init 303 = .ok (.iconst 3, 1) := by decide +kernel
theorem dX9_init_304 : decode cX9_init 304 = .ok (.newarray .boolean, 2) := by decide +kernel
theorem dX9_init_306 : decode cX9_init 306 = .ok (.putfield 128, 3) := by decide +kernel
theorem dX9_init_309 : decode cX9_init 309 = .ok (.aload_n 0, 1) := by decide +kernel
theorem dX9_init_310 : decode cX9_init 310 = .ok (.invokevirtual 131, 3) := by decide +kernel
theorem dX9_init_313 : decode cX9_init 313 = .ok (.aload_n 0, 1) := by decide +kernel
theorem dX9_init_314 : decode cX9_init 314 = .ok (.invokevirtual 134, 3) := by decide +kernel
theorem dX9_init_317 : decode cX9_init 317 = .ok (.return_, 1) := by decide +kernel
theorem dX9_isGood_0 : decode cX9_isGood 0 = .ok (.aload_n 0, 1) := by decide +kernel
theorem dX9_isGood_1 : decode cX9_isGood 1 = .ok (.getfield 140, 3) := by decide +kernel
theorem dX9_isGood_4 : decode cX9_isGood 4 = .ok (.ifCond .ne 7, 3) := by decide +kernel
theorem dX9_isGood_7 : decode cX9_isGood 7 = .ok (.iconst 1, 1) := by decide +kernel
theorem dX9_isGood_8 : decode cX9_isGood 8 = .ok (.goto 4, 3) := by decide +kernel
theorem dX9_isGood_12 : decode cX9_isGood 12 = .ok (.ireturn, 1) := by decide +kernel
theorem dX9_isHouse_0 : decode cX9_isHouse 0 = .ok (.iload_n 1, 1) := by decide +kernel
theorem dX9_isHouse_1 : decode cX9_isHouse 1 = .ok (.iconst 0, 1) := by decide +kernel
theorem dX9_isHouse_2 : decode cX9_isHouse 2 = .ok (.aload_n 0, 1) := by decide +kernel
theorem dX9_isHouse_3 : decode cX9_isHouse 3 = .ok (.invokevirtual 358, 3) := by decide +kernel
theorem dX9_isHouse_6 : decode cX9_isHouse 6 = .ok (.iconst 1, 1) := by decide +kernel
theorem dX9_isHouse_7 : decode cX9_isHouse 7 = .ok (.isub, 1) := by decide +kernel
theorem dX9_isHouse_8 : decode cX9_isHouse 8 = .ok (.invokestatic 354, 3) := by decide +kernel
theorem dX9_isHouse_11 : decode cX9_isHouse 11 = .ok (.ireturn, 1) := by decide +kernel
theorem dX9_isIn_0 : decode cX9_isIn 0 = .ok (.iload_n 0, 1) := by decide +kernel
theorem dX9_isIn_1 : decode cX9_isIn 1 = .ok (.iload_n 1, 1) := by decide +kernel
theorem dX9_isIn_2 : decode cX9_isIn 2 = .ok (.if_icmp .lt 12, 3) := by decide +kernel
theorem dX9_isIn_5 : decode cX9_isIn 5 = .ok (.iload_n 0, 1) := by decide +kernel
theorem dX9_isIn_6 : decode cX9_isIn 6 = .ok (.iload_n 2, 1) := by decide +kernel
theorem dX9_isIn_7 : decode cX9_isIn 7 = .ok (.if_icmp .gt 7, 3) := by decide +kernel
theorem dX9_isIn_10 : decode cX9_isIn 10 = .ok (.iconst 1, 1) := by decide +kernel
theorem dX9_isIn_11 : decode cX9_isIn 11 = .ok (.goto 4, 3) := by decide +kernel
theorem dX9_isIn_14 : decode cX9_isIn 14 = .ok (.iconst 0, 1) := by decide +kernel
theorem dX9_isIn_15 : decode cX9_isIn 15 = .ok (.ireturn, 1) := by decide +kernel
theorem dX9_isNote_0 : decode cX9_isNote 0 = .ok (.iload_n 0, 1) := by decide +kernel
theorem dX9_isNote_1 : decode cX9_isNote 1 = .ok (.ifCond .lt 13, 3) := by decide +kernel
theorem dX9_isNote_4 : decode cX9_isNote 4 = .ok (.iload_n 0, 1) := by decide +kernel
theorem dX9_isNote_5 : decode cX9_isNote 5 = .ok (.bipush 7, 2) := by decide +kernel
theorem dX9_isNote_7 : decode cX9_isNote 7 = .ok (.if_icmp .ge 7, 3) := by decide +kernel
theorem dX9_isNote_10 : decode cX9_isNote 10 = .ok (.iconst 1, 1) := by decide +kernel
theorem dX9_isNote_11 : decode cX9_isNote 11 = .ok (.goto 4, 3) := by decide +kernel
theorem dX9_isNote_14 : decode cX9_isNote 14 = .ok (.iconst 0, 1) := by decide +kernel
theorem dX9_isNote_15 : decode cX9_isNote 15 = .ok (.ireturn, 1) := by decide +kernel
theorem dX9_isRound_0 : decode cX9_isRound 0 = .ok (.iconst 0, 1) := by decide +kernel
theorem dX9_isRound_1 : decode cX9_isRound 1 = .ok (.istore_n 2, 1) := by decide +kernel
theorem dX9_isRound_2 : decode cX9_isRound 2 = .ok (.iconst 0, 1) := by decide +kernel
theorem dX9_isRound_3 : decode cX9_isRound 3 = .ok (.istore_n 3, 1) := by decide +kernel
theorem dX9_isRound_4 : decode cX9_isRound 4 = .ok (.iload_n 3, 1) := by decide +kernel
theorem dX9_isRound_5 : decode cX9_isRound 5 = .ok (.aload_n 0, 1) := by decide +kernel
theorem dX9_isRound_6 : decode cX9_isRound 6 = .ok (.invokevirtual 358, 3) := by decide +kernel
theorem dX9_isRound_9 : decode cX9_isRound 9 = .ok (.if_icmp .ge 80, 3) := by decide +kernel
theorem dX9_isRound_89 : decode cX9_isRound 89 = .ok (.iconst 1, 1) := by decide +kernel
theorem dX9_isRound_90 : decode cX9_isRound 90 = .ok (.ireturn, 1) := by decide +kernel
theorem dX9_isTune_0 : decode cX9_isTune 0 = .ok (.iload_n 1, 1) := by decide +kernel
theorem dX9_isTune_1 : decode cX9_isTune 1 = .ok (.iconst 0, 1) := by decide +kernel
theorem dX9_isTune_2 : decode cX9_isTune 2 = .ok (.aload_n 0, 1) := by decide +kernel
theorem dX9_isTune_3 : decode cX9_isTune 3 = .ok (.invokevirtual 351, 3) := by decide +kernel
theorem dX9_isTune_6 : decode cX9_isTune 6 = .ok (.iconst 1, 1) := by decide +kernel
theorem dX9_isTune_7 : decode cX9_isTune 7 = .ok (.isub, 1) := by decide +kernel
theorem dX9_isTune_8 : decode cX9_isTune 8 = .ok (.invokestatic 354, 3) := by decide +kernel
theorem dX9_isTune_11 : decode cX9_isTune 11 = .ok (.ireturn, 1) := by decide +kernel
theorem dX9_keepAct_0 : decode cX9_keepAct 0 = .ok (.aload_n 0, 1) := by decide +kernel
theorem dX9_keepAct_1 : decode cX9_keepAct 1 = .ok (.getfield 364, 3) := by decide +kernel
theorem dX9_keepAct_4 : decode cX9_keepAct 4 = .ok (.bipush 40, 2) := by decide +kernel
theorem dX9_keepAct_6 : decode cX9_keepAct 6 = .ok (.if_icmp .ne 43, 3) := by decide +kernel
theorem dX9_keepAct_49 : decode cX9_keepAct 49 = .ok (.iconst 0, 1) := by decide +kernel
theorem dX9_keepAct_50 : decode cX9_keepAct 50 = .ok (.istore_n 1, 1) := by decide +kernel
theorem dX9_keepAct_51 : decode cX9_keepAct 51 = .ok (.iload_n 1, 1) := by decide +kernel
theorem dX9_keepAct_52 : decode cX9_keepAct 52 = .ok (.bipush 26, 2) := by decide +kernel
theorem dX9_keepAct_54 : decode cX9_keepAct 54 = .ok (.if_icmp .ge 29, 3) := by decide +kernel
theorem dX9_keepAct_57 : decode cX9_keepAct 57 = .ok (.aload_n 0, 1) := by decide +kernel
theorem dX9_keepAct_58 : decode cX9_keepAct 58 = .ok (.getfield 94, 3) := by decide +kernel
theorem dX9_keepAct_61 : decode cX9_keepAct 61 = .ok (.bipush 26, 2) := by decide +kernel
theorem dX9_keepAct_63 : decode cX9_keepAct 63 = .ok (.aload_n 0, 1) := by decide +kernel
theorem dX9_keepAct_64 : decode cX9_keepAct 64 = .ok (.getfield 364, 3) := by decide +kernel
theorem dX9_keepAct_67 : decode cX9_keepAct 67 = .ok (.imul, 1) := by decide +kernel
theorem dX9_keepAct_68 : decode cX9_keepAct 68 = .ok (.iload_n 1, 1) := by decide +kernel
theorem dX9_keepAct_69 : decode cX9_keepAct 69 = .ok (.iadd, 1) := by decide +kernel
theorem dX9_keepAct_70 : decode cX9_keepAct 70 = .ok (.aload_n 0, 1) := by decide +kernel
theorem dX9_keepAct_71 : decode cX9_keepAct 71 = .ok (.getfield 88, 3) := by decide +kernel
theorem dX9_keepAct_74 : decode cX9_keepAct 74 = .ok (.iload_n 1, 1) := by decide +kernel
theorem dX9_keepAct_75 : decode cX9_keepAct 75 = .ok (.iaload, 1) := by decide +kernel
theorem dX9_keepAct_76 : decode cX9_keepAct 76 = .ok (.iastore, 1) := by decide +kernel
theorem dX9_keepAct_77 : decode cX9_keepAct 77 = .ok (.iinc 1 1, 3) := by decide +kernel
theorem dX9_keepAct_80 : decode cX9_keepAct 80 = .ok (.goto (-29), 3) := by decide +kernel
theorem dX9_keepAct_83 : decode cX9_keepAct 83 = .ok (.aload_n 0, 1) := by decide +kernel
theorem dX9_keepAct_84 : decode cX9_keepAct 84 = .ok (.dup, 1) := by decide +kernel
theorem dX9_keepAct_85 : decode cX9_keepAct 85 = .ok (.getfield 364, 3) := by decide +kernel
theorem dX9_keepAct_88 : decode cX9_keepAct 88 = .ok (.iconst 1, 1) := by decide +kernel
theorem dX9_keepAct_89 : decode cX9_keepAct 89 = .ok (.iadd, 1) := by decide +kernel
theorem dX9_keepAct_90 : decode cX9_keepAct 90 = .ok (.putfield 364, 3) := by decide +kernel
theorem dX9_keepAct_93 : decode cX9_keepAct 93 = .ok (.aload_n 0, 1) := by decide +kernel
theorem dX9_keepAct_94 : decode cX9_keepAct 94 = .ok (.iconst 0, 1) := by decide +kernel
theorem dX9_keepAct_95 : decode cX9_keepAct 95 = .ok (.putfield 367, 3) := by decide +kernel
theorem dX9_keepAct_98 : decode cX9_keepAct 98 = .ok (.return_, 1) := by decide +kernel
theorem dX9_known_0 : decode cX9_known 0 = .ok (.aload_n 0, 1) := by decide +kernel
theorem dX9_known_1 : decode cX9_known 1 = .ok (.iload_n 1, 1) := by decide +kernel
theorem dX9_known_2 : decode cX9_known 2 = .ok (.invokevirtual 412, 3) := by decide +kernel
theorem dX9_known_5 : decode cX9_known 5 = .ok (.ifCond .eq 32, 3) := by decide +kernel
theorem dX9_known_37 : decode cX9_known 37 = .ok (.iconst (-1), 1) := by decide +kernel
theorem dX9_known_38 : decode cX9_known 38 = .ok (.ireturn, 1) := by decide +kernel
theorem dX9_lane_0 : decode cX9_lane 0 = .ok (.aload_n 0, 1) := by decide +kernel
theorem dX9_lane_1 : decode cX9_lane 1 = .ok (.iconst 0, 1) := by decide +kernel
theorem dX9_lane_2 : decode cX9_lane 2 = .ok (.putfield 140, 3) := by decide +kernel
theorem dX9_lane_5 : decode cX9_lane 5 = .ok (.aload_n 0, 1) := by decide +kernel
theorem dX9_lane_6 : decode cX9_lane 6 = .ok (.iconst (-1), 1) := by decide +kernel
theorem dX9_lane_7 : decode cX9_lane 7 = .ok (.putfield 16, 3) := by decide +kernel
theorem dX9_lane_10 : decode cX9_lane 10 = .ok (.aload_n 0, 1) := by decide +kernel
theorem dX9_lane_11 : decode cX9_lane 11 = .ok (.aload_n 0, 1) := by decide +kernel
theorem dX9_lane_12 : decode cX9_lane 12 = .ok (.getfield 246, 3) := by decide +kernel
theorem dX9_lane_15 : decode cX9_lane 15 = .ok (.putfield 137, 3) := by decide +kernel
theorem dX9_lane_18 : decode cX9_lane 18 = .ok (.iconst 0, 1) := by decide +kernel
theorem dX9_lane_19 : decode cX9_lane 19 = .ok (.istore_n 1, 1) := by decide +kernel
theorem dX9_lane_20 : decode cX9_lane 20 = .ok (.iload_n 1, 1) := by decide +kernel
theorem dX9_lane_21 : decode cX9_lane 21 = .ok (.aload_n 0, 1) := by decide +kernel
theorem dX9_lane_22 : decode cX9_lane 22 = .ok (.getfield 137, 3) := by decide +kernel
theorem dX9_lane_25 : decode cX9_lane 25 = .ok (.if_icmp .ge 21, 3) := by decide +kernel
theorem dX9_lane_46 : decode cX9_lane 46 = .ok (.aload_n 0, 1) := by decide +kernel
theorem dX9_lane_47 : decode cX9_lane 47 = .ok (.iconst 0, 1) := by decide +kernel
theorem dX9_lane_48 : decode cX9_lane 48 = .ok (.putfield 246, 3) := by decide +kernel
theorem dX9_lane_51 : decode cX9_lane 51 = .ok (.aload_n 0, 1) := by decide +kernel
theorem dX9_lane_52 : decode cX9_lane 52 = .ok (.iconst 0, 1) := by decide +kernel
theorem dX9_lane_53 : decode cX9_lane 53 = .ok (.putfield 181, 3) := by decide +kernel
theorem dX9_lane_56 : decode cX9_lane 56 = .ok (.aload_n 0, 1) := by decide +kernel
theorem dX9_lane_57 : decode cX9_lane 57 = .ok (.iconst 1, 1) := by decide +kernel
theorem dX9_lane_58 : decode cX9_lane 58 = .ok (.aload_n 0, 1) := by decide +kernel
theorem dX9_lane_59 : decode cX9_lane 59 = .ok (.getfield 249, 3) := by decide +kernel
theorem dX9_lane_62 : decode cX9_lane 62 = .ok (.isub, 1) := by decide +kernel
theorem dX9_lane_63 : decode cX9_lane 63 = .ok (.putfield 240, 3) := by decide +kernel
theorem dX9_lane_66 : decode cX9_lane 66 = .ok (.aload_n 0, 1) := by decide +kernel
theorem dX9_lane_67 : decode cX9_lane 67 = .ok (.invokevirtual 131, 3) := by decide +kernel
theorem dX9_lane_70 : decode cX9_lane 70 = .ok (.aload_n 0, 1) := by decide +kernel
theorem dX9_lane_71 : decode cX9_lane 71 = .ok (.invokevirtual 223, 3) := by decide +kernel
theorem dX9_lane_74 : decode cX9_lane 74 = .ok (.aload_n 0, 1) := by decide +kernel
theorem dX9_lane_75 : decode cX9_lane 75 = .ok (.invokevirtual 219, 3) := by decide +kernel
theorem dX9_lane_78 : decode cX9_lane 78 = .ok (.ifCond .eq 17, 3) := by decide +kernel
theorem dX9_lane_81 : decode cX9_lane 81 = .ok (.aload_n 0, 1) := by decide +kernel
theorem dX9_lane_82 : decode cX9_lane 82 = .ok (.getfield 191, 3) := by decide +kernel
theorem dX9_lane_85 : decode cX9_lane 85 = .ok (.ifCond .eq 10, 3) := by decide +kernel
theorem dX9_lane_95 : decode cX9_lane 95 = .ok (.aload_n 0, 1) := by decide +kernel
theorem dX9_lane_96 : decode cX9_lane 96 = .ok (.invokevirtual 219, 3) := by decide +kernel
theorem dX9_lane_99 : decode cX9_lane 99 = .ok (.ifCond .ne 5, 3) := by decide +kernel
theorem dX9_lane_104 : decode cX9_lane 104 = .ok (.aload_n 0, 1) := by decide +kernel
theorem dX9_lane_105 : decode cX9_lane 105 = .ok (.aload_n 0, 1) := by decide +kernel
theorem dX9_lane_106 : decode cX9_lane 106 = .ok (.getfield 240, 3) := by decide +kernel
theorem dX9_lane_109 : decode cX9_lane 109 = .ok (.putfield 249, 3) := by decide +kernel
theorem dX9_lane_112 : decode cX9_lane 112 = .ok (.aload_n 0, 1) := by decide +kernel
theorem dX9_lane_113 : decode cX9_lane 113 = .ok (.invokevirtual 134, 3) := by decide +kernel
theorem dX9_lane_116 : decode cX9_lane 116 = .ok (.aload_n 0, 1) := by decide +kernel
theorem dX9_lane_117 : decode cX9_lane 117 = .ok (.getfield 27, 3) := by decide +kernel
theorem dX9_lane_120 : decode cX9_lane 120 = .ok (.aload_n 0, 1) := by decide +kernel
theorem dX9_lane_121 : decode cX9_lane 121 = .ok (.getfield 249, 3) := by decide +kernel
theorem dX9_lane_124 : decode cX9_lane 124 = .ok (.iaload, 1) := by decide +kernel
theorem dX9_lane_125 : decode cX9_lane 125 = .ok (.ireturn, 1) := by decide +kernel
theorem dX9_later_0 : decode cX9_later 0 = .ok (.iload_n 1, 1) := by decide +kernel
theorem dX9_later_1 : decode cX9_later 1 = .ok (.iconst 0, 1) := by decide +kernel
theorem dX9_later_2 : decode cX9_later 2 = .ok (.sipush 1000, 3) := by decide +kernel
theorem dX9_later_5 : decode cX9_later 5 = .ok (.invokestatic 354, 3) := by decide +kernel
theorem dX9_later_8 : decode cX9_later 8 = .ok (.ifCond .eq 15, 3) := by decide +kernel
theorem dX9_later_11 : decode cX9_later 11 = .ok (.aload_n 0, 1) := by decide +kernel
theorem dX9_later_12 : decode cX9_later 12 = .ok (.getfield 492, 3) := by decide +kernel
theorem dX9_later_15 : decode cX9_later 15 = .ok (.iload_n 1, 1) := by decide +kernel
theorem dX9_later_16 : decode cX9_later 16 = .ok (.iadd, 1) := by decide +kernel
theorem dX9_later_17 : decode cX9_later 17 = .ok (.ldc_w 495, 3) := by decide +kernel
theorem dX9_later_20 : decode cX9_later 20 = .ok (.if_icmp .le 5, 3) := by decide +kernel
theorem dX9_later_23 : decode cX9_later 23 = .ok (.iconst (-1), 1) := by decide +kernel
theorem dX9_later_24 : decode cX9_later 24 = .ok (.ireturn, 1) := by decide +kernel
theorem dX9_later_25 : decode cX9_later 25 = .ok (.aload_n 0, 1) := by decide +kernel
theorem dX9_later_26 : decode cX9_later 26 = .ok (.dup, 1) := by decide +kernel
theorem dX9_later_27 : decode cX9_later 27 = .ok (.getfield 492, 3) := by decide +kernel
theorem dX9_later_30 : decode cX9_later 30 = .ok (.iload_n 1, 1) := by decide +kernel
theorem dX9_later_31 : decode cX9_later 31 = .ok (.iadd, 1) := by decide +kernel
theorem dX9_later_32 : decode cX9_later 32 = .ok (.putfield 492, 3) := by decide +kernel
theorem dX9_later_35 : decode cX9_later 35 = .ok (.aload_n 0, 1) := by decide +kernel
theorem dX9_later_36 : decode cX9_later 36 = .ok (.getfield 492, 3) := by decide +kernel
theorem dX9_later_39 : decode cX9_later 39 = .ok (.ireturn, 1) := by decide +kernel
theorem dX9_law_0 : decode cX9_law 0 = .ok (.aload_n 0, 1) := by decide +kernel
theorem dX9_law_1 : decode cX9_law 1 = .ok (.iload_n 1, 1) := by decide +kernel
theorem dX9_law_2 : decode cX9_law 2 = .ok (.invokevirtual 415, 3) := by decide +kernel
theorem dX9_law_5 : decode cX9_law 5 = .ok (.ifCond .eq 14, 3) := by decide +kernel
theorem dX9_law_19 : decode cX9_law 19 = .ok (.iconst (-1), 1) := by decide +kernel
theorem dX9_law_20 : decode cX9_law 20 = .ok (.ireturn, 1) := by decide +kernel
theorem dX9_layRows_0 : decode cX9_layRows 0 = .ok (.aload_n 0, 1) := by decide +kernel
theorem dX9_layRows_1 : decode cX9_layRows 1 = .ok (.iconst 0, 1) := by decide +kernel
theorem dX9_layRows_2 : decode cX9_layRows 2 = .ok (.putfield 499, 3) := by decide +kernel
theorem dX9_layRows_5 : decode cX9_layRows 5 = .ok (.iconst 0, 1) := by decide +kernel
theorem dX9_layRows_6 : decode cX9_layRows 6 = .ok (.istore_n 2, 1) := by decide +kernel

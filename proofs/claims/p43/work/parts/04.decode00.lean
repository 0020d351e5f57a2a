theorem dX9_about_0 : decode cX9_about 0 = .ok (.iload_n 1, 1) := by decide +kernel
theorem dX9_about_1 : decode cX9_about 1 = .ok (.tableswitch 171 0 14 #[75, 80, 85, 95, 100, 105, 113, 121, 126, 131, 136, 141, 146, 156, 161], 75) := by decide +kernel
theorem dX9_about_76 : decode cX9_about 76 = .ok (.aload_n 0, 1) := by decide +kernel
theorem dX9_about_77 : decode cX9_about 77 = .ok (.invokevirtual 358, 3) := by decide +kernel
theorem dX9_about_80 : decode cX9_about 80 = .ok (.ireturn, 1) := by decide +kernel
theorem dX9_about_81 : decode cX9_about 81 = .ok (.aload_n 0, 1) := by decide +kernel
theorem dX9_about_82 : decode cX9_about 82 = .ok (.invokevirtual 351, 3) := by decide +kernel
theorem dX9_about_85 : decode cX9_about 85 = .ok (.ireturn, 1) := by decide +kernel
theorem dX9_about_86 : decode cX9_about 86 = .ok (.aload_n 0, 1) := by decide +kernel
theorem dX9_about_87 : decode cX9_about 87 = .ok (.getfield 20, 3) := by decide +kernel
theorem dX9_about_90 : decode cX9_about 90 = .ok (.aload_n 0, 1) := by decide +kernel
theorem dX9_about_91 : decode cX9_about 91 = .ok (.getfield 249, 3) := by decide +kernel
theorem dX9_about_94 : decode cX9_about 94 = .ok (.iaload, 1) := by decide +kernel
theorem dX9_about_95 : decode cX9_about 95 = .ok (.ireturn, 1) := by decide +kernel
theorem dX9_about_96 : decode cX9_about 96 = .ok (.aload_n 0, 1) := by decide +kernel
theorem dX9_about_97 : decode cX9_about 97 = .ok (.invokevirtual 514, 3) := by decide +kernel
theorem dX9_about_100 : decode cX9_about 100 = .ok (.ireturn, 1) := by decide +kernel
theorem dX9_about_101 : decode cX9_about 101 = .ok (.aload_n 0, 1) := by decide +kernel
theorem dX9_about_102 : decode cX9_about 102 = .ok (.invokevirtual 517, 3) := by decide +kernel
theorem dX9_about_105 : decode cX9_about 105 = .ok (.ireturn, 1) := by decide +kernel
theorem dX9_about_106 : decode cX9_about 106 = .ok (.aload_n 0, 1) := by decide +kernel
theorem dX9_about_107 : decode cX9_about 107 = .ok (.getfield 88, 3) := by decide +kernel
theorem dX9_about_110 : decode cX9_about 110 = .ok (.bipush 24, 2) := by decide +kernel
theorem dX9_about_112 : decode cX9_about 112 = .ok (.iaload, 1) := by decide +kernel
theorem dX9_about_113 : decode cX9_about 113 = .ok (.ireturn, 1) := by decide +kernel
theorem dX9_about_114 : decode cX9_about 114 = .ok (.aload_n 0, 1) := by decide +kernel
theorem dX9_about_115 : decode cX9_about 115 = .ok (.getfield 88, 3) := by decide +kernel
theorem dX9_about_118 : decode cX9_about 118 = .ok (.bipush 25, 2) := by decide +kernel
theorem dX9_about_120 : decode cX9_about 120 = .ok (.iaload, 1) := by decide +kernel
theorem dX9_about_121 : decode cX9_about 121 = .ok (.ireturn, 1) := by decide +kernel
theorem dX9_about_122 : decode cX9_about 122 = .ok (.aload_n 0, 1) := by decide +kernel
theorem dX9_about_123 : decode cX9_about 123 = .ok (.getfield 364, 3) := by decide +kernel
theorem dX9_about_126 : decode cX9_about 126 = .ok (.ireturn, 1) := by decide +kernel
theorem dX9_about_127 : decode cX9_about 127 = .ok (.aload_n 0, 1) := by decide +kernel
theorem dX9_about_128 : decode cX9_about 128 = .ok (.getfield 367, 3) := by decide +kernel
theorem dX9_about_131 : decode cX9_about 131 = .ok (.ireturn, 1) := by decide +kernel
theorem dX9_about_132 : decode cX9_about 132 = .ok (.aload_n 0, 1) := by decide +kernel
theorem dX9_about_133 : decode cX9_about 133 = .ok (.getfield 370, 3) := by decide +kernel
theorem dX9_about_136 : decode cX9_about 136 = .ok (.ireturn, 1) := by decide +kernel
theorem dX9_about_137 : decode cX9_about 137 = .ok (.aload_n 0, 1) := by decide +kernel
theorem dX9_about_138 : decode cX9_about 138 = .ok (.getfield 492, 3) := by decide +kernel
theorem dX9_about_141 : decode cX9_about 141 = .ok (.ireturn, 1) := by decide +kernel
theorem dX9_about_142 : decode cX9_about 142 = .ok (.aload_n 0, 1) := by decide +kernel
theorem dX9_about_143 : decode cX9_about 143 = .ok (.getfield 246, 3) := by decide +kernel
theorem dX9_about_146 : decode cX9_about 146 = .ok (.ireturn, 1) := by decide +kernel
theorem dX9_about_147 : decode cX9_about 147 = .ok (.aload_n 0, 1) := by decide +kernel
theorem dX9_about_148 : decode cX9_about 148 = .ok (.getfield 30, 3) := by decide +kernel
theorem dX9_about_151 : decode cX9_about 151 = .ok (.aload_n 0, 1) := by decide +kernel
theorem dX9_about_152 : decode cX9_about 152 = .ok (.getfield 249, 3) := by decide +kernel
theorem dX9_about_155 : decode cX9_about 155 = .ok (.iaload, 1) := by decide +kernel
theorem dX9_about_156 : decode cX9_about 156 = .ok (.ireturn, 1) := by decide +kernel
theorem dX9_about_157 : decode cX9_about 157 = .ok (.aload_n 0, 1) := by decide +kernel
theorem dX9_about_158 : decode cX9_about 158 = .ok (.getfield 373, 3) := by decide +kernel
theorem dX9_about_161 : decode cX9_about 161 = .ok (.ireturn, 1) := by decide +kernel
theorem dX9_about_162 : decode cX9_about 162 = .ok (.aload_n 0, 1) := by decide +kernel
theorem dX9_about_163 : decode cX9_about 163 = .ok (.getfield 33, 3) := by decide +kernel
theorem dX9_about_166 : decode cX9_about 166 = .ok (.aload_n 0, 1) := by decide +kernel
theorem dX9_about_167 : decode cX9_about 167 = .ok (.getfield 249, 3) := by decide +kernel
theorem dX9_about_170 : decode cX9_about 170 = .ok (.iaload, 1) := by decide +kernel
theorem dX9_about_171 : decode cX9_about 171 = .ok (.ireturn, 1) := by decide +kernel
theorem dX9_about_172 : decode cX9_about 172 = .ok (.iconst (-1), 1) := by decide +kernel
theorem dX9_about_173 : decode cX9_about 173 = .ok (.ireturn, 1) := by decide +kernel
theorem dX9_absolute_0 : decode cX9_absolute 0 = .ok (.iload_n 0, 1) := by decide +kernel
theorem dX9_absolute_1 : decode cX9_absolute 1 = .ok (.ifCond .ge 8, 3) := by decide +kernel
theorem dX9_absolute_4 : decode cX9_absolute 4 = .ok (.iload_n 0, 1) := by decide +kernel
theorem dX9_absolute_5 : decode cX9_absolute 5 = .ok (.ineg, 1) := by decide +kernel
theorem dX9_absolute_6 : decode cX9_absolute 6 = .ok (.goto 4, 3) := by decide +kernel
theorem dX9_absolute_9 : decode cX9_absolute 9 = .ok (.iload_n 0, 1) := by decide +kernel
theorem dX9_absolute_10 : decode cX9_absolute 10 = .ok (.ireturn, 1) := by decide +kernel
theorem dX9_after_0 : decode cX9_after 0 = .ok (.aload_n 0, 1) := by decide +kernel
theorem dX9_after_1 : decode cX9_after 1 = .ok (.aload_n 0, 1) := by decide +kernel
theorem dX9_after_2 : decode cX9_after 2 = .ok (.lload_n 1, 1) := by decide +kernel
theorem dX9_after_3 : decode cX9_after 3 = .ok (.invokevirtual 229, 3) := by decide +kernel
theorem dX9_after_6 : decode cX9_after 6 = .ok (.invokevirtual 232, 3) := by decide +kernel
theorem dX9_after_9 : decode cX9_after 9 = .ok (.aload_n 0, 1) := by decide +kernel
theorem dX9_after_10 : decode cX9_after 10 = .ok (.iload_n 3, 1) := by decide +kernel
theorem dX9_after_11 : decode cX9_after 11 = .ok (.iload 4, 2) := by decide +kernel
theorem dX9_after_13 : decode cX9_after 13 = .ok (.invokevirtual 236, 3) := by decide +kernel
theorem dX9_after_16 : decode cX9_after 16 = .ok (.ireturn, 1) := by decide +kernel
theorem dX9_alike_0 : decode cX9_alike 0 = .ok (.aload_n 0, 1) := by decide +kernel
theorem dX9_alike_1 : decode cX9_alike 1 = .ok (.iload_n 1, 1) := by decide +kernel
theorem dX9_alike_2 : decode cX9_alike 2 = .ok (.invokevirtual 412, 3) := by decide +kernel
theorem dX9_alike_5 : decode cX9_alike 5 = .ok (.ifCond .eq 11, 3) := by decide +kernel
theorem dX9_alike_8 : decode cX9_alike 8 = .ok (.aload_n 0, 1) := by decide +kernel
theorem dX9_alike_9 : decode cX9_alike 9 = .ok (.iload_n 2, 1) := by decide +kernel
theorem dX9_alike_10 : decode cX9_alike 10 = .ok (.invokevirtual 412, 3) := by decide +kernel
theorem dX9_alike_13 : decode cX9_alike 13 = .ok (.ifCond .ne 5, 3) := by decide +kernel
theorem dX9_alike_16 : decode cX9_alike 16 = .ok (.iconst (-1), 1) := by decide +kernel
theorem dX9_alike_17 : decode cX9_alike 17 = .ok (.ireturn, 1) := by decide +kernel
theorem dX9_alike_18 : decode cX9_alike 18 = .ok (.iconst 0, 1) := by decide +kernel
theorem dX9_alike_19 : decode cX9_alike 19 = .ok (.istore_n 3, 1) := by decide +kernel
theorem dX9_alike_20 : decode cX9_alike 20 = .ok (.iload_n 3, 1) := by decide +kernel
theorem dX9_alike_21 : decode cX9_alike 21 = .ok (.aload_n 0, 1) := by decide +kernel
theorem dX9_alike_22 : decode cX9_alike 22 = .ok (.iload_n 1, 1) := by decide +kernel
theorem dX9_alike_23 : decode cX9_alike 23 = .ok (.invokevirtual 336, 3) := by decide +kernel
theorem dX9_alike_26 : decode cX9_alike 26 = .ok (.if_icmp .ge 49, 3) := by decide +kernel
theorem dX9_alike_29 : decode cX9_alike 29 = .ok (.iload_n 3, 1) := by decide +kernel
theorem dX9_alike_30 : decode cX9_alike 30 = .ok (.aload_n 0, 1) := by decide +kernel
theorem dX9_alike_31 : decode cX9_alike 31 = .ok (.iload_n 2, 1) := by decide +kernel
theorem dX9_alike_32 : decode cX9_alike 32 = .ok (.invokevirtual 336, 3) := by decide +kernel
theorem dX9_alike_35 : decode cX9_alike 35 = .ok (.if_icmp .ge 40, 3) := by decide +kernel
theorem dX9_alike_38 : decode cX9_alike 38 = .ok (.aload_n 0, 1) := by decide +kernel
theorem dX9_alike_39 : decode cX9_alike 39 = .ok (.iload_n 1, 1) := by decide +kernel
theorem dX9_alike_40 : decode cX9_alike 40 = .ok (.aload_n 0, 1) := by decide +kernel
theorem dX9_alike_41 : decode cX9_alike 41 = .ok (.iload_n 1, 1) := by decide +kernel
theorem dX9_alike_42 : decode cX9_alike 42 = .ok (.invokevirtual 336, 3) := by decide +kernel
theorem dX9_alike_45 : decode cX9_alike 45 = .ok (.iconst 1, 1) := by decide +kernel
theorem dX9_alike_46 : decode cX9_alike 46 = .ok (.isub, 1) := by decide +kernel
theorem dX9_alike_47 : decode cX9_alike 47 = .ok (.iload_n 3, 1) := by decide +kernel
theorem dX9_alike_48 : decode cX9_alike 48 = .ok (.isub, 1) := by decide +kernel
theorem dX9_alike_49 : decode cX9_alike 49 = .ok (.invokevirtual 379, 3) := by decide +kernel
theorem dX9_alike_52 : decode cX9_alike 52 = .ok (.aload_n 0, 1) := by decide +kernel
theorem dX9_alike_53 : decode cX9_alike 53 = .ok (.iload_n 2, 1) := by decide +kernel
theorem dX9_alike_54 : decode cX9_alike 54 = .ok (.aload_n 0, 1) := by decide +kernel
theorem dX9_alike_55 : decode cX9_alike 55 = .ok (.iload_n 2, 1) := by decide +kernel
theorem dX9_alike_56 : decode cX9_alike 56 = .ok (.invokevirtual 336, 3) := by decide +kernel
theorem dX9_alike_59 : decode cX9_alike 59 = .ok (.iconst 1, 1) := by decide +kernel
theorem dX9_alike_60 : decode cX9_alike 60 = .ok (.isub, 1) := by decide +kernel
theorem dX9_alike_61 : decode cX9_alike 61 = .ok (.iload_n 3, 1) := by decide +kernel
theorem dX9_alike_62 : decode cX9_alike 62 = .ok (.isub, 1) := by decide +kernel
theorem dX9_alike_63 : decode cX9_alike 63 = .ok (.invokevirtual 379, 3) := by decide +kernel
theorem dX9_alike_66 : decode cX9_alike 66 = .ok (.if_icmp .ne 9, 3) := by decide +kernel
theorem dX9_alike_69 : decode cX9_alike 69 = .ok (.iinc 3 1, 3) := by decide +kernel
theorem dX9_alike_72 : decode cX9_alike 72 = .ok (.goto (-52), 3) := by decide +kernel
theorem dX9_alike_75 : decode cX9_alike 75 = .ok (.iload_n 3, 1) := by decide +kernel
theorem dX9_alike_76 : decode cX9_alike 76 = .ok (.ireturn, 1) := by decide +kernel
theorem dX9_along_0 : decode cX9_along 0 = .ok (.iload_n 1, 1) := by decide +kernel
theorem dX9_along_1 : decode cX9_along 1 = .ok (.iconst 0, 1) := by decide +kernel
theorem dX9_along_2 : decode cX9_along 2 = .ok (.bipush 99, 2) := by decide +kernel
theorem dX9_along_4 : decode cX9_along 4 = .ok (.invokestatic 354, 3) := by decide +kernel
theorem dX9_along_7 : decode cX9_along 7 = .ok (.ifCond .eq 13, 3) := by decide +kernel
theorem dX9_along_10 : decode cX9_along 10 = .ok (.iload_n 2, 1) := by decide +kernel
theorem dX9_along_11 : decode cX9_along 11 = .ok (.iconst 0, 1) := by decide +kernel
theorem dX9_along_12 : decode cX9_along 12 = .ok (.bipush 99, 2) := by decide +kernel
theorem dX9_along_14 : decode cX9_along 14 = .ok (.invokestatic 354, 3) := by decide +kernel
theorem dX9_along_17 : decode cX9_along 17 = .ok (.ifCond .ne 5, 3) := by decide +kernel
theorem dX9_along_20 : decode cX9_along 20 = .ok (.iconst (-1), 1) := by decide +kernel
theorem dX9_along_21 : decode cX9_along 21 = .ok (.ireturn, 1) := by decide +kernel
theorem dX9_along_22 : decode cX9_along 22 = .ok (.iconst 0, 1) := by decide +kernel
theorem dX9_along_23 : decode cX9_along 23 = .ok (.istore_n 3, 1) := by decide +kernel
theorem dX9_along_24 : decode cX9_along 24 = .ok (.iconst 0, 1) := by decide +kernel
theorem dX9_along_25 : decode cX9_along 25 = .ok (.istore 4, 2) := by decide +kernel
theorem dX9_along_27 : decode cX9_along 27 = .ok (.iload 4, 2) := by decide +kernel
theorem dX9_along_29 : decode cX9_along 29 = .ok (.aload_n 0, 1) := by decide +kernel
theorem dX9_along_30 : decode cX9_along 30 = .ok (.invokevirtual 358, 3) := by decide +kernel
theorem dX9_along_33 : decode cX9_along 33 = .ok (.if_icmp .ge 44, 3) := by decide +kernel
theorem dX9_along_36 : decode cX9_along 36 = .ok (.aload_n 0, 1) := by decide +kernel
theorem dX9_along_37 : decode cX9_along 37 = .ok (.iload 4, 2) := by decide +kernel
theorem dX9_along_39 : decode cX9_along 39 = .ok (.invokevirtual 418, 3) := by decide +kernel
theorem dX9_along_42 : decode cX9_along 42 = .ok (.iload_n 1, 1) := by decide +kernel
theorem dX9_along_43 : decode cX9_along 43 = .ok (.iload_n 2, 1) := by decide +kernel
theorem dX9_along_44 : decode cX9_along 44 = .ok (.invokestatic 354, 3) := by decide +kernel
theorem dX9_along_47 : decode cX9_along 47 = .ok (.ifCond .ne 17, 3) := by decide +kernel
theorem dX9_along_50 : decode cX9_along 50 = .ok (.aload_n 0, 1) := by decide +kernel
theorem dX9_along_51 : decode cX9_along 51 = .ok (.iload 4, 2) := by decide +kernel
theorem dX9_along_53 : decode cX9_along 53 = .ok (.invokevirtual 418, 3) := by decide +kernel
theorem dX9_along_56 : decode cX9_along 56 = .ok (.iload_n 2, 1) := by decide +kernel
theorem dX9_along_57 : decode cX9_along 57 = .ok (.iload_n 1, 1) := by decide +kernel
theorem dX9_along_58 : decode cX9_along 58 = .ok (.invokestatic 354, 3) := by decide +kernel
theorem dX9_along_61 : decode cX9_along 61 = .ok (.ifCond .eq 10, 3) := by decide +kernel
theorem dX9_along_64 : decode cX9_along 64 = .ok (.iload_n 3, 1) := by decide +kernel
theorem dX9_along_65 : decode cX9_along 65 = .ok (.iconst 1, 1) := by decide +kernel
theorem dX9_along_66 : decode cX9_along 66 = .ok (.iload 4, 2) := by decide +kernel
theorem dX9_along_68 : decode cX9_along 68 = .ok (.ishl, 1) := by decide +kernel
theorem dX9_along_69 : decode cX9_along 69 = .ok (.ior, 1) := by decide +kernel
theorem dX9_along_70 : decode cX9_along 70 = .ok (.istore_n 3, 1) := by decide +kernel
theorem dX9_along_71 : decode cX9_along 71 = .ok (.iinc 4 1, 3) := by decide +kernel
theorem dX9_along_74 : decode cX9_along 74 = .ok (.goto (-47), 3) := by decide +kernel
theorem dX9_along_77 : decode cX9_along 77 = .ok (.iload_n 3, 1) := by decide +kernel
theorem dX9_along_78 : decode cX9_along 78 = .ok (.ireturn, 1) := by decide +kernel
theorem dX9_ask_0 : decode cX9_ask 0 = .ok (.aload_n 0, 1) := by decide +kernel
theorem dX9_ask_1 : decode cX9_ask 1 = .ok (.iload_n 2, 1) := by decide +kernel
theorem dX9_ask_2 : decode cX9_ask 2 = .ok (.invokevirtual 508, 3) := by decide +kernel
theorem dX9_ask_5 : decode cX9_ask 5 = .ok (.iload_n 1, 1) := by decide +kernel
theorem dX9_ask_6 : decode cX9_ask 6 = .ok (.iconst 0, 1) := by decide +kernel
theorem dX9_ask_7 : decode cX9_ask 7 = .ok (.iconst 1, 1) := by decide +kernel
theorem dX9_ask_8 : decode cX9_ask 8 = .ok (.invokestatic 354, 3) := by decide +kernel
theorem dX9_ask_11 : decode cX9_ask 11 = .ok (.ifCond .eq 17, 3) := by decide +kernel
theorem dX9_ask_14 : decode cX9_ask 14 = .ok (.aload_n 0, 1) := by decide +kernel
theorem dX9_ask_15 : decode cX9_ask 15 = .ok (.invokevirtual 351, 3) := by decide +kernel
theorem dX9_ask_18 : decode cX9_ask 18 = .ok (.ifCond .eq 10, 3) := by decide +kernel
theorem dX9_ask_21 : decode cX9_ask 21 = .ok (.aload_n 0, 1) := by decide +kernel
theorem dX9_ask_22 : decode cX9_ask 22 = .ok (.getfield 499, 3) := by decide +kernel
theorem dX9_ask_25 : decode cX9_ask 25 = .ok (.ifCond .ne 5, 3) := by decide +kernel
theorem dX9_ask_28 : decode cX9_ask 28 = .ok (.iconst (-1), 1) := by decide +kernel
theorem dX9_ask_29 : decode cX9_ask 29 = .ok (.ireturn, 1) := by decide +kernel
theorem dX9_ask_30 : decode cX9_ask 30 = .ok (.iconst 0, 1) := by decide +kernel
theorem dX9_ask_31 : decode cX9_ask 31 = .ok (.istore_n 3, 1) := by decide +kernel
theorem dX9_ask_32 : decode cX9_ask 32 = .ok (.aload_n 0, 1) := by decide +kernel
theorem dX9_ask_33 : decode cX9_ask 33 = .ok (.iconst 0, 1) := by decide +kernel
theorem dX9_ask_34 : decode cX9_ask 34 = .ok (.invokevirtual 511, 3) := by decide +kernel
theorem dX9_ask_37 : decode cX9_ask 37 = .ok (.istore 4, 2) := by decide +kernel
theorem dX9_ask_39 : decode cX9_ask 39 = .ok (.iconst 1, 1) := by decide +kernel
theorem dX9_ask_40 : decode cX9_ask 40 = .ok (.istore 5, 2) := by decide +kernel
theorem dX9_ask_42 : decode cX9_ask 42 = .ok (.iload 5, 2) := by decide +kernel
theorem dX9_ask_44 : decode cX9_ask 44 = .ok (.aload_n 0, 1) := by decide +kernel
theorem dX9_ask_45 : decode cX9_ask 45 = .ok (.invokevirtual 351, 3) := by decide +kernel
theorem dX9_ask_48 : decode cX9_ask 48 = .ok (.if_icmp .ge 34, 3) := by decide +kernel
theorem dX9_ask_51 : decode cX9_ask 51 = .ok (.aload_n 0, 1) := by decide +kernel
theorem dX9_ask_52 : decode cX9_ask 52 = .ok (.iload 5, 2) := by decide +kernel
theorem dX9_ask_54 : decode cX9_ask 54 = .ok (.invokevirtual 511, 3) := by decide +kernel
theorem dX9_ask_57 : decode cX9_ask 57 = .ok (.istore 6, 2) := by decide +kernel
theorem dX9_ask_59 : decode cX9_ask 59 = .ok (.iload 6, 2) := by decide +kernel
theorem dX9_ask_61 : decode cX9_ask 61 = .ok (.iload 4, 2) := by decide +kernel
theorem dX9_ask_63 : decode cX9_ask 63 = .ok (.if_icmp .lt 6, 3) := by decide +kernel
theorem dX9_ask_66 : decode cX9_ask 66 = .ok (.goto 10, 3) := by decide +kernel
theorem dX9_ask_69 : decode cX9_ask 69 = .ok (.iload 5, 2) := by decide +kernel
theorem dX9_ask_71 : decode cX9_ask 71 = .ok (.istore_n 3, 1) := by decide +kernel
theorem dX9_ask_72 : decode cX9_ask 72 = .ok (.iload 6, 2) := by decide +kernel
theorem dX9_ask_74 : decode cX9_ask 74 = .ok (.istore 4, 2) := by decide +kernel
theorem dX9_ask_76 : decode cX9_ask 76 = .ok (.iinc 5 1, 3) := by decide +kernel
theorem dX9_ask_79 : decode cX9_ask 79 = .ok (.goto (-37), 3) := by decide +kernel
theorem dX9_ask_82 : decode cX9_ask 82 = .ok (.iload_n 1, 1) := by decide +kernel
theorem dX9_ask_83 : decode cX9_ask 83 = .ok (.ifCond .ne 7, 3) := by decide +kernel
theorem dX9_ask_86 : decode cX9_ask 86 = .ok (.iload_n 3, 1) := by decide +kernel
theorem dX9_ask_87 : decode cX9_ask 87 = .ok (.goto 5, 3) := by decide +kernel
theorem dX9_ask_90 : decode cX9_ask 90 = .ok (.iload 4, 2) := by decide +kernel
theorem dX9_ask_92 : decode cX9_ask 92 = .ok (.ireturn, 1) := by decide +kernel
theorem dX9_asked_0 : decode cX9_asked 0 = .ok (.iload_n 1, 1) := by decide +kernel
theorem dX9_asked_1 : decode cX9_asked 1 = .ok (.tableswitch 138 108 119 #[89, 138, 138, 98, 116, 138, 138, 63, 76, 125, 138, 111], 63) := by decide +kernel
theorem dX9_asked_64 : decode cX9_asked 64 = .ok (.aload_n 0, 1) := by decide +kernel
theorem dX9_asked_65 : decode cX9_asked 65 = .ok (.aload_n 0, 1) := by decide +kernel
theorem dX9_asked_66 : decode cX9_asked 66 = .ok (.getfield 324, 3) := by decide +kernel
theorem dX9_asked_69 : decode cX9_asked 69 = .ok (.aload_n 0, 1) := by decide +kernel
theorem dX9_asked_70 : decode cX9_asked 70 = .ok (.getfield 327, 3) := by decide +kernel
theorem dX9_asked_73 : decode cX9_asked 73 = .ok (.invokevirtual 330, 3) := by decide +kernel
theorem dX9_asked_76 : decode cX9_asked 76 = .ok (.ireturn, 1) := by decide +kernel
theorem dX9_asked_77 : decode cX9_asked 77 = .ok (.aload_n 0, 1) := by decide +kernel
theorem dX9_asked_78 : decode cX9_asked 78 = .ok (.aload_n 0, 1) := by decide +kernel
theorem dX9_asked_79 : decode cX9_asked 79 = .ok (.getfield 324, 3) := by decide +kernel
theorem dX9_asked_82 : decode cX9_asked 82 = .ok (.aload_n 0, 1) := by decide +kernel
theorem dX9_asked_83 : decode cX9_asked 83 = .ok (.getfield 327, 3) := by decide +kernel
theorem dX9_asked_86 : decode cX9_asked 86 = .ok (.invokevirtual 333, 3) := by decide +kernel
theorem dX9_asked_89 : decode cX9_asked 89 = .ok (.ireturn, 1) := by decide +kernel
theorem dX9_asked_90 : decode cX9_asked 90 = .ok (.aload_n 0, 1) := by decide +kernel
theorem dX9_asked_91 : decode cX9_asked 91 = .ok (.aload_n 0, 1) := by decide +kernel
theorem dX9_asked_92 : decode cX9_asked 92 = .ok (.getfield 327, 3) := by decide +kernel
theorem dX9_asked_95 : decode cX9_asked 95 = .ok (.invokevirtual 336, 3) := by decide +kernel
theorem dX9_asked_98 : decode cX9_asked 98 = .ok (.ireturn, 1) := by decide +kernel
theorem dX9_asked_99 : decode cX9_asked 99 = .ok (.aload_n 0, 1) := by decide +kernel
theorem dX9_asked_100 : decode cX9_asked 100 = .ok (.getfield 88, 3) := by decide +kernel
theorem dX9_asked_103 : decode cX9_asked 103 = .ok (.bipush 10, 2) := by decide +kernel
theorem dX9_asked_105 : decode cX9_asked 105 = .ok (.aload_n 0, 1) := by decide +kernel
theorem dX9_asked_106 : decode cX9_asked 106 = .ok (.getfield 327, 3) := by decide +kernel
theorem dX9_asked_109 : decode cX9_asked 109 = .ok (.iadd, 1) := by decide +kernel
theorem dX9_asked_110 : decode cX9_asked 110 = .ok (.iaload, 1) := by decide +kernel
theorem dX9_asked_111 : decode cX9_asked 111 = .ok (.ireturn, 1) := by decide +kernel
theorem dX9_asked_112 : decode cX9_asked 112 = .ok (.aload_n 0, 1) := by decide +kernel
theorem dX9_asked_113 : decode cX9_asked 113 = .ok (.getfield 339, 3) := by decide +kernel
theorem dX9_asked_116 : decode cX9_asked 116 = .ok (.ireturn, 1) := by decide +kernel
theorem dX9_asked_117 : decode cX9_asked 117 = .ok (.aload_n 0, 1) := by decide +kernel
theorem dX9_asked_118 : decode cX9_asked 118 = .ok (.aload_n 0, 1) := by decide +kernel
theorem dX9_asked_119 : decode cX9_asked 119 = .ok (.getfield 327, 3) := by decide +kernel
theorem dX9_asked_122 : decode cX9_asked 122 = .ok (.invokevirtual 342, 3) := by decide +kernel
theorem dX9_asked_125 : decode cX9_asked 125 = .ok (.ireturn, 1) := by decide +kernel
theorem dX9_asked_126 : decode cX9_asked 126 = .ok (.aload_n 0, 1) := by decide +kernel
theorem dX9_asked_127 : decode cX9_asked 127 = .ok (.getfield 88, 3) := by decide +kernel
theorem dX9_asked_130 : decode cX9_asked 130 = .ok (.bipush 20, 2) := by decide +kernel
theorem dX9_asked_132 : decode cX9_asked 132 = .ok (.aload_n 0, 1) := by decide +kernel
theorem dX9_asked_133 : decode cX9_asked 133 = .ok (.getfield 324, 3) := by decide +kernel
theorem dX9_asked_136 : decode cX9_asked 136 = .ok (.iadd, 1) := by decide +kernel
theorem dX9_asked_137 : decode cX9_asked 137 = .ok (.iaload, 1) := by decide +kernel
theorem dX9_asked_138 : decode cX9_asked 138 = .ok (.ireturn, 1) := by decide +kernel
theorem dX9_asked_139 : decode cX9_asked 139 = .ok (.iload_n 2, 1) := by decide +kernel
theorem dX9_asked_140 : decode cX9_asked 140 = .ok (.ireturn, 1) := by decide +kernel
theorem dX9_barter_0 : decode cX9_barter 0 = .ok (.iconst (-1), 1) := by decide +kernel
theorem dX9_barter_1 : decode cX9_barter 1 = .ok (.istore_n 1, 1) := by decide +kernel
theorem dX9_barter_2 : decode cX9_barter 2 = .ok (.ldc_w 427, 3) := by decide +kernel
theorem dX9_barter_5 : decode cX9_barter 5 = .ok (.istore_n 2, 1) := by decide +kernel
theorem dX9_barter_6 : decode cX9_barter 6 = .ok (.iconst 0, 1) := by decide +kernel
theorem dX9_barter_7 : decode cX9_barter 7 = .ok (.istore_n 3, 1) := by decide +kernel
theorem dX9_barter_8 : decode cX9_barter 8 = .ok (.iload_n 3, 1) := by decide +kernel
theorem dX9_barter_9 : decode cX9_barter 9 = .ok (.aload_n 0, 1) := by decide +kernel
theorem dX9_barter_10 : decode cX9_barter 10 = .ok (.invokevirtual 351, 3) := by decide +kernel
theorem dX9_barter_13 : decode cX9_barter 13 = .ok (.iconst 1, 1) := by decide +kernel
theorem dX9_barter_14 : decode cX9_barter 14 = .ok (.iadd, 1) := by decide +kernel
theorem dX9_barter_15 : decode cX9_barter 15 = .ok (.aload_n 0, 1) := by decide +kernel
theorem dX9_barter_16 : decode cX9_barter 16 = .ok (.invokevirtual 358, 3) := by decide +kernel
theorem dX9_barter_19 : decode cX9_barter 19 = .ok (.invokestatic 462, 3) := by decide +kernel
theorem dX9_barter_22 : decode cX9_barter 22 = .ok (.if_icmp .ge 30, 3) := by decide +kernel
theorem dX9_barter_25 : decode cX9_barter 25 = .ok (.aload_n 0, 1) := by decide +kernel
theorem dX9_barter_26 : decode cX9_barter 26 = .ok (.iload_n 3, 1) := by decide +kernel
theorem dX9_barter_27 : decode cX9_barter 27 = .ok (.invokevirtual 480, 3) := by decide +kernel
theorem dX9_barter_30 : decode cX9_barter 30 = .ok (.istore 4, 2) := by decide +kernel
theorem dX9_barter_32 : decode cX9_barter 32 = .ok (.iload 4, 2) := by decide +kernel
theorem dX9_barter_34 : decode cX9_barter 34 = .ok (.iload_n 2, 1) := by decide +kernel
theorem dX9_barter_35 : decode cX9_barter 35 = .ok (.if_icmp .gt 6, 3) := by decide +kernel
theorem dX9_barter_38 : decode cX9_barter 38 = .ok (.goto 8, 3) := by decide +kernel
theorem dX9_barter_41 : decode cX9_barter 41 = .ok (.iload_n 3, 1) := by decide +kernel
theorem dX9_barter_42 : decode cX9_barter 42 = .ok (.istore_n 1, 1) := by decide +kernel
theorem dX9_barter_43 : decode cX9_barter 43 = .ok (.iload 4, 2) := by decide +kernel
theorem dX9_barter_45 : decode cX9_barter 45 = .ok (.istore_n 2, 1) := by decide +kernel
theorem dX9_barter_46 : decode cX9_barter 46 = .ok (.iinc 3 1, 3) := by decide +kernel
theorem dX9_barter_49 : decode cX9_barter 49 = .ok (.goto (-41), 3) := by decide +kernel
theorem dX9_barter_52 : decode cX9_barter 52 = .ok (.aload_n 0, 1) := by decide +kernel
theorem dX9_barter_53 : decode cX9_barter 53 = .ok (.aload_n 0, 1) := by decide +kernel
theorem dX9_barter_54 : decode cX9_barter 54 = .ok (.invokevirtual 358, 3) := by decide +kernel
theorem dX9_barter_57 : decode cX9_barter 57 = .ok (.putfield 373, 3) := by decide +kernel
theorem dX9_barter_60 : decode cX9_barter 60 = .ok (.iconst 0, 1) := by decide +kernel
theorem dX9_barter_61 : decode cX9_barter 61 = .ok (.istore_n 3, 1) := by decide +kernel
theorem dX9_barter_62 : decode cX9_barter 62 = .ok (.iload_n 3, 1) := by decide +kernel
theorem dX9_barter_63 : decode cX9_barter 63 = .ok (.aload_n 0, 1) := by decide +kernel
theorem dX9_barter_64 : decode cX9_barter 64 = .ok (.invokevirtual 358, 3) := by decide +kernel
theorem dX9_barter_67 : decode cX9_barter 67 = .ok (.if_icmp .ge 50, 3) := by decide +kernel
theorem dX9_barter_70 : decode cX9_barter 70 = .ok (.aload_n 0, 1) := by decide +kernel
theorem dX9_barter_71 : decode cX9_barter 71 = .ok (.getfield 97, 3) := by decide +kernel
theorem dX9_barter_74 : decode cX9_barter 74 = .ok (.iload_n 3, 1) := by decide +kernel
theorem dX9_barter_75 : decode cX9_barter 75 = .ok (.aload_n 0, 1) := by decide +kernel
theorem dX9_barter_76 : decode cX9_barter 76 = .ok (.iload_n 1, 1) := by decide +kernel
theorem dX9_barter_77 : decode cX9_barter 77 = .ok (.aload_n 0, 1) := by decide +kernel
theorem dX9_barter_78 : decode cX9_barter 78 = .ok (.invokevirtual 351, 3) := by decide +kernel
theorem dX9_barter_81 : decode cX9_barter 81 = .ok (.iconst 1, 1) := by decide +kernel
theorem dX9_barter_82 : decode cX9_barter 82 = .ok (.iadd, 1) := by decide +kernel
theorem dX9_barter_83 : decode cX9_barter 83 = .ok (.iload_n 3, 1) := by decide +kernel
theorem dX9_barter_84 : decode cX9_barter 84 = .ok (.invokevirtual 465, 3) := by decide +kernel
theorem dX9_barter_87 : decode cX9_barter 87 = .ok (.aload_n 0, 1) := by decide +kernel
theorem dX9_barter_88 : decode cX9_barter 88 = .ok (.invokevirtual 351, 3) := by decide +kernel
theorem dX9_barter_91 : decode cX9_barter 91 = .ok (.if_icmp .ne 7, 3) := by decide +kernel
theorem dX9_barter_94 : decode cX9_barter 94 = .ok (.iconst (-1), 1) := by decide +kernel
theorem dX9_barter_95 : decode cX9_barter 95 = .ok (.goto 15, 3) := by decide +kernel
theorem dX9_barter_98 : decode cX9_barter 98 = .ok (.aload_n 0, 1) := by decide +kernel
theorem dX9_barter_99 : decode cX9_barter 99 = .ok (.iload_n 1, 1) := by decide +kernel
theorem dX9_barter_100 : decode cX9_barter 100 = .ok (.aload_n 0, 1) := by decide +kernel
theorem dX9_barter_101 : decode cX9_barter 101 = .ok (.invokevirtual 351, 3) := by decide +kernel
theorem dX9_barter_104 : decode cX9_barter 104 = .ok (.iconst 1, 1) := by decide +kernel
theorem dX9_barter_105 : decode cX9_barter 105 = .ok (.iadd, 1) := by decide +kernel
theorem dX9_barter_106 : decode cX9_barter 106 = .ok (.iload_n 3, 1) := by decide +kernel
theorem dX9_barter_107 : decode cX9_barter 107 = .ok (.invokevirtual 465, 3) := by decide +kernel
theorem dX9_barter_110 : decode cX9_barter 110 = .ok (.iastore, 1) := by decide +kernel
theorem dX9_barter_111 : decode cX9_barter 111 = .ok (.iinc 3 1, 3) := by decide +kernel
theorem dX9_barter_114 : decode cX9_barter 114 = .ok (.goto (-52), 3) := by decide +kernel
theorem dX9_barter_117 : decode cX9_barter 117 = .ok (.iload_n 2, 1) := by decide +kernel
theorem dX9_barter_118 : decode cX9_barter 118 = .ok (.ireturn, 1) := by decide +kernel
theorem dX9_barterOf_0 : decode cX9_barterOf 0 = .ok (.iconst 0, 1) := by decide +kernel
theorem dX9_barterOf_1 : decode cX9_barterOf 1 = .ok (.istore_n 2, 1) := by decide +kernel
theorem dX9_barterOf_2 : decode cX9_barterOf 2 = .ok (.iconst 0, 1) := by decide +kernel
theorem dX9_barterOf_3 : decode cX9_barterOf 3 = .ok (.istore_n 3, 1) := by decide +kernel
theorem dX9_barterOf_4 : decode cX9_barterOf 4 = .ok (.iconst 0, 1) := by decide +kernel
theorem dX9_barterOf_5 : decode cX9_barterOf 5 = .ok (.istore 4, 2) := by decide +kernel
theorem dX9_barterOf_7 : decode cX9_barterOf 7 = .ok (.iload 4, 2) := by decide +kernel
theorem dX9_barterOf_9 : decode cX9_barterOf 9 = .ok (.aload_n 0, 1) := by decide +kernel
theorem dX9_barterOf_10 : decode cX9_barterOf 10 = .ok (.invokevirtual 358, 3) := by decide +kernel
theorem dX9_barterOf_13 : decode cX9_barterOf 13 = .ok (.if_icmp .ge 122, 3) := by decide +kernel
theorem dX9_barterOf_16 : decode cX9_barterOf 16 = .ok (.aload_n 0, 1) := by decide +kernel
theorem dX9_barterOf_17 : decode cX9_barterOf 17 = .ok (.iload 4, 2) := by decide +kernel
theorem dX9_barterOf_19 : decode cX9_barterOf 19 = .ok (.invokevirtual 396, 3) := by decide +kernel
theorem dX9_barterOf_22 : decode cX9_barterOf 22 = .ok (.istore 5, 2) := by decide +kernel
theorem dX9_barterOf_24 : decode cX9_barterOf 24 = .ok (.aload_n 0, 1) := by decide +kernel
theorem dX9_barterOf_25 : decode cX9_barterOf 25 = .ok (.iload_n 1, 1) := by decide +kernel
theorem dX9_barterOf_26 : decode cX9_barterOf 26 = .ok (.aload_n 0, 1) := by decide +kernel
theorem dX9_barterOf_27 : decode cX9_barterOf 27 = .ok (.invokevirtual 351, 3) := by decide +kernel
theorem dX9_barterOf_30 : decode cX9_barterOf 30 = .ok (.iconst 1, 1) := by decide +kernel
theorem dX9_barterOf_31 : decode cX9_barterOf 31 = .ok (.iadd, 1) := by decide +kernel
theorem dX9_barterOf_32 : decode cX9_barterOf 32 = .ok (.iload 4, 2) := by decide +kernel
theorem dX9_barterOf_34 : decode cX9_barterOf 34 = .ok (.invokevirtual 465, 3) := by decide +kernel
theorem dX9_barterOf_37 : decode cX9_barterOf 37 = .ok (.istore 6, 2) := by decide +kernel
theorem dX9_barterOf_39 : decode cX9_barterOf 39 = .ok (.iload 5, 2) := by decide +kernel
theorem dX9_barterOf_41 : decode cX9_barterOf 41 = .ok (.ifCond .ge 15, 3) := by decide +kernel
theorem dX9_barterOf_44 : decode cX9_barterOf 44 = .ok (.iload 6, 2) := by decide +kernel
theorem dX9_barterOf_46 : decode cX9_barterOf 46 = .ok (.aload_n 0, 1) := by decide +kernel
theorem dX9_barterOf_47 : decode cX9_barterOf 47 = .ok (.invokevirtual 351, 3) := by decide +kernel
theorem dX9_barterOf_50 : decode cX9_barterOf 50 = .ok (.if_icmp .ne 6, 3) := by decide +kernel
theorem dX9_barterOf_53 : decode cX9_barterOf 53 = .ok (.goto 76, 3) := by decide +kernel
theorem dX9_barterOf_56 : decode cX9_barterOf 56 = .ok (.iload 5, 2) := by decide +kernel
theorem dX9_barterOf_58 : decode cX9_barterOf 58 = .ok (.ifCond .lt 49, 3) := by decide +kernel
theorem dX9_barterOf_61 : decode cX9_barterOf 61 = .ok (.iload 6, 2) := by decide +kernel
theorem dX9_barterOf_63 : decode cX9_barterOf 63 = .ok (.aload_n 0, 1) := by decide +kernel
theorem dX9_barterOf_64 : decode cX9_barterOf 64 = .ok (.invokevirtual 351, 3) := by decide +kernel
theorem dX9_barterOf_67 : decode cX9_barterOf 67 = .ok (.if_icmp .eq 40, 3) := by decide +kernel
theorem dX9_barterOf_70 : decode cX9_barterOf 70 = .ok (.iload_n 2, 1) := by decide +kernel
theorem dX9_barterOf_71 : decode cX9_barterOf 71 = .ok (.iload 6, 2) := by decide +kernel
theorem dX9_barterOf_73 : decode cX9_barterOf 73 = .ok (.invokestatic 255, 3) := by decide +kernel
theorem dX9_barterOf_76 : decode cX9_barterOf 76 = .ok (.ifCond .ne 31, 3) := by decide +kernel
theorem dX9_barterOf_79 : decode cX9_barterOf 79 = .ok (.aload_n 0, 1) := by decide +kernel
theorem dX9_barterOf_80 : decode cX9_barterOf 80 = .ok (.iload 6, 2) := by decide +kernel
theorem dX9_barterOf_82 : decode cX9_barterOf 82 = .ok (.invokevirtual 440, 3) := by decide +kernel
theorem dX9_barterOf_85 : decode cX9_barterOf 85 = .ok (.ifCond .eq 22, 3) := by decide +kernel
theorem dX9_barterOf_88 : decode cX9_barterOf 88 = .ok (.aload_n 0, 1) := by decide +kernel
theorem dX9_barterOf_89 : decode cX9_barterOf 89 = .ok (.iload 4, 2) := by decide +kernel
theorem dX9_barterOf_91 : decode cX9_barterOf 91 = .ok (.iload 6, 2) := by decide +kernel
theorem dX9_barterOf_93 : decode cX9_barterOf 93 = .ok (.invokevirtual 477, 3) := by decide +kernel
theorem dX9_barterOf_96 : decode cX9_barterOf 96 = .ok (.aload_n 0, 1) := by decide +kernel
theorem dX9_barterOf_97 : decode cX9_barterOf 97 = .ok (.iload 4, 2) := by decide +kernel
theorem dX9_barterOf_99 : decode cX9_barterOf 99 = .ok (.iload 5, 2) := by decide +kernel
theorem dX9_barterOf_101 : decode cX9_barterOf 101 = .ok (.invokevirtual 424, 3) := by decide +kernel
theorem dX9_barterOf_104 : decode cX9_barterOf 104 = .ok (.if_icmp .ge 7, 3) := by decide +kernel
theorem dX9_barterOf_107 : decode cX9_barterOf 107 = .ok (.ldc_w 427, 3) := by decide +kernel
theorem dX9_barterOf_110 : decode cX9_barterOf 110 = .ok (.ireturn, 1) := by decide +kernel
theorem dX9_barterOf_111 : decode cX9_barterOf 111 = .ok (.iload_n 2, 1) := by decide +kernel
theorem dX9_barterOf_112 : decode cX9_barterOf 112 = .ok (.iconst 1, 1) := by decide +kernel
theorem dX9_barterOf_113 : decode cX9_barterOf 113 = .ok (.iload 6, 2) := by decide +kernel
theorem dX9_barterOf_115 : decode cX9_barterOf 115 = .ok (.ishl, 1) := by decide +kernel
theorem dX9_barterOf_116 : decode cX9_barterOf 116 = .ok (.ior, 1) := by decide +kernel
theorem dX9_barterOf_117 : decode cX9_barterOf 117 = .ok (.istore_n 2, 1) := by decide +kernel
theorem dX9_barterOf_118 : decode cX9_barterOf 118 = .ok (.iload_n 3, 1) := by decide +kernel
theorem dX9_barterOf_119 : decode cX9_barterOf 119 = .ok (.aload_n 0, 1) := by decide +kernel
theorem dX9_barterOf_120 : decode cX9_barterOf 120 = .ok (.iload 4, 2) := by decide +kernel
theorem dX9_barterOf_122 : decode cX9_barterOf 122 = .ok (.iload 6, 2) := by decide +kernel
theorem dX9_barterOf_124 : decode cX9_barterOf 124 = .ok (.invokevirtual 477, 3) := by decide +kernel
theorem dX9_barterOf_127 : decode cX9_barterOf 127 = .ok (.iadd, 1) := by decide +kernel
theorem dX9_barterOf_128 : decode cX9_barterOf 128 = .ok (.istore_n 3, 1) := by decide +kernel
theorem dX9_barterOf_129 : decode cX9_barterOf 129 = .ok (.iinc 4 1, 3) := by decide +kernel
theorem dX9_barterOf_132 : decode cX9_barterOf 132 = .ok (.goto (-125), 3) := by decide +kernel
theorem dX9_barterOf_135 : decode cX9_barterOf 135 = .ok (.iload_n 3, 1) := by decide +kernel
theorem dX9_barterOf_136 : decode cX9_barterOf 136 = .ok (.ireturn, 1) := by decide +kernel
theorem dX9_behindUnit_0 : decode cX9_behindUnit 0 = .ok (.aload_n 0, 1) := by decide +kernel
theorem dX9_behindUnit_1 : decode cX9_behindUnit 1 = .ok (.invokevirtual 318, 3) := by decide +kernel
theorem dX9_behindUnit_4 : decode cX9_behindUnit 4 = .ok (.istore_n 1, 1) := by decide +kernel
theorem dX9_behindUnit_5 : decode cX9_behindUnit 5 = .ok (.iload_n 1, 1) := by decide +kernel
theorem dX9_behindUnit_6 : decode cX9_behindUnit 6 = .ok (.iconst 4, 1) := by decide +kernel
theorem dX9_behindUnit_7 : decode cX9_behindUnit 7 = .ok (.if_icmp .ne 16, 3) := by decide +kernel
theorem dX9_behindUnit_10 : decode cX9_behindUnit 10 = .ok (.aload_n 0, 1) := by decide +kernel
theorem dX9_behindUnit_11 : decode cX9_behindUnit 11 = .ok (.invokevirtual 321, 3) := by decide +kernel
theorem dX9_behindUnit_14 : decode cX9_behindUnit 14 = .ok (.ifCond .eq 9, 3) := by decide +kernel
theorem dX9_behindUnit_17 : decode cX9_behindUnit 17 = .ok (.aload_n 0, 1) := by decide +kernel
theorem dX9_behindUnit_18 : decode cX9_behindUnit 18 = .ok (.invokevirtual 226, 3) := by decide +kernel
theorem dX9_behindUnit_21 : decode cX9_behindUnit 21 = .ok (.iconst 1, 1) := by decide +kernel
theorem dX9_behindUnit_22 : decode cX9_behindUnit 22 = .ok (.ireturn, 1) := by decide +kernel
theorem dX9_behindUnit_23 : decode cX9_behindUnit 23 = .ok (.aload_n 0, 1) := by decide +kernel
theorem dX9_behindUnit_24 : decode cX9_behindUnit 24 = .ok (.getfield 79, 3) := by decide +kernel
theorem dX9_behindUnit_27 : decode cX9_behindUnit 27 = .ok (.aload_n 0, 1) := by decide +kernel
theorem dX9_behindUnit_28 : decode cX9_behindUnit 28 = .ok (.getfield 296, 3) := by decide +kernel
theorem dX9_behindUnit_31 : decode cX9_behindUnit 31 = .ok (.iconst 1, 1) := by decide +kernel
theorem dX9_behindUnit_32 : decode cX9_behindUnit 32 = .ok (.isub, 1) := by decide +kernel
theorem dX9_behindUnit_33 : decode cX9_behindUnit 33 = .ok (.iaload, 1) := by decide +kernel
theorem dX9_behindUnit_34 : decode cX9_behindUnit 34 = .ok (.bipush 6, 2) := by decide +kernel
theorem dX9_behindUnit_36 : decode cX9_behindUnit 36 = .ok (.if_icmp .gt 68, 3) := by decide +kernel
theorem dX9_behindUnit_39 : decode cX9_behindUnit 39 = .ok (.aload_n 0, 1) := by decide +kernel
theorem dX9_behindUnit_40 : decode cX9_behindUnit 40 = .ok (.getfield 79, 3) := by decide +kernel
theorem dX9_behindUnit_43 : decode cX9_behindUnit 43 = .ok (.aload_n 0, 1) := by decide +kernel
theorem dX9_behindUnit_44 : decode cX9_behindUnit 44 = .ok (.getfield 296, 3) := by decide +kernel
theorem dX9_behindUnit_47 : decode cX9_behindUnit 47 = .ok (.iconst 1, 1) := by decide +kernel
theorem dX9_behindUnit_48 : decode cX9_behindUnit 48 = .ok (.isub, 1) := by decide +kernel
theorem dX9_behindUnit_49 : decode cX9_behindUnit 49 = .ok (.iaload, 1) := by decide +kernel
theorem dX9_behindUnit_50 : decode cX9_behindUnit 50 = .ok (.iload_n 1, 1) := by decide +kernel
theorem dX9_behindUnit_51 : decode cX9_behindUnit 51 = .ok (.if_icmp .lt 53, 3) := by decide +kernel
theorem dX9_behindUnit_54 : decode cX9_behindUnit 54 = .ok (.aload_n 0, 1) := by decide +kernel
theorem dX9_behindUnit_55 : decode cX9_behindUnit 55 = .ok (.dup, 1) := by decide +kernel
theorem dX9_behindUnit_56 : decode cX9_behindUnit 56 = .ok (.getfield 296, 3) := by decide +kernel
theorem dX9_behindUnit_59 : decode cX9_behindUnit 59 = .ok (.iconst 1, 1) := by decide +kernel
theorem dX9_behindUnit_60 : decode cX9_behindUnit 60 = .ok (.isub, 1) := by decide +kernel
theorem dX9_behindUnit_61 : decode cX9_behindUnit 61 = .ok (.putfield 296, 3) := by decide +kernel
theorem dX9_behindUnit_64 : decode cX9_behindUnit 64 = .ok (.aload_n 0, 1) := by decide +kernel
theorem dX9_behindUnit_65 : decode cX9_behindUnit 65 = .ok (.getfield 79, 3) := by decide +kernel
theorem dX9_behindUnit_68 : decode cX9_behindUnit 68 = .ok (.aload_n 0, 1) := by decide +kernel
theorem dX9_behindUnit_69 : decode cX9_behindUnit 69 = .ok (.getfield 296, 3) := by decide +kernel
theorem dX9_behindUnit_72 : decode cX9_behindUnit 72 = .ok (.iaload, 1) := by decide +kernel
theorem dX9_behindUnit_73 : decode cX9_behindUnit 73 = .ok (.iconst 3, 1) := by decide +kernel
theorem dX9_behindUnit_74 : decode cX9_behindUnit 74 = .ok (.if_icmp .ne 13, 3) := by decide +kernel
theorem dX9_behindUnit_77 : decode cX9_behindUnit 77 = .ok (.aload_n 0, 1) := by decide +kernel
theorem dX9_behindUnit_78 : decode cX9_behindUnit 78 = .ok (.dup, 1) := by decide +kernel
theorem dX9_behindUnit_79 : decode cX9_behindUnit 79 = .ok (.getfield 299, 3) := by decide +kernel
theorem dX9_behindUnit_82 : decode cX9_behindUnit 82 = .ok (.iconst 1, 1) := by decide +kernel
theorem dX9_behindUnit_83 : decode cX9_behindUnit 83 = .ok (.isub, 1) := by decide +kernel
theorem dX9_behindUnit_84 : decode cX9_behindUnit 84 = .ok (.putfield 299, 3) := by decide +kernel
theorem dX9_behindUnit_87 : decode cX9_behindUnit 87 = .ok (.aload_n 0, 1) := by decide +kernel
theorem dX9_behindUnit_88 : decode cX9_behindUnit 88 = .ok (.aload_n 0, 1) := by decide +kernel
theorem dX9_behindUnit_89 : decode cX9_behindUnit 89 = .ok (.getfield 82, 3) := by decide +kernel
theorem dX9_behindUnit_92 : decode cX9_behindUnit 92 = .ok (.aload_n 0, 1) := by decide +kernel
theorem dX9_behindUnit_93 : decode cX9_behindUnit 93 = .ok (.getfield 296, 3) := by decide +kernel
theorem dX9_behindUnit_96 : decode cX9_behindUnit 96 = .ok (.iaload, 1) := by decide +kernel
theorem dX9_behindUnit_97 : decode cX9_behindUnit 97 = .ok (.iconst 0, 1) := by decide +kernel
theorem dX9_behindUnit_98 : decode cX9_behindUnit 98 = .ok (.invokevirtual 315, 3) := by decide +kernel
theorem dX9_behindUnit_101 : decode cX9_behindUnit 101 = .ok (.goto (-78), 3) := by decide +kernel
theorem dX9_behindUnit_104 : decode cX9_behindUnit 104 = .ok (.iload_n 1, 1) := by decide +kernel
theorem dX9_behindUnit_105 : decode cX9_behindUnit 105 = .ok (.ifCond .le 42, 3) := by decide +kernel
theorem dX9_behindUnit_108 : decode cX9_behindUnit 108 = .ok (.aload_n 0, 1) := by decide +kernel
theorem dX9_behindUnit_109 : decode cX9_behindUnit 109 = .ok (.iload_n 1, 1) := by decide +kernel
theorem dX9_behindUnit_110 : decode cX9_behindUnit 110 = .ok (.iload_n 1, 1) := by decide +kernel
theorem dX9_behindUnit_111 : decode cX9_behindUnit 111 = .ok (.iconst 2, 1) := by decide +kernel
theorem dX9_behindUnit_112 : decode cX9_behindUnit 112 = .ok (.if_icmp .ne 8, 3) := by decide +kernel
theorem dX9_behindUnit_115 : decode cX9_behindUnit 115 = .ok (.bipush 38, 2) := by decide +kernel
theorem dX9_behindUnit_117 : decode cX9_behindUnit 117 = .ok (.goto 21, 3) := by decide +kernel
theorem dX9_behindUnit_120 : decode cX9_behindUnit 120 = .ok (.iload_n 1, 1) := by decide +kernel
theorem dX9_behindUnit_121 : decode cX9_behindUnit 121 = .ok (.iconst 1, 1) := by decide +kernel
theorem dX9_behindUnit_122 : decode cX9_behindUnit 122 = .ok (.if_icmp .ne 8, 3) := by decide +kernel
theorem dX9_behindUnit_125 : decode cX9_behindUnit 125 = .ok (.bipush 124, 2) := by decide +kernel
theorem dX9_behindUnit_127 : decode cX9_behindUnit 127 = .ok (.goto 11, 3) := by decide +kernel
theorem dX9_behindUnit_130 : decode cX9_behindUnit 130 = .ok (.aload_n 0, 1) := by decide +kernel
theorem dX9_behindUnit_131 : decode cX9_behindUnit 131 = .ok (.aload_n 0, 1) := by decide +kernel
theorem dX9_behindUnit_132 : decode cX9_behindUnit 132 = .ok (.getfield 184, 3) := by decide +kernel
theorem dX9_behindUnit_135 : decode cX9_behindUnit 135 = .ok (.invokevirtual 187, 3) := by decide +kernel
theorem dX9_behindUnit_138 : decode cX9_behindUnit 138 = .ok (.invokevirtual 302, 3) := by decide +kernel
theorem dX9_behindUnit_141 : decode cX9_behindUnit 141 = .ok (.aload_n 0, 1) := by decide +kernel
theorem dX9_behindUnit_142 : decode cX9_behindUnit 142 = .ok (.invokevirtual 223, 3) := by decide +kernel
theorem dX9_behindUnit_145 : decode cX9_behindUnit 145 = .ok (.iconst 1, 1) := by decide +kernel
theorem dX9_behindUnit_146 : decode cX9_behindUnit 146 = .ok (.ireturn, 1) := by decide +kernel
theorem dX9_behindUnit_147 : decode cX9_behindUnit 147 = .ok (.aload_n 0, 1) := by decide +kernel
theorem dX9_behindUnit_148 : decode cX9_behindUnit 148 = .ok (.dup, 1) := by decide +kernel
theorem dX9_behindUnit_149 : decode cX9_behindUnit 149 = .ok (.getfield 296, 3) := by decide +kernel
theorem dX9_behindUnit_152 : decode cX9_behindUnit 152 = .ok (.iconst 1, 1) := by decide +kernel
theorem dX9_behindUnit_153 : decode cX9_behindUnit 153 = .ok (.isub, 1) := by decide +kernel
theorem dX9_behindUnit_154 : decode cX9_behindUnit 154 = .ok (.putfield 296, 3) := by decide +kernel
theorem dX9_behindUnit_157 : decode cX9_behindUnit 157 = .ok (.aload_n 0, 1) := by decide +kernel
theorem dX9_behindUnit_158 : decode cX9_behindUnit 158 = .ok (.getfield 79, 3) := by decide +kernel
theorem dX9_behindUnit_161 : decode cX9_behindUnit 161 = .ok (.aload_n 0, 1) := by decide +kernel
theorem dX9_behindUnit_162 : decode cX9_behindUnit 162 = .ok (.getfield 296, 3) := by decide +kernel
theorem dX9_behindUnit_165 : decode cX9_behindUnit 165 = .ok (.iaload, 1) := by decide +kernel
theorem dX9_behindUnit_166 : decode cX9_behindUnit 166 = .ok (.bipush 7, 2) := by decide +kernel
theorem dX9_behindUnit_168 : decode cX9_behindUnit 168 = .ok (.if_icmp .ne 23, 3) := by decide +kernel
theorem dX9_behindUnit_171 : decode cX9_behindUnit 171 = .ok (.aload_n 0, 1) := by decide +kernel
theorem dX9_behindUnit_172 : decode cX9_behindUnit 172 = .ok (.dup, 1) := by decide +kernel
theorem dX9_behindUnit_173 : decode cX9_behindUnit 173 = .ok (.getfield 299, 3) := by decide +kernel
theorem dX9_behindUnit_176 : decode cX9_behindUnit 176 = .ok (.iconst 1, 1) := by decide +kernel
theorem dX9_behindUnit_177 : decode cX9_behindUnit 177 = .ok (.isub, 1) := by decide +kernel
theorem dX9_behindUnit_178 : decode cX9_behindUnit 178 = .ok (.putfield 299, 3) := by decide +kernel
theorem dX9_behindUnit_181 : decode cX9_behindUnit 181 = .ok (.aload_n 0, 1) := by decide +kernel
theorem dX9_behindUnit_182 : decode cX9_behindUnit 182 = .ok (.aload_n 0, 1) := by decide +kernel
theorem dX9_behindUnit_183 : decode cX9_behindUnit 183 = .ok (.bipush 41, 2) := by decide +kernel
theorem dX9_behindUnit_185 : decode cX9_behindUnit 185 = .ok (.invokevirtual 275, 3) := by decide +kernel
theorem dX9_behindUnit_188 : decode cX9_behindUnit 188 = .ok (.invokevirtual 232, 3) := by decide +kernel
theorem dX9_behindUnit_191 : decode cX9_behindUnit 191 = .ok (.iconst 0, 1) := by decide +kernel
theorem dX9_behindUnit_192 : decode cX9_behindUnit 192 = .ok (.ireturn, 1) := by decide +kernel
theorem dX9_bit_0 : decode cX9_bit 0 = .ok (.iload_n 0, 1) := by decide +kernel
theorem dX9_bit_1 : decode cX9_bit 1 = .ok (.iload_n 1, 1) := by decide +kernel
theorem dX9_bit_2 : decode cX9_bit 2 = .ok (.ishr, 1) := by decide +kernel
theorem dX9_bit_3 : decode cX9_bit 3 = .ok (.iconst 1, 1) := by decide +kernel
theorem dX9_bit_4 : decode cX9_bit 4 = .ok (.iand, 1) := by decide +kernel
theorem dX9_bit_5 : decode cX9_bit 5 = .ok (.iconst 1, 1) := by decide +kernel
theorem dX9_bit_6 : decode cX9_bit 6 = .ok (.if_icmp .ne 7, 3) := by decide +kernel
theorem dX9_bit_9 : decode cX9_bit 9 = .ok (.iconst 1, 1) := by decide +kernel
theorem dX9_bit_10 : decode cX9_bit 10 = .ok (.goto 4, 3) := by decide +kernel
theorem dX9_bit_13 : decode cX9_bit 13 = .ok (.iconst 0, 1) := by decide +kernel
theorem dX9_bit_14 : decode cX9_bit 14 = .ok (.ireturn, 1) := by decide +kernel
theorem dX9_bitsOf_0 : decode cX9_bitsOf 0 = .ok (.iconst 0, 1) := by decide +kernel
theorem dX9_bitsOf_1 : decode cX9_bitsOf 1 = .ok (.istore_n 1, 1) := by decide +kernel
theorem dX9_bitsOf_2 : decode cX9_bitsOf 2 = .ok (.iload_n 0, 1) := by decide +kernel
theorem dX9_bitsOf_3 : decode cX9_bitsOf 3 = .ok (.istore_n 2, 1) := by decide +kernel
theorem dX9_bitsOf_4 : decode cX9_bitsOf 4 = .ok (.iload_n 2, 1) := by decide +kernel
theorem dX9_bitsOf_5 : decode cX9_bitsOf 5 = .ok (.ifCond .eq 15, 3) := by decide +kernel
theorem dX9_bitsOf_8 : decode cX9_bitsOf 8 = .ok (.iinc 1 1, 3) := by decide +kernel
theorem dX9_bitsOf_11 : decode cX9_bitsOf 11 = .ok (.iload_n 2, 1) := by decide +kernel
theorem dX9_bitsOf_12 : decode cX9_bitsOf 12 = .ok (.iload_n 2, 1) := by decide +kernel
theorem dX9_bitsOf_13 : decode cX9_bitsOf 13 = .ok (.iconst 1, 1) := by decide +kernel
theorem dX9_bitsOf_14 : decode cX9_bitsOf 14 = .ok (.isub, 1) := by decide +kernel
theorem dX9_bitsOf_15 : decode cX9_bitsOf 15 = .ok (.iand, 1) := by decide +kernel
theorem dX9_bitsOf_16 : decode cX9_bitsOf 16 = .ok (.istore_n 2, 1) := by decide +kernel
theorem dX9_bitsOf_17 : decode cX9_bitsOf 17 = .ok (.goto (-13), 3) := by decide +kernel
theorem dX9_bitsOf_20 : decode cX9_bitsOf 20 = .ok (.iload_n 1, 1) := by decide +kernel
theorem dX9_bitsOf_21 : decode cX9_bitsOf 21 = .ok (.ireturn, 1) := by decide +kernel
theorem dX9_bring_0 : decode cX9_bring 0 = .ok (.aload_n 0, 1) := by decide +kernel
theorem dX9_bring_1 : decode cX9_bring 1 = .ok (.iload_n 1, 1) := by decide +kernel
theorem dX9_bring_2 : decode cX9_bring 2 = .ok (.invokevirtual 412, 3) := by decide +kernel
theorem dX9_bring_5 : decode cX9_bring 5 = .ok (.ifCond .eq 27, 3) := by decide +kernel
theorem dX9_bring_8 : decode cX9_bring 8 = .ok (.aload_n 0, 1) := by decide +kernel
theorem dX9_bring_9 : decode cX9_bring 9 = .ok (.iload_n 2, 1) := by decide +kernel
theorem dX9_bring_10 : decode cX9_bring 10 = .ok (.invokevirtual 415, 3) := by decide +kernel
theorem dX9_bring_13 : decode cX9_bring 13 = .ok (.ifCond .eq 19, 3) := by decide +kernel
theorem dX9_bring_16 : decode cX9_bring 16 = .ok (.aload_n 0, 1) := by decide +kernel
theorem dX9_bring_17 : decode cX9_bring 17 = .ok (.iload_n 1, 1) := by decide +kernel
theorem dX9_bring_18 : decode cX9_bring 18 = .ok (.invokevirtual 450, 3) := by decide +kernel
theorem dX9_bring_21 : decode cX9_bring 21 = .ok (.ifCond .eq 11, 3) := by decide +kernel
theorem dX9_bring_24 : decode cX9_bring 24 = .ok (.aload_n 0, 1) := by decide +kernel
theorem dX9_bring_25 : decode cX9_bring 25 = .ok (.iload_n 2, 1) := by decide +kernel
theorem dX9_bring_26 : decode cX9_bring 26 = .ok (.invokevirtual 396, 3) := by decide +kernel
theorem dX9_bring_29 : decode cX9_bring 29 = .ok (.ifCond .lt 7, 3) := by decide +kernel
theorem dX9_bring_32 : decode cX9_bring 32 = .ok (.ldc_w 427, 3) := by decide +kernel
theorem dX9_bring_35 : decode cX9_bring 35 = .ok (.ireturn, 1) := by decide +kernel
theorem dX9_bring_36 : decode cX9_bring 36 = .ok (.aload_n 0, 1) := by decide +kernel
theorem dX9_bring_37 : decode cX9_bring 37 = .ok (.invokevirtual 443, 3) := by decide +kernel
theorem dX9_bring_40 : decode cX9_bring 40 = .ok (.aload_n 0, 1) := by decide +kernel
theorem dX9_bring_41 : decode cX9_bring 41 = .ok (.getfield 88, 3) := by decide +kernel
theorem dX9_bring_44 : decode cX9_bring 44 = .ok (.iconst 0, 1) := by decide +kernel
theorem dX9_bring_45 : decode cX9_bring 45 = .ok (.iload_n 1, 1) := by decide +kernel
theorem dX9_bring_46 : decode cX9_bring 46 = .ok (.iadd, 1) := by decide +kernel
theorem dX9_bring_47 : decode cX9_bring 47 = .ok (.iload_n 2, 1) := by decide +kernel
theorem dX9_bring_48 : decode cX9_bring 48 = .ok (.iastore, 1) := by decide +kernel
theorem dX9_bring_49 : decode cX9_bring 49 = .ok (.aload_n 0, 1) := by decide +kernel
theorem dX9_bring_50 : decode cX9_bring 50 = .ok (.iload_n 2, 1) := by decide +kernel
theorem dX9_bring_51 : decode cX9_bring 51 = .ok (.iload_n 1, 1) := by decide +kernel
theorem dX9_bring_52 : decode cX9_bring 52 = .ok (.invokevirtual 424, 3) := by decide +kernel
theorem dX9_bring_55 : decode cX9_bring 55 = .ok (.ireturn, 1) := by decide +kernel
theorem dX9_bringBack_0 : decode cX9_bringBack 0 = .ok (.iconst 0, 1) := by decide +kernel
theorem dX9_bringBack_1 : decode cX9_bringBack 1 = .ok (.istore_n 1, 1) := by decide +kernel
theorem dX9_bringBack_2 : decode cX9_bringBack 2 = .ok (.iload_n 1, 1) := by decide +kernel
theorem dX9_bringBack_3 : decode cX9_bringBack 3 = .ok (.bipush 26, 2) := by decide +kernel
theorem dX9_bringBack_5 : decode cX9_bringBack 5 = .ok (.if_icmp .ge 21, 3) := by decide +kernel
theorem dX9_bringBack_8 : decode cX9_bringBack 8 = .ok (.aload_n 0, 1) := by decide +kernel
theorem dX9_bringBack_9 : decode cX9_bringBack 9 = .ok (.getfield 88, 3) := by decide +kernel
theorem dX9_bringBack_12 : decode cX9_bringBack 12 = .ok (.iload_n 1, 1) := by decide +kernel
theorem dX9_bringBack_13 : decode cX9_bringBack 13 = .ok (.aload_n 0, 1) := by decide +kernel
theorem dX9_bringBack_14 : decode cX9_bringBack 14 = .ok (.getfield 91, 3) := by decide +kernel
theorem dX9_bringBack_17 : decode cX9_bringBack 17 = .ok (.iload_n 1, 1) := by decide +kernel
theorem dX9_bringBack_18 : decode cX9_bringBack 18 = .ok (.iaload, 1) := by decide +kernel
theorem dX9_bringBack_19 : decode cX9_bringBack 19 = .ok (.iastore, 1) := by decide +kernel
theorem dX9_bringBack_20 : decode cX9_bringBack 20 = .ok (.iinc 1 1, 3) := by decide +kernel
theorem dX9_bringBack_23 : decode cX9_bringBack 23 = .ok (.goto (-21), 3) := by decide +kernel
theorem dX9_bringBack_26 : decode cX9_bringBack 26 = .ok (.return_, 1) := by decide +kernel
theorem dX9_cartNow_0 : decode cX9_cartNow 0 = .ok (.iconst 0, 1) := by decide +kernel
theorem dX9_cartNow_1 : decode cX9_cartNow 1 = .ok (.istore_n 1, 1) := by decide +kernel
theorem dX9_cartNow_2 : decode cX9_cartNow 2 = .ok (.iconst 0, 1) := by decide +kernel
theorem dX9_cartNow_3 : decode cX9_cartNow 3 = .ok (.istore_n 2, 1) := by decide +kernel
theorem dX9_cartNow_4 : decode cX9_cartNow 4 = .ok (.iload_n 2, 1) := by decide +kernel
theorem dX9_cartNow_5 : decode cX9_cartNow 5 = .ok (.aload_n 0, 1) := by decide +kernel
theorem dX9_cartNow_6 : decode cX9_cartNow 6 = .ok (.invokevirtual 351, 3) := by decide +kernel
theorem dX9_cartNow_9 : decode cX9_cartNow 9 = .ok (.if_icmp .ge 23, 3) := by decide +kernel
theorem dX9_cartNow_12 : decode cX9_cartNow 12 = .ok (.aload_n 0, 1) := by decide +kernel
theorem dX9_cartNow_13 : decode cX9_cartNow 13 = .ok (.iload_n 2, 1) := by decide +kernel
theorem dX9_cartNow_14 : decode cX9_cartNow 14 = .ok (.invokevirtual 450, 3) := by decide +kernel
theorem dX9_cartNow_17 : decode cX9_cartNow 17 = .ok (.ifCond .eq 9, 3) := by decide +kernel
theorem dX9_cartNow_20 : decode cX9_cartNow 20 = .ok (.iload_n 1, 1) := by decide +kernel
theorem dX9_cartNow_21 : decode cX9_cartNow 21 = .ok (.iconst 1, 1) := by decide +kernel
theorem dX9_cartNow_22 : decode cX9_cartNow 22 = .ok (.iload_n 2, 1) := by decide +kernel
theorem dX9_cartNow_23 : decode cX9_cartNow 23 = .ok (.ishl, 1) := by decide +kernel
theorem dX9_cartNow_24 : decode cX9_cartNow 24 = .ok (.ior, 1) := by decide +kernel
theorem dX9_cartNow_25 : decode cX9_cartNow 25 = .ok (.istore_n 1, 1) := by decide +kernel
theorem dX9_cartNow_26 : decode cX9_cartNow 26 = .ok (.iinc 2 1, 3) := by decide +kernel
theorem dX9_cartNow_29 : decode cX9_cartNow 29 = .ok (.goto (-25), 3) := by decide +kernel
theorem dX9_cartNow_32 : decode cX9_cartNow 32 = .ok (.iload_n 1, 1) := by decide +kernel
theorem dX9_cartNow_33 : decode cX9_cartNow 33 = .ok (.ireturn, 1) := by decide +kernel
theorem dX9_clearBank_0 : decode cX9_clearBank 0 = .ok (.aload_n 0, 1) := by decide +kernel
theorem dX9_clearBank_1 : decode cX9_clearBank 1 = .ok (.getfield 20, 3) := by decide +kernel
theorem dX9_clearBank_4 : decode cX9_clearBank 4 = .ok (.aload_n 0, 1) := by decide +kernel
theorem dX9_clearBank_5 : decode cX9_clearBank 5 = .ok (.getfield 240, 3) := by decide +kernel
theorem dX9_clearBank_8 : decode cX9_clearBank 8 = .ok (.iconst 1, 1) := by decide +kernel
theorem dX9_clearBank_9 : decode cX9_clearBank 9 = .ok (.iastore, 1) := by decide +kernel
theorem dX9_clearBank_10 : decode cX9_clearBank 10 = .ok (.aload_n 0, 1) := by decide +kernel
theorem dX9_clearBank_11 : decode cX9_clearBank 11 = .ok (.getfield 24, 3) := by decide +kernel
theorem dX9_clearBank_14 : decode cX9_clearBank 14 = .ok (.aload_n 0, 1) := by decide +kernel
theorem dX9_clearBank_15 : decode cX9_clearBank 15 = .ok (.getfield 240, 3) := by decide +kernel
theorem dX9_clearBank_18 : decode cX9_clearBank 18 = .ok (.iconst 0, 1) := by decide +kernel
theorem dX9_clearBank_19 : decode cX9_clearBank 19 = .ok (.iastore, 1) := by decide +kernel
theorem dX9_clearBank_20 : decode cX9_clearBank 20 = .ok (.aload_n 0, 1) := by decide +kernel
theorem dX9_clearBank_21 : decode cX9_clearBank 21 = .ok (.getfield 27, 3) := by decide +kernel
theorem dX9_clearBank_24 : decode cX9_clearBank 24 = .ok (.aload_n 0, 1) := by decide +kernel
theorem dX9_clearBank_25 : decode cX9_clearBank 25 = .ok (.getfield 240, 3) := by decide +kernel
theorem dX9_clearBank_28 : decode cX9_clearBank 28 = .ok (.iconst 0, 1) := by decide +kernel
theorem dX9_clearBank_29 : decode cX9_clearBank 29 = .ok (.iastore, 1) := by decide +kernel
theorem dX9_clearBank_30 : decode cX9_clearBank 30 = .ok (.aload_n 0, 1) := by decide +kernel
theorem dX9_clearBank_31 : decode cX9_clearBank 31 = .ok (.getfield 30, 3) := by decide +kernel
theorem dX9_clearBank_34 : decode cX9_clearBank 34 = .ok (.aload_n 0, 1) := by decide +kernel
theorem dX9_clearBank_35 : decode cX9_clearBank 35 = .ok (.getfield 240, 3) := by decide +kernel
theorem dX9_clearBank_38 : decode cX9_clearBank 38 = .ok (.iconst 0, 1) := by decide +kernel
theorem dX9_clearBank_39 : decode cX9_clearBank 39 = .ok (.iastore, 1) := by decide +kernel
theorem dX9_clearBank_40 : decode cX9_clearBank 40 = .ok (.aload_n 0, 1) := by decide +kernel
theorem dX9_clearBank_41 : decode cX9_clearBank 41 = .ok (.getfield 33, 3) := by decide +kernel
theorem dX9_clearBank_44 : decode cX9_clearBank 44 = .ok (.aload_n 0, 1) := by decide +kernel
theorem dX9_clearBank_45 : decode cX9_clearBank 45 = .ok (.getfield 240, 3) := by decide +kernel
theorem dX9_clearBank_48 : decode cX9_clearBank 48 = .ok (.iconst 0, 1) := by decide +kernel
theorem dX9_clearBank_49 : decode cX9_clearBank 49 = .ok (.iastore, 1) := by decide +kernel
theorem dX9_clearBank_50 : decode cX9_clearBank 50 = .ok (.aload_n 0, 1) := by decide +kernel
theorem dX9_clearBank_51 : decode cX9_clearBank 51 = .ok (.getfield 36, 3) := by decide +kernel
theorem dX9_clearBank_54 : decode cX9_clearBank 54 = .ok (.aload_n 0, 1) := by decide +kernel
theorem dX9_clearBank_55 : decode cX9_clearBank 55 = .ok (.getfield 240, 3) := by decide +kernel
theorem dX9_clearBank_58 : decode cX9_clearBank 58 = .ok (.iconst 0, 1) := by decide +kernel
theorem dX9_clearBank_59 : decode cX9_clearBank 59 = .ok (.iastore, 1) := by decide +kernel
theorem dX9_clearBank_60 : decode cX9_clearBank 60 = .ok (.aload_n 0, 1) := by decide +kernel
theorem dX9_clearBank_61 : decode cX9_clearBank 61 = .ok (.getfield 39, 3) := by decide +kernel
theorem dX9_clearBank_64 : decode cX9_clearBank 64 = .ok (.aload_n 0, 1) := by decide +kernel
theorem dX9_clearBank_65 : decode cX9_clearBank 65 = .ok (.getfield 240, 3) := by decide +kernel
theorem dX9_clearBank_68 : decode cX9_clearBank 68 = .ok (.iconst 0, 1) := by decide +kernel
theorem dX9_clearBank_69 : decode cX9_clearBank 69 = .ok (.iastore, 1) := by decide +kernel
theorem dX9_clearBank_70 : decode cX9_clearBank 70 = .ok (.aload_n 0, 1) := by decide +kernel
theorem dX9_clearBank_71 : decode cX9_clearBank 71 = .ok (.sipush 560, 3) := by decide +kernel
theorem dX9_clearBank_74 : decode cX9_clearBank 74 = .ok (.aload_n 0, 1) := by decide +kernel
theorem dX9_clearBank_75 : decode cX9_clearBank 75 = .ok (.getfield 240, 3) := by decide +kernel
theorem dX9_clearBank_78 : decode cX9_clearBank 78 = .ok (.imul, 1) := by decide +kernel
theorem dX9_clearBank_79 : decode cX9_clearBank 79 = .ok (.putfield 243, 3) := by decide +kernel
theorem dX9_clearBank_82 : decode cX9_clearBank 82 = .ok (.return_, 1) := by decide +kernel
theorem dX9_comes_0 : decode cX9_comes 0 = .ok (.iconst 0, 1) := by decide +kernel
theorem dX9_comes_1 : decode cX9_comes 1 = .ok (.istore_n 1, 1) := by decide +kernel
theorem dX9_comes_2 : decode cX9_comes 2 = .ok (.aload_n 0, 1) := by decide +kernel
theorem dX9_comes_3 : decode cX9_comes 3 = .ok (.getfield 60, 3) := by decide +kernel
theorem dX9_comes_6 : decode cX9_comes 6 = .ok (.aload_n 0, 1) := by decide +kernel
theorem dX9_comes_7 : decode cX9_comes 7 = .ok (.getfield 249, 3) := by decide +kernel
theorem dX9_comes_10 : decode cX9_comes 10 = .ok (.iaload, 1) := by decide +kernel
theorem dX9_comes_11 : decode cX9_comes 11 = .ok (.istore_n 2, 1) := by decide +kernel
theorem dX9_comes_12 : decode cX9_comes 12 = .ok (.iload_n 2, 1) := by decide +kernel
theorem dX9_comes_13 : decode cX9_comes 13 = .ok (.aload_n 0, 1) := by decide +kernel
theorem dX9_comes_14 : decode cX9_comes 14 = .ok (.getfield 63, 3) := by decide +kernel
theorem dX9_comes_17 : decode cX9_comes 17 = .ok (.aload_n 0, 1) := by decide +kernel
theorem dX9_comes_18 : decode cX9_comes 18 = .ok (.getfield 249, 3) := by decide +kernel
theorem dX9_comes_21 : decode cX9_comes 21 = .ok (.iaload, 1) := by decide +kernel
theorem dX9_comes_22 : decode cX9_comes 22 = .ok (.if_icmp .ge 108, 3) := by decide +kernel
theorem dX9_comes_25 : decode cX9_comes 25 = .ok (.aload_n 0, 1) := by decide +kernel
theorem dX9_comes_26 : decode cX9_comes 26 = .ok (.getfield 73, 3) := by decide +kernel
theorem dX9_comes_29 : decode cX9_comes 29 = .ok (.iload_n 2, 1) := by decide +kernel
theorem dX9_comes_30 : decode cX9_comes 30 = .ok (.iaload, 1) := by decide +kernel
theorem dX9_comes_31 : decode cX9_comes 31 = .ok (.istore_n 3, 1) := by decide +kernel
theorem dX9_comes_32 : decode cX9_comes 32 = .ok (.iload_n 3, 1) := by decide +kernel
theorem dX9_comes_33 : decode cX9_comes 33 = .ok (.bipush 126, 2) := by decide +kernel
theorem dX9_comes_35 : decode cX9_comes 35 = .ok (.if_icmp .ne 30, 3) := by decide +kernel
theorem dX9_comes_38 : decode cX9_comes 38 = .ok (.aload_n 0, 1) := by decide +kernel
theorem dX9_comes_39 : decode cX9_comes 39 = .ok (.getfield 85, 3) := by decide +kernel
theorem dX9_comes_42 : decode cX9_comes 42 = .ok (.iload_n 1, 1) := by decide +kernel
theorem dX9_comes_43 : decode cX9_comes 43 = .ok (.iconst 1, 1) := by decide +kernel
theorem dX9_comes_44 : decode cX9_comes 44 = .ok (.isub, 1) := by decide +kernel
theorem dX9_comes_45 : decode cX9_comes 45 = .ok (.aload_n 0, 1) := by decide +kernel
theorem dX9_comes_46 : decode cX9_comes 46 = .ok (.getfield 85, 3) := by decide +kernel
theorem dX9_comes_49 : decode cX9_comes 49 = .ok (.iload_n 1, 1) := by decide +kernel
theorem dX9_comes_50 : decode cX9_comes 50 = .ok (.iconst 1, 1) := by decide +kernel
theorem dX9_comes_51 : decode cX9_comes 51 = .ok (.isub, 1) := by decide +kernel
theorem dX9_comes_52 : decode cX9_comes 52 = .ok (.iaload, 1) := by decide +kernel
theorem dX9_comes_53 : decode cX9_comes 53 = .ok (.ifCond .ne 7, 3) := by decide +kernel
theorem dX9_comes_56 : decode cX9_comes 56 = .ok (.iconst 1, 1) := by decide +kernel
theorem dX9_comes_57 : decode cX9_comes 57 = .ok (.goto 4, 3) := by decide +kernel
theorem dX9_comes_60 : decode cX9_comes 60 = .ok (.iconst 0, 1) := by decide +kernel
theorem dX9_comes_61 : decode cX9_comes 61 = .ok (.iastore, 1) := by decide +kernel
theorem dX9_comes_62 : decode cX9_comes 62 = .ok (.goto 62, 3) := by decide +kernel
theorem dX9_comes_65 : decode cX9_comes 65 = .ok (.iload_n 3, 1) := by decide +kernel

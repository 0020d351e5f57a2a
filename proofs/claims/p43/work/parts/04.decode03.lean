theorem dX9_isKept_87 : decode cX9_isKept 87 = .ok (.ifCond .eq 75, 3) := by decide +kernel
theorem dX9_isKept_90 : decode cX9_isKept 90 = .ok (.lload_n 0, 1) := by decide +kernel
theorem dX9_isKept_91 : decode cX9_isKept 91 = .ok (.ldc2_w 163, 3) := by decide +kernel
theorem dX9_isKept_94 : decode cX9_isKept 94 = .ok (.lcmp, 1) := by decide +kernel
theorem dX9_isKept_95 : decode cX9_isKept 95 = .ok (.ifCond .eq 67, 3) := by decide +kernel
theorem dX9_isKept_98 : decode cX9_isKept 98 = .ok (.lload_n 0, 1) := by decide +kernel
theorem dX9_isKept_99 : decode cX9_isKept 99 = .ok (.ldc2_w 165, 3) := by decide +kernel
theorem dX9_isKept_102 : decode cX9_isKept 102 = .ok (.lcmp, 1) := by decide +kernel
theorem dX9_isKept_103 : decode cX9_isKept 103 = .ok (.ifCond .eq 59, 3) := by decide +kernel
theorem dX9_isKept_106 : decode cX9_isKept 106 = .ok (.lload_n 0, 1) := by decide +kernel
theorem dX9_isKept_107 : decode cX9_isKept 107 = .ok (.ldc2_w 167, 3) := by decide +kernel
theorem dX9_isKept_110 : decode cX9_isKept 110 = .ok (.lcmp, 1) := by decide +kernel
theorem dX9_isKept_111 : decode cX9_isKept 111 = .ok (.ifCond .eq 51, 3) := by decide +kernel
theorem dX9_isKept_114 : decode cX9_isKept 114 = .ok (.lload_n 0, 1) := by decide +kernel
theorem dX9_isKept_115 : decode cX9_isKept 115 = .ok (.ldc2_w 169, 3) := by decide +kernel
theorem dX9_isKept_118 : decode cX9_isKept 118 = .ok (.lcmp, 1) := by decide +kernel
theorem dX9_isKept_119 : decode cX9_isKept 119 = .ok (.ifCond .eq 43, 3) := by decide +kernel
theorem dX9_isKept_122 : decode cX9_isKept 122 = .ok (.lload_n 0, 1) := by decide +kernel
theorem dX9_isKept_123 : decode cX9_isKept 123 = .ok (.ldc2_w 171, 3) := by decide +kernel
theorem dX9_isKept_126 : decode cX9_isKept 126 = .ok (.lcmp, 1) := by decide +kernel
theorem dX9_isKept_127 : decode cX9_isKept 127 = .ok (.ifCond .eq 35, 3) := by decide +kernel
theorem dX9_isKept_130 : decode cX9_isKept 130 = .ok (.lload_n 0, 1) := by decide +kernel
theorem dX9_isKept_131 : decode cX9_isKept 131 = .ok (.ldc2_w 173, 3) := by decide +kernel
theorem dX9_isKept_134 : decode cX9_isKept 134 = .ok (.lcmp, 1) := by decide +kernel
theorem dX9_isKept_135 : decode cX9_isKept 135 = .ok (.ifCond .eq 27, 3) := by decide +kernel
theorem dX9_isKept_138 : decode cX9_isKept 138 = .ok (.lload_n 0, 1) := by decide +kernel
theorem dX9_isKept_139 : decode cX9_isKept 139 = .ok (.ldc2_w 175, 3) := by decide +kernel
theorem dX9_isKept_142 : decode cX9_isKept 142 = .ok (.lcmp, 1) := by decide +kernel
theorem dX9_isKept_143 : decode cX9_isKept 143 = .ok (.ifCond .eq 19, 3) := by decide +kernel
theorem dX9_isKept_146 : decode cX9_isKept 146 = .ok (.lload_n 0, 1) := by decide +kernel
theorem dX9_isKept_147 : decode cX9_isKept 147 = .ok (.ldc2_w 177, 3) := by decide +kernel
theorem dX9_isKept_150 : decode cX9_isKept 150 = .ok (.lcmp, 1) := by decide +kernel
theorem dX9_isKept_151 : decode cX9_isKept 151 = .ok (.ifCond .eq 11, 3) := by decide +kernel
theorem dX9_isKept_154 : decode cX9_isKept 154 = .ok (.lload_n 0, 1) := by decide +kernel
theorem dX9_isKept_155 : decode cX9_isKept 155 = .ok (.ldc2_w 179, 3) := by decide +kernel
theorem dX9_isKept_158 : decode cX9_isKept 158 = .ok (.lcmp, 1) := by decide +kernel
theorem dX9_isKept_159 : decode cX9_isKept 159 = .ok (.ifCond .ne 7, 3) := by decide +kernel
theorem dX9_isKept_162 : decode cX9_isKept 162 = .ok (.iconst 1, 1) := by decide +kernel
theorem dX9_isKept_163 : decode cX9_isKept 163 = .ok (.goto 4, 3) := by decide +kernel
theorem dX9_isKept_166 : decode cX9_isKept 166 = .ok (.iconst 0, 1) := by decide +kernel
theorem dX9_isKept_167 : decode cX9_isKept 167 = .ok (.ireturn, 1) := by decide +kernel
theorem dX9_isLetter_0 : decode cX9_isLetter 0 = .ok (.iload_n 0, 1) := by decide +kernel
theorem dX9_isLetter_1 : decode cX9_isLetter 1 = .ok (.bipush 97, 2) := by decide +kernel
theorem dX9_isLetter_3 : decode cX9_isLetter 3 = .ok (.if_icmp .lt 13, 3) := by decide +kernel
theorem dX9_isLetter_6 : decode cX9_isLetter 6 = .ok (.iload_n 0, 1) := by decide +kernel
theorem dX9_isLetter_7 : decode cX9_isLetter 7 = .ok (.bipush 122, 2) := by decide +kernel
theorem dX9_isLetter_9 : decode cX9_isLetter 9 = .ok (.if_icmp .gt 7, 3) := by decide +kernel
theorem dX9_isLetter_12 : decode cX9_isLetter 12 = .ok (.iconst 1, 1) := by decide +kernel
theorem dX9_isLetter_13 : decode cX9_isLetter 13 = .ok (.goto 4, 3) := by decide +kernel
theorem dX9_isLetter_16 : decode cX9_isLetter 16 = .ok (.iconst 0, 1) := by decide +kernel
theorem dX9_isLetter_17 : decode cX9_isLetter 17 = .ok (.ireturn, 1) := by decide +kernel
theorem dX9_isNote_0 : decode cX9_isNote 0 = .ok (.iload_n 0, 1) := by decide +kernel
theorem dX9_isNote_1 : decode cX9_isNote 1 = .ok (.ifCond .lt 13, 3) := by decide +kernel
theorem dX9_isNote_4 : decode cX9_isNote 4 = .ok (.iload_n 0, 1) := by decide +kernel
theorem dX9_isNote_5 : decode cX9_isNote 5 = .ok (.bipush 7, 2) := by decide +kernel
theorem dX9_isNote_7 : decode cX9_isNote 7 = .ok (.if_icmp .ge 7, 3) := by decide +kernel
theorem dX9_isNote_10 : decode cX9_isNote 10 = .ok (.iconst 1, 1) := by decide +kernel
theorem dX9_isNote_11 : decode cX9_isNote 11 = .ok (.goto 4, 3) := by decide +kernel
theorem dX9_isNote_14 : decode cX9_isNote 14 = .ok (.iconst 0, 1) := by decide +kernel
theorem dX9_isNote_15 : decode cX9_isNote 15 = .ok (.ireturn, 1) := by decide +kernel
theorem dX9_isOnCart_0 : decode cX9_isOnCart 0 = .ok (.aload_n 0, 1) := by decide +kernel
theorem dX9_isOnCart_1 : decode cX9_isOnCart 1 = .ok (.getfield 88, 3) := by decide +kernel
theorem dX9_isOnCart_4 : decode cX9_isOnCart 4 = .ok (.iconst 0, 1) := by decide +kernel
theorem dX9_isOnCart_5 : decode cX9_isOnCart 5 = .ok (.iload_n 1, 1) := by decide +kernel
theorem dX9_isOnCart_6 : decode cX9_isOnCart 6 = .ok (.iadd, 1) := by decide +kernel
theorem dX9_isOnCart_7 : decode cX9_isOnCart 7 = .ok (.iaload, 1) := by decide +kernel
theorem dX9_isOnCart_8 : decode cX9_isOnCart 8 = .ok (.iconst (-1), 1) := by decide +kernel
theorem dX9_isOnCart_9 : decode cX9_isOnCart 9 = .ok (.if_icmp .ne 7, 3) := by decide +kernel
theorem dX9_isOnCart_12 : decode cX9_isOnCart 12 = .ok (.iconst 1, 1) := by decide +kernel
theorem dX9_isOnCart_13 : decode cX9_isOnCart 13 = .ok (.goto 4, 3) := by decide +kernel
theorem dX9_isOnCart_16 : decode cX9_isOnCart 16 = .ok (.iconst 0, 1) := by decide +kernel
theorem dX9_isOnCart_17 : decode cX9_isOnCart 17 = .ok (.ireturn, 1) := by decide +kernel
theorem dX9_isPaid_0 : decode cX9_isPaid 0 = .ok (.aload_n 0, 1) := by decide +kernel
theorem dX9_isPaid_1 : decode cX9_isPaid 1 = .ok (.iload_n 1, 1) := by decide +kernel
theorem dX9_isPaid_2 : decode cX9_isPaid 2 = .ok (.iload_n 2, 1) := by decide +kernel
theorem dX9_isPaid_3 : decode cX9_isPaid 3 = .ok (.aload_n 0, 1) := by decide +kernel
theorem dX9_isPaid_4 : decode cX9_isPaid 4 = .ok (.getfield 88, 3) := by decide +kernel
theorem dX9_isPaid_7 : decode cX9_isPaid 7 = .ok (.bipush 15, 2) := by decide +kernel
theorem dX9_isPaid_9 : decode cX9_isPaid 9 = .ok (.iload_n 2, 1) := by decide +kernel
theorem dX9_isPaid_10 : decode cX9_isPaid 10 = .ok (.iadd, 1) := by decide +kernel
theorem dX9_isPaid_11 : decode cX9_isPaid 11 = .ok (.iaload, 1) := by decide +kernel
theorem dX9_isPaid_12 : decode cX9_isPaid 12 = .ok (.invokevirtual 399, 3) := by decide +kernel
theorem dX9_isPaid_15 : decode cX9_isPaid 15 = .ok (.ifCond .le 20, 3) := by decide +kernel
theorem dX9_isPaid_18 : decode cX9_isPaid 18 = .ok (.aload_n 0, 1) := by decide +kernel
theorem dX9_isPaid_19 : decode cX9_isPaid 19 = .ok (.getfield 88, 3) := by decide +kernel
theorem dX9_isPaid_22 : decode cX9_isPaid 22 = .ok (.bipush 20, 2) := by decide +kernel
theorem dX9_isPaid_24 : decode cX9_isPaid 24 = .ok (.iload_n 1, 1) := by decide +kernel
theorem dX9_isPaid_25 : decode cX9_isPaid 25 = .ok (.iadd, 1) := by decide +kernel
theorem dX9_isPaid_26 : decode cX9_isPaid 26 = .ok (.iaload, 1) := by decide +kernel
theorem dX9_isPaid_27 : decode cX9_isPaid 27 = .ok (.aload_n 0, 1) := by decide +kernel
theorem dX9_isPaid_28 : decode cX9_isPaid 28 = .ok (.iload_n 2, 1) := by decide +kernel
theorem dX9_isPaid_29 : decode cX9_isPaid 29 = .ok (.invokevirtual 342, 3) := by decide +kernel
theorem dX9_isPaid_32 : decode cX9_isPaid 32 = .ok (.if_icmp .ge 36, 3) := by decide +kernel
theorem dX9_isPaid_35 : decode cX9_isPaid 35 = .ok (.aload_n 0, 1) := by decide +kernel
theorem dX9_isPaid_36 : decode cX9_isPaid 36 = .ok (.iload_n 2, 1) := by decide +kernel
theorem dX9_isPaid_37 : decode cX9_isPaid 37 = .ok (.invokevirtual 405, 3) := by decide +kernel
theorem dX9_isPaid_40 : decode cX9_isPaid 40 = .ok (.aload_n 0, 1) := by decide +kernel
theorem dX9_isPaid_41 : decode cX9_isPaid 41 = .ok (.getfield 88, 3) := by decide +kernel
theorem dX9_isPaid_44 : decode cX9_isPaid 44 = .ok (.bipush 10, 2) := by decide +kernel
theorem dX9_isPaid_46 : decode cX9_isPaid 46 = .ok (.iload_n 2, 1) := by decide +kernel
theorem dX9_isPaid_47 : decode cX9_isPaid 47 = .ok (.iadd, 1) := by decide +kernel
theorem dX9_isPaid_48 : decode cX9_isPaid 48 = .ok (.aload_n 0, 1) := by decide +kernel
theorem dX9_isPaid_49 : decode cX9_isPaid 49 = .ok (.getfield 88, 3) := by decide +kernel
theorem dX9_isPaid_52 : decode cX9_isPaid 52 = .ok (.bipush 10, 2) := by decide +kernel
theorem dX9_isPaid_54 : decode cX9_isPaid 54 = .ok (.iload_n 2, 1) := by decide +kernel
theorem dX9_isPaid_55 : decode cX9_isPaid 55 = .ok (.iadd, 1) := by decide +kernel
theorem dX9_isPaid_56 : decode cX9_isPaid 56 = .ok (.iaload, 1) := by decide +kernel
theorem dX9_isPaid_57 : decode cX9_isPaid 57 = .ok (.iconst 1, 1) := by decide +kernel
theorem dX9_isPaid_58 : decode cX9_isPaid 58 = .ok (.iadd, 1) := by decide +kernel
theorem dX9_isPaid_59 : decode cX9_isPaid 59 = .ok (.iconst 0, 1) := by decide +kernel
theorem dX9_isPaid_60 : decode cX9_isPaid 60 = .ok (.bipush 99, 2) := by decide +kernel
theorem dX9_isPaid_62 : decode cX9_isPaid 62 = .ok (.invokestatic 376, 3) := by decide +kernel
theorem dX9_isPaid_65 : decode cX9_isPaid 65 = .ok (.iastore, 1) := by decide +kernel
theorem dX9_isPaid_66 : decode cX9_isPaid 66 = .ok (.iconst 0, 1) := by decide +kernel
theorem dX9_isPaid_67 : decode cX9_isPaid 67 = .ok (.ireturn, 1) := by decide +kernel
theorem dX9_isPaid_68 : decode cX9_isPaid 68 = .ok (.aload_n 0, 1) := by decide +kernel
theorem dX9_isPaid_69 : decode cX9_isPaid 69 = .ok (.getfield 88, 3) := by decide +kernel
theorem dX9_isPaid_72 : decode cX9_isPaid 72 = .ok (.bipush 20, 2) := by decide +kernel
theorem dX9_isPaid_74 : decode cX9_isPaid 74 = .ok (.iload_n 1, 1) := by decide +kernel
theorem dX9_isPaid_75 : decode cX9_isPaid 75 = .ok (.iadd, 1) := by decide +kernel
theorem dX9_isPaid_76 : decode cX9_isPaid 76 = .ok (.dup2, 1) := by decide +kernel
theorem dX9_isPaid_77 : decode cX9_isPaid 77 = .ok (.iaload, 1) := by decide +kernel
theorem dX9_isPaid_78 : decode cX9_isPaid 78 = .ok (.aload_n 0, 1) := by decide +kernel
theorem dX9_isPaid_79 : decode cX9_isPaid 79 = .ok (.iload_n 2, 1) := by decide +kernel
theorem dX9_isPaid_80 : decode cX9_isPaid 80 = .ok (.invokevirtual 342, 3) := by decide +kernel
theorem dX9_isPaid_83 : decode cX9_isPaid 83 = .ok (.isub, 1) := by decide +kernel
theorem dX9_isPaid_84 : decode cX9_isPaid 84 = .ok (.iastore, 1) := by decide +kernel
theorem dX9_isPaid_85 : decode cX9_isPaid 85 = .ok (.aload_n 0, 1) := by decide +kernel
theorem dX9_isPaid_86 : decode cX9_isPaid 86 = .ok (.getfield 88, 3) := by decide +kernel
theorem dX9_isPaid_89 : decode cX9_isPaid 89 = .ok (.iconst 5, 1) := by decide +kernel
theorem dX9_isPaid_90 : decode cX9_isPaid 90 = .ok (.iload_n 2, 1) := by decide +kernel
theorem dX9_isPaid_91 : decode cX9_isPaid 91 = .ok (.iadd, 1) := by decide +kernel
theorem dX9_isPaid_92 : decode cX9_isPaid 92 = .ok (.iconst 1, 1) := by decide +kernel
theorem dX9_isPaid_93 : decode cX9_isPaid 93 = .ok (.iastore, 1) := by decide +kernel
theorem dX9_isPaid_94 : decode cX9_isPaid 94 = .ok (.aload_n 0, 1) := by decide +kernel
theorem dX9_isPaid_95 : decode cX9_isPaid 95 = .ok (.getfield 88, 3) := by decide +kernel
theorem dX9_isPaid_98 : decode cX9_isPaid 98 = .ok (.bipush 15, 2) := by decide +kernel
theorem dX9_isPaid_100 : decode cX9_isPaid 100 = .ok (.iload_n 2, 1) := by decide +kernel
theorem dX9_isPaid_101 : decode cX9_isPaid 101 = .ok (.iadd, 1) := by decide +kernel
theorem dX9_isPaid_102 : decode cX9_isPaid 102 = .ok (.iconst 0, 1) := by decide +kernel
theorem dX9_isPaid_103 : decode cX9_isPaid 103 = .ok (.iastore, 1) := by decide +kernel
theorem dX9_isPaid_104 : decode cX9_isPaid 104 = .ok (.iconst 1, 1) := by decide +kernel
theorem dX9_isPaid_105 : decode cX9_isPaid 105 = .ok (.ireturn, 1) := by decide +kernel
theorem dX9_isRest_0 : decode cX9_isRest 0 = .ok (.iconst 0, 1) := by decide +kernel
theorem dX9_isRest_1 : decode cX9_isRest 1 = .ok (.istore 5, 2) := by decide +kernel
theorem dX9_isRest_3 : decode cX9_isRest 3 = .ok (.iload 5, 2) := by decide +kernel
theorem dX9_isRest_5 : decode cX9_isRest 5 = .ok (.aload_n 0, 1) := by decide +kernel
theorem dX9_isRest_6 : decode cX9_isRest 6 = .ok (.invokevirtual 351, 3) := by decide +kernel
theorem dX9_isRest_9 : decode cX9_isRest 9 = .ok (.if_icmp .ge 59, 3) := by decide +kernel
theorem dX9_isRest_12 : decode cX9_isRest 12 = .ok (.aload_n 0, 1) := by decide +kernel
theorem dX9_isRest_13 : decode cX9_isRest 13 = .ok (.iload 5, 2) := by decide +kernel
theorem dX9_isRest_15 : decode cX9_isRest 15 = .ok (.invokevirtual 450, 3) := by decide +kernel
theorem dX9_isRest_18 : decode cX9_isRest 18 = .ok (.ifCond .eq 44, 3) := by decide +kernel
theorem dX9_isRest_21 : decode cX9_isRest 21 = .ok (.aload_n 0, 1) := by decide +kernel
theorem dX9_isRest_22 : decode cX9_isRest 22 = .ok (.iload_n 1, 1) := by decide +kernel
theorem dX9_isRest_23 : decode cX9_isRest 23 = .ok (.iload 5, 2) := by decide +kernel
theorem dX9_isRest_25 : decode cX9_isRest 25 = .ok (.iload 4, 2) := by decide +kernel
theorem dX9_isRest_27 : decode cX9_isRest 27 = .ok (.invokevirtual 483, 3) := by decide +kernel
theorem dX9_isRest_30 : decode cX9_isRest 30 = .ok (.aload_n 0, 1) := by decide +kernel
theorem dX9_isRest_31 : decode cX9_isRest 31 = .ok (.iload_n 1, 1) := by decide +kernel
theorem dX9_isRest_32 : decode cX9_isRest 32 = .ok (.iload_n 3, 1) := by decide +kernel
theorem dX9_isRest_33 : decode cX9_isRest 33 = .ok (.iload 4, 2) := by decide +kernel
theorem dX9_isRest_35 : decode cX9_isRest 35 = .ok (.invokevirtual 483, 3) := by decide +kernel
theorem dX9_isRest_38 : decode cX9_isRest 38 = .ok (.if_icmp .gt 22, 3) := by decide +kernel
theorem dX9_isRest_41 : decode cX9_isRest 41 = .ok (.aload_n 0, 1) := by decide +kernel
theorem dX9_isRest_42 : decode cX9_isRest 42 = .ok (.iload_n 2, 1) := by decide +kernel
theorem dX9_isRest_43 : decode cX9_isRest 43 = .ok (.iload 5, 2) := by decide +kernel
theorem dX9_isRest_45 : decode cX9_isRest 45 = .ok (.iload_n 3, 1) := by decide +kernel
theorem dX9_isRest_46 : decode cX9_isRest 46 = .ok (.invokevirtual 483, 3) := by decide +kernel
theorem dX9_isRest_49 : decode cX9_isRest 49 = .ok (.aload_n 0, 1) := by decide +kernel
theorem dX9_isRest_50 : decode cX9_isRest 50 = .ok (.iload_n 2, 1) := by decide +kernel
theorem dX9_isRest_51 : decode cX9_isRest 51 = .ok (.iload 4, 2) := by decide +kernel
theorem dX9_isRest_53 : decode cX9_isRest 53 = .ok (.iload_n 3, 1) := by decide +kernel
theorem dX9_isRest_54 : decode cX9_isRest 54 = .ok (.invokevirtual 483, 3) := by decide +kernel
theorem dX9_isRest_57 : decode cX9_isRest 57 = .ok (.if_icmp .le 5, 3) := by decide +kernel
theorem dX9_isRest_60 : decode cX9_isRest 60 = .ok (.iconst 0, 1) := by decide +kernel
theorem dX9_isRest_61 : decode cX9_isRest 61 = .ok (.ireturn, 1) := by decide +kernel
theorem dX9_isRest_62 : decode cX9_isRest 62 = .ok (.iinc 5 1, 3) := by decide +kernel
theorem dX9_isRest_65 : decode cX9_isRest 65 = .ok (.goto (-62), 3) := by decide +kernel
theorem dX9_isRest_68 : decode cX9_isRest 68 = .ok (.iconst 1, 1) := by decide +kernel
theorem dX9_isRest_69 : decode cX9_isRest 69 = .ok (.ireturn, 1) := by decide +kernel
theorem dX9_isRound_0 : decode cX9_isRound 0 = .ok (.iconst 0, 1) := by decide +kernel
theorem dX9_isRound_1 : decode cX9_isRound 1 = .ok (.istore_n 2, 1) := by decide +kernel
theorem dX9_isRound_2 : decode cX9_isRound 2 = .ok (.iconst 0, 1) := by decide +kernel
theorem dX9_isRound_3 : decode cX9_isRound 3 = .ok (.istore_n 3, 1) := by decide +kernel
theorem dX9_isRound_4 : decode cX9_isRound 4 = .ok (.iload_n 3, 1) := by decide +kernel
theorem dX9_isRound_5 : decode cX9_isRound 5 = .ok (.aload_n 0, 1) := by decide +kernel
theorem dX9_isRound_6 : decode cX9_isRound 6 = .ok (.invokevirtual 358, 3) := by decide +kernel
theorem dX9_isRound_9 : decode cX9_isRound 9 = .ok (.if_icmp .ge 80, 3) := by decide +kernel
theorem dX9_isRound_12 : decode cX9_isRound 12 = .ok (.aload_n 0, 1) := by decide +kernel
theorem dX9_isRound_13 : decode cX9_isRound 13 = .ok (.iload_n 1, 1) := by decide +kernel
theorem dX9_isRound_14 : decode cX9_isRound 14 = .ok (.aload_n 0, 1) := by decide +kernel
theorem dX9_isRound_15 : decode cX9_isRound 15 = .ok (.invokevirtual 351, 3) := by decide +kernel
theorem dX9_isRound_18 : decode cX9_isRound 18 = .ok (.iconst 1, 1) := by decide +kernel
theorem dX9_isRound_19 : decode cX9_isRound 19 = .ok (.iadd, 1) := by decide +kernel
theorem dX9_isRound_20 : decode cX9_isRound 20 = .ok (.iload_n 3, 1) := by decide +kernel
theorem dX9_isRound_21 : decode cX9_isRound 21 = .ok (.invokevirtual 465, 3) := by decide +kernel
theorem dX9_isRound_24 : decode cX9_isRound 24 = .ok (.istore 4, 2) := by decide +kernel
theorem dX9_isRound_26 : decode cX9_isRound 26 = .ok (.iload 4, 2) := by decide +kernel
theorem dX9_isRound_28 : decode cX9_isRound 28 = .ok (.aload_n 0, 1) := by decide +kernel
theorem dX9_isRound_29 : decode cX9_isRound 29 = .ok (.invokevirtual 351, 3) := by decide +kernel
theorem dX9_isRound_32 : decode cX9_isRound 32 = .ok (.if_icmp .ne 6, 3) := by decide +kernel
theorem dX9_isRound_35 : decode cX9_isRound 35 = .ok (.goto 48, 3) := by decide +kernel
theorem dX9_isRound_38 : decode cX9_isRound 38 = .ok (.iload_n 2, 1) := by decide +kernel
theorem dX9_isRound_39 : decode cX9_isRound 39 = .ok (.iload 4, 2) := by decide +kernel
theorem dX9_isRound_41 : decode cX9_isRound 41 = .ok (.invokestatic 255, 3) := by decide +kernel
theorem dX9_isRound_44 : decode cX9_isRound 44 = .ok (.ifCond .ne 30, 3) := by decide +kernel
theorem dX9_isRound_47 : decode cX9_isRound 47 = .ok (.aload_n 0, 1) := by decide +kernel
theorem dX9_isRound_48 : decode cX9_isRound 48 = .ok (.iload 4, 2) := by decide +kernel
theorem dX9_isRound_50 : decode cX9_isRound 50 = .ok (.invokevirtual 450, 3) := by decide +kernel
theorem dX9_isRound_53 : decode cX9_isRound 53 = .ok (.ifCond .eq 21, 3) := by decide +kernel
theorem dX9_isRound_56 : decode cX9_isRound 56 = .ok (.aload_n 0, 1) := by decide +kernel
theorem dX9_isRound_57 : decode cX9_isRound 57 = .ok (.iload_n 3, 1) := by decide +kernel
theorem dX9_isRound_58 : decode cX9_isRound 58 = .ok (.invokevirtual 396, 3) := by decide +kernel
theorem dX9_isRound_61 : decode cX9_isRound 61 = .ok (.ifCond .ge 13, 3) := by decide +kernel
theorem dX9_isRound_64 : decode cX9_isRound 64 = .ok (.aload_n 0, 1) := by decide +kernel
theorem dX9_isRound_65 : decode cX9_isRound 65 = .ok (.iload_n 3, 1) := by decide +kernel
theorem dX9_isRound_66 : decode cX9_isRound 66 = .ok (.iload 4, 2) := by decide +kernel
theorem dX9_isRound_68 : decode cX9_isRound 68 = .ok (.invokevirtual 402, 3) := by decide +kernel
theorem dX9_isRound_71 : decode cX9_isRound 71 = .ok (.ifCond .ne 5, 3) := by decide +kernel
theorem dX9_isRound_74 : decode cX9_isRound 74 = .ok (.iconst 0, 1) := by decide +kernel
theorem dX9_isRound_75 : decode cX9_isRound 75 = .ok (.ireturn, 1) := by decide +kernel
theorem dX9_isRound_76 : decode cX9_isRound 76 = .ok (.iload_n 2, 1) := by decide +kernel
theorem dX9_isRound_77 : decode cX9_isRound 77 = .ok (.iconst 1, 1) := by decide +kernel
theorem dX9_isRound_78 : decode cX9_isRound 78 = .ok (.iload 4, 2) := by decide +kernel
theorem dX9_isRound_80 : decode cX9_isRound 80 = .ok (.ishl, 1) := by decide +kernel
theorem dX9_isRound_81 : decode cX9_isRound 81 = .ok (.ior, 1) := by decide +kernel
theorem dX9_isRound_82 : decode cX9_isRound 82 = .ok (.istore_n 2, 1) := by decide +kernel
theorem dX9_isRound_83 : decode cX9_isRound 83 = .ok (.iinc 3 1, 3) := by decide +kernel
theorem dX9_isRound_86 : decode cX9_isRound 86 = .ok (.goto (-82), 3) := by decide +kernel
theorem dX9_isRound_89 : decode cX9_isRound 89 = .ok (.iconst 1, 1) := by decide +kernel
theorem dX9_isRound_90 : decode cX9_isRound 90 = .ok (.ireturn, 1) := by decide +kernel
theorem dX9_isSign_0 : decode cX9_isSign 0 = .ok (.iload_n 0, 1) := by decide +kernel
theorem dX9_isSign_1 : decode cX9_isSign 1 = .ok (.bipush 59, 2) := by decide +kernel
theorem dX9_isSign_3 : decode cX9_isSign 3 = .ok (.if_icmp .eq 63, 3) := by decide +kernel
theorem dX9_isSign_6 : decode cX9_isSign 6 = .ok (.iload_n 0, 1) := by decide +kernel
theorem dX9_isSign_7 : decode cX9_isSign 7 = .ok (.bipush 40, 2) := by decide +kernel
theorem dX9_isSign_9 : decode cX9_isSign 9 = .ok (.if_icmp .eq 57, 3) := by decide +kernel
theorem dX9_isSign_12 : decode cX9_isSign 12 = .ok (.iload_n 0, 1) := by decide +kernel
theorem dX9_isSign_13 : decode cX9_isSign 13 = .ok (.bipush 41, 2) := by decide +kernel
theorem dX9_isSign_15 : decode cX9_isSign 15 = .ok (.if_icmp .eq 51, 3) := by decide +kernel
theorem dX9_isSign_18 : decode cX9_isSign 18 = .ok (.iload_n 0, 1) := by decide +kernel
theorem dX9_isSign_19 : decode cX9_isSign 19 = .ok (.bipush 60, 2) := by decide +kernel
theorem dX9_isSign_21 : decode cX9_isSign 21 = .ok (.if_icmp .eq 45, 3) := by decide +kernel
theorem dX9_isSign_24 : decode cX9_isSign 24 = .ok (.iload_n 0, 1) := by decide +kernel
theorem dX9_isSign_25 : decode cX9_isSign 25 = .ok (.bipush 62, 2) := by decide +kernel
theorem dX9_isSign_27 : decode cX9_isSign 27 = .ok (.if_icmp .eq 39, 3) := by decide +kernel
theorem dX9_isSign_30 : decode cX9_isSign 30 = .ok (.iload_n 0, 1) := by decide +kernel
theorem dX9_isSign_31 : decode cX9_isSign 31 = .ok (.bipush 61, 2) := by decide +kernel
theorem dX9_isSign_33 : decode cX9_isSign 33 = .ok (.if_icmp .eq 33, 3) := by decide +kernel
theorem dX9_isSign_36 : decode cX9_isSign 36 = .ok (.iload_n 0, 1) := by decide +kernel
theorem dX9_isSign_37 : decode cX9_isSign 37 = .ok (.bipush 43, 2) := by decide +kernel
theorem dX9_isSign_39 : decode cX9_isSign 39 = .ok (.if_icmp .eq 27, 3) := by decide +kernel
theorem dX9_isSign_42 : decode cX9_isSign 42 = .ok (.iload_n 0, 1) := by decide +kernel
theorem dX9_isSign_43 : decode cX9_isSign 43 = .ok (.bipush 45, 2) := by decide +kernel
theorem dX9_isSign_45 : decode cX9_isSign 45 = .ok (.if_icmp .eq 21, 3) := by decide +kernel
theorem dX9_isSign_48 : decode cX9_isSign 48 = .ok (.iload_n 0, 1) := by decide +kernel
theorem dX9_isSign_49 : decode cX9_isSign 49 = .ok (.bipush 42, 2) := by decide +kernel
theorem dX9_isSign_51 : decode cX9_isSign 51 = .ok (.if_icmp .eq 15, 3) := by decide +kernel
theorem dX9_isSign_54 : decode cX9_isSign 54 = .ok (.iload_n 0, 1) := by decide +kernel
theorem dX9_isSign_55 : decode cX9_isSign 55 = .ok (.bipush 47, 2) := by decide +kernel
theorem dX9_isSign_57 : decode cX9_isSign 57 = .ok (.if_icmp .eq 9, 3) := by decide +kernel
theorem dX9_isSign_60 : decode cX9_isSign 60 = .ok (.iload_n 0, 1) := by decide +kernel
theorem dX9_isSign_61 : decode cX9_isSign 61 = .ok (.bipush 37, 2) := by decide +kernel
theorem dX9_isSign_63 : decode cX9_isSign 63 = .ok (.if_icmp .ne 7, 3) := by decide +kernel
theorem dX9_isSign_66 : decode cX9_isSign 66 = .ok (.iconst 1, 1) := by decide +kernel
theorem dX9_isSign_67 : decode cX9_isSign 67 = .ok (.goto 4, 3) := by decide +kernel
theorem dX9_isSign_70 : decode cX9_isSign 70 = .ok (.iconst 0, 1) := by decide +kernel
theorem dX9_isSign_71 : decode cX9_isSign 71 = .ok (.ireturn, 1) := by decide +kernel
theorem dX9_isSignHere_0 : decode cX9_isSignHere 0 = .ok (.aload_n 0, 1) := by decide +kernel
theorem dX9_isSignHere_1 : decode cX9_isSignHere 1 = .ok (.getfield 191, 3) := by decide +kernel
theorem dX9_isSignHere_4 : decode cX9_isSignHere 4 = .ok (.iconst 5, 1) := by decide +kernel
theorem dX9_isSignHere_5 : decode cX9_isSignHere 5 = .ok (.if_icmp .ne 19, 3) := by decide +kernel
theorem dX9_isSignHere_8 : decode cX9_isSignHere 8 = .ok (.aload_n 0, 1) := by decide +kernel
theorem dX9_isSignHere_9 : decode cX9_isSignHere 9 = .ok (.aload_n 0, 1) := by decide +kernel
theorem dX9_isSignHere_10 : decode cX9_isSignHere 10 = .ok (.getfield 184, 3) := by decide +kernel
theorem dX9_isSignHere_13 : decode cX9_isSignHere 13 = .ok (.invokevirtual 187, 3) := by decide +kernel
theorem dX9_isSignHere_16 : decode cX9_isSignHere 16 = .ok (.iload_n 1, 1) := by decide +kernel
theorem dX9_isSignHere_17 : decode cX9_isSignHere 17 = .ok (.if_icmp .ne 7, 3) := by decide +kernel
theorem dX9_isSignHere_20 : decode cX9_isSignHere 20 = .ok (.iconst 1, 1) := by decide +kernel
theorem dX9_isSignHere_21 : decode cX9_isSignHere 21 = .ok (.goto 4, 3) := by decide +kernel
theorem dX9_isSignHere_24 : decode cX9_isSignHere 24 = .ok (.iconst 0, 1) := by decide +kernel
theorem dX9_isSignHere_25 : decode cX9_isSignHere 25 = .ok (.ireturn, 1) := by decide +kernel
theorem dX9_isTried_0 : decode cX9_isTried 0 = .ok (.aload_n 0, 1) := by decide +kernel
theorem dX9_isTried_1 : decode cX9_isTried 1 = .ok (.getfield 88, 3) := by decide +kernel
theorem dX9_isTried_4 : decode cX9_isTried 4 = .ok (.iconst 0, 1) := by decide +kernel
theorem dX9_isTried_5 : decode cX9_isTried 5 = .ok (.iload_n 1, 1) := by decide +kernel
theorem dX9_isTried_6 : decode cX9_isTried 6 = .ok (.iadd, 1) := by decide +kernel
theorem dX9_isTried_7 : decode cX9_isTried 7 = .ok (.iaload, 1) := by decide +kernel
theorem dX9_isTried_8 : decode cX9_isTried 8 = .ok (.ifCond .lt 18, 3) := by decide +kernel
theorem dX9_isTried_11 : decode cX9_isTried 11 = .ok (.aload_n 0, 1) := by decide +kernel
theorem dX9_isTried_12 : decode cX9_isTried 12 = .ok (.getfield 88, 3) := by decide +kernel
theorem dX9_isTried_15 : decode cX9_isTried 15 = .ok (.iconst 5, 1) := by decide +kernel
theorem dX9_isTried_16 : decode cX9_isTried 16 = .ok (.iload_n 1, 1) := by decide +kernel
theorem dX9_isTried_17 : decode cX9_isTried 17 = .ok (.iadd, 1) := by decide +kernel
theorem dX9_isTried_18 : decode cX9_isTried 18 = .ok (.iaload, 1) := by decide +kernel
theorem dX9_isTried_19 : decode cX9_isTried 19 = .ok (.ifCond .ne 7, 3) := by decide +kernel
theorem dX9_isTried_22 : decode cX9_isTried 22 = .ok (.iconst 1, 1) := by decide +kernel
theorem dX9_isTried_23 : decode cX9_isTried 23 = .ok (.goto 4, 3) := by decide +kernel
theorem dX9_isTried_26 : decode cX9_isTried 26 = .ok (.iconst 0, 1) := by decide +kernel
theorem dX9_isTried_27 : decode cX9_isTried 27 = .ok (.ireturn, 1) := by decide +kernel
theorem dX9_isTune_0 : decode cX9_isTune 0 = .ok (.iload_n 1, 1) := by decide +kernel
theorem dX9_isTune_1 : decode cX9_isTune 1 = .ok (.iconst 0, 1) := by decide +kernel
theorem dX9_isTune_2 : decode cX9_isTune 2 = .ok (.aload_n 0, 1) := by decide +kernel
theorem dX9_isTune_3 : decode cX9_isTune 3 = .ok (.invokevirtual 351, 3) := by decide +kernel
theorem dX9_isTune_6 : decode cX9_isTune 6 = .ok (.iconst 1, 1) := by decide +kernel
theorem dX9_isTune_7 : decode cX9_isTune 7 = .ok (.isub, 1) := by decide +kernel
theorem dX9_isTune_8 : decode cX9_isTune 8 = .ok (.invokestatic 354, 3) := by decide +kernel
theorem dX9_isTune_11 : decode cX9_isTune 11 = .ok (.ireturn, 1) := by decide +kernel
theorem dX9_isWord_0 : decode cX9_isWord 0 = .ok (.aload_n 0, 1) := by decide +kernel
theorem dX9_isWord_1 : decode cX9_isWord 1 = .ok (.getfield 191, 3) := by decide +kernel
theorem dX9_isWord_4 : decode cX9_isWord 4 = .ok (.iconst 3, 1) := by decide +kernel
theorem dX9_isWord_5 : decode cX9_isWord 5 = .ok (.if_icmp .ne 16, 3) := by decide +kernel
theorem dX9_isWord_8 : decode cX9_isWord 8 = .ok (.aload_n 0, 1) := by decide +kernel
theorem dX9_isWord_9 : decode cX9_isWord 9 = .ok (.getfield 198, 3) := by decide +kernel
theorem dX9_isWord_12 : decode cX9_isWord 12 = .ok (.lload_n 1, 1) := by decide +kernel
theorem dX9_isWord_13 : decode cX9_isWord 13 = .ok (.lcmp, 1) := by decide +kernel
theorem dX9_isWord_14 : decode cX9_isWord 14 = .ok (.ifCond .ne 7, 3) := by decide +kernel
theorem dX9_isWord_17 : decode cX9_isWord 17 = .ok (.iconst 1, 1) := by decide +kernel
theorem dX9_isWord_18 : decode cX9_isWord 18 = .ok (.goto 4, 3) := by decide +kernel
theorem dX9_isWord_21 : decode cX9_isWord 21 = .ok (.iconst 0, 1) := by decide +kernel
theorem dX9_isWord_22 : decode cX9_isWord 22 = .ok (.ireturn, 1) := by decide +kernel
theorem dX9_keepAct_0 : decode cX9_keepAct 0 = .ok (.aload_n 0, 1) := by decide +kernel
theorem dX9_keepAct_1 : decode cX9_keepAct 1 = .ok (.getfield 364, 3) := by decide +kernel
theorem dX9_keepAct_4 : decode cX9_keepAct 4 = .ok (.bipush 40, 2) := by decide +kernel
theorem dX9_keepAct_6 : decode cX9_keepAct 6 = .ok (.if_icmp .ne 43, 3) := by decide +kernel
theorem dX9_keepAct_9 : decode cX9_keepAct 9 = .ok (.iconst 0, 1) := by decide +kernel
theorem dX9_keepAct_10 : decode cX9_keepAct 10 = .ok (.istore_n 1, 1) := by decide +kernel
theorem dX9_keepAct_11 : decode cX9_keepAct 11 = .ok (.iload_n 1, 1) := by decide +kernel
theorem dX9_keepAct_12 : decode cX9_keepAct 12 = .ok (.sipush 1040, 3) := by decide +kernel
theorem dX9_keepAct_15 : decode cX9_keepAct 15 = .ok (.if_icmp .ge 24, 3) := by decide +kernel
theorem dX9_keepAct_18 : decode cX9_keepAct 18 = .ok (.aload_n 0, 1) := by decide +kernel
theorem dX9_keepAct_19 : decode cX9_keepAct 19 = .ok (.getfield 94, 3) := by decide +kernel
theorem dX9_keepAct_22 : decode cX9_keepAct 22 = .ok (.iload_n 1, 1) := by decide +kernel
theorem dX9_keepAct_23 : decode cX9_keepAct 23 = .ok (.aload_n 0, 1) := by decide +kernel
theorem dX9_keepAct_24 : decode cX9_keepAct 24 = .ok (.getfield 94, 3) := by decide +kernel
theorem dX9_keepAct_27 : decode cX9_keepAct 27 = .ok (.iload_n 1, 1) := by decide +kernel
theorem dX9_keepAct_28 : decode cX9_keepAct 28 = .ok (.bipush 26, 2) := by decide +kernel
theorem dX9_keepAct_30 : decode cX9_keepAct 30 = .ok (.iadd, 1) := by decide +kernel
theorem dX9_keepAct_31 : decode cX9_keepAct 31 = .ok (.iaload, 1) := by decide +kernel
theorem dX9_keepAct_32 : decode cX9_keepAct 32 = .ok (.iastore, 1) := by decide +kernel
theorem dX9_keepAct_33 : decode cX9_keepAct 33 = .ok (.iinc 1 1, 3) := by decide +kernel
theorem dX9_keepAct_36 : decode cX9_keepAct 36 = .ok (.goto (-25), 3) := by decide +kernel
theorem dX9_keepAct_39 : decode cX9_keepAct 39 = .ok (.aload_n 0, 1) := by decide +kernel
theorem dX9_keepAct_40 : decode cX9_keepAct 40 = .ok (.dup, 1) := by decide +kernel
theorem dX9_keepAct_41 : decode cX9_keepAct 41 = .ok (.getfield 364, 3) := by decide +kernel
theorem dX9_keepAct_44 : decode cX9_keepAct 44 = .ok (.iconst 1, 1) := by decide +kernel
theorem dX9_keepAct_45 : decode cX9_keepAct 45 = .ok (.isub, 1) := by decide +kernel
theorem dX9_keepAct_46 : decode cX9_keepAct 46 = .ok (.putfield 364, 3) := by decide +kernel
theorem dX9_keepAct_49 : decode cX9_keepAct 49 = .ok (.iconst 0, 1) := by decide +kernel
theorem dX9_keepAct_50 : decode cX9_keepAct 50 = .ok (.istore_n 1, 1) := by decide +kernel
theorem dX9_keepAct_51 : decode cX9_keepAct 51 = .ok (.iload_n 1, 1) := by decide +kernel
theorem dX9_keepAct_52 : decode cX9_keepAct 52 = .ok (.bipush 26, 2) := by decide +kernel
theorem dX9_keepAct_54 : decode cX9_keepAct 54 = .ok (.if_icmp .ge 29, 3) := by decide +kernel
theorem dX9_keepAct_57 : decode cX9_keepAct 57 = .ok (.aload_n 0, 1) := by decide +kernel
theorem dX9_keepAct_58 : decode cX9_keepAct 58 = .ok (.getfield 94, 3) := by decide +kernel
theorem dX9_keepAct_61 : decode cX9_keepAct 61 = .ok (.bipush 26, 2) := by decide +kernel
theorem dX9_keepAct_63 : decode cX9_keepAct 63 = .ok (.aload_n 0, 1) := by decide +kernel
theorem dX9_keepAct_64 : decode cX9_keepAct 64 = .ok (.getfield 364, 3) := by decide +kernel
theorem dX9_keepAct_67 : decode cX9_keepAct 67 = .ok (.imul, 1) := by decide +kernel
theorem dX9_keepAct_68 : decode cX9_keepAct 68 = .ok (.iload_n 1, 1) := by decide +kernel
theorem dX9_keepAct_69 : decode cX9_keepAct 69 = .ok (.iadd, 1) := by decide +kernel
theorem dX9_keepAct_70 : decode cX9_keepAct 70 = .ok (.aload_n 0, 1) := by decide +kernel
theorem dX9_keepAct_71 : decode cX9_keepAct 71 = .ok (.getfield 88, 3) := by decide +kernel
theorem dX9_keepAct_74 : decode cX9_keepAct 74 = .ok (.iload_n 1, 1) := by decide +kernel
theorem dX9_keepAct_75 : decode cX9_keepAct 75 = .ok (.iaload, 1) := by decide +kernel
theorem dX9_keepAct_76 : decode cX9_keepAct 76 = .ok (.iastore, 1) := by decide +kernel
theorem dX9_keepAct_77 : decode cX9_keepAct 77 = .ok (.iinc 1 1, 3) := by decide +kernel
theorem dX9_keepAct_80 : decode cX9_keepAct 80 = .ok (.goto (-29), 3) := by decide +kernel
theorem dX9_keepAct_83 : decode cX9_keepAct 83 = .ok (.aload_n 0, 1) := by decide +kernel
theorem dX9_keepAct_84 : decode cX9_keepAct 84 = .ok (.dup, 1) := by decide +kernel
theorem dX9_keepAct_85 : decode cX9_keepAct 85 = .ok (.getfield 364, 3) := by decide +kernel
theorem dX9_keepAct_88 : decode cX9_keepAct 88 = .ok (.iconst 1, 1) := by decide +kernel
theorem dX9_keepAct_89 : decode cX9_keepAct 89 = .ok (.iadd, 1) := by decide +kernel
theorem dX9_keepAct_90 : decode cX9_keepAct 90 = .ok (.putfield 364, 3) := by decide +kernel
theorem dX9_keepAct_93 : decode cX9_keepAct 93 = .ok (.aload_n 0, 1) := by decide +kernel
theorem dX9_keepAct_94 : decode cX9_keepAct 94 = .ok (.iconst 0, 1) := by decide +kernel
theorem dX9_keepAct_95 : decode cX9_keepAct 95 = .ok (.putfield 367, 3) := by decide +kernel
theorem dX9_keepAct_98 : decode cX9_keepAct 98 = .ok (.return_, 1) := by decide +kernel
theorem dX9_keepNow_0 : decode cX9_keepNow 0 = .ok (.iconst 0, 1) := by decide +kernel
theorem dX9_keepNow_1 : decode cX9_keepNow 1 = .ok (.istore_n 1, 1) := by decide +kernel
theorem dX9_keepNow_2 : decode cX9_keepNow 2 = .ok (.iload_n 1, 1) := by decide +kernel
theorem dX9_keepNow_3 : decode cX9_keepNow 3 = .ok (.bipush 26, 2) := by decide +kernel
theorem dX9_keepNow_5 : decode cX9_keepNow 5 = .ok (.if_icmp .ge 21, 3) := by decide +kernel
theorem dX9_keepNow_8 : decode cX9_keepNow 8 = .ok (.aload_n 0, 1) := by decide +kernel
theorem dX9_keepNow_9 : decode cX9_keepNow 9 = .ok (.getfield 91, 3) := by decide +kernel
theorem dX9_keepNow_12 : decode cX9_keepNow 12 = .ok (.iload_n 1, 1) := by decide +kernel
theorem dX9_keepNow_13 : decode cX9_keepNow 13 = .ok (.aload_n 0, 1) := by decide +kernel
theorem dX9_keepNow_14 : decode cX9_keepNow 14 = .ok (.getfield 88, 3) := by decide +kernel
theorem dX9_keepNow_17 : decode cX9_keepNow 17 = .ok (.iload_n 1, 1) := by decide +kernel
theorem dX9_keepNow_18 : decode cX9_keepNow 18 = .ok (.iaload, 1) := by decide +kernel
theorem dX9_keepNow_19 : decode cX9_keepNow 19 = .ok (.iastore, 1) := by decide +kernel
theorem dX9_keepNow_20 : decode cX9_keepNow 20 = .ok (.iinc 1 1, 3) := by decide +kernel
theorem dX9_keepNow_23 : decode cX9_keepNow 23 = .ok (.goto (-21), 3) := by decide +kernel
theorem dX9_keepNow_26 : decode cX9_keepNow 26 = .ok (.return_, 1) := by decide +kernel
theorem dX9_known_0 : decode cX9_known 0 = .ok (.aload_n 0, 1) := by decide +kernel
theorem dX9_known_1 : decode cX9_known 1 = .ok (.iload_n 1, 1) := by decide +kernel
theorem dX9_known_2 : decode cX9_known 2 = .ok (.invokevirtual 412, 3) := by decide +kernel
theorem dX9_known_5 : decode cX9_known 5 = .ok (.ifCond .eq 32, 3) := by decide +kernel
theorem dX9_known_8 : decode cX9_known 8 = .ok (.iload_n 2, 1) := by decide +kernel
theorem dX9_known_9 : decode cX9_known 9 = .ok (.sipush (-999), 3) := by decide +kernel
theorem dX9_known_12 : decode cX9_known 12 = .ok (.sipush 999, 3) := by decide +kernel
theorem dX9_known_15 : decode cX9_known 15 = .ok (.invokestatic 354, 3) := by decide +kernel
theorem dX9_known_18 : decode cX9_known 18 = .ok (.ifCond .eq 19, 3) := by decide +kernel
theorem dX9_known_21 : decode cX9_known 21 = .ok (.aload_n 0, 1) := by decide +kernel
theorem dX9_known_22 : decode cX9_known 22 = .ok (.getfield 370, 3) := by decide +kernel
theorem dX9_known_25 : decode cX9_known 25 = .ok (.bipush 30, 2) := by decide +kernel
theorem dX9_known_27 : decode cX9_known 27 = .ok (.if_icmp .eq 10, 3) := by decide +kernel
theorem dX9_known_30 : decode cX9_known 30 = .ok (.aload_n 0, 1) := by decide +kernel
theorem dX9_known_31 : decode cX9_known 31 = .ok (.invokevirtual 358, 3) := by decide +kernel
theorem dX9_known_34 : decode cX9_known 34 = .ok (.ifCond .ne 5, 3) := by decide +kernel
theorem dX9_known_37 : decode cX9_known 37 = .ok (.iconst (-1), 1) := by decide +kernel
theorem dX9_known_38 : decode cX9_known 38 = .ok (.ireturn, 1) := by decide +kernel
theorem dX9_known_39 : decode cX9_known 39 = .ok (.aload_n 0, 1) := by decide +kernel
theorem dX9_known_40 : decode cX9_known 40 = .ok (.getfield 103, 3) := by decide +kernel
theorem dX9_known_43 : decode cX9_known 43 = .ok (.aload_n 0, 1) := by decide +kernel
theorem dX9_known_44 : decode cX9_known 44 = .ok (.getfield 370, 3) := by decide +kernel
theorem dX9_known_47 : decode cX9_known 47 = .ok (.iload_n 1, 1) := by decide +kernel
theorem dX9_known_48 : decode cX9_known 48 = .ok (.iastore, 1) := by decide +kernel
theorem dX9_known_49 : decode cX9_known 49 = .ok (.aload_n 0, 1) := by decide +kernel
theorem dX9_known_50 : decode cX9_known 50 = .ok (.getfield 106, 3) := by decide +kernel
theorem dX9_known_53 : decode cX9_known 53 = .ok (.aload_n 0, 1) := by decide +kernel
theorem dX9_known_54 : decode cX9_known 54 = .ok (.getfield 370, 3) := by decide +kernel
theorem dX9_known_57 : decode cX9_known 57 = .ok (.iload_n 2, 1) := by decide +kernel
theorem dX9_known_58 : decode cX9_known 58 = .ok (.iastore, 1) := by decide +kernel
theorem dX9_known_59 : decode cX9_known 59 = .ok (.aload_n 0, 1) := by decide +kernel
theorem dX9_known_60 : decode cX9_known 60 = .ok (.getfield 109, 3) := by decide +kernel
theorem dX9_known_63 : decode cX9_known 63 = .ok (.aload_n 0, 1) := by decide +kernel
theorem dX9_known_64 : decode cX9_known 64 = .ok (.getfield 370, 3) := by decide +kernel
theorem dX9_known_67 : decode cX9_known 67 = .ok (.iload_n 3, 1) := by decide +kernel
theorem dX9_known_68 : decode cX9_known 68 = .ok (.ifCond .eq 7, 3) := by decide +kernel
theorem dX9_known_71 : decode cX9_known 71 = .ok (.iconst 1, 1) := by decide +kernel
theorem dX9_known_72 : decode cX9_known 72 = .ok (.goto 4, 3) := by decide +kernel
theorem dX9_known_75 : decode cX9_known 75 = .ok (.iconst 0, 1) := by decide +kernel
theorem dX9_known_76 : decode cX9_known 76 = .ok (.iastore, 1) := by decide +kernel
theorem dX9_known_77 : decode cX9_known 77 = .ok (.aload_n 0, 1) := by decide +kernel
theorem dX9_known_78 : decode cX9_known 78 = .ok (.getfield 112, 3) := by decide +kernel
theorem dX9_known_81 : decode cX9_known 81 = .ok (.aload_n 0, 1) := by decide +kernel
theorem dX9_known_82 : decode cX9_known 82 = .ok (.getfield 370, 3) := by decide +kernel
theorem dX9_known_85 : decode cX9_known 85 = .ok (.aload_n 0, 1) := by decide +kernel
theorem dX9_known_86 : decode cX9_known 86 = .ok (.getfield 492, 3) := by decide +kernel
theorem dX9_known_89 : decode cX9_known 89 = .ok (.iastore, 1) := by decide +kernel
theorem dX9_known_90 : decode cX9_known 90 = .ok (.aload_n 0, 1) := by decide +kernel
theorem dX9_known_91 : decode cX9_known 91 = .ok (.getfield 115, 3) := by decide +kernel
theorem dX9_known_94 : decode cX9_known 94 = .ok (.aload_n 0, 1) := by decide +kernel
theorem dX9_known_95 : decode cX9_known 95 = .ok (.getfield 370, 3) := by decide +kernel
theorem dX9_known_98 : decode cX9_known 98 = .ok (.iconst (-1), 1) := by decide +kernel
theorem dX9_known_99 : decode cX9_known 99 = .ok (.iastore, 1) := by decide +kernel
theorem dX9_known_100 : decode cX9_known 100 = .ok (.aload_n 0, 1) := by decide +kernel
theorem dX9_known_101 : decode cX9_known 101 = .ok (.dup, 1) := by decide +kernel
theorem dX9_known_102 : decode cX9_known 102 = .ok (.getfield 370, 3) := by decide +kernel
theorem dX9_known_105 : decode cX9_known 105 = .ok (.iconst 1, 1) := by decide +kernel
theorem dX9_known_106 : decode cX9_known 106 = .ok (.iadd, 1) := by decide +kernel
theorem dX9_known_107 : decode cX9_known 107 = .ok (.putfield 370, 3) := by decide +kernel
theorem dX9_known_110 : decode cX9_known 110 = .ok (.aload_n 0, 1) := by decide +kernel
theorem dX9_known_111 : decode cX9_known 111 = .ok (.getfield 370, 3) := by decide +kernel
theorem dX9_known_114 : decode cX9_known 114 = .ok (.iconst 1, 1) := by decide +kernel
theorem dX9_known_115 : decode cX9_known 115 = .ok (.isub, 1) := by decide +kernel
theorem dX9_known_116 : decode cX9_known 116 = .ok (.ireturn, 1) := by decide +kernel
theorem dX9_lane_0 : decode cX9_lane 0 = .ok (.aload_n 0, 1) := by decide +kernel
theorem dX9_lane_1 : decode cX9_lane 1 = .ok (.iconst 0, 1) := by decide +kernel
theorem dX9_lane_2 : decode cX9_lane 2 = .ok (.putfield 140, 3) := by decide +kernel
theorem dX9_lane_5 : decode cX9_lane 5 = .ok (.aload_n 0, 1) := by decide +kernel
theorem dX9_lane_6 : decode cX9_lane 6 = .ok (.iconst (-1), 1) := by decide +kernel
theorem dX9_lane_7 : decode cX9_lane 7 = .ok (.putfield 16, 3) := by decide +kernel
theorem dX9_lane_10 : decode cX9_lane 10 = .ok (.aload_n 0, 1) := by decide +kernel
theorem dX9_lane_11 : decode cX9_lane 11 = .ok (.aload_n 0, 1) := by decide +kernel
theorem dX9_lane_12 : decode cX9_lane 12 = .ok (.getfield 246, 3) := by decide +kernel
theorem dX9_lane_15 : decode cX9_lane 15 = .ok (.putfield 137, 3) := by decide +kernel
theorem dX9_lane_18 : decode cX9_lane 18 = .ok (.iconst 0, 1) := by decide +kernel
theorem dX9_lane_19 : decode cX9_lane 19 = .ok (.istore_n 1, 1) := by decide +kernel
theorem dX9_lane_20 : decode cX9_lane 20 = .ok (.iload_n 1, 1) := by decide +kernel
theorem dX9_lane_21 : decode cX9_lane 21 = .ok (.aload_n 0, 1) := by decide +kernel
theorem dX9_lane_22 : decode cX9_lane 22 = .ok (.getfield 137, 3) := by decide +kernel
theorem dX9_lane_25 : decode cX9_lane 25 = .ok (.if_icmp .ge 21, 3) := by decide +kernel
theorem dX9_lane_28 : decode cX9_lane 28 = .ok (.aload_n 0, 1) := by decide +kernel
theorem dX9_lane_29 : decode cX9_lane 29 = .ok (.getfield 13, 3) := by decide +kernel
theorem dX9_lane_32 : decode cX9_lane 32 = .ok (.iload_n 1, 1) := by decide +kernel
theorem dX9_lane_33 : decode cX9_lane 33 = .ok (.aload_n 0, 1) := by decide +kernel
theorem dX9_lane_34 : decode cX9_lane 34 = .ok (.getfield 7, 3) := by decide +kernel
theorem dX9_lane_37 : decode cX9_lane 37 = .ok (.iload_n 1, 1) := by decide +kernel
theorem dX9_lane_38 : decode cX9_lane 38 = .ok (.baload, 1) := by decide +kernel
theorem dX9_lane_39 : decode cX9_lane 39 = .ok (.bastore, 1) := by decide +kernel
theorem dX9_lane_40 : decode cX9_lane 40 = .ok (.iinc 1 1, 3) := by decide +kernel
theorem dX9_lane_43 : decode cX9_lane 43 = .ok (.goto (-23), 3) := by decide +kernel
theorem dX9_lane_46 : decode cX9_lane 46 = .ok (.aload_n 0, 1) := by decide +kernel
theorem dX9_lane_47 : decode cX9_lane 47 = .ok (.iconst 0, 1) := by decide +kernel
theorem dX9_lane_48 : decode cX9_lane 48 = .ok (.putfield 246, 3) := by decide +kernel
theorem dX9_lane_51 : decode cX9_lane 51 = .ok (.aload_n 0, 1) := by decide +kernel
theorem dX9_lane_52 : decode cX9_lane 52 = .ok (.iconst 0, 1) := by decide +kernel
theorem dX9_lane_53 : decode cX9_lane 53 = .ok (.putfield 181, 3) := by decide +kernel
theorem dX9_lane_56 : decode cX9_lane 56 = .ok (.aload_n 0, 1) := by decide +kernel
theorem dX9_lane_57 : decode cX9_lane 57 = .ok (.iconst 1, 1) := by decide +kernel
theorem dX9_lane_58 : decode cX9_lane 58 = .ok (.aload_n 0, 1) := by decide +kernel
theorem dX9_lane_59 : decode cX9_lane 59 = .ok (.getfield 249, 3) := by decide +kernel
theorem dX9_lane_62 : decode cX9_lane 62 = .ok (.isub, 1) := by decide +kernel
theorem dX9_lane_63 : decode cX9_lane 63 = .ok (.putfield 240, 3) := by decide +kernel
theorem dX9_lane_66 : decode cX9_lane 66 = .ok (.aload_n 0, 1) := by decide +kernel
theorem dX9_lane_67 : decode cX9_lane 67 = .ok (.invokevirtual 131, 3) := by decide +kernel
theorem dX9_lane_70 : decode cX9_lane 70 = .ok (.aload_n 0, 1) := by decide +kernel
theorem dX9_lane_71 : decode cX9_lane 71 = .ok (.invokevirtual 223, 3) := by decide +kernel
theorem dX9_lane_74 : decode cX9_lane 74 = .ok (.aload_n 0, 1) := by decide +kernel
theorem dX9_lane_75 : decode cX9_lane 75 = .ok (.invokevirtual 219, 3) := by decide +kernel
theorem dX9_lane_78 : decode cX9_lane 78 = .ok (.ifCond .eq 17, 3) := by decide +kernel
theorem dX9_lane_81 : decode cX9_lane 81 = .ok (.aload_n 0, 1) := by decide +kernel
theorem dX9_lane_82 : decode cX9_lane 82 = .ok (.getfield 191, 3) := by decide +kernel
theorem dX9_lane_85 : decode cX9_lane 85 = .ok (.ifCond .eq 10, 3) := by decide +kernel
theorem dX9_lane_88 : decode cX9_lane 88 = .ok (.aload_n 0, 1) := by decide +kernel
theorem dX9_lane_89 : decode cX9_lane 89 = .ok (.invokevirtual 252, 3) := by decide +kernel
theorem dX9_lane_92 : decode cX9_lane 92 = .ok (.goto (-18), 3) := by decide +kernel
theorem dX9_lane_95 : decode cX9_lane 95 = .ok (.aload_n 0, 1) := by decide +kernel
theorem dX9_lane_96 : decode cX9_lane 96 = .ok (.invokevirtual 219, 3) := by decide +kernel
theorem dX9_lane_99 : decode cX9_lane 99 = .ok (.ifCond .ne 5, 3) := by decide +kernel
theorem dX9_lane_102 : decode cX9_lane 102 = .ok (.iconst (-1), 1) := by decide +kernel
theorem dX9_lane_103 : decode cX9_lane 103 = .ok (.ireturn, 1) := by decide +kernel
theorem dX9_lane_104 : decode cX9_lane 104 = .ok (.aload_n 0, 1) := by decide +kernel
theorem dX9_lane_105 : decode cX9_lane 105 = .ok (.aload_n 0, 1) := by decide +kernel
theorem dX9_lane_106 : decode cX9_lane 106 = .ok (.getfield 240, 3) := by decide +kernel
theorem dX9_lane_109 : decode cX9_lane 109 = .ok (.putfield 249, 3) := by decide +kernel
theorem dX9_lane_112 : decode cX9_lane 112 = .ok (.aload_n 0, 1) := by decide +kernel
theorem dX9_lane_113 : decode cX9_lane 113 = .ok (.invokevirtual 134, 3) := by decide +kernel
theorem dX9_lane_116 : decode cX9_lane 116 = .ok (.aload_n 0, 1) := by decide +kernel
theorem dX9_lane_117 : decode cX9_lane 117 = .ok (.getfield 27, 3) := by decide +kernel
theorem dX9_lane_120 : decode cX9_lane 120 = .ok (.aload_n 0, 1) := by decide +kernel
theorem dX9_lane_121 : decode cX9_lane 121 = .ok (.getfield 249, 3) := by decide +kernel
theorem dX9_lane_124 : decode cX9_lane 124 = .ok (.iaload, 1) := by decide +kernel
theorem dX9_lane_125 : decode cX9_lane 125 = .ok (.ireturn, 1) := by decide +kernel
theorem dX9_later_0 : decode cX9_later 0 = .ok (.iload_n 1, 1) := by decide +kernel
theorem dX9_later_1 : decode cX9_later 1 = .ok (.iconst 0, 1) := by decide +kernel
theorem dX9_later_2 : decode cX9_later 2 = .ok (.sipush 1000, 3) := by decide +kernel
theorem dX9_later_5 : decode cX9_later 5 = .ok (.invokestatic 354, 3) := by decide +kernel
theorem dX9_later_8 : decode cX9_later 8 = .ok (.ifCond .eq 15, 3) := by decide +kernel
theorem dX9_later_11 : decode cX9_later 11 = .ok (.aload_n 0, 1) := by decide +kernel
theorem dX9_later_12 : decode cX9_later 12 = .ok (.getfield 492, 3) := by decide +kernel
theorem dX9_later_15 : decode cX9_later 15 = .ok (.iload_n 1, 1) := by decide +kernel
theorem dX9_later_16 : decode cX9_later 16 = .ok (.iadd, 1) := by decide +kernel
theorem dX9_later_17 : decode cX9_later 17 = .ok (.ldc_w 495, 3) := by decide +kernel
theorem dX9_later_20 : decode cX9_later 20 = .ok (.if_icmp .le 5, 3) := by decide +kernel
theorem dX9_later_23 : decode cX9_later 23 = .ok (.iconst (-1), 1) := by decide +kernel
theorem dX9_later_24 : decode cX9_later 24 = .ok (.ireturn, 1) := by decide +kernel
theorem dX9_later_25 : decode cX9_later 25 = .ok (.aload_n 0, 1) := by decide +kernel
theorem dX9_later_26 : decode cX9_later 26 = .ok (.dup, 1) := by decide +kernel
theorem dX9_later_27 : decode cX9_later 27 = .ok (.getfield 492, 3) := by decide +kernel
theorem dX9_later_30 : decode cX9_later 30 = .ok (.iload_n 1, 1) := by decide +kernel
theorem dX9_later_31 : decode cX9_later 31 = .ok (.iadd, 1) := by decide +kernel
theorem dX9_later_32 : decode cX9_later 32 = .ok (.putfield 492, 3) := by decide +kernel
theorem dX9_later_35 : decode cX9_later 35 = .ok (.aload_n 0, 1) := by decide +kernel
theorem dX9_later_36 : decode cX9_later 36 = .ok (.getfield 492, 3) := by decide +kernel
theorem dX9_later_39 : decode cX9_later 39 = .ok (.ireturn, 1) := by decide +kernel
theorem dX9_law_0 : decode cX9_law 0 = .ok (.aload_n 0, 1) := by decide +kernel
theorem dX9_law_1 : decode cX9_law 1 = .ok (.iload_n 1, 1) := by decide +kernel
theorem dX9_law_2 : decode cX9_law 2 = .ok (.invokevirtual 415, 3) := by decide +kernel
theorem dX9_law_5 : decode cX9_law 5 = .ok (.ifCond .eq 14, 3) := by decide +kernel
theorem dX9_law_8 : decode cX9_law 8 = .ok (.iload_n 2, 1) := by decide +kernel
theorem dX9_law_9 : decode cX9_law 9 = .ok (.iconst 0, 1) := by decide +kernel
theorem dX9_law_10 : decode cX9_law 10 = .ok (.sipush 999, 3) := by decide +kernel
theorem dX9_law_13 : decode cX9_law 13 = .ok (.invokestatic 354, 3) := by decide +kernel
theorem dX9_law_16 : decode cX9_law 16 = .ok (.ifCond .ne 5, 3) := by decide +kernel
theorem dX9_law_19 : decode cX9_law 19 = .ok (.iconst (-1), 1) := by decide +kernel
theorem dX9_law_20 : decode cX9_law 20 = .ok (.ireturn, 1) := by decide +kernel
theorem dX9_law_21 : decode cX9_law 21 = .ok (.aload_n 0, 1) := by decide +kernel
theorem dX9_law_22 : decode cX9_law 22 = .ok (.getfield 88, 3) := by decide +kernel
theorem dX9_law_25 : decode cX9_law 25 = .ok (.bipush 20, 2) := by decide +kernel
theorem dX9_law_27 : decode cX9_law 27 = .ok (.iload_n 1, 1) := by decide +kernel
theorem dX9_law_28 : decode cX9_law 28 = .ok (.iadd, 1) := by decide +kernel
theorem dX9_law_29 : decode cX9_law 29 = .ok (.iaload, 1) := by decide +kernel
theorem dX9_law_30 : decode cX9_law 30 = .ok (.istore_n 3, 1) := by decide +kernel
theorem dX9_law_31 : decode cX9_law 31 = .ok (.aload_n 0, 1) := by decide +kernel
theorem dX9_law_32 : decode cX9_law 32 = .ok (.getfield 88, 3) := by decide +kernel
theorem dX9_law_35 : decode cX9_law 35 = .ok (.bipush 20, 2) := by decide +kernel
theorem dX9_law_37 : decode cX9_law 37 = .ok (.iload_n 1, 1) := by decide +kernel
theorem dX9_law_38 : decode cX9_law 38 = .ok (.iadd, 1) := by decide +kernel
theorem dX9_law_39 : decode cX9_law 39 = .ok (.iload_n 2, 1) := by decide +kernel
theorem dX9_law_40 : decode cX9_law 40 = .ok (.iastore, 1) := by decide +kernel
theorem dX9_law_41 : decode cX9_law 41 = .ok (.aload_n 0, 1) := by decide +kernel
theorem dX9_law_42 : decode cX9_law 42 = .ok (.iload_n 1, 1) := by decide +kernel
theorem dX9_law_43 : decode cX9_law 43 = .ok (.invokevirtual 428, 3) := by decide +kernel
theorem dX9_law_46 : decode cX9_law 46 = .ok (.invokestatic 431, 3) := by decide +kernel
theorem dX9_law_49 : decode cX9_law 49 = .ok (.istore 4, 2) := by decide +kernel
theorem dX9_law_51 : decode cX9_law 51 = .ok (.aload_n 0, 1) := by decide +kernel
theorem dX9_law_52 : decode cX9_law 52 = .ok (.getfield 88, 3) := by decide +kernel
theorem dX9_law_55 : decode cX9_law 55 = .ok (.bipush 20, 2) := by decide +kernel
theorem dX9_law_57 : decode cX9_law 57 = .ok (.iload_n 1, 1) := by decide +kernel
theorem dX9_law_58 : decode cX9_law 58 = .ok (.iadd, 1) := by decide +kernel
theorem dX9_law_59 : decode cX9_law 59 = .ok (.iload_n 3, 1) := by decide +kernel
theorem dX9_law_60 : decode cX9_law 60 = .ok (.iastore, 1) := by decide +kernel
theorem dX9_law_61 : decode cX9_law 61 = .ok (.iload 4, 2) := by decide +kernel
theorem dX9_law_63 : decode cX9_law 63 = .ok (.ireturn, 1) := by decide +kernel
theorem dX9_layGlad_0 : decode cX9_layGlad 0 = .ok (.aload_n 0, 1) := by decide +kernel
theorem dX9_layGlad_1 : decode cX9_layGlad 1 = .ok (.invokevirtual 358, 3) := by decide +kernel
theorem dX9_layGlad_4 : decode cX9_layGlad 4 = .ok (.iconst 1, 1) := by decide +kernel
theorem dX9_layGlad_5 : decode cX9_layGlad 5 = .ok (.isub, 1) := by decide +kernel
theorem dX9_layGlad_6 : decode cX9_layGlad 6 = .ok (.istore_n 1, 1) := by decide +kernel
theorem dX9_layGlad_7 : decode cX9_layGlad 7 = .ok (.iconst 3, 1) := by decide +kernel
theorem dX9_layGlad_8 : decode cX9_layGlad 8 = .ok (.iconst 4, 1) := by decide +kernel
theorem dX9_layGlad_9 : decode cX9_layGlad 9 = .ok (.aload_n 0, 1) := by decide +kernel
theorem dX9_layGlad_10 : decode cX9_layGlad 10 = .ok (.getfield 249, 3) := by decide +kernel
theorem dX9_layGlad_13 : decode cX9_layGlad 13 = .ok (.imul, 1) := by decide +kernel
theorem dX9_layGlad_14 : decode cX9_layGlad 14 = .ok (.iload_n 1, 1) := by decide +kernel
theorem dX9_layGlad_15 : decode cX9_layGlad 15 = .ok (.iadd, 1) := by decide +kernel
theorem dX9_layGlad_16 : decode cX9_layGlad 16 = .ok (.imul, 1) := by decide +kernel
theorem dX9_layGlad_17 : decode cX9_layGlad 17 = .ok (.istore_n 2, 1) := by decide +kernel
theorem dX9_layGlad_18 : decode cX9_layGlad 18 = .ok (.aload_n 0, 1) := by decide +kernel
theorem dX9_layGlad_19 : decode cX9_layGlad 19 = .ok (.getfield 57, 3) := by decide +kernel
theorem dX9_layGlad_22 : decode cX9_layGlad 22 = .ok (.iload_n 2, 1) := by decide +kernel
theorem dX9_layGlad_23 : decode cX9_layGlad 23 = .ok (.iaload, 1) := by decide +kernel
theorem dX9_layGlad_24 : decode cX9_layGlad 24 = .ok (.istore_n 3, 1) := by decide +kernel
theorem dX9_layGlad_25 : decode cX9_layGlad 25 = .ok (.aload_n 0, 1) := by decide +kernel
theorem dX9_layGlad_26 : decode cX9_layGlad 26 = .ok (.getfield 57, 3) := by decide +kernel
theorem dX9_layGlad_29 : decode cX9_layGlad 29 = .ok (.iload_n 2, 1) := by decide +kernel
theorem dX9_layGlad_30 : decode cX9_layGlad 30 = .ok (.iconst 1, 1) := by decide +kernel
theorem dX9_layGlad_31 : decode cX9_layGlad 31 = .ok (.iadd, 1) := by decide +kernel
theorem dX9_layGlad_32 : decode cX9_layGlad 32 = .ok (.iaload, 1) := by decide +kernel
theorem dX9_layGlad_33 : decode cX9_layGlad 33 = .ok (.istore 4, 2) := by decide +kernel
theorem dX9_layGlad_35 : decode cX9_layGlad 35 = .ok (.aload_n 0, 1) := by decide +kernel
theorem dX9_layGlad_36 : decode cX9_layGlad 36 = .ok (.getfield 57, 3) := by decide +kernel
theorem dX9_layGlad_39 : decode cX9_layGlad 39 = .ok (.iload_n 2, 1) := by decide +kernel
theorem dX9_layGlad_40 : decode cX9_layGlad 40 = .ok (.iconst 2, 1) := by decide +kernel
theorem dX9_layGlad_41 : decode cX9_layGlad 41 = .ok (.iadd, 1) := by decide +kernel
theorem dX9_layGlad_42 : decode cX9_layGlad 42 = .ok (.iaload, 1) := by decide +kernel
theorem dX9_layGlad_43 : decode cX9_layGlad 43 = .ok (.istore 5, 2) := by decide +kernel
theorem dX9_layGlad_45 : decode cX9_layGlad 45 = .ok (.aload_n 0, 1) := by decide +kernel
theorem dX9_layGlad_46 : decode cX9_layGlad 46 = .ok (.invokevirtual 456, 3) := by decide +kernel
theorem dX9_layGlad_49 : decode cX9_layGlad 49 = .ok (.aload_n 0, 1) := by decide +kernel
theorem dX9_layGlad_50 : decode cX9_layGlad 50 = .ok (.invokevirtual 361, 3) := by decide +kernel
theorem dX9_layGlad_53 : decode cX9_layGlad 53 = .ok (.iconst 0, 1) := by decide +kernel
theorem dX9_layGlad_54 : decode cX9_layGlad 54 = .ok (.istore 6, 2) := by decide +kernel
theorem dX9_layGlad_56 : decode cX9_layGlad 56 = .ok (.iload 6, 2) := by decide +kernel
theorem dX9_layGlad_58 : decode cX9_layGlad 58 = .ok (.sipush 343, 3) := by decide +kernel
theorem dX9_layGlad_61 : decode cX9_layGlad 61 = .ok (.if_icmp .ge 78, 3) := by decide +kernel
theorem dX9_layGlad_64 : decode cX9_layGlad 64 = .ok (.iconst 0, 1) := by decide +kernel
theorem dX9_layGlad_65 : decode cX9_layGlad 65 = .ok (.istore 7, 2) := by decide +kernel
theorem dX9_layGlad_67 : decode cX9_layGlad 67 = .ok (.iload 7, 2) := by decide +kernel
theorem dX9_layGlad_69 : decode cX9_layGlad 69 = .ok (.iconst 3, 1) := by decide +kernel
theorem dX9_layGlad_70 : decode cX9_layGlad 70 = .ok (.if_icmp .ge 25, 3) := by decide +kernel
theorem dX9_layGlad_73 : decode cX9_layGlad 73 = .ok (.aload_n 0, 1) := by decide +kernel
theorem dX9_layGlad_74 : decode cX9_layGlad 74 = .ok (.getfield 57, 3) := by decide +kernel
theorem dX9_layGlad_77 : decode cX9_layGlad 77 = .ok (.iload_n 2, 1) := by decide +kernel
theorem dX9_layGlad_78 : decode cX9_layGlad 78 = .ok (.iload 7, 2) := by decide +kernel
theorem dX9_layGlad_80 : decode cX9_layGlad 80 = .ok (.iadd, 1) := by decide +kernel
theorem dX9_layGlad_81 : decode cX9_layGlad 81 = .ok (.iload 6, 2) := by decide +kernel
theorem dX9_layGlad_83 : decode cX9_layGlad 83 = .ok (.iload 7, 2) := by decide +kernel
theorem dX9_layGlad_85 : decode cX9_layGlad 85 = .ok (.invokestatic 496, 3) := by decide +kernel
theorem dX9_layGlad_88 : decode cX9_layGlad 88 = .ok (.iastore, 1) := by decide +kernel
theorem dX9_layGlad_89 : decode cX9_layGlad 89 = .ok (.iinc 7 1, 3) := by decide +kernel
theorem dX9_layGlad_92 : decode cX9_layGlad 92 = .ok (.goto (-25), 3) := by decide +kernel
theorem dX9_layGlad_95 : decode cX9_layGlad 95 = .ok (.iconst 0, 1) := by decide +kernel
theorem dX9_layGlad_96 : decode cX9_layGlad 96 = .ok (.istore 7, 2) := by decide +kernel
theorem dX9_layGlad_98 : decode cX9_layGlad 98 = .ok (.iload 7, 2) := by decide +kernel
theorem dX9_layGlad_100 : decode cX9_layGlad 100 = .ok (.aload_n 0, 1) := by decide +kernel
theorem dX9_layGlad_101 : decode cX9_layGlad 101 = .ok (.invokevirtual 351, 3) := by decide +kernel
theorem dX9_layGlad_104 : decode cX9_layGlad 104 = .ok (.if_icmp .ge 29, 3) := by decide +kernel
theorem dX9_layGlad_107 : decode cX9_layGlad 107 = .ok (.aload_n 0, 1) := by decide +kernel
theorem dX9_layGlad_108 : decode cX9_layGlad 108 = .ok (.getfield 100, 3) := by decide +kernel
theorem dX9_layGlad_111 : decode cX9_layGlad 111 = .ok (.iconst 5, 1) := by decide +kernel
theorem dX9_layGlad_112 : decode cX9_layGlad 112 = .ok (.iload 6, 2) := by decide +kernel
theorem dX9_layGlad_114 : decode cX9_layGlad 114 = .ok (.imul, 1) := by decide +kernel
theorem dX9_layGlad_115 : decode cX9_layGlad 115 = .ok (.iload 7, 2) := by decide +kernel
theorem dX9_layGlad_117 : decode cX9_layGlad 117 = .ok (.iadd, 1) := by decide +kernel
theorem dX9_layGlad_118 : decode cX9_layGlad 118 = .ok (.aload_n 0, 1) := by decide +kernel
theorem dX9_layGlad_119 : decode cX9_layGlad 119 = .ok (.iload_n 1, 1) := by decide +kernel
theorem dX9_layGlad_120 : decode cX9_layGlad 120 = .ok (.iload 7, 2) := by decide +kernel
theorem dX9_layGlad_122 : decode cX9_layGlad 122 = .ok (.iconst 0, 1) := by decide +kernel
theorem dX9_layGlad_123 : decode cX9_layGlad 123 = .ok (.invokevirtual 399, 3) := by decide +kernel
theorem dX9_layGlad_126 : decode cX9_layGlad 126 = .ok (.iastore, 1) := by decide +kernel
theorem dX9_layGlad_127 : decode cX9_layGlad 127 = .ok (.iinc 7 1, 3) := by decide +kernel
theorem dX9_layGlad_130 : decode cX9_layGlad 130 = .ok (.goto (-32), 3) := by decide +kernel
theorem dX9_layGlad_133 : decode cX9_layGlad 133 = .ok (.iinc 6 1, 3) := by decide +kernel
theorem dX9_layGlad_136 : decode cX9_layGlad 136 = .ok (.goto (-80), 3) := by decide +kernel
theorem dX9_layGlad_139 : decode cX9_layGlad 139 = .ok (.aload_n 0, 1) := by decide +kernel
theorem dX9_layGlad_140 : decode cX9_layGlad 140 = .ok (.getfield 57, 3) := by decide +kernel
theorem dX9_layGlad_143 : decode cX9_layGlad 143 = .ok (.iload_n 2, 1) := by decide +kernel
theorem dX9_layGlad_144 : decode cX9_layGlad 144 = .ok (.iload_n 3, 1) := by decide +kernel
theorem dX9_layGlad_145 : decode cX9_layGlad 145 = .ok (.iastore, 1) := by decide +kernel
theorem dX9_layGlad_146 : decode cX9_layGlad 146 = .ok (.aload_n 0, 1) := by decide +kernel
theorem dX9_layGlad_147 : decode cX9_layGlad 147 = .ok (.getfield 57, 3) := by decide +kernel
theorem dX9_layGlad_150 : decode cX9_layGlad 150 = .ok (.iload_n 2, 1) := by decide +kernel
theorem dX9_layGlad_151 : decode cX9_layGlad 151 = .ok (.iconst 1, 1) := by decide +kernel
theorem dX9_layGlad_152 : decode cX9_layGlad 152 = .ok (.iadd, 1) := by decide +kernel
theorem dX9_layGlad_153 : decode cX9_layGlad 153 = .ok (.iload 4, 2) := by decide +kernel
theorem dX9_layGlad_155 : decode cX9_layGlad 155 = .ok (.iastore, 1) := by decide +kernel
theorem dX9_layGlad_156 : decode cX9_layGlad 156 = .ok (.aload_n 0, 1) := by decide +kernel
theorem dX9_layGlad_157 : decode cX9_layGlad 157 = .ok (.getfield 57, 3) := by decide +kernel
theorem dX9_layGlad_160 : decode cX9_layGlad 160 = .ok (.iload_n 2, 1) := by decide +kernel
theorem dX9_layGlad_161 : decode cX9_layGlad 161 = .ok (.iconst 2, 1) := by decide +kernel
theorem dX9_layGlad_162 : decode cX9_layGlad 162 = .ok (.iadd, 1) := by decide +kernel
theorem dX9_layGlad_163 : decode cX9_layGlad 163 = .ok (.iload 5, 2) := by decide +kernel
theorem dX9_layGlad_165 : decode cX9_layGlad 165 = .ok (.iastore, 1) := by decide +kernel
theorem dX9_layGlad_166 : decode cX9_layGlad 166 = .ok (.aload_n 0, 1) := by decide +kernel
theorem dX9_layGlad_167 : decode cX9_layGlad 167 = .ok (.invokevirtual 459, 3) := by decide +kernel
theorem dX9_layGlad_170 : decode cX9_layGlad 170 = .ok (.return_, 1) := by decide +kernel
theorem dX9_layRows_0 : decode cX9_layRows 0 = .ok (.aload_n 0, 1) := by decide +kernel
theorem dX9_layRows_1 : decode cX9_layRows 1 = .ok (.iconst 0, 1) := by decide +kernel
theorem dX9_layRows_2 : decode cX9_layRows 2 = .ok (.putfield 499, 3) := by decide +kernel
theorem dX9_layRows_5 : decode cX9_layRows 5 = .ok (.iconst 0, 1) := by decide +kernel
theorem dX9_layRows_6 : decode cX9_layRows 6 = .ok (.istore_n 2, 1) := by decide +kernel
theorem dX9_layRows_7 : decode cX9_layRows 7 = .ok (.iload_n 2, 1) := by decide +kernel
theorem dX9_layRows_8 : decode cX9_layRows 8 = .ok (.bipush 21, 2) := by decide +kernel
theorem dX9_layRows_10 : decode cX9_layRows 10 = .ok (.if_icmp .ge 16, 3) := by decide +kernel
theorem dX9_layRows_13 : decode cX9_layRows 13 = .ok (.aload_n 0, 1) := by decide +kernel

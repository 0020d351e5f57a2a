theorem dX9_readHouse_75 : decode cX9_readHouse 75 = .ok (.iconst 0, 1) := by decide +kernel
theorem dX9_readHouse_76 : decode cX9_readHouse 76 = .ok (.bipush 99, 2) := by decide +kernel
theorem dX9_readHouse_78 : decode cX9_readHouse 78 = .ok (.invokevirtual 286, 3) := by decide +kernel
theorem dX9_readHouse_81 : decode cX9_readHouse 81 = .ok (.iastore, 1) := by decide +kernel
theorem dX9_readHouse_82 : decode cX9_readHouse 82 = .ok (.aload_n 0, 1) := by decide +kernel
theorem dX9_readHouse_83 : decode cX9_readHouse 83 = .ok (.aload_n 0, 1) := by decide +kernel
theorem dX9_readHouse_84 : decode cX9_readHouse 84 = .ok (.ldc2_w 157, 3) := by decide +kernel
theorem dX9_readHouse_87 : decode cX9_readHouse 87 = .ok (.invokevirtual 229, 3) := by decide +kernel
theorem dX9_readHouse_90 : decode cX9_readHouse 90 = .ok (.invokevirtual 232, 3) := by decide +kernel
theorem dX9_readHouse_93 : decode cX9_readHouse 93 = .ok (.iconst 0, 1) := by decide +kernel
theorem dX9_readHouse_94 : decode cX9_readHouse 94 = .ok (.istore_n 2, 1) := by decide +kernel
theorem dX9_readHouse_95 : decode cX9_readHouse 95 = .ok (.iload_n 2, 1) := by decide +kernel
theorem dX9_readHouse_96 : decode cX9_readHouse 96 = .ok (.iconst 3, 1) := by decide +kernel
theorem dX9_readHouse_97 : decode cX9_readHouse 97 = .ok (.if_icmp .ge 26, 3) := by decide +kernel
theorem dX9_readHouse_100 : decode cX9_readHouse 100 = .ok (.aload_n 0, 1) := by decide +kernel
theorem dX9_readHouse_101 : decode cX9_readHouse 101 = .ok (.getfield 57, 3) := by decide +kernel
theorem dX9_readHouse_104 : decode cX9_readHouse 104 = .ok (.iconst 3, 1) := by decide +kernel
theorem dX9_readHouse_105 : decode cX9_readHouse 105 = .ok (.iload_n 1, 1) := by decide +kernel
theorem dX9_readHouse_106 : decode cX9_readHouse 106 = .ok (.imul, 1) := by decide +kernel
theorem dX9_readHouse_107 : decode cX9_readHouse 107 = .ok (.iload_n 2, 1) := by decide +kernel
theorem dX9_readHouse_108 : decode cX9_readHouse 108 = .ok (.iadd, 1) := by decide +kernel
theorem dX9_readHouse_109 : decode cX9_readHouse 109 = .ok (.aload_n 0, 1) := by decide +kernel
theorem dX9_readHouse_110 : decode cX9_readHouse 110 = .ok (.iconst 0, 1) := by decide +kernel
theorem dX9_readHouse_111 : decode cX9_readHouse 111 = .ok (.bipush 6, 2) := by decide +kernel
theorem dX9_readHouse_113 : decode cX9_readHouse 113 = .ok (.invokevirtual 236, 3) := by decide +kernel
theorem dX9_readHouse_116 : decode cX9_readHouse 116 = .ok (.iastore, 1) := by decide +kernel
theorem dX9_readHouse_117 : decode cX9_readHouse 117 = .ok (.iinc 2 1, 3) := by decide +kernel
theorem dX9_readHouse_120 : decode cX9_readHouse 120 = .ok (.goto (-25), 3) := by decide +kernel
theorem dX9_readHouse_123 : decode cX9_readHouse 123 = .ok (.aload_n 0, 1) := by decide +kernel
theorem dX9_readHouse_124 : decode cX9_readHouse 124 = .ok (.getfield 27, 3) := by decide +kernel
theorem dX9_readHouse_127 : decode cX9_readHouse 127 = .ok (.aload_n 0, 1) := by decide +kernel
theorem dX9_readHouse_128 : decode cX9_readHouse 128 = .ok (.getfield 240, 3) := by decide +kernel
theorem dX9_readHouse_131 : decode cX9_readHouse 131 = .ok (.dup2, 1) := by decide +kernel
theorem dX9_readHouse_132 : decode cX9_readHouse 132 = .ok (.iaload, 1) := by decide +kernel
theorem dX9_readHouse_133 : decode cX9_readHouse 133 = .ok (.iconst 1, 1) := by decide +kernel
theorem dX9_readHouse_134 : decode cX9_readHouse 134 = .ok (.iadd, 1) := by decide +kernel
theorem dX9_readHouse_135 : decode cX9_readHouse 135 = .ok (.iastore, 1) := by decide +kernel
theorem dX9_readHouse_136 : decode cX9_readHouse 136 = .ok (.return_, 1) := by decide +kernel
theorem dX9_readLine_0 : decode cX9_readLine 0 = .ok (.aload_n 0, 1) := by decide +kernel
theorem dX9_readLine_1 : decode cX9_readLine 1 = .ok (.getfield 198, 3) := by decide +kernel
theorem dX9_readLine_4 : decode cX9_readLine 4 = .ok (.lstore_n 1, 1) := by decide +kernel
theorem dX9_readLine_5 : decode cX9_readLine 5 = .ok (.aload_n 0, 1) := by decide +kernel
theorem dX9_readLine_6 : decode cX9_readLine 6 = .ok (.getfield 191, 3) := by decide +kernel
theorem dX9_readLine_9 : decode cX9_readLine 9 = .ok (.iconst 3, 1) := by decide +kernel
theorem dX9_readLine_10 : decode cX9_readLine 10 = .ok (.if_icmp .ne 10, 3) := by decide +kernel
theorem dX9_readLine_13 : decode cX9_readLine 13 = .ok (.aload_n 0, 1) := by decide +kernel
theorem dX9_readLine_14 : decode cX9_readLine 14 = .ok (.invokevirtual 259, 3) := by decide +kernel
theorem dX9_readLine_17 : decode cX9_readLine 17 = .ok (.ifCond .eq 7, 3) := by decide +kernel
theorem dX9_readLine_20 : decode cX9_readLine 20 = .ok (.aload_n 0, 1) := by decide +kernel
theorem dX9_readLine_21 : decode cX9_readLine 21 = .ok (.invokevirtual 226, 3) := by decide +kernel
theorem dX9_readLine_24 : decode cX9_readLine 24 = .ok (.aload_n 0, 1) := by decide +kernel
theorem dX9_readLine_25 : decode cX9_readLine 25 = .ok (.invokevirtual 219, 3) := by decide +kernel
theorem dX9_readLine_28 : decode cX9_readLine 28 = .ok (.ifCond .ne 4, 3) := by decide +kernel
theorem dX9_readLine_31 : decode cX9_readLine 31 = .ok (.return_, 1) := by decide +kernel
theorem dX9_readLine_32 : decode cX9_readLine 32 = .ok (.aload_n 0, 1) := by decide +kernel
theorem dX9_readLine_33 : decode cX9_readLine 33 = .ok (.invokevirtual 223, 3) := by decide +kernel
theorem dX9_readLine_36 : decode cX9_readLine 36 = .ok (.lload_n 1, 1) := by decide +kernel
theorem dX9_readLine_37 : decode cX9_readLine 37 = .ok (.ldc2_w 143, 3) := by decide +kernel
theorem dX9_readLine_40 : decode cX9_readLine 40 = .ok (.lcmp, 1) := by decide +kernel
theorem dX9_readLine_41 : decode cX9_readLine 41 = .ok (.ifCond .ne 20, 3) := by decide +kernel
theorem dX9_readLine_44 : decode cX9_readLine 44 = .ok (.aload_n 0, 1) := by decide +kernel
theorem dX9_readLine_45 : decode cX9_readLine 45 = .ok (.getfield 20, 3) := by decide +kernel
theorem dX9_readLine_48 : decode cX9_readLine 48 = .ok (.aload_n 0, 1) := by decide +kernel
theorem dX9_readLine_49 : decode cX9_readLine 49 = .ok (.getfield 240, 3) := by decide +kernel
theorem dX9_readLine_52 : decode cX9_readLine 52 = .ok (.aload_n 0, 1) := by decide +kernel
theorem dX9_readLine_53 : decode cX9_readLine 53 = .ok (.iconst 0, 1) := by decide +kernel
theorem dX9_readLine_54 : decode cX9_readLine 54 = .ok (.iconst 1, 1) := by decide +kernel
theorem dX9_readLine_55 : decode cX9_readLine 55 = .ok (.bipush 9, 2) := by decide +kernel
theorem dX9_readLine_57 : decode cX9_readLine 57 = .ok (.invokevirtual 262, 3) := by decide +kernel
theorem dX9_readLine_60 : decode cX9_readLine 60 = .ok (.iastore, 1) := by decide +kernel
theorem dX9_readLine_61 : decode cX9_readLine 61 = .ok (.lload_n 1, 1) := by decide +kernel
theorem dX9_readLine_62 : decode cX9_readLine 62 = .ok (.ldc2_w 145, 3) := by decide +kernel
theorem dX9_readLine_65 : decode cX9_readLine 65 = .ok (.lcmp, 1) := by decide +kernel
theorem dX9_readLine_66 : decode cX9_readLine 66 = .ok (.ifCond .ne 7, 3) := by decide +kernel
theorem dX9_readLine_69 : decode cX9_readLine 69 = .ok (.aload_n 0, 1) := by decide +kernel
theorem dX9_readLine_70 : decode cX9_readLine 70 = .ok (.invokevirtual 266, 3) := by decide +kernel
theorem dX9_readLine_73 : decode cX9_readLine 73 = .ok (.lload_n 1, 1) := by decide +kernel
theorem dX9_readLine_74 : decode cX9_readLine 74 = .ok (.ldc2_w 151, 3) := by decide +kernel
theorem dX9_readLine_77 : decode cX9_readLine 77 = .ok (.lcmp, 1) := by decide +kernel
theorem dX9_readLine_78 : decode cX9_readLine 78 = .ok (.ifCond .ne 7, 3) := by decide +kernel
theorem dX9_readLine_81 : decode cX9_readLine 81 = .ok (.aload_n 0, 1) := by decide +kernel
theorem dX9_readLine_82 : decode cX9_readLine 82 = .ok (.invokevirtual 269, 3) := by decide +kernel
theorem dX9_readLine_85 : decode cX9_readLine 85 = .ok (.lload_n 1, 1) := by decide +kernel
theorem dX9_readLine_86 : decode cX9_readLine 86 = .ok (.ldc2_w 159, 3) := by decide +kernel
theorem dX9_readLine_89 : decode cX9_readLine 89 = .ok (.lcmp, 1) := by decide +kernel
theorem dX9_readLine_90 : decode cX9_readLine 90 = .ok (.ifCond .ne 7, 3) := by decide +kernel
theorem dX9_readLine_93 : decode cX9_readLine 93 = .ok (.aload_n 0, 1) := by decide +kernel
theorem dX9_readLine_94 : decode cX9_readLine 94 = .ok (.invokevirtual 272, 3) := by decide +kernel
theorem dX9_readLine_97 : decode cX9_readLine 97 = .ok (.lload_n 1, 1) := by decide +kernel
theorem dX9_readLine_98 : decode cX9_readLine 98 = .ok (.ldc2_w 161, 3) := by decide +kernel
theorem dX9_readLine_101 : decode cX9_readLine 101 = .ok (.lcmp, 1) := by decide +kernel
theorem dX9_readLine_102 : decode cX9_readLine 102 = .ok (.ifCond .ne 20, 3) := by decide +kernel
theorem dX9_readLine_105 : decode cX9_readLine 105 = .ok (.aload_n 0, 1) := by decide +kernel
theorem dX9_readLine_106 : decode cX9_readLine 106 = .ok (.getfield 33, 3) := by decide +kernel
theorem dX9_readLine_109 : decode cX9_readLine 109 = .ok (.aload_n 0, 1) := by decide +kernel
theorem dX9_readLine_110 : decode cX9_readLine 110 = .ok (.getfield 240, 3) := by decide +kernel
theorem dX9_readLine_113 : decode cX9_readLine 113 = .ok (.aload_n 0, 1) := by decide +kernel
theorem dX9_readLine_114 : decode cX9_readLine 114 = .ok (.iconst 2, 1) := by decide +kernel
theorem dX9_readLine_115 : decode cX9_readLine 115 = .ok (.iconst 0, 1) := by decide +kernel
theorem dX9_readLine_116 : decode cX9_readLine 116 = .ok (.bipush 100, 2) := by decide +kernel
theorem dX9_readLine_118 : decode cX9_readLine 118 = .ok (.invokevirtual 262, 3) := by decide +kernel
theorem dX9_readLine_121 : decode cX9_readLine 121 = .ok (.iastore, 1) := by decide +kernel
theorem dX9_readLine_122 : decode cX9_readLine 122 = .ok (.lload_n 1, 1) := by decide +kernel
theorem dX9_readLine_123 : decode cX9_readLine 123 = .ok (.ldc2_w 163, 3) := by decide +kernel
theorem dX9_readLine_126 : decode cX9_readLine 126 = .ok (.lcmp, 1) := by decide +kernel
theorem dX9_readLine_127 : decode cX9_readLine 127 = .ok (.ifCond .ne 21, 3) := by decide +kernel
theorem dX9_readLine_130 : decode cX9_readLine 130 = .ok (.aload_n 0, 1) := by decide +kernel
theorem dX9_readLine_131 : decode cX9_readLine 131 = .ok (.getfield 36, 3) := by decide +kernel
theorem dX9_readLine_134 : decode cX9_readLine 134 = .ok (.aload_n 0, 1) := by decide +kernel
theorem dX9_readLine_135 : decode cX9_readLine 135 = .ok (.getfield 240, 3) := by decide +kernel
theorem dX9_readLine_138 : decode cX9_readLine 138 = .ok (.aload_n 0, 1) := by decide +kernel
theorem dX9_readLine_139 : decode cX9_readLine 139 = .ok (.iconst 3, 1) := by decide +kernel
theorem dX9_readLine_140 : decode cX9_readLine 140 = .ok (.iconst 0, 1) := by decide +kernel
theorem dX9_readLine_141 : decode cX9_readLine 141 = .ok (.sipush 999, 3) := by decide +kernel
theorem dX9_readLine_144 : decode cX9_readLine 144 = .ok (.invokevirtual 262, 3) := by decide +kernel
theorem dX9_readLine_147 : decode cX9_readLine 147 = .ok (.iastore, 1) := by decide +kernel
theorem dX9_readLine_148 : decode cX9_readLine 148 = .ok (.aload_n 0, 1) := by decide +kernel
theorem dX9_readLine_149 : decode cX9_readLine 149 = .ok (.aload_n 0, 1) := by decide +kernel
theorem dX9_readLine_150 : decode cX9_readLine 150 = .ok (.bipush 59, 2) := by decide +kernel
theorem dX9_readLine_152 : decode cX9_readLine 152 = .ok (.invokevirtual 275, 3) := by decide +kernel
theorem dX9_readLine_155 : decode cX9_readLine 155 = .ok (.invokevirtual 232, 3) := by decide +kernel
theorem dX9_readLine_158 : decode cX9_readLine 158 = .ok (.return_, 1) := by decide +kernel
theorem dX9_readRule_0 : decode cX9_readRule 0 = .ok (.aload_n 0, 1) := by decide +kernel
theorem dX9_readRule_1 : decode cX9_readRule 1 = .ok (.getfield 39, 3) := by decide +kernel
theorem dX9_readRule_4 : decode cX9_readRule 4 = .ok (.aload_n 0, 1) := by decide +kernel
theorem dX9_readRule_5 : decode cX9_readRule 5 = .ok (.getfield 240, 3) := by decide +kernel
theorem dX9_readRule_8 : decode cX9_readRule 8 = .ok (.dup2, 1) := by decide +kernel
theorem dX9_readRule_9 : decode cX9_readRule 9 = .ok (.iaload, 1) := by decide +kernel
theorem dX9_readRule_10 : decode cX9_readRule 10 = .ok (.iconst 2, 1) := by decide +kernel
theorem dX9_readRule_11 : decode cX9_readRule 11 = .ok (.ior, 1) := by decide +kernel
theorem dX9_readRule_12 : decode cX9_readRule 12 = .ok (.iastore, 1) := by decide +kernel
theorem dX9_readRule_13 : decode cX9_readRule 13 = .ok (.aload_n 0, 1) := by decide +kernel
theorem dX9_readRule_14 : decode cX9_readRule 14 = .ok (.iconst 0, 1) := by decide +kernel
theorem dX9_readRule_15 : decode cX9_readRule 15 = .ok (.putfield 290, 3) := by decide +kernel
theorem dX9_readRule_18 : decode cX9_readRule 18 = .ok (.aload_n 0, 1) := by decide +kernel
theorem dX9_readRule_19 : decode cX9_readRule 19 = .ok (.getfield 60, 3) := by decide +kernel
theorem dX9_readRule_22 : decode cX9_readRule 22 = .ok (.aload_n 0, 1) := by decide +kernel
theorem dX9_readRule_23 : decode cX9_readRule 23 = .ok (.getfield 240, 3) := by decide +kernel
theorem dX9_readRule_26 : decode cX9_readRule 26 = .ok (.aload_n 0, 1) := by decide +kernel
theorem dX9_readRule_27 : decode cX9_readRule 27 = .ok (.getfield 243, 3) := by decide +kernel
theorem dX9_readRule_30 : decode cX9_readRule 30 = .ok (.iastore, 1) := by decide +kernel
theorem dX9_readRule_31 : decode cX9_readRule 31 = .ok (.aload_n 0, 1) := by decide +kernel
theorem dX9_readRule_32 : decode cX9_readRule 32 = .ok (.invokevirtual 293, 3) := by decide +kernel
theorem dX9_readRule_35 : decode cX9_readRule 35 = .ok (.aload_n 0, 1) := by decide +kernel
theorem dX9_readRule_36 : decode cX9_readRule 36 = .ok (.getfield 63, 3) := by decide +kernel
theorem dX9_readRule_39 : decode cX9_readRule 39 = .ok (.aload_n 0, 1) := by decide +kernel
theorem dX9_readRule_40 : decode cX9_readRule 40 = .ok (.getfield 240, 3) := by decide +kernel
theorem dX9_readRule_43 : decode cX9_readRule 43 = .ok (.aload_n 0, 1) := by decide +kernel
theorem dX9_readRule_44 : decode cX9_readRule 44 = .ok (.getfield 243, 3) := by decide +kernel
theorem dX9_readRule_47 : decode cX9_readRule 47 = .ok (.iastore, 1) := by decide +kernel
theorem dX9_readRule_48 : decode cX9_readRule 48 = .ok (.return_, 1) := by decide +kernel
theorem dX9_readTune_0 : decode cX9_readTune 0 = .ok (.iconst 5, 1) := by decide +kernel
theorem dX9_readTune_1 : decode cX9_readTune 1 = .ok (.aload_n 0, 1) := by decide +kernel
theorem dX9_readTune_2 : decode cX9_readTune 2 = .ok (.getfield 240, 3) := by decide +kernel
theorem dX9_readTune_5 : decode cX9_readTune 5 = .ok (.imul, 1) := by decide +kernel
theorem dX9_readTune_6 : decode cX9_readTune 6 = .ok (.aload_n 0, 1) := by decide +kernel
theorem dX9_readTune_7 : decode cX9_readTune 7 = .ok (.getfield 24, 3) := by decide +kernel
theorem dX9_readTune_10 : decode cX9_readTune 10 = .ok (.aload_n 0, 1) := by decide +kernel
theorem dX9_readTune_11 : decode cX9_readTune 11 = .ok (.getfield 240, 3) := by decide +kernel
theorem dX9_readTune_14 : decode cX9_readTune 14 = .ok (.iaload, 1) := by decide +kernel
theorem dX9_readTune_15 : decode cX9_readTune 15 = .ok (.iadd, 1) := by decide +kernel
theorem dX9_readTune_16 : decode cX9_readTune 16 = .ok (.istore_n 1, 1) := by decide +kernel
theorem dX9_readTune_17 : decode cX9_readTune 17 = .ok (.aload_n 0, 1) := by decide +kernel
theorem dX9_readTune_18 : decode cX9_readTune 18 = .ok (.getfield 66, 3) := by decide +kernel
theorem dX9_readTune_21 : decode cX9_readTune 21 = .ok (.iload_n 1, 1) := by decide +kernel
theorem dX9_readTune_22 : decode cX9_readTune 22 = .ok (.aload_n 0, 1) := by decide +kernel
theorem dX9_readTune_23 : decode cX9_readTune 23 = .ok (.aload_n 0, 1) := by decide +kernel
theorem dX9_readTune_24 : decode cX9_readTune 24 = .ok (.aload_n 0, 1) := by decide +kernel
theorem dX9_readTune_25 : decode cX9_readTune 25 = .ok (.getfield 66, 3) := by decide +kernel
theorem dX9_readTune_28 : decode cX9_readTune 28 = .ok (.iconst 5, 1) := by decide +kernel
theorem dX9_readTune_29 : decode cX9_readTune 29 = .ok (.aload_n 0, 1) := by decide +kernel
theorem dX9_readTune_30 : decode cX9_readTune 30 = .ok (.getfield 240, 3) := by decide +kernel
theorem dX9_readTune_33 : decode cX9_readTune 33 = .ok (.imul, 1) := by decide +kernel
theorem dX9_readTune_34 : decode cX9_readTune 34 = .ok (.aload_n 0, 1) := by decide +kernel
theorem dX9_readTune_35 : decode cX9_readTune 35 = .ok (.getfield 24, 3) := by decide +kernel
theorem dX9_readTune_38 : decode cX9_readTune 38 = .ok (.aload_n 0, 1) := by decide +kernel
theorem dX9_readTune_39 : decode cX9_readTune 39 = .ok (.getfield 240, 3) := by decide +kernel
theorem dX9_readTune_42 : decode cX9_readTune 42 = .ok (.iaload, 1) := by decide +kernel
theorem dX9_readTune_43 : decode cX9_readTune 43 = .ok (.invokevirtual 278, 3) := by decide +kernel
theorem dX9_readTune_46 : decode cX9_readTune 46 = .ok (.invokevirtual 282, 3) := by decide +kernel
theorem dX9_readTune_49 : decode cX9_readTune 49 = .ok (.lastore, 1) := by decide +kernel
theorem dX9_readTune_50 : decode cX9_readTune 50 = .ok (.aload_n 0, 1) := by decide +kernel
theorem dX9_readTune_51 : decode cX9_readTune 51 = .ok (.getfield 42, 3) := by decide +kernel
theorem dX9_readTune_54 : decode cX9_readTune 54 = .ok (.iload_n 1, 1) := by decide +kernel
theorem dX9_readTune_55 : decode cX9_readTune 55 = .ok (.aload_n 0, 1) := by decide +kernel
theorem dX9_readTune_56 : decode cX9_readTune 56 = .ok (.ldc2_w 147, 3) := by decide +kernel
theorem dX9_readTune_59 : decode cX9_readTune 59 = .ok (.iconst 0, 1) := by decide +kernel
theorem dX9_readTune_60 : decode cX9_readTune 60 = .ok (.bipush 99, 2) := by decide +kernel
theorem dX9_readTune_62 : decode cX9_readTune 62 = .ok (.invokevirtual 286, 3) := by decide +kernel
theorem dX9_readTune_65 : decode cX9_readTune 65 = .ok (.iastore, 1) := by decide +kernel
theorem dX9_readTune_66 : decode cX9_readTune 66 = .ok (.aload_n 0, 1) := by decide +kernel
theorem dX9_readTune_67 : decode cX9_readTune 67 = .ok (.aload_n 0, 1) := by decide +kernel
theorem dX9_readTune_68 : decode cX9_readTune 68 = .ok (.ldc2_w 149, 3) := by decide +kernel
theorem dX9_readTune_71 : decode cX9_readTune 71 = .ok (.invokevirtual 229, 3) := by decide +kernel
theorem dX9_readTune_74 : decode cX9_readTune 74 = .ok (.invokevirtual 232, 3) := by decide +kernel
theorem dX9_readTune_77 : decode cX9_readTune 77 = .ok (.iconst 0, 1) := by decide +kernel
theorem dX9_readTune_78 : decode cX9_readTune 78 = .ok (.istore_n 2, 1) := by decide +kernel
theorem dX9_readTune_79 : decode cX9_readTune 79 = .ok (.aload_n 0, 1) := by decide +kernel
theorem dX9_readTune_80 : decode cX9_readTune 80 = .ok (.invokevirtual 219, 3) := by decide +kernel
theorem dX9_readTune_83 : decode cX9_readTune 83 = .ok (.ifCond .eq 46, 3) := by decide +kernel
theorem dX9_readTune_86 : decode cX9_readTune 86 = .ok (.iload_n 2, 1) := by decide +kernel
theorem dX9_readTune_87 : decode cX9_readTune 87 = .ok (.bipush 8, 2) := by decide +kernel
theorem dX9_readTune_89 : decode cX9_readTune 89 = .ok (.if_icmp .ge 40, 3) := by decide +kernel
theorem dX9_readTune_92 : decode cX9_readTune 92 = .ok (.iload_n 2, 1) := by decide +kernel
theorem dX9_readTune_93 : decode cX9_readTune 93 = .ok (.iconst 3, 1) := by decide +kernel
theorem dX9_readTune_94 : decode cX9_readTune 94 = .ok (.if_icmp .lt 11, 3) := by decide +kernel
theorem dX9_readTune_97 : decode cX9_readTune 97 = .ok (.aload_n 0, 1) := by decide +kernel
theorem dX9_readTune_98 : decode cX9_readTune 98 = .ok (.getfield 191, 3) := by decide +kernel
theorem dX9_readTune_101 : decode cX9_readTune 101 = .ok (.iconst 4, 1) := by decide +kernel
theorem dX9_readTune_102 : decode cX9_readTune 102 = .ok (.if_icmp .ne 27, 3) := by decide +kernel
theorem dX9_readTune_105 : decode cX9_readTune 105 = .ok (.aload_n 0, 1) := by decide +kernel
theorem dX9_readTune_106 : decode cX9_readTune 106 = .ok (.getfield 48, 3) := by decide +kernel
theorem dX9_readTune_109 : decode cX9_readTune 109 = .ok (.bipush 8, 2) := by decide +kernel
theorem dX9_readTune_111 : decode cX9_readTune 111 = .ok (.iload_n 1, 1) := by decide +kernel
theorem dX9_readTune_112 : decode cX9_readTune 112 = .ok (.imul, 1) := by decide +kernel
theorem dX9_readTune_113 : decode cX9_readTune 113 = .ok (.iload_n 2, 1) := by decide +kernel
theorem dX9_readTune_114 : decode cX9_readTune 114 = .ok (.iadd, 1) := by decide +kernel
theorem dX9_readTune_115 : decode cX9_readTune 115 = .ok (.aload_n 0, 1) := by decide +kernel
theorem dX9_readTune_116 : decode cX9_readTune 116 = .ok (.iconst 0, 1) := by decide +kernel
theorem dX9_readTune_117 : decode cX9_readTune 117 = .ok (.bipush 6, 2) := by decide +kernel
theorem dX9_readTune_119 : decode cX9_readTune 119 = .ok (.invokevirtual 236, 3) := by decide +kernel
theorem dX9_readTune_122 : decode cX9_readTune 122 = .ok (.iastore, 1) := by decide +kernel
theorem dX9_readTune_123 : decode cX9_readTune 123 = .ok (.iinc 2 1, 3) := by decide +kernel
theorem dX9_readTune_126 : decode cX9_readTune 126 = .ok (.goto (-47), 3) := by decide +kernel
theorem dX9_readTune_129 : decode cX9_readTune 129 = .ok (.aload_n 0, 1) := by decide +kernel
theorem dX9_readTune_130 : decode cX9_readTune 130 = .ok (.getfield 45, 3) := by decide +kernel
theorem dX9_readTune_133 : decode cX9_readTune 133 = .ok (.iload_n 1, 1) := by decide +kernel
theorem dX9_readTune_134 : decode cX9_readTune 134 = .ok (.iload_n 2, 1) := by decide +kernel
theorem dX9_readTune_135 : decode cX9_readTune 135 = .ok (.iastore, 1) := by decide +kernel
theorem dX9_readTune_136 : decode cX9_readTune 136 = .ok (.aload_n 0, 1) := by decide +kernel
theorem dX9_readTune_137 : decode cX9_readTune 137 = .ok (.getfield 24, 3) := by decide +kernel
theorem dX9_readTune_140 : decode cX9_readTune 140 = .ok (.aload_n 0, 1) := by decide +kernel
theorem dX9_readTune_141 : decode cX9_readTune 141 = .ok (.getfield 240, 3) := by decide +kernel
theorem dX9_readTune_144 : decode cX9_readTune 144 = .ok (.dup2, 1) := by decide +kernel
theorem dX9_readTune_145 : decode cX9_readTune 145 = .ok (.iaload, 1) := by decide +kernel
theorem dX9_readTune_146 : decode cX9_readTune 146 = .ok (.iconst 1, 1) := by decide +kernel
theorem dX9_readTune_147 : decode cX9_readTune 147 = .ok (.iadd, 1) := by decide +kernel
theorem dX9_readTune_148 : decode cX9_readTune 148 = .ok (.iastore, 1) := by decide +kernel
theorem dX9_readTune_149 : decode cX9_readTune 149 = .ok (.return_, 1) := by decide +kernel
theorem dX9_redo_0 : decode cX9_redo 0 = .ok (.aload_n 0, 1) := by decide +kernel
theorem dX9_redo_1 : decode cX9_redo 1 = .ok (.getfield 367, 3) := by decide +kernel
theorem dX9_redo_4 : decode cX9_redo 4 = .ok (.ifCond .ne 5, 3) := by decide +kernel
theorem dX9_redo_7 : decode cX9_redo 7 = .ok (.iconst 0, 1) := by decide +kernel
theorem dX9_redo_8 : decode cX9_redo 8 = .ok (.ireturn, 1) := by decide +kernel
theorem dX9_redo_9 : decode cX9_redo 9 = .ok (.aload_n 0, 1) := by decide +kernel
theorem dX9_redo_10 : decode cX9_redo 10 = .ok (.invokevirtual 453, 3) := by decide +kernel
theorem dX9_redo_13 : decode cX9_redo 13 = .ok (.aload_n 0, 1) := by decide +kernel
theorem dX9_redo_14 : decode cX9_redo 14 = .ok (.dup, 1) := by decide +kernel
theorem dX9_redo_15 : decode cX9_redo 15 = .ok (.getfield 364, 3) := by decide +kernel
theorem dX9_redo_18 : decode cX9_redo 18 = .ok (.iconst 1, 1) := by decide +kernel
theorem dX9_redo_19 : decode cX9_redo 19 = .ok (.iadd, 1) := by decide +kernel
theorem dX9_redo_20 : decode cX9_redo 20 = .ok (.putfield 364, 3) := by decide +kernel
theorem dX9_redo_23 : decode cX9_redo 23 = .ok (.aload_n 0, 1) := by decide +kernel
theorem dX9_redo_24 : decode cX9_redo 24 = .ok (.dup, 1) := by decide +kernel
theorem dX9_redo_25 : decode cX9_redo 25 = .ok (.getfield 367, 3) := by decide +kernel
theorem dX9_redo_28 : decode cX9_redo 28 = .ok (.iconst 1, 1) := by decide +kernel
theorem dX9_redo_29 : decode cX9_redo 29 = .ok (.isub, 1) := by decide +kernel
theorem dX9_redo_30 : decode cX9_redo 30 = .ok (.putfield 367, 3) := by decide +kernel
theorem dX9_redo_33 : decode cX9_redo 33 = .ok (.iconst 1, 1) := by decide +kernel
theorem dX9_redo_34 : decode cX9_redo 34 = .ok (.ireturn, 1) := by decide +kernel
theorem dX9_restore_0 : decode cX9_restore 0 = .ok (.iload_n 1, 1) := by decide +kernel
theorem dX9_restore_1 : decode cX9_restore 1 = .ok (.iconst 0, 1) := by decide +kernel
theorem dX9_restore_2 : decode cX9_restore 2 = .ok (.iconst 2, 1) := by decide +kernel
theorem dX9_restore_3 : decode cX9_restore 3 = .ok (.invokestatic 354, 3) := by decide +kernel
theorem dX9_restore_6 : decode cX9_restore 6 = .ok (.ifCond .eq 12, 3) := by decide +kernel
theorem dX9_restore_9 : decode cX9_restore 9 = .ok (.aload_n 0, 1) := by decide +kernel
theorem dX9_restore_10 : decode cX9_restore 10 = .ok (.getfield 128, 3) := by decide +kernel
theorem dX9_restore_13 : decode cX9_restore 13 = .ok (.iload_n 1, 1) := by decide +kernel
theorem dX9_restore_14 : decode cX9_restore 14 = .ok (.baload, 1) := by decide +kernel
theorem dX9_restore_15 : decode cX9_restore 15 = .ok (.ifCond .ne 5, 3) := by decide +kernel
theorem dX9_restore_18 : decode cX9_restore 18 = .ok (.iconst (-1), 1) := by decide +kernel
theorem dX9_restore_19 : decode cX9_restore 19 = .ok (.ireturn, 1) := by decide +kernel
theorem dX9_restore_20 : decode cX9_restore 20 = .ok (.iconst 0, 1) := by decide +kernel
theorem dX9_restore_21 : decode cX9_restore 21 = .ok (.istore_n 2, 1) := by decide +kernel
theorem dX9_restore_22 : decode cX9_restore 22 = .ok (.iload_n 2, 1) := by decide +kernel
theorem dX9_restore_23 : decode cX9_restore 23 = .ok (.bipush 26, 2) := by decide +kernel
theorem dX9_restore_25 : decode cX9_restore 25 = .ok (.if_icmp .ge 26, 3) := by decide +kernel
theorem dX9_restore_28 : decode cX9_restore 28 = .ok (.aload_n 0, 1) := by decide +kernel
theorem dX9_restore_29 : decode cX9_restore 29 = .ok (.getfield 88, 3) := by decide +kernel
theorem dX9_restore_32 : decode cX9_restore 32 = .ok (.iload_n 2, 1) := by decide +kernel
theorem dX9_restore_33 : decode cX9_restore 33 = .ok (.aload_n 0, 1) := by decide +kernel
theorem dX9_restore_34 : decode cX9_restore 34 = .ok (.getfield 125, 3) := by decide +kernel
theorem dX9_restore_37 : decode cX9_restore 37 = .ok (.bipush 26, 2) := by decide +kernel
theorem dX9_restore_39 : decode cX9_restore 39 = .ok (.iload_n 1, 1) := by decide +kernel
theorem dX9_restore_40 : decode cX9_restore 40 = .ok (.imul, 1) := by decide +kernel
theorem dX9_restore_41 : decode cX9_restore 41 = .ok (.iload_n 2, 1) := by decide +kernel
theorem dX9_restore_42 : decode cX9_restore 42 = .ok (.iadd, 1) := by decide +kernel
theorem dX9_restore_43 : decode cX9_restore 43 = .ok (.iaload, 1) := by decide +kernel
theorem dX9_restore_44 : decode cX9_restore 44 = .ok (.iastore, 1) := by decide +kernel
theorem dX9_restore_45 : decode cX9_restore 45 = .ok (.iinc 2 1, 3) := by decide +kernel
theorem dX9_restore_48 : decode cX9_restore 48 = .ok (.goto (-26), 3) := by decide +kernel
theorem dX9_restore_51 : decode cX9_restore 51 = .ok (.aload_n 0, 1) := by decide +kernel
theorem dX9_restore_52 : decode cX9_restore 52 = .ok (.iconst 0, 1) := by decide +kernel
theorem dX9_restore_53 : decode cX9_restore 53 = .ok (.putfield 364, 3) := by decide +kernel
theorem dX9_restore_56 : decode cX9_restore 56 = .ok (.aload_n 0, 1) := by decide +kernel
theorem dX9_restore_57 : decode cX9_restore 57 = .ok (.iconst 0, 1) := by decide +kernel
theorem dX9_restore_58 : decode cX9_restore 58 = .ok (.putfield 367, 3) := by decide +kernel
theorem dX9_restore_61 : decode cX9_restore 61 = .ok (.aload_n 0, 1) := by decide +kernel
theorem dX9_restore_62 : decode cX9_restore 62 = .ok (.getfield 88, 3) := by decide +kernel
theorem dX9_restore_65 : decode cX9_restore 65 = .ok (.bipush 24, 2) := by decide +kernel
theorem dX9_restore_67 : decode cX9_restore 67 = .ok (.iaload, 1) := by decide +kernel
theorem dX9_restore_68 : decode cX9_restore 68 = .ok (.ireturn, 1) := by decide +kernel
theorem dX9_rivals_0 : decode cX9_rivals 0 = .ok (.aload_n 0, 1) := by decide +kernel
theorem dX9_rivals_1 : decode cX9_rivals 1 = .ok (.iconst 0, 1) := by decide +kernel
theorem dX9_rivals_2 : decode cX9_rivals 2 = .ok (.putfield 373, 3) := by decide +kernel
theorem dX9_rivals_5 : decode cX9_rivals 5 = .ok (.iconst 0, 1) := by decide +kernel
theorem dX9_rivals_6 : decode cX9_rivals 6 = .ok (.istore_n 3, 1) := by decide +kernel
theorem dX9_rivals_7 : decode cX9_rivals 7 = .ok (.iconst 0, 1) := by decide +kernel
theorem dX9_rivals_8 : decode cX9_rivals 8 = .ok (.istore 4, 2) := by decide +kernel
theorem dX9_rivals_10 : decode cX9_rivals 10 = .ok (.iload 4, 2) := by decide +kernel
theorem dX9_rivals_12 : decode cX9_rivals 12 = .ok (.aload_n 0, 1) := by decide +kernel
theorem dX9_rivals_13 : decode cX9_rivals 13 = .ok (.invokevirtual 351, 3) := by decide +kernel
theorem dX9_rivals_16 : decode cX9_rivals 16 = .ok (.if_icmp .ge 26, 3) := by decide +kernel
theorem dX9_rivals_19 : decode cX9_rivals 19 = .ok (.iload_n 3, 1) := by decide +kernel
theorem dX9_rivals_20 : decode cX9_rivals 20 = .ok (.aload_n 0, 1) := by decide +kernel
theorem dX9_rivals_21 : decode cX9_rivals 21 = .ok (.iload 4, 2) := by decide +kernel
theorem dX9_rivals_23 : decode cX9_rivals 23 = .ok (.invokevirtual 450, 3) := by decide +kernel
theorem dX9_rivals_26 : decode cX9_rivals 26 = .ok (.ifCond .eq 7, 3) := by decide +kernel
theorem dX9_rivals_29 : decode cX9_rivals 29 = .ok (.iconst 1, 1) := by decide +kernel
theorem dX9_rivals_30 : decode cX9_rivals 30 = .ok (.goto 4, 3) := by decide +kernel
theorem dX9_rivals_33 : decode cX9_rivals 33 = .ok (.iconst 0, 1) := by decide +kernel
theorem dX9_rivals_34 : decode cX9_rivals 34 = .ok (.iadd, 1) := by decide +kernel
theorem dX9_rivals_35 : decode cX9_rivals 35 = .ok (.istore_n 3, 1) := by decide +kernel
theorem dX9_rivals_36 : decode cX9_rivals 36 = .ok (.iinc 4 1, 3) := by decide +kernel
theorem dX9_rivals_39 : decode cX9_rivals 39 = .ok (.goto (-29), 3) := by decide +kernel
theorem dX9_rivals_42 : decode cX9_rivals 42 = .ok (.aload_n 0, 1) := by decide +kernel
theorem dX9_rivals_43 : decode cX9_rivals 43 = .ok (.iload_n 1, 1) := by decide +kernel
theorem dX9_rivals_44 : decode cX9_rivals 44 = .ok (.invokevirtual 415, 3) := by decide +kernel
theorem dX9_rivals_47 : decode cX9_rivals 47 = .ok (.ifCond .eq 20, 3) := by decide +kernel
theorem dX9_rivals_50 : decode cX9_rivals 50 = .ok (.aload_n 0, 1) := by decide +kernel
theorem dX9_rivals_51 : decode cX9_rivals 51 = .ok (.iload_n 2, 1) := by decide +kernel
theorem dX9_rivals_52 : decode cX9_rivals 52 = .ok (.invokevirtual 415, 3) := by decide +kernel
theorem dX9_rivals_55 : decode cX9_rivals 55 = .ok (.ifCond .eq 12, 3) := by decide +kernel
theorem dX9_rivals_58 : decode cX9_rivals 58 = .ok (.iload_n 1, 1) := by decide +kernel
theorem dX9_rivals_59 : decode cX9_rivals 59 = .ok (.iload_n 2, 1) := by decide +kernel
theorem dX9_rivals_60 : decode cX9_rivals 60 = .ok (.if_icmp .eq 7, 3) := by decide +kernel
theorem dX9_rivals_63 : decode cX9_rivals 63 = .ok (.iload_n 3, 1) := by decide +kernel
theorem dX9_rivals_64 : decode cX9_rivals 64 = .ok (.ifCond .ne 5, 3) := by decide +kernel
theorem dX9_rivals_67 : decode cX9_rivals 67 = .ok (.iconst (-1), 1) := by decide +kernel
theorem dX9_rivals_68 : decode cX9_rivals 68 = .ok (.ireturn, 1) := by decide +kernel
theorem dX9_rivals_69 : decode cX9_rivals 69 = .ok (.iconst 0, 1) := by decide +kernel
theorem dX9_rivals_70 : decode cX9_rivals 70 = .ok (.istore 4, 2) := by decide +kernel
theorem dX9_rivals_72 : decode cX9_rivals 72 = .ok (.iconst 0, 1) := by decide +kernel
theorem dX9_rivals_73 : decode cX9_rivals 73 = .ok (.istore 5, 2) := by decide +kernel
theorem dX9_rivals_75 : decode cX9_rivals 75 = .ok (.iload 5, 2) := by decide +kernel
theorem dX9_rivals_77 : decode cX9_rivals 77 = .ok (.aload_n 0, 1) := by decide +kernel
theorem dX9_rivals_78 : decode cX9_rivals 78 = .ok (.invokevirtual 351, 3) := by decide +kernel
theorem dX9_rivals_81 : decode cX9_rivals 81 = .ok (.aload_n 0, 1) := by decide +kernel
theorem dX9_rivals_82 : decode cX9_rivals 82 = .ok (.invokevirtual 351, 3) := by decide +kernel
theorem dX9_rivals_85 : decode cX9_rivals 85 = .ok (.imul, 1) := by decide +kernel
theorem dX9_rivals_86 : decode cX9_rivals 86 = .ok (.if_icmp .ge 90, 3) := by decide +kernel
theorem dX9_rivals_89 : decode cX9_rivals 89 = .ok (.iload 5, 2) := by decide +kernel
theorem dX9_rivals_91 : decode cX9_rivals 91 = .ok (.aload_n 0, 1) := by decide +kernel
theorem dX9_rivals_92 : decode cX9_rivals 92 = .ok (.invokevirtual 351, 3) := by decide +kernel
theorem dX9_rivals_95 : decode cX9_rivals 95 = .ok (.idiv, 1) := by decide +kernel
theorem dX9_rivals_96 : decode cX9_rivals 96 = .ok (.istore 6, 2) := by decide +kernel
theorem dX9_rivals_98 : decode cX9_rivals 98 = .ok (.iload 5, 2) := by decide +kernel
theorem dX9_rivals_100 : decode cX9_rivals 100 = .ok (.aload_n 0, 1) := by decide +kernel
theorem dX9_rivals_101 : decode cX9_rivals 101 = .ok (.invokevirtual 351, 3) := by decide +kernel
theorem dX9_rivals_104 : decode cX9_rivals 104 = .ok (.irem, 1) := by decide +kernel
theorem dX9_rivals_105 : decode cX9_rivals 105 = .ok (.istore 7, 2) := by decide +kernel
theorem dX9_rivals_107 : decode cX9_rivals 107 = .ok (.aload_n 0, 1) := by decide +kernel
theorem dX9_rivals_108 : decode cX9_rivals 108 = .ok (.iload 6, 2) := by decide +kernel
theorem dX9_rivals_110 : decode cX9_rivals 110 = .ok (.invokevirtual 450, 3) := by decide +kernel
theorem dX9_rivals_113 : decode cX9_rivals 113 = .ok (.ifCond .eq 57, 3) := by decide +kernel
theorem dX9_rivals_116 : decode cX9_rivals 116 = .ok (.aload_n 0, 1) := by decide +kernel
theorem dX9_rivals_117 : decode cX9_rivals 117 = .ok (.iload 7, 2) := by decide +kernel
theorem dX9_rivals_119 : decode cX9_rivals 119 = .ok (.invokevirtual 450, 3) := by decide +kernel
theorem dX9_rivals_122 : decode cX9_rivals 122 = .ok (.ifCond .eq 48, 3) := by decide +kernel
theorem dX9_rivals_125 : decode cX9_rivals 125 = .ok (.aload_n 0, 1) := by decide +kernel
theorem dX9_rivals_126 : decode cX9_rivals 126 = .ok (.iload_n 1, 1) := by decide +kernel
theorem dX9_rivals_127 : decode cX9_rivals 127 = .ok (.iload_n 2, 1) := by decide +kernel
theorem dX9_rivals_128 : decode cX9_rivals 128 = .ok (.iload 6, 2) := by decide +kernel
theorem dX9_rivals_130 : decode cX9_rivals 130 = .ok (.iload 7, 2) := by decide +kernel
theorem dX9_rivals_132 : decode cX9_rivals 132 = .ok (.invokevirtual 486, 3) := by decide +kernel
theorem dX9_rivals_135 : decode cX9_rivals 135 = .ok (.ifCond .ne 6, 3) := by decide +kernel
theorem dX9_rivals_138 : decode cX9_rivals 138 = .ok (.goto 32, 3) := by decide +kernel
theorem dX9_rivals_141 : decode cX9_rivals 141 = .ok (.iload 4, 2) := by decide +kernel
theorem dX9_rivals_143 : decode cX9_rivals 143 = .ok (.ifCond .ne 24, 3) := by decide +kernel
theorem dX9_rivals_146 : decode cX9_rivals 146 = .ok (.aload_n 0, 1) := by decide +kernel
theorem dX9_rivals_147 : decode cX9_rivals 147 = .ok (.getfield 97, 3) := by decide +kernel
theorem dX9_rivals_150 : decode cX9_rivals 150 = .ok (.iconst 0, 1) := by decide +kernel
theorem dX9_rivals_151 : decode cX9_rivals 151 = .ok (.iload 6, 2) := by decide +kernel
theorem dX9_rivals_153 : decode cX9_rivals 153 = .ok (.iastore, 1) := by decide +kernel
theorem dX9_rivals_154 : decode cX9_rivals 154 = .ok (.aload_n 0, 1) := by decide +kernel
theorem dX9_rivals_155 : decode cX9_rivals 155 = .ok (.getfield 97, 3) := by decide +kernel
theorem dX9_rivals_158 : decode cX9_rivals 158 = .ok (.iconst 1, 1) := by decide +kernel
theorem dX9_rivals_159 : decode cX9_rivals 159 = .ok (.iload 7, 2) := by decide +kernel
theorem dX9_rivals_161 : decode cX9_rivals 161 = .ok (.iastore, 1) := by decide +kernel
theorem dX9_rivals_162 : decode cX9_rivals 162 = .ok (.aload_n 0, 1) := by decide +kernel
theorem dX9_rivals_163 : decode cX9_rivals 163 = .ok (.iconst 2, 1) := by decide +kernel
theorem dX9_rivals_164 : decode cX9_rivals 164 = .ok (.putfield 373, 3) := by decide +kernel
theorem dX9_rivals_167 : decode cX9_rivals 167 = .ok (.iinc 4 1, 3) := by decide +kernel
theorem dX9_rivals_170 : decode cX9_rivals 170 = .ok (.iinc 5 1, 3) := by decide +kernel
theorem dX9_rivals_173 : decode cX9_rivals 173 = .ok (.goto (-98), 3) := by decide +kernel
theorem dX9_rivals_176 : decode cX9_rivals 176 = .ok (.iload 4, 2) := by decide +kernel
theorem dX9_rivals_178 : decode cX9_rivals 178 = .ok (.ireturn, 1) := by decide +kernel
theorem dX9_round_0 : decode cX9_round 0 = .ok (.iload_n 1, 1) := by decide +kernel
theorem dX9_round_1 : decode cX9_round 1 = .ok (.iconst 0, 1) := by decide +kernel
theorem dX9_round_2 : decode cX9_round 2 = .ok (.iconst 1, 1) := by decide +kernel
theorem dX9_round_3 : decode cX9_round 3 = .ok (.invokestatic 354, 3) := by decide +kernel
theorem dX9_round_6 : decode cX9_round 6 = .ok (.ifCond .ne 5, 3) := by decide +kernel
theorem dX9_round_9 : decode cX9_round 9 = .ok (.iconst (-1), 1) := by decide +kernel
theorem dX9_round_10 : decode cX9_round 10 = .ok (.ireturn, 1) := by decide +kernel
theorem dX9_round_11 : decode cX9_round 11 = .ok (.iconst (-1), 1) := by decide +kernel
theorem dX9_round_12 : decode cX9_round 12 = .ok (.istore_n 2, 1) := by decide +kernel
theorem dX9_round_13 : decode cX9_round 13 = .ok (.iconst (-1), 1) := by decide +kernel
theorem dX9_round_14 : decode cX9_round 14 = .ok (.istore_n 3, 1) := by decide +kernel
theorem dX9_round_15 : decode cX9_round 15 = .ok (.iconst 0, 1) := by decide +kernel
theorem dX9_round_16 : decode cX9_round 16 = .ok (.istore 4, 2) := by decide +kernel
theorem dX9_round_18 : decode cX9_round 18 = .ok (.iload 4, 2) := by decide +kernel
theorem dX9_round_20 : decode cX9_round 20 = .ok (.aload_n 0, 1) := by decide +kernel
theorem dX9_round_21 : decode cX9_round 21 = .ok (.invokevirtual 351, 3) := by decide +kernel
theorem dX9_round_24 : decode cX9_round 24 = .ok (.iconst 1, 1) := by decide +kernel
theorem dX9_round_25 : decode cX9_round 25 = .ok (.iadd, 1) := by decide +kernel
theorem dX9_round_26 : decode cX9_round 26 = .ok (.aload_n 0, 1) := by decide +kernel
theorem dX9_round_27 : decode cX9_round 27 = .ok (.invokevirtual 358, 3) := by decide +kernel
theorem dX9_round_30 : decode cX9_round 30 = .ok (.invokestatic 462, 3) := by decide +kernel
theorem dX9_round_33 : decode cX9_round 33 = .ok (.if_icmp .ge 109, 3) := by decide +kernel
theorem dX9_round_36 : decode cX9_round 36 = .ok (.aload_n 0, 1) := by decide +kernel
theorem dX9_round_37 : decode cX9_round 37 = .ok (.iload 4, 2) := by decide +kernel
theorem dX9_round_39 : decode cX9_round 39 = .ok (.invokevirtual 468, 3) := by decide +kernel
theorem dX9_round_42 : decode cX9_round 42 = .ok (.ifCond .ne 6, 3) := by decide +kernel
theorem dX9_round_45 : decode cX9_round 45 = .ok (.goto 91, 3) := by decide +kernel
theorem dX9_round_48 : decode cX9_round 48 = .ok (.iconst 0, 1) := by decide +kernel
theorem dX9_round_49 : decode cX9_round 49 = .ok (.istore 5, 2) := by decide +kernel
theorem dX9_round_51 : decode cX9_round 51 = .ok (.iconst 0, 1) := by decide +kernel
theorem dX9_round_52 : decode cX9_round 52 = .ok (.istore 6, 2) := by decide +kernel
theorem dX9_round_54 : decode cX9_round 54 = .ok (.iload 6, 2) := by decide +kernel
theorem dX9_round_56 : decode cX9_round 56 = .ok (.aload_n 0, 1) := by decide +kernel
theorem dX9_round_57 : decode cX9_round 57 = .ok (.invokevirtual 358, 3) := by decide +kernel
theorem dX9_round_60 : decode cX9_round 60 = .ok (.if_icmp .ge 61, 3) := by decide +kernel
theorem dX9_round_63 : decode cX9_round 63 = .ok (.iload 5, 2) := by decide +kernel
theorem dX9_round_65 : decode cX9_round 65 = .ok (.aload_n 0, 1) := by decide +kernel
theorem dX9_round_66 : decode cX9_round 66 = .ok (.iload 4, 2) := by decide +kernel
theorem dX9_round_68 : decode cX9_round 68 = .ok (.aload_n 0, 1) := by decide +kernel
theorem dX9_round_69 : decode cX9_round 69 = .ok (.invokevirtual 351, 3) := by decide +kernel
theorem dX9_round_72 : decode cX9_round 72 = .ok (.iconst 1, 1) := by decide +kernel
theorem dX9_round_73 : decode cX9_round 73 = .ok (.iadd, 1) := by decide +kernel
theorem dX9_round_74 : decode cX9_round 74 = .ok (.iload 6, 2) := by decide +kernel
theorem dX9_round_76 : decode cX9_round 76 = .ok (.invokevirtual 465, 3) := by decide +kernel
theorem dX9_round_79 : decode cX9_round 79 = .ok (.aload_n 0, 1) := by decide +kernel
theorem dX9_round_80 : decode cX9_round 80 = .ok (.invokevirtual 351, 3) := by decide +kernel
theorem dX9_round_83 : decode cX9_round 83 = .ok (.if_icmp .ge 28, 3) := by decide +kernel
theorem dX9_round_86 : decode cX9_round 86 = .ok (.sipush 1000, 3) := by decide +kernel
theorem dX9_round_89 : decode cX9_round 89 = .ok (.aload_n 0, 1) := by decide +kernel
theorem dX9_round_90 : decode cX9_round 90 = .ok (.aload_n 0, 1) := by decide +kernel
theorem dX9_round_91 : decode cX9_round 91 = .ok (.iload 4, 2) := by decide +kernel
theorem dX9_round_93 : decode cX9_round 93 = .ok (.aload_n 0, 1) := by decide +kernel
theorem dX9_round_94 : decode cX9_round 94 = .ok (.invokevirtual 351, 3) := by decide +kernel
theorem dX9_round_97 : decode cX9_round 97 = .ok (.iconst 1, 1) := by decide +kernel
theorem dX9_round_98 : decode cX9_round 98 = .ok (.iadd, 1) := by decide +kernel
theorem dX9_round_99 : decode cX9_round 99 = .ok (.iload 6, 2) := by decide +kernel
theorem dX9_round_101 : decode cX9_round 101 = .ok (.invokevirtual 465, 3) := by decide +kernel
theorem dX9_round_104 : decode cX9_round 104 = .ok (.invokevirtual 342, 3) := by decide +kernel
theorem dX9_round_107 : decode cX9_round 107 = .ok (.iadd, 1) := by decide +kernel
theorem dX9_round_108 : decode cX9_round 108 = .ok (.goto 4, 3) := by decide +kernel
theorem dX9_round_111 : decode cX9_round 111 = .ok (.iconst 0, 1) := by decide +kernel
theorem dX9_round_112 : decode cX9_round 112 = .ok (.iadd, 1) := by decide +kernel
theorem dX9_round_113 : decode cX9_round 113 = .ok (.istore 5, 2) := by decide +kernel
theorem dX9_round_115 : decode cX9_round 115 = .ok (.iinc 6 1, 3) := by decide +kernel
theorem dX9_round_118 : decode cX9_round 118 = .ok (.goto (-64), 3) := by decide +kernel
theorem dX9_round_121 : decode cX9_round 121 = .ok (.iload 5, 2) := by decide +kernel
theorem dX9_round_123 : decode cX9_round 123 = .ok (.iload_n 3, 1) := by decide +kernel
theorem dX9_round_124 : decode cX9_round 124 = .ok (.if_icmp .gt 6, 3) := by decide +kernel
theorem dX9_round_127 : decode cX9_round 127 = .ok (.goto 9, 3) := by decide +kernel
theorem dX9_round_130 : decode cX9_round 130 = .ok (.iload 4, 2) := by decide +kernel
theorem dX9_round_132 : decode cX9_round 132 = .ok (.istore_n 2, 1) := by decide +kernel
theorem dX9_round_133 : decode cX9_round 133 = .ok (.iload 5, 2) := by decide +kernel
theorem dX9_round_135 : decode cX9_round 135 = .ok (.istore_n 3, 1) := by decide +kernel
theorem dX9_round_136 : decode cX9_round 136 = .ok (.iinc 4 1, 3) := by decide +kernel
theorem dX9_round_139 : decode cX9_round 139 = .ok (.goto (-121), 3) := by decide +kernel
theorem dX9_round_142 : decode cX9_round 142 = .ok (.aload_n 0, 1) := by decide +kernel
theorem dX9_round_143 : decode cX9_round 143 = .ok (.aload_n 0, 1) := by decide +kernel
theorem dX9_round_144 : decode cX9_round 144 = .ok (.invokevirtual 358, 3) := by decide +kernel
theorem dX9_round_147 : decode cX9_round 147 = .ok (.putfield 373, 3) := by decide +kernel
theorem dX9_round_150 : decode cX9_round 150 = .ok (.iconst 0, 1) := by decide +kernel
theorem dX9_round_151 : decode cX9_round 151 = .ok (.istore 4, 2) := by decide +kernel
theorem dX9_round_153 : decode cX9_round 153 = .ok (.iload 4, 2) := by decide +kernel
theorem dX9_round_155 : decode cX9_round 155 = .ok (.aload_n 0, 1) := by decide +kernel
theorem dX9_round_156 : decode cX9_round 156 = .ok (.invokevirtual 358, 3) := by decide +kernel
theorem dX9_round_159 : decode cX9_round 159 = .ok (.if_icmp .ge 53, 3) := by decide +kernel
theorem dX9_round_162 : decode cX9_round 162 = .ok (.aload_n 0, 1) := by decide +kernel
theorem dX9_round_163 : decode cX9_round 163 = .ok (.getfield 97, 3) := by decide +kernel
theorem dX9_round_166 : decode cX9_round 166 = .ok (.iload 4, 2) := by decide +kernel
theorem dX9_round_168 : decode cX9_round 168 = .ok (.aload_n 0, 1) := by decide +kernel
theorem dX9_round_169 : decode cX9_round 169 = .ok (.iload_n 2, 1) := by decide +kernel
theorem dX9_round_170 : decode cX9_round 170 = .ok (.aload_n 0, 1) := by decide +kernel
theorem dX9_round_171 : decode cX9_round 171 = .ok (.invokevirtual 351, 3) := by decide +kernel
theorem dX9_round_174 : decode cX9_round 174 = .ok (.iconst 1, 1) := by decide +kernel
theorem dX9_round_175 : decode cX9_round 175 = .ok (.iadd, 1) := by decide +kernel
theorem dX9_round_176 : decode cX9_round 176 = .ok (.iload 4, 2) := by decide +kernel
theorem dX9_round_178 : decode cX9_round 178 = .ok (.invokevirtual 465, 3) := by decide +kernel
theorem dX9_round_181 : decode cX9_round 181 = .ok (.aload_n 0, 1) := by decide +kernel
theorem dX9_round_182 : decode cX9_round 182 = .ok (.invokevirtual 351, 3) := by decide +kernel
theorem dX9_round_185 : decode cX9_round 185 = .ok (.if_icmp .ne 7, 3) := by decide +kernel
theorem dX9_round_188 : decode cX9_round 188 = .ok (.iconst (-1), 1) := by decide +kernel
theorem dX9_round_189 : decode cX9_round 189 = .ok (.goto 16, 3) := by decide +kernel
theorem dX9_round_192 : decode cX9_round 192 = .ok (.aload_n 0, 1) := by decide +kernel
theorem dX9_round_193 : decode cX9_round 193 = .ok (.iload_n 2, 1) := by decide +kernel
theorem dX9_round_194 : decode cX9_round 194 = .ok (.aload_n 0, 1) := by decide +kernel
theorem dX9_round_195 : decode cX9_round 195 = .ok (.invokevirtual 351, 3) := by decide +kernel
theorem dX9_round_198 : decode cX9_round 198 = .ok (.iconst 1, 1) := by decide +kernel
theorem dX9_round_199 : decode cX9_round 199 = .ok (.iadd, 1) := by decide +kernel
theorem dX9_round_200 : decode cX9_round 200 = .ok (.iload 4, 2) := by decide +kernel
theorem dX9_round_202 : decode cX9_round 202 = .ok (.invokevirtual 465, 3) := by decide +kernel
theorem dX9_round_205 : decode cX9_round 205 = .ok (.iastore, 1) := by decide +kernel
theorem dX9_round_206 : decode cX9_round 206 = .ok (.iinc 4 1, 3) := by decide +kernel
theorem dX9_round_209 : decode cX9_round 209 = .ok (.goto (-56), 3) := by decide +kernel
theorem dX9_round_212 : decode cX9_round 212 = .ok (.iload_n 1, 1) := by decide +kernel
theorem dX9_round_213 : decode cX9_round 213 = .ok (.ifCond .ne 11, 3) := by decide +kernel
theorem dX9_round_216 : decode cX9_round 216 = .ok (.iload_n 3, 1) := by decide +kernel
theorem dX9_round_217 : decode cX9_round 217 = .ok (.sipush 1000, 3) := by decide +kernel
theorem dX9_round_220 : decode cX9_round 220 = .ok (.idiv, 1) := by decide +kernel
theorem dX9_round_221 : decode cX9_round 221 = .ok (.goto 8, 3) := by decide +kernel
theorem dX9_round_224 : decode cX9_round 224 = .ok (.iload_n 3, 1) := by decide +kernel
theorem dX9_round_225 : decode cX9_round 225 = .ok (.sipush 1000, 3) := by decide +kernel
theorem dX9_round_228 : decode cX9_round 228 = .ok (.irem, 1) := by decide +kernel
theorem dX9_round_229 : decode cX9_round 229 = .ok (.ireturn, 1) := by decide +kernel
theorem dX9_rows_0 : decode cX9_rows 0 = .ok (.aload_n 0, 1) := by decide +kernel
theorem dX9_rows_1 : decode cX9_rows 1 = .ok (.iload_n 1, 1) := by decide +kernel
theorem dX9_rows_2 : decode cX9_rows 2 = .ok (.invokevirtual 508, 3) := by decide +kernel
theorem dX9_rows_5 : decode cX9_rows 5 = .ok (.aload_n 0, 1) := by decide +kernel
theorem dX9_rows_6 : decode cX9_rows 6 = .ok (.getfield 499, 3) := by decide +kernel
theorem dX9_rows_9 : decode cX9_rows 9 = .ok (.ireturn, 1) := by decide +kernel
theorem dX9_sale_0 : decode cX9_sale 0 = .ok (.aload_n 0, 1) := by decide +kernel
theorem dX9_sale_1 : decode cX9_sale 1 = .ok (.iload_n 1, 1) := by decide +kernel
theorem dX9_sale_2 : decode cX9_sale 2 = .ok (.invokevirtual 415, 3) := by decide +kernel
theorem dX9_sale_5 : decode cX9_sale 5 = .ok (.ifCond .eq 12, 3) := by decide +kernel
theorem dX9_sale_8 : decode cX9_sale 8 = .ok (.iload_n 2, 1) := by decide +kernel
theorem dX9_sale_9 : decode cX9_sale 9 = .ok (.iconst 0, 1) := by decide +kernel
theorem dX9_sale_10 : decode cX9_sale 10 = .ok (.iconst 1, 1) := by decide +kernel
theorem dX9_sale_11 : decode cX9_sale 11 = .ok (.invokestatic 354, 3) := by decide +kernel
theorem dX9_sale_14 : decode cX9_sale 14 = .ok (.ifCond .ne 5, 3) := by decide +kernel
theorem dX9_sale_17 : decode cX9_sale 17 = .ok (.iconst (-1), 1) := by decide +kernel
theorem dX9_sale_18 : decode cX9_sale 18 = .ok (.ireturn, 1) := by decide +kernel
theorem dX9_sale_19 : decode cX9_sale 19 = .ok (.iconst 0, 1) := by decide +kernel
theorem dX9_sale_20 : decode cX9_sale 20 = .ok (.istore_n 3, 1) := by decide +kernel
theorem dX9_sale_21 : decode cX9_sale 21 = .ok (.iconst 0, 1) := by decide +kernel
theorem dX9_sale_22 : decode cX9_sale 22 = .ok (.istore 4, 2) := by decide +kernel
theorem dX9_sale_24 : decode cX9_sale 24 = .ok (.iconst 1, 1) := by decide +kernel
theorem dX9_sale_25 : decode cX9_sale 25 = .ok (.istore 5, 2) := by decide +kernel
theorem dX9_sale_27 : decode cX9_sale 27 = .ok (.iload 5, 2) := by decide +kernel
theorem dX9_sale_29 : decode cX9_sale 29 = .ok (.iconst 1, 1) := by decide +kernel
theorem dX9_sale_30 : decode cX9_sale 30 = .ok (.aload_n 0, 1) := by decide +kernel
theorem dX9_sale_31 : decode cX9_sale 31 = .ok (.invokevirtual 351, 3) := by decide +kernel
theorem dX9_sale_34 : decode cX9_sale 34 = .ok (.ishl, 1) := by decide +kernel
theorem dX9_sale_35 : decode cX9_sale 35 = .ok (.if_icmp .ge 143, 3) := by decide +kernel
theorem dX9_sale_38 : decode cX9_sale 38 = .ok (.iconst 0, 1) := by decide +kernel
theorem dX9_sale_39 : decode cX9_sale 39 = .ok (.istore 6, 2) := by decide +kernel
theorem dX9_sale_41 : decode cX9_sale 41 = .ok (.iconst 1, 1) := by decide +kernel
theorem dX9_sale_42 : decode cX9_sale 42 = .ok (.istore 7, 2) := by decide +kernel
theorem dX9_sale_44 : decode cX9_sale 44 = .ok (.iconst 0, 1) := by decide +kernel
theorem dX9_sale_45 : decode cX9_sale 45 = .ok (.istore 8, 2) := by decide +kernel
theorem dX9_sale_47 : decode cX9_sale 47 = .ok (.iload 8, 2) := by decide +kernel
theorem dX9_sale_49 : decode cX9_sale 49 = .ok (.aload_n 0, 1) := by decide +kernel
theorem dX9_sale_50 : decode cX9_sale 50 = .ok (.invokevirtual 351, 3) := by decide +kernel
theorem dX9_sale_53 : decode cX9_sale 53 = .ok (.if_icmp .ge 64, 3) := by decide +kernel
theorem dX9_sale_56 : decode cX9_sale 56 = .ok (.iload 5, 2) := by decide +kernel
theorem dX9_sale_58 : decode cX9_sale 58 = .ok (.iload 8, 2) := by decide +kernel
theorem dX9_sale_60 : decode cX9_sale 60 = .ok (.invokestatic 255, 3) := by decide +kernel
theorem dX9_sale_63 : decode cX9_sale 63 = .ok (.ifCond .ne 6, 3) := by decide +kernel
theorem dX9_sale_66 : decode cX9_sale 66 = .ok (.goto 45, 3) := by decide +kernel
theorem dX9_sale_69 : decode cX9_sale 69 = .ok (.iload 6, 2) := by decide +kernel
theorem dX9_sale_71 : decode cX9_sale 71 = .ok (.aload_n 0, 1) := by decide +kernel
theorem dX9_sale_72 : decode cX9_sale 72 = .ok (.iload 8, 2) := by decide +kernel
theorem dX9_sale_74 : decode cX9_sale 74 = .ok (.invokevirtual 342, 3) := by decide +kernel
theorem dX9_sale_77 : decode cX9_sale 77 = .ok (.iadd, 1) := by decide +kernel
theorem dX9_sale_78 : decode cX9_sale 78 = .ok (.istore 6, 2) := by decide +kernel
theorem dX9_sale_80 : decode cX9_sale 80 = .ok (.iload 7, 2) := by decide +kernel
theorem dX9_sale_82 : decode cX9_sale 82 = .ok (.ifCond .eq 26, 3) := by decide +kernel
theorem dX9_sale_85 : decode cX9_sale 85 = .ok (.aload_n 0, 1) := by decide +kernel
theorem dX9_sale_86 : decode cX9_sale 86 = .ok (.iload 8, 2) := by decide +kernel
theorem dX9_sale_88 : decode cX9_sale 88 = .ok (.invokevirtual 450, 3) := by decide +kernel
theorem dX9_sale_91 : decode cX9_sale 91 = .ok (.ifCond .eq 17, 3) := by decide +kernel
theorem dX9_sale_94 : decode cX9_sale 94 = .ok (.aload_n 0, 1) := by decide +kernel
theorem dX9_sale_95 : decode cX9_sale 95 = .ok (.iload_n 1, 1) := by decide +kernel
theorem dX9_sale_96 : decode cX9_sale 96 = .ok (.iload 8, 2) := by decide +kernel
theorem dX9_sale_98 : decode cX9_sale 98 = .ok (.invokevirtual 402, 3) := by decide +kernel
theorem dX9_sale_101 : decode cX9_sale 101 = .ok (.ifCond .eq 7, 3) := by decide +kernel
theorem dX9_sale_104 : decode cX9_sale 104 = .ok (.iconst 1, 1) := by decide +kernel
theorem dX9_sale_105 : decode cX9_sale 105 = .ok (.goto 4, 3) := by decide +kernel
theorem dX9_sale_108 : decode cX9_sale 108 = .ok (.iconst 0, 1) := by decide +kernel
theorem dX9_sale_109 : decode cX9_sale 109 = .ok (.istore 7, 2) := by decide +kernel
theorem dX9_sale_111 : decode cX9_sale 111 = .ok (.iinc 8 1, 3) := by decide +kernel
theorem dX9_sale_114 : decode cX9_sale 114 = .ok (.goto (-67), 3) := by decide +kernel
theorem dX9_sale_117 : decode cX9_sale 117 = .ok (.iload 7, 2) := by decide +kernel
theorem dX9_sale_119 : decode cX9_sale 119 = .ok (.ifCond .eq 53, 3) := by decide +kernel
theorem dX9_sale_122 : decode cX9_sale 122 = .ok (.iload 6, 2) := by decide +kernel
theorem dX9_sale_124 : decode cX9_sale 124 = .ok (.aload_n 0, 1) := by decide +kernel
theorem dX9_sale_125 : decode cX9_sale 125 = .ok (.getfield 88, 3) := by decide +kernel
theorem dX9_sale_128 : decode cX9_sale 128 = .ok (.bipush 20, 2) := by decide +kernel
theorem dX9_sale_130 : decode cX9_sale 130 = .ok (.iload_n 1, 1) := by decide +kernel
theorem dX9_sale_131 : decode cX9_sale 131 = .ok (.iadd, 1) := by decide +kernel
theorem dX9_sale_132 : decode cX9_sale 132 = .ok (.iaload, 1) := by decide +kernel
theorem dX9_sale_133 : decode cX9_sale 133 = .ok (.if_icmp .gt 39, 3) := by decide +kernel
theorem dX9_sale_136 : decode cX9_sale 136 = .ok (.iload 6, 2) := by decide +kernel
theorem dX9_sale_138 : decode cX9_sale 138 = .ok (.iload 4, 2) := by decide +kernel
theorem dX9_sale_140 : decode cX9_sale 140 = .ok (.if_icmp .lt 32, 3) := by decide +kernel
theorem dX9_sale_143 : decode cX9_sale 143 = .ok (.iload 6, 2) := by decide +kernel
theorem dX9_sale_145 : decode cX9_sale 145 = .ok (.iload 4, 2) := by decide +kernel
theorem dX9_sale_147 : decode cX9_sale 147 = .ok (.if_icmp .ne 18, 3) := by decide +kernel
theorem dX9_sale_150 : decode cX9_sale 150 = .ok (.iload 5, 2) := by decide +kernel
theorem dX9_sale_152 : decode cX9_sale 152 = .ok (.invokestatic 431, 3) := by decide +kernel
theorem dX9_sale_155 : decode cX9_sale 155 = .ok (.iload_n 3, 1) := by decide +kernel
theorem dX9_sale_156 : decode cX9_sale 156 = .ok (.invokestatic 431, 3) := by decide +kernel
theorem dX9_sale_159 : decode cX9_sale 159 = .ok (.if_icmp .lt 6, 3) := by decide +kernel
theorem dX9_sale_162 : decode cX9_sale 162 = .ok (.goto 10, 3) := by decide +kernel
theorem dX9_sale_165 : decode cX9_sale 165 = .ok (.iload 5, 2) := by decide +kernel
theorem dX9_sale_167 : decode cX9_sale 167 = .ok (.istore_n 3, 1) := by decide +kernel
theorem dX9_sale_168 : decode cX9_sale 168 = .ok (.iload 6, 2) := by decide +kernel
theorem dX9_sale_170 : decode cX9_sale 170 = .ok (.istore 4, 2) := by decide +kernel
theorem dX9_sale_172 : decode cX9_sale 172 = .ok (.iinc 5 1, 3) := by decide +kernel
theorem dX9_sale_175 : decode cX9_sale 175 = .ok (.goto (-148), 3) := by decide +kernel
theorem dX9_sale_178 : decode cX9_sale 178 = .ok (.iload_n 2, 1) := by decide +kernel
theorem dX9_sale_179 : decode cX9_sale 179 = .ok (.ifCond .ne 8, 3) := by decide +kernel
theorem dX9_sale_182 : decode cX9_sale 182 = .ok (.iload 4, 2) := by decide +kernel
theorem dX9_sale_184 : decode cX9_sale 184 = .ok (.goto 4, 3) := by decide +kernel
theorem dX9_sale_187 : decode cX9_sale 187 = .ok (.iload_n 3, 1) := by decide +kernel
theorem dX9_sale_188 : decode cX9_sale 188 = .ok (.ireturn, 1) := by decide +kernel
theorem dX9_sameOf_0 : decode cX9_sameOf 0 = .ok (.iconst 0, 1) := by decide +kernel
theorem dX9_sameOf_1 : decode cX9_sameOf 1 = .ok (.istore_n 3, 1) := by decide +kernel
theorem dX9_sameOf_2 : decode cX9_sameOf 2 = .ok (.iconst 0, 1) := by decide +kernel
theorem dX9_sameOf_3 : decode cX9_sameOf 3 = .ok (.istore 4, 2) := by decide +kernel
theorem dX9_sameOf_5 : decode cX9_sameOf 5 = .ok (.iload 4, 2) := by decide +kernel
theorem dX9_sameOf_7 : decode cX9_sameOf 7 = .ok (.aload_n 0, 1) := by decide +kernel
theorem dX9_sameOf_8 : decode cX9_sameOf 8 = .ok (.iload_n 2, 1) := by decide +kernel
theorem dX9_sameOf_9 : decode cX9_sameOf 9 = .ok (.invokevirtual 336, 3) := by decide +kernel
theorem dX9_sameOf_12 : decode cX9_sameOf 12 = .ok (.if_icmp .ge 59, 3) := by decide +kernel
theorem dX9_sameOf_15 : decode cX9_sameOf 15 = .ok (.aload_n 0, 1) := by decide +kernel
theorem dX9_sameOf_16 : decode cX9_sameOf 16 = .ok (.iload_n 2, 1) := by decide +kernel
theorem dX9_sameOf_17 : decode cX9_sameOf 17 = .ok (.iload 4, 2) := by decide +kernel
theorem dX9_sameOf_19 : decode cX9_sameOf 19 = .ok (.invokevirtual 379, 3) := by decide +kernel
theorem dX9_sameOf_22 : decode cX9_sameOf 22 = .ok (.istore 5, 2) := by decide +kernel
theorem dX9_sameOf_24 : decode cX9_sameOf 24 = .ok (.iload_n 3, 1) := by decide +kernel
theorem dX9_sameOf_25 : decode cX9_sameOf 25 = .ok (.iload 5, 2) := by decide +kernel
theorem dX9_sameOf_27 : decode cX9_sameOf 27 = .ok (.aload_n 0, 1) := by decide +kernel
theorem dX9_sameOf_28 : decode cX9_sameOf 28 = .ok (.iload_n 1, 1) := by decide +kernel
theorem dX9_sameOf_29 : decode cX9_sameOf 29 = .ok (.iconst 0, 1) := by decide +kernel
theorem dX9_sameOf_30 : decode cX9_sameOf 30 = .ok (.invokevirtual 386, 3) := by decide +kernel
theorem dX9_sameOf_33 : decode cX9_sameOf 33 = .ok (.if_icmp .eq 25, 3) := by decide +kernel
theorem dX9_sameOf_36 : decode cX9_sameOf 36 = .ok (.iload 5, 2) := by decide +kernel
theorem dX9_sameOf_38 : decode cX9_sameOf 38 = .ok (.aload_n 0, 1) := by decide +kernel
theorem dX9_sameOf_39 : decode cX9_sameOf 39 = .ok (.iload_n 1, 1) := by decide +kernel
theorem dX9_sameOf_40 : decode cX9_sameOf 40 = .ok (.iconst 1, 1) := by decide +kernel
theorem dX9_sameOf_41 : decode cX9_sameOf 41 = .ok (.invokevirtual 386, 3) := by decide +kernel
theorem dX9_sameOf_44 : decode cX9_sameOf 44 = .ok (.if_icmp .eq 14, 3) := by decide +kernel
theorem dX9_sameOf_47 : decode cX9_sameOf 47 = .ok (.iload 5, 2) := by decide +kernel
theorem dX9_sameOf_49 : decode cX9_sameOf 49 = .ok (.aload_n 0, 1) := by decide +kernel
theorem dX9_sameOf_50 : decode cX9_sameOf 50 = .ok (.iload_n 1, 1) := by decide +kernel
theorem dX9_sameOf_51 : decode cX9_sameOf 51 = .ok (.iconst 2, 1) := by decide +kernel
theorem dX9_sameOf_52 : decode cX9_sameOf 52 = .ok (.invokevirtual 386, 3) := by decide +kernel
theorem dX9_sameOf_55 : decode cX9_sameOf 55 = .ok (.if_icmp .ne 7, 3) := by decide +kernel
theorem dX9_sameOf_58 : decode cX9_sameOf 58 = .ok (.iconst 1, 1) := by decide +kernel
theorem dX9_sameOf_59 : decode cX9_sameOf 59 = .ok (.goto 4, 3) := by decide +kernel
theorem dX9_sameOf_62 : decode cX9_sameOf 62 = .ok (.iconst 0, 1) := by decide +kernel
theorem dX9_sameOf_63 : decode cX9_sameOf 63 = .ok (.iadd, 1) := by decide +kernel
theorem dX9_sameOf_64 : decode cX9_sameOf 64 = .ok (.istore_n 3, 1) := by decide +kernel
theorem dX9_sameOf_65 : decode cX9_sameOf 65 = .ok (.iinc 4 1, 3) := by decide +kernel
theorem dX9_sameOf_68 : decode cX9_sameOf 68 = .ok (.goto (-63), 3) := by decide +kernel
theorem dX9_sameOf_71 : decode cX9_sameOf 71 = .ok (.iload_n 3, 1) := by decide +kernel
theorem dX9_sameOf_72 : decode cX9_sameOf 72 = .ok (.ireturn, 1) := by decide +kernel
theorem dX9_sign_0 : decode cX9_sign 0 = .ok (.iload_n 1, 1) := by decide +kernel
theorem dX9_sign_1 : decode cX9_sign 1 = .ok (.aload_n 0, 1) := by decide +kernel
theorem dX9_sign_2 : decode cX9_sign 2 = .ok (.getfield 137, 3) := by decide +kernel
theorem dX9_sign_5 : decode cX9_sign 5 = .ok (.if_icmp .ge 16, 3) := by decide +kernel
theorem dX9_sign_8 : decode cX9_sign 8 = .ok (.aload_n 0, 1) := by decide +kernel
theorem dX9_sign_9 : decode cX9_sign 9 = .ok (.getfield 13, 3) := by decide +kernel
theorem dX9_sign_12 : decode cX9_sign 12 = .ok (.iload_n 1, 1) := by decide +kernel
theorem dX9_sign_13 : decode cX9_sign 13 = .ok (.baload, 1) := by decide +kernel
theorem dX9_sign_14 : decode cX9_sign 14 = .ok (.sipush 255, 3) := by decide +kernel
theorem dX9_sign_17 : decode cX9_sign 17 = .ok (.iand, 1) := by decide +kernel
theorem dX9_sign_18 : decode cX9_sign 18 = .ok (.goto 4, 3) := by decide +kernel
theorem dX9_sign_21 : decode cX9_sign 21 = .ok (.iconst 0, 1) := by decide +kernel
theorem dX9_sign_22 : decode cX9_sign 22 = .ok (.ireturn, 1) := by decide +kernel
theorem dX9_songs_0 : decode cX9_songs 0 = .ok (.aload_n 0, 1) := by decide +kernel
theorem dX9_songs_1 : decode cX9_songs 1 = .ok (.getfield 24, 3) := by decide +kernel
theorem dX9_songs_4 : decode cX9_songs 4 = .ok (.aload_n 0, 1) := by decide +kernel
theorem dX9_songs_5 : decode cX9_songs 5 = .ok (.getfield 249, 3) := by decide +kernel
theorem dX9_songs_8 : decode cX9_songs 8 = .ok (.iaload, 1) := by decide +kernel
theorem dX9_songs_9 : decode cX9_songs 9 = .ok (.ireturn, 1) := by decide +kernel
theorem dX9_spinsters_0 : decode cX9_spinsters 0 = .ok (.iconst 0, 1) := by decide +kernel
theorem dX9_spinsters_1 : decode cX9_spinsters 1 = .ok (.istore_n 1, 1) := by decide +kernel
theorem dX9_spinsters_2 : decode cX9_spinsters 2 = .ok (.iconst 0, 1) := by decide +kernel
theorem dX9_spinsters_3 : decode cX9_spinsters 3 = .ok (.istore_n 2, 1) := by decide +kernel
theorem dX9_spinsters_4 : decode cX9_spinsters 4 = .ok (.iload_n 2, 1) := by decide +kernel
theorem dX9_spinsters_5 : decode cX9_spinsters 5 = .ok (.aload_n 0, 1) := by decide +kernel
theorem dX9_spinsters_6 : decode cX9_spinsters 6 = .ok (.invokevirtual 351, 3) := by decide +kernel
theorem dX9_spinsters_9 : decode cX9_spinsters 9 = .ok (.if_icmp .ge 23, 3) := by decide +kernel
theorem dX9_spinsters_12 : decode cX9_spinsters 12 = .ok (.aload_n 0, 1) := by decide +kernel
theorem dX9_spinsters_13 : decode cX9_spinsters 13 = .ok (.iload_n 2, 1) := by decide +kernel
theorem dX9_spinsters_14 : decode cX9_spinsters 14 = .ok (.invokevirtual 437, 3) := by decide +kernel
theorem dX9_spinsters_17 : decode cX9_spinsters 17 = .ok (.ifCond .ne 9, 3) := by decide +kernel
theorem dX9_spinsters_20 : decode cX9_spinsters 20 = .ok (.iload_n 1, 1) := by decide +kernel
theorem dX9_spinsters_21 : decode cX9_spinsters 21 = .ok (.iconst 1, 1) := by decide +kernel
theorem dX9_spinsters_22 : decode cX9_spinsters 22 = .ok (.iload_n 2, 1) := by decide +kernel
theorem dX9_spinsters_23 : decode cX9_spinsters 23 = .ok (.ishl, 1) := by decide +kernel
theorem dX9_spinsters_24 : decode cX9_spinsters 24 = .ok (.ior, 1) := by decide +kernel
theorem dX9_spinsters_25 : decode cX9_spinsters 25 = .ok (.istore_n 1, 1) := by decide +kernel
theorem dX9_spinsters_26 : decode cX9_spinsters 26 = .ok (.iinc 2 1, 3) := by decide +kernel

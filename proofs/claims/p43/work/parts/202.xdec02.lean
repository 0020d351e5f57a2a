theorem dX5_readFormula_87 : decode cX5_readFormula 87 = .ok (.aload_n 0, 1) := by decide +kernel
theorem dX5_readFormula_88 : decode cX5_readFormula 88 = .ok (.getfield 66, 3) := by decide +kernel
theorem dX5_readFormula_91 : decode cX5_readFormula 91 = .ok (.istore 5, 2) := by decide +kernel
theorem dX5_readFormula_93 : decode cX5_readFormula 93 = .ok (.aload_n 0, 1) := by decide +kernel
theorem dX5_readFormula_94 : decode cX5_readFormula 94 = .ok (.invokevirtual 81, 3) := by decide +kernel
theorem dX5_readFormula_97 : decode cX5_readFormula 97 = .ok (.aload_n 0, 1) := by decide +kernel
theorem dX5_readFormula_98 : decode cX5_readFormula 98 = .ok (.iload_n 1, 1) := by decide +kernel
theorem dX5_readFormula_99 : decode cX5_readFormula 99 = .ok (.iconst 1, 1) := by decide +kernel
theorem dX5_readFormula_100 : decode cX5_readFormula 100 = .ok (.iadd, 1) := by decide +kernel
theorem dX5_readFormula_101 : decode cX5_readFormula 101 = .ok (.iload_n 2, 1) := by decide +kernel
theorem dX5_readFormula_102 : decode cX5_readFormula 102 = .ok (.invokevirtual 113, 3) := by decide +kernel
theorem dX5_readFormula_105 : decode cX5_readFormula 105 = .ok (.aload_n 0, 1) := by decide +kernel
theorem dX5_readFormula_106 : decode cX5_readFormula 106 = .ok (.getfield 25, 3) := by decide +kernel
theorem dX5_readFormula_109 : decode cX5_readFormula 109 = .ok (.getfield 104, 3) := by decide +kernel
theorem dX5_readFormula_112 : decode cX5_readFormula 112 = .ok (.iload 5, 2) := by decide +kernel
theorem dX5_readFormula_114 : decode cX5_readFormula 114 = .ok (.invokevirtual 165, 3) := by decide +kernel
theorem dX5_readFormula_117 : decode cX5_readFormula 117 = .ok (.iinc 4 1, 3) := by decide +kernel
theorem dX5_readFormula_120 : decode cX5_readFormula 120 = .ok (.goto (-57), 3) := by decide +kernel
theorem dX5_readFormula_123 : decode cX5_readFormula 123 = .ok (.return_, 1) := by decide +kernel
theorem dX5_readHouse_0 : decode cX5_readHouse 0 = .ok (.aload_n 0, 1) := by decide +kernel
theorem dX5_readHouse_1 : decode cX5_readHouse 1 = .ok (.aload_n 0, 1) := by decide +kernel
theorem dX5_readHouse_2 : decode cX5_readHouse 2 = .ok (.getfield 33, 3) := by decide +kernel
theorem dX5_readHouse_5 : decode cX5_readHouse 5 = .ok (.iload_n 1, 1) := by decide +kernel
theorem dX5_readHouse_6 : decode cX5_readHouse 6 = .ok (.invokevirtual 126, 3) := by decide +kernel
theorem dX5_readHouse_9 : decode cX5_readHouse 9 = .ok (.aload_n 0, 1) := by decide +kernel
theorem dX5_readHouse_10 : decode cX5_readHouse 10 = .ok (.bipush 107, 2) := by decide +kernel
theorem dX5_readHouse_12 : decode cX5_readHouse 12 = .ok (.invokevirtual 123, 3) := by decide +kernel
theorem dX5_readHouse_15 : decode cX5_readHouse 15 = .ok (.aload_n 0, 1) := by decide +kernel
theorem dX5_readHouse_16 : decode cX5_readHouse 16 = .ok (.getfield 25, 3) := by decide +kernel
theorem dX5_readHouse_19 : decode cX5_readHouse 19 = .ok (.getfield 139, 3) := by decide +kernel
theorem dX5_readHouse_22 : decode cX5_readHouse 22 = .ok (.iload_n 1, 1) := by decide +kernel
theorem dX5_readHouse_23 : decode cX5_readHouse 23 = .ok (.aload_n 0, 1) := by decide +kernel
theorem dX5_readHouse_24 : decode cX5_readHouse 24 = .ok (.iconst 0, 1) := by decide +kernel
theorem dX5_readHouse_25 : decode cX5_readHouse 25 = .ok (.bipush 99, 2) := by decide +kernel
theorem dX5_readHouse_27 : decode cX5_readHouse 27 = .ok (.invokevirtual 84, 3) := by decide +kernel
theorem dX5_readHouse_30 : decode cX5_readHouse 30 = .ok (.iastore, 1) := by decide +kernel
theorem dX5_readHouse_31 : decode cX5_readHouse 31 = .ok (.aload_n 0, 1) := by decide +kernel
theorem dX5_readHouse_32 : decode cX5_readHouse 32 = .ok (.bipush 118, 2) := by decide +kernel
theorem dX5_readHouse_34 : decode cX5_readHouse 34 = .ok (.invokevirtual 123, 3) := by decide +kernel
theorem dX5_readHouse_37 : decode cX5_readHouse 37 = .ok (.aload_n 0, 1) := by decide +kernel
theorem dX5_readHouse_38 : decode cX5_readHouse 38 = .ok (.getfield 25, 3) := by decide +kernel
theorem dX5_readHouse_41 : decode cX5_readHouse 41 = .ok (.getfield 142, 3) := by decide +kernel
theorem dX5_readHouse_44 : decode cX5_readHouse 44 = .ok (.iload_n 1, 1) := by decide +kernel
theorem dX5_readHouse_45 : decode cX5_readHouse 45 = .ok (.aload_n 0, 1) := by decide +kernel
theorem dX5_readHouse_46 : decode cX5_readHouse 46 = .ok (.iconst 0, 1) := by decide +kernel
theorem dX5_readHouse_47 : decode cX5_readHouse 47 = .ok (.bipush 99, 2) := by decide +kernel
theorem dX5_readHouse_49 : decode cX5_readHouse 49 = .ok (.invokevirtual 84, 3) := by decide +kernel
theorem dX5_readHouse_52 : decode cX5_readHouse 52 = .ok (.iastore, 1) := by decide +kernel
theorem dX5_readHouse_53 : decode cX5_readHouse 53 = .ok (.aload_n 0, 1) := by decide +kernel
theorem dX5_readHouse_54 : decode cX5_readHouse 54 = .ok (.bipush 108, 2) := by decide +kernel
theorem dX5_readHouse_56 : decode cX5_readHouse 56 = .ok (.invokevirtual 123, 3) := by decide +kernel
theorem dX5_readHouse_59 : decode cX5_readHouse 59 = .ok (.iconst 0, 1) := by decide +kernel
theorem dX5_readHouse_60 : decode cX5_readHouse 60 = .ok (.istore_n 2, 1) := by decide +kernel
theorem dX5_readHouse_61 : decode cX5_readHouse 61 = .ok (.iload_n 2, 1) := by decide +kernel
theorem dX5_readHouse_62 : decode cX5_readHouse 62 = .ok (.iconst 3, 1) := by decide +kernel
theorem dX5_readHouse_63 : decode cX5_readHouse 63 = .ok (.if_icmp .ge 29, 3) := by decide +kernel
theorem dX5_readHouse_66 : decode cX5_readHouse 66 = .ok (.aload_n 0, 1) := by decide +kernel
theorem dX5_readHouse_67 : decode cX5_readHouse 67 = .ok (.getfield 25, 3) := by decide +kernel
theorem dX5_readHouse_70 : decode cX5_readHouse 70 = .ok (.getfield 145, 3) := by decide +kernel
theorem dX5_readHouse_73 : decode cX5_readHouse 73 = .ok (.iload_n 1, 1) := by decide +kernel
theorem dX5_readHouse_74 : decode cX5_readHouse 74 = .ok (.iconst 3, 1) := by decide +kernel
theorem dX5_readHouse_75 : decode cX5_readHouse 75 = .ok (.imul, 1) := by decide +kernel
theorem dX5_readHouse_76 : decode cX5_readHouse 76 = .ok (.iload_n 2, 1) := by decide +kernel
theorem dX5_readHouse_77 : decode cX5_readHouse 77 = .ok (.iadd, 1) := by decide +kernel
theorem dX5_readHouse_78 : decode cX5_readHouse 78 = .ok (.aload_n 0, 1) := by decide +kernel
theorem dX5_readHouse_79 : decode cX5_readHouse 79 = .ok (.iconst 0, 1) := by decide +kernel
theorem dX5_readHouse_80 : decode cX5_readHouse 80 = .ok (.bipush 6, 2) := by decide +kernel
theorem dX5_readHouse_82 : decode cX5_readHouse 82 = .ok (.invokevirtual 84, 3) := by decide +kernel
theorem dX5_readHouse_85 : decode cX5_readHouse 85 = .ok (.iastore, 1) := by decide +kernel
theorem dX5_readHouse_86 : decode cX5_readHouse 86 = .ok (.iinc 2 1, 3) := by decide +kernel
theorem dX5_readHouse_89 : decode cX5_readHouse 89 = .ok (.goto (-28), 3) := by decide +kernel
theorem dX5_readHouse_92 : decode cX5_readHouse 92 = .ok (.aload_n 0, 1) := by decide +kernel
theorem dX5_readHouse_93 : decode cX5_readHouse 93 = .ok (.getfield 25, 3) := by decide +kernel
theorem dX5_readHouse_96 : decode cX5_readHouse 96 = .ok (.iload_n 1, 1) := by decide +kernel
theorem dX5_readHouse_97 : decode cX5_readHouse 97 = .ok (.iconst 1, 1) := by decide +kernel
theorem dX5_readHouse_98 : decode cX5_readHouse 98 = .ok (.iadd, 1) := by decide +kernel
theorem dX5_readHouse_99 : decode cX5_readHouse 99 = .ok (.putfield 98, 3) := by decide +kernel
theorem dX5_readHouse_102 : decode cX5_readHouse 102 = .ok (.return_, 1) := by decide +kernel
theorem dX5_readLine_0 : decode cX5_readLine 0 = .ok (.aload_n 0, 1) := by decide +kernel
theorem dX5_readLine_1 : decode cX5_readLine 1 = .ok (.invokevirtual 74, 3) := by decide +kernel
theorem dX5_readLine_4 : decode cX5_readLine 4 = .ok (.ifCond .ne 8, 3) := by decide +kernel
theorem dX5_readLine_7 : decode cX5_readLine 7 = .ok (.aload_n 0, 1) := by decide +kernel
theorem dX5_readLine_8 : decode cX5_readLine 8 = .ok (.invokevirtual 78, 3) := by decide +kernel
theorem dX5_readLine_11 : decode cX5_readLine 11 = .ok (.return_, 1) := by decide +kernel
theorem dX5_readLine_12 : decode cX5_readLine 12 = .ok (.aload_n 0, 1) := by decide +kernel
theorem dX5_readLine_13 : decode cX5_readLine 13 = .ok (.getfield 66, 3) := by decide +kernel
theorem dX5_readLine_16 : decode cX5_readLine 16 = .ok (.istore_n 1, 1) := by decide +kernel
theorem dX5_readLine_17 : decode cX5_readLine 17 = .ok (.aload_n 0, 1) := by decide +kernel
theorem dX5_readLine_18 : decode cX5_readLine 18 = .ok (.invokevirtual 81, 3) := by decide +kernel
theorem dX5_readLine_21 : decode cX5_readLine 21 = .ok (.iload_n 1, 1) := by decide +kernel
theorem dX5_readLine_22 : decode cX5_readLine 22 = .ok (.tableswitch 130 100 104 #[34, 56, 70, 84, 108], 34) := by decide +kernel
theorem dX5_readLine_56 : decode cX5_readLine 56 = .ok (.aload_n 0, 1) := by decide +kernel
theorem dX5_readLine_57 : decode cX5_readLine 57 = .ok (.iconst 1, 1) := by decide +kernel
theorem dX5_readLine_58 : decode cX5_readLine 58 = .ok (.putfield 46, 3) := by decide +kernel
theorem dX5_readLine_61 : decode cX5_readLine 61 = .ok (.aload_n 0, 1) := by decide +kernel
theorem dX5_readLine_62 : decode cX5_readLine 62 = .ok (.getfield 25, 3) := by decide +kernel
theorem dX5_readLine_65 : decode cX5_readLine 65 = .ok (.aload_n 0, 1) := by decide +kernel
theorem dX5_readLine_66 : decode cX5_readLine 66 = .ok (.iconst 1, 1) := by decide +kernel
theorem dX5_readLine_67 : decode cX5_readLine 67 = .ok (.bipush 9, 2) := by decide +kernel
theorem dX5_readLine_69 : decode cX5_readLine 69 = .ok (.invokevirtual 84, 3) := by decide +kernel
theorem dX5_readLine_72 : decode cX5_readLine 72 = .ok (.putfield 88, 3) := by decide +kernel
theorem dX5_readLine_75 : decode cX5_readLine 75 = .ok (.goto 97, 3) := by decide +kernel
theorem dX5_readLine_78 : decode cX5_readLine 78 = .ok (.aload_n 0, 1) := by decide +kernel
theorem dX5_readLine_79 : decode cX5_readLine 79 = .ok (.aload_n 0, 1) := by decide +kernel
theorem dX5_readLine_80 : decode cX5_readLine 80 = .ok (.getfield 25, 3) := by decide +kernel
theorem dX5_readLine_83 : decode cX5_readLine 83 = .ok (.getfield 91, 3) := by decide +kernel
theorem dX5_readLine_86 : decode cX5_readLine 86 = .ok (.invokevirtual 94, 3) := by decide +kernel
theorem dX5_readLine_89 : decode cX5_readLine 89 = .ok (.goto 83, 3) := by decide +kernel
theorem dX5_readLine_92 : decode cX5_readLine 92 = .ok (.aload_n 0, 1) := by decide +kernel
theorem dX5_readLine_93 : decode cX5_readLine 93 = .ok (.aload_n 0, 1) := by decide +kernel
theorem dX5_readLine_94 : decode cX5_readLine 94 = .ok (.getfield 25, 3) := by decide +kernel
theorem dX5_readLine_97 : decode cX5_readLine 97 = .ok (.getfield 98, 3) := by decide +kernel
theorem dX5_readLine_100 : decode cX5_readLine 100 = .ok (.invokevirtual 101, 3) := by decide +kernel
theorem dX5_readLine_103 : decode cX5_readLine 103 = .ok (.goto 69, 3) := by decide +kernel
theorem dX5_readLine_106 : decode cX5_readLine 106 = .ok (.aload_n 0, 1) := by decide +kernel
theorem dX5_readLine_107 : decode cX5_readLine 107 = .ok (.iconst 1, 1) := by decide +kernel
theorem dX5_readLine_108 : decode cX5_readLine 108 = .ok (.putfield 50, 3) := by decide +kernel
theorem dX5_readLine_111 : decode cX5_readLine 111 = .ok (.aload_n 0, 1) := by decide +kernel
theorem dX5_readLine_112 : decode cX5_readLine 112 = .ok (.getfield 25, 3) := by decide +kernel
theorem dX5_readLine_115 : decode cX5_readLine 115 = .ok (.getfield 104, 3) := by decide +kernel
theorem dX5_readLine_118 : decode cX5_readLine 118 = .ok (.invokevirtual 108, 3) := by decide +kernel
theorem dX5_readLine_121 : decode cX5_readLine 121 = .ok (.aload_n 0, 1) := by decide +kernel
theorem dX5_readLine_122 : decode cX5_readLine 122 = .ok (.iconst 0, 1) := by decide +kernel
theorem dX5_readLine_123 : decode cX5_readLine 123 = .ok (.iconst 0, 1) := by decide +kernel
theorem dX5_readLine_124 : decode cX5_readLine 124 = .ok (.invokevirtual 113, 3) := by decide +kernel
theorem dX5_readLine_127 : decode cX5_readLine 127 = .ok (.goto 45, 3) := by decide +kernel
theorem dX5_readLine_130 : decode cX5_readLine 130 = .ok (.aload_n 0, 1) := by decide +kernel
theorem dX5_readLine_131 : decode cX5_readLine 131 = .ok (.iconst 1, 1) := by decide +kernel
theorem dX5_readLine_132 : decode cX5_readLine 132 = .ok (.putfield 53, 3) := by decide +kernel
theorem dX5_readLine_135 : decode cX5_readLine 135 = .ok (.aload_n 0, 1) := by decide +kernel
theorem dX5_readLine_136 : decode cX5_readLine 136 = .ok (.getfield 25, 3) := by decide +kernel
theorem dX5_readLine_139 : decode cX5_readLine 139 = .ok (.aload_n 0, 1) := by decide +kernel
theorem dX5_readLine_140 : decode cX5_readLine 140 = .ok (.iconst 0, 1) := by decide +kernel
theorem dX5_readLine_141 : decode cX5_readLine 141 = .ok (.bipush 100, 2) := by decide +kernel
theorem dX5_readLine_143 : decode cX5_readLine 143 = .ok (.invokevirtual 84, 3) := by decide +kernel
theorem dX5_readLine_146 : decode cX5_readLine 146 = .ok (.putfield 117, 3) := by decide +kernel
theorem dX5_readLine_149 : decode cX5_readLine 149 = .ok (.goto 23, 3) := by decide +kernel
theorem dX5_readLine_152 : decode cX5_readLine 152 = .ok (.aload_n 0, 1) := by decide +kernel
theorem dX5_readLine_153 : decode cX5_readLine 153 = .ok (.iconst 1, 1) := by decide +kernel
theorem dX5_readLine_154 : decode cX5_readLine 154 = .ok (.putfield 56, 3) := by decide +kernel
theorem dX5_readLine_157 : decode cX5_readLine 157 = .ok (.aload_n 0, 1) := by decide +kernel
theorem dX5_readLine_158 : decode cX5_readLine 158 = .ok (.getfield 25, 3) := by decide +kernel
theorem dX5_readLine_161 : decode cX5_readLine 161 = .ok (.aload_n 0, 1) := by decide +kernel
theorem dX5_readLine_162 : decode cX5_readLine 162 = .ok (.iconst 0, 1) := by decide +kernel
theorem dX5_readLine_163 : decode cX5_readLine 163 = .ok (.sipush 999, 3) := by decide +kernel
theorem dX5_readLine_166 : decode cX5_readLine 166 = .ok (.invokevirtual 84, 3) := by decide +kernel
theorem dX5_readLine_169 : decode cX5_readLine 169 = .ok (.putfield 120, 3) := by decide +kernel
theorem dX5_readLine_172 : decode cX5_readLine 172 = .ok (.aload_n 0, 1) := by decide +kernel
theorem dX5_readLine_173 : decode cX5_readLine 173 = .ok (.bipush 59, 2) := by decide +kernel
theorem dX5_readLine_175 : decode cX5_readLine 175 = .ok (.invokevirtual 123, 3) := by decide +kernel
theorem dX5_readLine_178 : decode cX5_readLine 178 = .ok (.return_, 1) := by decide +kernel
theorem dX5_readName_0 : decode cX5_readName 0 = .ok (.aload_n 0, 1) := by decide +kernel
theorem dX5_readName_1 : decode cX5_readName 1 = .ok (.getfield 66, 3) := by decide +kernel
theorem dX5_readName_4 : decode cX5_readName 4 = .ok (.iconst 3, 1) := by decide +kernel
theorem dX5_readName_5 : decode cX5_readName 5 = .ok (.if_icmp .eq 8, 3) := by decide +kernel
theorem dX5_readName_8 : decode cX5_readName 8 = .ok (.aload_n 0, 1) := by decide +kernel
theorem dX5_readName_9 : decode cX5_readName 9 = .ok (.invokevirtual 78, 3) := by decide +kernel
theorem dX5_readName_12 : decode cX5_readName 12 = .ok (.return_, 1) := by decide +kernel
theorem dX5_readName_13 : decode cX5_readName 13 = .ok (.aload_n 0, 1) := by decide +kernel
theorem dX5_readName_14 : decode cX5_readName 14 = .ok (.getfield 18, 3) := by decide +kernel
theorem dX5_readName_17 : decode cX5_readName 17 = .ok (.getfield 148, 3) := by decide +kernel
theorem dX5_readName_20 : decode cX5_readName 20 = .ok (.aload_n 0, 1) := by decide +kernel
theorem dX5_readName_21 : decode cX5_readName 21 = .ok (.getfield 59, 3) := by decide +kernel
theorem dX5_readName_24 : decode cX5_readName 24 = .ok (.laload, 1) := by decide +kernel
theorem dX5_readName_25 : decode cX5_readName 25 = .ok (.lstore_n 3, 1) := by decide +kernel
theorem dX5_readName_26 : decode cX5_readName 26 = .ok (.iconst 0, 1) := by decide +kernel
theorem dX5_readName_27 : decode cX5_readName 27 = .ok (.istore 5, 2) := by decide +kernel
theorem dX5_readName_29 : decode cX5_readName 29 = .ok (.iload 5, 2) := by decide +kernel
theorem dX5_readName_31 : decode cX5_readName 31 = .ok (.iload_n 2, 1) := by decide +kernel
theorem dX5_readName_32 : decode cX5_readName 32 = .ok (.if_icmp .ge 24, 3) := by decide +kernel
theorem dX5_readName_35 : decode cX5_readName 35 = .ok (.aload_n 1, 1) := by decide +kernel
theorem dX5_readName_36 : decode cX5_readName 36 = .ok (.iload 5, 2) := by decide +kernel
theorem dX5_readName_38 : decode cX5_readName 38 = .ok (.laload, 1) := by decide +kernel
theorem dX5_readName_39 : decode cX5_readName 39 = .ok (.lload_n 3, 1) := by decide +kernel
theorem dX5_readName_40 : decode cX5_readName 40 = .ok (.lcmp, 1) := by decide +kernel
theorem dX5_readName_41 : decode cX5_readName 41 = .ok (.ifCond .ne 9, 3) := by decide +kernel
theorem dX5_readName_44 : decode cX5_readName 44 = .ok (.aload_n 0, 1) := by decide +kernel
theorem dX5_readName_45 : decode cX5_readName 45 = .ok (.iconst 3, 1) := by decide +kernel
theorem dX5_readName_46 : decode cX5_readName 46 = .ok (.invokevirtual 151, 3) := by decide +kernel
theorem dX5_readName_49 : decode cX5_readName 49 = .ok (.return_, 1) := by decide +kernel
theorem dX5_readName_50 : decode cX5_readName 50 = .ok (.iinc 5 1, 3) := by decide +kernel
theorem dX5_readName_53 : decode cX5_readName 53 = .ok (.goto (-24), 3) := by decide +kernel
theorem dX5_readName_56 : decode cX5_readName 56 = .ok (.aload_n 1, 1) := by decide +kernel
theorem dX5_readName_57 : decode cX5_readName 57 = .ok (.iload_n 2, 1) := by decide +kernel
theorem dX5_readName_58 : decode cX5_readName 58 = .ok (.lload_n 3, 1) := by decide +kernel
theorem dX5_readName_59 : decode cX5_readName 59 = .ok (.lastore, 1) := by decide +kernel
theorem dX5_readName_60 : decode cX5_readName 60 = .ok (.aload_n 0, 1) := by decide +kernel
theorem dX5_readName_61 : decode cX5_readName 61 = .ok (.invokevirtual 81, 3) := by decide +kernel
theorem dX5_readName_64 : decode cX5_readName 64 = .ok (.return_, 1) := by decide +kernel
theorem dX5_readNot_0 : decode cX5_readNot 0 = .ok (.iload_n 1, 1) := by decide +kernel
theorem dX5_readNot_1 : decode cX5_readNot 1 = .ok (.bipush 7, 2) := by decide +kernel
theorem dX5_readNot_3 : decode cX5_readNot 3 = .ok (.if_icmp .lt 8, 3) := by decide +kernel
theorem dX5_readNot_6 : decode cX5_readNot 6 = .ok (.aload_n 0, 1) := by decide +kernel
theorem dX5_readNot_7 : decode cX5_readNot 7 = .ok (.invokevirtual 78, 3) := by decide +kernel
theorem dX5_readNot_10 : decode cX5_readNot 10 = .ok (.return_, 1) := by decide +kernel
theorem dX5_readNot_11 : decode cX5_readNot 11 = .ok (.aload_n 0, 1) := by decide +kernel
theorem dX5_readNot_12 : decode cX5_readNot 12 = .ok (.invokevirtual 81, 3) := by decide +kernel
theorem dX5_readNot_15 : decode cX5_readNot 15 = .ok (.aload_n 0, 1) := by decide +kernel
theorem dX5_readNot_16 : decode cX5_readNot 16 = .ok (.iconst 2, 1) := by decide +kernel
theorem dX5_readNot_17 : decode cX5_readNot 17 = .ok (.iload_n 1, 1) := by decide +kernel
theorem dX5_readNot_18 : decode cX5_readNot 18 = .ok (.iconst 1, 1) := by decide +kernel
theorem dX5_readNot_19 : decode cX5_readNot 19 = .ok (.iadd, 1) := by decide +kernel
theorem dX5_readNot_20 : decode cX5_readNot 20 = .ok (.invokevirtual 113, 3) := by decide +kernel
theorem dX5_readNot_23 : decode cX5_readNot 23 = .ok (.aload_n 0, 1) := by decide +kernel
theorem dX5_readNot_24 : decode cX5_readNot 24 = .ok (.getfield 25, 3) := by decide +kernel
theorem dX5_readNot_27 : decode cX5_readNot 27 = .ok (.getfield 104, 3) := by decide +kernel
theorem dX5_readNot_30 : decode cX5_readNot 30 = .ok (.bipush 111, 2) := by decide +kernel
theorem dX5_readNot_32 : decode cX5_readNot 32 = .ok (.invokevirtual 165, 3) := by decide +kernel
theorem dX5_readNot_35 : decode cX5_readNot 35 = .ok (.return_, 1) := by decide +kernel
theorem dX5_readNumber_0 : decode cX5_readNumber 0 = .ok (.aload_n 0, 1) := by decide +kernel
theorem dX5_readNumber_1 : decode cX5_readNumber 1 = .ok (.getfield 66, 3) := by decide +kernel
theorem dX5_readNumber_4 : decode cX5_readNumber 4 = .ok (.iconst 2, 1) := by decide +kernel
theorem dX5_readNumber_5 : decode cX5_readNumber 5 = .ok (.if_icmp .eq 9, 3) := by decide +kernel
theorem dX5_readNumber_8 : decode cX5_readNumber 8 = .ok (.aload_n 0, 1) := by decide +kernel
theorem dX5_readNumber_9 : decode cX5_readNumber 9 = .ok (.invokevirtual 78, 3) := by decide +kernel
theorem dX5_readNumber_12 : decode cX5_readNumber 12 = .ok (.iconst 0, 1) := by decide +kernel
theorem dX5_readNumber_13 : decode cX5_readNumber 13 = .ok (.ireturn, 1) := by decide +kernel
theorem dX5_readNumber_14 : decode cX5_readNumber 14 = .ok (.aload_n 0, 1) := by decide +kernel
theorem dX5_readNumber_15 : decode cX5_readNumber 15 = .ok (.getfield 18, 3) := by decide +kernel
theorem dX5_readNumber_18 : decode cX5_readNumber 18 = .ok (.getfield 148, 3) := by decide +kernel
theorem dX5_readNumber_21 : decode cX5_readNumber 21 = .ok (.aload_n 0, 1) := by decide +kernel
theorem dX5_readNumber_22 : decode cX5_readNumber 22 = .ok (.getfield 59, 3) := by decide +kernel
theorem dX5_readNumber_25 : decode cX5_readNumber 25 = .ok (.laload, 1) := by decide +kernel
theorem dX5_readNumber_26 : decode cX5_readNumber 26 = .ok (.l2i, 1) := by decide +kernel
theorem dX5_readNumber_27 : decode cX5_readNumber 27 = .ok (.istore_n 3, 1) := by decide +kernel
theorem dX5_readNumber_28 : decode cX5_readNumber 28 = .ok (.iload_n 3, 1) := by decide +kernel
theorem dX5_readNumber_29 : decode cX5_readNumber 29 = .ok (.iload_n 1, 1) := by decide +kernel
theorem dX5_readNumber_30 : decode cX5_readNumber 30 = .ok (.if_icmp .lt 8, 3) := by decide +kernel
theorem dX5_readNumber_33 : decode cX5_readNumber 33 = .ok (.iload_n 3, 1) := by decide +kernel
theorem dX5_readNumber_34 : decode cX5_readNumber 34 = .ok (.iload_n 2, 1) := by decide +kernel
theorem dX5_readNumber_35 : decode cX5_readNumber 35 = .ok (.if_icmp .le 10, 3) := by decide +kernel
theorem dX5_readNumber_38 : decode cX5_readNumber 38 = .ok (.aload_n 0, 1) := by decide +kernel
theorem dX5_readNumber_39 : decode cX5_readNumber 39 = .ok (.iconst 4, 1) := by decide +kernel
theorem dX5_readNumber_40 : decode cX5_readNumber 40 = .ok (.invokevirtual 151, 3) := by decide +kernel
theorem dX5_readNumber_43 : decode cX5_readNumber 43 = .ok (.iconst 0, 1) := by decide +kernel
theorem dX5_readNumber_44 : decode cX5_readNumber 44 = .ok (.ireturn, 1) := by decide +kernel
theorem dX5_readNumber_45 : decode cX5_readNumber 45 = .ok (.aload_n 0, 1) := by decide +kernel
theorem dX5_readNumber_46 : decode cX5_readNumber 46 = .ok (.invokevirtual 81, 3) := by decide +kernel
theorem dX5_readNumber_49 : decode cX5_readNumber 49 = .ok (.iload_n 3, 1) := by decide +kernel
theorem dX5_readNumber_50 : decode cX5_readNumber 50 = .ok (.ireturn, 1) := by decide +kernel
theorem dX5_readTune_0 : decode cX5_readTune 0 = .ok (.aload_n 0, 1) := by decide +kernel
theorem dX5_readTune_1 : decode cX5_readTune 1 = .ok (.aload_n 0, 1) := by decide +kernel
theorem dX5_readTune_2 : decode cX5_readTune 2 = .ok (.getfield 29, 3) := by decide +kernel
theorem dX5_readTune_5 : decode cX5_readTune 5 = .ok (.iload_n 1, 1) := by decide +kernel
theorem dX5_readTune_6 : decode cX5_readTune 6 = .ok (.invokevirtual 126, 3) := by decide +kernel
theorem dX5_readTune_9 : decode cX5_readTune 9 = .ok (.aload_n 0, 1) := by decide +kernel
theorem dX5_readTune_10 : decode cX5_readTune 10 = .ok (.bipush 117, 2) := by decide +kernel
theorem dX5_readTune_12 : decode cX5_readTune 12 = .ok (.invokevirtual 123, 3) := by decide +kernel
theorem dX5_readTune_15 : decode cX5_readTune 15 = .ok (.aload_n 0, 1) := by decide +kernel
theorem dX5_readTune_16 : decode cX5_readTune 16 = .ok (.getfield 25, 3) := by decide +kernel
theorem dX5_readTune_19 : decode cX5_readTune 19 = .ok (.getfield 130, 3) := by decide +kernel
theorem dX5_readTune_22 : decode cX5_readTune 22 = .ok (.iload_n 1, 1) := by decide +kernel
theorem dX5_readTune_23 : decode cX5_readTune 23 = .ok (.aload_n 0, 1) := by decide +kernel
theorem dX5_readTune_24 : decode cX5_readTune 24 = .ok (.iconst 0, 1) := by decide +kernel
theorem dX5_readTune_25 : decode cX5_readTune 25 = .ok (.bipush 99, 2) := by decide +kernel
theorem dX5_readTune_27 : decode cX5_readTune 27 = .ok (.invokevirtual 84, 3) := by decide +kernel
theorem dX5_readTune_30 : decode cX5_readTune 30 = .ok (.iastore, 1) := by decide +kernel
theorem dX5_readTune_31 : decode cX5_readTune 31 = .ok (.aload_n 0, 1) := by decide +kernel
theorem dX5_readTune_32 : decode cX5_readTune 32 = .ok (.bipush 106, 2) := by decide +kernel
theorem dX5_readTune_34 : decode cX5_readTune 34 = .ok (.invokevirtual 123, 3) := by decide +kernel
theorem dX5_readTune_37 : decode cX5_readTune 37 = .ok (.iconst 0, 1) := by decide +kernel
theorem dX5_readTune_38 : decode cX5_readTune 38 = .ok (.istore_n 2, 1) := by decide +kernel
theorem dX5_readTune_39 : decode cX5_readTune 39 = .ok (.iconst 0, 1) := by decide +kernel
theorem dX5_readTune_40 : decode cX5_readTune 40 = .ok (.istore_n 3, 1) := by decide +kernel
theorem dX5_readTune_41 : decode cX5_readTune 41 = .ok (.iload_n 3, 1) := by decide +kernel
theorem dX5_readTune_42 : decode cX5_readTune 42 = .ok (.bipush 8, 2) := by decide +kernel
theorem dX5_readTune_44 : decode cX5_readTune 44 = .ok (.if_icmp .ge 46, 3) := by decide +kernel
theorem dX5_readTune_47 : decode cX5_readTune 47 = .ok (.iload_n 3, 1) := by decide +kernel
theorem dX5_readTune_48 : decode cX5_readTune 48 = .ok (.iconst 3, 1) := by decide +kernel
theorem dX5_readTune_49 : decode cX5_readTune 49 = .ok (.if_icmp .lt 11, 3) := by decide +kernel
theorem dX5_readTune_52 : decode cX5_readTune 52 = .ok (.aload_n 0, 1) := by decide +kernel
theorem dX5_readTune_53 : decode cX5_readTune 53 = .ok (.getfield 66, 3) := by decide +kernel
theorem dX5_readTune_56 : decode cX5_readTune 56 = .ok (.iconst 2, 1) := by decide +kernel
theorem dX5_readTune_57 : decode cX5_readTune 57 = .ok (.if_icmp .ne 33, 3) := by decide +kernel
theorem dX5_readTune_60 : decode cX5_readTune 60 = .ok (.aload_n 0, 1) := by decide +kernel
theorem dX5_readTune_61 : decode cX5_readTune 61 = .ok (.getfield 25, 3) := by decide +kernel
theorem dX5_readTune_64 : decode cX5_readTune 64 = .ok (.getfield 133, 3) := by decide +kernel
theorem dX5_readTune_67 : decode cX5_readTune 67 = .ok (.iload_n 1, 1) := by decide +kernel
theorem dX5_readTune_68 : decode cX5_readTune 68 = .ok (.bipush 8, 2) := by decide +kernel
theorem dX5_readTune_70 : decode cX5_readTune 70 = .ok (.imul, 1) := by decide +kernel
theorem dX5_readTune_71 : decode cX5_readTune 71 = .ok (.iload_n 3, 1) := by decide +kernel
theorem dX5_readTune_72 : decode cX5_readTune 72 = .ok (.iadd, 1) := by decide +kernel
theorem dX5_readTune_73 : decode cX5_readTune 73 = .ok (.aload_n 0, 1) := by decide +kernel
theorem dX5_readTune_74 : decode cX5_readTune 74 = .ok (.iconst 0, 1) := by decide +kernel
theorem dX5_readTune_75 : decode cX5_readTune 75 = .ok (.bipush 6, 2) := by decide +kernel
theorem dX5_readTune_77 : decode cX5_readTune 77 = .ok (.invokevirtual 84, 3) := by decide +kernel
theorem dX5_readTune_80 : decode cX5_readTune 80 = .ok (.iastore, 1) := by decide +kernel
theorem dX5_readTune_81 : decode cX5_readTune 81 = .ok (.iinc 2 1, 3) := by decide +kernel
theorem dX5_readTune_84 : decode cX5_readTune 84 = .ok (.iinc 3 1, 3) := by decide +kernel
theorem dX5_readTune_87 : decode cX5_readTune 87 = .ok (.goto (-46), 3) := by decide +kernel
theorem dX5_readTune_90 : decode cX5_readTune 90 = .ok (.aload_n 0, 1) := by decide +kernel
theorem dX5_readTune_91 : decode cX5_readTune 91 = .ok (.getfield 25, 3) := by decide +kernel
theorem dX5_readTune_94 : decode cX5_readTune 94 = .ok (.getfield 136, 3) := by decide +kernel
theorem dX5_readTune_97 : decode cX5_readTune 97 = .ok (.iload_n 1, 1) := by decide +kernel
theorem dX5_readTune_98 : decode cX5_readTune 98 = .ok (.iload_n 2, 1) := by decide +kernel
theorem dX5_readTune_99 : decode cX5_readTune 99 = .ok (.iastore, 1) := by decide +kernel
theorem dX5_readTune_100 : decode cX5_readTune 100 = .ok (.aload_n 0, 1) := by decide +kernel
theorem dX5_readTune_101 : decode cX5_readTune 101 = .ok (.getfield 25, 3) := by decide +kernel
theorem dX5_readTune_104 : decode cX5_readTune 104 = .ok (.iload_n 1, 1) := by decide +kernel
theorem dX5_readTune_105 : decode cX5_readTune 105 = .ok (.iconst 1, 1) := by decide +kernel
theorem dX5_readTune_106 : decode cX5_readTune 106 = .ok (.iadd, 1) := by decide +kernel
theorem dX5_readTune_107 : decode cX5_readTune 107 = .ok (.putfield 91, 3) := by decide +kernel
theorem dX5_readTune_110 : decode cX5_readTune 110 = .ok (.return_, 1) := by decide +kernel
theorem dX5_readUnit_0 : decode cX5_readUnit 0 = .ok (.aload_n 0, 1) := by decide +kernel
theorem dX5_readUnit_1 : decode cX5_readUnit 1 = .ok (.getfield 66, 3) := by decide +kernel
theorem dX5_readUnit_4 : decode cX5_readUnit 4 = .ok (.bipush 40, 2) := by decide +kernel
theorem dX5_readUnit_6 : decode cX5_readUnit 6 = .ok (.if_icmp .ne 7, 3) := by decide +kernel
theorem dX5_readUnit_9 : decode cX5_readUnit 9 = .ok (.iconst 1, 1) := by decide +kernel
theorem dX5_readUnit_10 : decode cX5_readUnit 10 = .ok (.goto 4, 3) := by decide +kernel
theorem dX5_readUnit_13 : decode cX5_readUnit 13 = .ok (.iconst 0, 1) := by decide +kernel
theorem dX5_readUnit_14 : decode cX5_readUnit 14 = .ok (.istore_n 2, 1) := by decide +kernel
theorem dX5_readUnit_15 : decode cX5_readUnit 15 = .ok (.iload_n 2, 1) := by decide +kernel
theorem dX5_readUnit_16 : decode cX5_readUnit 16 = .ok (.ifCond .ne 21, 3) := by decide +kernel
theorem dX5_readUnit_19 : decode cX5_readUnit 19 = .ok (.aload_n 0, 1) := by decide +kernel
theorem dX5_readUnit_20 : decode cX5_readUnit 20 = .ok (.getfield 66, 3) := by decide +kernel
theorem dX5_readUnit_23 : decode cX5_readUnit 23 = .ok (.iconst 2, 1) := by decide +kernel
theorem dX5_readUnit_24 : decode cX5_readUnit 24 = .ok (.if_icmp .eq 13, 3) := by decide +kernel
theorem dX5_readUnit_27 : decode cX5_readUnit 27 = .ok (.aload_n 0, 1) := by decide +kernel
theorem dX5_readUnit_28 : decode cX5_readUnit 28 = .ok (.getfield 66, 3) := by decide +kernel
theorem dX5_readUnit_31 : decode cX5_readUnit 31 = .ok (.invokestatic 168, 3) := by decide +kernel
theorem dX5_readUnit_34 : decode cX5_readUnit 34 = .ok (.ifCond .eq 7, 3) := by decide +kernel
theorem dX5_readUnit_37 : decode cX5_readUnit 37 = .ok (.iconst 1, 1) := by decide +kernel
theorem dX5_readUnit_38 : decode cX5_readUnit 38 = .ok (.goto 4, 3) := by decide +kernel
theorem dX5_readUnit_41 : decode cX5_readUnit 41 = .ok (.iconst 0, 1) := by decide +kernel
theorem dX5_readUnit_42 : decode cX5_readUnit 42 = .ok (.istore_n 3, 1) := by decide +kernel
theorem dX5_readUnit_43 : decode cX5_readUnit 43 = .ok (.iload_n 3, 1) := by decide +kernel
theorem dX5_readUnit_44 : decode cX5_readUnit 44 = .ok (.ifCond .eq 25, 3) := by decide +kernel
theorem dX5_readUnit_47 : decode cX5_readUnit 47 = .ok (.aload_n 0, 1) := by decide +kernel
theorem dX5_readUnit_48 : decode cX5_readUnit 48 = .ok (.getfield 25, 3) := by decide +kernel
theorem dX5_readUnit_51 : decode cX5_readUnit 51 = .ok (.getfield 172, 3) := by decide +kernel
theorem dX5_readUnit_54 : decode cX5_readUnit 54 = .ok (.bipush 30, 2) := by decide +kernel
theorem dX5_readUnit_56 : decode cX5_readUnit 56 = .ok (.if_icmp .ge 13, 3) := by decide +kernel
theorem dX5_readUnit_59 : decode cX5_readUnit 59 = .ok (.iload_n 2, 1) := by decide +kernel
theorem dX5_readUnit_60 : decode cX5_readUnit 60 = .ok (.ifCond .eq 14, 3) := by decide +kernel
theorem dX5_readUnit_63 : decode cX5_readUnit 63 = .ok (.iload_n 1, 1) := by decide +kernel
theorem dX5_readUnit_64 : decode cX5_readUnit 64 = .ok (.bipush 7, 2) := by decide +kernel
theorem dX5_readUnit_66 : decode cX5_readUnit 66 = .ok (.if_icmp .lt 8, 3) := by decide +kernel
theorem dX5_readUnit_69 : decode cX5_readUnit 69 = .ok (.aload_n 0, 1) := by decide +kernel
theorem dX5_readUnit_70 : decode cX5_readUnit 70 = .ok (.invokevirtual 78, 3) := by decide +kernel
theorem dX5_readUnit_73 : decode cX5_readUnit 73 = .ok (.return_, 1) := by decide +kernel
theorem dX5_readUnit_74 : decode cX5_readUnit 74 = .ok (.aload_n 0, 1) := by decide +kernel
theorem dX5_readUnit_75 : decode cX5_readUnit 75 = .ok (.getfield 25, 3) := by decide +kernel
theorem dX5_readUnit_78 : decode cX5_readUnit 78 = .ok (.dup, 1) := by decide +kernel
theorem dX5_readUnit_79 : decode cX5_readUnit 79 = .ok (.getfield 172, 3) := by decide +kernel
theorem dX5_readUnit_82 : decode cX5_readUnit 82 = .ok (.iconst 1, 1) := by decide +kernel
theorem dX5_readUnit_83 : decode cX5_readUnit 83 = .ok (.iadd, 1) := by decide +kernel
theorem dX5_readUnit_84 : decode cX5_readUnit 84 = .ok (.putfield 172, 3) := by decide +kernel
theorem dX5_readUnit_87 : decode cX5_readUnit 87 = .ok (.iload_n 2, 1) := by decide +kernel
theorem dX5_readUnit_88 : decode cX5_readUnit 88 = .ok (.ifCond .eq 22, 3) := by decide +kernel
theorem dX5_readUnit_91 : decode cX5_readUnit 91 = .ok (.aload_n 0, 1) := by decide +kernel
theorem dX5_readUnit_92 : decode cX5_readUnit 92 = .ok (.invokevirtual 81, 3) := by decide +kernel
theorem dX5_readUnit_95 : decode cX5_readUnit 95 = .ok (.aload_n 0, 1) := by decide +kernel
theorem dX5_readUnit_96 : decode cX5_readUnit 96 = .ok (.iconst 0, 1) := by decide +kernel
theorem dX5_readUnit_97 : decode cX5_readUnit 97 = .ok (.iload_n 1, 1) := by decide +kernel
theorem dX5_readUnit_98 : decode cX5_readUnit 98 = .ok (.iconst 1, 1) := by decide +kernel
theorem dX5_readUnit_99 : decode cX5_readUnit 99 = .ok (.iadd, 1) := by decide +kernel
theorem dX5_readUnit_100 : decode cX5_readUnit 100 = .ok (.invokevirtual 113, 3) := by decide +kernel
theorem dX5_readUnit_103 : decode cX5_readUnit 103 = .ok (.aload_n 0, 1) := by decide +kernel
theorem dX5_readUnit_104 : decode cX5_readUnit 104 = .ok (.bipush 41, 2) := by decide +kernel
theorem dX5_readUnit_106 : decode cX5_readUnit 106 = .ok (.invokevirtual 123, 3) := by decide +kernel
theorem dX5_readUnit_109 : decode cX5_readUnit 109 = .ok (.return_, 1) := by decide +kernel
theorem dX5_readUnit_110 : decode cX5_readUnit 110 = .ok (.aload_n 0, 1) := by decide +kernel
theorem dX5_readUnit_111 : decode cX5_readUnit 111 = .ok (.getfield 66, 3) := by decide +kernel
theorem dX5_readUnit_114 : decode cX5_readUnit 114 = .ok (.iconst 2, 1) := by decide +kernel
theorem dX5_readUnit_115 : decode cX5_readUnit 115 = .ok (.if_icmp .ne 29, 3) := by decide +kernel
theorem dX5_readUnit_118 : decode cX5_readUnit 118 = .ok (.aload_n 0, 1) := by decide +kernel
theorem dX5_readUnit_119 : decode cX5_readUnit 119 = .ok (.getfield 25, 3) := by decide +kernel
theorem dX5_readUnit_122 : decode cX5_readUnit 122 = .ok (.getfield 104, 3) := by decide +kernel
theorem dX5_readUnit_125 : decode cX5_readUnit 125 = .ok (.aload_n 0, 1) := by decide +kernel
theorem dX5_readUnit_126 : decode cX5_readUnit 126 = .ok (.getfield 18, 3) := by decide +kernel
theorem dX5_readUnit_129 : decode cX5_readUnit 129 = .ok (.getfield 148, 3) := by decide +kernel
theorem dX5_readUnit_132 : decode cX5_readUnit 132 = .ok (.aload_n 0, 1) := by decide +kernel
theorem dX5_readUnit_133 : decode cX5_readUnit 133 = .ok (.getfield 59, 3) := by decide +kernel
theorem dX5_readUnit_136 : decode cX5_readUnit 136 = .ok (.laload, 1) := by decide +kernel
theorem dX5_readUnit_137 : decode cX5_readUnit 137 = .ok (.l2i, 1) := by decide +kernel
theorem dX5_readUnit_138 : decode cX5_readUnit 138 = .ok (.invokevirtual 175, 3) := by decide +kernel
theorem dX5_readUnit_141 : decode cX5_readUnit 141 = .ok (.goto 17, 3) := by decide +kernel
theorem dX5_readUnit_144 : decode cX5_readUnit 144 = .ok (.aload_n 0, 1) := by decide +kernel
theorem dX5_readUnit_145 : decode cX5_readUnit 145 = .ok (.getfield 25, 3) := by decide +kernel
theorem dX5_readUnit_148 : decode cX5_readUnit 148 = .ok (.getfield 104, 3) := by decide +kernel
theorem dX5_readUnit_151 : decode cX5_readUnit 151 = .ok (.aload_n 0, 1) := by decide +kernel
theorem dX5_readUnit_152 : decode cX5_readUnit 152 = .ok (.getfield 66, 3) := by decide +kernel
theorem dX5_readUnit_155 : decode cX5_readUnit 155 = .ok (.invokevirtual 178, 3) := by decide +kernel
theorem dX5_readUnit_158 : decode cX5_readUnit 158 = .ok (.aload_n 0, 1) := by decide +kernel
theorem dX5_readUnit_159 : decode cX5_readUnit 159 = .ok (.invokevirtual 81, 3) := by decide +kernel
theorem dX5_readUnit_162 : decode cX5_readUnit 162 = .ok (.return_, 1) := by decide +kernel
theorem dX5_refuse_0 : decode cX5_refuse 0 = .ok (.aload_n 0, 1) := by decide +kernel
theorem dX5_refuse_1 : decode cX5_refuse 1 = .ok (.aload_n 0, 1) := by decide +kernel
theorem dX5_refuse_2 : decode cX5_refuse 2 = .ok (.getfield 66, 3) := by decide +kernel
theorem dX5_refuse_5 : decode cX5_refuse 5 = .ok (.ifCond .ne 7, 3) := by decide +kernel
theorem dX5_refuse_8 : decode cX5_refuse 8 = .ok (.iconst 1, 1) := by decide +kernel
theorem dX5_refuse_9 : decode cX5_refuse 9 = .ok (.goto 4, 3) := by decide +kernel
theorem dX5_refuse_12 : decode cX5_refuse 12 = .ok (.iconst 2, 1) := by decide +kernel
theorem dX5_refuse_13 : decode cX5_refuse 13 = .ok (.invokevirtual 151, 3) := by decide +kernel
theorem dX5_refuse_16 : decode cX5_refuse 16 = .ok (.return_, 1) := by decide +kernel
theorem dX5_setFault_0 : decode cX5_setFault 0 = .ok (.aload_n 0, 1) := by decide +kernel
theorem dX5_setFault_1 : decode cX5_setFault 1 = .ok (.getfield 43, 3) := by decide +kernel
theorem dX5_setFault_4 : decode cX5_setFault 4 = .ok (.ifCond .ne 24, 3) := by decide +kernel
theorem dX5_setFault_7 : decode cX5_setFault 7 = .ok (.aload_n 0, 1) := by decide +kernel
theorem dX5_setFault_8 : decode cX5_setFault 8 = .ok (.iload_n 1, 1) := by decide +kernel
theorem dX5_setFault_9 : decode cX5_setFault 9 = .ok (.putfield 43, 3) := by decide +kernel
theorem dX5_setFault_12 : decode cX5_setFault 12 = .ok (.aload_n 0, 1) := by decide +kernel
theorem dX5_setFault_13 : decode cX5_setFault 13 = .ok (.aload_n 0, 1) := by decide +kernel
theorem dX5_setFault_14 : decode cX5_setFault 14 = .ok (.getfield 18, 3) := by decide +kernel
theorem dX5_setFault_17 : decode cX5_setFault 17 = .ok (.getfield 154, 3) := by decide +kernel
theorem dX5_setFault_20 : decode cX5_setFault 20 = .ok (.aload_n 0, 1) := by decide +kernel
theorem dX5_setFault_21 : decode cX5_setFault 21 = .ok (.getfield 59, 3) := by decide +kernel
theorem dX5_setFault_24 : decode cX5_setFault 24 = .ok (.iaload, 1) := by decide +kernel
theorem dX5_setFault_25 : decode cX5_setFault 25 = .ok (.putfield 9, 3) := by decide +kernel
theorem dX5_setFault_28 : decode cX5_setFault 28 = .ok (.return_, 1) := by decide +kernel
theorem dX6_isDigit_0 : decode cX6_isDigit 0 = .ok (.iload_n 0, 1) := by decide +kernel
theorem dX6_isDigit_1 : decode cX6_isDigit 1 = .ok (.bipush 48, 2) := by decide +kernel
theorem dX6_isDigit_3 : decode cX6_isDigit 3 = .ok (.if_icmp .lt 13, 3) := by decide +kernel
theorem dX6_isDigit_6 : decode cX6_isDigit 6 = .ok (.iload_n 0, 1) := by decide +kernel
theorem dX6_isDigit_7 : decode cX6_isDigit 7 = .ok (.bipush 57, 2) := by decide +kernel
theorem dX6_isDigit_9 : decode cX6_isDigit 9 = .ok (.if_icmp .gt 7, 3) := by decide +kernel
theorem dX6_isDigit_12 : decode cX6_isDigit 12 = .ok (.iconst 1, 1) := by decide +kernel
theorem dX6_isDigit_13 : decode cX6_isDigit 13 = .ok (.goto 4, 3) := by decide +kernel
theorem dX6_isDigit_16 : decode cX6_isDigit 16 = .ok (.iconst 0, 1) := by decide +kernel
theorem dX6_isDigit_17 : decode cX6_isDigit 17 = .ok (.ireturn, 1) := by decide +kernel
theorem dX6_isLetter_0 : decode cX6_isLetter 0 = .ok (.iload_n 0, 1) := by decide +kernel
theorem dX6_isLetter_1 : decode cX6_isLetter 1 = .ok (.bipush 97, 2) := by decide +kernel
theorem dX6_isLetter_3 : decode cX6_isLetter 3 = .ok (.if_icmp .lt 13, 3) := by decide +kernel
theorem dX6_isLetter_6 : decode cX6_isLetter 6 = .ok (.iload_n 0, 1) := by decide +kernel
theorem dX6_isLetter_7 : decode cX6_isLetter 7 = .ok (.bipush 122, 2) := by decide +kernel
theorem dX6_isLetter_9 : decode cX6_isLetter 9 = .ok (.if_icmp .gt 7, 3) := by decide +kernel
theorem dX6_isLetter_12 : decode cX6_isLetter 12 = .ok (.iconst 1, 1) := by decide +kernel
theorem dX6_isLetter_13 : decode cX6_isLetter 13 = .ok (.goto 4, 3) := by decide +kernel
theorem dX6_isLetter_16 : decode cX6_isLetter 16 = .ok (.iconst 0, 1) := by decide +kernel
theorem dX6_isLetter_17 : decode cX6_isLetter 17 = .ok (.ireturn, 1) := by decide +kernel
theorem dX6_isSign_0 : decode cX6_isSign 0 = .ok (.iload_n 0, 1) := by decide +kernel
theorem dX6_isSign_1 : decode cX6_isSign 1 = .ok (.bipush 59, 2) := by decide +kernel
theorem dX6_isSign_3 : decode cX6_isSign 3 = .ok (.if_icmp .eq 22, 3) := by decide +kernel
theorem dX6_isSign_6 : decode cX6_isSign 6 = .ok (.iload_n 0, 1) := by decide +kernel
theorem dX6_isSign_7 : decode cX6_isSign 7 = .ok (.bipush 40, 2) := by decide +kernel
theorem dX6_isSign_9 : decode cX6_isSign 9 = .ok (.if_icmp .eq 16, 3) := by decide +kernel
theorem dX6_isSign_12 : decode cX6_isSign 12 = .ok (.iload_n 0, 1) := by decide +kernel
theorem dX6_isSign_13 : decode cX6_isSign 13 = .ok (.bipush 41, 2) := by decide +kernel
theorem dX6_isSign_15 : decode cX6_isSign 15 = .ok (.if_icmp .eq 10, 3) := by decide +kernel
theorem dX6_isSign_18 : decode cX6_isSign 18 = .ok (.iload_n 0, 1) := by decide +kernel
theorem dX6_isSign_19 : decode cX6_isSign 19 = .ok (.invokestatic 57, 3) := by decide +kernel
theorem dX6_isSign_22 : decode cX6_isSign 22 = .ok (.ifCond .lt 7, 3) := by decide +kernel
theorem dX6_isSign_25 : decode cX6_isSign 25 = .ok (.iconst 1, 1) := by decide +kernel
theorem dX6_isSign_26 : decode cX6_isSign 26 = .ok (.goto 4, 3) := by decide +kernel
theorem dX6_isSign_29 : decode cX6_isSign 29 = .ok (.iconst 0, 1) := by decide +kernel
theorem dX6_isSign_30 : decode cX6_isSign 30 = .ok (.ireturn, 1) := by decide +kernel
theorem dX6_isSpelled_0 : decode cX6_isSpelled 0 = .ok (.iconst 0, 1) := by decide +kernel
theorem dX6_isSpelled_1 : decode cX6_isSpelled 1 = .ok (.istore 4, 2) := by decide +kernel
theorem dX6_isSpelled_3 : decode cX6_isSpelled 3 = .ok (.iload 4, 2) := by decide +kernel
theorem dX6_isSpelled_5 : decode cX6_isSpelled 5 = .ok (.bipush 8, 2) := by decide +kernel
theorem dX6_isSpelled_7 : decode cX6_isSpelled 7 = .ok (.if_icmp .ge 52, 3) := by decide +kernel
theorem dX6_isSpelled_10 : decode cX6_isSpelled 10 = .ok (.iload_n 3, 1) := by decide +kernel
theorem dX6_isSpelled_11 : decode cX6_isSpelled 11 = .ok (.iload 4, 2) := by decide +kernel
theorem dX6_isSpelled_13 : decode cX6_isSpelled 13 = .ok (.iadd, 1) := by decide +kernel
theorem dX6_isSpelled_14 : decode cX6_isSpelled 14 = .ok (.aload_n 0, 1) := by decide +kernel
theorem dX6_isSpelled_15 : decode cX6_isSpelled 15 = .ok (.getfield 26, 3) := by decide +kernel
theorem dX6_isSpelled_18 : decode cX6_isSpelled 18 = .ok (.if_icmp .ge 12, 3) := by decide +kernel
theorem dX6_isSpelled_21 : decode cX6_isSpelled 21 = .ok (.aload_n 2, 1) := by decide +kernel
theorem dX6_isSpelled_22 : decode cX6_isSpelled 22 = .ok (.iload_n 3, 1) := by decide +kernel
theorem dX6_isSpelled_23 : decode cX6_isSpelled 23 = .ok (.iload 4, 2) := by decide +kernel
theorem dX6_isSpelled_25 : decode cX6_isSpelled 25 = .ok (.iadd, 1) := by decide +kernel
theorem dX6_isSpelled_26 : decode cX6_isSpelled 26 = .ok (.baload, 1) := by decide +kernel
theorem dX6_isSpelled_27 : decode cX6_isSpelled 27 = .ok (.goto 5, 3) := by decide +kernel
theorem dX6_isSpelled_30 : decode cX6_isSpelled 30 = .ok (.bipush 32, 2) := by decide +kernel
theorem dX6_isSpelled_32 : decode cX6_isSpelled 32 = .ok (.istore 5, 2) := by decide +kernel
theorem dX6_isSpelled_34 : decode cX6_isSpelled 34 = .ok (.iload 5, 2) := by decide +kernel
theorem dX6_isSpelled_36 : decode cX6_isSpelled 36 = .ok (.ldc 69, 2) := by decide +kernel
theorem dX6_isSpelled_38 : decode cX6_isSpelled 38 = .ok (.iload_n 1, 1) := by decide +kernel
theorem dX6_isSpelled_39 : decode cX6_isSpelled 39 = .ok (.bipush 8, 2) := by decide +kernel
theorem dX6_isSpelled_41 : decode cX6_isSpelled 41 = .ok (.imul, 1) := by decide +kernel
theorem dX6_isSpelled_42 : decode cX6_isSpelled 42 = .ok (.iload 4, 2) := by decide +kernel
theorem dX6_isSpelled_44 : decode cX6_isSpelled 44 = .ok (.iadd, 1) := by decide +kernel
theorem dX6_isSpelled_45 : decode cX6_isSpelled 45 = .ok (.invokevirtual 71, 3) := by decide +kernel
theorem dX6_isSpelled_48 : decode cX6_isSpelled 48 = .ok (.if_icmp .eq 5, 3) := by decide +kernel
theorem dX6_isSpelled_51 : decode cX6_isSpelled 51 = .ok (.iconst 0, 1) := by decide +kernel
theorem dX6_isSpelled_52 : decode cX6_isSpelled 52 = .ok (.ireturn, 1) := by decide +kernel
theorem dX6_isSpelled_53 : decode cX6_isSpelled 53 = .ok (.iinc 4 1, 3) := by decide +kernel
theorem dX6_isSpelled_56 : decode cX6_isSpelled 56 = .ok (.goto (-53), 3) := by decide +kernel
theorem dX6_isSpelled_59 : decode cX6_isSpelled 59 = .ok (.iconst 1, 1) := by decide +kernel
theorem dX6_isSpelled_60 : decode cX6_isSpelled 60 = .ok (.ireturn, 1) := by decide +kernel
theorem dX6_scan_0 : decode cX6_scan 0 = .ok (.aload_n 0, 1) := by decide +kernel
theorem dX6_scan_1 : decode cX6_scan 1 = .ok (.iconst 0, 1) := by decide +kernel
theorem dX6_scan_2 : decode cX6_scan 2 = .ok (.putfield 22, 3) := by decide +kernel
theorem dX6_scan_5 : decode cX6_scan 5 = .ok (.aload_n 0, 1) := by decide +kernel
theorem dX6_scan_6 : decode cX6_scan 6 = .ok (.iconst 0, 1) := by decide +kernel
theorem dX6_scan_7 : decode cX6_scan 7 = .ok (.putfield 26, 3) := by decide +kernel
theorem dX6_scan_10 : decode cX6_scan 10 = .ok (.iconst 3, 1) := by decide +kernel
theorem dX6_scan_11 : decode cX6_scan 11 = .ok (.istore_n 3, 1) := by decide +kernel
theorem dX6_scan_12 : decode cX6_scan 12 = .ok (.iconst 0, 1) := by decide +kernel
theorem dX6_scan_13 : decode cX6_scan 13 = .ok (.istore 4, 2) := by decide +kernel
theorem dX6_scan_15 : decode cX6_scan 15 = .ok (.iload 4, 2) := by decide +kernel
theorem dX6_scan_17 : decode cX6_scan 17 = .ok (.sipush 1600, 3) := by decide +kernel
theorem dX6_scan_20 : decode cX6_scan 20 = .ok (.if_icmp .gt 46, 3) := by decide +kernel
theorem dX6_scan_23 : decode cX6_scan 23 = .ok (.iload_n 3, 1) := by decide +kernel
theorem dX6_scan_24 : decode cX6_scan 24 = .ok (.iconst 1, 1) := by decide +kernel
theorem dX6_scan_25 : decode cX6_scan 25 = .ok (.if_icmp .eq 41, 3) := by decide +kernel
theorem dX6_scan_28 : decode cX6_scan 28 = .ok (.iload_n 3, 1) := by decide +kernel
theorem dX6_scan_29 : decode cX6_scan 29 = .ok (.ifCond .eq 37, 3) := by decide +kernel
theorem dX6_scan_32 : decode cX6_scan 32 = .ok (.aload_n 0, 1) := by decide +kernel
theorem dX6_scan_33 : decode cX6_scan 33 = .ok (.aload_n 1, 1) := by decide +kernel
theorem dX6_scan_34 : decode cX6_scan 34 = .ok (.iload_n 2, 1) := by decide +kernel
theorem dX6_scan_35 : decode cX6_scan 35 = .ok (.aload_n 1, 1) := by decide +kernel
theorem dX6_scan_36 : decode cX6_scan 36 = .ok (.arraylength, 1) := by decide +kernel
theorem dX6_scan_37 : decode cX6_scan 37 = .ok (.invokestatic 31, 3) := by decide +kernel
theorem dX6_scan_40 : decode cX6_scan 40 = .ok (.invokevirtual 37, 3) := by decide +kernel
theorem dX6_scan_43 : decode cX6_scan 43 = .ok (.istore_n 3, 1) := by decide +kernel
theorem dX6_scan_44 : decode cX6_scan 44 = .ok (.aload_n 0, 1) := by decide +kernel
theorem dX6_scan_45 : decode cX6_scan 45 = .ok (.getfield 9, 3) := by decide +kernel
theorem dX6_scan_48 : decode cX6_scan 48 = .ok (.iload 4, 2) := by decide +kernel
theorem dX6_scan_50 : decode cX6_scan 50 = .ok (.iload_n 3, 1) := by decide +kernel
theorem dX6_scan_51 : decode cX6_scan 51 = .ok (.iastore, 1) := by decide +kernel
theorem dX6_scan_52 : decode cX6_scan 52 = .ok (.aload_n 0, 1) := by decide +kernel
theorem dX6_scan_53 : decode cX6_scan 53 = .ok (.iload 4, 2) := by decide +kernel
theorem dX6_scan_55 : decode cX6_scan 55 = .ok (.iconst 1, 1) := by decide +kernel
theorem dX6_scan_56 : decode cX6_scan 56 = .ok (.iadd, 1) := by decide +kernel
theorem dX6_scan_57 : decode cX6_scan 57 = .ok (.putfield 22, 3) := by decide +kernel
theorem dX6_scan_60 : decode cX6_scan 60 = .ok (.iinc 4 1, 3) := by decide +kernel
theorem dX6_scan_63 : decode cX6_scan 63 = .ok (.goto (-48), 3) := by decide +kernel
theorem dX6_scan_66 : decode cX6_scan 66 = .ok (.return_, 1) := by decide +kernel
theorem dX6_scanNumber_0 : decode cX6_scanNumber 0 = .ok (.aload_n 0, 1) := by decide +kernel
theorem dX6_scanNumber_1 : decode cX6_scanNumber 1 = .ok (.getfield 26, 3) := by decide +kernel
theorem dX6_scanNumber_4 : decode cX6_scanNumber 4 = .ok (.istore_n 3, 1) := by decide +kernel
theorem dX6_scanNumber_5 : decode cX6_scanNumber 5 = .ok (.iconst 0, 1) := by decide +kernel
theorem dX6_scanNumber_6 : decode cX6_scanNumber 6 = .ok (.istore 4, 2) := by decide +kernel
theorem dX6_scanNumber_8 : decode cX6_scanNumber 8 = .ok (.iconst 0, 1) := by decide +kernel
theorem dX6_scanNumber_9 : decode cX6_scanNumber 9 = .ok (.istore 5, 2) := by decide +kernel
theorem dX6_scanNumber_11 : decode cX6_scanNumber 11 = .ok (.iload 5, 2) := by decide +kernel
theorem dX6_scanNumber_13 : decode cX6_scanNumber 13 = .ok (.sipush 1600, 3) := by decide +kernel
theorem dX6_scanNumber_16 : decode cX6_scanNumber 16 = .ok (.if_icmp .ge 56, 3) := by decide +kernel
theorem dX6_scanNumber_19 : decode cX6_scanNumber 19 = .ok (.aload_n 0, 1) := by decide +kernel
theorem dX6_scanNumber_20 : decode cX6_scanNumber 20 = .ok (.getfield 26, 3) := by decide +kernel
theorem dX6_scanNumber_23 : decode cX6_scanNumber 23 = .ok (.iload_n 2, 1) := by decide +kernel
theorem dX6_scanNumber_24 : decode cX6_scanNumber 24 = .ok (.if_icmp .ge 48, 3) := by decide +kernel
theorem dX6_scanNumber_27 : decode cX6_scanNumber 27 = .ok (.aload_n 1, 1) := by decide +kernel
theorem dX6_scanNumber_28 : decode cX6_scanNumber 28 = .ok (.aload_n 0, 1) := by decide +kernel
theorem dX6_scanNumber_29 : decode cX6_scanNumber 29 = .ok (.getfield 26, 3) := by decide +kernel
theorem dX6_scanNumber_32 : decode cX6_scanNumber 32 = .ok (.baload, 1) := by decide +kernel
theorem dX6_scanNumber_33 : decode cX6_scanNumber 33 = .ok (.invokestatic 48, 3) := by decide +kernel
theorem dX6_scanNumber_36 : decode cX6_scanNumber 36 = .ok (.ifCond .eq 36, 3) := by decide +kernel
theorem dX6_scanNumber_39 : decode cX6_scanNumber 39 = .ok (.iload 4, 2) := by decide +kernel
theorem dX6_scanNumber_41 : decode cX6_scanNumber 41 = .ok (.bipush 10, 2) := by decide +kernel
theorem dX6_scanNumber_43 : decode cX6_scanNumber 43 = .ok (.imul, 1) := by decide +kernel
theorem dX6_scanNumber_44 : decode cX6_scanNumber 44 = .ok (.aload_n 1, 1) := by decide +kernel
theorem dX6_scanNumber_45 : decode cX6_scanNumber 45 = .ok (.aload_n 0, 1) := by decide +kernel
theorem dX6_scanNumber_46 : decode cX6_scanNumber 46 = .ok (.getfield 26, 3) := by decide +kernel
theorem dX6_scanNumber_49 : decode cX6_scanNumber 49 = .ok (.baload, 1) := by decide +kernel
theorem dX6_scanNumber_50 : decode cX6_scanNumber 50 = .ok (.iadd, 1) := by decide +kernel
theorem dX6_scanNumber_51 : decode cX6_scanNumber 51 = .ok (.bipush 48, 2) := by decide +kernel
theorem dX6_scanNumber_53 : decode cX6_scanNumber 53 = .ok (.isub, 1) := by decide +kernel
theorem dX6_scanNumber_54 : decode cX6_scanNumber 54 = .ok (.istore 4, 2) := by decide +kernel
theorem dX6_scanNumber_56 : decode cX6_scanNumber 56 = .ok (.aload_n 0, 1) := by decide +kernel
theorem dX6_scanNumber_57 : decode cX6_scanNumber 57 = .ok (.dup, 1) := by decide +kernel
theorem dX6_scanNumber_58 : decode cX6_scanNumber 58 = .ok (.getfield 26, 3) := by decide +kernel
theorem dX6_scanNumber_61 : decode cX6_scanNumber 61 = .ok (.iconst 1, 1) := by decide +kernel
theorem dX6_scanNumber_62 : decode cX6_scanNumber 62 = .ok (.iadd, 1) := by decide +kernel
theorem dX6_scanNumber_63 : decode cX6_scanNumber 63 = .ok (.putfield 26, 3) := by decide +kernel
theorem dX6_scanNumber_66 : decode cX6_scanNumber 66 = .ok (.iinc 5 1, 3) := by decide +kernel
theorem dX6_scanNumber_69 : decode cX6_scanNumber 69 = .ok (.goto (-58), 3) := by decide +kernel
theorem dX6_scanNumber_72 : decode cX6_scanNumber 72 = .ok (.aload_n 0, 1) := by decide +kernel
theorem dX6_scanNumber_73 : decode cX6_scanNumber 73 = .ok (.getfield 18, 3) := by decide +kernel
theorem dX6_scanNumber_76 : decode cX6_scanNumber 76 = .ok (.aload_n 0, 1) := by decide +kernel
theorem dX6_scanNumber_77 : decode cX6_scanNumber 77 = .ok (.getfield 22, 3) := by decide +kernel
theorem dX6_scanNumber_80 : decode cX6_scanNumber 80 = .ok (.iload 4, 2) := by decide +kernel
theorem dX6_scanNumber_82 : decode cX6_scanNumber 82 = .ok (.i2l, 1) := by decide +kernel
theorem dX6_scanNumber_83 : decode cX6_scanNumber 83 = .ok (.lastore, 1) := by decide +kernel
theorem dX6_scanNumber_84 : decode cX6_scanNumber 84 = .ok (.aload_n 0, 1) := by decide +kernel
theorem dX6_scanNumber_85 : decode cX6_scanNumber 85 = .ok (.getfield 26, 3) := by decide +kernel
theorem dX6_scanNumber_88 : decode cX6_scanNumber 88 = .ok (.iload_n 3, 1) := by decide +kernel
theorem dX6_scanNumber_89 : decode cX6_scanNumber 89 = .ok (.isub, 1) := by decide +kernel
theorem dX6_scanNumber_90 : decode cX6_scanNumber 90 = .ok (.iconst 4, 1) := by decide +kernel
theorem dX6_scanNumber_91 : decode cX6_scanNumber 91 = .ok (.if_icmp .gt 23, 3) := by decide +kernel
theorem dX6_scanNumber_94 : decode cX6_scanNumber 94 = .ok (.aload_n 0, 1) := by decide +kernel
theorem dX6_scanNumber_95 : decode cX6_scanNumber 95 = .ok (.getfield 26, 3) := by decide +kernel
theorem dX6_scanNumber_98 : decode cX6_scanNumber 98 = .ok (.iload_n 2, 1) := by decide +kernel
theorem dX6_scanNumber_99 : decode cX6_scanNumber 99 = .ok (.if_icmp .ge 19, 3) := by decide +kernel
theorem dX6_scanNumber_102 : decode cX6_scanNumber 102 = .ok (.aload_n 1, 1) := by decide +kernel
theorem dX6_scanNumber_103 : decode cX6_scanNumber 103 = .ok (.aload_n 0, 1) := by decide +kernel
theorem dX6_scanNumber_104 : decode cX6_scanNumber 104 = .ok (.getfield 26, 3) := by decide +kernel
theorem dX6_scanNumber_107 : decode cX6_scanNumber 107 = .ok (.baload, 1) := by decide +kernel
theorem dX6_scanNumber_108 : decode cX6_scanNumber 108 = .ok (.invokestatic 41, 3) := by decide +kernel
theorem dX6_scanNumber_111 : decode cX6_scanNumber 111 = .ok (.ifCond .eq 7, 3) := by decide +kernel
theorem dX6_scanNumber_114 : decode cX6_scanNumber 114 = .ok (.iconst 1, 1) := by decide +kernel
theorem dX6_scanNumber_115 : decode cX6_scanNumber 115 = .ok (.goto 4, 3) := by decide +kernel
theorem dX6_scanNumber_118 : decode cX6_scanNumber 118 = .ok (.iconst 0, 1) := by decide +kernel
theorem dX6_scanNumber_119 : decode cX6_scanNumber 119 = .ok (.istore 5, 2) := by decide +kernel
theorem dX6_scanNumber_121 : decode cX6_scanNumber 121 = .ok (.iload 5, 2) := by decide +kernel
theorem dX6_scanNumber_123 : decode cX6_scanNumber 123 = .ok (.ifCond .eq 7, 3) := by decide +kernel
theorem dX6_scanNumber_126 : decode cX6_scanNumber 126 = .ok (.iconst 0, 1) := by decide +kernel
theorem dX6_scanNumber_127 : decode cX6_scanNumber 127 = .ok (.goto 4, 3) := by decide +kernel
theorem dX6_scanNumber_130 : decode cX6_scanNumber 130 = .ok (.iconst 2, 1) := by decide +kernel
theorem dX6_scanNumber_131 : decode cX6_scanNumber 131 = .ok (.ireturn, 1) := by decide +kernel
theorem dX6_scanToken_0 : decode cX6_scanToken 0 = .ok (.iconst 0, 1) := by decide +kernel
theorem dX6_scanToken_1 : decode cX6_scanToken 1 = .ok (.istore_n 3, 1) := by decide +kernel
theorem dX6_scanToken_2 : decode cX6_scanToken 2 = .ok (.iload_n 3, 1) := by decide +kernel
theorem dX6_scanToken_3 : decode cX6_scanToken 3 = .ok (.sipush 1600, 3) := by decide +kernel
theorem dX6_scanToken_6 : decode cX6_scanToken 6 = .ok (.if_icmp .ge 49, 3) := by decide +kernel
theorem dX6_scanToken_9 : decode cX6_scanToken 9 = .ok (.aload_n 0, 1) := by decide +kernel
theorem dX6_scanToken_10 : decode cX6_scanToken 10 = .ok (.getfield 26, 3) := by decide +kernel
theorem dX6_scanToken_13 : decode cX6_scanToken 13 = .ok (.iload_n 2, 1) := by decide +kernel
theorem dX6_scanToken_14 : decode cX6_scanToken 14 = .ok (.if_icmp .ge 41, 3) := by decide +kernel
theorem dX6_scanToken_17 : decode cX6_scanToken 17 = .ok (.aload_n 1, 1) := by decide +kernel
theorem dX6_scanToken_18 : decode cX6_scanToken 18 = .ok (.aload_n 0, 1) := by decide +kernel
theorem dX6_scanToken_19 : decode cX6_scanToken 19 = .ok (.getfield 26, 3) := by decide +kernel
theorem dX6_scanToken_22 : decode cX6_scanToken 22 = .ok (.baload, 1) := by decide +kernel
theorem dX6_scanToken_23 : decode cX6_scanToken 23 = .ok (.bipush 32, 2) := by decide +kernel
theorem dX6_scanToken_25 : decode cX6_scanToken 25 = .ok (.if_icmp .eq 14, 3) := by decide +kernel
theorem dX6_scanToken_28 : decode cX6_scanToken 28 = .ok (.aload_n 1, 1) := by decide +kernel
theorem dX6_scanToken_29 : decode cX6_scanToken 29 = .ok (.aload_n 0, 1) := by decide +kernel
theorem dX6_scanToken_30 : decode cX6_scanToken 30 = .ok (.getfield 26, 3) := by decide +kernel
theorem dX6_scanToken_33 : decode cX6_scanToken 33 = .ok (.baload, 1) := by decide +kernel
theorem dX6_scanToken_34 : decode cX6_scanToken 34 = .ok (.bipush 10, 2) := by decide +kernel
theorem dX6_scanToken_36 : decode cX6_scanToken 36 = .ok (.if_icmp .ne 19, 3) := by decide +kernel
theorem dX6_scanToken_39 : decode cX6_scanToken 39 = .ok (.aload_n 0, 1) := by decide +kernel
theorem dX6_scanToken_40 : decode cX6_scanToken 40 = .ok (.dup, 1) := by decide +kernel
theorem dX6_scanToken_41 : decode cX6_scanToken 41 = .ok (.getfield 26, 3) := by decide +kernel
theorem dX6_scanToken_44 : decode cX6_scanToken 44 = .ok (.iconst 1, 1) := by decide +kernel
theorem dX6_scanToken_45 : decode cX6_scanToken 45 = .ok (.iadd, 1) := by decide +kernel
theorem dX6_scanToken_46 : decode cX6_scanToken 46 = .ok (.putfield 26, 3) := by decide +kernel
theorem dX6_scanToken_49 : decode cX6_scanToken 49 = .ok (.iinc 3 1, 3) := by decide +kernel
theorem dX6_scanToken_52 : decode cX6_scanToken 52 = .ok (.goto (-50), 3) := by decide +kernel
theorem dX6_scanToken_55 : decode cX6_scanToken 55 = .ok (.aload_n 0, 1) := by decide +kernel
theorem dX6_scanToken_56 : decode cX6_scanToken 56 = .ok (.getfield 15, 3) := by decide +kernel
theorem dX6_scanToken_59 : decode cX6_scanToken 59 = .ok (.aload_n 0, 1) := by decide +kernel
theorem dX6_scanToken_60 : decode cX6_scanToken 60 = .ok (.getfield 22, 3) := by decide +kernel
theorem dX6_scanToken_63 : decode cX6_scanToken 63 = .ok (.aload_n 0, 1) := by decide +kernel
theorem dX6_scanToken_64 : decode cX6_scanToken 64 = .ok (.getfield 26, 3) := by decide +kernel
theorem dX6_scanToken_67 : decode cX6_scanToken 67 = .ok (.iastore, 1) := by decide +kernel
theorem dX6_scanToken_68 : decode cX6_scanToken 68 = .ok (.aload_n 0, 1) := by decide +kernel
theorem dX6_scanToken_69 : decode cX6_scanToken 69 = .ok (.getfield 26, 3) := by decide +kernel
theorem dX6_scanToken_72 : decode cX6_scanToken 72 = .ok (.iload_n 2, 1) := by decide +kernel
theorem dX6_scanToken_73 : decode cX6_scanToken 73 = .ok (.if_icmp .lt 5, 3) := by decide +kernel
theorem dX6_scanToken_76 : decode cX6_scanToken 76 = .ok (.iconst 1, 1) := by decide +kernel
theorem dX6_scanToken_77 : decode cX6_scanToken 77 = .ok (.ireturn, 1) := by decide +kernel
theorem dX6_scanToken_78 : decode cX6_scanToken 78 = .ok (.aload_n 1, 1) := by decide +kernel
theorem dX6_scanToken_79 : decode cX6_scanToken 79 = .ok (.aload_n 0, 1) := by decide +kernel
theorem dX6_scanToken_80 : decode cX6_scanToken 80 = .ok (.getfield 26, 3) := by decide +kernel
theorem dX6_scanToken_83 : decode cX6_scanToken 83 = .ok (.baload, 1) := by decide +kernel
theorem dX6_scanToken_84 : decode cX6_scanToken 84 = .ok (.istore_n 3, 1) := by decide +kernel
theorem dX6_scanToken_85 : decode cX6_scanToken 85 = .ok (.iload_n 3, 1) := by decide +kernel
theorem dX6_scanToken_86 : decode cX6_scanToken 86 = .ok (.invokestatic 41, 3) := by decide +kernel
theorem dX6_scanToken_89 : decode cX6_scanToken 89 = .ok (.ifCond .eq 10, 3) := by decide +kernel
theorem dX6_scanToken_92 : decode cX6_scanToken 92 = .ok (.aload_n 0, 1) := by decide +kernel
theorem dX6_scanToken_93 : decode cX6_scanToken 93 = .ok (.aload_n 1, 1) := by decide +kernel
theorem dX6_scanToken_94 : decode cX6_scanToken 94 = .ok (.iload_n 2, 1) := by decide +kernel
theorem dX6_scanToken_95 : decode cX6_scanToken 95 = .ok (.invokevirtual 45, 3) := by decide +kernel
theorem dX6_scanToken_98 : decode cX6_scanToken 98 = .ok (.ireturn, 1) := by decide +kernel
theorem dX6_scanToken_99 : decode cX6_scanToken 99 = .ok (.iload_n 3, 1) := by decide +kernel
theorem dX6_scanToken_100 : decode cX6_scanToken 100 = .ok (.invokestatic 48, 3) := by decide +kernel
theorem dX6_scanToken_103 : decode cX6_scanToken 103 = .ok (.ifCond .eq 10, 3) := by decide +kernel
theorem dX6_scanToken_106 : decode cX6_scanToken 106 = .ok (.aload_n 0, 1) := by decide +kernel
theorem dX6_scanToken_107 : decode cX6_scanToken 107 = .ok (.aload_n 1, 1) := by decide +kernel
theorem dX6_scanToken_108 : decode cX6_scanToken 108 = .ok (.iload_n 2, 1) := by decide +kernel
theorem dX6_scanToken_109 : decode cX6_scanToken 109 = .ok (.invokevirtual 51, 3) := by decide +kernel
theorem dX6_scanToken_112 : decode cX6_scanToken 112 = .ok (.ireturn, 1) := by decide +kernel
theorem dX6_scanToken_113 : decode cX6_scanToken 113 = .ok (.aload_n 0, 1) := by decide +kernel
theorem dX6_scanToken_114 : decode cX6_scanToken 114 = .ok (.dup, 1) := by decide +kernel
theorem dX6_scanToken_115 : decode cX6_scanToken 115 = .ok (.getfield 26, 3) := by decide +kernel
theorem dX6_scanToken_118 : decode cX6_scanToken 118 = .ok (.iconst 1, 1) := by decide +kernel
theorem dX6_scanToken_119 : decode cX6_scanToken 119 = .ok (.iadd, 1) := by decide +kernel
theorem dX6_scanToken_120 : decode cX6_scanToken 120 = .ok (.putfield 26, 3) := by decide +kernel
theorem dX6_scanToken_123 : decode cX6_scanToken 123 = .ok (.iload_n 3, 1) := by decide +kernel
theorem dX6_scanToken_124 : decode cX6_scanToken 124 = .ok (.invokestatic 54, 3) := by decide +kernel
theorem dX6_scanToken_127 : decode cX6_scanToken 127 = .ok (.ifCond .eq 7, 3) := by decide +kernel
theorem dX6_scanToken_130 : decode cX6_scanToken 130 = .ok (.iload_n 3, 1) := by decide +kernel
theorem dX6_scanToken_131 : decode cX6_scanToken 131 = .ok (.goto 4, 3) := by decide +kernel
theorem dX6_scanToken_134 : decode cX6_scanToken 134 = .ok (.iconst 0, 1) := by decide +kernel
theorem dX6_scanToken_135 : decode cX6_scanToken 135 = .ok (.ireturn, 1) := by decide +kernel
theorem dX6_scanWord_0 : decode cX6_scanWord 0 = .ok (.aload_n 0, 1) := by decide +kernel
theorem dX6_scanWord_1 : decode cX6_scanWord 1 = .ok (.getfield 26, 3) := by decide +kernel
theorem dX6_scanWord_4 : decode cX6_scanWord 4 = .ok (.istore_n 3, 1) := by decide +kernel
theorem dX6_scanWord_5 : decode cX6_scanWord 5 = .ok (.lconst 0, 1) := by decide +kernel
theorem dX6_scanWord_6 : decode cX6_scanWord 6 = .ok (.lstore 4, 2) := by decide +kernel
theorem dX6_scanWord_8 : decode cX6_scanWord 8 = .ok (.iconst 0, 1) := by decide +kernel
theorem dX6_scanWord_9 : decode cX6_scanWord 9 = .ok (.istore 6, 2) := by decide +kernel
theorem dX6_scanWord_11 : decode cX6_scanWord 11 = .ok (.iload 6, 2) := by decide +kernel
theorem dX6_scanWord_13 : decode cX6_scanWord 13 = .ok (.sipush 1600, 3) := by decide +kernel
theorem dX6_scanWord_16 : decode cX6_scanWord 16 = .ok (.if_icmp .ge 61, 3) := by decide +kernel
theorem dX6_scanWord_19 : decode cX6_scanWord 19 = .ok (.aload_n 0, 1) := by decide +kernel
theorem dX6_scanWord_20 : decode cX6_scanWord 20 = .ok (.getfield 26, 3) := by decide +kernel
theorem dX6_scanWord_23 : decode cX6_scanWord 23 = .ok (.iload_n 2, 1) := by decide +kernel
theorem dX6_scanWord_24 : decode cX6_scanWord 24 = .ok (.if_icmp .ge 53, 3) := by decide +kernel
theorem dX6_scanWord_27 : decode cX6_scanWord 27 = .ok (.aload_n 1, 1) := by decide +kernel
theorem dX6_scanWord_28 : decode cX6_scanWord 28 = .ok (.aload_n 0, 1) := by decide +kernel
theorem dX6_scanWord_29 : decode cX6_scanWord 29 = .ok (.getfield 26, 3) := by decide +kernel
theorem dX6_scanWord_32 : decode cX6_scanWord 32 = .ok (.baload, 1) := by decide +kernel
theorem dX6_scanWord_33 : decode cX6_scanWord 33 = .ok (.invokestatic 41, 3) := by decide +kernel
theorem dX6_scanWord_36 : decode cX6_scanWord 36 = .ok (.ifCond .eq 41, 3) := by decide +kernel
theorem dX6_scanWord_39 : decode cX6_scanWord 39 = .ok (.lload 4, 2) := by decide +kernel
theorem dX6_scanWord_41 : decode cX6_scanWord 41 = .ok (.ldc2_w 61, 3) := by decide +kernel
theorem dX6_scanWord_44 : decode cX6_scanWord 44 = .ok (.lmul, 1) := by decide +kernel
theorem dX6_scanWord_45 : decode cX6_scanWord 45 = .ok (.aload_n 1, 1) := by decide +kernel
theorem dX6_scanWord_46 : decode cX6_scanWord 46 = .ok (.aload_n 0, 1) := by decide +kernel
theorem dX6_scanWord_47 : decode cX6_scanWord 47 = .ok (.getfield 26, 3) := by decide +kernel
theorem dX6_scanWord_50 : decode cX6_scanWord 50 = .ok (.baload, 1) := by decide +kernel
theorem dX6_scanWord_51 : decode cX6_scanWord 51 = .ok (.i2l, 1) := by decide +kernel
theorem dX6_scanWord_52 : decode cX6_scanWord 52 = .ok (.ladd, 1) := by decide +kernel
theorem dX6_scanWord_53 : decode cX6_scanWord 53 = .ok (.ldc2_w 63, 3) := by decide +kernel
theorem dX6_scanWord_56 : decode cX6_scanWord 56 = .ok (.lsub, 1) := by decide +kernel
theorem dX6_scanWord_57 : decode cX6_scanWord 57 = .ok (.lconst 1, 1) := by decide +kernel
theorem dX6_scanWord_58 : decode cX6_scanWord 58 = .ok (.ladd, 1) := by decide +kernel

theorem dX8_round_101 : decode cX8_round 101 = .ok (.getfield 108, 3) := by decide +kernel
theorem dX8_round_104 : decode cX8_round 104 = .ok (.iconst 1, 1) := by decide +kernel
theorem dX8_round_105 : decode cX8_round 105 = .ok (.iadd, 1) := by decide +kernel
theorem dX8_round_106 : decode cX8_round 106 = .ok (.invokevirtual 244, 3) := by decide +kernel
theorem dX8_round_109 : decode cX8_round 109 = .ok (.aload_n 0, 1) := by decide +kernel
theorem dX8_round_110 : decode cX8_round 110 = .ok (.invokevirtual 247, 3) := by decide +kernel
theorem dX8_round_113 : decode cX8_round 113 = .ok (.istore 7, 2) := by decide +kernel
theorem dX8_round_115 : decode cX8_round 115 = .ok (.iload 7, 2) := by decide +kernel
theorem dX8_round_117 : decode cX8_round 117 = .ok (.ifCond .ge 7, 3) := by decide +kernel
theorem dX8_round_120 : decode cX8_round 120 = .ok (.iconst 0, 1) := by decide +kernel
theorem dX8_round_121 : decode cX8_round 121 = .ok (.goto 7, 3) := by decide +kernel
theorem dX8_round_124 : decode cX8_round 124 = .ok (.aload_n 0, 1) := by decide +kernel
theorem dX8_round_125 : decode cX8_round 125 = .ok (.invokevirtual 250, 3) := by decide +kernel
theorem dX8_round_128 : decode cX8_round 128 = .ok (.istore 8, 2) := by decide +kernel
theorem dX8_round_130 : decode cX8_round 130 = .ok (.iload 7, 2) := by decide +kernel
theorem dX8_round_132 : decode cX8_round 132 = .ok (.iload_n 3, 1) := by decide +kernel
theorem dX8_round_133 : decode cX8_round 133 = .ok (.if_icmp .gt 16, 3) := by decide +kernel
theorem dX8_round_136 : decode cX8_round 136 = .ok (.iload 7, 2) := by decide +kernel
theorem dX8_round_138 : decode cX8_round 138 = .ok (.iload_n 3, 1) := by decide +kernel
theorem dX8_round_139 : decode cX8_round 139 = .ok (.if_icmp .ne 21, 3) := by decide +kernel
theorem dX8_round_142 : decode cX8_round 142 = .ok (.iload 8, 2) := by decide +kernel
theorem dX8_round_144 : decode cX8_round 144 = .ok (.iload 4, 2) := by decide +kernel
theorem dX8_round_146 : decode cX8_round 146 = .ok (.if_icmp .le 14, 3) := by decide +kernel
theorem dX8_round_149 : decode cX8_round 149 = .ok (.iload 7, 2) := by decide +kernel
theorem dX8_round_151 : decode cX8_round 151 = .ok (.istore_n 3, 1) := by decide +kernel
theorem dX8_round_152 : decode cX8_round 152 = .ok (.iload 8, 2) := by decide +kernel
theorem dX8_round_154 : decode cX8_round 154 = .ok (.istore 4, 2) := by decide +kernel
theorem dX8_round_156 : decode cX8_round 156 = .ok (.aload_n 0, 1) := by decide +kernel
theorem dX8_round_157 : decode cX8_round 157 = .ok (.invokevirtual 253, 3) := by decide +kernel
theorem dX8_round_160 : decode cX8_round 160 = .ok (.iinc 6 1, 3) := by decide +kernel
theorem dX8_round_163 : decode cX8_round 163 = .ok (.goto (-76), 3) := by decide +kernel
theorem dX8_round_166 : decode cX8_round 166 = .ok (.iload_n 1, 1) := by decide +kernel
theorem dX8_round_167 : decode cX8_round 167 = .ok (.ifCond .ne 7, 3) := by decide +kernel
theorem dX8_round_170 : decode cX8_round 170 = .ok (.iload_n 3, 1) := by decide +kernel
theorem dX8_round_171 : decode cX8_round 171 = .ok (.goto 5, 3) := by decide +kernel
theorem dX8_round_174 : decode cX8_round 174 = .ok (.iload 4, 2) := by decide +kernel
theorem dX8_round_176 : decode cX8_round 176 = .ok (.ireturn, 1) := by decide +kernel
theorem dX8_roundCount_0 : decode cX8_roundCount 0 = .ok (.iconst 0, 1) := by decide +kernel
theorem dX8_roundCount_1 : decode cX8_roundCount 1 = .ok (.istore_n 1, 1) := by decide +kernel
theorem dX8_roundCount_2 : decode cX8_roundCount 2 = .ok (.iconst 0, 1) := by decide +kernel
theorem dX8_roundCount_3 : decode cX8_roundCount 3 = .ok (.istore_n 2, 1) := by decide +kernel
theorem dX8_roundCount_4 : decode cX8_roundCount 4 = .ok (.iload_n 2, 1) := by decide +kernel
theorem dX8_roundCount_5 : decode cX8_roundCount 5 = .ok (.aload_n 0, 1) := by decide +kernel
theorem dX8_roundCount_6 : decode cX8_roundCount 6 = .ok (.getfield 23, 3) := by decide +kernel
theorem dX8_roundCount_9 : decode cX8_roundCount 9 = .ok (.getfield 99, 3) := by decide +kernel
theorem dX8_roundCount_12 : decode cX8_roundCount 12 = .ok (.if_icmp .ge 66, 3) := by decide +kernel
theorem dX8_roundCount_15 : decode cX8_roundCount 15 = .ok (.aload_n 0, 1) := by decide +kernel
theorem dX8_roundCount_16 : decode cX8_roundCount 16 = .ok (.getfield 62, 3) := by decide +kernel
theorem dX8_roundCount_19 : decode cX8_roundCount 19 = .ok (.iload_n 2, 1) := by decide +kernel
theorem dX8_roundCount_20 : decode cX8_roundCount 20 = .ok (.iaload, 1) := by decide +kernel
theorem dX8_roundCount_21 : decode cX8_roundCount 21 = .ok (.istore_n 3, 1) := by decide +kernel
theorem dX8_roundCount_22 : decode cX8_roundCount 22 = .ok (.iload_n 3, 1) := by decide +kernel
theorem dX8_roundCount_23 : decode cX8_roundCount 23 = .ok (.aload_n 0, 1) := by decide +kernel
theorem dX8_roundCount_24 : decode cX8_roundCount 24 = .ok (.getfield 23, 3) := by decide +kernel
theorem dX8_roundCount_27 : decode cX8_roundCount 27 = .ok (.getfield 108, 3) := by decide +kernel
theorem dX8_roundCount_30 : decode cX8_roundCount 30 = .ok (.if_icmp .lt 13, 3) := by decide +kernel
theorem dX8_roundCount_33 : decode cX8_roundCount 33 = .ok (.aload_n 0, 1) := by decide +kernel
theorem dX8_roundCount_34 : decode cX8_roundCount 34 = .ok (.getfield 62, 3) := by decide +kernel
theorem dX8_roundCount_37 : decode cX8_roundCount 37 = .ok (.iload_n 2, 1) := by decide +kernel
theorem dX8_roundCount_38 : decode cX8_roundCount 38 = .ok (.iconst (-1), 1) := by decide +kernel
theorem dX8_roundCount_39 : decode cX8_roundCount 39 = .ok (.iastore, 1) := by decide +kernel
theorem dX8_roundCount_40 : decode cX8_roundCount 40 = .ok (.goto 32, 3) := by decide +kernel
theorem dX8_roundCount_43 : decode cX8_roundCount 43 = .ok (.iload_n 1, 1) := by decide +kernel
theorem dX8_roundCount_44 : decode cX8_roundCount 44 = .ok (.iload_n 3, 1) := by decide +kernel
theorem dX8_roundCount_45 : decode cX8_roundCount 45 = .ok (.invokestatic 256, 3) := by decide +kernel
theorem dX8_roundCount_48 : decode cX8_roundCount 48 = .ok (.ifCond .ne 16, 3) := by decide +kernel
theorem dX8_roundCount_51 : decode cX8_roundCount 51 = .ok (.aload_n 0, 1) := by decide +kernel
theorem dX8_roundCount_52 : decode cX8_roundCount 52 = .ok (.getfield 65, 3) := by decide +kernel
theorem dX8_roundCount_55 : decode cX8_roundCount 55 = .ok (.iload_n 2, 1) := by decide +kernel
theorem dX8_roundCount_56 : decode cX8_roundCount 56 = .ok (.iaload, 1) := by decide +kernel
theorem dX8_roundCount_57 : decode cX8_roundCount 57 = .ok (.iload_n 3, 1) := by decide +kernel
theorem dX8_roundCount_58 : decode cX8_roundCount 58 = .ok (.invokestatic 256, 3) := by decide +kernel
theorem dX8_roundCount_61 : decode cX8_roundCount 61 = .ok (.ifCond .ne 5, 3) := by decide +kernel
theorem dX8_roundCount_64 : decode cX8_roundCount 64 = .ok (.iconst (-1), 1) := by decide +kernel
theorem dX8_roundCount_65 : decode cX8_roundCount 65 = .ok (.ireturn, 1) := by decide +kernel
theorem dX8_roundCount_66 : decode cX8_roundCount 66 = .ok (.iload_n 1, 1) := by decide +kernel
theorem dX8_roundCount_67 : decode cX8_roundCount 67 = .ok (.iconst 1, 1) := by decide +kernel
theorem dX8_roundCount_68 : decode cX8_roundCount 68 = .ok (.iload_n 3, 1) := by decide +kernel
theorem dX8_roundCount_69 : decode cX8_roundCount 69 = .ok (.ishl, 1) := by decide +kernel
theorem dX8_roundCount_70 : decode cX8_roundCount 70 = .ok (.ior, 1) := by decide +kernel
theorem dX8_roundCount_71 : decode cX8_roundCount 71 = .ok (.istore_n 1, 1) := by decide +kernel
theorem dX8_roundCount_72 : decode cX8_roundCount 72 = .ok (.iinc 2 1, 3) := by decide +kernel
theorem dX8_roundCount_75 : decode cX8_roundCount 75 = .ok (.goto (-71), 3) := by decide +kernel
theorem dX8_roundCount_78 : decode cX8_roundCount 78 = .ok (.iload_n 1, 1) := by decide +kernel
theorem dX8_roundCount_79 : decode cX8_roundCount 79 = .ok (.invokestatic 232, 3) := by decide +kernel
theorem dX8_roundCount_82 : decode cX8_roundCount 82 = .ok (.ireturn, 1) := by decide +kernel
theorem dX8_roundPrice_0 : decode cX8_roundPrice 0 = .ok (.iconst 0, 1) := by decide +kernel
theorem dX8_roundPrice_1 : decode cX8_roundPrice 1 = .ok (.istore_n 1, 1) := by decide +kernel
theorem dX8_roundPrice_2 : decode cX8_roundPrice 2 = .ok (.iconst 0, 1) := by decide +kernel
theorem dX8_roundPrice_3 : decode cX8_roundPrice 3 = .ok (.istore_n 2, 1) := by decide +kernel
theorem dX8_roundPrice_4 : decode cX8_roundPrice 4 = .ok (.iload_n 2, 1) := by decide +kernel
theorem dX8_roundPrice_5 : decode cX8_roundPrice 5 = .ok (.aload_n 0, 1) := by decide +kernel
theorem dX8_roundPrice_6 : decode cX8_roundPrice 6 = .ok (.getfield 23, 3) := by decide +kernel
theorem dX8_roundPrice_9 : decode cX8_roundPrice 9 = .ok (.getfield 99, 3) := by decide +kernel
theorem dX8_roundPrice_12 : decode cX8_roundPrice 12 = .ok (.if_icmp .ge 39, 3) := by decide +kernel
theorem dX8_roundPrice_15 : decode cX8_roundPrice 15 = .ok (.aload_n 0, 1) := by decide +kernel
theorem dX8_roundPrice_16 : decode cX8_roundPrice 16 = .ok (.aload_n 0, 1) := by decide +kernel
theorem dX8_roundPrice_17 : decode cX8_roundPrice 17 = .ok (.getfield 62, 3) := by decide +kernel
theorem dX8_roundPrice_20 : decode cX8_roundPrice 20 = .ok (.iload_n 2, 1) := by decide +kernel
theorem dX8_roundPrice_21 : decode cX8_roundPrice 21 = .ok (.iaload, 1) := by decide +kernel
theorem dX8_roundPrice_22 : decode cX8_roundPrice 22 = .ok (.invokevirtual 111, 3) := by decide +kernel
theorem dX8_roundPrice_25 : decode cX8_roundPrice 25 = .ok (.ifCond .eq 20, 3) := by decide +kernel
theorem dX8_roundPrice_28 : decode cX8_roundPrice 28 = .ok (.iload_n 1, 1) := by decide +kernel
theorem dX8_roundPrice_29 : decode cX8_roundPrice 29 = .ok (.aload_n 0, 1) := by decide +kernel
theorem dX8_roundPrice_30 : decode cX8_roundPrice 30 = .ok (.getfield 23, 3) := by decide +kernel
theorem dX8_roundPrice_33 : decode cX8_roundPrice 33 = .ok (.getfield 115, 3) := by decide +kernel
theorem dX8_roundPrice_36 : decode cX8_roundPrice 36 = .ok (.aload_n 0, 1) := by decide +kernel
theorem dX8_roundPrice_37 : decode cX8_roundPrice 37 = .ok (.getfield 62, 3) := by decide +kernel
theorem dX8_roundPrice_40 : decode cX8_roundPrice 40 = .ok (.iload_n 2, 1) := by decide +kernel
theorem dX8_roundPrice_41 : decode cX8_roundPrice 41 = .ok (.iaload, 1) := by decide +kernel
theorem dX8_roundPrice_42 : decode cX8_roundPrice 42 = .ok (.iaload, 1) := by decide +kernel
theorem dX8_roundPrice_43 : decode cX8_roundPrice 43 = .ok (.iadd, 1) := by decide +kernel
theorem dX8_roundPrice_44 : decode cX8_roundPrice 44 = .ok (.istore_n 1, 1) := by decide +kernel
theorem dX8_roundPrice_45 : decode cX8_roundPrice 45 = .ok (.iinc 2 1, 3) := by decide +kernel
theorem dX8_roundPrice_48 : decode cX8_roundPrice 48 = .ok (.goto (-44), 3) := by decide +kernel
theorem dX8_roundPrice_51 : decode cX8_roundPrice 51 = .ok (.iload_n 1, 1) := by decide +kernel
theorem dX8_roundPrice_52 : decode cX8_roundPrice 52 = .ok (.ireturn, 1) := by decide +kernel
theorem dX8_rows_0 : decode cX8_rows 0 = .ok (.aload_n 0, 1) := by decide +kernel
theorem dX8_rows_1 : decode cX8_rows 1 = .ok (.getfield 55, 3) := by decide +kernel
theorem dX8_rows_4 : decode cX8_rows 4 = .ok (.aload_n 0, 1) := by decide +kernel
theorem dX8_rows_5 : decode cX8_rows 5 = .ok (.getfield 23, 3) := by decide +kernel
theorem dX8_rows_8 : decode cX8_rows 8 = .ok (.iload_n 1, 1) := by decide +kernel
theorem dX8_rows_9 : decode cX8_rows 9 = .ok (.invokevirtual 332, 3) := by decide +kernel
theorem dX8_rows_12 : decode cX8_rows 12 = .ok (.ireturn, 1) := by decide +kernel
theorem dX8_rowsOf_0 : decode cX8_rowsOf 0 = .ok (.iconst 1, 1) := by decide +kernel
theorem dX8_rowsOf_1 : decode cX8_rowsOf 1 = .ok (.istore_n 2, 1) := by decide +kernel
theorem dX8_rowsOf_2 : decode cX8_rowsOf 2 = .ok (.iconst 0, 1) := by decide +kernel
theorem dX8_rowsOf_3 : decode cX8_rowsOf 3 = .ok (.istore_n 3, 1) := by decide +kernel
theorem dX8_rowsOf_4 : decode cX8_rowsOf 4 = .ok (.iload_n 3, 1) := by decide +kernel
theorem dX8_rowsOf_5 : decode cX8_rowsOf 5 = .ok (.aload_n 0, 1) := by decide +kernel
theorem dX8_rowsOf_6 : decode cX8_rowsOf 6 = .ok (.getfield 23, 3) := by decide +kernel
theorem dX8_rowsOf_9 : decode cX8_rowsOf 9 = .ok (.getfield 99, 3) := by decide +kernel
theorem dX8_rowsOf_12 : decode cX8_rowsOf 12 = .ok (.if_icmp .ge 13, 3) := by decide +kernel
theorem dX8_rowsOf_15 : decode cX8_rowsOf 15 = .ok (.iload_n 2, 1) := by decide +kernel
theorem dX8_rowsOf_16 : decode cX8_rowsOf 16 = .ok (.iload_n 1, 1) := by decide +kernel
theorem dX8_rowsOf_17 : decode cX8_rowsOf 17 = .ok (.imul, 1) := by decide +kernel
theorem dX8_rowsOf_18 : decode cX8_rowsOf 18 = .ok (.istore_n 2, 1) := by decide +kernel
theorem dX8_rowsOf_19 : decode cX8_rowsOf 19 = .ok (.iinc 3 1, 3) := by decide +kernel
theorem dX8_rowsOf_22 : decode cX8_rowsOf 22 = .ok (.goto (-18), 3) := by decide +kernel
theorem dX8_rowsOf_25 : decode cX8_rowsOf 25 = .ok (.iload_n 2, 1) := by decide +kernel
theorem dX8_rowsOf_26 : decode cX8_rowsOf 26 = .ok (.ireturn, 1) := by decide +kernel
theorem dX8_sale_0 : decode cX8_sale 0 = .ok (.aload_n 0, 1) := by decide +kernel
theorem dX8_sale_1 : decode cX8_sale 1 = .ok (.iload_n 1, 1) := by decide +kernel
theorem dX8_sale_2 : decode cX8_sale 2 = .ok (.invokevirtual 138, 3) := by decide +kernel
theorem dX8_sale_5 : decode cX8_sale 5 = .ok (.ifCond .eq 12, 3) := by decide +kernel
theorem dX8_sale_8 : decode cX8_sale 8 = .ok (.iload_n 2, 1) := by decide +kernel
theorem dX8_sale_9 : decode cX8_sale 9 = .ok (.ifCond .lt 8, 3) := by decide +kernel
theorem dX8_sale_12 : decode cX8_sale 12 = .ok (.iload_n 2, 1) := by decide +kernel
theorem dX8_sale_13 : decode cX8_sale 13 = .ok (.iconst 1, 1) := by decide +kernel
theorem dX8_sale_14 : decode cX8_sale 14 = .ok (.if_icmp .le 5, 3) := by decide +kernel
theorem dX8_sale_17 : decode cX8_sale 17 = .ok (.iconst (-1), 1) := by decide +kernel
theorem dX8_sale_18 : decode cX8_sale 18 = .ok (.ireturn, 1) := by decide +kernel
theorem dX8_sale_19 : decode cX8_sale 19 = .ok (.aload_n 0, 1) := by decide +kernel
theorem dX8_sale_20 : decode cX8_sale 20 = .ok (.invokevirtual 237, 3) := by decide +kernel
theorem dX8_sale_23 : decode cX8_sale 23 = .ok (.aload_n 0, 1) := by decide +kernel
theorem dX8_sale_24 : decode cX8_sale 24 = .ok (.iload_n 1, 1) := by decide +kernel
theorem dX8_sale_25 : decode cX8_sale 25 = .ok (.invokevirtual 229, 3) := by decide +kernel
theorem dX8_sale_28 : decode cX8_sale 28 = .ok (.iand, 1) := by decide +kernel
theorem dX8_sale_29 : decode cX8_sale 29 = .ok (.istore_n 3, 1) := by decide +kernel
theorem dX8_sale_30 : decode cX8_sale 30 = .ok (.iconst 0, 1) := by decide +kernel
theorem dX8_sale_31 : decode cX8_sale 31 = .ok (.istore 4, 2) := by decide +kernel
theorem dX8_sale_33 : decode cX8_sale 33 = .ok (.iconst 0, 1) := by decide +kernel
theorem dX8_sale_34 : decode cX8_sale 34 = .ok (.istore 5, 2) := by decide +kernel
theorem dX8_sale_36 : decode cX8_sale 36 = .ok (.iconst 1, 1) := by decide +kernel
theorem dX8_sale_37 : decode cX8_sale 37 = .ok (.istore 6, 2) := by decide +kernel
theorem dX8_sale_39 : decode cX8_sale 39 = .ok (.iload 6, 2) := by decide +kernel
theorem dX8_sale_41 : decode cX8_sale 41 = .ok (.iconst 1, 1) := by decide +kernel
theorem dX8_sale_42 : decode cX8_sale 42 = .ok (.aload_n 0, 1) := by decide +kernel
theorem dX8_sale_43 : decode cX8_sale 43 = .ok (.getfield 23, 3) := by decide +kernel
theorem dX8_sale_46 : decode cX8_sale 46 = .ok (.getfield 108, 3) := by decide +kernel
theorem dX8_sale_49 : decode cX8_sale 49 = .ok (.ishl, 1) := by decide +kernel
theorem dX8_sale_50 : decode cX8_sale 50 = .ok (.if_icmp .ge 99, 3) := by decide +kernel
theorem dX8_sale_53 : decode cX8_sale 53 = .ok (.aload_n 0, 1) := by decide +kernel
theorem dX8_sale_54 : decode cX8_sale 54 = .ok (.iload 6, 2) := by decide +kernel
theorem dX8_sale_56 : decode cX8_sale 56 = .ok (.invokevirtual 298, 3) := by decide +kernel
theorem dX8_sale_59 : decode cX8_sale 59 = .ok (.istore 7, 2) := by decide +kernel
theorem dX8_sale_61 : decode cX8_sale 61 = .ok (.iload 6, 2) := by decide +kernel
theorem dX8_sale_63 : decode cX8_sale 63 = .ok (.iload_n 3, 1) := by decide +kernel
theorem dX8_sale_64 : decode cX8_sale 64 = .ok (.iconst (-1), 1) := by decide +kernel
theorem dX8_sale_65 : decode cX8_sale 65 = .ok (.ixor, 1) := by decide +kernel
theorem dX8_sale_66 : decode cX8_sale 66 = .ok (.iand, 1) := by decide +kernel
theorem dX8_sale_67 : decode cX8_sale 67 = .ok (.ifCond .ne 21, 3) := by decide +kernel
theorem dX8_sale_70 : decode cX8_sale 70 = .ok (.iload 7, 2) := by decide +kernel
theorem dX8_sale_72 : decode cX8_sale 72 = .ok (.aload_n 0, 1) := by decide +kernel
theorem dX8_sale_73 : decode cX8_sale 73 = .ok (.getfield 30, 3) := by decide +kernel
theorem dX8_sale_76 : decode cX8_sale 76 = .ok (.getfield 144, 3) := by decide +kernel
theorem dX8_sale_79 : decode cX8_sale 79 = .ok (.iload_n 1, 1) := by decide +kernel
theorem dX8_sale_80 : decode cX8_sale 80 = .ok (.iaload, 1) := by decide +kernel
theorem dX8_sale_81 : decode cX8_sale 81 = .ok (.if_icmp .gt 7, 3) := by decide +kernel
theorem dX8_sale_84 : decode cX8_sale 84 = .ok (.iconst 1, 1) := by decide +kernel
theorem dX8_sale_85 : decode cX8_sale 85 = .ok (.goto 4, 3) := by decide +kernel
theorem dX8_sale_88 : decode cX8_sale 88 = .ok (.iconst 0, 1) := by decide +kernel
theorem dX8_sale_89 : decode cX8_sale 89 = .ok (.istore 8, 2) := by decide +kernel
theorem dX8_sale_91 : decode cX8_sale 91 = .ok (.iload 6, 2) := by decide +kernel
theorem dX8_sale_93 : decode cX8_sale 93 = .ok (.invokestatic 232, 3) := by decide +kernel
theorem dX8_sale_96 : decode cX8_sale 96 = .ok (.iload 4, 2) := by decide +kernel
theorem dX8_sale_98 : decode cX8_sale 98 = .ok (.invokestatic 232, 3) := by decide +kernel
theorem dX8_sale_101 : decode cX8_sale 101 = .ok (.if_icmp .ge 7, 3) := by decide +kernel
theorem dX8_sale_104 : decode cX8_sale 104 = .ok (.iconst 1, 1) := by decide +kernel
theorem dX8_sale_105 : decode cX8_sale 105 = .ok (.goto 4, 3) := by decide +kernel
theorem dX8_sale_108 : decode cX8_sale 108 = .ok (.iconst 0, 1) := by decide +kernel
theorem dX8_sale_109 : decode cX8_sale 109 = .ok (.istore 9, 2) := by decide +kernel
theorem dX8_sale_111 : decode cX8_sale 111 = .ok (.iload 8, 2) := by decide +kernel
theorem dX8_sale_113 : decode cX8_sale 113 = .ok (.ifCond .eq 30, 3) := by decide +kernel
theorem dX8_sale_116 : decode cX8_sale 116 = .ok (.iload 7, 2) := by decide +kernel
theorem dX8_sale_118 : decode cX8_sale 118 = .ok (.iload 5, 2) := by decide +kernel
theorem dX8_sale_120 : decode cX8_sale 120 = .ok (.if_icmp .gt 15, 3) := by decide +kernel
theorem dX8_sale_123 : decode cX8_sale 123 = .ok (.iload 7, 2) := by decide +kernel
theorem dX8_sale_125 : decode cX8_sale 125 = .ok (.iload 5, 2) := by decide +kernel
theorem dX8_sale_127 : decode cX8_sale 127 = .ok (.if_icmp .ne 16, 3) := by decide +kernel
theorem dX8_sale_130 : decode cX8_sale 130 = .ok (.iload 9, 2) := by decide +kernel
theorem dX8_sale_132 : decode cX8_sale 132 = .ok (.ifCond .eq 11, 3) := by decide +kernel
theorem dX8_sale_135 : decode cX8_sale 135 = .ok (.iload 6, 2) := by decide +kernel
theorem dX8_sale_137 : decode cX8_sale 137 = .ok (.istore 4, 2) := by decide +kernel
theorem dX8_sale_139 : decode cX8_sale 139 = .ok (.iload 7, 2) := by decide +kernel
theorem dX8_sale_141 : decode cX8_sale 141 = .ok (.istore 5, 2) := by decide +kernel
theorem dX8_sale_143 : decode cX8_sale 143 = .ok (.iinc 6 1, 3) := by decide +kernel
theorem dX8_sale_146 : decode cX8_sale 146 = .ok (.goto (-107), 3) := by decide +kernel
theorem dX8_sale_149 : decode cX8_sale 149 = .ok (.iload_n 2, 1) := by decide +kernel
theorem dX8_sale_150 : decode cX8_sale 150 = .ok (.ifCond .ne 8, 3) := by decide +kernel
theorem dX8_sale_153 : decode cX8_sale 153 = .ok (.iload 5, 2) := by decide +kernel
theorem dX8_sale_155 : decode cX8_sale 155 = .ok (.goto 5, 3) := by decide +kernel
theorem dX8_sale_158 : decode cX8_sale 158 = .ok (.iload 4, 2) := by decide +kernel
theorem dX8_sale_160 : decode cX8_sale 160 = .ok (.ireturn, 1) := by decide +kernel
theorem dX8_sharedDivisor_0 : decode cX8_sharedDivisor 0 = .ok (.iload_n 0, 1) := by decide +kernel
theorem dX8_sharedDivisor_1 : decode cX8_sharedDivisor 1 = .ok (.istore_n 2, 1) := by decide +kernel
theorem dX8_sharedDivisor_2 : decode cX8_sharedDivisor 2 = .ok (.iload_n 1, 1) := by decide +kernel
theorem dX8_sharedDivisor_3 : decode cX8_sharedDivisor 3 = .ok (.istore_n 3, 1) := by decide +kernel
theorem dX8_sharedDivisor_4 : decode cX8_sharedDivisor 4 = .ok (.iconst 0, 1) := by decide +kernel
theorem dX8_sharedDivisor_5 : decode cX8_sharedDivisor 5 = .ok (.istore 4, 2) := by decide +kernel
theorem dX8_sharedDivisor_7 : decode cX8_sharedDivisor 7 = .ok (.iload 4, 2) := by decide +kernel
theorem dX8_sharedDivisor_9 : decode cX8_sharedDivisor 9 = .ok (.bipush 64, 2) := by decide +kernel
theorem dX8_sharedDivisor_11 : decode cX8_sharedDivisor 11 = .ok (.if_icmp .ge 23, 3) := by decide +kernel
theorem dX8_sharedDivisor_14 : decode cX8_sharedDivisor 14 = .ok (.iload_n 3, 1) := by decide +kernel
theorem dX8_sharedDivisor_15 : decode cX8_sharedDivisor 15 = .ok (.ifCond .eq 19, 3) := by decide +kernel
theorem dX8_sharedDivisor_18 : decode cX8_sharedDivisor 18 = .ok (.iload_n 2, 1) := by decide +kernel
theorem dX8_sharedDivisor_19 : decode cX8_sharedDivisor 19 = .ok (.iload_n 3, 1) := by decide +kernel
theorem dX8_sharedDivisor_20 : decode cX8_sharedDivisor 20 = .ok (.irem, 1) := by decide +kernel
theorem dX8_sharedDivisor_21 : decode cX8_sharedDivisor 21 = .ok (.istore 5, 2) := by decide +kernel
theorem dX8_sharedDivisor_23 : decode cX8_sharedDivisor 23 = .ok (.iload_n 3, 1) := by decide +kernel
theorem dX8_sharedDivisor_24 : decode cX8_sharedDivisor 24 = .ok (.istore_n 2, 1) := by decide +kernel
theorem dX8_sharedDivisor_25 : decode cX8_sharedDivisor 25 = .ok (.iload 5, 2) := by decide +kernel
theorem dX8_sharedDivisor_27 : decode cX8_sharedDivisor 27 = .ok (.istore_n 3, 1) := by decide +kernel
theorem dX8_sharedDivisor_28 : decode cX8_sharedDivisor 28 = .ok (.iinc 4 1, 3) := by decide +kernel
theorem dX8_sharedDivisor_31 : decode cX8_sharedDivisor 31 = .ok (.goto (-24), 3) := by decide +kernel
theorem dX8_sharedDivisor_34 : decode cX8_sharedDivisor 34 = .ok (.iconst 1, 1) := by decide +kernel
theorem dX8_sharedDivisor_35 : decode cX8_sharedDivisor 35 = .ok (.iload_n 2, 1) := by decide +kernel
theorem dX8_sharedDivisor_36 : decode cX8_sharedDivisor 36 = .ok (.invokestatic 276, 3) := by decide +kernel
theorem dX8_sharedDivisor_39 : decode cX8_sharedDivisor 39 = .ok (.ireturn, 1) := by decide +kernel
theorem dX8_spinsters_0 : decode cX8_spinsters 0 = .ok (.iconst 1, 1) := by decide +kernel
theorem dX8_spinsters_1 : decode cX8_spinsters 1 = .ok (.aload_n 0, 1) := by decide +kernel
theorem dX8_spinsters_2 : decode cX8_spinsters 2 = .ok (.getfield 23, 3) := by decide +kernel
theorem dX8_spinsters_5 : decode cX8_spinsters 5 = .ok (.getfield 108, 3) := by decide +kernel
theorem dX8_spinsters_8 : decode cX8_spinsters 8 = .ok (.ishl, 1) := by decide +kernel
theorem dX8_spinsters_9 : decode cX8_spinsters 9 = .ok (.iconst 1, 1) := by decide +kernel
theorem dX8_spinsters_10 : decode cX8_spinsters 10 = .ok (.isub, 1) := by decide +kernel
theorem dX8_spinsters_11 : decode cX8_spinsters 11 = .ok (.istore_n 1, 1) := by decide +kernel
theorem dX8_spinsters_12 : decode cX8_spinsters 12 = .ok (.iconst 0, 1) := by decide +kernel
theorem dX8_spinsters_13 : decode cX8_spinsters 13 = .ok (.istore_n 2, 1) := by decide +kernel
theorem dX8_spinsters_14 : decode cX8_spinsters 14 = .ok (.iload_n 2, 1) := by decide +kernel
theorem dX8_spinsters_15 : decode cX8_spinsters 15 = .ok (.aload_n 0, 1) := by decide +kernel
theorem dX8_spinsters_16 : decode cX8_spinsters 16 = .ok (.getfield 23, 3) := by decide +kernel
theorem dX8_spinsters_19 : decode cX8_spinsters 19 = .ok (.getfield 99, 3) := by decide +kernel
theorem dX8_spinsters_22 : decode cX8_spinsters 22 = .ok (.if_icmp .ge 19, 3) := by decide +kernel
theorem dX8_spinsters_25 : decode cX8_spinsters 25 = .ok (.iload_n 1, 1) := by decide +kernel
theorem dX8_spinsters_26 : decode cX8_spinsters 26 = .ok (.aload_n 0, 1) := by decide +kernel
theorem dX8_spinsters_27 : decode cX8_spinsters 27 = .ok (.iload_n 2, 1) := by decide +kernel
theorem dX8_spinsters_28 : decode cX8_spinsters 28 = .ok (.invokevirtual 229, 3) := by decide +kernel
theorem dX8_spinsters_31 : decode cX8_spinsters 31 = .ok (.iconst (-1), 1) := by decide +kernel
theorem dX8_spinsters_32 : decode cX8_spinsters 32 = .ok (.ixor, 1) := by decide +kernel
theorem dX8_spinsters_33 : decode cX8_spinsters 33 = .ok (.iand, 1) := by decide +kernel
theorem dX8_spinsters_34 : decode cX8_spinsters 34 = .ok (.istore_n 1, 1) := by decide +kernel
theorem dX8_spinsters_35 : decode cX8_spinsters 35 = .ok (.iinc 2 1, 3) := by decide +kernel
theorem dX8_spinsters_38 : decode cX8_spinsters 38 = .ok (.goto (-24), 3) := by decide +kernel
theorem dX8_spinsters_41 : decode cX8_spinsters 41 = .ok (.iload_n 1, 1) := by decide +kernel
theorem dX8_spinsters_42 : decode cX8_spinsters 42 = .ok (.ireturn, 1) := by decide +kernel
theorem dX8_spread_0 : decode cX8_spread 0 = .ok (.iload_n 1, 1) := by decide +kernel
theorem dX8_spread_1 : decode cX8_spread 1 = .ok (.istore_n 3, 1) := by decide +kernel
theorem dX8_spread_2 : decode cX8_spread 2 = .ok (.aload_n 0, 1) := by decide +kernel
theorem dX8_spread_3 : decode cX8_spread 3 = .ok (.getfield 23, 3) := by decide +kernel
theorem dX8_spread_6 : decode cX8_spread 6 = .ok (.getfield 99, 3) := by decide +kernel
theorem dX8_spread_9 : decode cX8_spread 9 = .ok (.iconst 1, 1) := by decide +kernel
theorem dX8_spread_10 : decode cX8_spread 10 = .ok (.isub, 1) := by decide +kernel
theorem dX8_spread_11 : decode cX8_spread 11 = .ok (.istore 4, 2) := by decide +kernel
theorem dX8_spread_13 : decode cX8_spread 13 = .ok (.iload 4, 2) := by decide +kernel
theorem dX8_spread_15 : decode cX8_spread 15 = .ok (.ifCond .lt 39, 3) := by decide +kernel
theorem dX8_spread_18 : decode cX8_spread 18 = .ok (.aload_n 0, 1) := by decide +kernel
theorem dX8_spread_19 : decode cX8_spread 19 = .ok (.getfield 62, 3) := by decide +kernel
theorem dX8_spread_22 : decode cX8_spread 22 = .ok (.iload 4, 2) := by decide +kernel
theorem dX8_spread_24 : decode cX8_spread 24 = .ok (.iload_n 2, 1) := by decide +kernel
theorem dX8_spread_25 : decode cX8_spread 25 = .ok (.ifCond .le 9, 3) := by decide +kernel
theorem dX8_spread_28 : decode cX8_spread 28 = .ok (.iload_n 3, 1) := by decide +kernel
theorem dX8_spread_29 : decode cX8_spread 29 = .ok (.iload_n 2, 1) := by decide +kernel
theorem dX8_spread_30 : decode cX8_spread 30 = .ok (.irem, 1) := by decide +kernel
theorem dX8_spread_31 : decode cX8_spread 31 = .ok (.goto 4, 3) := by decide +kernel
theorem dX8_spread_34 : decode cX8_spread 34 = .ok (.iconst 0, 1) := by decide +kernel
theorem dX8_spread_35 : decode cX8_spread 35 = .ok (.iastore, 1) := by decide +kernel
theorem dX8_spread_36 : decode cX8_spread 36 = .ok (.iload_n 2, 1) := by decide +kernel
theorem dX8_spread_37 : decode cX8_spread 37 = .ok (.ifCond .le 9, 3) := by decide +kernel
theorem dX8_spread_40 : decode cX8_spread 40 = .ok (.iload_n 3, 1) := by decide +kernel
theorem dX8_spread_41 : decode cX8_spread 41 = .ok (.iload_n 2, 1) := by decide +kernel
theorem dX8_spread_42 : decode cX8_spread 42 = .ok (.idiv, 1) := by decide +kernel
theorem dX8_spread_43 : decode cX8_spread 43 = .ok (.goto 4, 3) := by decide +kernel
theorem dX8_spread_46 : decode cX8_spread 46 = .ok (.iconst 0, 1) := by decide +kernel
theorem dX8_spread_47 : decode cX8_spread 47 = .ok (.istore_n 3, 1) := by decide +kernel
theorem dX8_spread_48 : decode cX8_spread 48 = .ok (.iinc 4 (-1), 3) := by decide +kernel
theorem dX8_spread_51 : decode cX8_spread 51 = .ok (.goto (-38), 3) := by decide +kernel
theorem dX8_spread_54 : decode cX8_spread 54 = .ok (.return_, 1) := by decide +kernel
theorem dX8_sure_0 : decode cX8_sure 0 = .ok (.iload_n 1, 1) := by decide +kernel
theorem dX8_sure_1 : decode cX8_sure 1 = .ok (.ifCond .lt 23, 3) := by decide +kernel
theorem dX8_sure_4 : decode cX8_sure 4 = .ok (.iload_n 1, 1) := by decide +kernel
theorem dX8_sure_5 : decode cX8_sure 5 = .ok (.iconst 3, 1) := by decide +kernel
theorem dX8_sure_6 : decode cX8_sure 6 = .ok (.if_icmp .ge 18, 3) := by decide +kernel
theorem dX8_sure_9 : decode cX8_sure 9 = .ok (.aload_n 0, 1) := by decide +kernel
theorem dX8_sure_10 : decode cX8_sure 10 = .ok (.getfield 55, 3) := by decide +kernel
theorem dX8_sure_13 : decode cX8_sure 13 = .ok (.aload_n 0, 1) := by decide +kernel
theorem dX8_sure_14 : decode cX8_sure 14 = .ok (.getfield 23, 3) := by decide +kernel
theorem dX8_sure_17 : decode cX8_sure 17 = .ok (.iload_n 2, 1) := by decide +kernel
theorem dX8_sure_18 : decode cX8_sure 18 = .ok (.invokevirtual 332, 3) := by decide +kernel
theorem dX8_sure_21 : decode cX8_sure 21 = .ok (.ifCond .ne 5, 3) := by decide +kernel
theorem dX8_sure_24 : decode cX8_sure 24 = .ok (.iconst (-1), 1) := by decide +kernel
theorem dX8_sure_25 : decode cX8_sure 25 = .ok (.ireturn, 1) := by decide +kernel
theorem dX8_sure_26 : decode cX8_sure 26 = .ok (.aload_n 0, 1) := by decide +kernel
theorem dX8_sure_27 : decode cX8_sure 27 = .ok (.getfield 55, 3) := by decide +kernel
theorem dX8_sure_30 : decode cX8_sure 30 = .ok (.iload_n 1, 1) := by decide +kernel
theorem dX8_sure_31 : decode cX8_sure 31 = .ok (.invokevirtual 336, 3) := by decide +kernel
theorem dX8_sure_34 : decode cX8_sure 34 = .ok (.ireturn, 1) := by decide +kernel
theorem dX8_swap_0 : decode cX8_swap 0 = .ok (.iload_n 1, 1) := by decide +kernel
theorem dX8_swap_1 : decode cX8_swap 1 = .ok (.ifCond .lt 8, 3) := by decide +kernel
theorem dX8_swap_4 : decode cX8_swap 4 = .ok (.iload_n 1, 1) := by decide +kernel
theorem dX8_swap_5 : decode cX8_swap 5 = .ok (.iconst 1, 1) := by decide +kernel
theorem dX8_swap_6 : decode cX8_swap 6 = .ok (.if_icmp .le 5, 3) := by decide +kernel
theorem dX8_swap_9 : decode cX8_swap 9 = .ok (.iconst (-1), 1) := by decide +kernel
theorem dX8_swap_10 : decode cX8_swap 10 = .ok (.ireturn, 1) := by decide +kernel
theorem dX8_swap_11 : decode cX8_swap 11 = .ok (.iconst 0, 1) := by decide +kernel
theorem dX8_swap_12 : decode cX8_swap 12 = .ok (.istore_n 2, 1) := by decide +kernel
theorem dX8_swap_13 : decode cX8_swap 13 = .ok (.iload_n 2, 1) := by decide +kernel
theorem dX8_swap_14 : decode cX8_swap 14 = .ok (.aload_n 0, 1) := by decide +kernel
theorem dX8_swap_15 : decode cX8_swap 15 = .ok (.getfield 23, 3) := by decide +kernel
theorem dX8_swap_18 : decode cX8_swap 18 = .ok (.getfield 99, 3) := by decide +kernel
theorem dX8_swap_21 : decode cX8_swap 21 = .ok (.if_icmp .ge 49, 3) := by decide +kernel
theorem dX8_swap_24 : decode cX8_swap 24 = .ok (.iload_n 2, 1) := by decide +kernel
theorem dX8_swap_25 : decode cX8_swap 25 = .ok (.iconst 1, 1) := by decide +kernel
theorem dX8_swap_26 : decode cX8_swap 26 = .ok (.iadd, 1) := by decide +kernel
theorem dX8_swap_27 : decode cX8_swap 27 = .ok (.istore_n 3, 1) := by decide +kernel
theorem dX8_swap_28 : decode cX8_swap 28 = .ok (.iload_n 3, 1) := by decide +kernel
theorem dX8_swap_29 : decode cX8_swap 29 = .ok (.aload_n 0, 1) := by decide +kernel
theorem dX8_swap_30 : decode cX8_swap 30 = .ok (.getfield 23, 3) := by decide +kernel
theorem dX8_swap_33 : decode cX8_swap 33 = .ok (.getfield 99, 3) := by decide +kernel
theorem dX8_swap_36 : decode cX8_swap 36 = .ok (.if_icmp .ge 28, 3) := by decide +kernel
theorem dX8_swap_39 : decode cX8_swap 39 = .ok (.aload_n 0, 1) := by decide +kernel
theorem dX8_swap_40 : decode cX8_swap 40 = .ok (.iload_n 2, 1) := by decide +kernel
theorem dX8_swap_41 : decode cX8_swap 41 = .ok (.iload_n 3, 1) := by decide +kernel
theorem dX8_swap_42 : decode cX8_swap 42 = .ok (.invokevirtual 288, 3) := by decide +kernel
theorem dX8_swap_45 : decode cX8_swap 45 = .ok (.ifCond .eq 13, 3) := by decide +kernel
theorem dX8_swap_48 : decode cX8_swap 48 = .ok (.iload_n 1, 1) := by decide +kernel
theorem dX8_swap_49 : decode cX8_swap 49 = .ok (.ifCond .ne 7, 3) := by decide +kernel
theorem dX8_swap_52 : decode cX8_swap 52 = .ok (.iload_n 2, 1) := by decide +kernel
theorem dX8_swap_53 : decode cX8_swap 53 = .ok (.goto 4, 3) := by decide +kernel
theorem dX8_swap_56 : decode cX8_swap 56 = .ok (.iload_n 3, 1) := by decide +kernel
theorem dX8_swap_57 : decode cX8_swap 57 = .ok (.ireturn, 1) := by decide +kernel
theorem dX8_swap_58 : decode cX8_swap 58 = .ok (.iinc 3 1, 3) := by decide +kernel
theorem dX8_swap_61 : decode cX8_swap 61 = .ok (.goto (-33), 3) := by decide +kernel
theorem dX8_swap_64 : decode cX8_swap 64 = .ok (.iinc 2 1, 3) := by decide +kernel
theorem dX8_swap_67 : decode cX8_swap 67 = .ok (.goto (-54), 3) := by decide +kernel
theorem dX8_swap_70 : decode cX8_swap 70 = .ok (.iconst (-1), 1) := by decide +kernel
theorem dX8_swap_71 : decode cX8_swap 71 = .ok (.ireturn, 1) := by decide +kernel
theorem dX8_takenNow_0 : decode cX8_takenNow 0 = .ok (.aload_n 0, 1) := by decide +kernel
theorem dX8_takenNow_1 : decode cX8_takenNow 1 = .ok (.iload_n 1, 1) := by decide +kernel
theorem dX8_takenNow_2 : decode cX8_takenNow 2 = .ok (.aload_n 0, 1) := by decide +kernel
theorem dX8_takenNow_3 : decode cX8_takenNow 3 = .ok (.getfield 30, 3) := by decide +kernel
theorem dX8_takenNow_6 : decode cX8_takenNow 6 = .ok (.getfield 144, 3) := by decide +kernel
theorem dX8_takenNow_9 : decode cX8_takenNow 9 = .ok (.iload_n 1, 1) := by decide +kernel
theorem dX8_takenNow_10 : decode cX8_takenNow 10 = .ok (.iaload, 1) := by decide +kernel
theorem dX8_takenNow_11 : decode cX8_takenNow 11 = .ok (.invokevirtual 226, 3) := by decide +kernel
theorem dX8_takenNow_14 : decode cX8_takenNow 14 = .ok (.ireturn, 1) := by decide +kernel
theorem dX8_takenWith_0 : decode cX8_takenWith 0 = .ok (.iconst 0, 1) := by decide +kernel
theorem dX8_takenWith_1 : decode cX8_takenWith 1 = .ok (.istore_n 3, 1) := by decide +kernel
theorem dX8_takenWith_2 : decode cX8_takenWith 2 = .ok (.iconst 0, 1) := by decide +kernel
theorem dX8_takenWith_3 : decode cX8_takenWith 3 = .ok (.istore 4, 2) := by decide +kernel
theorem dX8_takenWith_5 : decode cX8_takenWith 5 = .ok (.iload 4, 2) := by decide +kernel
theorem dX8_takenWith_7 : decode cX8_takenWith 7 = .ok (.aload_n 0, 1) := by decide +kernel
theorem dX8_takenWith_8 : decode cX8_takenWith 8 = .ok (.getfield 23, 3) := by decide +kernel
theorem dX8_takenWith_11 : decode cX8_takenWith 11 = .ok (.getfield 108, 3) := by decide +kernel
theorem dX8_takenWith_14 : decode cX8_takenWith 14 = .ok (.if_icmp .ge 27, 3) := by decide +kernel
theorem dX8_takenWith_17 : decode cX8_takenWith 17 = .ok (.aload_n 0, 1) := by decide +kernel
theorem dX8_takenWith_18 : decode cX8_takenWith 18 = .ok (.iload_n 1, 1) := by decide +kernel
theorem dX8_takenWith_19 : decode cX8_takenWith 19 = .ok (.iload 4, 2) := by decide +kernel
theorem dX8_takenWith_21 : decode cX8_takenWith 21 = .ok (.iload_n 2, 1) := by decide +kernel
theorem dX8_takenWith_22 : decode cX8_takenWith 22 = .ok (.invokevirtual 222, 3) := by decide +kernel
theorem dX8_takenWith_25 : decode cX8_takenWith 25 = .ok (.ifCond .eq 10, 3) := by decide +kernel
theorem dX8_takenWith_28 : decode cX8_takenWith 28 = .ok (.iload_n 3, 1) := by decide +kernel
theorem dX8_takenWith_29 : decode cX8_takenWith 29 = .ok (.iconst 1, 1) := by decide +kernel
theorem dX8_takenWith_30 : decode cX8_takenWith 30 = .ok (.iload 4, 2) := by decide +kernel
theorem dX8_takenWith_32 : decode cX8_takenWith 32 = .ok (.ishl, 1) := by decide +kernel
theorem dX8_takenWith_33 : decode cX8_takenWith 33 = .ok (.ior, 1) := by decide +kernel
theorem dX8_takenWith_34 : decode cX8_takenWith 34 = .ok (.istore_n 3, 1) := by decide +kernel
theorem dX8_takenWith_35 : decode cX8_takenWith 35 = .ok (.iinc 4 1, 3) := by decide +kernel
theorem dX8_takenWith_38 : decode cX8_takenWith 38 = .ok (.goto (-33), 3) := by decide +kernel
theorem dX8_takenWith_41 : decode cX8_takenWith 41 = .ok (.iload_n 3, 1) := by decide +kernel
theorem dX8_takenWith_42 : decode cX8_takenWith 42 = .ok (.ireturn, 1) := by decide +kernel
theorem dX8_takes_0 : decode cX8_takes 0 = .ok (.aload_n 0, 1) := by decide +kernel
theorem dX8_takes_1 : decode cX8_takes 1 = .ok (.iload_n 1, 1) := by decide +kernel
theorem dX8_takes_2 : decode cX8_takes 2 = .ok (.invokevirtual 138, 3) := by decide +kernel
theorem dX8_takes_5 : decode cX8_takes 5 = .ok (.ifCond .eq 11, 3) := by decide +kernel
theorem dX8_takes_8 : decode cX8_takes 8 = .ok (.aload_n 0, 1) := by decide +kernel
theorem dX8_takes_9 : decode cX8_takes 9 = .ok (.iload_n 1, 1) := by decide +kernel
theorem dX8_takes_10 : decode cX8_takes 10 = .ok (.invokevirtual 229, 3) := by decide +kernel
theorem dX8_takes_13 : decode cX8_takes 13 = .ok (.goto 4, 3) := by decide +kernel
theorem dX8_takes_16 : decode cX8_takes 16 = .ok (.iconst (-1), 1) := by decide +kernel
theorem dX8_takes_17 : decode cX8_takes 17 = .ok (.ireturn, 1) := by decide +kernel
theorem dX8_trialIsBarter_0 : decode cX8_trialIsBarter 0 = .ok (.iconst 0, 1) := by decide +kernel
theorem dX8_trialIsBarter_1 : decode cX8_trialIsBarter 1 = .ok (.istore_n 1, 1) := by decide +kernel
theorem dX8_trialIsBarter_2 : decode cX8_trialIsBarter 2 = .ok (.iconst 0, 1) := by decide +kernel
theorem dX8_trialIsBarter_3 : decode cX8_trialIsBarter 3 = .ok (.istore_n 2, 1) := by decide +kernel
theorem dX8_trialIsBarter_4 : decode cX8_trialIsBarter 4 = .ok (.iload_n 2, 1) := by decide +kernel
theorem dX8_trialIsBarter_5 : decode cX8_trialIsBarter 5 = .ok (.aload_n 0, 1) := by decide +kernel
theorem dX8_trialIsBarter_6 : decode cX8_trialIsBarter 6 = .ok (.getfield 23, 3) := by decide +kernel
theorem dX8_trialIsBarter_9 : decode cX8_trialIsBarter 9 = .ok (.getfield 99, 3) := by decide +kernel
theorem dX8_trialIsBarter_12 : decode cX8_trialIsBarter 12 = .ok (.if_icmp .ge 89, 3) := by decide +kernel
theorem dX8_trialIsBarter_15 : decode cX8_trialIsBarter 15 = .ok (.aload_n 0, 1) := by decide +kernel
theorem dX8_trialIsBarter_16 : decode cX8_trialIsBarter 16 = .ok (.getfield 62, 3) := by decide +kernel
theorem dX8_trialIsBarter_19 : decode cX8_trialIsBarter 19 = .ok (.iload_n 2, 1) := by decide +kernel
theorem dX8_trialIsBarter_20 : decode cX8_trialIsBarter 20 = .ok (.iaload, 1) := by decide +kernel
theorem dX8_trialIsBarter_21 : decode cX8_trialIsBarter 21 = .ok (.istore_n 3, 1) := by decide +kernel
theorem dX8_trialIsBarter_22 : decode cX8_trialIsBarter 22 = .ok (.aload_n 0, 1) := by decide +kernel
theorem dX8_trialIsBarter_23 : decode cX8_trialIsBarter 23 = .ok (.getfield 65, 3) := by decide +kernel
theorem dX8_trialIsBarter_26 : decode cX8_trialIsBarter 26 = .ok (.iload_n 2, 1) := by decide +kernel
theorem dX8_trialIsBarter_27 : decode cX8_trialIsBarter 27 = .ok (.iaload, 1) := by decide +kernel
theorem dX8_trialIsBarter_28 : decode cX8_trialIsBarter 28 = .ok (.iconst (-1), 1) := by decide +kernel
theorem dX8_trialIsBarter_29 : decode cX8_trialIsBarter 29 = .ok (.if_icmp .ne 19, 3) := by decide +kernel
theorem dX8_trialIsBarter_32 : decode cX8_trialIsBarter 32 = .ok (.iload_n 3, 1) := by decide +kernel
theorem dX8_trialIsBarter_33 : decode cX8_trialIsBarter 33 = .ok (.ifCond .eq 5, 3) := by decide +kernel
theorem dX8_trialIsBarter_36 : decode cX8_trialIsBarter 36 = .ok (.iconst 0, 1) := by decide +kernel
theorem dX8_trialIsBarter_37 : decode cX8_trialIsBarter 37 = .ok (.ireturn, 1) := by decide +kernel
theorem dX8_trialIsBarter_38 : decode cX8_trialIsBarter 38 = .ok (.aload_n 0, 1) := by decide +kernel
theorem dX8_trialIsBarter_39 : decode cX8_trialIsBarter 39 = .ok (.getfield 62, 3) := by decide +kernel
theorem dX8_trialIsBarter_42 : decode cX8_trialIsBarter 42 = .ok (.iload_n 2, 1) := by decide +kernel
theorem dX8_trialIsBarter_43 : decode cX8_trialIsBarter 43 = .ok (.iconst (-1), 1) := by decide +kernel
theorem dX8_trialIsBarter_44 : decode cX8_trialIsBarter 44 = .ok (.iastore, 1) := by decide +kernel
theorem dX8_trialIsBarter_45 : decode cX8_trialIsBarter 45 = .ok (.goto 50, 3) := by decide +kernel
theorem dX8_trialIsBarter_48 : decode cX8_trialIsBarter 48 = .ok (.iload_n 1, 1) := by decide +kernel
theorem dX8_trialIsBarter_49 : decode cX8_trialIsBarter 49 = .ok (.iload_n 3, 1) := by decide +kernel
theorem dX8_trialIsBarter_50 : decode cX8_trialIsBarter 50 = .ok (.invokestatic 256, 3) := by decide +kernel
theorem dX8_trialIsBarter_53 : decode cX8_trialIsBarter 53 = .ok (.ifCond .ne 34, 3) := by decide +kernel
theorem dX8_trialIsBarter_56 : decode cX8_trialIsBarter 56 = .ok (.aload_n 0, 1) := by decide +kernel
theorem dX8_trialIsBarter_57 : decode cX8_trialIsBarter 57 = .ok (.getfield 30, 3) := by decide +kernel
theorem dX8_trialIsBarter_60 : decode cX8_trialIsBarter 60 = .ok (.iload_n 3, 1) := by decide +kernel
theorem dX8_trialIsBarter_61 : decode cX8_trialIsBarter 61 = .ok (.invokevirtual 161, 3) := by decide +kernel
theorem dX8_trialIsBarter_64 : decode cX8_trialIsBarter 64 = .ok (.ifCond .eq 23, 3) := by decide +kernel
theorem dX8_trialIsBarter_67 : decode cX8_trialIsBarter 67 = .ok (.aload_n 0, 1) := by decide +kernel
theorem dX8_trialIsBarter_68 : decode cX8_trialIsBarter 68 = .ok (.iload_n 2, 1) := by decide +kernel
theorem dX8_trialIsBarter_69 : decode cX8_trialIsBarter 69 = .ok (.iload_n 3, 1) := by decide +kernel
theorem dX8_trialIsBarter_70 : decode cX8_trialIsBarter 70 = .ok (.invokevirtual 285, 3) := by decide +kernel
theorem dX8_trialIsBarter_73 : decode cX8_trialIsBarter 73 = .ok (.aload_n 0, 1) := by decide +kernel
theorem dX8_trialIsBarter_74 : decode cX8_trialIsBarter 74 = .ok (.iload_n 2, 1) := by decide +kernel
theorem dX8_trialIsBarter_75 : decode cX8_trialIsBarter 75 = .ok (.aload_n 0, 1) := by decide +kernel
theorem dX8_trialIsBarter_76 : decode cX8_trialIsBarter 76 = .ok (.getfield 65, 3) := by decide +kernel
theorem dX8_trialIsBarter_79 : decode cX8_trialIsBarter 79 = .ok (.iload_n 2, 1) := by decide +kernel
theorem dX8_trialIsBarter_80 : decode cX8_trialIsBarter 80 = .ok (.iaload, 1) := by decide +kernel
theorem dX8_trialIsBarter_81 : decode cX8_trialIsBarter 81 = .ok (.invokevirtual 285, 3) := by decide +kernel
theorem dX8_trialIsBarter_84 : decode cX8_trialIsBarter 84 = .ok (.if_icmp .ge 5, 3) := by decide +kernel
theorem dX8_trialIsBarter_87 : decode cX8_trialIsBarter 87 = .ok (.iconst 0, 1) := by decide +kernel
theorem dX8_trialIsBarter_88 : decode cX8_trialIsBarter 88 = .ok (.ireturn, 1) := by decide +kernel
theorem dX8_trialIsBarter_89 : decode cX8_trialIsBarter 89 = .ok (.iload_n 1, 1) := by decide +kernel
theorem dX8_trialIsBarter_90 : decode cX8_trialIsBarter 90 = .ok (.iconst 1, 1) := by decide +kernel
theorem dX8_trialIsBarter_91 : decode cX8_trialIsBarter 91 = .ok (.iload_n 3, 1) := by decide +kernel
theorem dX8_trialIsBarter_92 : decode cX8_trialIsBarter 92 = .ok (.ishl, 1) := by decide +kernel
theorem dX8_trialIsBarter_93 : decode cX8_trialIsBarter 93 = .ok (.ior, 1) := by decide +kernel
theorem dX8_trialIsBarter_94 : decode cX8_trialIsBarter 94 = .ok (.istore_n 1, 1) := by decide +kernel
theorem dX8_trialIsBarter_95 : decode cX8_trialIsBarter 95 = .ok (.iinc 2 1, 3) := by decide +kernel
theorem dX8_trialIsBarter_98 : decode cX8_trialIsBarter 98 = .ok (.goto (-94), 3) := by decide +kernel
theorem dX8_trialIsBarter_101 : decode cX8_trialIsBarter 101 = .ok (.iconst 1, 1) := by decide +kernel
theorem dX8_trialIsBarter_102 : decode cX8_trialIsBarter 102 = .ok (.ireturn, 1) := by decide +kernel
theorem dX8_trialIsOrder_0 : decode cX8_trialIsOrder 0 = .ok (.iconst 0, 1) := by decide +kernel
theorem dX8_trialIsOrder_1 : decode cX8_trialIsOrder 1 = .ok (.istore_n 1, 1) := by decide +kernel
theorem dX8_trialIsOrder_2 : decode cX8_trialIsOrder 2 = .ok (.iconst 0, 1) := by decide +kernel
theorem dX8_trialIsOrder_3 : decode cX8_trialIsOrder 3 = .ok (.istore_n 2, 1) := by decide +kernel
theorem dX8_trialIsOrder_4 : decode cX8_trialIsOrder 4 = .ok (.iload_n 2, 1) := by decide +kernel
theorem dX8_trialIsOrder_5 : decode cX8_trialIsOrder 5 = .ok (.aload_n 0, 1) := by decide +kernel
theorem dX8_trialIsOrder_6 : decode cX8_trialIsOrder 6 = .ok (.getfield 23, 3) := by decide +kernel
theorem dX8_trialIsOrder_9 : decode cX8_trialIsOrder 9 = .ok (.getfield 99, 3) := by decide +kernel
theorem dX8_trialIsOrder_12 : decode cX8_trialIsOrder 12 = .ok (.if_icmp .ge 20, 3) := by decide +kernel
theorem dX8_trialIsOrder_15 : decode cX8_trialIsOrder 15 = .ok (.iload_n 1, 1) := by decide +kernel
theorem dX8_trialIsOrder_16 : decode cX8_trialIsOrder 16 = .ok (.iconst 1, 1) := by decide +kernel
theorem dX8_trialIsOrder_17 : decode cX8_trialIsOrder 17 = .ok (.aload_n 0, 1) := by decide +kernel
theorem dX8_trialIsOrder_18 : decode cX8_trialIsOrder 18 = .ok (.getfield 62, 3) := by decide +kernel
theorem dX8_trialIsOrder_21 : decode cX8_trialIsOrder 21 = .ok (.iload_n 2, 1) := by decide +kernel
theorem dX8_trialIsOrder_22 : decode cX8_trialIsOrder 22 = .ok (.iaload, 1) := by decide +kernel
theorem dX8_trialIsOrder_23 : decode cX8_trialIsOrder 23 = .ok (.ishl, 1) := by decide +kernel
theorem dX8_trialIsOrder_24 : decode cX8_trialIsOrder 24 = .ok (.ior, 1) := by decide +kernel
theorem dX8_trialIsOrder_25 : decode cX8_trialIsOrder 25 = .ok (.istore_n 1, 1) := by decide +kernel
theorem dX8_trialIsOrder_26 : decode cX8_trialIsOrder 26 = .ok (.iinc 2 1, 3) := by decide +kernel
theorem dX8_trialIsOrder_29 : decode cX8_trialIsOrder 29 = .ok (.goto (-25), 3) := by decide +kernel
theorem dX8_trialIsOrder_32 : decode cX8_trialIsOrder 32 = .ok (.iload_n 1, 1) := by decide +kernel
theorem dX8_trialIsOrder_33 : decode cX8_trialIsOrder 33 = .ok (.invokestatic 232, 3) := by decide +kernel
theorem dX8_trialIsOrder_36 : decode cX8_trialIsOrder 36 = .ok (.aload_n 0, 1) := by decide +kernel
theorem dX8_trialIsOrder_37 : decode cX8_trialIsOrder 37 = .ok (.getfield 23, 3) := by decide +kernel
theorem dX8_trialIsOrder_40 : decode cX8_trialIsOrder 40 = .ok (.getfield 99, 3) := by decide +kernel
theorem dX8_trialIsOrder_43 : decode cX8_trialIsOrder 43 = .ok (.if_icmp .ne 7, 3) := by decide +kernel
theorem dX8_trialIsOrder_46 : decode cX8_trialIsOrder 46 = .ok (.iconst 1, 1) := by decide +kernel
theorem dX8_trialIsOrder_47 : decode cX8_trialIsOrder 47 = .ok (.goto 4, 3) := by decide +kernel
theorem dX8_trialIsOrder_50 : decode cX8_trialIsOrder 50 = .ok (.iconst 0, 1) := by decide +kernel
theorem dX8_trialIsOrder_51 : decode cX8_trialIsOrder 51 = .ok (.ireturn, 1) := by decide +kernel
theorem dX8_tune_0 : decode cX8_tune 0 = .ok (.aload_n 0, 1) := by decide +kernel
theorem dX8_tune_1 : decode cX8_tune 1 = .ok (.iload_n 1, 1) := by decide +kernel
theorem dX8_tune_2 : decode cX8_tune 2 = .ok (.invokevirtual 111, 3) := by decide +kernel
theorem dX8_tune_5 : decode cX8_tune 5 = .ok (.ifCond .ne 6, 3) := by decide +kernel
theorem dX8_tune_8 : decode cX8_tune 8 = .ok (.bipush (-2), 2) := by decide +kernel
theorem dX8_tune_10 : decode cX8_tune 10 = .ok (.ireturn, 1) := by decide +kernel
theorem dX8_tune_11 : decode cX8_tune 11 = .ok (.iload_n 2, 1) := by decide +kernel
theorem dX8_tune_12 : decode cX8_tune 12 = .ok (.tableswitch 108 0 5 #[40, 50, 68, 78, 88, 98], 40) := by decide +kernel
theorem dX8_tune_52 : decode cX8_tune 52 = .ok (.aload_n 0, 1) := by decide +kernel
theorem dX8_tune_53 : decode cX8_tune 53 = .ok (.getfield 23, 3) := by decide +kernel
theorem dX8_tune_56 : decode cX8_tune 56 = .ok (.getfield 115, 3) := by decide +kernel
theorem dX8_tune_59 : decode cX8_tune 59 = .ok (.iload_n 1, 1) := by decide +kernel
theorem dX8_tune_60 : decode cX8_tune 60 = .ok (.iaload, 1) := by decide +kernel
theorem dX8_tune_61 : decode cX8_tune 61 = .ok (.ireturn, 1) := by decide +kernel
theorem dX8_tune_62 : decode cX8_tune 62 = .ok (.aload_n 0, 1) := by decide +kernel
theorem dX8_tune_63 : decode cX8_tune 63 = .ok (.getfield 23, 3) := by decide +kernel
theorem dX8_tune_66 : decode cX8_tune 66 = .ok (.iload_n 1, 1) := by decide +kernel
theorem dX8_tune_67 : decode cX8_tune 67 = .ok (.aload_n 0, 1) := by decide +kernel
theorem dX8_tune_68 : decode cX8_tune 68 = .ok (.getfield 30, 3) := by decide +kernel
theorem dX8_tune_71 : decode cX8_tune 71 = .ok (.getfield 118, 3) := by decide +kernel
theorem dX8_tune_74 : decode cX8_tune 74 = .ok (.iload_n 1, 1) := by decide +kernel
theorem dX8_tune_75 : decode cX8_tune 75 = .ok (.iaload, 1) := by decide +kernel
theorem dX8_tune_76 : decode cX8_tune 76 = .ok (.invokevirtual 121, 3) := by decide +kernel
theorem dX8_tune_79 : decode cX8_tune 79 = .ok (.ireturn, 1) := by decide +kernel
theorem dX8_tune_80 : decode cX8_tune 80 = .ok (.aload_n 0, 1) := by decide +kernel
theorem dX8_tune_81 : decode cX8_tune 81 = .ok (.getfield 30, 3) := by decide +kernel
theorem dX8_tune_84 : decode cX8_tune 84 = .ok (.getfield 118, 3) := by decide +kernel
theorem dX8_tune_87 : decode cX8_tune 87 = .ok (.iload_n 1, 1) := by decide +kernel
theorem dX8_tune_88 : decode cX8_tune 88 = .ok (.iaload, 1) := by decide +kernel
theorem dX8_tune_89 : decode cX8_tune 89 = .ok (.ireturn, 1) := by decide +kernel
theorem dX8_tune_90 : decode cX8_tune 90 = .ok (.aload_n 0, 1) := by decide +kernel
theorem dX8_tune_91 : decode cX8_tune 91 = .ok (.getfield 30, 3) := by decide +kernel
theorem dX8_tune_94 : decode cX8_tune 94 = .ok (.getfield 125, 3) := by decide +kernel
theorem dX8_tune_97 : decode cX8_tune 97 = .ok (.iload_n 1, 1) := by decide +kernel
theorem dX8_tune_98 : decode cX8_tune 98 = .ok (.iaload, 1) := by decide +kernel
theorem dX8_tune_99 : decode cX8_tune 99 = .ok (.ireturn, 1) := by decide +kernel
theorem dX8_tune_100 : decode cX8_tune 100 = .ok (.aload_n 0, 1) := by decide +kernel
theorem dX8_tune_101 : decode cX8_tune 101 = .ok (.getfield 30, 3) := by decide +kernel
theorem dX8_tune_104 : decode cX8_tune 104 = .ok (.getfield 128, 3) := by decide +kernel
theorem dX8_tune_107 : decode cX8_tune 107 = .ok (.iload_n 1, 1) := by decide +kernel
theorem dX8_tune_108 : decode cX8_tune 108 = .ok (.iaload, 1) := by decide +kernel
theorem dX8_tune_109 : decode cX8_tune 109 = .ok (.ireturn, 1) := by decide +kernel
theorem dX8_tune_110 : decode cX8_tune 110 = .ok (.aload_n 0, 1) := by decide +kernel
theorem dX8_tune_111 : decode cX8_tune 111 = .ok (.getfield 30, 3) := by decide +kernel
theorem dX8_tune_114 : decode cX8_tune 114 = .ok (.getfield 131, 3) := by decide +kernel
theorem dX8_tune_117 : decode cX8_tune 117 = .ok (.iload_n 1, 1) := by decide +kernel
theorem dX8_tune_118 : decode cX8_tune 118 = .ok (.iaload, 1) := by decide +kernel
theorem dX8_tune_119 : decode cX8_tune 119 = .ok (.ireturn, 1) := by decide +kernel
theorem dX8_tune_120 : decode cX8_tune 120 = .ok (.bipush (-2), 2) := by decide +kernel
theorem dX8_tune_122 : decode cX8_tune 122 = .ok (.ireturn, 1) := by decide +kernel
theorem dX8_tunesWith_0 : decode cX8_tunesWith 0 = .ok (.iconst 0, 1) := by decide +kernel
theorem dX8_tunesWith_1 : decode cX8_tunesWith 1 = .ok (.istore 5, 2) := by decide +kernel
theorem dX8_tunesWith_3 : decode cX8_tunesWith 3 = .ok (.iconst 0, 1) := by decide +kernel
theorem dX8_tunesWith_4 : decode cX8_tunesWith 4 = .ok (.istore 6, 2) := by decide +kernel
theorem dX8_tunesWith_6 : decode cX8_tunesWith 6 = .ok (.iload 6, 2) := by decide +kernel
theorem dX8_tunesWith_8 : decode cX8_tunesWith 8 = .ok (.aload_n 0, 1) := by decide +kernel
theorem dX8_tunesWith_9 : decode cX8_tunesWith 9 = .ok (.getfield 23, 3) := by decide +kernel
theorem dX8_tunesWith_12 : decode cX8_tunesWith 12 = .ok (.getfield 108, 3) := by decide +kernel
theorem dX8_tunesWith_15 : decode cX8_tunesWith 15 = .ok (.if_icmp .ge 73, 3) := by decide +kernel
theorem dX8_tunesWith_18 : decode cX8_tunesWith 18 = .ok (.aload_n 0, 1) := by decide +kernel
theorem dX8_tunesWith_19 : decode cX8_tunesWith 19 = .ok (.getfield 30, 3) := by decide +kernel
theorem dX8_tunesWith_22 : decode cX8_tunesWith 22 = .ok (.getfield 118, 3) := by decide +kernel
theorem dX8_tunesWith_25 : decode cX8_tunesWith 25 = .ok (.iload 6, 2) := by decide +kernel
theorem dX8_tunesWith_27 : decode cX8_tunesWith 27 = .ok (.iaload, 1) := by decide +kernel
theorem dX8_tunesWith_28 : decode cX8_tunesWith 28 = .ok (.istore 7, 2) := by decide +kernel
theorem dX8_tunesWith_30 : decode cX8_tunesWith 30 = .ok (.iload 4, 2) := by decide +kernel
theorem dX8_tunesWith_32 : decode cX8_tunesWith 32 = .ok (.ifCond .eq 19, 3) := by decide +kernel
theorem dX8_tunesWith_35 : decode cX8_tunesWith 35 = .ok (.aload_n 0, 1) := by decide +kernel
theorem dX8_tunesWith_36 : decode cX8_tunesWith 36 = .ok (.getfield 23, 3) := by decide +kernel
theorem dX8_tunesWith_39 : decode cX8_tunesWith 39 = .ok (.iload 6, 2) := by decide +kernel
theorem dX8_tunesWith_41 : decode cX8_tunesWith 41 = .ok (.iload 7, 2) := by decide +kernel
theorem dX8_tunesWith_43 : decode cX8_tunesWith 43 = .ok (.invokevirtual 121, 3) := by decide +kernel
theorem dX8_tunesWith_46 : decode cX8_tunesWith 46 = .ok (.iconst 3, 1) := by decide +kernel
theorem dX8_tunesWith_47 : decode cX8_tunesWith 47 = .ok (.isub, 1) := by decide +kernel
theorem dX8_tunesWith_48 : decode cX8_tunesWith 48 = .ok (.goto 4, 3) := by decide +kernel
theorem dX8_tunesWith_51 : decode cX8_tunesWith 51 = .ok (.iconst 0, 1) := by decide +kernel
theorem dX8_tunesWith_52 : decode cX8_tunesWith 52 = .ok (.istore 8, 2) := by decide +kernel
theorem dX8_tunesWith_54 : decode cX8_tunesWith 54 = .ok (.aload_n 0, 1) := by decide +kernel
theorem dX8_tunesWith_55 : decode cX8_tunesWith 55 = .ok (.getfield 23, 3) := by decide +kernel
theorem dX8_tunesWith_58 : decode cX8_tunesWith 58 = .ok (.iload 6, 2) := by decide +kernel
theorem dX8_tunesWith_60 : decode cX8_tunesWith 60 = .ok (.iload 7, 2) := by decide +kernel
theorem dX8_tunesWith_62 : decode cX8_tunesWith 62 = .ok (.iload 8, 2) := by decide +kernel
theorem dX8_tunesWith_64 : decode cX8_tunesWith 64 = .ok (.iload_n 1, 1) := by decide +kernel
theorem dX8_tunesWith_65 : decode cX8_tunesWith 65 = .ok (.iload_n 2, 1) := by decide +kernel
theorem dX8_tunesWith_66 : decode cX8_tunesWith 66 = .ok (.iload_n 3, 1) := by decide +kernel
theorem dX8_tunesWith_67 : decode cX8_tunesWith 67 = .ok (.invokevirtual 311, 3) := by decide +kernel
theorem dX8_tunesWith_70 : decode cX8_tunesWith 70 = .ok (.ifCond .eq 12, 3) := by decide +kernel
theorem dX8_tunesWith_73 : decode cX8_tunesWith 73 = .ok (.iload 5, 2) := by decide +kernel
theorem dX8_tunesWith_75 : decode cX8_tunesWith 75 = .ok (.iconst 1, 1) := by decide +kernel
theorem dX8_tunesWith_76 : decode cX8_tunesWith 76 = .ok (.iload 6, 2) := by decide +kernel
theorem dX8_tunesWith_78 : decode cX8_tunesWith 78 = .ok (.ishl, 1) := by decide +kernel
theorem dX8_tunesWith_79 : decode cX8_tunesWith 79 = .ok (.ior, 1) := by decide +kernel
theorem dX8_tunesWith_80 : decode cX8_tunesWith 80 = .ok (.istore 5, 2) := by decide +kernel
theorem dX8_tunesWith_82 : decode cX8_tunesWith 82 = .ok (.iinc 6 1, 3) := by decide +kernel
theorem dX8_tunesWith_85 : decode cX8_tunesWith 85 = .ok (.goto (-79), 3) := by decide +kernel
theorem dX8_tunesWith_88 : decode cX8_tunesWith 88 = .ok (.iload 5, 2) := by decide +kernel
theorem dX8_tunesWith_90 : decode cX8_tunesWith 90 = .ok (.ireturn, 1) := by decide +kernel
theorem dX8_undo_0 : decode cX8_undo 0 = .ok (.aload_n 0, 1) := by decide +kernel
theorem dX8_undo_1 : decode cX8_undo 1 = .ok (.getfield 40, 3) := by decide +kernel
theorem dX8_undo_4 : decode cX8_undo 4 = .ok (.aload_n 0, 1) := by decide +kernel
theorem dX8_undo_5 : decode cX8_undo 5 = .ok (.getfield 30, 3) := by decide +kernel
theorem dX8_undo_8 : decode cX8_undo 8 = .ok (.invokevirtual 205, 3) := by decide +kernel
theorem dX8_undo_11 : decode cX8_undo 11 = .ok (.ireturn, 1) := by decide +kernel
theorem dX8_untell_0 : decode cX8_untell 0 = .ok (.aload_n 0, 1) := by decide +kernel
theorem dX8_untell_1 : decode cX8_untell 1 = .ok (.getfield 55, 3) := by decide +kernel
theorem dX8_untell_4 : decode cX8_untell 4 = .ok (.iload_n 1, 1) := by decide +kernel
theorem dX8_untell_5 : decode cX8_untell 5 = .ok (.aload_n 0, 1) := by decide +kernel
theorem dX8_untell_6 : decode cX8_untell 6 = .ok (.getfield 321, 3) := by decide +kernel
theorem dX8_untell_9 : decode cX8_untell 9 = .ok (.invokevirtual 328, 3) := by decide +kernel
theorem dX8_untell_12 : decode cX8_untell 12 = .ok (.ireturn, 1) := by decide +kernel
theorem dX8_walk_0 : decode cX8_walk 0 = .ok (.iload_n 1, 1) := by decide +kernel
theorem dX8_walk_1 : decode cX8_walk 1 = .ok (.invokestatic 260, 3) := by decide +kernel
theorem dX8_walk_4 : decode cX8_walk 4 = .ok (.ifCond .ne 5, 3) := by decide +kernel
theorem dX8_walk_7 : decode cX8_walk 7 = .ok (.iconst (-1), 1) := by decide +kernel
theorem dX8_walk_8 : decode cX8_walk 8 = .ok (.ireturn, 1) := by decide +kernel
theorem dX8_walk_9 : decode cX8_walk 9 = .ok (.sipush 400, 3) := by decide +kernel
theorem dX8_walk_12 : decode cX8_walk 12 = .ok (.istore_n 2, 1) := by decide +kernel
theorem dX8_walk_13 : decode cX8_walk 13 = .ok (.aload_n 0, 1) := by decide +kernel
theorem dX8_walk_14 : decode cX8_walk 14 = .ok (.aload_n 0, 1) := by decide +kernel
theorem dX8_walk_15 : decode cX8_walk 15 = .ok (.getfield 23, 3) := by decide +kernel
theorem dX8_walk_18 : decode cX8_walk 18 = .ok (.getfield 99, 3) := by decide +kernel
theorem dX8_walk_21 : decode cX8_walk 21 = .ok (.invokevirtual 241, 3) := by decide +kernel
theorem dX8_walk_24 : decode cX8_walk 24 = .ok (.istore_n 3, 1) := by decide +kernel
theorem dX8_walk_25 : decode cX8_walk 25 = .ok (.iconst 0, 1) := by decide +kernel
theorem dX8_walk_26 : decode cX8_walk 26 = .ok (.istore 4, 2) := by decide +kernel
theorem dX8_walk_28 : decode cX8_walk 28 = .ok (.iload 4, 2) := by decide +kernel
theorem dX8_walk_30 : decode cX8_walk 30 = .ok (.iload_n 3, 1) := by decide +kernel
theorem dX8_walk_31 : decode cX8_walk 31 = .ok (.if_icmp .ge 55, 3) := by decide +kernel
theorem dX8_walk_34 : decode cX8_walk 34 = .ok (.aload_n 0, 1) := by decide +kernel
theorem dX8_walk_35 : decode cX8_walk 35 = .ok (.iload 4, 2) := by decide +kernel
theorem dX8_walk_37 : decode cX8_walk 37 = .ok (.aload_n 0, 1) := by decide +kernel
theorem dX8_walk_38 : decode cX8_walk 38 = .ok (.getfield 23, 3) := by decide +kernel
theorem dX8_walk_41 : decode cX8_walk 41 = .ok (.getfield 99, 3) := by decide +kernel
theorem dX8_walk_44 : decode cX8_walk 44 = .ok (.invokevirtual 244, 3) := by decide +kernel
theorem dX8_walk_47 : decode cX8_walk 47 = .ok (.aload_n 0, 1) := by decide +kernel
theorem dX8_walk_48 : decode cX8_walk 48 = .ok (.invokevirtual 263, 3) := by decide +kernel
theorem dX8_walk_51 : decode cX8_walk 51 = .ok (.ifCond .eq 11, 3) := by decide +kernel
theorem dX8_walk_54 : decode cX8_walk 54 = .ok (.aload_n 0, 1) := by decide +kernel
theorem dX8_walk_55 : decode cX8_walk 55 = .ok (.iload_n 1, 1) := by decide +kernel
theorem dX8_walk_56 : decode cX8_walk 56 = .ok (.invokevirtual 267, 3) := by decide +kernel
theorem dX8_walk_59 : decode cX8_walk 59 = .ok (.goto 6, 3) := by decide +kernel
theorem dX8_walk_62 : decode cX8_walk 62 = .ok (.sipush 400, 3) := by decide +kernel
theorem dX8_walk_65 : decode cX8_walk 65 = .ok (.istore 5, 2) := by decide +kernel
theorem dX8_walk_67 : decode cX8_walk 67 = .ok (.iload 5, 2) := by decide +kernel
theorem dX8_walk_69 : decode cX8_walk 69 = .ok (.iload_n 2, 1) := by decide +kernel
theorem dX8_walk_70 : decode cX8_walk 70 = .ok (.if_icmp .ge 10, 3) := by decide +kernel
theorem dX8_walk_73 : decode cX8_walk 73 = .ok (.iload 5, 2) := by decide +kernel
theorem dX8_walk_75 : decode cX8_walk 75 = .ok (.istore_n 2, 1) := by decide +kernel
theorem dX8_walk_76 : decode cX8_walk 76 = .ok (.aload_n 0, 1) := by decide +kernel
theorem dX8_walk_77 : decode cX8_walk 77 = .ok (.invokevirtual 253, 3) := by decide +kernel
theorem dX8_walk_80 : decode cX8_walk 80 = .ok (.iinc 4 1, 3) := by decide +kernel
theorem dX8_walk_83 : decode cX8_walk 83 = .ok (.goto (-55), 3) := by decide +kernel
theorem dX8_walk_86 : decode cX8_walk 86 = .ok (.iload_n 2, 1) := by decide +kernel
theorem dX8_walk_87 : decode cX8_walk 87 = .ok (.ireturn, 1) := by decide +kernel
theorem dX8_wayFrom_0 : decode cX8_wayFrom 0 = .ok (.iconst 0, 1) := by decide +kernel
theorem dX8_wayFrom_1 : decode cX8_wayFrom 1 = .ok (.istore_n 2, 1) := by decide +kernel
theorem dX8_wayFrom_2 : decode cX8_wayFrom 2 = .ok (.iload_n 1, 1) := by decide +kernel
theorem dX8_wayFrom_3 : decode cX8_wayFrom 3 = .ok (.istore_n 3, 1) := by decide +kernel
theorem dX8_wayFrom_4 : decode cX8_wayFrom 4 = .ok (.iconst 0, 1) := by decide +kernel
theorem dX8_wayFrom_5 : decode cX8_wayFrom 5 = .ok (.istore 4, 2) := by decide +kernel
theorem dX8_wayFrom_7 : decode cX8_wayFrom 7 = .ok (.iload 4, 2) := by decide +kernel
theorem dX8_wayFrom_9 : decode cX8_wayFrom 9 = .ok (.aload_n 0, 1) := by decide +kernel
theorem dX8_wayFrom_10 : decode cX8_wayFrom 10 = .ok (.getfield 23, 3) := by decide +kernel
theorem dX8_wayFrom_13 : decode cX8_wayFrom 13 = .ok (.getfield 99, 3) := by decide +kernel
theorem dX8_wayFrom_16 : decode cX8_wayFrom 16 = .ok (.if_icmp .ge 39, 3) := by decide +kernel
theorem dX8_wayFrom_19 : decode cX8_wayFrom 19 = .ok (.aload_n 0, 1) := by decide +kernel
theorem dX8_wayFrom_20 : decode cX8_wayFrom 20 = .ok (.getfield 23, 3) := by decide +kernel
theorem dX8_wayFrom_23 : decode cX8_wayFrom 23 = .ok (.getfield 141, 3) := by decide +kernel
theorem dX8_wayFrom_26 : decode cX8_wayFrom 26 = .ok (.aload_n 0, 1) := by decide +kernel
theorem dX8_wayFrom_27 : decode cX8_wayFrom 27 = .ok (.getfield 62, 3) := by decide +kernel
theorem dX8_wayFrom_30 : decode cX8_wayFrom 30 = .ok (.iload 4, 2) := by decide +kernel
theorem dX8_wayFrom_32 : decode cX8_wayFrom 32 = .ok (.iaload, 1) := by decide +kernel
theorem dX8_wayFrom_33 : decode cX8_wayFrom 33 = .ok (.iaload, 1) := by decide +kernel
theorem dX8_wayFrom_34 : decode cX8_wayFrom 34 = .ok (.istore 5, 2) := by decide +kernel
theorem dX8_wayFrom_36 : decode cX8_wayFrom 36 = .ok (.iload_n 2, 1) := by decide +kernel
theorem dX8_wayFrom_37 : decode cX8_wayFrom 37 = .ok (.iload 5, 2) := by decide +kernel
theorem dX8_wayFrom_39 : decode cX8_wayFrom 39 = .ok (.iload_n 3, 1) := by decide +kernel
theorem dX8_wayFrom_40 : decode cX8_wayFrom 40 = .ok (.isub, 1) := by decide +kernel
theorem dX8_wayFrom_41 : decode cX8_wayFrom 41 = .ok (.invokestatic 270, 3) := by decide +kernel
theorem dX8_wayFrom_44 : decode cX8_wayFrom 44 = .ok (.iadd, 1) := by decide +kernel
theorem dX8_wayFrom_45 : decode cX8_wayFrom 45 = .ok (.istore_n 2, 1) := by decide +kernel
theorem dX8_wayFrom_46 : decode cX8_wayFrom 46 = .ok (.iload 5, 2) := by decide +kernel
theorem dX8_wayFrom_48 : decode cX8_wayFrom 48 = .ok (.istore_n 3, 1) := by decide +kernel
theorem dX8_wayFrom_49 : decode cX8_wayFrom 49 = .ok (.iinc 4 1, 3) := by decide +kernel
theorem dX8_wayFrom_52 : decode cX8_wayFrom 52 = .ok (.goto (-45), 3) := by decide +kernel
theorem dX8_wayFrom_55 : decode cX8_wayFrom 55 = .ok (.iload_n 2, 1) := by decide +kernel
theorem dX8_wayFrom_56 : decode cX8_wayFrom 56 = .ok (.ireturn, 1) := by decide +kernel
theorem dX8_week_0 : decode cX8_week 0 = .ok (.aload_n 0, 1) := by decide +kernel
theorem dX8_week_1 : decode cX8_week 1 = .ok (.getfield 30, 3) := by decide +kernel
theorem dX8_week_4 : decode cX8_week 4 = .ok (.getfield 168, 3) := by decide +kernel
theorem dX8_week_7 : decode cX8_week 7 = .ok (.sipush 999, 3) := by decide +kernel
theorem dX8_week_10 : decode cX8_week 10 = .ok (.if_icmp .lt 5, 3) := by decide +kernel
theorem dX8_week_13 : decode cX8_week 13 = .ok (.iconst (-1), 1) := by decide +kernel
theorem dX8_week_14 : decode cX8_week 14 = .ok (.ireturn, 1) := by decide +kernel
theorem dX8_week_15 : decode cX8_week 15 = .ok (.aload_n 0, 1) := by decide +kernel
theorem dX8_week_16 : decode cX8_week 16 = .ok (.aload_n 0, 1) := by decide +kernel

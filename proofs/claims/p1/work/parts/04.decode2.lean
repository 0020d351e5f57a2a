theorem dX6_scanToken_73 : decode cX6_scanToken 73 = .ok (.if_icmp .lt 5, 3) := by decide +kernel
theorem dX6_scanToken_76 : decode cX6_scanToken 76 = .ok (.iconst 1, 1) := by decide +kernel
theorem dX6_scanToken_77 : decode cX6_scanToken 77 = .ok (.ireturn, 1) := by decide +kernel
theorem dX7_backOnCart_0 : decode cX7_backOnCart 0 = .ok (.aload_n 0, 1) := by decide +kernel
theorem dX7_backOnCart_1 : decode cX7_backOnCart 1 = .ok (.getfield 9, 3) := by decide +kernel
theorem dX7_backOnCart_4 : decode cX7_backOnCart 4 = .ok (.iload_n 1, 1) := by decide +kernel
theorem dX7_backOnCart_5 : decode cX7_backOnCart 5 = .ok (.iconst (-1), 1) := by decide +kernel
theorem dX7_backOnCart_6 : decode cX7_backOnCart 6 = .ok (.iastore, 1) := by decide +kernel
theorem dX7_backOnCart_7 : decode cX7_backOnCart 7 = .ok (.aload_n 0, 1) := by decide +kernel
theorem dX7_backOnCart_8 : decode cX7_backOnCart 8 = .ok (.getfield 15, 3) := by decide +kernel
theorem dX7_backOnCart_11 : decode cX7_backOnCart 11 = .ok (.iload_n 1, 1) := by decide +kernel
theorem dX7_backOnCart_12 : decode cX7_backOnCart 12 = .ok (.iconst 0, 1) := by decide +kernel
theorem dX7_backOnCart_13 : decode cX7_backOnCart 13 = .ok (.iastore, 1) := by decide +kernel
theorem dX7_backOnCart_14 : decode cX7_backOnCart 14 = .ok (.aload_n 0, 1) := by decide +kernel
theorem dX7_backOnCart_15 : decode cX7_backOnCart 15 = .ok (.getfield 21, 3) := by decide +kernel
theorem dX7_backOnCart_18 : decode cX7_backOnCart 18 = .ok (.iload_n 1, 1) := by decide +kernel
theorem dX7_backOnCart_19 : decode cX7_backOnCart 19 = .ok (.iconst 0, 1) := by decide +kernel
theorem dX7_backOnCart_20 : decode cX7_backOnCart 20 = .ok (.iastore, 1) := by decide +kernel
theorem dX7_backOnCart_21 : decode cX7_backOnCart 21 = .ok (.return_, 1) := by decide +kernel
theorem dX7_begin_0 : decode cX7_begin 0 = .ok (.iconst 0, 1) := by decide +kernel
theorem dX7_begin_1 : decode cX7_begin 1 = .ok (.istore_n 2, 1) := by decide +kernel
theorem dX7_begin_2 : decode cX7_begin 2 = .ok (.iload_n 2, 1) := by decide +kernel
theorem dX7_begin_3 : decode cX7_begin 3 = .ok (.iconst 5, 1) := by decide +kernel
theorem dX7_begin_4 : decode cX7_begin 4 = .ok (.if_icmp .ge 21, 3) := by decide +kernel
theorem dX7_begin_7 : decode cX7_begin 7 = .ok (.aload_n 0, 1) := by decide +kernel
theorem dX7_begin_8 : decode cX7_begin 8 = .ok (.iload_n 2, 1) := by decide +kernel
theorem dX7_begin_9 : decode cX7_begin 9 = .ok (.invokevirtual 27, 3) := by decide +kernel
theorem dX7_begin_12 : decode cX7_begin 12 = .ok (.aload_n 0, 1) := by decide +kernel
theorem dX7_begin_13 : decode cX7_begin 13 = .ok (.getfield 18, 3) := by decide +kernel
theorem dX7_begin_16 : decode cX7_begin 16 = .ok (.iload_n 2, 1) := by decide +kernel
theorem dX7_begin_17 : decode cX7_begin 17 = .ok (.iconst 0, 1) := by decide +kernel
theorem dX7_begin_18 : decode cX7_begin 18 = .ok (.iastore, 1) := by decide +kernel
theorem dX7_begin_19 : decode cX7_begin 19 = .ok (.iinc 2 1, 3) := by decide +kernel
theorem dX7_begin_22 : decode cX7_begin 22 = .ok (.goto (-20), 3) := by decide +kernel
theorem dX7_begin_25 : decode cX7_begin 25 = .ok (.iconst 0, 1) := by decide +kernel
theorem dX7_begin_26 : decode cX7_begin 26 = .ok (.istore_n 2, 1) := by decide +kernel
theorem dX7_begin_27 : decode cX7_begin 27 = .ok (.iload_n 2, 1) := by decide +kernel
theorem dX7_begin_28 : decode cX7_begin 28 = .ok (.iconst 4, 1) := by decide +kernel
theorem dX7_begin_29 : decode cX7_begin 29 = .ok (.if_icmp .ge 33, 3) := by decide +kernel
theorem dX7_begin_32 : decode cX7_begin 32 = .ok (.aload_n 0, 1) := by decide +kernel
theorem dX7_begin_33 : decode cX7_begin 33 = .ok (.getfield 24, 3) := by decide +kernel
theorem dX7_begin_36 : decode cX7_begin 36 = .ok (.iload_n 2, 1) := by decide +kernel
theorem dX7_begin_37 : decode cX7_begin 37 = .ok (.iload_n 2, 1) := by decide +kernel
theorem dX7_begin_38 : decode cX7_begin 38 = .ok (.aload_n 1, 1) := by decide +kernel
theorem dX7_begin_39 : decode cX7_begin 39 = .ok (.getfield 31, 3) := by decide +kernel
theorem dX7_begin_42 : decode cX7_begin 42 = .ok (.if_icmp .ge 12, 3) := by decide +kernel
theorem dX7_begin_54 : decode cX7_begin 54 = .ok (.iconst 0, 1) := by decide +kernel
theorem dX7_begin_55 : decode cX7_begin 55 = .ok (.iastore, 1) := by decide +kernel
theorem dX7_begin_56 : decode cX7_begin 56 = .ok (.iinc 2 1, 3) := by decide +kernel
theorem dX7_begin_59 : decode cX7_begin 59 = .ok (.goto (-32), 3) := by decide +kernel
theorem dX7_begin_62 : decode cX7_begin 62 = .ok (.aload_n 0, 1) := by decide +kernel
theorem dX7_begin_63 : decode cX7_begin 63 = .ok (.iconst 0, 1) := by decide +kernel
theorem dX7_begin_64 : decode cX7_begin 64 = .ok (.putfield 38, 3) := by decide +kernel
theorem dX7_begin_67 : decode cX7_begin 67 = .ok (.aload_n 0, 1) := by decide +kernel
theorem dX7_begin_68 : decode cX7_begin 68 = .ok (.aload_n 1, 1) := by decide +kernel
theorem dX7_begin_69 : decode cX7_begin 69 = .ok (.getfield 41, 3) := by decide +kernel
theorem dX7_begin_72 : decode cX7_begin 72 = .ok (.putfield 44, 3) := by decide +kernel
theorem dX7_begin_75 : decode cX7_begin 75 = .ok (.return_, 1) := by decide +kernel
theorem dX7_init_0 : decode cX7_init 0 = .ok (.aload_n 0, 1) := by decide +kernel
theorem dX7_init_1 : decode cX7_init 1 = .ok (.invokespecial 3, 3) := by decide +kernel
theorem dX7_init_4 : decode cX7_init 4 = .ok (.aload_n 0, 1) := by decide +kernel
theorem dX7_init_5 : decode cX7_init 5 = .ok (.iconst 5, 1) := by decide +kernel
theorem dX7_init_6 : decode cX7_init 6 = .ok (.newarray .int, 2) := by decide +kernel
theorem dX7_init_8 : decode cX7_init 8 = .ok (.putfield 9, 3) := by decide +kernel
theorem dX7_init_11 : decode cX7_init 11 = .ok (.aload_n 0, 1) := by decide +kernel
theorem dX7_init_12 : decode cX7_init 12 = .ok (.iconst 5, 1) := by decide +kernel
theorem dX7_init_13 : decode cX7_init 13 = .ok (.newarray .int, 2) := by decide +kernel
theorem dX7_init_15 : decode cX7_init 15 = .ok (.putfield 15, 3) := by decide +kernel
theorem dX7_init_18 : decode cX7_init 18 = .ok (.aload_n 0, 1) := by decide +kernel
theorem dX7_init_19 : decode cX7_init 19 = .ok (.iconst 5, 1) := by decide +kernel
theorem dX7_init_20 : decode cX7_init 20 = .ok (.newarray .int, 2) := by decide +kernel
theorem dX7_init_22 : decode cX7_init 22 = .ok (.putfield 18, 3) := by decide +kernel
theorem dX7_init_25 : decode cX7_init 25 = .ok (.aload_n 0, 1) := by decide +kernel
theorem dX7_init_26 : decode cX7_init 26 = .ok (.iconst 5, 1) := by decide +kernel
theorem dX7_init_27 : decode cX7_init 27 = .ok (.newarray .int, 2) := by decide +kernel
theorem dX7_init_29 : decode cX7_init 29 = .ok (.putfield 21, 3) := by decide +kernel
theorem dX7_init_32 : decode cX7_init 32 = .ok (.aload_n 0, 1) := by decide +kernel
theorem dX7_init_33 : decode cX7_init 33 = .ok (.iconst 4, 1) := by decide +kernel
theorem dX7_init_34 : decode cX7_init 34 = .ok (.newarray .int, 2) := by decide +kernel
theorem dX7_init_36 : decode cX7_init 36 = .ok (.putfield 24, 3) := by decide +kernel
theorem dX7_init_39 : decode cX7_init 39 = .ok (.return_, 1) := by decide +kernel
theorem dX7_writeTo_0 : decode cX7_writeTo 0 = .ok (.iload_n 2, 1) := by decide +kernel
theorem dX7_writeTo_1 : decode cX7_writeTo 1 = .ok (.bipush 26, 2) := by decide +kernel
theorem dX7_writeTo_3 : decode cX7_writeTo 3 = .ok (.imul, 1) := by decide +kernel
theorem dX7_writeTo_4 : decode cX7_writeTo 4 = .ok (.istore_n 3, 1) := by decide +kernel
theorem dX7_writeTo_5 : decode cX7_writeTo 5 = .ok (.iload_n 3, 1) := by decide +kernel
theorem dX7_writeTo_6 : decode cX7_writeTo 6 = .ok (.ifCond .lt 12, 3) := by decide +kernel
theorem dX7_writeTo_9 : decode cX7_writeTo 9 = .ok (.iload_n 3, 1) := by decide +kernel
theorem dX7_writeTo_10 : decode cX7_writeTo 10 = .ok (.bipush 26, 2) := by decide +kernel
theorem dX7_writeTo_12 : decode cX7_writeTo 12 = .ok (.iadd, 1) := by decide +kernel
theorem dX7_writeTo_13 : decode cX7_writeTo 13 = .ok (.aload_n 1, 1) := by decide +kernel
theorem dX7_writeTo_14 : decode cX7_writeTo 14 = .ok (.arraylength, 1) := by decide +kernel
theorem dX7_writeTo_15 : decode cX7_writeTo 15 = .ok (.if_icmp .le 4, 3) := by decide +kernel
theorem dX7_writeTo_19 : decode cX7_writeTo 19 = .ok (.aload_n 0, 1) := by decide +kernel
theorem dX7_writeTo_20 : decode cX7_writeTo 20 = .ok (.getfield 9, 3) := by decide +kernel
theorem dX7_writeTo_23 : decode cX7_writeTo 23 = .ok (.iconst 0, 1) := by decide +kernel
theorem dX7_writeTo_24 : decode cX7_writeTo 24 = .ok (.aload_n 1, 1) := by decide +kernel
theorem dX7_writeTo_25 : decode cX7_writeTo 25 = .ok (.iload_n 3, 1) := by decide +kernel
theorem dX7_writeTo_26 : decode cX7_writeTo 26 = .ok (.iconst 5, 1) := by decide +kernel
theorem dX7_writeTo_27 : decode cX7_writeTo 27 = .ok (.invokestatic 54, 3) := by decide +kernel
theorem dX7_writeTo_30 : decode cX7_writeTo 30 = .ok (.aload_n 0, 1) := by decide +kernel
theorem dX7_writeTo_31 : decode cX7_writeTo 31 = .ok (.getfield 15, 3) := by decide +kernel
theorem dX7_writeTo_34 : decode cX7_writeTo 34 = .ok (.iconst 0, 1) := by decide +kernel
theorem dX7_writeTo_35 : decode cX7_writeTo 35 = .ok (.aload_n 1, 1) := by decide +kernel
theorem dX7_writeTo_36 : decode cX7_writeTo 36 = .ok (.iload_n 3, 1) := by decide +kernel
theorem dX7_writeTo_37 : decode cX7_writeTo 37 = .ok (.iconst 5, 1) := by decide +kernel
theorem dX7_writeTo_38 : decode cX7_writeTo 38 = .ok (.iadd, 1) := by decide +kernel
theorem dX7_writeTo_39 : decode cX7_writeTo 39 = .ok (.iconst 5, 1) := by decide +kernel
theorem dX7_writeTo_40 : decode cX7_writeTo 40 = .ok (.invokestatic 54, 3) := by decide +kernel
theorem dX7_writeTo_43 : decode cX7_writeTo 43 = .ok (.aload_n 0, 1) := by decide +kernel
theorem dX7_writeTo_44 : decode cX7_writeTo 44 = .ok (.getfield 18, 3) := by decide +kernel
theorem dX7_writeTo_47 : decode cX7_writeTo 47 = .ok (.iconst 0, 1) := by decide +kernel
theorem dX7_writeTo_48 : decode cX7_writeTo 48 = .ok (.aload_n 1, 1) := by decide +kernel
theorem dX7_writeTo_49 : decode cX7_writeTo 49 = .ok (.iload_n 3, 1) := by decide +kernel
theorem dX7_writeTo_50 : decode cX7_writeTo 50 = .ok (.bipush 10, 2) := by decide +kernel
theorem dX7_writeTo_52 : decode cX7_writeTo 52 = .ok (.iadd, 1) := by decide +kernel
theorem dX7_writeTo_53 : decode cX7_writeTo 53 = .ok (.iconst 5, 1) := by decide +kernel
theorem dX7_writeTo_54 : decode cX7_writeTo 54 = .ok (.invokestatic 54, 3) := by decide +kernel
theorem dX7_writeTo_57 : decode cX7_writeTo 57 = .ok (.aload_n 0, 1) := by decide +kernel
theorem dX7_writeTo_58 : decode cX7_writeTo 58 = .ok (.getfield 21, 3) := by decide +kernel
theorem dX7_writeTo_61 : decode cX7_writeTo 61 = .ok (.iconst 0, 1) := by decide +kernel
theorem dX7_writeTo_62 : decode cX7_writeTo 62 = .ok (.aload_n 1, 1) := by decide +kernel
theorem dX7_writeTo_63 : decode cX7_writeTo 63 = .ok (.iload_n 3, 1) := by decide +kernel
theorem dX7_writeTo_64 : decode cX7_writeTo 64 = .ok (.bipush 15, 2) := by decide +kernel
theorem dX7_writeTo_66 : decode cX7_writeTo 66 = .ok (.iadd, 1) := by decide +kernel
theorem dX7_writeTo_67 : decode cX7_writeTo 67 = .ok (.iconst 5, 1) := by decide +kernel
theorem dX7_writeTo_68 : decode cX7_writeTo 68 = .ok (.invokestatic 54, 3) := by decide +kernel
theorem dX7_writeTo_71 : decode cX7_writeTo 71 = .ok (.aload_n 0, 1) := by decide +kernel
theorem dX7_writeTo_72 : decode cX7_writeTo 72 = .ok (.getfield 24, 3) := by decide +kernel
theorem dX7_writeTo_75 : decode cX7_writeTo 75 = .ok (.iconst 0, 1) := by decide +kernel
theorem dX7_writeTo_76 : decode cX7_writeTo 76 = .ok (.aload_n 1, 1) := by decide +kernel
theorem dX7_writeTo_77 : decode cX7_writeTo 77 = .ok (.iload_n 3, 1) := by decide +kernel
theorem dX7_writeTo_78 : decode cX7_writeTo 78 = .ok (.bipush 20, 2) := by decide +kernel
theorem dX7_writeTo_80 : decode cX7_writeTo 80 = .ok (.iadd, 1) := by decide +kernel
theorem dX7_writeTo_81 : decode cX7_writeTo 81 = .ok (.iconst 4, 1) := by decide +kernel
theorem dX7_writeTo_82 : decode cX7_writeTo 82 = .ok (.invokestatic 54, 3) := by decide +kernel
theorem dX7_writeTo_85 : decode cX7_writeTo 85 = .ok (.aload_n 1, 1) := by decide +kernel
theorem dX7_writeTo_86 : decode cX7_writeTo 86 = .ok (.iload_n 3, 1) := by decide +kernel
theorem dX7_writeTo_87 : decode cX7_writeTo 87 = .ok (.bipush 26, 2) := by decide +kernel
theorem dX7_writeTo_89 : decode cX7_writeTo 89 = .ok (.iadd, 1) := by decide +kernel
theorem dX7_writeTo_90 : decode cX7_writeTo 90 = .ok (.iconst 2, 1) := by decide +kernel
theorem dX7_writeTo_91 : decode cX7_writeTo 91 = .ok (.isub, 1) := by decide +kernel
theorem dX7_writeTo_92 : decode cX7_writeTo 92 = .ok (.aload_n 0, 1) := by decide +kernel
theorem dX7_writeTo_93 : decode cX7_writeTo 93 = .ok (.getfield 38, 3) := by decide +kernel
theorem dX7_writeTo_96 : decode cX7_writeTo 96 = .ok (.iastore, 1) := by decide +kernel
theorem dX7_writeTo_97 : decode cX7_writeTo 97 = .ok (.aload_n 1, 1) := by decide +kernel
theorem dX7_writeTo_98 : decode cX7_writeTo 98 = .ok (.iload_n 3, 1) := by decide +kernel
theorem dX7_writeTo_99 : decode cX7_writeTo 99 = .ok (.bipush 26, 2) := by decide +kernel
theorem dX7_writeTo_101 : decode cX7_writeTo 101 = .ok (.iadd, 1) := by decide +kernel
theorem dX7_writeTo_102 : decode cX7_writeTo 102 = .ok (.iconst 1, 1) := by decide +kernel
theorem dX7_writeTo_103 : decode cX7_writeTo 103 = .ok (.isub, 1) := by decide +kernel
theorem dX7_writeTo_104 : decode cX7_writeTo 104 = .ok (.aload_n 0, 1) := by decide +kernel
theorem dX7_writeTo_105 : decode cX7_writeTo 105 = .ok (.getfield 44, 3) := by decide +kernel
theorem dX7_writeTo_108 : decode cX7_writeTo 108 = .ok (.iastore, 1) := by decide +kernel
theorem dX7_writeTo_109 : decode cX7_writeTo 109 = .ok (.return_, 1) := by decide +kernel
theorem dX8_about_0 : decode cX8_about 0 = .ok (.iload_n 1, 1) := by decide +kernel
theorem dX8_about_1 : decode cX8_about 1 = .ok (.tableswitch 180 0 14 #[75, 83, 91, 99, 104, 109, 117, 125, 133, 141, 149, 154, 159, 167, 172], 75) := by decide +kernel
theorem dX8_about_76 : decode cX8_about 76 = .ok (.aload_n 0, 1) := by decide +kernel
theorem dX8_about_77 : decode cX8_about 77 = .ok (.getfield 23, 3) := by decide +kernel
theorem dX8_about_80 : decode cX8_about 80 = .ok (.getfield 99, 3) := by decide +kernel
theorem dX8_about_83 : decode cX8_about 83 = .ok (.ireturn, 1) := by decide +kernel
theorem dX8_about_84 : decode cX8_about 84 = .ok (.aload_n 0, 1) := by decide +kernel
theorem dX8_about_85 : decode cX8_about 85 = .ok (.getfield 23, 3) := by decide +kernel
theorem dX8_about_88 : decode cX8_about 88 = .ok (.getfield 108, 3) := by decide +kernel
theorem dX8_about_91 : decode cX8_about 91 = .ok (.ireturn, 1) := by decide +kernel
theorem dX8_about_92 : decode cX8_about 92 = .ok (.aload_n 0, 1) := by decide +kernel
theorem dX8_about_93 : decode cX8_about 93 = .ok (.getfield 23, 3) := by decide +kernel
theorem dX8_about_96 : decode cX8_about 96 = .ok (.getfield 188, 3) := by decide +kernel
theorem dX8_about_99 : decode cX8_about 99 = .ok (.ireturn, 1) := by decide +kernel
theorem dX8_about_100 : decode cX8_about 100 = .ok (.aload_n 0, 1) := by decide +kernel
theorem dX8_about_101 : decode cX8_about 101 = .ok (.invokevirtual 237, 3) := by decide +kernel
theorem dX8_about_104 : decode cX8_about 104 = .ok (.ireturn, 1) := by decide +kernel
theorem dX8_about_105 : decode cX8_about 105 = .ok (.aload_n 0, 1) := by decide +kernel
theorem dX8_about_106 : decode cX8_about 106 = .ok (.invokevirtual 301, 3) := by decide +kernel
theorem dX8_about_109 : decode cX8_about 109 = .ok (.ireturn, 1) := by decide +kernel
theorem dX8_about_110 : decode cX8_about 110 = .ok (.aload_n 0, 1) := by decide +kernel
theorem dX8_about_111 : decode cX8_about 111 = .ok (.getfield 30, 3) := by decide +kernel
theorem dX8_about_114 : decode cX8_about 114 = .ok (.getfield 168, 3) := by decide +kernel
theorem dX8_about_117 : decode cX8_about 117 = .ok (.ireturn, 1) := by decide +kernel
theorem dX8_about_118 : decode cX8_about 118 = .ok (.aload_n 0, 1) := by decide +kernel
theorem dX8_about_119 : decode cX8_about 119 = .ok (.getfield 30, 3) := by decide +kernel
theorem dX8_about_122 : decode cX8_about 122 = .ok (.getfield 185, 3) := by decide +kernel
theorem dX8_about_125 : decode cX8_about 125 = .ok (.ireturn, 1) := by decide +kernel
theorem dX8_about_126 : decode cX8_about 126 = .ok (.aload_n 0, 1) := by decide +kernel
theorem dX8_about_127 : decode cX8_about 127 = .ok (.getfield 40, 3) := by decide +kernel
theorem dX8_about_130 : decode cX8_about 130 = .ok (.getfield 349, 3) := by decide +kernel
theorem dX8_about_133 : decode cX8_about 133 = .ok (.ireturn, 1) := by decide +kernel
theorem dX8_about_134 : decode cX8_about 134 = .ok (.aload_n 0, 1) := by decide +kernel
theorem dX8_about_135 : decode cX8_about 135 = .ok (.getfield 40, 3) := by decide +kernel
theorem dX8_about_138 : decode cX8_about 138 = .ok (.getfield 352, 3) := by decide +kernel
theorem dX8_about_141 : decode cX8_about 141 = .ok (.ireturn, 1) := by decide +kernel
theorem dX8_about_142 : decode cX8_about 142 = .ok (.aload_n 0, 1) := by decide +kernel
theorem dX8_about_143 : decode cX8_about 143 = .ok (.getfield 55, 3) := by decide +kernel
theorem dX8_about_146 : decode cX8_about 146 = .ok (.getfield 355, 3) := by decide +kernel
theorem dX8_about_149 : decode cX8_about 149 = .ok (.ireturn, 1) := by decide +kernel
theorem dX8_about_150 : decode cX8_about 150 = .ok (.aload_n 0, 1) := by decide +kernel
theorem dX8_about_151 : decode cX8_about 151 = .ok (.getfield 321, 3) := by decide +kernel
theorem dX8_about_154 : decode cX8_about 154 = .ok (.ireturn, 1) := by decide +kernel
theorem dX8_about_155 : decode cX8_about 155 = .ok (.aload_n 0, 1) := by decide +kernel
theorem dX8_about_156 : decode cX8_about 156 = .ok (.getfield 78, 3) := by decide +kernel
theorem dX8_about_159 : decode cX8_about 159 = .ok (.ireturn, 1) := by decide +kernel
theorem dX8_about_160 : decode cX8_about 160 = .ok (.aload_n 0, 1) := by decide +kernel
theorem dX8_about_161 : decode cX8_about 161 = .ok (.getfield 23, 3) := by decide +kernel
theorem dX8_about_164 : decode cX8_about 164 = .ok (.getfield 358, 3) := by decide +kernel
theorem dX8_about_167 : decode cX8_about 167 = .ok (.ireturn, 1) := by decide +kernel
theorem dX8_about_168 : decode cX8_about 168 = .ok (.aload_n 0, 1) := by decide +kernel
theorem dX8_about_169 : decode cX8_about 169 = .ok (.getfield 96, 3) := by decide +kernel
theorem dX8_about_172 : decode cX8_about 172 = .ok (.ireturn, 1) := by decide +kernel
theorem dX8_about_173 : decode cX8_about 173 = .ok (.aload_n 0, 1) := by decide +kernel
theorem dX8_about_174 : decode cX8_about 174 = .ok (.getfield 23, 3) := by decide +kernel
theorem dX8_about_177 : decode cX8_about 177 = .ok (.getfield 171, 3) := by decide +kernel
theorem dX8_about_180 : decode cX8_about 180 = .ok (.ireturn, 1) := by decide +kernel
theorem dX8_about_181 : decode cX8_about 181 = .ok (.iconst (-1), 1) := by decide +kernel
theorem dX8_about_182 : decode cX8_about 182 = .ok (.ireturn, 1) := by decide +kernel
theorem dX8_alike_0 : decode cX8_alike 0 = .ok (.aload_n 0, 1) := by decide +kernel
theorem dX8_alike_1 : decode cX8_alike 1 = .ok (.iload_n 1, 1) := by decide +kernel
theorem dX8_alike_2 : decode cX8_alike 2 = .ok (.invokevirtual 111, 3) := by decide +kernel
theorem dX8_alike_5 : decode cX8_alike 5 = .ok (.ifCond .eq 11, 3) := by decide +kernel
theorem dX8_alike_16 : decode cX8_alike 16 = .ok (.iconst (-1), 1) := by decide +kernel
theorem dX8_alike_17 : decode cX8_alike 17 = .ok (.ireturn, 1) := by decide +kernel
theorem dX8_along_0 : decode cX8_along 0 = .ok (.iload_n 1, 1) := by decide +kernel
theorem dX8_along_1 : decode cX8_along 1 = .ok (.invokestatic 260, 3) := by decide +kernel
theorem dX8_along_4 : decode cX8_along 4 = .ok (.ifCond .eq 10, 3) := by decide +kernel
theorem dX8_along_7 : decode cX8_along 7 = .ok (.iload_n 2, 1) := by decide +kernel
theorem dX8_along_8 : decode cX8_along 8 = .ok (.invokestatic 260, 3) := by decide +kernel
theorem dX8_along_11 : decode cX8_along 11 = .ok (.ifCond .ne 5, 3) := by decide +kernel
theorem dX8_along_14 : decode cX8_along 14 = .ok (.iconst (-1), 1) := by decide +kernel
theorem dX8_along_15 : decode cX8_along 15 = .ok (.ireturn, 1) := by decide +kernel
theorem dX8_along_16 : decode cX8_along 16 = .ok (.iconst 0, 1) := by decide +kernel
theorem dX8_along_17 : decode cX8_along 17 = .ok (.istore_n 3, 1) := by decide +kernel
theorem dX8_along_18 : decode cX8_along 18 = .ok (.iconst 0, 1) := by decide +kernel
theorem dX8_along_19 : decode cX8_along 19 = .ok (.istore 4, 2) := by decide +kernel
theorem dX8_along_21 : decode cX8_along 21 = .ok (.iload 4, 2) := by decide +kernel
theorem dX8_along_23 : decode cX8_along 23 = .ok (.aload_n 0, 1) := by decide +kernel
theorem dX8_along_24 : decode cX8_along 24 = .ok (.getfield 23, 3) := by decide +kernel
theorem dX8_along_27 : decode cX8_along 27 = .ok (.getfield 99, 3) := by decide +kernel
theorem dX8_along_30 : decode cX8_along 30 = .ok (.if_icmp .ge 48, 3) := by decide +kernel
theorem dX8_along_78 : decode cX8_along 78 = .ok (.iload_n 3, 1) := by decide +kernel
theorem dX8_along_79 : decode cX8_along 79 = .ok (.ireturn, 1) := by decide +kernel
theorem dX8_ask_0 : decode cX8_ask 0 = .ok (.iload_n 1, 1) := by decide +kernel
theorem dX8_ask_1 : decode cX8_ask 1 = .ok (.ifCond .lt 33, 3) := by decide +kernel
theorem dX8_ask_4 : decode cX8_ask 4 = .ok (.iload_n 1, 1) := by decide +kernel
theorem dX8_ask_5 : decode cX8_ask 5 = .ok (.iconst 1, 1) := by decide +kernel
theorem dX8_ask_6 : decode cX8_ask 6 = .ok (.if_icmp .gt 28, 3) := by decide +kernel
theorem dX8_ask_9 : decode cX8_ask 9 = .ok (.aload_n 0, 1) := by decide +kernel
theorem dX8_ask_10 : decode cX8_ask 10 = .ok (.getfield 23, 3) := by decide +kernel
theorem dX8_ask_13 : decode cX8_ask 13 = .ok (.getfield 108, 3) := by decide +kernel
theorem dX8_ask_16 : decode cX8_ask 16 = .ok (.ifCond .eq 18, 3) := by decide +kernel
theorem dX8_ask_34 : decode cX8_ask 34 = .ok (.iconst (-1), 1) := by decide +kernel
theorem dX8_ask_35 : decode cX8_ask 35 = .ok (.ireturn, 1) := by decide +kernel
theorem dX8_barter_0 : decode cX8_barter 0 = .ok (.aload_n 0, 1) := by decide +kernel
theorem dX8_barter_1 : decode cX8_barter 1 = .ok (.invokevirtual 273, 3) := by decide +kernel
theorem dX8_barter_4 : decode cX8_barter 4 = .ok (.iconst 0, 1) := by decide +kernel
theorem dX8_barter_5 : decode cX8_barter 5 = .ok (.istore_n 1, 1) := by decide +kernel
theorem dX8_barter_6 : decode cX8_barter 6 = .ok (.iload_n 1, 1) := by decide +kernel
theorem dX8_barter_7 : decode cX8_barter 7 = .ok (.aload_n 0, 1) := by decide +kernel
theorem dX8_barter_8 : decode cX8_barter 8 = .ok (.getfield 23, 3) := by decide +kernel
theorem dX8_barter_11 : decode cX8_barter 11 = .ok (.getfield 99, 3) := by decide +kernel
theorem dX8_barter_14 : decode cX8_barter 14 = .ok (.if_icmp .ge 23, 3) := by decide +kernel
theorem dX8_barter_37 : decode cX8_barter 37 = .ok (.ldc 160, 2) := by decide +kernel
theorem dX8_barter_39 : decode cX8_barter 39 = .ok (.istore_n 1, 1) := by decide +kernel
theorem dX8_barter_40 : decode cX8_barter 40 = .ok (.iconst 1, 1) := by decide +kernel
theorem dX8_barter_41 : decode cX8_barter 41 = .ok (.aload_n 0, 1) := by decide +kernel
theorem dX8_barter_42 : decode cX8_barter 42 = .ok (.getfield 23, 3) := by decide +kernel
theorem dX8_barter_45 : decode cX8_barter 45 = .ok (.getfield 108, 3) := by decide +kernel
theorem dX8_barter_48 : decode cX8_barter 48 = .ok (.invokestatic 276, 3) := by decide +kernel
theorem dX8_barter_51 : decode cX8_barter 51 = .ok (.istore_n 2, 1) := by decide +kernel
theorem dX8_barter_52 : decode cX8_barter 52 = .ok (.aload_n 0, 1) := by decide +kernel
theorem dX8_barter_53 : decode cX8_barter 53 = .ok (.iload_n 2, 1) := by decide +kernel
theorem dX8_barter_54 : decode cX8_barter 54 = .ok (.invokevirtual 241, 3) := by decide +kernel
theorem dX8_barter_57 : decode cX8_barter 57 = .ok (.istore_n 3, 1) := by decide +kernel
theorem dX8_barter_58 : decode cX8_barter 58 = .ok (.iconst 0, 1) := by decide +kernel
theorem dX8_barter_59 : decode cX8_barter 59 = .ok (.istore 4, 2) := by decide +kernel
theorem dX8_barter_61 : decode cX8_barter 61 = .ok (.iload 4, 2) := by decide +kernel
theorem dX8_barter_63 : decode cX8_barter 63 = .ok (.iload_n 3, 1) := by decide +kernel
theorem dX8_barter_64 : decode cX8_barter 64 = .ok (.if_icmp .ge 47, 3) := by decide +kernel
theorem dX8_barter_67 : decode cX8_barter 67 = .ok (.aload_n 0, 1) := by decide +kernel
theorem dX8_barter_68 : decode cX8_barter 68 = .ok (.iload 4, 2) := by decide +kernel
theorem dX8_barter_70 : decode cX8_barter 70 = .ok (.iload_n 2, 1) := by decide +kernel
theorem dX8_barter_71 : decode cX8_barter 71 = .ok (.invokevirtual 244, 3) := by decide +kernel
theorem dX8_barter_74 : decode cX8_barter 74 = .ok (.aload_n 0, 1) := by decide +kernel
theorem dX8_barter_75 : decode cX8_barter 75 = .ok (.invokevirtual 279, 3) := by decide +kernel
theorem dX8_barter_78 : decode cX8_barter 78 = .ok (.ifCond .eq 10, 3) := by decide +kernel
theorem dX8_barter_81 : decode cX8_barter 81 = .ok (.aload_n 0, 1) := by decide +kernel
theorem dX8_barter_82 : decode cX8_barter 82 = .ok (.invokevirtual 282, 3) := by decide +kernel
theorem dX8_barter_85 : decode cX8_barter 85 = .ok (.goto 5, 3) := by decide +kernel
theorem dX8_barter_90 : decode cX8_barter 90 = .ok (.istore 5, 2) := by decide +kernel
theorem dX8_barter_92 : decode cX8_barter 92 = .ok (.iload 5, 2) := by decide +kernel
theorem dX8_barter_94 : decode cX8_barter 94 = .ok (.iload_n 1, 1) := by decide +kernel
theorem dX8_barter_95 : decode cX8_barter 95 = .ok (.if_icmp .le 10, 3) := by decide +kernel
theorem dX8_barter_98 : decode cX8_barter 98 = .ok (.iload 5, 2) := by decide +kernel
theorem dX8_barter_100 : decode cX8_barter 100 = .ok (.istore_n 1, 1) := by decide +kernel
theorem dX8_barter_101 : decode cX8_barter 101 = .ok (.aload_n 0, 1) := by decide +kernel
theorem dX8_barter_102 : decode cX8_barter 102 = .ok (.invokevirtual 253, 3) := by decide +kernel
theorem dX8_barter_105 : decode cX8_barter 105 = .ok (.iinc 4 1, 3) := by decide +kernel
theorem dX8_barter_108 : decode cX8_barter 108 = .ok (.goto (-47), 3) := by decide +kernel
theorem dX8_barter_111 : decode cX8_barter 111 = .ok (.iload_n 1, 1) := by decide +kernel
theorem dX8_barter_112 : decode cX8_barter 112 = .ok (.ireturn, 1) := by decide +kernel
theorem dX8_barterGladness_0 : decode cX8_barterGladness 0 = .ok (.iconst 0, 1) := by decide +kernel
theorem dX8_barterGladness_1 : decode cX8_barterGladness 1 = .ok (.istore_n 1, 1) := by decide +kernel
theorem dX8_barterGladness_2 : decode cX8_barterGladness 2 = .ok (.iconst 0, 1) := by decide +kernel
theorem dX8_barterGladness_3 : decode cX8_barterGladness 3 = .ok (.istore_n 2, 1) := by decide +kernel
theorem dX8_barterGladness_4 : decode cX8_barterGladness 4 = .ok (.iload_n 2, 1) := by decide +kernel
theorem dX8_barterGladness_5 : decode cX8_barterGladness 5 = .ok (.aload_n 0, 1) := by decide +kernel
theorem dX8_barterGladness_6 : decode cX8_barterGladness 6 = .ok (.getfield 23, 3) := by decide +kernel
theorem dX8_barterGladness_9 : decode cX8_barterGladness 9 = .ok (.getfield 99, 3) := by decide +kernel
theorem dX8_barterGladness_12 : decode cX8_barterGladness 12 = .ok (.if_icmp .ge 36, 3) := by decide +kernel
theorem dX8_barterGladness_48 : decode cX8_barterGladness 48 = .ok (.iload_n 1, 1) := by decide +kernel
theorem dX8_barterGladness_49 : decode cX8_barterGladness 49 = .ok (.ireturn, 1) := by decide +kernel
theorem dX8_bring_0 : decode cX8_bring 0 = .ok (.aload_n 0, 1) := by decide +kernel
theorem dX8_bring_1 : decode cX8_bring 1 = .ok (.iload_n 1, 1) := by decide +kernel
theorem dX8_bring_2 : decode cX8_bring 2 = .ok (.invokevirtual 111, 3) := by decide +kernel
theorem dX8_bring_5 : decode cX8_bring 5 = .ok (.ifCond .eq 34, 3) := by decide +kernel
theorem dX8_bring_39 : decode cX8_bring 39 = .ok (.ldc 160, 2) := by decide +kernel
theorem dX8_bring_41 : decode cX8_bring 41 = .ok (.ireturn, 1) := by decide +kernel
theorem dX8_due_0 : decode cX8_due 0 = .ok (.aload_n 0, 1) := by decide +kernel
theorem dX8_due_1 : decode cX8_due 1 = .ok (.iload_n 1, 1) := by decide +kernel
theorem dX8_due_2 : decode cX8_due 2 = .ok (.invokevirtual 111, 3) := by decide +kernel
theorem dX8_due_5 : decode cX8_due 5 = .ok (.ifCond .eq 14, 3) := by decide +kernel
theorem dX8_due_19 : decode cX8_due 19 = .ok (.iconst (-1), 1) := by decide +kernel
theorem dX8_due_20 : decode cX8_due 20 = .ok (.ireturn, 1) := by decide +kernel
theorem dX8_earned_0 : decode cX8_earned 0 = .ok (.aload_n 0, 1) := by decide +kernel
theorem dX8_earned_1 : decode cX8_earned 1 = .ok (.aload_n 0, 1) := by decide +kernel
theorem dX8_earned_2 : decode cX8_earned 2 = .ok (.invokevirtual 301, 3) := by decide +kernel
theorem dX8_earned_5 : decode cX8_earned 5 = .ok (.invokevirtual 298, 3) := by decide +kernel
theorem dX8_earned_8 : decode cX8_earned 8 = .ok (.ireturn, 1) := by decide +kernel
theorem dX8_end_0 : decode cX8_end 0 = .ok (.iload_n 1, 1) := by decide +kernel
theorem dX8_end_1 : decode cX8_end 1 = .ok (.ifCond .lt 11, 3) := by decide +kernel
theorem dX8_end_4 : decode cX8_end 4 = .ok (.iload_n 1, 1) := by decide +kernel
theorem dX8_end_5 : decode cX8_end 5 = .ok (.aload_n 0, 1) := by decide +kernel
theorem dX8_end_6 : decode cX8_end 6 = .ok (.getfield 78, 3) := by decide +kernel
theorem dX8_end_9 : decode cX8_end 9 = .ok (.if_icmp .le 5, 3) := by decide +kernel
theorem dX8_end_12 : decode cX8_end 12 = .ok (.iconst (-1), 1) := by decide +kernel
theorem dX8_end_13 : decode cX8_end 13 = .ok (.ireturn, 1) := by decide +kernel
theorem dX8_end_14 : decode cX8_end 14 = .ok (.aload_n 0, 1) := by decide +kernel
theorem dX8_end_15 : decode cX8_end 15 = .ok (.iload_n 1, 1) := by decide +kernel
theorem dX8_end_16 : decode cX8_end 16 = .ok (.putfield 78, 3) := by decide +kernel
theorem dX8_end_19 : decode cX8_end 19 = .ok (.iload_n 1, 1) := by decide +kernel
theorem dX8_end_20 : decode cX8_end 20 = .ok (.ireturn, 1) := by decide +kernel
theorem dX8_fashion_0 : decode cX8_fashion 0 = .ok (.iconst (-1), 1) := by decide +kernel
theorem dX8_fashion_1 : decode cX8_fashion 1 = .ok (.istore_n 1, 1) := by decide +kernel
theorem dX8_fashion_2 : decode cX8_fashion 2 = .ok (.iconst 0, 1) := by decide +kernel
theorem dX8_fashion_3 : decode cX8_fashion 3 = .ok (.istore_n 2, 1) := by decide +kernel
theorem dX8_fashion_4 : decode cX8_fashion 4 = .ok (.iconst 0, 1) := by decide +kernel
theorem dX8_fashion_5 : decode cX8_fashion 5 = .ok (.istore_n 3, 1) := by decide +kernel
theorem dX8_fashion_6 : decode cX8_fashion 6 = .ok (.iload_n 3, 1) := by decide +kernel
theorem dX8_fashion_7 : decode cX8_fashion 7 = .ok (.bipush 7, 2) := by decide +kernel
theorem dX8_fashion_9 : decode cX8_fashion 9 = .ok (.if_icmp .ge 60, 3) := by decide +kernel
theorem dX8_fashion_12 : decode cX8_fashion 12 = .ok (.iconst 0, 1) := by decide +kernel
theorem dX8_fashion_13 : decode cX8_fashion 13 = .ok (.istore 4, 2) := by decide +kernel
theorem dX8_fashion_15 : decode cX8_fashion 15 = .ok (.iconst 0, 1) := by decide +kernel
theorem dX8_fashion_16 : decode cX8_fashion 16 = .ok (.istore 5, 2) := by decide +kernel
theorem dX8_fashion_18 : decode cX8_fashion 18 = .ok (.iload 5, 2) := by decide +kernel
theorem dX8_fashion_20 : decode cX8_fashion 20 = .ok (.aload_n 0, 1) := by decide +kernel
theorem dX8_fashion_21 : decode cX8_fashion 21 = .ok (.getfield 23, 3) := by decide +kernel
theorem dX8_fashion_24 : decode cX8_fashion 24 = .ok (.getfield 99, 3) := by decide +kernel
theorem dX8_fashion_27 : decode cX8_fashion 27 = .ok (.if_icmp .ge 25, 3) := by decide +kernel
theorem dX8_fashion_52 : decode cX8_fashion 52 = .ok (.iload 4, 2) := by decide +kernel
theorem dX8_fashion_54 : decode cX8_fashion 54 = .ok (.iload_n 2, 1) := by decide +kernel
theorem dX8_fashion_55 : decode cX8_fashion 55 = .ok (.if_icmp .le 8, 3) := by decide +kernel
theorem dX8_fashion_63 : decode cX8_fashion 63 = .ok (.iinc 3 1, 3) := by decide +kernel
theorem dX8_fashion_66 : decode cX8_fashion 66 = .ok (.goto (-60), 3) := by decide +kernel
theorem dX8_fashion_69 : decode cX8_fashion 69 = .ok (.iload_n 1, 1) := by decide +kernel
theorem dX8_fashion_70 : decode cX8_fashion 70 = .ok (.ireturn, 1) := by decide +kernel
theorem dX8_fault_0 : decode cX8_fault 0 = .ok (.iload_n 1, 1) := by decide +kernel
theorem dX8_fault_1 : decode cX8_fault 1 = .ok (.lookupswitch 43 #[(0, 27), (1, 35)], 27) := by decide +kernel
theorem dX8_fault_28 : decode cX8_fault 28 = .ok (.aload_n 0, 1) := by decide +kernel
theorem dX8_fault_29 : decode cX8_fault 29 = .ok (.getfield 16, 3) := by decide +kernel
theorem dX8_fault_32 : decode cX8_fault 32 = .ok (.getfield 102, 3) := by decide +kernel
theorem dX8_fault_35 : decode cX8_fault 35 = .ok (.ireturn, 1) := by decide +kernel
theorem dX8_fault_36 : decode cX8_fault 36 = .ok (.aload_n 0, 1) := by decide +kernel
theorem dX8_fault_37 : decode cX8_fault 37 = .ok (.getfield 16, 3) := by decide +kernel
theorem dX8_fault_40 : decode cX8_fault 40 = .ok (.getfield 105, 3) := by decide +kernel
theorem dX8_fault_43 : decode cX8_fault 43 = .ok (.ireturn, 1) := by decide +kernel
theorem dX8_fault_44 : decode cX8_fault 44 = .ok (.iconst (-1), 1) := by decide +kernel
theorem dX8_fault_45 : decode cX8_fault 45 = .ok (.ireturn, 1) := by decide +kernel
theorem dX8_favourite_0 : decode cX8_favourite 0 = .ok (.iconst (-1), 1) := by decide +kernel
theorem dX8_favourite_1 : decode cX8_favourite 1 = .ok (.istore_n 1, 1) := by decide +kernel
theorem dX8_favourite_2 : decode cX8_favourite 2 = .ok (.iconst (-1), 1) := by decide +kernel
theorem dX8_favourite_3 : decode cX8_favourite 3 = .ok (.istore_n 2, 1) := by decide +kernel
theorem dX8_favourite_4 : decode cX8_favourite 4 = .ok (.iconst 0, 1) := by decide +kernel
theorem dX8_favourite_5 : decode cX8_favourite 5 = .ok (.istore_n 3, 1) := by decide +kernel
theorem dX8_favourite_6 : decode cX8_favourite 6 = .ok (.iload_n 3, 1) := by decide +kernel
theorem dX8_favourite_7 : decode cX8_favourite 7 = .ok (.aload_n 0, 1) := by decide +kernel
theorem dX8_favourite_8 : decode cX8_favourite 8 = .ok (.getfield 23, 3) := by decide +kernel
theorem dX8_favourite_11 : decode cX8_favourite 11 = .ok (.getfield 108, 3) := by decide +kernel
theorem dX8_favourite_14 : decode cX8_favourite 14 = .ok (.if_icmp .ge 67, 3) := by decide +kernel
theorem dX8_favourite_81 : decode cX8_favourite 81 = .ok (.iload_n 1, 1) := by decide +kernel
theorem dX8_favourite_82 : decode cX8_favourite 82 = .ok (.ireturn, 1) := by decide +kernel
theorem dX8_feed_0 : decode cX8_feed 0 = .ok (.aload_n 0, 1) := by decide +kernel
theorem dX8_feed_1 : decode cX8_feed 1 = .ok (.getfield 78, 3) := by decide +kernel
theorem dX8_feed_4 : decode cX8_feed 4 = .ok (.bipush 20, 2) := by decide +kernel
theorem dX8_feed_6 : decode cX8_feed 6 = .ok (.iadd, 1) := by decide +kernel
theorem dX8_feed_7 : decode cX8_feed 7 = .ok (.sipush 1600, 3) := by decide +kernel
theorem dX8_feed_10 : decode cX8_feed 10 = .ok (.if_icmp .le 5, 3) := by decide +kernel
theorem dX8_feed_15 : decode cX8_feed 15 = .ok (.aload_n 0, 1) := by decide +kernel
theorem dX8_feed_16 : decode cX8_feed 16 = .ok (.iload_n 1, 1) := by decide +kernel
theorem dX8_feed_17 : decode cX8_feed 17 = .ok (.invokevirtual 82, 3) := by decide +kernel
theorem dX8_feed_20 : decode cX8_feed 20 = .ok (.aload_n 0, 1) := by decide +kernel
theorem dX8_feed_21 : decode cX8_feed 21 = .ok (.iload_n 2, 1) := by decide +kernel
theorem dX8_feed_22 : decode cX8_feed 22 = .ok (.invokevirtual 82, 3) := by decide +kernel
theorem dX8_feed_25 : decode cX8_feed 25 = .ok (.aload_n 0, 1) := by decide +kernel
theorem dX8_feed_26 : decode cX8_feed 26 = .ok (.iload_n 3, 1) := by decide +kernel
theorem dX8_feed_27 : decode cX8_feed 27 = .ok (.invokevirtual 82, 3) := by decide +kernel
theorem dX8_feed_30 : decode cX8_feed 30 = .ok (.aload_n 0, 1) := by decide +kernel
theorem dX8_feed_31 : decode cX8_feed 31 = .ok (.iload 4, 2) := by decide +kernel
theorem dX8_feed_33 : decode cX8_feed 33 = .ok (.invokevirtual 82, 3) := by decide +kernel
theorem dX8_feed_36 : decode cX8_feed 36 = .ok (.aload_n 0, 1) := by decide +kernel
theorem dX8_feed_37 : decode cX8_feed 37 = .ok (.iload 5, 2) := by decide +kernel
theorem dX8_feed_39 : decode cX8_feed 39 = .ok (.invokevirtual 82, 3) := by decide +kernel
theorem dX8_feed_42 : decode cX8_feed 42 = .ok (.aload_n 0, 1) := by decide +kernel
theorem dX8_feed_43 : decode cX8_feed 43 = .ok (.getfield 78, 3) := by decide +kernel
theorem dX8_feed_46 : decode cX8_feed 46 = .ok (.ireturn, 1) := by decide +kernel
theorem dX8_fetch_0 : decode cX8_fetch 0 = .ok (.aload_n 0, 1) := by decide +kernel
theorem dX8_fetch_1 : decode cX8_fetch 1 = .ok (.iload_n 1, 1) := by decide +kernel
theorem dX8_fetch_2 : decode cX8_fetch 2 = .ok (.invokevirtual 111, 3) := by decide +kernel
theorem dX8_fetch_5 : decode cX8_fetch 5 = .ok (.ifCond .eq 14, 3) := by decide +kernel
theorem dX8_fetch_19 : decode cX8_fetch 19 = .ok (.iconst (-1), 1) := by decide +kernel
theorem dX8_fetch_20 : decode cX8_fetch 20 = .ok (.ireturn, 1) := by decide +kernel
theorem dX8_fill_0 : decode cX8_fill 0 = .ok (.aload_n 0, 1) := by decide +kernel
theorem dX8_fill_1 : decode cX8_fill 1 = .ok (.iload_n 1, 1) := by decide +kernel
theorem dX8_fill_2 : decode cX8_fill 2 = .ok (.invokevirtual 138, 3) := by decide +kernel
theorem dX8_fill_5 : decode cX8_fill 5 = .ok (.ifCond .eq 29, 3) := by decide +kernel
theorem dX8_fill_34 : decode cX8_fill 34 = .ok (.iconst (-1), 1) := by decide +kernel
theorem dX8_fill_35 : decode cX8_fill 35 = .ok (.ireturn, 1) := by decide +kernel
theorem dX8_find_0 : decode cX8_find 0 = .ok (.iload_n 1, 1) := by decide +kernel
theorem dX8_find_1 : decode cX8_find 1 = .ok (.invokestatic 304, 3) := by decide +kernel
theorem dX8_find_4 : decode cX8_find 4 = .ok (.ifCond .eq 28, 3) := by decide +kernel
theorem dX8_find_7 : decode cX8_find 7 = .ok (.iload_n 2, 1) := by decide +kernel
theorem dX8_find_8 : decode cX8_find 8 = .ok (.invokestatic 304, 3) := by decide +kernel
theorem dX8_find_11 : decode cX8_find 11 = .ok (.ifCond .eq 21, 3) := by decide +kernel
theorem dX8_find_14 : decode cX8_find 14 = .ok (.iload_n 3, 1) := by decide +kernel
theorem dX8_find_15 : decode cX8_find 15 = .ok (.invokestatic 304, 3) := by decide +kernel
theorem dX8_find_18 : decode cX8_find 18 = .ok (.ifCond .eq 14, 3) := by decide +kernel
theorem dX8_find_21 : decode cX8_find 21 = .ok (.aload_n 0, 1) := by decide +kernel
theorem dX8_find_22 : decode cX8_find 22 = .ok (.iload_n 1, 1) := by decide +kernel
theorem dX8_find_23 : decode cX8_find 23 = .ok (.iload_n 2, 1) := by decide +kernel
theorem dX8_find_24 : decode cX8_find 24 = .ok (.iload_n 3, 1) := by decide +kernel
theorem dX8_find_25 : decode cX8_find 25 = .ok (.iconst 0, 1) := by decide +kernel
theorem dX8_find_26 : decode cX8_find 26 = .ok (.invokevirtual 307, 3) := by decide +kernel
theorem dX8_find_29 : decode cX8_find 29 = .ok (.goto 4, 3) := by decide +kernel
theorem dX8_find_32 : decode cX8_find 32 = .ok (.iconst (-1), 1) := by decide +kernel
theorem dX8_find_33 : decode cX8_find 33 = .ok (.ireturn, 1) := by decide +kernel
theorem dX8_frayed_0 : decode cX8_frayed 0 = .ok (.aload_n 0, 1) := by decide +kernel
theorem dX8_frayed_1 : decode cX8_frayed 1 = .ok (.iload_n 1, 1) := by decide +kernel
theorem dX8_frayed_2 : decode cX8_frayed 2 = .ok (.invokevirtual 111, 3) := by decide +kernel
theorem dX8_frayed_5 : decode cX8_frayed 5 = .ok (.ifCond .eq 25, 3) := by decide +kernel
theorem dX8_frayed_30 : decode cX8_frayed 30 = .ok (.iconst (-1), 1) := by decide +kernel
theorem dX8_frayed_31 : decode cX8_frayed 31 = .ok (.ireturn, 1) := by decide +kernel
theorem dX8_give_0 : decode cX8_give 0 = .ok (.aload_n 0, 1) := by decide +kernel
theorem dX8_give_1 : decode cX8_give 1 = .ok (.iload_n 1, 1) := by decide +kernel
theorem dX8_give_2 : decode cX8_give 2 = .ok (.invokevirtual 111, 3) := by decide +kernel
theorem dX8_give_5 : decode cX8_give 5 = .ok (.ifCond .eq 14, 3) := by decide +kernel
theorem dX8_give_19 : decode cX8_give 19 = .ok (.iconst (-1), 1) := by decide +kernel
theorem dX8_give_20 : decode cX8_give 20 = .ok (.ireturn, 1) := by decide +kernel
theorem dX8_glad_0 : decode cX8_glad 0 = .ok (.aload_n 0, 1) := by decide +kernel
theorem dX8_glad_1 : decode cX8_glad 1 = .ok (.iload_n 1, 1) := by decide +kernel
theorem dX8_glad_2 : decode cX8_glad 2 = .ok (.invokevirtual 138, 3) := by decide +kernel
theorem dX8_glad_5 : decode cX8_glad 5 = .ok (.ifCond .eq 20, 3) := by decide +kernel
theorem dX8_glad_25 : decode cX8_glad 25 = .ok (.ldc 160, 2) := by decide +kernel
theorem dX8_glad_27 : decode cX8_glad 27 = .ok (.ireturn, 1) := by decide +kernel
theorem dX8_house_0 : decode cX8_house 0 = .ok (.aload_n 0, 1) := by decide +kernel
theorem dX8_house_1 : decode cX8_house 1 = .ok (.iload_n 1, 1) := by decide +kernel
theorem dX8_house_2 : decode cX8_house 2 = .ok (.invokevirtual 138, 3) := by decide +kernel
theorem dX8_house_5 : decode cX8_house 5 = .ok (.ifCond .ne 6, 3) := by decide +kernel
theorem dX8_house_8 : decode cX8_house 8 = .ok (.bipush (-2), 2) := by decide +kernel
theorem dX8_house_10 : decode cX8_house 10 = .ok (.ireturn, 1) := by decide +kernel
theorem dX8_hum_0 : decode cX8_hum 0 = .ok (.iload_n 1, 1) := by decide +kernel
theorem dX8_hum_1 : decode cX8_hum 1 = .ok (.invokestatic 304, 3) := by decide +kernel
theorem dX8_hum_4 : decode cX8_hum 4 = .ok (.ifCond .eq 28, 3) := by decide +kernel
theorem dX8_hum_7 : decode cX8_hum 7 = .ok (.iload_n 2, 1) := by decide +kernel
theorem dX8_hum_8 : decode cX8_hum 8 = .ok (.invokestatic 304, 3) := by decide +kernel
theorem dX8_hum_11 : decode cX8_hum 11 = .ok (.ifCond .eq 21, 3) := by decide +kernel
theorem dX8_hum_14 : decode cX8_hum 14 = .ok (.iload_n 3, 1) := by decide +kernel
theorem dX8_hum_15 : decode cX8_hum 15 = .ok (.invokestatic 304, 3) := by decide +kernel
theorem dX8_hum_18 : decode cX8_hum 18 = .ok (.ifCond .eq 14, 3) := by decide +kernel
theorem dX8_hum_21 : decode cX8_hum 21 = .ok (.aload_n 0, 1) := by decide +kernel
theorem dX8_hum_22 : decode cX8_hum 22 = .ok (.iload_n 1, 1) := by decide +kernel
theorem dX8_hum_23 : decode cX8_hum 23 = .ok (.iload_n 2, 1) := by decide +kernel
theorem dX8_hum_24 : decode cX8_hum 24 = .ok (.iload_n 3, 1) := by decide +kernel
theorem dX8_hum_25 : decode cX8_hum 25 = .ok (.iconst 1, 1) := by decide +kernel
theorem dX8_hum_26 : decode cX8_hum 26 = .ok (.invokevirtual 307, 3) := by decide +kernel
theorem dX8_hum_29 : decode cX8_hum 29 = .ok (.goto 4, 3) := by decide +kernel
theorem dX8_hum_32 : decode cX8_hum 32 = .ok (.iconst (-1), 1) := by decide +kernel
theorem dX8_hum_33 : decode cX8_hum 33 = .ok (.ireturn, 1) := by decide +kernel
theorem dX8_idle_0 : decode cX8_idle 0 = .ok (.iconst 0, 1) := by decide +kernel
theorem dX8_idle_1 : decode cX8_idle 1 = .ok (.istore_n 1, 1) := by decide +kernel
theorem dX8_idle_2 : decode cX8_idle 2 = .ok (.iconst 0, 1) := by decide +kernel
theorem dX8_idle_3 : decode cX8_idle 3 = .ok (.istore_n 2, 1) := by decide +kernel
theorem dX8_idle_4 : decode cX8_idle 4 = .ok (.iload_n 2, 1) := by decide +kernel
theorem dX8_idle_5 : decode cX8_idle 5 = .ok (.aload_n 0, 1) := by decide +kernel
theorem dX8_idle_6 : decode cX8_idle 6 = .ok (.getfield 23, 3) := by decide +kernel
theorem dX8_idle_9 : decode cX8_idle 9 = .ok (.getfield 99, 3) := by decide +kernel
theorem dX8_idle_12 : decode cX8_idle 12 = .ok (.if_icmp .ge 27, 3) := by decide +kernel
theorem dX8_idle_39 : decode cX8_idle 39 = .ok (.iload_n 1, 1) := by decide +kernel
theorem dX8_idle_40 : decode cX8_idle 40 = .ok (.ireturn, 1) := by decide +kernel
theorem dX8_image_0 : decode cX8_image 0 = .ok (.iload_n 1, 1) := by decide +kernel
theorem dX8_image_1 : decode cX8_image 1 = .ok (.ifCond .lt 8, 3) := by decide +kernel
theorem dX8_image_4 : decode cX8_image 4 = .ok (.iload_n 1, 1) := by decide +kernel
theorem dX8_image_5 : decode cX8_image 5 = .ok (.iconst 3, 1) := by decide +kernel
theorem dX8_image_6 : decode cX8_image 6 = .ok (.if_icmp .lt 5, 3) := by decide +kernel
theorem dX8_image_9 : decode cX8_image 9 = .ok (.iconst (-1), 1) := by decide +kernel
theorem dX8_image_10 : decode cX8_image 10 = .ok (.ireturn, 1) := by decide +kernel
theorem dX8_image_11 : decode cX8_image 11 = .ok (.aload_n 0, 1) := by decide +kernel
theorem dX8_image_12 : decode cX8_image 12 = .ok (.getfield 30, 3) := by decide +kernel
theorem dX8_image_15 : decode cX8_image 15 = .ok (.aload_n 0, 1) := by decide +kernel
theorem dX8_image_16 : decode cX8_image 16 = .ok (.getfield 44, 3) := by decide +kernel
theorem dX8_image_19 : decode cX8_image 19 = .ok (.iload_n 1, 1) := by decide +kernel
theorem dX8_image_20 : decode cX8_image 20 = .ok (.invokevirtual 342, 3) := by decide +kernel
theorem dX8_image_23 : decode cX8_image 23 = .ok (.aload_n 0, 1) := by decide +kernel
theorem dX8_image_24 : decode cX8_image 24 = .ok (.getfield 48, 3) := by decide +kernel
theorem dX8_image_27 : decode cX8_image 27 = .ok (.iload_n 1, 1) := by decide +kernel
theorem dX8_image_28 : decode cX8_image 28 = .ok (.iconst 1, 1) := by decide +kernel
theorem dX8_image_29 : decode cX8_image 29 = .ok (.bastore, 1) := by decide +kernel
theorem dX8_image_30 : decode cX8_image 30 = .ok (.aload_n 0, 1) := by decide +kernel
theorem dX8_image_31 : decode cX8_image 31 = .ok (.getfield 30, 3) := by decide +kernel
theorem dX8_image_34 : decode cX8_image 34 = .ok (.getfield 168, 3) := by decide +kernel
theorem dX8_image_37 : decode cX8_image 37 = .ok (.ireturn, 1) := by decide +kernel
theorem dX8_init_0 : decode cX8_init 0 = .ok (.aload_n 0, 1) := by decide +kernel
theorem dX8_init_1 : decode cX8_init 1 = .ok (.invokespecial 3, 3) := by decide +kernel
theorem dX8_init_4 : decode cX8_init 4 = .ok (.aload_n 0, 1) := by decide +kernel
theorem dX8_init_5 : decode cX8_init 5 = .ok (.sipush 1600, 3) := by decide +kernel
theorem dX8_init_8 : decode cX8_init 8 = .ok (.newarray .byte, 2) := by decide +kernel
theorem dX8_init_10 : decode cX8_init 10 = .ok (.putfield 9, 3) := by decide +kernel
theorem dX8_init_13 : decode cX8_init 13 = .ok (.aload_n 0, 1) := by decide +kernel
theorem dX8_init_14 : decode cX8_init 14 = .ok (.new 13, 3) := by decide +kernel
theorem dX8_init_17 : decode cX8_init 17 = .ok (.dup, 1) := by decide +kernel
theorem dX8_init_18 : decode cX8_init 18 = .ok (.invokespecial 15, 3) := by decide +kernel
theorem dX8_init_21 : decode cX8_init 21 = .ok (.putfield 16, 3) := by decide +kernel
theorem dX8_init_24 : decode cX8_init 24 = .ok (.aload_n 0, 1) := by decide +kernel
theorem dX8_init_25 : decode cX8_init 25 = .ok (.new 20, 3) := by decide +kernel
theorem dX8_init_28 : decode cX8_init 28 = .ok (.dup, 1) := by decide +kernel
theorem dX8_init_29 : decode cX8_init 29 = .ok (.invokespecial 22, 3) := by decide +kernel
theorem dX8_init_32 : decode cX8_init 32 = .ok (.putfield 23, 3) := by decide +kernel
theorem dX8_init_35 : decode cX8_init 35 = .ok (.aload_n 0, 1) := by decide +kernel
theorem dX8_init_36 : decode cX8_init 36 = .ok (.new 27, 3) := by decide +kernel
theorem dX8_init_39 : decode cX8_init 39 = .ok (.dup, 1) := by decide +kernel
theorem dX8_init_40 : decode cX8_init 40 = .ok (.invokespecial 29, 3) := by decide +kernel
theorem dX8_init_43 : decode cX8_init 43 = .ok (.putfield 30, 3) := by decide +kernel
theorem dX8_init_46 : decode cX8_init 46 = .ok (.aload_n 0, 1) := by decide +kernel
theorem dX8_init_47 : decode cX8_init 47 = .ok (.new 27, 3) := by decide +kernel
theorem dX8_init_50 : decode cX8_init 50 = .ok (.dup, 1) := by decide +kernel
theorem dX8_init_51 : decode cX8_init 51 = .ok (.invokespecial 29, 3) := by decide +kernel
theorem dX8_init_54 : decode cX8_init 54 = .ok (.putfield 34, 3) := by decide +kernel
theorem dX8_init_57 : decode cX8_init 57 = .ok (.aload_n 0, 1) := by decide +kernel
theorem dX8_init_58 : decode cX8_init 58 = .ok (.new 37, 3) := by decide +kernel
theorem dX8_init_61 : decode cX8_init 61 = .ok (.dup, 1) := by decide +kernel
theorem dX8_init_62 : decode cX8_init 62 = .ok (.invokespecial 39, 3) := by decide +kernel
theorem dX8_init_65 : decode cX8_init 65 = .ok (.putfield 40, 3) := by decide +kernel
theorem dX8_init_68 : decode cX8_init 68 = .ok (.aload_n 0, 1) := by decide +kernel
theorem dX8_init_69 : decode cX8_init 69 = .ok (.bipush 78, 2) := by decide +kernel
theorem dX8_init_71 : decode cX8_init 71 = .ok (.newarray .int, 2) := by decide +kernel
theorem dX8_init_73 : decode cX8_init 73 = .ok (.putfield 44, 3) := by decide +kernel
theorem dX8_init_76 : decode cX8_init 76 = .ok (.aload_n 0, 1) := by decide +kernel
theorem dX8_init_77 : decode cX8_init 77 = .ok (.iconst 3, 1) := by decide +kernel
theorem dX8_init_78 : decode cX8_init 78 = .ok (.newarray .boolean, 2) := by decide +kernel
theorem dX8_init_80 : decode cX8_init 80 = .ok (.putfield 48, 3) := by decide +kernel
theorem dX8_init_83 : decode cX8_init 83 = .ok (.aload_n 0, 1) := by decide +kernel
theorem dX8_init_84 : decode cX8_init 84 = .ok (.new 52, 3) := by decide +kernel
theorem dX8_init_87 : decode cX8_init 87 = .ok (.dup, 1) := by decide +kernel
theorem dX8_init_88 : decode cX8_init 88 = .ok (.invokespecial 54, 3) := by decide +kernel
theorem dX8_init_91 : decode cX8_init 91 = .ok (.putfield 55, 3) := by decide +kernel
theorem dX8_init_94 : decode cX8_init 94 = .ok (.aload_n 0, 1) := by decide +kernel
theorem dX8_init_95 : decode cX8_init 95 = .ok (.iconst 4, 1) := by decide +kernel
theorem dX8_init_96 : decode cX8_init 96 = .ok (.newarray .int, 2) := by decide +kernel
theorem dX8_init_98 : decode cX8_init 98 = .ok (.putfield 59, 3) := by decide +kernel
theorem dX8_init_101 : decode cX8_init 101 = .ok (.aload_n 0, 1) := by decide +kernel
theorem dX8_init_102 : decode cX8_init 102 = .ok (.iconst 4, 1) := by decide +kernel
theorem dX8_init_103 : decode cX8_init 103 = .ok (.newarray .int, 2) := by decide +kernel
theorem dX8_init_105 : decode cX8_init 105 = .ok (.putfield 62, 3) := by decide +kernel
theorem dX8_init_108 : decode cX8_init 108 = .ok (.aload_n 0, 1) := by decide +kernel
theorem dX8_init_109 : decode cX8_init 109 = .ok (.iconst 4, 1) := by decide +kernel
theorem dX8_init_110 : decode cX8_init 110 = .ok (.newarray .int, 2) := by decide +kernel
theorem dX8_init_112 : decode cX8_init 112 = .ok (.putfield 65, 3) := by decide +kernel
theorem dX8_init_115 : decode cX8_init 115 = .ok (.aload_n 0, 1) := by decide +kernel
theorem dX8_init_116 : decode cX8_init 116 = .ok (.bipush 20, 2) := by decide +kernel
theorem dX8_init_118 : decode cX8_init 118 = .ok (.newarray .int, 2) := by decide +kernel
theorem dX8_init_120 : decode cX8_init 120 = .ok (.putfield 68, 3) := by decide +kernel
theorem dX8_init_123 : decode cX8_init 123 = .ok (.aload_n 0, 1) := by decide +kernel
theorem dX8_init_124 : decode cX8_init 124 = .ok (.getfield 30, 3) := by decide +kernel
theorem dX8_init_127 : decode cX8_init 127 = .ok (.aload_n 0, 1) := by decide +kernel
theorem dX8_init_128 : decode cX8_init 128 = .ok (.getfield 23, 3) := by decide +kernel
theorem dX8_init_131 : decode cX8_init 131 = .ok (.invokevirtual 71, 3) := by decide +kernel
theorem dX8_init_134 : decode cX8_init 134 = .ok (.aload_n 0, 1) := by decide +kernel
theorem dX8_init_135 : decode cX8_init 135 = .ok (.getfield 40, 3) := by decide +kernel
theorem dX8_init_138 : decode cX8_init 138 = .ok (.aload_n 0, 1) := by decide +kernel
theorem dX8_init_139 : decode cX8_init 139 = .ok (.getfield 30, 3) := by decide +kernel
theorem dX8_init_142 : decode cX8_init 142 = .ok (.invokevirtual 75, 3) := by decide +kernel
theorem dX8_init_145 : decode cX8_init 145 = .ok (.return_, 1) := by decide +kernel
theorem dX8_isHouse_0 : decode cX8_isHouse 0 = .ok (.iload_n 1, 1) := by decide +kernel
theorem dX8_isHouse_1 : decode cX8_isHouse 1 = .ok (.ifCond .lt 18, 3) := by decide +kernel
theorem dX8_isHouse_4 : decode cX8_isHouse 4 = .ok (.iload_n 1, 1) := by decide +kernel
theorem dX8_isHouse_5 : decode cX8_isHouse 5 = .ok (.aload_n 0, 1) := by decide +kernel
theorem dX8_isHouse_6 : decode cX8_isHouse 6 = .ok (.getfield 23, 3) := by decide +kernel
theorem dX8_isHouse_9 : decode cX8_isHouse 9 = .ok (.getfield 99, 3) := by decide +kernel
theorem dX8_isHouse_12 : decode cX8_isHouse 12 = .ok (.if_icmp .ge 7, 3) := by decide +kernel
theorem dX8_isHouse_19 : decode cX8_isHouse 19 = .ok (.iconst 0, 1) := by decide +kernel
theorem dX8_isHouse_20 : decode cX8_isHouse 20 = .ok (.ireturn, 1) := by decide +kernel
theorem dX8_isNote_0 : decode cX8_isNote 0 = .ok (.iload_n 0, 1) := by decide +kernel
theorem dX8_isNote_1 : decode cX8_isNote 1 = .ok (.ifCond .lt 13, 3) := by decide +kernel
theorem dX8_isNote_4 : decode cX8_isNote 4 = .ok (.iload_n 0, 1) := by decide +kernel
theorem dX8_isNote_5 : decode cX8_isNote 5 = .ok (.bipush 7, 2) := by decide +kernel
theorem dX8_isNote_7 : decode cX8_isNote 7 = .ok (.if_icmp .ge 7, 3) := by decide +kernel
theorem dX8_isNote_10 : decode cX8_isNote 10 = .ok (.iconst 1, 1) := by decide +kernel
theorem dX8_isNote_11 : decode cX8_isNote 11 = .ok (.goto 4, 3) := by decide +kernel
theorem dX8_isNote_14 : decode cX8_isNote 14 = .ok (.iconst 0, 1) := by decide +kernel
theorem dX8_isNote_15 : decode cX8_isNote 15 = .ok (.ireturn, 1) := by decide +kernel
theorem dX8_isPlace_0 : decode cX8_isPlace 0 = .ok (.iload_n 0, 1) := by decide +kernel
theorem dX8_isPlace_1 : decode cX8_isPlace 1 = .ok (.ifCond .lt 13, 3) := by decide +kernel
theorem dX8_isPlace_4 : decode cX8_isPlace 4 = .ok (.iload_n 0, 1) := by decide +kernel
theorem dX8_isPlace_5 : decode cX8_isPlace 5 = .ok (.bipush 99, 2) := by decide +kernel
theorem dX8_isPlace_7 : decode cX8_isPlace 7 = .ok (.if_icmp .gt 7, 3) := by decide +kernel
theorem dX8_isPlace_10 : decode cX8_isPlace 10 = .ok (.iconst 1, 1) := by decide +kernel
theorem dX8_isPlace_11 : decode cX8_isPlace 11 = .ok (.goto 4, 3) := by decide +kernel
theorem dX8_isPlace_14 : decode cX8_isPlace 14 = .ok (.iconst 0, 1) := by decide +kernel
theorem dX8_isPlace_15 : decode cX8_isPlace 15 = .ok (.ireturn, 1) := by decide +kernel
theorem dX8_isTune_0 : decode cX8_isTune 0 = .ok (.iload_n 1, 1) := by decide +kernel
theorem dX8_isTune_1 : decode cX8_isTune 1 = .ok (.ifCond .lt 18, 3) := by decide +kernel
theorem dX8_isTune_4 : decode cX8_isTune 4 = .ok (.iload_n 1, 1) := by decide +kernel
theorem dX8_isTune_5 : decode cX8_isTune 5 = .ok (.aload_n 0, 1) := by decide +kernel
theorem dX8_isTune_6 : decode cX8_isTune 6 = .ok (.getfield 23, 3) := by decide +kernel
theorem dX8_isTune_9 : decode cX8_isTune 9 = .ok (.getfield 108, 3) := by decide +kernel
theorem dX8_isTune_12 : decode cX8_isTune 12 = .ok (.if_icmp .ge 7, 3) := by decide +kernel
theorem dX8_isTune_19 : decode cX8_isTune 19 = .ok (.iconst 0, 1) := by decide +kernel
theorem dX8_isTune_20 : decode cX8_isTune 20 = .ok (.ireturn, 1) := by decide +kernel
theorem dX8_known_0 : decode cX8_known 0 = .ok (.aload_n 0, 1) := by decide +kernel
theorem dX8_known_1 : decode cX8_known 1 = .ok (.iload_n 1, 1) := by decide +kernel
theorem dX8_known_2 : decode cX8_known 2 = .ok (.invokevirtual 111, 3) := by decide +kernel
theorem dX8_known_5 : decode cX8_known 5 = .ok (.ifCond .eq 13, 3) := by decide +kernel
theorem dX8_known_18 : decode cX8_known 18 = .ok (.iconst (-1), 1) := by decide +kernel
theorem dX8_known_19 : decode cX8_known 19 = .ok (.ireturn, 1) := by decide +kernel
theorem dX8_lane_0 : decode cX8_lane 0 = .ok (.aload_n 0, 1) := by decide +kernel
theorem dX8_lane_1 : decode cX8_lane 1 = .ok (.getfield 16, 3) := by decide +kernel
theorem dX8_lane_4 : decode cX8_lane 4 = .ok (.aload_n 0, 1) := by decide +kernel
theorem dX8_lane_5 : decode cX8_lane 5 = .ok (.getfield 9, 3) := by decide +kernel
theorem dX8_lane_8 : decode cX8_lane 8 = .ok (.aload_n 0, 1) := by decide +kernel
theorem dX8_lane_9 : decode cX8_lane 9 = .ok (.getfield 78, 3) := by decide +kernel
theorem dX8_lane_12 : decode cX8_lane 12 = .ok (.invokevirtual 86, 3) := by decide +kernel
theorem dX8_lane_15 : decode cX8_lane 15 = .ok (.ifCond .ne 5, 3) := by decide +kernel
theorem dX8_lane_20 : decode cX8_lane 20 = .ok (.aload_n 0, 1) := by decide +kernel
theorem dX8_lane_21 : decode cX8_lane 21 = .ok (.aload_n 0, 1) := by decide +kernel
theorem dX8_lane_22 : decode cX8_lane 22 = .ok (.getfield 16, 3) := by decide +kernel
theorem dX8_lane_25 : decode cX8_lane 25 = .ok (.aload_n 0, 1) := by decide +kernel
theorem dX8_lane_26 : decode cX8_lane 26 = .ok (.getfield 23, 3) := by decide +kernel
theorem dX8_lane_29 : decode cX8_lane 29 = .ok (.invokevirtual 90, 3) := by decide +kernel
theorem dX8_lane_32 : decode cX8_lane 32 = .ok (.putfield 23, 3) := by decide +kernel
theorem dX8_lane_35 : decode cX8_lane 35 = .ok (.aload_n 0, 1) := by decide +kernel
theorem dX8_lane_36 : decode cX8_lane 36 = .ok (.iconst 0, 1) := by decide +kernel
theorem dX8_lane_37 : decode cX8_lane 37 = .ok (.putfield 78, 3) := by decide +kernel
theorem dX8_lane_40 : decode cX8_lane 40 = .ok (.aload_n 0, 1) := by decide +kernel
theorem dX8_lane_41 : decode cX8_lane 41 = .ok (.getfield 30, 3) := by decide +kernel
theorem dX8_lane_44 : decode cX8_lane 44 = .ok (.aload_n 0, 1) := by decide +kernel
theorem dX8_lane_45 : decode cX8_lane 45 = .ok (.getfield 23, 3) := by decide +kernel
theorem dX8_lane_48 : decode cX8_lane 48 = .ok (.invokevirtual 71, 3) := by decide +kernel
theorem dX8_lane_51 : decode cX8_lane 51 = .ok (.aload_n 0, 1) := by decide +kernel
theorem dX8_lane_52 : decode cX8_lane 52 = .ok (.getfield 40, 3) := by decide +kernel
theorem dX8_lane_55 : decode cX8_lane 55 = .ok (.aload_n 0, 1) := by decide +kernel
theorem dX8_lane_56 : decode cX8_lane 56 = .ok (.getfield 30, 3) := by decide +kernel
theorem dX8_lane_59 : decode cX8_lane 59 = .ok (.invokevirtual 75, 3) := by decide +kernel
theorem dX8_lane_62 : decode cX8_lane 62 = .ok (.aload_n 0, 1) := by decide +kernel
theorem dX8_lane_63 : decode cX8_lane 63 = .ok (.getfield 55, 3) := by decide +kernel
theorem dX8_lane_66 : decode cX8_lane 66 = .ok (.invokevirtual 94, 3) := by decide +kernel
theorem dX8_lane_69 : decode cX8_lane 69 = .ok (.aload_n 0, 1) := by decide +kernel
theorem dX8_lane_70 : decode cX8_lane 70 = .ok (.iconst 0, 1) := by decide +kernel
theorem dX8_lane_71 : decode cX8_lane 71 = .ok (.putfield 96, 3) := by decide +kernel
theorem dX8_lane_74 : decode cX8_lane 74 = .ok (.iconst 0, 1) := by decide +kernel
theorem dX8_lane_75 : decode cX8_lane 75 = .ok (.istore_n 1, 1) := by decide +kernel
theorem dX8_lane_76 : decode cX8_lane 76 = .ok (.iload_n 1, 1) := by decide +kernel
theorem dX8_lane_77 : decode cX8_lane 77 = .ok (.iconst 3, 1) := by decide +kernel
theorem dX8_lane_78 : decode cX8_lane 78 = .ok (.if_icmp .ge 16, 3) := by decide +kernel
theorem dX8_lane_81 : decode cX8_lane 81 = .ok (.aload_n 0, 1) := by decide +kernel
theorem dX8_lane_82 : decode cX8_lane 82 = .ok (.getfield 48, 3) := by decide +kernel
theorem dX8_lane_85 : decode cX8_lane 85 = .ok (.iload_n 1, 1) := by decide +kernel
theorem dX8_lane_86 : decode cX8_lane 86 = .ok (.iconst 0, 1) := by decide +kernel
theorem dX8_lane_87 : decode cX8_lane 87 = .ok (.bastore, 1) := by decide +kernel
theorem dX8_lane_88 : decode cX8_lane 88 = .ok (.iinc 1 1, 3) := by decide +kernel
theorem dX8_lane_91 : decode cX8_lane 91 = .ok (.goto (-15), 3) := by decide +kernel
theorem dX8_lane_94 : decode cX8_lane 94 = .ok (.aload_n 0, 1) := by decide +kernel
theorem dX8_lane_95 : decode cX8_lane 95 = .ok (.getfield 23, 3) := by decide +kernel
theorem dX8_lane_98 : decode cX8_lane 98 = .ok (.getfield 99, 3) := by decide +kernel
theorem dX8_lane_101 : decode cX8_lane 101 = .ok (.ireturn, 1) := by decide +kernel
theorem dX8_later_0 : decode cX8_later 0 = .ok (.iload_n 1, 1) := by decide +kernel
theorem dX8_later_1 : decode cX8_later 1 = .ok (.ifCond .lt 22, 3) := by decide +kernel
theorem dX8_later_4 : decode cX8_later 4 = .ok (.iload_n 1, 1) := by decide +kernel
theorem dX8_later_5 : decode cX8_later 5 = .ok (.sipush 1000, 3) := by decide +kernel
theorem dX8_later_8 : decode cX8_later 8 = .ok (.if_icmp .gt 15, 3) := by decide +kernel
theorem dX8_later_11 : decode cX8_later 11 = .ok (.aload_n 0, 1) := by decide +kernel
theorem dX8_later_12 : decode cX8_later 12 = .ok (.getfield 321, 3) := by decide +kernel
theorem dX8_later_15 : decode cX8_later 15 = .ok (.iload_n 1, 1) := by decide +kernel
theorem dX8_later_16 : decode cX8_later 16 = .ok (.iadd, 1) := by decide +kernel
theorem dX8_later_17 : decode cX8_later 17 = .ok (.ldc_w 331, 3) := by decide +kernel
theorem dX8_later_20 : decode cX8_later 20 = .ok (.if_icmp .le 5, 3) := by decide +kernel
theorem dX8_later_23 : decode cX8_later 23 = .ok (.iconst (-1), 1) := by decide +kernel
theorem dX8_later_24 : decode cX8_later 24 = .ok (.ireturn, 1) := by decide +kernel
theorem dX8_later_25 : decode cX8_later 25 = .ok (.aload_n 0, 1) := by decide +kernel
theorem dX8_later_26 : decode cX8_later 26 = .ok (.dup, 1) := by decide +kernel
theorem dX8_later_27 : decode cX8_later 27 = .ok (.getfield 321, 3) := by decide +kernel
theorem dX8_later_30 : decode cX8_later 30 = .ok (.iload_n 1, 1) := by decide +kernel
theorem dX8_later_31 : decode cX8_later 31 = .ok (.iadd, 1) := by decide +kernel
theorem dX8_later_32 : decode cX8_later 32 = .ok (.putfield 321, 3) := by decide +kernel

theorem dX6_scanWord_59 : decode cX6_scanWord 59 = .ok (.lstore 4, 2) := by decide +kernel
theorem dX6_scanWord_61 : decode cX6_scanWord 61 = .ok (.aload_n 0, 1) := by decide +kernel
theorem dX6_scanWord_62 : decode cX6_scanWord 62 = .ok (.dup, 1) := by decide +kernel
theorem dX6_scanWord_63 : decode cX6_scanWord 63 = .ok (.getfield 26, 3) := by decide +kernel
theorem dX6_scanWord_66 : decode cX6_scanWord 66 = .ok (.iconst 1, 1) := by decide +kernel
theorem dX6_scanWord_67 : decode cX6_scanWord 67 = .ok (.iadd, 1) := by decide +kernel
theorem dX6_scanWord_68 : decode cX6_scanWord 68 = .ok (.putfield 26, 3) := by decide +kernel
theorem dX6_scanWord_71 : decode cX6_scanWord 71 = .ok (.iinc 6 1, 3) := by decide +kernel
theorem dX6_scanWord_74 : decode cX6_scanWord 74 = .ok (.goto (-63), 3) := by decide +kernel
theorem dX6_scanWord_77 : decode cX6_scanWord 77 = .ok (.aload_n 0, 1) := by decide +kernel
theorem dX6_scanWord_78 : decode cX6_scanWord 78 = .ok (.getfield 26, 3) := by decide +kernel
theorem dX6_scanWord_81 : decode cX6_scanWord 81 = .ok (.iload_n 3, 1) := by decide +kernel
theorem dX6_scanWord_82 : decode cX6_scanWord 82 = .ok (.isub, 1) := by decide +kernel
theorem dX6_scanWord_83 : decode cX6_scanWord 83 = .ok (.bipush 8, 2) := by decide +kernel
theorem dX6_scanWord_85 : decode cX6_scanWord 85 = .ok (.if_icmp .le 5, 3) := by decide +kernel
theorem dX6_scanWord_88 : decode cX6_scanWord 88 = .ok (.iconst 0, 1) := by decide +kernel
theorem dX6_scanWord_89 : decode cX6_scanWord 89 = .ok (.ireturn, 1) := by decide +kernel
theorem dX6_scanWord_90 : decode cX6_scanWord 90 = .ok (.aload_n 0, 1) := by decide +kernel
theorem dX6_scanWord_91 : decode cX6_scanWord 91 = .ok (.getfield 18, 3) := by decide +kernel
theorem dX6_scanWord_94 : decode cX6_scanWord 94 = .ok (.aload_n 0, 1) := by decide +kernel
theorem dX6_scanWord_95 : decode cX6_scanWord 95 = .ok (.getfield 22, 3) := by decide +kernel
theorem dX6_scanWord_98 : decode cX6_scanWord 98 = .ok (.lload 4, 2) := by decide +kernel
theorem dX6_scanWord_100 : decode cX6_scanWord 100 = .ok (.lastore, 1) := by decide +kernel
theorem dX6_scanWord_101 : decode cX6_scanWord 101 = .ok (.iconst 0, 1) := by decide +kernel
theorem dX6_scanWord_102 : decode cX6_scanWord 102 = .ok (.istore 6, 2) := by decide +kernel
theorem dX6_scanWord_104 : decode cX6_scanWord 104 = .ok (.iload 6, 2) := by decide +kernel
theorem dX6_scanWord_106 : decode cX6_scanWord 106 = .ok (.bipush 19, 2) := by decide +kernel
theorem dX6_scanWord_108 : decode cX6_scanWord 108 = .ok (.if_icmp .ge 26, 3) := by decide +kernel
theorem dX6_scanWord_111 : decode cX6_scanWord 111 = .ok (.aload_n 0, 1) := by decide +kernel
theorem dX6_scanWord_112 : decode cX6_scanWord 112 = .ok (.iload 6, 2) := by decide +kernel
theorem dX6_scanWord_114 : decode cX6_scanWord 114 = .ok (.aload_n 1, 1) := by decide +kernel
theorem dX6_scanWord_115 : decode cX6_scanWord 115 = .ok (.iload_n 3, 1) := by decide +kernel
theorem dX6_scanWord_116 : decode cX6_scanWord 116 = .ok (.invokevirtual 65, 3) := by decide +kernel
theorem dX6_scanWord_119 : decode cX6_scanWord 119 = .ok (.ifCond .eq 9, 3) := by decide +kernel
theorem dX6_scanWord_122 : decode cX6_scanWord 122 = .ok (.bipush 100, 2) := by decide +kernel
theorem dX6_scanWord_124 : decode cX6_scanWord 124 = .ok (.iload 6, 2) := by decide +kernel
theorem dX6_scanWord_126 : decode cX6_scanWord 126 = .ok (.iadd, 1) := by decide +kernel
theorem dX6_scanWord_127 : decode cX6_scanWord 127 = .ok (.ireturn, 1) := by decide +kernel
theorem dX6_scanWord_128 : decode cX6_scanWord 128 = .ok (.iinc 6 1, 3) := by decide +kernel
theorem dX6_scanWord_131 : decode cX6_scanWord 131 = .ok (.goto (-27), 3) := by decide +kernel
theorem dX6_scanWord_134 : decode cX6_scanWord 134 = .ok (.iconst 3, 1) := by decide +kernel
theorem dX6_scanWord_135 : decode cX6_scanWord 135 = .ok (.ireturn, 1) := by decide +kernel
theorem dX7_backOnCart_0 : decode cX7_backOnCart 0 = .ok (.aload_n 0, 1) := by decide +kernel
theorem dX7_backOnCart_1 : decode cX7_backOnCart 1 = .ok (.getfield 9, 3) := by decide +kernel
theorem dX7_backOnCart_4 : decode cX7_backOnCart 4 = .ok (.iload_n 1, 1) := by decide +kernel
theorem dX7_backOnCart_5 : decode cX7_backOnCart 5 = .ok (.iconst (-1), 1) := by decide +kernel
theorem dX7_backOnCart_6 : decode cX7_backOnCart 6 = .ok (.iastore, 1) := by decide +kernel
theorem dX7_backOnCart_7 : decode cX7_backOnCart 7 = .ok (.aload_n 0, 1) := by decide +kernel
theorem dX7_backOnCart_8 : decode cX7_backOnCart 8 = .ok (.getfield 15, 3) := by decide +kernel
theorem dX7_backOnCart_11 : decode cX7_backOnCart 11 = .ok (.iload_n 1, 1) := by decide +kernel
theorem dX7_backOnCart_12 : decode cX7_backOnCart 12 = .ok (.iconst 0, 1) := by decide +kernel
theorem dX7_backOnCart_13 : decode cX7_backOnCart 13 = .ok (.iastore, 1) := by decide +kernel
theorem dX7_backOnCart_14 : decode cX7_backOnCart 14 = .ok (.aload_n 0, 1) := by decide +kernel
theorem dX7_backOnCart_15 : decode cX7_backOnCart 15 = .ok (.getfield 21, 3) := by decide +kernel
theorem dX7_backOnCart_18 : decode cX7_backOnCart 18 = .ok (.iload_n 1, 1) := by decide +kernel
theorem dX7_backOnCart_19 : decode cX7_backOnCart 19 = .ok (.iconst 0, 1) := by decide +kernel
theorem dX7_backOnCart_20 : decode cX7_backOnCart 20 = .ok (.iastore, 1) := by decide +kernel
theorem dX7_backOnCart_21 : decode cX7_backOnCart 21 = .ok (.return_, 1) := by decide +kernel
theorem dX7_begin_0 : decode cX7_begin 0 = .ok (.iconst 0, 1) := by decide +kernel
theorem dX7_begin_1 : decode cX7_begin 1 = .ok (.istore_n 2, 1) := by decide +kernel
theorem dX7_begin_2 : decode cX7_begin 2 = .ok (.iload_n 2, 1) := by decide +kernel
theorem dX7_begin_3 : decode cX7_begin 3 = .ok (.iconst 5, 1) := by decide +kernel
theorem dX7_begin_4 : decode cX7_begin 4 = .ok (.if_icmp .ge 21, 3) := by decide +kernel
theorem dX7_begin_7 : decode cX7_begin 7 = .ok (.aload_n 0, 1) := by decide +kernel
theorem dX7_begin_8 : decode cX7_begin 8 = .ok (.iload_n 2, 1) := by decide +kernel
theorem dX7_begin_9 : decode cX7_begin 9 = .ok (.invokevirtual 27, 3) := by decide +kernel
theorem dX7_begin_12 : decode cX7_begin 12 = .ok (.aload_n 0, 1) := by decide +kernel
theorem dX7_begin_13 : decode cX7_begin 13 = .ok (.getfield 18, 3) := by decide +kernel
theorem dX7_begin_16 : decode cX7_begin 16 = .ok (.iload_n 2, 1) := by decide +kernel
theorem dX7_begin_17 : decode cX7_begin 17 = .ok (.iconst 0, 1) := by decide +kernel
theorem dX7_begin_18 : decode cX7_begin 18 = .ok (.iastore, 1) := by decide +kernel
theorem dX7_begin_19 : decode cX7_begin 19 = .ok (.iinc 2 1, 3) := by decide +kernel
theorem dX7_begin_22 : decode cX7_begin 22 = .ok (.goto (-20), 3) := by decide +kernel
theorem dX7_begin_25 : decode cX7_begin 25 = .ok (.iconst 0, 1) := by decide +kernel
theorem dX7_begin_26 : decode cX7_begin 26 = .ok (.istore_n 2, 1) := by decide +kernel
theorem dX7_begin_27 : decode cX7_begin 27 = .ok (.iload_n 2, 1) := by decide +kernel
theorem dX7_begin_28 : decode cX7_begin 28 = .ok (.iconst 4, 1) := by decide +kernel
theorem dX7_begin_29 : decode cX7_begin 29 = .ok (.if_icmp .ge 33, 3) := by decide +kernel
theorem dX7_begin_32 : decode cX7_begin 32 = .ok (.aload_n 0, 1) := by decide +kernel
theorem dX7_begin_33 : decode cX7_begin 33 = .ok (.getfield 24, 3) := by decide +kernel
theorem dX7_begin_36 : decode cX7_begin 36 = .ok (.iload_n 2, 1) := by decide +kernel
theorem dX7_begin_37 : decode cX7_begin 37 = .ok (.iload_n 2, 1) := by decide +kernel
theorem dX7_begin_38 : decode cX7_begin 38 = .ok (.aload_n 1, 1) := by decide +kernel
theorem dX7_begin_39 : decode cX7_begin 39 = .ok (.getfield 31, 3) := by decide +kernel
theorem dX7_begin_42 : decode cX7_begin 42 = .ok (.if_icmp .ge 12, 3) := by decide +kernel
theorem dX7_begin_45 : decode cX7_begin 45 = .ok (.aload_n 1, 1) := by decide +kernel
theorem dX7_begin_46 : decode cX7_begin 46 = .ok (.getfield 37, 3) := by decide +kernel
theorem dX7_begin_49 : decode cX7_begin 49 = .ok (.iload_n 2, 1) := by decide +kernel
theorem dX7_begin_50 : decode cX7_begin 50 = .ok (.iaload, 1) := by decide +kernel
theorem dX7_begin_51 : decode cX7_begin 51 = .ok (.goto 4, 3) := by decide +kernel
theorem dX7_begin_54 : decode cX7_begin 54 = .ok (.iconst 0, 1) := by decide +kernel
theorem dX7_begin_55 : decode cX7_begin 55 = .ok (.iastore, 1) := by decide +kernel
theorem dX7_begin_56 : decode cX7_begin 56 = .ok (.iinc 2 1, 3) := by decide +kernel
theorem dX7_begin_59 : decode cX7_begin 59 = .ok (.goto (-32), 3) := by decide +kernel
theorem dX7_begin_62 : decode cX7_begin 62 = .ok (.aload_n 0, 1) := by decide +kernel
theorem dX7_begin_63 : decode cX7_begin 63 = .ok (.iconst 0, 1) := by decide +kernel
theorem dX7_begin_64 : decode cX7_begin 64 = .ok (.putfield 38, 3) := by decide +kernel
theorem dX7_begin_67 : decode cX7_begin 67 = .ok (.aload_n 0, 1) := by decide +kernel
theorem dX7_begin_68 : decode cX7_begin 68 = .ok (.aload_n 1, 1) := by decide +kernel
theorem dX7_begin_69 : decode cX7_begin 69 = .ok (.getfield 41, 3) := by decide +kernel
theorem dX7_begin_72 : decode cX7_begin 72 = .ok (.putfield 44, 3) := by decide +kernel
theorem dX7_begin_75 : decode cX7_begin 75 = .ok (.return_, 1) := by decide +kernel
theorem dX7_copyOf_0 : decode cX7_copyOf 0 = .ok (.aload_n 1, 1) := by decide +kernel
theorem dX7_copyOf_1 : decode cX7_copyOf 1 = .ok (.getfield 9, 3) := by decide +kernel
theorem dX7_copyOf_4 : decode cX7_copyOf 4 = .ok (.iconst 0, 1) := by decide +kernel
theorem dX7_copyOf_5 : decode cX7_copyOf 5 = .ok (.aload_n 0, 1) := by decide +kernel
theorem dX7_copyOf_6 : decode cX7_copyOf 6 = .ok (.getfield 9, 3) := by decide +kernel
theorem dX7_copyOf_9 : decode cX7_copyOf 9 = .ok (.iconst 0, 1) := by decide +kernel
theorem dX7_copyOf_10 : decode cX7_copyOf 10 = .ok (.iconst 5, 1) := by decide +kernel
theorem dX7_copyOf_11 : decode cX7_copyOf 11 = .ok (.invokestatic 54, 3) := by decide +kernel
theorem dX7_copyOf_14 : decode cX7_copyOf 14 = .ok (.aload_n 1, 1) := by decide +kernel
theorem dX7_copyOf_15 : decode cX7_copyOf 15 = .ok (.getfield 15, 3) := by decide +kernel
theorem dX7_copyOf_18 : decode cX7_copyOf 18 = .ok (.iconst 0, 1) := by decide +kernel
theorem dX7_copyOf_19 : decode cX7_copyOf 19 = .ok (.aload_n 0, 1) := by decide +kernel
theorem dX7_copyOf_20 : decode cX7_copyOf 20 = .ok (.getfield 15, 3) := by decide +kernel
theorem dX7_copyOf_23 : decode cX7_copyOf 23 = .ok (.iconst 0, 1) := by decide +kernel
theorem dX7_copyOf_24 : decode cX7_copyOf 24 = .ok (.iconst 5, 1) := by decide +kernel
theorem dX7_copyOf_25 : decode cX7_copyOf 25 = .ok (.invokestatic 54, 3) := by decide +kernel
theorem dX7_copyOf_28 : decode cX7_copyOf 28 = .ok (.aload_n 1, 1) := by decide +kernel
theorem dX7_copyOf_29 : decode cX7_copyOf 29 = .ok (.getfield 18, 3) := by decide +kernel
theorem dX7_copyOf_32 : decode cX7_copyOf 32 = .ok (.iconst 0, 1) := by decide +kernel
theorem dX7_copyOf_33 : decode cX7_copyOf 33 = .ok (.aload_n 0, 1) := by decide +kernel
theorem dX7_copyOf_34 : decode cX7_copyOf 34 = .ok (.getfield 18, 3) := by decide +kernel
theorem dX7_copyOf_37 : decode cX7_copyOf 37 = .ok (.iconst 0, 1) := by decide +kernel
theorem dX7_copyOf_38 : decode cX7_copyOf 38 = .ok (.iconst 5, 1) := by decide +kernel
theorem dX7_copyOf_39 : decode cX7_copyOf 39 = .ok (.invokestatic 54, 3) := by decide +kernel
theorem dX7_copyOf_42 : decode cX7_copyOf 42 = .ok (.aload_n 1, 1) := by decide +kernel
theorem dX7_copyOf_43 : decode cX7_copyOf 43 = .ok (.getfield 21, 3) := by decide +kernel
theorem dX7_copyOf_46 : decode cX7_copyOf 46 = .ok (.iconst 0, 1) := by decide +kernel
theorem dX7_copyOf_47 : decode cX7_copyOf 47 = .ok (.aload_n 0, 1) := by decide +kernel
theorem dX7_copyOf_48 : decode cX7_copyOf 48 = .ok (.getfield 21, 3) := by decide +kernel
theorem dX7_copyOf_51 : decode cX7_copyOf 51 = .ok (.iconst 0, 1) := by decide +kernel
theorem dX7_copyOf_52 : decode cX7_copyOf 52 = .ok (.iconst 5, 1) := by decide +kernel
theorem dX7_copyOf_53 : decode cX7_copyOf 53 = .ok (.invokestatic 54, 3) := by decide +kernel
theorem dX7_copyOf_56 : decode cX7_copyOf 56 = .ok (.aload_n 1, 1) := by decide +kernel
theorem dX7_copyOf_57 : decode cX7_copyOf 57 = .ok (.getfield 24, 3) := by decide +kernel
theorem dX7_copyOf_60 : decode cX7_copyOf 60 = .ok (.iconst 0, 1) := by decide +kernel
theorem dX7_copyOf_61 : decode cX7_copyOf 61 = .ok (.aload_n 0, 1) := by decide +kernel
theorem dX7_copyOf_62 : decode cX7_copyOf 62 = .ok (.getfield 24, 3) := by decide +kernel
theorem dX7_copyOf_65 : decode cX7_copyOf 65 = .ok (.iconst 0, 1) := by decide +kernel
theorem dX7_copyOf_66 : decode cX7_copyOf 66 = .ok (.iconst 4, 1) := by decide +kernel
theorem dX7_copyOf_67 : decode cX7_copyOf 67 = .ok (.invokestatic 54, 3) := by decide +kernel
theorem dX7_copyOf_70 : decode cX7_copyOf 70 = .ok (.aload_n 0, 1) := by decide +kernel
theorem dX7_copyOf_71 : decode cX7_copyOf 71 = .ok (.aload_n 1, 1) := by decide +kernel
theorem dX7_copyOf_72 : decode cX7_copyOf 72 = .ok (.getfield 38, 3) := by decide +kernel
theorem dX7_copyOf_75 : decode cX7_copyOf 75 = .ok (.putfield 38, 3) := by decide +kernel
theorem dX7_copyOf_78 : decode cX7_copyOf 78 = .ok (.aload_n 0, 1) := by decide +kernel
theorem dX7_copyOf_79 : decode cX7_copyOf 79 = .ok (.aload_n 1, 1) := by decide +kernel
theorem dX7_copyOf_80 : decode cX7_copyOf 80 = .ok (.getfield 44, 3) := by decide +kernel
theorem dX7_copyOf_83 : decode cX7_copyOf 83 = .ok (.putfield 44, 3) := by decide +kernel
theorem dX7_copyOf_86 : decode cX7_copyOf 86 = .ok (.return_, 1) := by decide +kernel
theorem dX7_isOnApproval_0 : decode cX7_isOnApproval 0 = .ok (.aload_n 0, 1) := by decide +kernel
theorem dX7_isOnApproval_1 : decode cX7_isOnApproval 1 = .ok (.iload_n 1, 1) := by decide +kernel
theorem dX7_isOnApproval_2 : decode cX7_isOnApproval 2 = .ok (.invokevirtual 47, 3) := by decide +kernel
theorem dX7_isOnApproval_5 : decode cX7_isOnApproval 5 = .ok (.ifCond .ne 15, 3) := by decide +kernel
theorem dX7_isOnApproval_8 : decode cX7_isOnApproval 8 = .ok (.aload_n 0, 1) := by decide +kernel
theorem dX7_isOnApproval_9 : decode cX7_isOnApproval 9 = .ok (.iload_n 1, 1) := by decide +kernel
theorem dX7_isOnApproval_10 : decode cX7_isOnApproval 10 = .ok (.invokevirtual 51, 3) := by decide +kernel
theorem dX7_isOnApproval_13 : decode cX7_isOnApproval 13 = .ok (.ifCond .ne 7, 3) := by decide +kernel
theorem dX7_isOnApproval_16 : decode cX7_isOnApproval 16 = .ok (.iconst 1, 1) := by decide +kernel
theorem dX7_isOnApproval_17 : decode cX7_isOnApproval 17 = .ok (.goto 4, 3) := by decide +kernel
theorem dX7_isOnApproval_20 : decode cX7_isOnApproval 20 = .ok (.iconst 0, 1) := by decide +kernel
theorem dX7_isOnApproval_21 : decode cX7_isOnApproval 21 = .ok (.ireturn, 1) := by decide +kernel
theorem dX7_isOnCart_0 : decode cX7_isOnCart 0 = .ok (.aload_n 0, 1) := by decide +kernel
theorem dX7_isOnCart_1 : decode cX7_isOnCart 1 = .ok (.getfield 9, 3) := by decide +kernel
theorem dX7_isOnCart_4 : decode cX7_isOnCart 4 = .ok (.iload_n 1, 1) := by decide +kernel
theorem dX7_isOnCart_5 : decode cX7_isOnCart 5 = .ok (.iaload, 1) := by decide +kernel
theorem dX7_isOnCart_6 : decode cX7_isOnCart 6 = .ok (.iconst (-1), 1) := by decide +kernel
theorem dX7_isOnCart_7 : decode cX7_isOnCart 7 = .ok (.if_icmp .ne 7, 3) := by decide +kernel
theorem dX7_isOnCart_10 : decode cX7_isOnCart 10 = .ok (.iconst 1, 1) := by decide +kernel
theorem dX7_isOnCart_11 : decode cX7_isOnCart 11 = .ok (.goto 4, 3) := by decide +kernel
theorem dX7_isOnCart_14 : decode cX7_isOnCart 14 = .ok (.iconst 0, 1) := by decide +kernel
theorem dX7_isOnCart_15 : decode cX7_isOnCart 15 = .ok (.ireturn, 1) := by decide +kernel
theorem dX7_isPaid_0 : decode cX7_isPaid 0 = .ok (.aload_n 0, 1) := by decide +kernel
theorem dX7_isPaid_1 : decode cX7_isPaid 1 = .ok (.getfield 15, 3) := by decide +kernel
theorem dX7_isPaid_4 : decode cX7_isPaid 4 = .ok (.iload_n 1, 1) := by decide +kernel
theorem dX7_isPaid_5 : decode cX7_isPaid 5 = .ok (.iaload, 1) := by decide +kernel
theorem dX7_isPaid_6 : decode cX7_isPaid 6 = .ok (.iconst 1, 1) := by decide +kernel
theorem dX7_isPaid_7 : decode cX7_isPaid 7 = .ok (.if_icmp .ne 7, 3) := by decide +kernel
theorem dX7_isPaid_10 : decode cX7_isPaid 10 = .ok (.iconst 1, 1) := by decide +kernel
theorem dX7_isPaid_11 : decode cX7_isPaid 11 = .ok (.goto 4, 3) := by decide +kernel
theorem dX7_isPaid_14 : decode cX7_isPaid 14 = .ok (.iconst 0, 1) := by decide +kernel
theorem dX7_isPaid_15 : decode cX7_isPaid 15 = .ok (.ireturn, 1) := by decide +kernel
theorem dX7_onApprovalIn_0 : decode cX7_onApprovalIn 0 = .ok (.iconst 0, 1) := by decide +kernel
theorem dX7_onApprovalIn_1 : decode cX7_onApprovalIn 1 = .ok (.istore_n 2, 1) := by decide +kernel
theorem dX7_onApprovalIn_2 : decode cX7_onApprovalIn 2 = .ok (.iload_n 2, 1) := by decide +kernel
theorem dX7_onApprovalIn_3 : decode cX7_onApprovalIn 3 = .ok (.iconst 5, 1) := by decide +kernel
theorem dX7_onApprovalIn_4 : decode cX7_onApprovalIn 4 = .ok (.if_icmp .ge 29, 3) := by decide +kernel
theorem dX7_onApprovalIn_7 : decode cX7_onApprovalIn 7 = .ok (.aload_n 0, 1) := by decide +kernel
theorem dX7_onApprovalIn_8 : decode cX7_onApprovalIn 8 = .ok (.getfield 9, 3) := by decide +kernel
theorem dX7_onApprovalIn_11 : decode cX7_onApprovalIn 11 = .ok (.iload_n 2, 1) := by decide +kernel
theorem dX7_onApprovalIn_12 : decode cX7_onApprovalIn 12 = .ok (.iaload, 1) := by decide +kernel
theorem dX7_onApprovalIn_13 : decode cX7_onApprovalIn 13 = .ok (.iload_n 1, 1) := by decide +kernel
theorem dX7_onApprovalIn_14 : decode cX7_onApprovalIn 14 = .ok (.if_icmp .ne 13, 3) := by decide +kernel
theorem dX7_onApprovalIn_17 : decode cX7_onApprovalIn 17 = .ok (.aload_n 0, 1) := by decide +kernel
theorem dX7_onApprovalIn_18 : decode cX7_onApprovalIn 18 = .ok (.iload_n 2, 1) := by decide +kernel
theorem dX7_onApprovalIn_19 : decode cX7_onApprovalIn 19 = .ok (.invokevirtual 51, 3) := by decide +kernel
theorem dX7_onApprovalIn_22 : decode cX7_onApprovalIn 22 = .ok (.ifCond .ne 5, 3) := by decide +kernel
theorem dX7_onApprovalIn_25 : decode cX7_onApprovalIn 25 = .ok (.iload_n 2, 1) := by decide +kernel
theorem dX7_onApprovalIn_26 : decode cX7_onApprovalIn 26 = .ok (.ireturn, 1) := by decide +kernel
theorem dX7_onApprovalIn_27 : decode cX7_onApprovalIn 27 = .ok (.iinc 2 1, 3) := by decide +kernel
theorem dX7_onApprovalIn_30 : decode cX7_onApprovalIn 30 = .ok (.goto (-28), 3) := by decide +kernel
theorem dX7_onApprovalIn_33 : decode cX7_onApprovalIn 33 = .ok (.iconst (-1), 1) := by decide +kernel
theorem dX7_onApprovalIn_34 : decode cX7_onApprovalIn 34 = .ok (.ireturn, 1) := by decide +kernel
theorem dX7_pay_0 : decode cX7_pay 0 = .ok (.aload_n 0, 1) := by decide +kernel
theorem dX7_pay_1 : decode cX7_pay 1 = .ok (.getfield 15, 3) := by decide +kernel
theorem dX7_pay_4 : decode cX7_pay 4 = .ok (.iload_n 1, 1) := by decide +kernel
theorem dX7_pay_5 : decode cX7_pay 5 = .ok (.iconst 1, 1) := by decide +kernel
theorem dX7_pay_6 : decode cX7_pay 6 = .ok (.iastore, 1) := by decide +kernel
theorem dX7_pay_7 : decode cX7_pay 7 = .ok (.aload_n 0, 1) := by decide +kernel
theorem dX7_pay_8 : decode cX7_pay 8 = .ok (.getfield 21, 3) := by decide +kernel
theorem dX7_pay_11 : decode cX7_pay 11 = .ok (.iload_n 1, 1) := by decide +kernel
theorem dX7_pay_12 : decode cX7_pay 12 = .ok (.iconst 0, 1) := by decide +kernel
theorem dX7_pay_13 : decode cX7_pay 13 = .ok (.iastore, 1) := by decide +kernel
theorem dX7_pay_14 : decode cX7_pay 14 = .ok (.return_, 1) := by decide +kernel
theorem dX7_readFrom_0 : decode cX7_readFrom 0 = .ok (.iload_n 2, 1) := by decide +kernel
theorem dX7_readFrom_1 : decode cX7_readFrom 1 = .ok (.bipush 26, 2) := by decide +kernel
theorem dX7_readFrom_3 : decode cX7_readFrom 3 = .ok (.imul, 1) := by decide +kernel
theorem dX7_readFrom_4 : decode cX7_readFrom 4 = .ok (.istore_n 3, 1) := by decide +kernel
theorem dX7_readFrom_5 : decode cX7_readFrom 5 = .ok (.iload_n 3, 1) := by decide +kernel
theorem dX7_readFrom_6 : decode cX7_readFrom 6 = .ok (.ifCond .lt 12, 3) := by decide +kernel
theorem dX7_readFrom_9 : decode cX7_readFrom 9 = .ok (.iload_n 3, 1) := by decide +kernel
theorem dX7_readFrom_10 : decode cX7_readFrom 10 = .ok (.bipush 26, 2) := by decide +kernel
theorem dX7_readFrom_12 : decode cX7_readFrom 12 = .ok (.iadd, 1) := by decide +kernel
theorem dX7_readFrom_13 : decode cX7_readFrom 13 = .ok (.aload_n 1, 1) := by decide +kernel
theorem dX7_readFrom_14 : decode cX7_readFrom 14 = .ok (.arraylength, 1) := by decide +kernel
theorem dX7_readFrom_15 : decode cX7_readFrom 15 = .ok (.if_icmp .le 4, 3) := by decide +kernel
theorem dX7_readFrom_18 : decode cX7_readFrom 18 = .ok (.return_, 1) := by decide +kernel
theorem dX7_readFrom_19 : decode cX7_readFrom 19 = .ok (.aload_n 1, 1) := by decide +kernel
theorem dX7_readFrom_20 : decode cX7_readFrom 20 = .ok (.iload_n 3, 1) := by decide +kernel
theorem dX7_readFrom_21 : decode cX7_readFrom 21 = .ok (.aload_n 0, 1) := by decide +kernel
theorem dX7_readFrom_22 : decode cX7_readFrom 22 = .ok (.getfield 9, 3) := by decide +kernel
theorem dX7_readFrom_25 : decode cX7_readFrom 25 = .ok (.iconst 0, 1) := by decide +kernel
theorem dX7_readFrom_26 : decode cX7_readFrom 26 = .ok (.iconst 5, 1) := by decide +kernel
theorem dX7_readFrom_27 : decode cX7_readFrom 27 = .ok (.invokestatic 54, 3) := by decide +kernel
theorem dX7_readFrom_30 : decode cX7_readFrom 30 = .ok (.aload_n 1, 1) := by decide +kernel
theorem dX7_readFrom_31 : decode cX7_readFrom 31 = .ok (.iload_n 3, 1) := by decide +kernel
theorem dX7_readFrom_32 : decode cX7_readFrom 32 = .ok (.iconst 5, 1) := by decide +kernel
theorem dX7_readFrom_33 : decode cX7_readFrom 33 = .ok (.iadd, 1) := by decide +kernel
theorem dX7_readFrom_34 : decode cX7_readFrom 34 = .ok (.aload_n 0, 1) := by decide +kernel
theorem dX7_readFrom_35 : decode cX7_readFrom 35 = .ok (.getfield 15, 3) := by decide +kernel
theorem dX7_readFrom_38 : decode cX7_readFrom 38 = .ok (.iconst 0, 1) := by decide +kernel
theorem dX7_readFrom_39 : decode cX7_readFrom 39 = .ok (.iconst 5, 1) := by decide +kernel
theorem dX7_readFrom_40 : decode cX7_readFrom 40 = .ok (.invokestatic 54, 3) := by decide +kernel
theorem dX7_readFrom_43 : decode cX7_readFrom 43 = .ok (.aload_n 1, 1) := by decide +kernel
theorem dX7_readFrom_44 : decode cX7_readFrom 44 = .ok (.iload_n 3, 1) := by decide +kernel
theorem dX7_readFrom_45 : decode cX7_readFrom 45 = .ok (.bipush 10, 2) := by decide +kernel
theorem dX7_readFrom_47 : decode cX7_readFrom 47 = .ok (.iadd, 1) := by decide +kernel
theorem dX7_readFrom_48 : decode cX7_readFrom 48 = .ok (.aload_n 0, 1) := by decide +kernel
theorem dX7_readFrom_49 : decode cX7_readFrom 49 = .ok (.getfield 18, 3) := by decide +kernel
theorem dX7_readFrom_52 : decode cX7_readFrom 52 = .ok (.iconst 0, 1) := by decide +kernel
theorem dX7_readFrom_53 : decode cX7_readFrom 53 = .ok (.iconst 5, 1) := by decide +kernel
theorem dX7_readFrom_54 : decode cX7_readFrom 54 = .ok (.invokestatic 54, 3) := by decide +kernel
theorem dX7_readFrom_57 : decode cX7_readFrom 57 = .ok (.aload_n 1, 1) := by decide +kernel
theorem dX7_readFrom_58 : decode cX7_readFrom 58 = .ok (.iload_n 3, 1) := by decide +kernel
theorem dX7_readFrom_59 : decode cX7_readFrom 59 = .ok (.bipush 15, 2) := by decide +kernel
theorem dX7_readFrom_61 : decode cX7_readFrom 61 = .ok (.iadd, 1) := by decide +kernel
theorem dX7_readFrom_62 : decode cX7_readFrom 62 = .ok (.aload_n 0, 1) := by decide +kernel
theorem dX7_readFrom_63 : decode cX7_readFrom 63 = .ok (.getfield 21, 3) := by decide +kernel
theorem dX7_readFrom_66 : decode cX7_readFrom 66 = .ok (.iconst 0, 1) := by decide +kernel
theorem dX7_readFrom_67 : decode cX7_readFrom 67 = .ok (.iconst 5, 1) := by decide +kernel
theorem dX7_readFrom_68 : decode cX7_readFrom 68 = .ok (.invokestatic 54, 3) := by decide +kernel
theorem dX7_readFrom_71 : decode cX7_readFrom 71 = .ok (.aload_n 1, 1) := by decide +kernel
theorem dX7_readFrom_72 : decode cX7_readFrom 72 = .ok (.iload_n 3, 1) := by decide +kernel
theorem dX7_readFrom_73 : decode cX7_readFrom 73 = .ok (.bipush 20, 2) := by decide +kernel
theorem dX7_readFrom_75 : decode cX7_readFrom 75 = .ok (.iadd, 1) := by decide +kernel
theorem dX7_readFrom_76 : decode cX7_readFrom 76 = .ok (.aload_n 0, 1) := by decide +kernel
theorem dX7_readFrom_77 : decode cX7_readFrom 77 = .ok (.getfield 24, 3) := by decide +kernel
theorem dX7_readFrom_80 : decode cX7_readFrom 80 = .ok (.iconst 0, 1) := by decide +kernel
theorem dX7_readFrom_81 : decode cX7_readFrom 81 = .ok (.iconst 4, 1) := by decide +kernel
theorem dX7_readFrom_82 : decode cX7_readFrom 82 = .ok (.invokestatic 54, 3) := by decide +kernel
theorem dX7_readFrom_85 : decode cX7_readFrom 85 = .ok (.aload_n 0, 1) := by decide +kernel
theorem dX7_readFrom_86 : decode cX7_readFrom 86 = .ok (.aload_n 1, 1) := by decide +kernel
theorem dX7_readFrom_87 : decode cX7_readFrom 87 = .ok (.iload_n 3, 1) := by decide +kernel
theorem dX7_readFrom_88 : decode cX7_readFrom 88 = .ok (.bipush 26, 2) := by decide +kernel
theorem dX7_readFrom_90 : decode cX7_readFrom 90 = .ok (.iadd, 1) := by decide +kernel
theorem dX7_readFrom_91 : decode cX7_readFrom 91 = .ok (.iconst 2, 1) := by decide +kernel
theorem dX7_readFrom_92 : decode cX7_readFrom 92 = .ok (.isub, 1) := by decide +kernel
theorem dX7_readFrom_93 : decode cX7_readFrom 93 = .ok (.iaload, 1) := by decide +kernel
theorem dX7_readFrom_94 : decode cX7_readFrom 94 = .ok (.putfield 38, 3) := by decide +kernel
theorem dX7_readFrom_97 : decode cX7_readFrom 97 = .ok (.aload_n 0, 1) := by decide +kernel
theorem dX7_readFrom_98 : decode cX7_readFrom 98 = .ok (.aload_n 1, 1) := by decide +kernel
theorem dX7_readFrom_99 : decode cX7_readFrom 99 = .ok (.iload_n 3, 1) := by decide +kernel
theorem dX7_readFrom_100 : decode cX7_readFrom 100 = .ok (.bipush 26, 2) := by decide +kernel
theorem dX7_readFrom_102 : decode cX7_readFrom 102 = .ok (.iadd, 1) := by decide +kernel
theorem dX7_readFrom_103 : decode cX7_readFrom 103 = .ok (.iconst 1, 1) := by decide +kernel
theorem dX7_readFrom_104 : decode cX7_readFrom 104 = .ok (.isub, 1) := by decide +kernel
theorem dX7_readFrom_105 : decode cX7_readFrom 105 = .ok (.iaload, 1) := by decide +kernel
theorem dX7_readFrom_106 : decode cX7_readFrom 106 = .ok (.putfield 44, 3) := by decide +kernel
theorem dX7_readFrom_109 : decode cX7_readFrom 109 = .ok (.return_, 1) := by decide +kernel
theorem dX7_writeTo_0 : decode cX7_writeTo 0 = .ok (.iload_n 2, 1) := by decide +kernel
theorem dX7_writeTo_1 : decode cX7_writeTo 1 = .ok (.bipush 26, 2) := by decide +kernel
theorem dX7_writeTo_3 : decode cX7_writeTo 3 = .ok (.imul, 1) := by decide +kernel
theorem dX7_writeTo_4 : decode cX7_writeTo 4 = .ok (.istore_n 3, 1) := by decide +kernel
theorem dX7_writeTo_5 : decode cX7_writeTo 5 = .ok (.iload_n 3, 1) := by decide +kernel
theorem dX7_writeTo_6 : decode cX7_writeTo 6 = .ok (.ifCond .lt 12, 3) := by decide +kernel
theorem dX7_writeTo_9 : decode cX7_writeTo 9 = .ok (.iload_n 3, 1) := by decide +kernel
theorem dX7_writeTo_10 : decode cX7_writeTo 10 = .ok (.bipush 26, 2) := by decide +kernel
theorem dX7_writeTo_12 : decode cX7_writeTo 12 = .ok (.iadd, 1) := by decide +kernel
theorem dX7_writeTo_13 : decode cX7_writeTo 13 = .ok (.aload_n 1, 1) := by decide +kernel
theorem dX7_writeTo_14 : decode cX7_writeTo 14 = .ok (.arraylength, 1) := by decide +kernel
theorem dX7_writeTo_15 : decode cX7_writeTo 15 = .ok (.if_icmp .le 4, 3) := by decide +kernel
theorem dX7_writeTo_18 : decode cX7_writeTo 18 = .ok (.return_, 1) := by decide +kernel
theorem dX7_writeTo_19 : decode cX7_writeTo 19 = .ok (.aload_n 0, 1) := by decide +kernel
theorem dX7_writeTo_20 : decode cX7_writeTo 20 = .ok (.getfield 9, 3) := by decide +kernel
theorem dX7_writeTo_23 : decode cX7_writeTo 23 = .ok (.iconst 0, 1) := by decide +kernel
theorem dX7_writeTo_24 : decode cX7_writeTo 24 = .ok (.aload_n 1, 1) := by decide +kernel
theorem dX7_writeTo_25 : decode cX7_writeTo 25 = .ok (.iload_n 3, 1) := by decide +kernel
theorem dX7_writeTo_26 : decode cX7_writeTo 26 = .ok (.iconst 5, 1) := by decide +kernel
theorem dX7_writeTo_27 : decode cX7_writeTo 27 = .ok (.invokestatic 54, 3) := by decide +kernel
theorem dX7_writeTo_30 : decode cX7_writeTo 30 = .ok (.aload_n 0, 1) := by decide +kernel
theorem dX7_writeTo_31 : decode cX7_writeTo 31 = .ok (.getfield 15, 3) := by decide +kernel
theorem dX7_writeTo_34 : decode cX7_writeTo 34 = .ok (.iconst 0, 1) := by decide +kernel
theorem dX7_writeTo_35 : decode cX7_writeTo 35 = .ok (.aload_n 1, 1) := by decide +kernel
theorem dX7_writeTo_36 : decode cX7_writeTo 36 = .ok (.iload_n 3, 1) := by decide +kernel
theorem dX7_writeTo_37 : decode cX7_writeTo 37 = .ok (.iconst 5, 1) := by decide +kernel
theorem dX7_writeTo_38 : decode cX7_writeTo 38 = .ok (.iadd, 1) := by decide +kernel
theorem dX7_writeTo_39 : decode cX7_writeTo 39 = .ok (.iconst 5, 1) := by decide +kernel
theorem dX7_writeTo_40 : decode cX7_writeTo 40 = .ok (.invokestatic 54, 3) := by decide +kernel
theorem dX7_writeTo_43 : decode cX7_writeTo 43 = .ok (.aload_n 0, 1) := by decide +kernel
theorem dX7_writeTo_44 : decode cX7_writeTo 44 = .ok (.getfield 18, 3) := by decide +kernel
theorem dX7_writeTo_47 : decode cX7_writeTo 47 = .ok (.iconst 0, 1) := by decide +kernel
theorem dX7_writeTo_48 : decode cX7_writeTo 48 = .ok (.aload_n 1, 1) := by decide +kernel
theorem dX7_writeTo_49 : decode cX7_writeTo 49 = .ok (.iload_n 3, 1) := by decide +kernel
theorem dX7_writeTo_50 : decode cX7_writeTo 50 = .ok (.bipush 10, 2) := by decide +kernel
theorem dX7_writeTo_52 : decode cX7_writeTo 52 = .ok (.iadd, 1) := by decide +kernel
theorem dX7_writeTo_53 : decode cX7_writeTo 53 = .ok (.iconst 5, 1) := by decide +kernel
theorem dX7_writeTo_54 : decode cX7_writeTo 54 = .ok (.invokestatic 54, 3) := by decide +kernel
theorem dX7_writeTo_57 : decode cX7_writeTo 57 = .ok (.aload_n 0, 1) := by decide +kernel
theorem dX7_writeTo_58 : decode cX7_writeTo 58 = .ok (.getfield 21, 3) := by decide +kernel
theorem dX7_writeTo_61 : decode cX7_writeTo 61 = .ok (.iconst 0, 1) := by decide +kernel
theorem dX7_writeTo_62 : decode cX7_writeTo 62 = .ok (.aload_n 1, 1) := by decide +kernel
theorem dX7_writeTo_63 : decode cX7_writeTo 63 = .ok (.iload_n 3, 1) := by decide +kernel
theorem dX7_writeTo_64 : decode cX7_writeTo 64 = .ok (.bipush 15, 2) := by decide +kernel
theorem dX7_writeTo_66 : decode cX7_writeTo 66 = .ok (.iadd, 1) := by decide +kernel
theorem dX7_writeTo_67 : decode cX7_writeTo 67 = .ok (.iconst 5, 1) := by decide +kernel
theorem dX7_writeTo_68 : decode cX7_writeTo 68 = .ok (.invokestatic 54, 3) := by decide +kernel
theorem dX7_writeTo_71 : decode cX7_writeTo 71 = .ok (.aload_n 0, 1) := by decide +kernel
theorem dX7_writeTo_72 : decode cX7_writeTo 72 = .ok (.getfield 24, 3) := by decide +kernel
theorem dX7_writeTo_75 : decode cX7_writeTo 75 = .ok (.iconst 0, 1) := by decide +kernel
theorem dX7_writeTo_76 : decode cX7_writeTo 76 = .ok (.aload_n 1, 1) := by decide +kernel
theorem dX7_writeTo_77 : decode cX7_writeTo 77 = .ok (.iload_n 3, 1) := by decide +kernel
theorem dX7_writeTo_78 : decode cX7_writeTo 78 = .ok (.bipush 20, 2) := by decide +kernel
theorem dX7_writeTo_80 : decode cX7_writeTo 80 = .ok (.iadd, 1) := by decide +kernel
theorem dX7_writeTo_81 : decode cX7_writeTo 81 = .ok (.iconst 4, 1) := by decide +kernel
theorem dX7_writeTo_82 : decode cX7_writeTo 82 = .ok (.invokestatic 54, 3) := by decide +kernel
theorem dX7_writeTo_85 : decode cX7_writeTo 85 = .ok (.aload_n 1, 1) := by decide +kernel
theorem dX7_writeTo_86 : decode cX7_writeTo 86 = .ok (.iload_n 3, 1) := by decide +kernel
theorem dX7_writeTo_87 : decode cX7_writeTo 87 = .ok (.bipush 26, 2) := by decide +kernel
theorem dX7_writeTo_89 : decode cX7_writeTo 89 = .ok (.iadd, 1) := by decide +kernel
theorem dX7_writeTo_90 : decode cX7_writeTo 90 = .ok (.iconst 2, 1) := by decide +kernel
theorem dX7_writeTo_91 : decode cX7_writeTo 91 = .ok (.isub, 1) := by decide +kernel
theorem dX7_writeTo_92 : decode cX7_writeTo 92 = .ok (.aload_n 0, 1) := by decide +kernel
theorem dX7_writeTo_93 : decode cX7_writeTo 93 = .ok (.getfield 38, 3) := by decide +kernel
theorem dX7_writeTo_96 : decode cX7_writeTo 96 = .ok (.iastore, 1) := by decide +kernel
theorem dX7_writeTo_97 : decode cX7_writeTo 97 = .ok (.aload_n 1, 1) := by decide +kernel
theorem dX7_writeTo_98 : decode cX7_writeTo 98 = .ok (.iload_n 3, 1) := by decide +kernel
theorem dX7_writeTo_99 : decode cX7_writeTo 99 = .ok (.bipush 26, 2) := by decide +kernel
theorem dX7_writeTo_101 : decode cX7_writeTo 101 = .ok (.iadd, 1) := by decide +kernel
theorem dX7_writeTo_102 : decode cX7_writeTo 102 = .ok (.iconst 1, 1) := by decide +kernel
theorem dX7_writeTo_103 : decode cX7_writeTo 103 = .ok (.isub, 1) := by decide +kernel
theorem dX7_writeTo_104 : decode cX7_writeTo 104 = .ok (.aload_n 0, 1) := by decide +kernel
theorem dX7_writeTo_105 : decode cX7_writeTo 105 = .ok (.getfield 44, 3) := by decide +kernel
theorem dX7_writeTo_108 : decode cX7_writeTo 108 = .ok (.iastore, 1) := by decide +kernel
theorem dX7_writeTo_109 : decode cX7_writeTo 109 = .ok (.return_, 1) := by decide +kernel
theorem dX8_about_0 : decode cX8_about 0 = .ok (.iload_n 1, 1) := by decide +kernel
theorem dX8_about_1 : decode cX8_about 1 = .ok (.tableswitch 180 0 14 #[75, 83, 91, 99, 104, 109, 117, 125, 133, 141, 149, 154, 159, 167, 172], 75) := by decide +kernel
theorem dX8_about_76 : decode cX8_about 76 = .ok (.aload_n 0, 1) := by decide +kernel
theorem dX8_about_77 : decode cX8_about 77 = .ok (.getfield 23, 3) := by decide +kernel
theorem dX8_about_80 : decode cX8_about 80 = .ok (.getfield 99, 3) := by decide +kernel
theorem dX8_about_83 : decode cX8_about 83 = .ok (.ireturn, 1) := by decide +kernel
theorem dX8_about_84 : decode cX8_about 84 = .ok (.aload_n 0, 1) := by decide +kernel
theorem dX8_about_85 : decode cX8_about 85 = .ok (.getfield 23, 3) := by decide +kernel
theorem dX8_about_88 : decode cX8_about 88 = .ok (.getfield 108, 3) := by decide +kernel
theorem dX8_about_91 : decode cX8_about 91 = .ok (.ireturn, 1) := by decide +kernel
theorem dX8_about_92 : decode cX8_about 92 = .ok (.aload_n 0, 1) := by decide +kernel
theorem dX8_about_93 : decode cX8_about 93 = .ok (.getfield 23, 3) := by decide +kernel
theorem dX8_about_96 : decode cX8_about 96 = .ok (.getfield 188, 3) := by decide +kernel
theorem dX8_about_99 : decode cX8_about 99 = .ok (.ireturn, 1) := by decide +kernel
theorem dX8_about_100 : decode cX8_about 100 = .ok (.aload_n 0, 1) := by decide +kernel
theorem dX8_about_101 : decode cX8_about 101 = .ok (.invokevirtual 237, 3) := by decide +kernel
theorem dX8_about_104 : decode cX8_about 104 = .ok (.ireturn, 1) := by decide +kernel
theorem dX8_about_105 : decode cX8_about 105 = .ok (.aload_n 0, 1) := by decide +kernel
theorem dX8_about_106 : decode cX8_about 106 = .ok (.invokevirtual 301, 3) := by decide +kernel
theorem dX8_about_109 : decode cX8_about 109 = .ok (.ireturn, 1) := by decide +kernel
theorem dX8_about_110 : decode cX8_about 110 = .ok (.aload_n 0, 1) := by decide +kernel
theorem dX8_about_111 : decode cX8_about 111 = .ok (.getfield 30, 3) := by decide +kernel
theorem dX8_about_114 : decode cX8_about 114 = .ok (.getfield 168, 3) := by decide +kernel
theorem dX8_about_117 : decode cX8_about 117 = .ok (.ireturn, 1) := by decide +kernel
theorem dX8_about_118 : decode cX8_about 118 = .ok (.aload_n 0, 1) := by decide +kernel
theorem dX8_about_119 : decode cX8_about 119 = .ok (.getfield 30, 3) := by decide +kernel
theorem dX8_about_122 : decode cX8_about 122 = .ok (.getfield 185, 3) := by decide +kernel
theorem dX8_about_125 : decode cX8_about 125 = .ok (.ireturn, 1) := by decide +kernel
theorem dX8_about_126 : decode cX8_about 126 = .ok (.aload_n 0, 1) := by decide +kernel
theorem dX8_about_127 : decode cX8_about 127 = .ok (.getfield 40, 3) := by decide +kernel
theorem dX8_about_130 : decode cX8_about 130 = .ok (.getfield 349, 3) := by decide +kernel
theorem dX8_about_133 : decode cX8_about 133 = .ok (.ireturn, 1) := by decide +kernel
theorem dX8_about_134 : decode cX8_about 134 = .ok (.aload_n 0, 1) := by decide +kernel
theorem dX8_about_135 : decode cX8_about 135 = .ok (.getfield 40, 3) := by decide +kernel
theorem dX8_about_138 : decode cX8_about 138 = .ok (.getfield 352, 3) := by decide +kernel
theorem dX8_about_141 : decode cX8_about 141 = .ok (.ireturn, 1) := by decide +kernel
theorem dX8_about_142 : decode cX8_about 142 = .ok (.aload_n 0, 1) := by decide +kernel
theorem dX8_about_143 : decode cX8_about 143 = .ok (.getfield 55, 3) := by decide +kernel
theorem dX8_about_146 : decode cX8_about 146 = .ok (.getfield 355, 3) := by decide +kernel
theorem dX8_about_149 : decode cX8_about 149 = .ok (.ireturn, 1) := by decide +kernel
theorem dX8_about_150 : decode cX8_about 150 = .ok (.aload_n 0, 1) := by decide +kernel
theorem dX8_about_151 : decode cX8_about 151 = .ok (.getfield 321, 3) := by decide +kernel
theorem dX8_about_154 : decode cX8_about 154 = .ok (.ireturn, 1) := by decide +kernel
theorem dX8_about_155 : decode cX8_about 155 = .ok (.aload_n 0, 1) := by decide +kernel
theorem dX8_about_156 : decode cX8_about 156 = .ok (.getfield 78, 3) := by decide +kernel
theorem dX8_about_159 : decode cX8_about 159 = .ok (.ireturn, 1) := by decide +kernel
theorem dX8_about_160 : decode cX8_about 160 = .ok (.aload_n 0, 1) := by decide +kernel
theorem dX8_about_161 : decode cX8_about 161 = .ok (.getfield 23, 3) := by decide +kernel
theorem dX8_about_164 : decode cX8_about 164 = .ok (.getfield 358, 3) := by decide +kernel
theorem dX8_about_167 : decode cX8_about 167 = .ok (.ireturn, 1) := by decide +kernel
theorem dX8_about_168 : decode cX8_about 168 = .ok (.aload_n 0, 1) := by decide +kernel
theorem dX8_about_169 : decode cX8_about 169 = .ok (.getfield 96, 3) := by decide +kernel
theorem dX8_about_172 : decode cX8_about 172 = .ok (.ireturn, 1) := by decide +kernel
theorem dX8_about_173 : decode cX8_about 173 = .ok (.aload_n 0, 1) := by decide +kernel
theorem dX8_about_174 : decode cX8_about 174 = .ok (.getfield 23, 3) := by decide +kernel
theorem dX8_about_177 : decode cX8_about 177 = .ok (.getfield 171, 3) := by decide +kernel
theorem dX8_about_180 : decode cX8_about 180 = .ok (.ireturn, 1) := by decide +kernel
theorem dX8_about_181 : decode cX8_about 181 = .ok (.iconst (-1), 1) := by decide +kernel
theorem dX8_about_182 : decode cX8_about 182 = .ok (.ireturn, 1) := by decide +kernel
theorem dX8_alike_0 : decode cX8_alike 0 = .ok (.aload_n 0, 1) := by decide +kernel
theorem dX8_alike_1 : decode cX8_alike 1 = .ok (.iload_n 1, 1) := by decide +kernel
theorem dX8_alike_2 : decode cX8_alike 2 = .ok (.invokevirtual 111, 3) := by decide +kernel
theorem dX8_alike_5 : decode cX8_alike 5 = .ok (.ifCond .eq 11, 3) := by decide +kernel
theorem dX8_alike_8 : decode cX8_alike 8 = .ok (.aload_n 0, 1) := by decide +kernel
theorem dX8_alike_9 : decode cX8_alike 9 = .ok (.iload_n 2, 1) := by decide +kernel
theorem dX8_alike_10 : decode cX8_alike 10 = .ok (.invokevirtual 111, 3) := by decide +kernel
theorem dX8_alike_13 : decode cX8_alike 13 = .ok (.ifCond .ne 5, 3) := by decide +kernel
theorem dX8_alike_16 : decode cX8_alike 16 = .ok (.iconst (-1), 1) := by decide +kernel
theorem dX8_alike_17 : decode cX8_alike 17 = .ok (.ireturn, 1) := by decide +kernel
theorem dX8_alike_18 : decode cX8_alike 18 = .ok (.aload_n 0, 1) := by decide +kernel
theorem dX8_alike_19 : decode cX8_alike 19 = .ok (.getfield 23, 3) := by decide +kernel
theorem dX8_alike_22 : decode cX8_alike 22 = .ok (.iload_n 1, 1) := by decide +kernel
theorem dX8_alike_23 : decode cX8_alike 23 = .ok (.aload_n 0, 1) := by decide +kernel
theorem dX8_alike_24 : decode cX8_alike 24 = .ok (.getfield 30, 3) := by decide +kernel
theorem dX8_alike_27 : decode cX8_alike 27 = .ok (.getfield 118, 3) := by decide +kernel
theorem dX8_alike_30 : decode cX8_alike 30 = .ok (.iload_n 1, 1) := by decide +kernel
theorem dX8_alike_31 : decode cX8_alike 31 = .ok (.iaload, 1) := by decide +kernel
theorem dX8_alike_32 : decode cX8_alike 32 = .ok (.invokevirtual 121, 3) := by decide +kernel
theorem dX8_alike_35 : decode cX8_alike 35 = .ok (.istore_n 3, 1) := by decide +kernel
theorem dX8_alike_36 : decode cX8_alike 36 = .ok (.aload_n 0, 1) := by decide +kernel
theorem dX8_alike_37 : decode cX8_alike 37 = .ok (.getfield 23, 3) := by decide +kernel
theorem dX8_alike_40 : decode cX8_alike 40 = .ok (.iload_n 2, 1) := by decide +kernel
theorem dX8_alike_41 : decode cX8_alike 41 = .ok (.aload_n 0, 1) := by decide +kernel
theorem dX8_alike_42 : decode cX8_alike 42 = .ok (.getfield 30, 3) := by decide +kernel
theorem dX8_alike_45 : decode cX8_alike 45 = .ok (.getfield 118, 3) := by decide +kernel
theorem dX8_alike_48 : decode cX8_alike 48 = .ok (.iload_n 2, 1) := by decide +kernel
theorem dX8_alike_49 : decode cX8_alike 49 = .ok (.iaload, 1) := by decide +kernel
theorem dX8_alike_50 : decode cX8_alike 50 = .ok (.invokevirtual 121, 3) := by decide +kernel
theorem dX8_alike_53 : decode cX8_alike 53 = .ok (.istore 4, 2) := by decide +kernel
theorem dX8_alike_55 : decode cX8_alike 55 = .ok (.iconst 0, 1) := by decide +kernel
theorem dX8_alike_56 : decode cX8_alike 56 = .ok (.istore 5, 2) := by decide +kernel
theorem dX8_alike_58 : decode cX8_alike 58 = .ok (.iconst 1, 1) := by decide +kernel
theorem dX8_alike_59 : decode cX8_alike 59 = .ok (.istore 6, 2) := by decide +kernel
theorem dX8_alike_61 : decode cX8_alike 61 = .ok (.iload 6, 2) := by decide +kernel
theorem dX8_alike_63 : decode cX8_alike 63 = .ok (.iload_n 3, 1) := by decide +kernel
theorem dX8_alike_64 : decode cX8_alike 64 = .ok (.if_icmp .gt 73, 3) := by decide +kernel
theorem dX8_alike_67 : decode cX8_alike 67 = .ok (.iload 6, 2) := by decide +kernel
theorem dX8_alike_69 : decode cX8_alike 69 = .ok (.iload 4, 2) := by decide +kernel
theorem dX8_alike_71 : decode cX8_alike 71 = .ok (.if_icmp .gt 66, 3) := by decide +kernel
theorem dX8_alike_74 : decode cX8_alike 74 = .ok (.aload_n 0, 1) := by decide +kernel
theorem dX8_alike_75 : decode cX8_alike 75 = .ok (.getfield 23, 3) := by decide +kernel
theorem dX8_alike_78 : decode cX8_alike 78 = .ok (.iload_n 1, 1) := by decide +kernel
theorem dX8_alike_79 : decode cX8_alike 79 = .ok (.aload_n 0, 1) := by decide +kernel
theorem dX8_alike_80 : decode cX8_alike 80 = .ok (.getfield 30, 3) := by decide +kernel
theorem dX8_alike_83 : decode cX8_alike 83 = .ok (.getfield 118, 3) := by decide +kernel
theorem dX8_alike_86 : decode cX8_alike 86 = .ok (.iload_n 1, 1) := by decide +kernel
theorem dX8_alike_87 : decode cX8_alike 87 = .ok (.iaload, 1) := by decide +kernel
theorem dX8_alike_88 : decode cX8_alike 88 = .ok (.iload_n 3, 1) := by decide +kernel
theorem dX8_alike_89 : decode cX8_alike 89 = .ok (.iload 6, 2) := by decide +kernel
theorem dX8_alike_91 : decode cX8_alike 91 = .ok (.isub, 1) := by decide +kernel
theorem dX8_alike_92 : decode cX8_alike 92 = .ok (.invokevirtual 134, 3) := by decide +kernel
theorem dX8_alike_95 : decode cX8_alike 95 = .ok (.istore 7, 2) := by decide +kernel
theorem dX8_alike_97 : decode cX8_alike 97 = .ok (.iload 7, 2) := by decide +kernel
theorem dX8_alike_99 : decode cX8_alike 99 = .ok (.aload_n 0, 1) := by decide +kernel
theorem dX8_alike_100 : decode cX8_alike 100 = .ok (.getfield 23, 3) := by decide +kernel
theorem dX8_alike_103 : decode cX8_alike 103 = .ok (.iload_n 2, 1) := by decide +kernel
theorem dX8_alike_104 : decode cX8_alike 104 = .ok (.aload_n 0, 1) := by decide +kernel
theorem dX8_alike_105 : decode cX8_alike 105 = .ok (.getfield 30, 3) := by decide +kernel
theorem dX8_alike_108 : decode cX8_alike 108 = .ok (.getfield 118, 3) := by decide +kernel
theorem dX8_alike_111 : decode cX8_alike 111 = .ok (.iload_n 2, 1) := by decide +kernel
theorem dX8_alike_112 : decode cX8_alike 112 = .ok (.iaload, 1) := by decide +kernel
theorem dX8_alike_113 : decode cX8_alike 113 = .ok (.iload 4, 2) := by decide +kernel
theorem dX8_alike_115 : decode cX8_alike 115 = .ok (.iload 6, 2) := by decide +kernel
theorem dX8_alike_117 : decode cX8_alike 117 = .ok (.isub, 1) := by decide +kernel
theorem dX8_alike_118 : decode cX8_alike 118 = .ok (.invokevirtual 134, 3) := by decide +kernel
theorem dX8_alike_121 : decode cX8_alike 121 = .ok (.if_icmp .eq 6, 3) := by decide +kernel
theorem dX8_alike_124 : decode cX8_alike 124 = .ok (.goto 13, 3) := by decide +kernel
theorem dX8_alike_127 : decode cX8_alike 127 = .ok (.iload 6, 2) := by decide +kernel
theorem dX8_alike_129 : decode cX8_alike 129 = .ok (.istore 5, 2) := by decide +kernel
theorem dX8_alike_131 : decode cX8_alike 131 = .ok (.iinc 6 1, 3) := by decide +kernel
theorem dX8_alike_134 : decode cX8_alike 134 = .ok (.goto (-73), 3) := by decide +kernel
theorem dX8_alike_137 : decode cX8_alike 137 = .ok (.iload 5, 2) := by decide +kernel
theorem dX8_alike_139 : decode cX8_alike 139 = .ok (.ireturn, 1) := by decide +kernel
theorem dX8_along_0 : decode cX8_along 0 = .ok (.iload_n 1, 1) := by decide +kernel
theorem dX8_along_1 : decode cX8_along 1 = .ok (.invokestatic 260, 3) := by decide +kernel
theorem dX8_along_4 : decode cX8_along 4 = .ok (.ifCond .eq 10, 3) := by decide +kernel
theorem dX8_along_7 : decode cX8_along 7 = .ok (.iload_n 2, 1) := by decide +kernel
theorem dX8_along_8 : decode cX8_along 8 = .ok (.invokestatic 260, 3) := by decide +kernel
theorem dX8_along_11 : decode cX8_along 11 = .ok (.ifCond .ne 5, 3) := by decide +kernel
theorem dX8_along_14 : decode cX8_along 14 = .ok (.iconst (-1), 1) := by decide +kernel
theorem dX8_along_15 : decode cX8_along 15 = .ok (.ireturn, 1) := by decide +kernel
theorem dX8_along_16 : decode cX8_along 16 = .ok (.iconst 0, 1) := by decide +kernel
theorem dX8_along_17 : decode cX8_along 17 = .ok (.istore_n 3, 1) := by decide +kernel
theorem dX8_along_18 : decode cX8_along 18 = .ok (.iconst 0, 1) := by decide +kernel
theorem dX8_along_19 : decode cX8_along 19 = .ok (.istore 4, 2) := by decide +kernel
theorem dX8_along_21 : decode cX8_along 21 = .ok (.iload 4, 2) := by decide +kernel
theorem dX8_along_23 : decode cX8_along 23 = .ok (.aload_n 0, 1) := by decide +kernel
theorem dX8_along_24 : decode cX8_along 24 = .ok (.getfield 23, 3) := by decide +kernel
theorem dX8_along_27 : decode cX8_along 27 = .ok (.getfield 99, 3) := by decide +kernel
theorem dX8_along_30 : decode cX8_along 30 = .ok (.if_icmp .ge 48, 3) := by decide +kernel
theorem dX8_along_33 : decode cX8_along 33 = .ok (.aload_n 0, 1) := by decide +kernel
theorem dX8_along_34 : decode cX8_along 34 = .ok (.getfield 23, 3) := by decide +kernel
theorem dX8_along_37 : decode cX8_along 37 = .ok (.getfield 141, 3) := by decide +kernel
theorem dX8_along_40 : decode cX8_along 40 = .ok (.iload 4, 2) := by decide +kernel
theorem dX8_along_42 : decode cX8_along 42 = .ok (.iaload, 1) := by decide +kernel
theorem dX8_along_43 : decode cX8_along 43 = .ok (.istore 5, 2) := by decide +kernel
theorem dX8_along_45 : decode cX8_along 45 = .ok (.iload 5, 2) := by decide +kernel
theorem dX8_along_47 : decode cX8_along 47 = .ok (.iload_n 1, 1) := by decide +kernel
theorem dX8_along_48 : decode cX8_along 48 = .ok (.iload_n 2, 1) := by decide +kernel
theorem dX8_along_49 : decode cX8_along 49 = .ok (.invokestatic 197, 3) := by decide +kernel
theorem dX8_along_52 : decode cX8_along 52 = .ok (.if_icmp .lt 20, 3) := by decide +kernel
theorem dX8_along_55 : decode cX8_along 55 = .ok (.iload 5, 2) := by decide +kernel
theorem dX8_along_57 : decode cX8_along 57 = .ok (.iload_n 1, 1) := by decide +kernel
theorem dX8_along_58 : decode cX8_along 58 = .ok (.iload_n 2, 1) := by decide +kernel
theorem dX8_along_59 : decode cX8_along 59 = .ok (.invokestatic 276, 3) := by decide +kernel
theorem dX8_along_62 : decode cX8_along 62 = .ok (.if_icmp .gt 10, 3) := by decide +kernel
theorem dX8_along_65 : decode cX8_along 65 = .ok (.iload_n 3, 1) := by decide +kernel
theorem dX8_along_66 : decode cX8_along 66 = .ok (.iconst 1, 1) := by decide +kernel
theorem dX8_along_67 : decode cX8_along 67 = .ok (.iload 4, 2) := by decide +kernel
theorem dX8_along_69 : decode cX8_along 69 = .ok (.ishl, 1) := by decide +kernel
theorem dX8_along_70 : decode cX8_along 70 = .ok (.ior, 1) := by decide +kernel
theorem dX8_along_71 : decode cX8_along 71 = .ok (.istore_n 3, 1) := by decide +kernel
theorem dX8_along_72 : decode cX8_along 72 = .ok (.iinc 4 1, 3) := by decide +kernel
theorem dX8_along_75 : decode cX8_along 75 = .ok (.goto (-54), 3) := by decide +kernel
theorem dX8_along_78 : decode cX8_along 78 = .ok (.iload_n 3, 1) := by decide +kernel
theorem dX8_along_79 : decode cX8_along 79 = .ok (.ireturn, 1) := by decide +kernel
theorem dX8_ask_0 : decode cX8_ask 0 = .ok (.iload_n 1, 1) := by decide +kernel
theorem dX8_ask_1 : decode cX8_ask 1 = .ok (.ifCond .lt 33, 3) := by decide +kernel
theorem dX8_ask_4 : decode cX8_ask 4 = .ok (.iload_n 1, 1) := by decide +kernel
theorem dX8_ask_5 : decode cX8_ask 5 = .ok (.iconst 1, 1) := by decide +kernel
theorem dX8_ask_6 : decode cX8_ask 6 = .ok (.if_icmp .gt 28, 3) := by decide +kernel
theorem dX8_ask_9 : decode cX8_ask 9 = .ok (.aload_n 0, 1) := by decide +kernel
theorem dX8_ask_10 : decode cX8_ask 10 = .ok (.getfield 23, 3) := by decide +kernel
theorem dX8_ask_13 : decode cX8_ask 13 = .ok (.getfield 108, 3) := by decide +kernel
theorem dX8_ask_16 : decode cX8_ask 16 = .ok (.ifCond .eq 18, 3) := by decide +kernel
theorem dX8_ask_19 : decode cX8_ask 19 = .ok (.aload_n 0, 1) := by decide +kernel
theorem dX8_ask_20 : decode cX8_ask 20 = .ok (.getfield 55, 3) := by decide +kernel
theorem dX8_ask_23 : decode cX8_ask 23 = .ok (.aload_n 0, 1) := by decide +kernel
theorem dX8_ask_24 : decode cX8_ask 24 = .ok (.getfield 23, 3) := by decide +kernel
theorem dX8_ask_27 : decode cX8_ask 27 = .ok (.iload_n 2, 1) := by decide +kernel
theorem dX8_ask_28 : decode cX8_ask 28 = .ok (.invokevirtual 332, 3) := by decide +kernel
theorem dX8_ask_31 : decode cX8_ask 31 = .ok (.ifCond .ne 5, 3) := by decide +kernel
theorem dX8_ask_34 : decode cX8_ask 34 = .ok (.iconst (-1), 1) := by decide +kernel
theorem dX8_ask_35 : decode cX8_ask 35 = .ok (.ireturn, 1) := by decide +kernel
theorem dX8_ask_36 : decode cX8_ask 36 = .ok (.iconst (-1), 1) := by decide +kernel
theorem dX8_ask_37 : decode cX8_ask 37 = .ok (.istore_n 3, 1) := by decide +kernel
theorem dX8_ask_38 : decode cX8_ask 38 = .ok (.sipush 344, 3) := by decide +kernel
theorem dX8_ask_41 : decode cX8_ask 41 = .ok (.istore 4, 2) := by decide +kernel
theorem dX8_ask_43 : decode cX8_ask 43 = .ok (.iconst 0, 1) := by decide +kernel
theorem dX8_ask_44 : decode cX8_ask 44 = .ok (.istore 5, 2) := by decide +kernel
theorem dX8_ask_46 : decode cX8_ask 46 = .ok (.iload 5, 2) := by decide +kernel
theorem dX8_ask_48 : decode cX8_ask 48 = .ok (.aload_n 0, 1) := by decide +kernel
theorem dX8_ask_49 : decode cX8_ask 49 = .ok (.getfield 23, 3) := by decide +kernel
theorem dX8_ask_52 : decode cX8_ask 52 = .ok (.getfield 108, 3) := by decide +kernel
theorem dX8_ask_55 : decode cX8_ask 55 = .ok (.if_icmp .ge 34, 3) := by decide +kernel
theorem dX8_ask_58 : decode cX8_ask 58 = .ok (.aload_n 0, 1) := by decide +kernel
theorem dX8_ask_59 : decode cX8_ask 59 = .ok (.getfield 55, 3) := by decide +kernel
theorem dX8_ask_62 : decode cX8_ask 62 = .ok (.iload 5, 2) := by decide +kernel
theorem dX8_ask_64 : decode cX8_ask 64 = .ok (.invokevirtual 339, 3) := by decide +kernel
theorem dX8_ask_67 : decode cX8_ask 67 = .ok (.istore 6, 2) := by decide +kernel
theorem dX8_ask_69 : decode cX8_ask 69 = .ok (.iload 6, 2) := by decide +kernel
theorem dX8_ask_71 : decode cX8_ask 71 = .ok (.iload 4, 2) := by decide +kernel
theorem dX8_ask_73 : decode cX8_ask 73 = .ok (.if_icmp .ge 10, 3) := by decide +kernel
theorem dX8_ask_76 : decode cX8_ask 76 = .ok (.iload 6, 2) := by decide +kernel
theorem dX8_ask_78 : decode cX8_ask 78 = .ok (.istore 4, 2) := by decide +kernel
theorem dX8_ask_80 : decode cX8_ask 80 = .ok (.iload 5, 2) := by decide +kernel
theorem dX8_ask_82 : decode cX8_ask 82 = .ok (.istore_n 3, 1) := by decide +kernel
theorem dX8_ask_83 : decode cX8_ask 83 = .ok (.iinc 5 1, 3) := by decide +kernel
theorem dX8_ask_86 : decode cX8_ask 86 = .ok (.goto (-40), 3) := by decide +kernel
theorem dX8_ask_89 : decode cX8_ask 89 = .ok (.iload_n 1, 1) := by decide +kernel
theorem dX8_ask_90 : decode cX8_ask 90 = .ok (.ifCond .ne 7, 3) := by decide +kernel
theorem dX8_ask_93 : decode cX8_ask 93 = .ok (.iload_n 3, 1) := by decide +kernel
theorem dX8_ask_94 : decode cX8_ask 94 = .ok (.goto 5, 3) := by decide +kernel
theorem dX8_ask_97 : decode cX8_ask 97 = .ok (.iload 4, 2) := by decide +kernel
theorem dX8_ask_99 : decode cX8_ask 99 = .ok (.ireturn, 1) := by decide +kernel
theorem dX8_barter_0 : decode cX8_barter 0 = .ok (.aload_n 0, 1) := by decide +kernel
theorem dX8_barter_1 : decode cX8_barter 1 = .ok (.invokevirtual 273, 3) := by decide +kernel
theorem dX8_barter_4 : decode cX8_barter 4 = .ok (.iconst 0, 1) := by decide +kernel
theorem dX8_barter_5 : decode cX8_barter 5 = .ok (.istore_n 1, 1) := by decide +kernel
theorem dX8_barter_6 : decode cX8_barter 6 = .ok (.iload_n 1, 1) := by decide +kernel
theorem dX8_barter_7 : decode cX8_barter 7 = .ok (.aload_n 0, 1) := by decide +kernel
theorem dX8_barter_8 : decode cX8_barter 8 = .ok (.getfield 23, 3) := by decide +kernel
theorem dX8_barter_11 : decode cX8_barter 11 = .ok (.getfield 99, 3) := by decide +kernel
theorem dX8_barter_14 : decode cX8_barter 14 = .ok (.if_icmp .ge 23, 3) := by decide +kernel
theorem dX8_barter_17 : decode cX8_barter 17 = .ok (.aload_n 0, 1) := by decide +kernel
theorem dX8_barter_18 : decode cX8_barter 18 = .ok (.getfield 65, 3) := by decide +kernel
theorem dX8_barter_21 : decode cX8_barter 21 = .ok (.iload_n 1, 1) := by decide +kernel
theorem dX8_barter_22 : decode cX8_barter 22 = .ok (.aload_n 0, 1) := by decide +kernel
theorem dX8_barter_23 : decode cX8_barter 23 = .ok (.getfield 30, 3) := by decide +kernel
theorem dX8_barter_26 : decode cX8_barter 26 = .ok (.iload_n 1, 1) := by decide +kernel
theorem dX8_barter_27 : decode cX8_barter 27 = .ok (.invokevirtual 147, 3) := by decide +kernel
theorem dX8_barter_30 : decode cX8_barter 30 = .ok (.iastore, 1) := by decide +kernel
theorem dX8_barter_31 : decode cX8_barter 31 = .ok (.iinc 1 1, 3) := by decide +kernel
theorem dX8_barter_34 : decode cX8_barter 34 = .ok (.goto (-28), 3) := by decide +kernel
theorem dX8_barter_37 : decode cX8_barter 37 = .ok (.ldc 160, 2) := by decide +kernel
theorem dX8_barter_39 : decode cX8_barter 39 = .ok (.istore_n 1, 1) := by decide +kernel
theorem dX8_barter_40 : decode cX8_barter 40 = .ok (.iconst 1, 1) := by decide +kernel
theorem dX8_barter_41 : decode cX8_barter 41 = .ok (.aload_n 0, 1) := by decide +kernel
theorem dX8_barter_42 : decode cX8_barter 42 = .ok (.getfield 23, 3) := by decide +kernel
theorem dX8_barter_45 : decode cX8_barter 45 = .ok (.getfield 108, 3) := by decide +kernel
theorem dX8_barter_48 : decode cX8_barter 48 = .ok (.invokestatic 276, 3) := by decide +kernel
theorem dX8_barter_51 : decode cX8_barter 51 = .ok (.istore_n 2, 1) := by decide +kernel
theorem dX8_barter_52 : decode cX8_barter 52 = .ok (.aload_n 0, 1) := by decide +kernel
theorem dX8_barter_53 : decode cX8_barter 53 = .ok (.iload_n 2, 1) := by decide +kernel
theorem dX8_barter_54 : decode cX8_barter 54 = .ok (.invokevirtual 241, 3) := by decide +kernel
theorem dX8_barter_57 : decode cX8_barter 57 = .ok (.istore_n 3, 1) := by decide +kernel
theorem dX8_barter_58 : decode cX8_barter 58 = .ok (.iconst 0, 1) := by decide +kernel
theorem dX8_barter_59 : decode cX8_barter 59 = .ok (.istore 4, 2) := by decide +kernel
theorem dX8_barter_61 : decode cX8_barter 61 = .ok (.iload 4, 2) := by decide +kernel
theorem dX8_barter_63 : decode cX8_barter 63 = .ok (.iload_n 3, 1) := by decide +kernel
theorem dX8_barter_64 : decode cX8_barter 64 = .ok (.if_icmp .ge 47, 3) := by decide +kernel
theorem dX8_barter_67 : decode cX8_barter 67 = .ok (.aload_n 0, 1) := by decide +kernel
theorem dX8_barter_68 : decode cX8_barter 68 = .ok (.iload 4, 2) := by decide +kernel
theorem dX8_barter_70 : decode cX8_barter 70 = .ok (.iload_n 2, 1) := by decide +kernel
theorem dX8_barter_71 : decode cX8_barter 71 = .ok (.invokevirtual 244, 3) := by decide +kernel
theorem dX8_barter_74 : decode cX8_barter 74 = .ok (.aload_n 0, 1) := by decide +kernel
theorem dX8_barter_75 : decode cX8_barter 75 = .ok (.invokevirtual 279, 3) := by decide +kernel
theorem dX8_barter_78 : decode cX8_barter 78 = .ok (.ifCond .eq 10, 3) := by decide +kernel
theorem dX8_barter_81 : decode cX8_barter 81 = .ok (.aload_n 0, 1) := by decide +kernel
theorem dX8_barter_82 : decode cX8_barter 82 = .ok (.invokevirtual 282, 3) := by decide +kernel
theorem dX8_barter_85 : decode cX8_barter 85 = .ok (.goto 5, 3) := by decide +kernel
theorem dX8_barter_88 : decode cX8_barter 88 = .ok (.ldc 160, 2) := by decide +kernel
theorem dX8_barter_90 : decode cX8_barter 90 = .ok (.istore 5, 2) := by decide +kernel
theorem dX8_barter_92 : decode cX8_barter 92 = .ok (.iload 5, 2) := by decide +kernel
theorem dX8_barter_94 : decode cX8_barter 94 = .ok (.iload_n 1, 1) := by decide +kernel
theorem dX8_barter_95 : decode cX8_barter 95 = .ok (.if_icmp .le 10, 3) := by decide +kernel
theorem dX8_barter_98 : decode cX8_barter 98 = .ok (.iload 5, 2) := by decide +kernel
theorem dX8_barter_100 : decode cX8_barter 100 = .ok (.istore_n 1, 1) := by decide +kernel
theorem dX8_barter_101 : decode cX8_barter 101 = .ok (.aload_n 0, 1) := by decide +kernel
theorem dX8_barter_102 : decode cX8_barter 102 = .ok (.invokevirtual 253, 3) := by decide +kernel
theorem dX8_barter_105 : decode cX8_barter 105 = .ok (.iinc 4 1, 3) := by decide +kernel
theorem dX8_barter_108 : decode cX8_barter 108 = .ok (.goto (-47), 3) := by decide +kernel
theorem dX8_barter_111 : decode cX8_barter 111 = .ok (.iload_n 1, 1) := by decide +kernel
theorem dX8_barter_112 : decode cX8_barter 112 = .ok (.ireturn, 1) := by decide +kernel
theorem dX8_barterGladness_0 : decode cX8_barterGladness 0 = .ok (.iconst 0, 1) := by decide +kernel
theorem dX8_barterGladness_1 : decode cX8_barterGladness 1 = .ok (.istore_n 1, 1) := by decide +kernel
theorem dX8_barterGladness_2 : decode cX8_barterGladness 2 = .ok (.iconst 0, 1) := by decide +kernel
theorem dX8_barterGladness_3 : decode cX8_barterGladness 3 = .ok (.istore_n 2, 1) := by decide +kernel
theorem dX8_barterGladness_4 : decode cX8_barterGladness 4 = .ok (.iload_n 2, 1) := by decide +kernel
theorem dX8_barterGladness_5 : decode cX8_barterGladness 5 = .ok (.aload_n 0, 1) := by decide +kernel
theorem dX8_barterGladness_6 : decode cX8_barterGladness 6 = .ok (.getfield 23, 3) := by decide +kernel
theorem dX8_barterGladness_9 : decode cX8_barterGladness 9 = .ok (.getfield 99, 3) := by decide +kernel
theorem dX8_barterGladness_12 : decode cX8_barterGladness 12 = .ok (.if_icmp .ge 36, 3) := by decide +kernel
theorem dX8_barterGladness_15 : decode cX8_barterGladness 15 = .ok (.aload_n 0, 1) := by decide +kernel
theorem dX8_barterGladness_16 : decode cX8_barterGladness 16 = .ok (.aload_n 0, 1) := by decide +kernel
theorem dX8_barterGladness_17 : decode cX8_barterGladness 17 = .ok (.getfield 62, 3) := by decide +kernel
theorem dX8_barterGladness_20 : decode cX8_barterGladness 20 = .ok (.iload_n 2, 1) := by decide +kernel
theorem dX8_barterGladness_21 : decode cX8_barterGladness 21 = .ok (.iaload, 1) := by decide +kernel
theorem dX8_barterGladness_22 : decode cX8_barterGladness 22 = .ok (.invokevirtual 111, 3) := by decide +kernel
theorem dX8_barterGladness_25 : decode cX8_barterGladness 25 = .ok (.ifCond .eq 17, 3) := by decide +kernel
theorem dX8_barterGladness_28 : decode cX8_barterGladness 28 = .ok (.iload_n 1, 1) := by decide +kernel
theorem dX8_barterGladness_29 : decode cX8_barterGladness 29 = .ok (.aload_n 0, 1) := by decide +kernel
theorem dX8_barterGladness_30 : decode cX8_barterGladness 30 = .ok (.iload_n 2, 1) := by decide +kernel
theorem dX8_barterGladness_31 : decode cX8_barterGladness 31 = .ok (.aload_n 0, 1) := by decide +kernel
theorem dX8_barterGladness_32 : decode cX8_barterGladness 32 = .ok (.getfield 62, 3) := by decide +kernel
theorem dX8_barterGladness_35 : decode cX8_barterGladness 35 = .ok (.iload_n 2, 1) := by decide +kernel
theorem dX8_barterGladness_36 : decode cX8_barterGladness 36 = .ok (.iaload, 1) := by decide +kernel
theorem dX8_barterGladness_37 : decode cX8_barterGladness 37 = .ok (.invokevirtual 285, 3) := by decide +kernel
theorem dX8_barterGladness_40 : decode cX8_barterGladness 40 = .ok (.iadd, 1) := by decide +kernel
theorem dX8_barterGladness_41 : decode cX8_barterGladness 41 = .ok (.istore_n 1, 1) := by decide +kernel
theorem dX8_barterGladness_42 : decode cX8_barterGladness 42 = .ok (.iinc 2 1, 3) := by decide +kernel
theorem dX8_barterGladness_45 : decode cX8_barterGladness 45 = .ok (.goto (-41), 3) := by decide +kernel
theorem dX8_barterGladness_48 : decode cX8_barterGladness 48 = .ok (.iload_n 1, 1) := by decide +kernel
theorem dX8_barterGladness_49 : decode cX8_barterGladness 49 = .ok (.ireturn, 1) := by decide +kernel
theorem dX8_bothGladder_0 : decode cX8_bothGladder 0 = .ok (.aload_n 0, 1) := by decide +kernel
theorem dX8_bothGladder_1 : decode cX8_bothGladder 1 = .ok (.getfield 30, 3) := by decide +kernel
theorem dX8_bothGladder_4 : decode cX8_bothGladder 4 = .ok (.iload_n 1, 1) := by decide +kernel
theorem dX8_bothGladder_5 : decode cX8_bothGladder 5 = .ok (.invokevirtual 147, 3) := by decide +kernel
theorem dX8_bothGladder_8 : decode cX8_bothGladder 8 = .ok (.istore_n 3, 1) := by decide +kernel
theorem dX8_bothGladder_9 : decode cX8_bothGladder 9 = .ok (.aload_n 0, 1) := by decide +kernel
theorem dX8_bothGladder_10 : decode cX8_bothGladder 10 = .ok (.getfield 30, 3) := by decide +kernel
theorem dX8_bothGladder_13 : decode cX8_bothGladder 13 = .ok (.iload_n 2, 1) := by decide +kernel
theorem dX8_bothGladder_14 : decode cX8_bothGladder 14 = .ok (.invokevirtual 147, 3) := by decide +kernel
theorem dX8_bothGladder_17 : decode cX8_bothGladder 17 = .ok (.istore 4, 2) := by decide +kernel
theorem dX8_bothGladder_19 : decode cX8_bothGladder 19 = .ok (.iload_n 3, 1) := by decide +kernel
theorem dX8_bothGladder_20 : decode cX8_bothGladder 20 = .ok (.iconst (-1), 1) := by decide +kernel
theorem dX8_bothGladder_21 : decode cX8_bothGladder 21 = .ok (.if_icmp .eq 45, 3) := by decide +kernel
theorem dX8_bothGladder_24 : decode cX8_bothGladder 24 = .ok (.iload 4, 2) := by decide +kernel
theorem dX8_bothGladder_26 : decode cX8_bothGladder 26 = .ok (.iconst (-1), 1) := by decide +kernel
theorem dX8_bothGladder_27 : decode cX8_bothGladder 27 = .ok (.if_icmp .eq 39, 3) := by decide +kernel
theorem dX8_bothGladder_30 : decode cX8_bothGladder 30 = .ok (.aload_n 0, 1) := by decide +kernel
theorem dX8_bothGladder_31 : decode cX8_bothGladder 31 = .ok (.iload_n 1, 1) := by decide +kernel
theorem dX8_bothGladder_32 : decode cX8_bothGladder 32 = .ok (.iload 4, 2) := by decide +kernel
theorem dX8_bothGladder_34 : decode cX8_bothGladder 34 = .ok (.invokevirtual 157, 3) := by decide +kernel
theorem dX8_bothGladder_37 : decode cX8_bothGladder 37 = .ok (.aload_n 0, 1) := by decide +kernel

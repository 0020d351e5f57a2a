theorem zc_m1000000000 : ((-1000000000) : Int32).toInt = (-1000000000) := by decide
theorem zc_m9999 : ((-9999) : Int32).toInt = (-9999) := by decide
theorem zc_m999 : ((-999) : Int32).toInt = (-999) := by decide
theorem zc_m2 : ((-2) : Int32).toInt = (-2) := by decide
theorem zc_m1 : ((-1) : Int32).toInt = (-1) := by decide
theorem zc_0 : (0 : Int32).toInt = 0 := by decide
theorem zc_1 : (1 : Int32).toInt = 1 := by decide
theorem zc_2 : (2 : Int32).toInt = 2 := by decide
theorem zc_3 : (3 : Int32).toInt = 3 := by decide
theorem zc_4 : (4 : Int32).toInt = 4 := by decide
theorem zc_5 : (5 : Int32).toInt = 5 := by decide
theorem zc_6 : (6 : Int32).toInt = 6 := by decide
theorem zc_7 : (7 : Int32).toInt = 7 := by decide
theorem zc_8 : (8 : Int32).toInt = 8 := by decide
theorem zc_9 : (9 : Int32).toInt = 9 := by decide
theorem zc_10 : (10 : Int32).toInt = 10 := by decide
theorem zc_11 : (11 : Int32).toInt = 11 := by decide
theorem zc_12 : (12 : Int32).toInt = 12 := by decide
theorem zc_13 : (13 : Int32).toInt = 13 := by decide
theorem zc_14 : (14 : Int32).toInt = 14 := by decide
theorem zc_15 : (15 : Int32).toInt = 15 := by decide
theorem zc_16 : (16 : Int32).toInt = 16 := by decide
theorem zc_20 : (20 : Int32).toInt = 20 := by decide
theorem zc_21 : (21 : Int32).toInt = 21 := by decide
theorem zc_24 : (24 : Int32).toInt = 24 := by decide
theorem zc_25 : (25 : Int32).toInt = 25 := by decide
theorem zc_26 : (26 : Int32).toInt = 26 := by decide
theorem zc_30 : (30 : Int32).toInt = 30 := by decide
theorem zc_32 : (32 : Int32).toInt = 32 := by decide
theorem zc_37 : (37 : Int32).toInt = 37 := by decide
theorem zc_38 : (38 : Int32).toInt = 38 := by decide
theorem zc_39 : (39 : Int32).toInt = 39 := by decide
theorem zc_40 : (40 : Int32).toInt = 40 := by decide
theorem zc_41 : (41 : Int32).toInt = 41 := by decide
theorem zc_42 : (42 : Int32).toInt = 42 := by decide
theorem zc_43 : (43 : Int32).toInt = 43 := by decide
theorem zc_44 : (44 : Int32).toInt = 44 := by decide
theorem zc_45 : (45 : Int32).toInt = 45 := by decide
theorem zc_46 : (46 : Int32).toInt = 46 := by decide
theorem zc_47 : (47 : Int32).toInt = 47 := by decide
theorem zc_48 : (48 : Int32).toInt = 48 := by decide
theorem zc_49 : (49 : Int32).toInt = 49 := by decide
theorem zc_50 : (50 : Int32).toInt = 50 := by decide
theorem zc_51 : (51 : Int32).toInt = 51 := by decide
theorem zc_52 : (52 : Int32).toInt = 52 := by decide
theorem zc_53 : (53 : Int32).toInt = 53 := by decide
theorem zc_54 : (54 : Int32).toInt = 54 := by decide
theorem zc_55 : (55 : Int32).toInt = 55 := by decide
theorem zc_56 : (56 : Int32).toInt = 56 := by decide
theorem zc_57 : (57 : Int32).toInt = 57 := by decide
theorem zc_58 : (58 : Int32).toInt = 58 := by decide
theorem zc_59 : (59 : Int32).toInt = 59 := by decide
theorem zc_60 : (60 : Int32).toInt = 60 := by decide
theorem zc_61 : (61 : Int32).toInt = 61 := by decide
theorem zc_62 : (62 : Int32).toInt = 62 := by decide
theorem zc_97 : (97 : Int32).toInt = 97 := by decide
theorem zc_99 : (99 : Int32).toInt = 99 := by decide
theorem zc_100 : (100 : Int32).toInt = 100 := by decide
theorem zc_108 : (108 : Int32).toInt = 108 := by decide
theorem zc_109 : (109 : Int32).toInt = 109 := by decide
theorem zc_110 : (110 : Int32).toInt = 110 := by decide
theorem zc_111 : (111 : Int32).toInt = 111 := by decide
theorem zc_112 : (112 : Int32).toInt = 112 := by decide
theorem zc_113 : (113 : Int32).toInt = 113 := by decide
theorem zc_114 : (114 : Int32).toInt = 114 := by decide
theorem zc_115 : (115 : Int32).toInt = 115 := by decide
theorem zc_116 : (116 : Int32).toInt = 116 := by decide
theorem zc_117 : (117 : Int32).toInt = 117 := by decide
theorem zc_118 : (118 : Int32).toInt = 118 := by decide
theorem zc_119 : (119 : Int32).toInt = 119 := by decide
theorem zc_122 : (122 : Int32).toInt = 122 := by decide
theorem zc_124 : (124 : Int32).toInt = 124 := by decide
theorem zc_126 : (126 : Int32).toInt = 126 := by decide
theorem zc_343 : (343 : Int32).toInt = 343 := by decide
theorem zc_560 : (560 : Int32).toInt = 560 := by decide
theorem zc_999 : (999 : Int32).toInt = 999 := by decide
theorem zc_1000 : (1000 : Int32).toInt = 1000 := by decide
theorem zc_1040 : (1040 : Int32).toInt = 1040 := by decide
theorem zc_1600 : (1600 : Int32).toInt = 1600 := by decide
theorem zc_9999 : (9999 : Int32).toInt = 9999 := by decide
theorem zc_100000 : (100000 : Int32).toInt = 100000 := by decide
theorem zl_24948 : (24948 : Int64).toInt = 24948 := by decide
theorem zl_28530 : (28530 : Int64).toInt = 28530 := by decide
theorem zl_6385252 : (6385252 : Int64).toInt = 6385252 := by decide
theorem zl_7237492 : (7237492 : Int64).toInt = 7237492 := by decide
theorem zl_1685217655 : (1685217655 : Int64).toInt = 1685217655 := by decide
theorem zl_1735156068 : (1735156068 : Int64).toInt = 1735156068 := by decide
theorem zl_1752526195 : (1752526195 : Int64).toInt = 1752526195 := by decide
theorem zl_1819242087 : (1819242087 : Int64).toInt = 1819242087 := by decide
theorem zl_1935764837 : (1935764837 : Int64).toInt = 1935764837 := by decide
theorem zl_1953853029 : (1953853029 : Int64).toInt = 1953853029 := by decide
theorem zl_1953854062 : (1953854062 : Int64).toInt = 1953854062 := by decide
theorem zl_2003792494 : (2003792494 : Int64).toInt = 2003792494 := by decide
theorem zl_448546567013 : (448546567013 : Int64).toInt = 448546567013 := by decide
theorem zl_465625113971 : (465625113971 : Int64).toInt = 465625113971 := by decide
theorem zl_474316301683 : (474316301683 : Int64).toInt = 474316301683 := by decide
theorem zl_482955846501 : (482955846501 : Int64).toInt = 482955846501 := by decide
theorem zl_483006772069 : (483006772069 : Int64).toInt = 483006772069 := by decide
theorem zl_512802253683 : (512802253683 : Int64).toInt = 512802253683 := by decide
theorem zl_7021235455869215084 : (7021235455869215084 : Int64).toInt = 7021235455869215084 := by decide
theorem ts_0_3 (x : Int32) : (x.toInt < 0 ∨ 3 < x.toInt) ∨ x = 0 ∨ x = 1 ∨ x = 2 ∨ x = 3 := by
  by_cases h : x.toInt < 0 ∨ 3 < x.toInt
  · exact Or.inl h
  · right
    have hz : x.toInt = 0 ∨ x.toInt = 1 ∨ x.toInt = 2 ∨ x.toInt = 3 := by omega
    rcases hz with hz | hz | hz | hz
    · exact Or.inl (Int32.toInt_inj.mp (hz.trans (by decide)))
    · exact Or.inr (Or.inl (Int32.toInt_inj.mp (hz.trans (by decide))))
    · exact Or.inr (Or.inr (Or.inl (Int32.toInt_inj.mp (hz.trans (by decide)))))
    · exact Or.inr (Or.inr (Or.inr ((Int32.toInt_inj.mp (hz.trans (by decide))))))
theorem ts_0_5 (x : Int32) : (x.toInt < 0 ∨ 5 < x.toInt) ∨ x = 0 ∨ x = 1 ∨ x = 2 ∨ x = 3 ∨ x = 4 ∨ x = 5 := by
  by_cases h : x.toInt < 0 ∨ 5 < x.toInt
  · exact Or.inl h
  · right
    have hz : x.toInt = 0 ∨ x.toInt = 1 ∨ x.toInt = 2 ∨ x.toInt = 3 ∨ x.toInt = 4 ∨ x.toInt = 5 := by omega
    rcases hz with hz | hz | hz | hz | hz | hz
    · exact Or.inl (Int32.toInt_inj.mp (hz.trans (by decide)))
    · exact Or.inr (Or.inl (Int32.toInt_inj.mp (hz.trans (by decide))))
    · exact Or.inr (Or.inr (Or.inl (Int32.toInt_inj.mp (hz.trans (by decide)))))
    · exact Or.inr (Or.inr (Or.inr (Or.inl (Int32.toInt_inj.mp (hz.trans (by decide))))))
    · exact Or.inr (Or.inr (Or.inr (Or.inr (Or.inl (Int32.toInt_inj.mp (hz.trans (by decide)))))))
    · exact Or.inr (Or.inr (Or.inr (Or.inr (Or.inr ((Int32.toInt_inj.mp (hz.trans (by decide))))))))
theorem ts_0_14 (x : Int32) : (x.toInt < 0 ∨ 14 < x.toInt) ∨ x = 0 ∨ x = 1 ∨ x = 2 ∨ x = 3 ∨ x = 4 ∨ x = 5 ∨ x = 6 ∨ x = 7 ∨ x = 8 ∨ x = 9 ∨ x = 10 ∨ x = 11 ∨ x = 12 ∨ x = 13 ∨ x = 14 := by
  by_cases h : x.toInt < 0 ∨ 14 < x.toInt
  · exact Or.inl h
  · right
    have hz : x.toInt = 0 ∨ x.toInt = 1 ∨ x.toInt = 2 ∨ x.toInt = 3 ∨ x.toInt = 4 ∨ x.toInt = 5 ∨ x.toInt = 6 ∨ x.toInt = 7 ∨ x.toInt = 8 ∨ x.toInt = 9 ∨ x.toInt = 10 ∨ x.toInt = 11 ∨ x.toInt = 12 ∨ x.toInt = 13 ∨ x.toInt = 14 := by omega
    rcases hz with hz | hz | hz | hz | hz | hz | hz | hz | hz | hz | hz | hz | hz | hz | hz
    · exact Or.inl (Int32.toInt_inj.mp (hz.trans (by decide)))
    · exact Or.inr (Or.inl (Int32.toInt_inj.mp (hz.trans (by decide))))
    · exact Or.inr (Or.inr (Or.inl (Int32.toInt_inj.mp (hz.trans (by decide)))))
    · exact Or.inr (Or.inr (Or.inr (Or.inl (Int32.toInt_inj.mp (hz.trans (by decide))))))
    · exact Or.inr (Or.inr (Or.inr (Or.inr (Or.inl (Int32.toInt_inj.mp (hz.trans (by decide)))))))
    · exact Or.inr (Or.inr (Or.inr (Or.inr (Or.inr (Or.inl (Int32.toInt_inj.mp (hz.trans (by decide))))))))
    · exact Or.inr (Or.inr (Or.inr (Or.inr (Or.inr (Or.inr (Or.inl (Int32.toInt_inj.mp (hz.trans (by decide)))))))))
    · exact Or.inr (Or.inr (Or.inr (Or.inr (Or.inr (Or.inr (Or.inr (Or.inl (Int32.toInt_inj.mp (hz.trans (by decide))))))))))
    · exact Or.inr (Or.inr (Or.inr (Or.inr (Or.inr (Or.inr (Or.inr (Or.inr (Or.inl (Int32.toInt_inj.mp (hz.trans (by decide)))))))))))
    · exact Or.inr (Or.inr (Or.inr (Or.inr (Or.inr (Or.inr (Or.inr (Or.inr (Or.inr (Or.inl (Int32.toInt_inj.mp (hz.trans (by decide))))))))))))
    · exact Or.inr (Or.inr (Or.inr (Or.inr (Or.inr (Or.inr (Or.inr (Or.inr (Or.inr (Or.inr (Or.inl (Int32.toInt_inj.mp (hz.trans (by decide)))))))))))))
    · exact Or.inr (Or.inr (Or.inr (Or.inr (Or.inr (Or.inr (Or.inr (Or.inr (Or.inr (Or.inr (Or.inr (Or.inl (Int32.toInt_inj.mp (hz.trans (by decide))))))))))))))
    · exact Or.inr (Or.inr (Or.inr (Or.inr (Or.inr (Or.inr (Or.inr (Or.inr (Or.inr (Or.inr (Or.inr (Or.inr (Or.inl (Int32.toInt_inj.mp (hz.trans (by decide)))))))))))))))
    · exact Or.inr (Or.inr (Or.inr (Or.inr (Or.inr (Or.inr (Or.inr (Or.inr (Or.inr (Or.inr (Or.inr (Or.inr (Or.inr (Or.inl (Int32.toInt_inj.mp (hz.trans (by decide))))))))))))))))
    · exact Or.inr (Or.inr (Or.inr (Or.inr (Or.inr (Or.inr (Or.inr (Or.inr (Or.inr (Or.inr (Or.inr (Or.inr (Or.inr (Or.inr ((Int32.toInt_inj.mp (hz.trans (by decide)))))))))))))))))
theorem ts_37_62 (x : Int32) : (x.toInt < 37 ∨ 62 < x.toInt) ∨ x = 37 ∨ x = 38 ∨ x = 39 ∨ x = 40 ∨ x = 41 ∨ x = 42 ∨ x = 43 ∨ x = 44 ∨ x = 45 ∨ x = 46 ∨ x = 47 ∨ x = 48 ∨ x = 49 ∨ x = 50 ∨ x = 51 ∨ x = 52 ∨ x = 53 ∨ x = 54 ∨ x = 55 ∨ x = 56 ∨ x = 57 ∨ x = 58 ∨ x = 59 ∨ x = 60 ∨ x = 61 ∨ x = 62 := by
  by_cases h : x.toInt < 37 ∨ 62 < x.toInt
  · exact Or.inl h
  · right
    have hz : x.toInt = 37 ∨ x.toInt = 38 ∨ x.toInt = 39 ∨ x.toInt = 40 ∨ x.toInt = 41 ∨ x.toInt = 42 ∨ x.toInt = 43 ∨ x.toInt = 44 ∨ x.toInt = 45 ∨ x.toInt = 46 ∨ x.toInt = 47 ∨ x.toInt = 48 ∨ x.toInt = 49 ∨ x.toInt = 50 ∨ x.toInt = 51 ∨ x.toInt = 52 ∨ x.toInt = 53 ∨ x.toInt = 54 ∨ x.toInt = 55 ∨ x.toInt = 56 ∨ x.toInt = 57 ∨ x.toInt = 58 ∨ x.toInt = 59 ∨ x.toInt = 60 ∨ x.toInt = 61 ∨ x.toInt = 62 := by omega
    rcases hz with hz | hz | hz | hz | hz | hz | hz | hz | hz | hz | hz | hz | hz | hz | hz | hz | hz | hz | hz | hz | hz | hz | hz | hz | hz | hz
    · exact Or.inl (Int32.toInt_inj.mp (hz.trans (by decide)))
    · exact Or.inr (Or.inl (Int32.toInt_inj.mp (hz.trans (by decide))))
    · exact Or.inr (Or.inr (Or.inl (Int32.toInt_inj.mp (hz.trans (by decide)))))
    · exact Or.inr (Or.inr (Or.inr (Or.inl (Int32.toInt_inj.mp (hz.trans (by decide))))))
    · exact Or.inr (Or.inr (Or.inr (Or.inr (Or.inl (Int32.toInt_inj.mp (hz.trans (by decide)))))))
    · exact Or.inr (Or.inr (Or.inr (Or.inr (Or.inr (Or.inl (Int32.toInt_inj.mp (hz.trans (by decide))))))))
    · exact Or.inr (Or.inr (Or.inr (Or.inr (Or.inr (Or.inr (Or.inl (Int32.toInt_inj.mp (hz.trans (by decide)))))))))
    · exact Or.inr (Or.inr (Or.inr (Or.inr (Or.inr (Or.inr (Or.inr (Or.inl (Int32.toInt_inj.mp (hz.trans (by decide))))))))))
    · exact Or.inr (Or.inr (Or.inr (Or.inr (Or.inr (Or.inr (Or.inr (Or.inr (Or.inl (Int32.toInt_inj.mp (hz.trans (by decide)))))))))))
    · exact Or.inr (Or.inr (Or.inr (Or.inr (Or.inr (Or.inr (Or.inr (Or.inr (Or.inr (Or.inl (Int32.toInt_inj.mp (hz.trans (by decide))))))))))))
    · exact Or.inr (Or.inr (Or.inr (Or.inr (Or.inr (Or.inr (Or.inr (Or.inr (Or.inr (Or.inr (Or.inl (Int32.toInt_inj.mp (hz.trans (by decide)))))))))))))
    · exact Or.inr (Or.inr (Or.inr (Or.inr (Or.inr (Or.inr (Or.inr (Or.inr (Or.inr (Or.inr (Or.inr (Or.inl (Int32.toInt_inj.mp (hz.trans (by decide))))))))))))))
    · exact Or.inr (Or.inr (Or.inr (Or.inr (Or.inr (Or.inr (Or.inr (Or.inr (Or.inr (Or.inr (Or.inr (Or.inr (Or.inl (Int32.toInt_inj.mp (hz.trans (by decide)))))))))))))))
    · exact Or.inr (Or.inr (Or.inr (Or.inr (Or.inr (Or.inr (Or.inr (Or.inr (Or.inr (Or.inr (Or.inr (Or.inr (Or.inr (Or.inl (Int32.toInt_inj.mp (hz.trans (by decide))))))))))))))))
    · exact Or.inr (Or.inr (Or.inr (Or.inr (Or.inr (Or.inr (Or.inr (Or.inr (Or.inr (Or.inr (Or.inr (Or.inr (Or.inr (Or.inr (Or.inl (Int32.toInt_inj.mp (hz.trans (by decide)))))))))))))))))
    · exact Or.inr (Or.inr (Or.inr (Or.inr (Or.inr (Or.inr (Or.inr (Or.inr (Or.inr (Or.inr (Or.inr (Or.inr (Or.inr (Or.inr (Or.inr (Or.inl (Int32.toInt_inj.mp (hz.trans (by decide))))))))))))))))))
    · exact Or.inr (Or.inr (Or.inr (Or.inr (Or.inr (Or.inr (Or.inr (Or.inr (Or.inr (Or.inr (Or.inr (Or.inr (Or.inr (Or.inr (Or.inr (Or.inr (Or.inl (Int32.toInt_inj.mp (hz.trans (by decide)))))))))))))))))))
    · exact Or.inr (Or.inr (Or.inr (Or.inr (Or.inr (Or.inr (Or.inr (Or.inr (Or.inr (Or.inr (Or.inr (Or.inr (Or.inr (Or.inr (Or.inr (Or.inr (Or.inr (Or.inl (Int32.toInt_inj.mp (hz.trans (by decide))))))))))))))))))))
    · exact Or.inr (Or.inr (Or.inr (Or.inr (Or.inr (Or.inr (Or.inr (Or.inr (Or.inr (Or.inr (Or.inr (Or.inr (Or.inr (Or.inr (Or.inr (Or.inr (Or.inr (Or.inr (Or.inl (Int32.toInt_inj.mp (hz.trans (by decide)))))))))))))))))))))
    · exact Or.inr (Or.inr (Or.inr (Or.inr (Or.inr (Or.inr (Or.inr (Or.inr (Or.inr (Or.inr (Or.inr (Or.inr (Or.inr (Or.inr (Or.inr (Or.inr (Or.inr (Or.inr (Or.inr (Or.inl (Int32.toInt_inj.mp (hz.trans (by decide))))))))))))))))))))))
    · exact Or.inr (Or.inr (Or.inr (Or.inr (Or.inr (Or.inr (Or.inr (Or.inr (Or.inr (Or.inr (Or.inr (Or.inr (Or.inr (Or.inr (Or.inr (Or.inr (Or.inr (Or.inr (Or.inr (Or.inr (Or.inl (Int32.toInt_inj.mp (hz.trans (by decide)))))))))))))))))))))))
    · exact Or.inr (Or.inr (Or.inr (Or.inr (Or.inr (Or.inr (Or.inr (Or.inr (Or.inr (Or.inr (Or.inr (Or.inr (Or.inr (Or.inr (Or.inr (Or.inr (Or.inr (Or.inr (Or.inr (Or.inr (Or.inr (Or.inl (Int32.toInt_inj.mp (hz.trans (by decide))))))))))))))))))))))))
    · exact Or.inr (Or.inr (Or.inr (Or.inr (Or.inr (Or.inr (Or.inr (Or.inr (Or.inr (Or.inr (Or.inr (Or.inr (Or.inr (Or.inr (Or.inr (Or.inr (Or.inr (Or.inr (Or.inr (Or.inr (Or.inr (Or.inr (Or.inl (Int32.toInt_inj.mp (hz.trans (by decide)))))))))))))))))))))))))
    · exact Or.inr (Or.inr (Or.inr (Or.inr (Or.inr (Or.inr (Or.inr (Or.inr (Or.inr (Or.inr (Or.inr (Or.inr (Or.inr (Or.inr (Or.inr (Or.inr (Or.inr (Or.inr (Or.inr (Or.inr (Or.inr (Or.inr (Or.inr (Or.inl (Int32.toInt_inj.mp (hz.trans (by decide))))))))))))))))))))))))))
    · exact Or.inr (Or.inr (Or.inr (Or.inr (Or.inr (Or.inr (Or.inr (Or.inr (Or.inr (Or.inr (Or.inr (Or.inr (Or.inr (Or.inr (Or.inr (Or.inr (Or.inr (Or.inr (Or.inr (Or.inr (Or.inr (Or.inr (Or.inr (Or.inr (Or.inl (Int32.toInt_inj.mp (hz.trans (by decide)))))))))))))))))))))))))))
    · exact Or.inr (Or.inr (Or.inr (Or.inr (Or.inr (Or.inr (Or.inr (Or.inr (Or.inr (Or.inr (Or.inr (Or.inr (Or.inr (Or.inr (Or.inr (Or.inr (Or.inr (Or.inr (Or.inr (Or.inr (Or.inr (Or.inr (Or.inr (Or.inr (Or.inr ((Int32.toInt_inj.mp (hz.trans (by decide))))))))))))))))))))))))))))
theorem ts_108_119 (x : Int32) : (x.toInt < 108 ∨ 119 < x.toInt) ∨ x = 108 ∨ x = 109 ∨ x = 110 ∨ x = 111 ∨ x = 112 ∨ x = 113 ∨ x = 114 ∨ x = 115 ∨ x = 116 ∨ x = 117 ∨ x = 118 ∨ x = 119 := by
  by_cases h : x.toInt < 108 ∨ 119 < x.toInt
  · exact Or.inl h
  · right
    have hz : x.toInt = 108 ∨ x.toInt = 109 ∨ x.toInt = 110 ∨ x.toInt = 111 ∨ x.toInt = 112 ∨ x.toInt = 113 ∨ x.toInt = 114 ∨ x.toInt = 115 ∨ x.toInt = 116 ∨ x.toInt = 117 ∨ x.toInt = 118 ∨ x.toInt = 119 := by omega
    rcases hz with hz | hz | hz | hz | hz | hz | hz | hz | hz | hz | hz | hz
    · exact Or.inl (Int32.toInt_inj.mp (hz.trans (by decide)))
    · exact Or.inr (Or.inl (Int32.toInt_inj.mp (hz.trans (by decide))))
    · exact Or.inr (Or.inr (Or.inl (Int32.toInt_inj.mp (hz.trans (by decide)))))
    · exact Or.inr (Or.inr (Or.inr (Or.inl (Int32.toInt_inj.mp (hz.trans (by decide))))))
    · exact Or.inr (Or.inr (Or.inr (Or.inr (Or.inl (Int32.toInt_inj.mp (hz.trans (by decide)))))))
    · exact Or.inr (Or.inr (Or.inr (Or.inr (Or.inr (Or.inl (Int32.toInt_inj.mp (hz.trans (by decide))))))))
    · exact Or.inr (Or.inr (Or.inr (Or.inr (Or.inr (Or.inr (Or.inl (Int32.toInt_inj.mp (hz.trans (by decide)))))))))
    · exact Or.inr (Or.inr (Or.inr (Or.inr (Or.inr (Or.inr (Or.inr (Or.inl (Int32.toInt_inj.mp (hz.trans (by decide))))))))))
    · exact Or.inr (Or.inr (Or.inr (Or.inr (Or.inr (Or.inr (Or.inr (Or.inr (Or.inl (Int32.toInt_inj.mp (hz.trans (by decide)))))))))))
    · exact Or.inr (Or.inr (Or.inr (Or.inr (Or.inr (Or.inr (Or.inr (Or.inr (Or.inr (Or.inl (Int32.toInt_inj.mp (hz.trans (by decide))))))))))))
    · exact Or.inr (Or.inr (Or.inr (Or.inr (Or.inr (Or.inr (Or.inr (Or.inr (Or.inr (Or.inr (Or.inl (Int32.toInt_inj.mp (hz.trans (by decide)))))))))))))
    · exact Or.inr (Or.inr (Or.inr (Or.inr (Or.inr (Or.inr (Or.inr (Or.inr (Or.inr (Or.inr (Or.inr ((Int32.toInt_inj.mp (hz.trans (by decide))))))))))))))
theorem hd_X9_absolute : yX9_absolute.cls ≠ "java/lang/invoke/MethodHandle" ∧ yX9_absolute.cls ≠ "java/lang/invoke/VarHandle" ∧ (parseMethodDescriptor yX9_absolute.desc).map (fun d => d.parameters.length) = some 1 := by decide +kernel
theorem hd_X9_after : yX9_after.cls = RX9 ∧ yX9_after.cls ≠ "java/lang/invoke/MethodHandle" ∧ yX9_after.cls ≠ "java/lang/invoke/VarHandle" ∧ (parseMethodDescriptor yX9_after.desc).map (fun d => d.parameters.length) = some 3 := by decide +kernel
theorem hd_X9_asked : yX9_asked.cls = RX9 ∧ yX9_asked.cls ≠ "java/lang/invoke/MethodHandle" ∧ yX9_asked.cls ≠ "java/lang/invoke/VarHandle" ∧ (parseMethodDescriptor yX9_asked.desc).map (fun d => d.parameters.length) = some 2 := by decide +kernel
theorem hd_X9_barterOf : yX9_barterOf.cls = RX9 ∧ yX9_barterOf.cls ≠ "java/lang/invoke/MethodHandle" ∧ yX9_barterOf.cls ≠ "java/lang/invoke/VarHandle" ∧ (parseMethodDescriptor yX9_barterOf.desc).map (fun d => d.parameters.length) = some 1 := by decide +kernel
theorem hd_X9_behindUnit : yX9_behindUnit.cls = RX9 ∧ yX9_behindUnit.cls ≠ "java/lang/invoke/MethodHandle" ∧ yX9_behindUnit.cls ≠ "java/lang/invoke/VarHandle" ∧ (parseMethodDescriptor yX9_behindUnit.desc).map (fun d => d.parameters.length) = some 0 := by decide +kernel
theorem hd_X9_bit : yX9_bit.cls ≠ "java/lang/invoke/MethodHandle" ∧ yX9_bit.cls ≠ "java/lang/invoke/VarHandle" ∧ (parseMethodDescriptor yX9_bit.desc).map (fun d => d.parameters.length) = some 2 := by decide +kernel
theorem hd_X9_bitsOf : yX9_bitsOf.cls ≠ "java/lang/invoke/MethodHandle" ∧ yX9_bitsOf.cls ≠ "java/lang/invoke/VarHandle" ∧ (parseMethodDescriptor yX9_bitsOf.desc).map (fun d => d.parameters.length) = some 1 := by decide +kernel
theorem hd_X9_bringBack : yX9_bringBack.cls = RX9 ∧ yX9_bringBack.cls ≠ "java/lang/invoke/MethodHandle" ∧ yX9_bringBack.cls ≠ "java/lang/invoke/VarHandle" ∧ (parseMethodDescriptor yX9_bringBack.desc).map (fun d => d.parameters.length) = some 0 := by decide +kernel
theorem hd_X9_cartNow : yX9_cartNow.cls = RX9 ∧ yX9_cartNow.cls ≠ "java/lang/invoke/MethodHandle" ∧ yX9_cartNow.cls ≠ "java/lang/invoke/VarHandle" ∧ (parseMethodDescriptor yX9_cartNow.desc).map (fun d => d.parameters.length) = some 0 := by decide +kernel
theorem hd_X9_clearBank : yX9_clearBank.cls = RX9 ∧ yX9_clearBank.cls ≠ "java/lang/invoke/MethodHandle" ∧ yX9_clearBank.cls ≠ "java/lang/invoke/VarHandle" ∧ (parseMethodDescriptor yX9_clearBank.desc).map (fun d => d.parameters.length) = some 0 := by decide +kernel
theorem hd_X9_comes : yX9_comes.cls = RX9 ∧ yX9_comes.cls ≠ "java/lang/invoke/MethodHandle" ∧ yX9_comes.cls ≠ "java/lang/invoke/VarHandle" ∧ (parseMethodDescriptor yX9_comes.desc).map (fun d => d.parameters.length) = some 0 := by decide +kernel
theorem hd_X9_digit : yX9_digit.cls = RX9 ∧ yX9_digit.cls ≠ "java/lang/invoke/MethodHandle" ∧ yX9_digit.cls ≠ "java/lang/invoke/VarHandle" ∧ (parseMethodDescriptor yX9_digit.desc).map (fun d => d.parameters.length) = some 3 := by decide +kernel
theorem hd_X9_divisor : yX9_divisor.cls ≠ "java/lang/invoke/MethodHandle" ∧ yX9_divisor.cls ≠ "java/lang/invoke/VarHandle" ∧ (parseMethodDescriptor yX9_divisor.desc).map (fun d => d.parameters.length) = some 2 := by decide +kernel
theorem hd_X9_doesFit : yX9_doesFit.cls = RX9 ∧ yX9_doesFit.cls ≠ "java/lang/invoke/MethodHandle" ∧ yX9_doesFit.cls ≠ "java/lang/invoke/VarHandle" ∧ (parseMethodDescriptor yX9_doesFit.desc).map (fun d => d.parameters.length) = some 2 := by decide +kernel
theorem hd_X9_doesTake : yX9_doesTake.cls = RX9 ∧ yX9_doesTake.cls ≠ "java/lang/invoke/MethodHandle" ∧ yX9_doesTake.cls ≠ "java/lang/invoke/VarHandle" ∧ (parseMethodDescriptor yX9_doesTake.desc).map (fun d => d.parameters.length) = some 2 := by decide +kernel
theorem hd_X9_e : yX9_e.cls = RX9 ∧ yX9_e.cls ≠ "java/lang/invoke/MethodHandle" ∧ yX9_e.cls ≠ "java/lang/invoke/VarHandle" ∧ (parseMethodDescriptor yX9_e.desc).map (fun d => d.parameters.length) = some 0 := by decide +kernel
theorem hd_X9_emit : yX9_emit.cls = RX9 ∧ yX9_emit.cls ≠ "java/lang/invoke/MethodHandle" ∧ yX9_emit.cls ≠ "java/lang/invoke/VarHandle" ∧ (parseMethodDescriptor yX9_emit.desc).map (fun d => d.parameters.length) = some 2 := by decide +kernel
theorem hd_X9_fails : yX9_fails.cls = RX9 ∧ yX9_fails.cls ≠ "java/lang/invoke/MethodHandle" ∧ yX9_fails.cls ≠ "java/lang/invoke/VarHandle" ∧ (parseMethodDescriptor yX9_fails.desc).map (fun d => d.parameters.length) = some 2 := by decide +kernel
theorem hd_X9_fresh : yX9_fresh.cls = RX9 ∧ yX9_fresh.cls ≠ "java/lang/invoke/MethodHandle" ∧ yX9_fresh.cls ≠ "java/lang/invoke/VarHandle" ∧ (parseMethodDescriptor yX9_fresh.desc).map (fun d => d.parameters.length) = some 1 := by decide +kernel
theorem hd_X9_gainOf : yX9_gainOf.cls = RX9 ∧ yX9_gainOf.cls ≠ "java/lang/invoke/MethodHandle" ∧ yX9_gainOf.cls ≠ "java/lang/invoke/VarHandle" ∧ (parseMethodDescriptor yX9_gainOf.desc).map (fun d => d.parameters.length) = some 3 := by decide +kernel
theorem hd_X9_gladAnew : yX9_gladAnew.cls = RX9 ∧ yX9_gladAnew.cls ≠ "java/lang/invoke/MethodHandle" ∧ yX9_gladAnew.cls ≠ "java/lang/invoke/VarHandle" ∧ (parseMethodDescriptor yX9_gladAnew.desc).map (fun d => d.parameters.length) = some 2 := by decide +kernel
theorem hd_X9_gladBy : yX9_gladBy.cls = RX9 ∧ yX9_gladBy.cls ≠ "java/lang/invoke/MethodHandle" ∧ yX9_gladBy.cls ≠ "java/lang/invoke/VarHandle" ∧ (parseMethodDescriptor yX9_gladBy.desc).map (fun d => d.parameters.length) = some 3 := by decide +kernel
theorem hd_X9_gladNow : yX9_gladNow.cls = RX9 ∧ yX9_gladNow.cls ≠ "java/lang/invoke/MethodHandle" ∧ yX9_gladNow.cls ≠ "java/lang/invoke/VarHandle" ∧ (parseMethodDescriptor yX9_gladNow.desc).map (fun d => d.parameters.length) = some 2 := by decide +kernel
theorem hd_X9_goOn : yX9_goOn.cls = RX9 ∧ yX9_goOn.cls ≠ "java/lang/invoke/MethodHandle" ∧ yX9_goOn.cls ≠ "java/lang/invoke/VarHandle" ∧ (parseMethodDescriptor yX9_goOn.desc).map (fun d => d.parameters.length) = some 0 := by decide +kernel
theorem hd_X9_goWeek : yX9_goWeek.cls = RX9 ∧ yX9_goWeek.cls ≠ "java/lang/invoke/MethodHandle" ∧ yX9_goWeek.cls ≠ "java/lang/invoke/VarHandle" ∧ (parseMethodDescriptor yX9_goWeek.desc).map (fun d => d.parameters.length) = some 1 := by decide +kernel
theorem hd_X9_held : yX9_held.cls ≠ "java/lang/invoke/MethodHandle" ∧ yX9_held.cls ≠ "java/lang/invoke/VarHandle" ∧ (parseMethodDescriptor yX9_held.desc).map (fun d => d.parameters.length) = some 3 := by decide +kernel
theorem hd_X9_here : yX9_here.cls = RX9 ∧ yX9_here.cls ≠ "java/lang/invoke/MethodHandle" ∧ yX9_here.cls ≠ "java/lang/invoke/VarHandle" ∧ (parseMethodDescriptor yX9_here.desc).map (fun d => d.parameters.length) = some 3 := by decide +kernel
theorem hd_X9_homes : yX9_homes.cls = RX9 ∧ yX9_homes.cls ≠ "java/lang/invoke/MethodHandle" ∧ yX9_homes.cls ≠ "java/lang/invoke/VarHandle" ∧ (parseMethodDescriptor yX9_homes.desc).map (fun d => d.parameters.length) = some 0 := by decide +kernel
theorem hd_X9_isCompared : yX9_isCompared.cls = RX9 ∧ yX9_isCompared.cls ≠ "java/lang/invoke/MethodHandle" ∧ yX9_isCompared.cls ≠ "java/lang/invoke/VarHandle" ∧ (parseMethodDescriptor yX9_isCompared.desc).map (fun d => d.parameters.length) = some 0 := by decide +kernel
theorem hd_X9_isDigit : yX9_isDigit.cls ≠ "java/lang/invoke/MethodHandle" ∧ yX9_isDigit.cls ≠ "java/lang/invoke/VarHandle" ∧ (parseMethodDescriptor yX9_isDigit.desc).map (fun d => d.parameters.length) = some 1 := by decide +kernel
theorem hd_X9_isFrom : yX9_isFrom.cls = RX9 ∧ yX9_isFrom.cls ≠ "java/lang/invoke/MethodHandle" ∧ yX9_isFrom.cls ≠ "java/lang/invoke/VarHandle" ∧ (parseMethodDescriptor yX9_isFrom.desc).map (fun d => d.parameters.length) = some 5 := by decide +kernel
theorem hd_X9_isFull : yX9_isFull.cls = RX9 ∧ yX9_isFull.cls ≠ "java/lang/invoke/MethodHandle" ∧ yX9_isFull.cls ≠ "java/lang/invoke/VarHandle" ∧ (parseMethodDescriptor yX9_isFull.desc).map (fun d => d.parameters.length) = some 0 := by decide +kernel
theorem hd_X9_isGood : yX9_isGood.cls = RX9 ∧ yX9_isGood.cls ≠ "java/lang/invoke/MethodHandle" ∧ yX9_isGood.cls ≠ "java/lang/invoke/VarHandle" ∧ (parseMethodDescriptor yX9_isGood.desc).map (fun d => d.parameters.length) = some 0 := by decide +kernel
theorem hd_X9_isHouse : yX9_isHouse.cls = RX9 ∧ yX9_isHouse.cls ≠ "java/lang/invoke/MethodHandle" ∧ yX9_isHouse.cls ≠ "java/lang/invoke/VarHandle" ∧ (parseMethodDescriptor yX9_isHouse.desc).map (fun d => d.parameters.length) = some 1 := by decide +kernel
theorem hd_X9_isIn : yX9_isIn.cls ≠ "java/lang/invoke/MethodHandle" ∧ yX9_isIn.cls ≠ "java/lang/invoke/VarHandle" ∧ (parseMethodDescriptor yX9_isIn.desc).map (fun d => d.parameters.length) = some 3 := by decide +kernel
theorem hd_X9_isInIt : yX9_isInIt.cls = RX9 ∧ yX9_isInIt.cls ≠ "java/lang/invoke/MethodHandle" ∧ yX9_isInIt.cls ≠ "java/lang/invoke/VarHandle" ∧ (parseMethodDescriptor yX9_isInIt.desc).map (fun d => d.parameters.length) = some 4 := by decide +kernel
theorem hd_X9_isKept : yX9_isKept.cls ≠ "java/lang/invoke/MethodHandle" ∧ yX9_isKept.cls ≠ "java/lang/invoke/VarHandle" ∧ (parseMethodDescriptor yX9_isKept.desc).map (fun d => d.parameters.length) = some 1 := by decide +kernel
theorem hd_X9_isLetter : yX9_isLetter.cls ≠ "java/lang/invoke/MethodHandle" ∧ yX9_isLetter.cls ≠ "java/lang/invoke/VarHandle" ∧ (parseMethodDescriptor yX9_isLetter.desc).map (fun d => d.parameters.length) = some 1 := by decide +kernel
theorem hd_X9_isNote : yX9_isNote.cls ≠ "java/lang/invoke/MethodHandle" ∧ yX9_isNote.cls ≠ "java/lang/invoke/VarHandle" ∧ (parseMethodDescriptor yX9_isNote.desc).map (fun d => d.parameters.length) = some 1 := by decide +kernel
theorem hd_X9_isOnCart : yX9_isOnCart.cls = RX9 ∧ yX9_isOnCart.cls ≠ "java/lang/invoke/MethodHandle" ∧ yX9_isOnCart.cls ≠ "java/lang/invoke/VarHandle" ∧ (parseMethodDescriptor yX9_isOnCart.desc).map (fun d => d.parameters.length) = some 1 := by decide +kernel
theorem hd_X9_isPaid : yX9_isPaid.cls = RX9 ∧ yX9_isPaid.cls ≠ "java/lang/invoke/MethodHandle" ∧ yX9_isPaid.cls ≠ "java/lang/invoke/VarHandle" ∧ (parseMethodDescriptor yX9_isPaid.desc).map (fun d => d.parameters.length) = some 2 := by decide +kernel
theorem hd_X9_isRest : yX9_isRest.cls = RX9 ∧ yX9_isRest.cls ≠ "java/lang/invoke/MethodHandle" ∧ yX9_isRest.cls ≠ "java/lang/invoke/VarHandle" ∧ (parseMethodDescriptor yX9_isRest.desc).map (fun d => d.parameters.length) = some 4 := by decide +kernel
theorem hd_X9_isRound : yX9_isRound.cls = RX9 ∧ yX9_isRound.cls ≠ "java/lang/invoke/MethodHandle" ∧ yX9_isRound.cls ≠ "java/lang/invoke/VarHandle" ∧ (parseMethodDescriptor yX9_isRound.desc).map (fun d => d.parameters.length) = some 1 := by decide +kernel
theorem hd_X9_isSign : yX9_isSign.cls ≠ "java/lang/invoke/MethodHandle" ∧ yX9_isSign.cls ≠ "java/lang/invoke/VarHandle" ∧ (parseMethodDescriptor yX9_isSign.desc).map (fun d => d.parameters.length) = some 1 := by decide +kernel
theorem hd_X9_isSignHere : yX9_isSignHere.cls = RX9 ∧ yX9_isSignHere.cls ≠ "java/lang/invoke/MethodHandle" ∧ yX9_isSignHere.cls ≠ "java/lang/invoke/VarHandle" ∧ (parseMethodDescriptor yX9_isSignHere.desc).map (fun d => d.parameters.length) = some 1 := by decide +kernel
theorem hd_X9_isTried : yX9_isTried.cls = RX9 ∧ yX9_isTried.cls ≠ "java/lang/invoke/MethodHandle" ∧ yX9_isTried.cls ≠ "java/lang/invoke/VarHandle" ∧ (parseMethodDescriptor yX9_isTried.desc).map (fun d => d.parameters.length) = some 1 := by decide +kernel
theorem hd_X9_isTune : yX9_isTune.cls = RX9 ∧ yX9_isTune.cls ≠ "java/lang/invoke/MethodHandle" ∧ yX9_isTune.cls ≠ "java/lang/invoke/VarHandle" ∧ (parseMethodDescriptor yX9_isTune.desc).map (fun d => d.parameters.length) = some 1 := by decide +kernel
theorem hd_X9_isWord : yX9_isWord.cls = RX9 ∧ yX9_isWord.cls ≠ "java/lang/invoke/MethodHandle" ∧ yX9_isWord.cls ≠ "java/lang/invoke/VarHandle" ∧ (parseMethodDescriptor yX9_isWord.desc).map (fun d => d.parameters.length) = some 1 := by decide +kernel
theorem hd_X9_keepAct : yX9_keepAct.cls = RX9 ∧ yX9_keepAct.cls ≠ "java/lang/invoke/MethodHandle" ∧ yX9_keepAct.cls ≠ "java/lang/invoke/VarHandle" ∧ (parseMethodDescriptor yX9_keepAct.desc).map (fun d => d.parameters.length) = some 0 := by decide +kernel
theorem hd_X9_keepNow : yX9_keepNow.cls = RX9 ∧ yX9_keepNow.cls ≠ "java/lang/invoke/MethodHandle" ∧ yX9_keepNow.cls ≠ "java/lang/invoke/VarHandle" ∧ (parseMethodDescriptor yX9_keepNow.desc).map (fun d => d.parameters.length) = some 0 := by decide +kernel
theorem hd_X9_layGlad : yX9_layGlad.cls = RX9 ∧ yX9_layGlad.cls ≠ "java/lang/invoke/MethodHandle" ∧ yX9_layGlad.cls ≠ "java/lang/invoke/VarHandle" ∧ (parseMethodDescriptor yX9_layGlad.desc).map (fun d => d.parameters.length) = some 0 := by decide +kernel
theorem hd_X9_layRows : yX9_layRows.cls = RX9 ∧ yX9_layRows.cls ≠ "java/lang/invoke/MethodHandle" ∧ yX9_layRows.cls ≠ "java/lang/invoke/VarHandle" ∧ (parseMethodDescriptor yX9_layRows.desc).map (fun d => d.parameters.length) = some 1 := by decide +kernel
theorem hd_X9_layTold : yX9_layTold.cls = RX9 ∧ yX9_layTold.cls ≠ "java/lang/invoke/MethodHandle" ∧ yX9_layTold.cls ≠ "java/lang/invoke/VarHandle" ∧ (parseMethodDescriptor yX9_layTold.desc).map (fun d => d.parameters.length) = some 0 := by decide +kernel
theorem hd_X9_leftOf : yX9_leftOf.cls = RX9 ∧ yX9_leftOf.cls ≠ "java/lang/invoke/MethodHandle" ∧ yX9_leftOf.cls ≠ "java/lang/invoke/VarHandle" ∧ (parseMethodDescriptor yX9_leftOf.desc).map (fun d => d.parameters.length) = some 1 := by decide +kernel
theorem hd_X9_likesOf : yX9_likesOf.cls = RX9 ∧ yX9_likesOf.cls ≠ "java/lang/invoke/MethodHandle" ∧ yX9_likesOf.cls ≠ "java/lang/invoke/VarHandle" ∧ (parseMethodDescriptor yX9_likesOf.desc).map (fun d => d.parameters.length) = some 2 := by decide +kernel
theorem hd_X9_misplaced : yX9_misplaced.cls = RX9 ∧ yX9_misplaced.cls ≠ "java/lang/invoke/MethodHandle" ∧ yX9_misplaced.cls ≠ "java/lang/invoke/VarHandle" ∧ (parseMethodDescriptor yX9_misplaced.desc).map (fun d => d.parameters.length) = some 0 := by decide +kernel
theorem hd_X9_mostBy : yX9_mostBy.cls = RX9 ∧ yX9_mostBy.cls ≠ "java/lang/invoke/MethodHandle" ∧ yX9_mostBy.cls ≠ "java/lang/invoke/VarHandle" ∧ (parseMethodDescriptor yX9_mostBy.desc).map (fun d => d.parameters.length) = some 1 := by decide +kernel
theorem hd_X9_must : yX9_must.cls = RX9 ∧ yX9_must.cls ≠ "java/lang/invoke/MethodHandle" ∧ yX9_must.cls ≠ "java/lang/invoke/VarHandle" ∧ (parseMethodDescriptor yX9_must.desc).map (fun d => d.parameters.length) = some 1 := by decide +kernel
theorem hd_X9_noteIn : yX9_noteIn.cls ≠ "java/lang/invoke/MethodHandle" ∧ yX9_noteIn.cls ≠ "java/lang/invoke/VarHandle" ∧ (parseMethodDescriptor yX9_noteIn.desc).map (fun d => d.parameters.length) = some 2 := by decide +kernel
theorem hd_X9_noteOf : yX9_noteOf.cls = RX9 ∧ yX9_noteOf.cls ≠ "java/lang/invoke/MethodHandle" ∧ yX9_noteOf.cls ≠ "java/lang/invoke/VarHandle" ∧ (parseMethodDescriptor yX9_noteOf.desc).map (fun d => d.parameters.length) = some 2 := by decide +kernel
theorem hd_X9_numeral : yX9_numeral.cls = RX9 ∧ yX9_numeral.cls ≠ "java/lang/invoke/MethodHandle" ∧ yX9_numeral.cls ≠ "java/lang/invoke/VarHandle" ∧ (parseMethodDescriptor yX9_numeral.desc).map (fun d => d.parameters.length) = some 2 := by decide +kernel
theorem hd_X9_once : yX9_once.cls = RX9 ∧ yX9_once.cls ≠ "java/lang/invoke/MethodHandle" ∧ yX9_once.cls ≠ "java/lang/invoke/VarHandle" ∧ (parseMethodDescriptor yX9_once.desc).map (fun d => d.parameters.length) = some 3 := by decide +kernel
theorem hd_X9_paidBy : yX9_paidBy.cls = RX9 ∧ yX9_paidBy.cls ≠ "java/lang/invoke/MethodHandle" ∧ yX9_paidBy.cls ≠ "java/lang/invoke/VarHandle" ∧ (parseMethodDescriptor yX9_paidBy.desc).map (fun d => d.parameters.length) = some 1 := by decide +kernel
theorem hd_X9_paidNow : yX9_paidNow.cls = RX9 ∧ yX9_paidNow.cls ≠ "java/lang/invoke/MethodHandle" ∧ yX9_paidNow.cls ≠ "java/lang/invoke/VarHandle" ∧ (parseMethodDescriptor yX9_paidNow.desc).map (fun d => d.parameters.length) = some 0 := by decide +kernel
theorem hd_X9_placeOf : yX9_placeOf.cls = RX9 ∧ yX9_placeOf.cls ≠ "java/lang/invoke/MethodHandle" ∧ yX9_placeOf.cls ≠ "java/lang/invoke/VarHandle" ∧ (parseMethodDescriptor yX9_placeOf.desc).map (fun d => d.parameters.length) = some 1 := by decide +kernel
theorem hd_X9_power : yX9_power.cls ≠ "java/lang/invoke/MethodHandle" ∧ yX9_power.cls ≠ "java/lang/invoke/VarHandle" ∧ (parseMethodDescriptor yX9_power.desc).map (fun d => d.parameters.length) = some 2 := by decide +kernel
theorem hd_X9_priceOf : yX9_priceOf.cls = RX9 ∧ yX9_priceOf.cls ≠ "java/lang/invoke/MethodHandle" ∧ yX9_priceOf.cls ≠ "java/lang/invoke/VarHandle" ∧ (parseMethodDescriptor yX9_priceOf.desc).map (fun d => d.parameters.length) = some 1 := by decide +kernel
theorem hd_X9_pushE : yX9_pushE.cls = RX9 ∧ yX9_pushE.cls ≠ "java/lang/invoke/MethodHandle" ∧ yX9_pushE.cls ≠ "java/lang/invoke/VarHandle" ∧ (parseMethodDescriptor yX9_pushE.desc).map (fun d => d.parameters.length) = some 2 := by decide +kernel
theorem hd_X9_rankHere : yX9_rankHere.cls = RX9 ∧ yX9_rankHere.cls ≠ "java/lang/invoke/MethodHandle" ∧ yX9_rankHere.cls ≠ "java/lang/invoke/VarHandle" ∧ (parseMethodDescriptor yX9_rankHere.desc).map (fun d => d.parameters.length) = some 0 := by decide +kernel
theorem hd_X9_readHouse : yX9_readHouse.cls = RX9 ∧ yX9_readHouse.cls ≠ "java/lang/invoke/MethodHandle" ∧ yX9_readHouse.cls ≠ "java/lang/invoke/VarHandle" ∧ (parseMethodDescriptor yX9_readHouse.desc).map (fun d => d.parameters.length) = some 0 := by decide +kernel
theorem hd_X9_readLine : yX9_readLine.cls = RX9 ∧ yX9_readLine.cls ≠ "java/lang/invoke/MethodHandle" ∧ yX9_readLine.cls ≠ "java/lang/invoke/VarHandle" ∧ (parseMethodDescriptor yX9_readLine.desc).map (fun d => d.parameters.length) = some 0 := by decide +kernel
theorem hd_X9_readRule : yX9_readRule.cls = RX9 ∧ yX9_readRule.cls ≠ "java/lang/invoke/MethodHandle" ∧ yX9_readRule.cls ≠ "java/lang/invoke/VarHandle" ∧ (parseMethodDescriptor yX9_readRule.desc).map (fun d => d.parameters.length) = some 0 := by decide +kernel
theorem hd_X9_readTune : yX9_readTune.cls = RX9 ∧ yX9_readTune.cls ≠ "java/lang/invoke/MethodHandle" ∧ yX9_readTune.cls ≠ "java/lang/invoke/VarHandle" ∧ (parseMethodDescriptor yX9_readTune.desc).map (fun d => d.parameters.length) = some 0 := by decide +kernel
theorem hd_X9_sameOf : yX9_sameOf.cls = RX9 ∧ yX9_sameOf.cls ≠ "java/lang/invoke/MethodHandle" ∧ yX9_sameOf.cls ≠ "java/lang/invoke/VarHandle" ∧ (parseMethodDescriptor yX9_sameOf.desc).map (fun d => d.parameters.length) = some 2 := by decide +kernel
theorem hd_X9_sign : yX9_sign.cls = RX9 ∧ yX9_sign.cls ≠ "java/lang/invoke/MethodHandle" ∧ yX9_sign.cls ≠ "java/lang/invoke/VarHandle" ∧ (parseMethodDescriptor yX9_sign.desc).map (fun d => d.parameters.length) = some 1 := by decide +kernel
theorem hd_X9_songs : yX9_songs.cls = RX9 ∧ yX9_songs.cls ≠ "java/lang/invoke/MethodHandle" ∧ yX9_songs.cls ≠ "java/lang/invoke/VarHandle" ∧ (parseMethodDescriptor yX9_songs.desc).map (fun d => d.parameters.length) = some 0 := by decide +kernel
theorem hd_X9_startAnew : yX9_startAnew.cls = RX9 ∧ yX9_startAnew.cls ≠ "java/lang/invoke/MethodHandle" ∧ yX9_startAnew.cls ≠ "java/lang/invoke/VarHandle" ∧ (parseMethodDescriptor yX9_startAnew.desc).map (fun d => d.parameters.length) = some 0 := by decide +kernel
theorem hd_X9_swapAll : yX9_swapAll.cls = RX9 ∧ yX9_swapAll.cls ≠ "java/lang/invoke/MethodHandle" ∧ yX9_swapAll.cls ≠ "java/lang/invoke/VarHandle" ∧ (parseMethodDescriptor yX9_swapAll.desc).map (fun d => d.parameters.length) = some 0 := by decide +kernel
theorem hd_X9_takenBy : yX9_takenBy.cls = RX9 ∧ yX9_takenBy.cls ≠ "java/lang/invoke/MethodHandle" ∧ yX9_takenBy.cls ≠ "java/lang/invoke/VarHandle" ∧ (parseMethodDescriptor yX9_takenBy.desc).map (fun d => d.parameters.length) = some 1 := by decide +kernel
theorem hd_X9_takers : yX9_takers.cls = RX9 ∧ yX9_takers.cls ≠ "java/lang/invoke/MethodHandle" ∧ yX9_takers.cls ≠ "java/lang/invoke/VarHandle" ∧ (parseMethodDescriptor yX9_takers.desc).map (fun d => d.parameters.length) = some 1 := by decide +kernel
theorem hd_X9_toCart : yX9_toCart.cls = RX9 ∧ yX9_toCart.cls ≠ "java/lang/invoke/MethodHandle" ∧ yX9_toCart.cls ≠ "java/lang/invoke/VarHandle" ∧ (parseMethodDescriptor yX9_toCart.desc).map (fun d => d.parameters.length) = some 1 := by decide +kernel
theorem hd_X9_triedBy : yX9_triedBy.cls = RX9 ∧ yX9_triedBy.cls ≠ "java/lang/invoke/MethodHandle" ∧ yX9_triedBy.cls ≠ "java/lang/invoke/VarHandle" ∧ (parseMethodDescriptor yX9_triedBy.desc).map (fun d => d.parameters.length) = some 1 := by decide +kernel
theorem hd_X9_turnOf : yX9_turnOf.cls = RX9 ∧ yX9_turnOf.cls ≠ "java/lang/invoke/MethodHandle" ∧ yX9_turnOf.cls ≠ "java/lang/invoke/VarHandle" ∧ (parseMethodDescriptor yX9_turnOf.desc).map (fun d => d.parameters.length) = some 2 := by decide +kernel
theorem hd_X9_two : yX9_two.cls ≠ "java/lang/invoke/MethodHandle" ∧ yX9_two.cls ≠ "java/lang/invoke/VarHandle" ∧ (parseMethodDescriptor yX9_two.desc).map (fun d => d.parameters.length) = some 3 := by decide +kernel
theorem hd_X9_unit : yX9_unit.cls = RX9 ∧ yX9_unit.cls ≠ "java/lang/invoke/MethodHandle" ∧ yX9_unit.cls ≠ "java/lang/invoke/VarHandle" ∧ (parseMethodDescriptor yX9_unit.desc).map (fun d => d.parameters.length) = some 0 := by decide +kernel
theorem hd_X9_wayOf : yX9_wayOf.cls = RX9 ∧ yX9_wayOf.cls ≠ "java/lang/invoke/MethodHandle" ∧ yX9_wayOf.cls ≠ "java/lang/invoke/VarHandle" ∧ (parseMethodDescriptor yX9_wayOf.desc).map (fun d => d.parameters.length) = some 2 := by decide +kernel
theorem hd_X9_wordHere : yX9_wordHere.cls = RX9 ∧ yX9_wordHere.cls ≠ "java/lang/invoke/MethodHandle" ∧ yX9_wordHere.cls ≠ "java/lang/invoke/VarHandle" ∧ (parseMethodDescriptor yX9_wordHere.desc).map (fun d => d.parameters.length) = some 0 := by decide +kernel

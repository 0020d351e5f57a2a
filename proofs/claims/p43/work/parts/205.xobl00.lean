theorem ox_0 {a0 : Int} (h0 : a0 + 8 < 0) (h1 : (0 : Int) ≤ a0 + 8) (h2 : a0 ≤ (24 : Int)) : False := by omega
theorem ox_1 {a0 : Int} (h0 : (0 : Int) ≤ a0 + 8) : (-2147483648) ≤ a0 + (-8) := by omega
theorem ox_2 {a0 : Int} (h0 : a0 ≤ (24 : Int)) : a0 + (-8) ≤ 2147483647 := by omega
theorem ox_3 {a0 a1 : Int} (h0 : a0 = a1 + (-8)) : a0 = a1 + (-8) := by omega
theorem ox_4 {a0 a1 : Int} (h0 : 0 ≤ a0) (h1 : a1 = a0 + (-8)) : (0 : Int) ≤ a1 + 8 := by omega
theorem ox_5 {a0 a1 : Int} (h0 : a0 ≤ (24 : Int)) (h1 : a1 = a0 + (-8)) : a1 ≤ (24 : Int) := by omega
theorem ox_6 {a0 : Int} (h0 : (0 : Int) ≤ a0) : (0 : Int) ≤ a0 := by omega
theorem ox_7 {a0 : Int} (h0 : a0 ≤ (1600 : Int)) : a0 ≤ (1600 : Int) := by omega
theorem ox_8 {a0 a1 a2 : Int} (h0 : a0 + 8 < a1 + 1) (h1 : a2 = a0 + (-8)) : a2 + 8 < a1 := by omega
theorem ox_9 {a0 : Int} (h0 : (0 : Int) ≤ a0) : 0 ≤ a0 := by omega
theorem ox_10 {a0 : Int} (h0 : a0 < 1600) : a0 < 1600 := by omega
theorem ox_11 {a0 : Int} (h0 : (0 : Int) ≤ a0) : (-2147483648) ≤ a0 + 1 := by omega
theorem ox_12 {a0 : Int} (h0 : a0 ≤ (1600 : Int)) : a0 + 1 ≤ 2147483647 := by omega
theorem ox_13 {a0 a1 : Int} (h0 : a0 = a1 + 1) : a0 = a1 + 1 := by omega
theorem ox_14 {a0 a1 : Int} (h0 : (0 : Int) ≤ a0) (h1 : a1 = a0 + 1) : (0 : Int) ≤ a1 := by omega
theorem ox_15 {a0 a1 : Int} (h0 : a0 < 1600) (h1 : a1 = a0 + 1) : a1 ≤ (1600 : Int) := by omega
theorem ox_16 {a0 : Int} (h0 : a0 = 24) : (0 : Int) ≤ a0 + 8 := by omega
theorem ox_17 {a0 : Int} (h0 : a0 = 24) : a0 ≤ (24 : Int) := by omega
theorem ox_18 {a0 : Int} (h0 : (0 : Int) ≤ a0) (h1 : a0 ≤ (1600 : Int)) : (0 : Int) ≤ a0 := by omega
theorem ox_19 {a0 : Int} (h0 : (0 : Int) ≤ a0) (h1 : a0 ≤ (1600 : Int)) : a0 ≤ (1600 : Int) := by omega
theorem ox_20 {a0 : Int} (h0 : a0 = 24) : 0 ≤ a0 + 8 := by omega
theorem ox_21 {a0 : Int} (h0 : (0 : Int) ≤ a0) (h1 : a0 ≤ (1600 : Int)) : (-2147483648) ≤ a0 + 20 := by omega
theorem ox_22 {a0 : Int} (h0 : (0 : Int) ≤ a0) (h1 : a0 ≤ (1600 : Int)) : a0 + 20 ≤ 2147483647 := by omega
theorem ox_23 {a0 a1 : Int} (h0 : a0 = a1 + 20) : a0 = a1 + 20 := by omega
theorem ox_24 {a0 a1 : Int} (h0 : 0 ≤ a0) (h1 : a0 ≤ a1) : (0 : Int) ≤ a0 := by omega
theorem ox_25 {a0 a1 : Int} (h0 : a0 ≤ (1600 : Int)) (h1 : a1 ≤ a0) : a1 ≤ (1600 : Int) := by omega
theorem ox_26 {a0 a1 a2 : Int} (h0 : (0 : Int) ≤ a0) (h1 : a0 ≤ (5 : Int)) (h2 : a1 < 0) (h3 : a2 = 0) : ((a1 + 1 ≤ (0 : Int)) ∧ (a2 = (0 : Int))) ∨ (((0 : Int) ≤ a1) ∧ (a0 ≤ a1) ∧ (a2 = (0 : Int))) ∨ (((0 : Int) ≤ a1) ∧ (a1 + 1 ≤ a0) ∧ (a2 = (1 : Int))) := by omega
theorem ox_27 {a0 : Int} (h0 : a0 = 0) : (0 : Int) ≤ a0 := by omega
theorem ox_28 {a0 : Int} (h0 : a0 = 0) : a0 ≤ (1 : Int) := by omega
theorem ox_29 {a0 a1 a2 : Int} (h0 : a0 ≤ a1) (h1 : a2 = 0) : ((a1 + 1 ≤ (0 : Int)) ∧ (a2 = (0 : Int))) ∨ (((0 : Int) ≤ a1) ∧ (a0 ≤ a1) ∧ (a2 = (0 : Int))) ∨ (((0 : Int) ≤ a1) ∧ (a1 + 1 ≤ a0) ∧ (a2 = (1 : Int))) := by omega
theorem ox_30 {a0 a1 a2 : Int} (h0 : 0 ≤ a0) (h1 : a0 < a1) (h2 : a2 = 1) : ((a0 + 1 ≤ (0 : Int)) ∧ (a2 = (0 : Int))) ∨ (((0 : Int) ≤ a0) ∧ (a1 ≤ a0) ∧ (a2 = (0 : Int))) ∨ (((0 : Int) ≤ a0) ∧ (a0 + 1 ≤ a1) ∧ (a2 = (1 : Int))) := by omega
theorem ox_31 {a0 : Int} (h0 : a0 = 1) : (0 : Int) ≤ a0 := by omega
theorem ox_32 {a0 : Int} (h0 : a0 = 1) : a0 ≤ (1 : Int) := by omega
theorem ox_33 {a0 a1 : Int} (h0 : (0 : Int) ≤ a0) (h1 : a0 + 1 ≤ a1) : 0 ≤ a0 := by omega
theorem ox_34 {a0 a1 : Int} (h0 : a0 ≤ (5 : Int)) (h1 : a1 + 1 ≤ a0) : a1 < 5 := by omega
theorem ox_35 {a0 a1 a2 : Int} (h0 : (0 : Int) ≤ a0) (h1 : 0 ≤ a0 → a0 < a2 → 3 ≤ a1) : (a0 + 1 ≤ a2) → ((3 : Int) ≤ a1) := by omega
theorem ox_36 {a0 a1 a2 : Int} (h0 : (0 : Int) ≤ a0) (h1 : a0 + 1 ≤ a1) (h2 : 0 ≤ a0 → a0 < a1 → 3 ≤ a2) : (3 : Int) ≤ a2 := by omega
theorem ox_37 {a0 a1 : Int} (h0 : a0 ≤ (99 : Int)) (h1 : 0 ≤ a1 ∧ a1 ≤ 8) : (-2147483648) ≤ a1 - a0 := by omega
theorem ox_38 {a0 a1 : Int} (h0 : (0 : Int) ≤ a0) (h1 : 0 ≤ a1 ∧ a1 ≤ 8) : a1 - a0 ≤ 2147483647 := by omega
theorem ox_39 {a0 a1 a2 : Int} (h0 : a0 = a1 - a2) : a0 = a1 + -1 * a2 := by omega
theorem ox_40 {a0 a1 a2 : Int} (h0 : 3 ≤ a0) (h1 : a0 = a1 + -1 * a2) : (3 : Int) ≤ a0 := by omega
theorem ox_41 {a0 a1 a2 : Int} (h0 : (0 : Int) ≤ a0) (h1 : 0 ≤ a1 ∧ a1 ≤ 8) (h2 : a2 = a1 + -1 * a0) : a2 ≤ (8 : Int) := by omega
theorem ox_42 {a0 a1 a2 : Int} (h0 : 0 ≤ a0 ∧ a0 ≤ 8) (h1 : (3 : Int) ≤ a0) (h2 : 3 ≤ a1) (h3 : a1 = a0 + -1 * a2) : (3 : Int) ≤ a0 := by omega
theorem ox_43 {a0 a1 a2 : Int} (h0 : 0 ≤ a0 ∧ a0 ≤ 8) (h1 : (3 : Int) ≤ a0) (h2 : 3 ≤ a1) (h3 : a1 = a0 + -1 * a2) : a0 ≤ (8 : Int) := by omega
theorem ox_44 {a0 a1 a2 : Int} (h0 : a0 = a1 + -1 * a2) : ((a0 = (3 : Int)) ∧ (a1 ≤ a2 + 3)) ∨ (a0 + a2 = a1) := by omega
theorem ox_45 {a0 : Int} (h0 : a0 = 3) : (3 : Int) ≤ a0 := by omega
theorem ox_46 {a0 : Int} (h0 : a0 = 3) : a0 ≤ (8 : Int) := by omega
theorem ox_47 {a0 a1 a2 : Int} (h0 : 0 ≤ a0 ∧ a0 ≤ 8) (h1 : (3 : Int) ≤ a0) (h2 : a1 < 3) (h3 : a1 = a0 + -1 * a2) : (3 : Int) ≤ a0 := by omega
theorem ox_48 {a0 a1 a2 : Int} (h0 : 0 ≤ a0 ∧ a0 ≤ 8) (h1 : (3 : Int) ≤ a0) (h2 : a1 < 3) (h3 : a1 = a0 + -1 * a2) : a0 ≤ (8 : Int) := by omega
theorem ox_49 {a0 a1 a2 a3 : Int} (h0 : a0 < 3) (h1 : a0 = a1 + -1 * a2) (h2 : a3 = 3) : ((a3 = (3 : Int)) ∧ (a1 ≤ a2 + 3)) ∨ (a3 + a2 = a1) := by omega
theorem ox_50 {a0 a1 a2 : Int} (h0 : ((a0 + 1 ≤ (0 : Int)) ∧ (a1 = (0 : Int))) ∨ (((0 : Int) ≤ a0) ∧ (a2 ≤ a0) ∧ (a1 = (0 : Int))) ∨ (((0 : Int) ≤ a0) ∧ (a0 + 1 ≤ a2) ∧ (a1 = (1 : Int)))) (h1 : a1 ≠ 0) : (0 : Int) ≤ a0 := by omega
theorem ox_51 {a0 a1 a2 : Int} (h0 : ((a0 + 1 ≤ (0 : Int)) ∧ (a1 = (0 : Int))) ∨ (((0 : Int) ≤ a0) ∧ (a2 ≤ a0) ∧ (a1 = (0 : Int))) ∨ (((0 : Int) ≤ a0) ∧ (a0 + 1 ≤ a2) ∧ (a1 = (1 : Int)))) (h1 : a1 ≠ 0) : a0 + 1 ≤ a2 := by omega
theorem ox_52 {a0 a1 a2 : Int} (h0 : ((a0 + 1 ≤ (0 : Int)) ∧ (a1 = (0 : Int))) ∨ (((0 : Int) ≤ a0) ∧ (a2 ≤ a0) ∧ (a1 = (0 : Int))) ∨ (((0 : Int) ≤ a0) ∧ (a0 + 1 ≤ a2) ∧ (a1 = (1 : Int)))) (h1 : a1 ≠ 0) : a1 = (1 : Int) := by omega
theorem ox_53 {a0 : Int} (h0 : (0 : Int) ≤ a0) (h1 : a0 ≤ (1 : Int)) (h2 : a0 = (1 : Int)) : (1 : Int) ≤ a0 := by omega
theorem ox_54 {a0 a1 : Int} (h0 : (0 : Int) ≤ a0) (h1 : a0 + 1 ≤ a1) : (0 : Int) ≤ a0 := by omega
theorem ox_55 {a0 a1 : Int} (h0 : a0 + 1 ≤ a1) : a0 + 1 ≤ a1 := by omega
theorem ox_56 {a0 : Int} (h0 : 0 ≤ a0 ∧ a0 ≤ 99) : (0 : Int) ≤ a0 := by omega
theorem ox_57 {a0 : Int} (h0 : 0 ≤ a0 ∧ a0 ≤ 99) : a0 ≤ (99 : Int) := by omega
theorem ox_58 {a0 : Int} (h0 : (0 : Int) ≤ a0) (h1 : a0 ≤ (99 : Int)) : (0 : Int) ≤ a0 := by omega
theorem ox_59 {a0 : Int} (h0 : (0 : Int) ≤ a0) (h1 : a0 ≤ (99 : Int)) : a0 ≤ (99 : Int) := by omega
theorem ox_60 {a0 a1 : Int} (h0 : 0 ≤ a0 ∧ a0 ≤ 8) (h1 : a1 ≤ (8 : Int)) : (-2147483648) ≤ a0 - a1 := by omega
theorem ox_61 {a0 a1 : Int} (h0 : 0 ≤ a0 ∧ a0 ≤ 8) (h1 : (3 : Int) ≤ a1) : a0 - a1 ≤ 2147483647 := by omega
theorem ox_62 {a0 a1 : Int} (h0 : (0 : Int) ≤ a0) (h1 : a0 + 1 ≤ a1) : (-2147483648) ≤ a0 * 8 := by omega
theorem ox_63 {a0 a1 : Int} (h0 : a0 ≤ (5 : Int)) (h1 : a1 + 1 ≤ a0) : a1 * 8 ≤ 2147483647 := by omega
theorem ox_64 {a0 a1 : Int} (h0 : a0 = a1 * 8) : a0 = 8 * a1 := by omega
theorem ox_65 {a0 a1 a2 a3 a4 : Int} (h0 : (0 : Int) ≤ a0) (h1 : 0 ≤ a1 ∧ a1 ≤ 8) (h2 : a2 ≤ (8 : Int)) (h3 : a3 = a1 + -1 * a2) (h4 : a4 = 8 * a0) : (-2147483648) ≤ a4 + a3 := by omega
theorem ox_66 {a0 a1 a2 a3 a4 a5 : Int} (h0 : a0 ≤ (5 : Int)) (h1 : a1 + 1 ≤ a0) (h2 : 0 ≤ a2 ∧ a2 ≤ 8) (h3 : (3 : Int) ≤ a3) (h4 : a4 = a2 + -1 * a3) (h5 : a5 = 8 * a1) : a5 + a4 ≤ 2147483647 := by omega
theorem ox_67 {a0 a1 a2 a3 a4 a5 : Int} (h0 : a0 = a1 + a2) (h1 : a2 = a3 + -1 * a4) (h2 : a1 = 8 * a5) : a0 = a3 + -1 * a4 + 8 * a5 := by omega
theorem ox_68 {a0 a1 a2 a3 a4 : Int} (h0 : (0 : Int) ≤ a0) (h1 : (0 : Int) ≤ a1) (h2 : 0 ≤ a2 ∧ a2 ≤ 8) (h3 : a3 ≤ (8 : Int)) (h4 : a4 = a2 + -1 * a3 + 8 * a0) : (-2147483648) ≤ a4 + a1 := by omega
theorem ox_69 {a0 a1 a2 a3 a4 a5 a6 : Int} (h0 : a0 ≤ (5 : Int)) (h1 : a1 + 1 ≤ a0) (h2 : (0 : Int) ≤ a2) (h3 : (a3 ≤ (2 : Int)) ∨ (a3 + a2 + 1 ≤ a4)) (h4 : 0 ≤ a4 ∧ a4 ≤ 8) (h5 : (3 : Int) ≤ a5) (h6 : a6 = a4 + -1 * a5 + 8 * a1) : a6 + a3 ≤ 2147483647 := by omega
theorem ox_70 {a0 a1 a2 a3 a4 a5 : Int} (h0 : a0 = a1 + a2) (h1 : a1 = a3 + -1 * a4 + 8 * a5) : a0 = a3 + a2 + -1 * a4 + 8 * a5 := by omega
theorem ox_71 {a0 a1 a2 a3 a4 a5 : Int} (h0 : (0 : Int) ≤ a0) (h1 : a0 + 1 ≤ a1) (h2 : (0 : Int) ≤ a2) (h3 : (0 : Int) ≤ a3) (h4 : 0 ≤ a0 → a0 < a1 → 3 ≤ a4) (h5 : ((a5 = (3 : Int)) ∧ (a4 ≤ a2 + 3)) ∨ (a5 + a2 = a4)) : 0 ≤ a4 + a3 + -1 * a5 + 8 * a0 := by omega
theorem ox_72 {a0 a1 a2 a3 a4 a5 : Int} (h0 : a0 ≤ (5 : Int)) (h1 : a1 + 1 ≤ a0) (h2 : (a2 ≤ (2 : Int)) ∨ (a2 + a4 + 1 ≤ a3)) (h3 : 0 ≤ a3 ∧ a3 ≤ 8) (h4 : (3 : Int) ≤ a5) (h5 : ((a5 = (3 : Int)) ∧ (a3 ≤ a4 + 3)) ∨ (a5 + a4 = a3)) : a3 + a2 + -1 * a5 + 8 * a1 < 40 := by omega
theorem ox_73 {a0 : Int} (h0 : 0 ≤ a0 ∧ a0 ≤ 6) : (0 : Int) ≤ a0 := by omega
theorem ox_74 {a0 : Int} (h0 : 0 ≤ a0 ∧ a0 ≤ 6) : a0 ≤ (6 : Int) := by omega
theorem ox_75 {a0 a1 : Int} (h0 : 0 ≤ a0) (h1 : a0 < a1) : (0 : Int) ≤ a0 := by omega
theorem ox_76 {a0 a1 a2 a3 : Int} (h0 : ((a0 = (3 : Int)) ∧ (a1 ≤ a2 + 3)) ∨ (a0 + a2 = a1)) (h1 : a3 < a0) : (a3 ≤ (2 : Int)) ∨ (a3 + a2 + 1 ≤ a1) := by omega
theorem ox_77 {a0 a1 a2 : Int} (h0 : (0 : Int) ≤ a0) (h1 : a0 ≤ (4 : Int)) (h2 : a1 < 0) (h3 : a2 = 0) : ((a1 + 1 ≤ (0 : Int)) ∧ (a2 = (0 : Int))) ∨ (((0 : Int) ≤ a1) ∧ (a0 ≤ a1) ∧ (a2 = (0 : Int))) ∨ (((0 : Int) ≤ a1) ∧ (a1 + 1 ≤ a0) ∧ (a2 = (1 : Int))) := by omega
theorem ox_78 {a0 : Int} (h0 : (0 : Int) ≤ a0) (h1 : a0 ≤ (4 : Int)) : 0 ≤ a0 := by omega
theorem ox_79 {a0 : Int} (h0 : (0 : Int) ≤ a0) (h1 : a0 ≤ (4 : Int)) : a0 < 5 := by omega
theorem ox_80 {a0 : Int} (h0 : a0 = 0) : ((a0 = (0 : Int))) ∨ ((a0 = (1 : Int))) := by omega
theorem ox_81 {a0 : Int} (h0 : a0 = 1) : ((a0 = (0 : Int))) ∨ ((a0 = (1 : Int))) := by omega
theorem ox_82 {a0 : Int} (h0 : -1 * a0 + 5 < 0) (h1 : (0 : Int) ≤ a0) (h2 : a0 ≤ (5 : Int)) : False := by omega
theorem ox_83 {a0 : Int} (h0 : a0 = (-1)) : (0 : Int) ≤ a0 + 1 := by omega
theorem ox_84 {a0 a1 : Int} (h0 : (0 : Int) ≤ a0) (h1 : a0 ≤ (5 : Int)) (h2 : a1 = (-1)) : a1 + 1 ≤ a0 := by omega
theorem ox_85 {a0 : Int} (h0 : a0 = (-1)) : a0 ≤ (4 : Int) := by omega
theorem ox_86 {a0 : Int} (h0 : a0 < 5) : a0 < 5 := by omega
theorem ox_87 {a0 : Int} (h0 : a0 ≤ (5 : Int)) : a0 + 1 ≤ 2147483647 := by omega
theorem ox_88 {a0 a1 : Int} (h0 : a0 < 5) (h1 : a1 = a0 + 1) : a1 ≤ (5 : Int) := by omega
theorem ox_89 {a0 a1 a2 : Int} (h0 : -1 * a0 + 5 < a1 + 1) (h1 : a2 = a0 + 1) : -1 * a2 + 5 < a1 := by omega
theorem ox_90 {a0 : Int} (h0 : a0 < 5) : a0 ≤ (4 : Int) := by omega
theorem ox_91 {a0 : Int} (h0 : ((a0 = (0 : Int))) ∨ ((a0 = (1 : Int)))) (h1 : a0 ≠ 0) : a0 = (1 : Int) := by omega
theorem ox_92 {a0 : Int} (h0 : (0 : Int) ≤ a0) (h1 : a0 ≤ (1 : Int)) (h2 : a0 = 0) : a0 = (0 : Int) := by omega
theorem ox_93 {a0 : Int} (h0 : (0 : Int) ≤ a0) : (0 : Int) ≤ a0 + 1 := by omega
theorem ox_94 {a0 a1 a2 a3 : Int} (h0 : (0 : Int) ≤ a0) (h1 : a1 < 5) (h2 : a3 ≤ a1 → a1 < 5 → a2 = -1) (h3 : a2 = a0) : a1 + 1 ≤ a3 := by omega
theorem ox_95 {a0 : Int} (h0 : a0 = 0) : a0 ≤ (5 : Int) := by omega
theorem ox_96 {a0 : Int} (h0 : a0 = 0) : 0 ≤ -1 * a0 + 5 := by omega
theorem ox_97 {a0 a1 : Int} (h0 : a0 ≤ (5 : Int)) (h1 : a1 < a0) : a1 ≤ (4 : Int) := by omega
theorem ox_98 {a0 a1 a2 : Int} (h0 : a0 ≤ (5 : Int)) (h1 : a1 < a0) (h2 : a2 = a1 + 1) : a2 ≤ (5 : Int) := by omega
theorem ox_99 {a0 a1 : Int} (h0 : a0 ≤ (5 : Int)) (h1 : a1 < a0) : a1 < 5 := by omega
theorem ox_100 {a0 a1 : Int} (h0 : a0 ≤ (4 : Int)) (h1 : a1 + 1 ≤ a0) : a1 < 4 := by omega
theorem ox_101 {a0 a1 : Int} (h0 : a0 ≠ (-1)) (h1 : a1 = 0) : ((a0 + 1 ≠ (0 : Int)) ∧ (a1 = (0 : Int))) ∨ ((a0 + 1 = (0 : Int)) ∧ (a1 = (1 : Int))) := by omega
theorem ox_102 {a0 a1 : Int} (h0 : a0 = (-1)) (h1 : a1 = 1) : ((a0 + 1 ≠ (0 : Int)) ∧ (a1 = (0 : Int))) ∨ ((a0 + 1 = (0 : Int)) ∧ (a1 = (1 : Int))) := by omega
theorem ox_103 {a0 : Int} (h0 : (0 : Int) ≤ a0) (h1 : a0 ≤ (4 : Int)) : (0 : Int) ≤ a0 := by omega
theorem ox_104 {a0 : Int} (h0 : (0 : Int) ≤ a0) (h1 : a0 ≤ (4 : Int)) : a0 ≤ (4 : Int) := by omega
theorem ox_105 {a0 a1 : Int} (h0 : ((a0 + 1 ≠ (0 : Int)) ∧ (a1 = (0 : Int))) ∨ ((a0 + 1 = (0 : Int)) ∧ (a1 = (1 : Int)))) (h1 : a1 ≠ 0) : a0 + 1 = (0 : Int) := by omega
theorem ox_106 {a0 a1 : Int} (h0 : ((a0 + 1 ≠ (0 : Int)) ∧ (a1 = (0 : Int))) ∨ ((a0 + 1 = (0 : Int)) ∧ (a1 = (1 : Int)))) (h1 : a1 ≠ 0) : a1 = (1 : Int) := by omega
theorem ox_107 {a0 a1 : Int} (h0 : ((a0 + 1 ≠ (0 : Int)) ∧ (a1 = (0 : Int))) ∨ ((a0 + 1 = (0 : Int)) ∧ (a1 = (1 : Int)))) (h1 : a1 = 0) : a0 + 1 ≠ (0 : Int) := by omega
theorem ox_108 {a0 : Int} (h0 : (0 : Int) ≤ a0) (h1 : a0 ≤ (3 : Int)) : (-2147483648) ≤ a0 * 3 := by omega
theorem ox_109 {a0 : Int} (h0 : (0 : Int) ≤ a0) (h1 : a0 ≤ (3 : Int)) : a0 * 3 ≤ 2147483647 := by omega
theorem ox_110 {a0 a1 : Int} (h0 : a0 = a1 * 3) : a0 = 3 * a1 := by omega
theorem ox_111 {a0 : Int} (h0 : (0 : Int) ≤ a0) (h1 : a0 ≤ (3 : Int)) : 0 ≤ 3 * a0 := by omega
theorem ox_112 {a0 : Int} (h0 : (0 : Int) ≤ a0) (h1 : a0 ≤ (3 : Int)) : 3 * a0 < 12 := by omega
theorem ox_113 {a0 : Int} (h0 : a0 = 1) : ((a0 = (1 : Int))) ∨ ((a0 = (0 : Int))) := by omega
theorem ox_114 {a0 a1 : Int} (h0 : (0 : Int) ≤ a0) (h1 : a0 ≤ (3 : Int)) (h2 : a1 = 3 * a0) : (-2147483648) ≤ a1 + 1 := by omega
theorem ox_115 {a0 a1 : Int} (h0 : (0 : Int) ≤ a0) (h1 : a0 ≤ (3 : Int)) (h2 : a1 = 3 * a0) : a1 + 1 ≤ 2147483647 := by omega
theorem ox_116 {a0 a1 a2 : Int} (h0 : a0 = a1 + 1) (h1 : a1 = 3 * a2) : a0 = 3 * a2 + 1 := by omega
theorem ox_117 {a0 : Int} (h0 : (0 : Int) ≤ a0) (h1 : a0 ≤ (3 : Int)) : 0 ≤ 3 * a0 + 1 := by omega
theorem ox_118 {a0 : Int} (h0 : (0 : Int) ≤ a0) (h1 : a0 ≤ (3 : Int)) : 3 * a0 + 1 < 12 := by omega
theorem ox_119 {a0 a1 : Int} (h0 : (0 : Int) ≤ a0) (h1 : a0 ≤ (3 : Int)) (h2 : a1 = 3 * a0) : (-2147483648) ≤ a1 + 2 := by omega
theorem ox_120 {a0 a1 : Int} (h0 : (0 : Int) ≤ a0) (h1 : a0 ≤ (3 : Int)) (h2 : a1 = 3 * a0) : a1 + 2 ≤ 2147483647 := by omega
theorem ox_121 {a0 a1 a2 : Int} (h0 : a0 = a1 + 2) (h1 : a1 = 3 * a2) : a0 = 3 * a2 + 2 := by omega
theorem ox_122 {a0 : Int} (h0 : (0 : Int) ≤ a0) (h1 : a0 ≤ (3 : Int)) : 0 ≤ 3 * a0 + 2 := by omega
theorem ox_123 {a0 : Int} (h0 : (0 : Int) ≤ a0) (h1 : a0 ≤ (3 : Int)) : 3 * a0 + 2 < 12 := by omega
theorem ox_124 {a0 : Int} (h0 : a0 = 0) : ((a0 = (1 : Int))) ∨ ((a0 = (0 : Int))) := by omega
theorem ox_125 {a0 : Int} (h0 : -1 * a0 + 8 < 0) (h1 : (0 : Int) ≤ a0) (h2 : a0 ≤ (8 : Int)) : False := by omega
theorem ox_126 {a0 a1 : Int} (h0 : (0 : Int) ≤ a0) (h1 : a0 ≤ (8 : Int)) (h2 : -1 * a0 + 8 < a1 + 1) : (-2147483648) ≤ a0 + 2 := by omega
theorem ox_127 {a0 a1 : Int} (h0 : (0 : Int) ≤ a0) (h1 : a0 ≤ (8 : Int)) (h2 : -1 * a0 + 8 < a1 + 1) : a0 + 2 ≤ 2147483647 := by omega
theorem ox_128 {a0 a1 : Int} (h0 : a0 = a1 + 2) : a0 = a1 + 2 := by omega
theorem ox_129 {a0 a1 a2 a3 a4 : Int} (h0 : ((a0 = (3 : Int)) ∧ (a1 ≤ a2 + 3)) ∨ (a0 + a2 = a1)) (h1 : a3 < a0) (h2 : a3 = a4 + 2) : (a4 ≤ (2 : Int)) ∨ (a4 + a2 + 1 ≤ a1) := by omega
theorem ox_130 {a0 : Int} (h0 : a0 ≤ (8 : Int)) : a0 + 1 ≤ 2147483647 := by omega
theorem ox_131 {a0 a1 a2 a3 : Int} (h0 : a0 ≤ (8 : Int)) (h1 : a1 < a0) (h2 : a1 = a2 + 2) (h3 : a3 = a2 + 1) : a3 ≤ (8 : Int) := by omega
theorem ox_132 {a0 a1 a2 : Int} (h0 : -1 * a0 + 8 < a1 + 1) (h1 : a2 = a0 + 1) : -1 * a2 + 8 < a1 := by omega
theorem ox_133 {a0 a1 a2 a3 a4 a5 : Int} (h0 : ((a0 = (3 : Int)) ∧ (a1 ≤ a2 + 3)) ∨ (a0 + a2 = a1)) (h1 : a3 < a0) (h2 : a3 = a4 + 2) (h3 : a5 = a4 + 1) : (a5 ≤ (2 : Int)) ∨ (a5 + a2 + 1 ≤ a1) := by omega
theorem ox_134 {a0 : Int} (h0 : (0 : Int) ≤ a0) : (-2147483648) ≤ a0 + 2 := by omega
theorem ox_135 {a0 : Int} (h0 : a0 ≤ (8 : Int)) : a0 + 2 ≤ 2147483647 := by omega
theorem ox_136 {a0 a1 : Int} (h0 : (0 : Int) ≤ a0) (h1 : a1 = a0 + 2) : (0 : Int) ≤ a1 := by omega
theorem ox_137 {a0 a1 a2 a3 a4 a5 : Int} (h0 : ((a0 = (3 : Int)) ∧ (a1 ≤ a2 + 3)) ∨ (a0 + a2 = a1)) (h1 : a3 < a0) (h2 : a3 = a4 + 2) (h3 : a5 = a4 + 2) : (a5 ≤ (2 : Int)) ∨ (a5 + a2 + 1 ≤ a1) := by omega
theorem ox_138 {a0 : Int} (h0 : (0 : Int) ≤ a0) (h1 : a0 ≤ (8 : Int)) : (0 : Int) ≤ a0 := by omega
theorem ox_139 {a0 : Int} (h0 : (0 : Int) ≤ a0) (h1 : a0 ≤ (8 : Int)) : a0 ≤ (8 : Int) := by omega
theorem ox_140 {a0 : Int} (h0 : (0 : Int) ≤ a0) (h1 : a0 ≤ (8 : Int)) : 0 ≤ -1 * a0 + 8 := by omega
theorem ox_141 {a0 : Int} (h0 : a0 ≠ 0) : a0 ≠ 0 := by omega
theorem ox_142 {a0 : Int} (h0 : -1 * a0 + 300 < 0) (h1 : (0 : Int) ≤ a0) (h2 : a0 ≤ (300 : Int)) : False := by omega
theorem ox_143 : 0 ≤ (0 : Int) := by omega
theorem ox_144 : (0 : Int) < 30 := by omega
theorem ox_145 {a0 a1 : Int} (h0 : a0 ≤ (300 : Int)) (h1 : a1 < a0) : a1 < 300 := by omega
theorem ox_146 {a0 : Int} (h0 : a0 ≤ (300 : Int)) : a0 + 1 ≤ 2147483647 := by omega
theorem ox_147 {a0 : Int} (h0 : a0 ≤ (30 : Int)) : a0 ≤ (30 : Int) := by omega
theorem ox_148 {a0 a1 a2 : Int} (h0 : a0 ≤ (300 : Int)) (h1 : a1 < a0) (h2 : a2 = a1 + 1) : a2 ≤ (300 : Int) := by omega
theorem ox_149 {a0 a1 a2 : Int} (h0 : -1 * a0 + 300 < a1 + 1) (h1 : a2 = a0 + 1) : -1 * a2 + 300 < a1 := by omega
theorem ox_150 {a0 : Int} (h0 : (0 : Int) ≤ a0) : (-2147483648) ≤ a0 + (-1) := by omega
theorem ox_151 {a0 : Int} (h0 : a0 ≤ (30 : Int)) : a0 + (-1) ≤ 2147483647 := by omega
theorem ox_152 {a0 a1 : Int} (h0 : a0 = a1 + (-1)) : a0 = a1 + (-1) := by omega
theorem ox_153 {a0 a1 : Int} (h0 : (0 : Int) ≤ a0) (h1 : a1 = a0 + (-1)) : (-2147483648) ≤ a1 - 1 := by omega
theorem ox_154 {a0 a1 : Int} (h0 : a0 ≤ (30 : Int)) (h1 : a1 = a0 + (-1)) : a1 - 1 ≤ 2147483647 := by omega
theorem ox_155 {a0 a1 a2 : Int} (h0 : a0 = a1 - 1) (h1 : a1 = a2 + (-1)) : a0 = a2 + (-2) := by omega
theorem ox_156 {a0 : Int} (h0 : 20000 ≤ a0) (h1 : (-2147483648) ≤ a0 ∧ a0 ≤ 2147483647) : (-2147483648) ≤ a0 - 20000 := by omega
theorem ox_157 {a0 : Int} (h0 : 20000 ≤ a0) (h1 : (-2147483648) ≤ a0 ∧ a0 ≤ 2147483647) : a0 - 20000 ≤ 2147483647 := by omega
theorem ox_158 {a0 a1 : Int} (h0 : a0 = a1 - 20000) : a0 = a1 + (-20000) := by omega
theorem ox_159 {a0 : Int} (h0 : 1 < a0) : 0 ≤ a0 + (-2) := by omega
theorem ox_160 {a0 : Int} (h0 : a0 ≤ (30 : Int)) : a0 + (-2) < 30 := by omega
theorem ox_161 {a0 : Int} (h0 : 1 < a0) : 0 ≤ a0 + (-1) := by omega
theorem ox_162 {a0 : Int} (h0 : a0 ≤ (30 : Int)) : a0 + (-1) < 30 := by omega
theorem ox_163 {a0 a1 : Int} (h0 : 1 < a0) (h1 : a1 = a0 + (-1)) : (0 : Int) ≤ a1 := by omega
theorem ox_164 {a0 a1 : Int} (h0 : a0 ≤ (30 : Int)) (h1 : a1 = a0 + (-1)) : a1 ≤ (30 : Int) := by omega
theorem ox_165 {a0 : Int} (h0 : (0 : Int) ≤ a0) : (-2147483648) ≤ a0 - 1 := by omega
theorem ox_166 {a0 : Int} (h0 : a0 ≤ (30 : Int)) : a0 - 1 ≤ 2147483647 := by omega
theorem ox_167 {a0 a1 : Int} (h0 : a0 = a1 - 1) : a0 = a1 + (-1) := by omega
theorem ox_168 {a0 : Int} (h0 : 0 < a0) : 0 ≤ a0 + (-1) := by omega
theorem ox_169 {a0 : Int} (h0 : a0 < 30) : a0 < 30 := by omega
theorem ox_170 {a0 : Int} (h0 : a0 ≤ (30 : Int)) : a0 + 1 ≤ 2147483647 := by omega
theorem ox_171 {a0 a1 : Int} (h0 : a0 < 30) (h1 : a1 = a0 + 1) : a1 ≤ (30 : Int) := by omega
theorem ox_172 {a0 : Int} (h0 : 0 ≤ a0) (h1 : a0 < 7) : 0 ≤ a0 := by omega
theorem ox_173 {a0 : Int} (h0 : 0 ≤ a0) (h1 : a0 < 7) : a0 < 7 := by omega
theorem ox_174 {a0 : Int} (h0 : a0 = 0) : a0 ≤ (30 : Int) := by omega
theorem ox_175 {a0 : Int} (h0 : a0 = 0) : a0 ≤ (300 : Int) := by omega
theorem ox_176 {a0 : Int} (h0 : a0 = 0) : 0 ≤ -1 * a0 + 300 := by omega
theorem ox_177 : (0 : Int) < 7 := by omega
theorem ox_178 : 0 ≤ (1 : Int) := by omega
theorem ox_179 : (1 : Int) < 7 := by omega
theorem ox_180 : 0 ≤ (2 : Int) := by omega
theorem ox_181 : (2 : Int) < 7 := by omega
theorem ox_182 : 0 ≤ (3 : Int) := by omega
theorem ox_183 : (3 : Int) < 7 := by omega
theorem ox_184 : 0 ≤ (4 : Int) := by omega
theorem ox_185 : (4 : Int) < 7 := by omega
theorem ox_186 : 0 ≤ (5 : Int) := by omega
theorem ox_187 : (5 : Int) < 7 := by omega
theorem ox_188 : 0 ≤ (6 : Int) := by omega
theorem ox_189 : (6 : Int) < 7 := by omega
theorem ox_190 {a0 : Int} (h0 : 0 ≤ a0 ∧ a0 ≤ 1) (h1 : a0 = 0) : ((a0 = (0 : Int))) ∨ ((a0 ≠ (0 : Int)) ∧ ((1 : Int) ≤ a0)) := by omega
theorem ox_191 {a0 : Int} (h0 : 0 ≤ a0 ∧ a0 ≤ 1) (h1 : a0 ≠ 0) : (1 : Int) ≤ a0 := by omega
theorem ox_192 {a0 : Int} (h0 : 0 ≤ a0 ∧ a0 ≤ 1) (h1 : (1 : Int) ≤ a0) : ((a0 = (0 : Int))) ∨ ((a0 ≠ (0 : Int)) ∧ ((1 : Int) ≤ a0)) := by omega
theorem ox_193 {a0 a1 : Int} (h0 : (0 : Int) ≤ a0) (h1 : a0 + 1 ≤ a1) : (-2147483648) ≤ a0 * 3 := by omega
theorem ox_194 {a0 a1 : Int} (h0 : a0 ≤ (4 : Int)) (h1 : a1 + 1 ≤ a0) : a1 * 3 ≤ 2147483647 := by omega
theorem ox_195 {a0 a1 : Int} (h0 : (0 : Int) ≤ a0) (h1 : a0 + 1 ≤ a1) : 0 ≤ 3 * a0 := by omega
theorem ox_196 {a0 a1 : Int} (h0 : a0 ≤ (4 : Int)) (h1 : a1 + 1 ≤ a0) : 3 * a1 < 12 := by omega
theorem ox_197 {a0 a1 a2 : Int} (h0 : (0 : Int) ≤ a0) (h1 : a0 + 1 ≤ a1) (h2 : a2 = 3 * a0) : (-2147483648) ≤ a2 + 1 := by omega
theorem ox_198 {a0 a1 a2 : Int} (h0 : a0 ≤ (4 : Int)) (h1 : a1 + 1 ≤ a0) (h2 : a2 = 3 * a1) : a2 + 1 ≤ 2147483647 := by omega
theorem ox_199 {a0 a1 : Int} (h0 : (0 : Int) ≤ a0) (h1 : a0 + 1 ≤ a1) : 0 ≤ 3 * a0 + 1 := by omega
theorem ox_200 {a0 a1 : Int} (h0 : a0 ≤ (4 : Int)) (h1 : a1 + 1 ≤ a0) : 3 * a1 + 1 < 12 := by omega
theorem ox_201 {a0 a1 a2 : Int} (h0 : (0 : Int) ≤ a0) (h1 : a0 + 1 ≤ a1) (h2 : a2 = 3 * a0) : (-2147483648) ≤ a2 + 2 := by omega
theorem ox_202 {a0 a1 a2 : Int} (h0 : a0 ≤ (4 : Int)) (h1 : a1 + 1 ≤ a0) (h2 : a2 = 3 * a1) : a2 + 2 ≤ 2147483647 := by omega
theorem ox_203 {a0 a1 : Int} (h0 : (0 : Int) ≤ a0) (h1 : a0 + 1 ≤ a1) : 0 ≤ 3 * a0 + 2 := by omega
theorem ox_204 {a0 a1 : Int} (h0 : a0 ≤ (4 : Int)) (h1 : a1 + 1 ≤ a0) : 3 * a1 + 2 < 12 := by omega
theorem ox_205 {a0 : Int} (h0 : a0 = 0) : a0 ≤ (8 : Int) := by omega
theorem ox_206 {a0 : Int} (h0 : (0 : Int) ≤ a0) (h1 : a0 ≤ (1 : Int)) : 0 ≤ a0 ∧ a0 ≤ 1 := by omega
theorem ox_207 {a0 a1 : Int} (h0 : a0 ≤ (4 : Int)) (h1 : a1 + 1 ≤ a0) : a1 ≤ (3 : Int) := by omega
theorem ox_208 {a0 a1 a2 : Int} (h0 : a0 ≤ (8 : Int)) (h1 : a1 < a0) (h2 : a2 = a1 + 1) : a2 ≤ (8 : Int) := by omega
theorem ox_209 {a0 : Int} (h0 : ((a0 = (1 : Int))) ∨ ((a0 = (0 : Int)))) (h1 : a0 ≠ 0) : a0 = (1 : Int) := by omega
theorem ox_210 {a0 : Int} (h0 : a0 = 0) : 0 ≤ -1 * a0 + 8 := by omega
theorem ox_211 {a0 a1 : Int} (h0 : a0 ≤ (5 : Int)) (h1 : a1 + 1 ≤ a0) : a1 ≤ (4 : Int) := by omega
theorem ox_212 {a0 a1 a2 : Int} (h0 : (0 : Int) ≤ a0) (h1 : a0 + 1 ≤ a1) (h2 : a2 = a0) : 0 ≤ a0 := by omega
theorem ox_213 {a0 a1 a2 : Int} (h0 : (0 : Int) ≤ a0) (h1 : a0 + 1 ≤ a1) (h2 : a2 = a0) : (0 : Int) ≤ a0 := by omega
theorem ox_214 {a0 : Int} (h0 : 0 ≤ a0 ∧ a0 ≤ 99) : (-2147483648) ≤ a0 + 1 := by omega
theorem ox_215 {a0 : Int} (h0 : 0 ≤ a0 ∧ a0 ≤ 99) : a0 + 1 ≤ 2147483647 := by omega
theorem ox_216 {a0 a1 a2 : Int} (h0 : 0 ≤ a0 ∧ a0 ≤ 99) (h1 : (99 ≤ a2 ∧ a1 = 99) ∨ (a2 ≤ 99 ∧ a1 = a2)) (h2 : a2 = a0 + 1) : 0 ≤ a1 := by omega
theorem ox_217 {a0 a1 a2 : Int} (h0 : (99 ≤ a1 ∧ a0 = 99) ∨ (a1 ≤ 99 ∧ a0 = a1)) (h1 : a1 = a2 + 1) : a0 ≤ 99 := by omega
theorem ox_218 {a0 : Int} (h0 : -1 * a0 + 4 < 0) (h1 : (0 : Int) ≤ a0) (h2 : a0 ≤ (4 : Int)) : False := by omega
theorem ox_219 {a0 : Int} (h0 : a0 ≤ (4 : Int)) : a0 + 1 ≤ 2147483647 := by omega
theorem ox_220 {a0 a1 a2 : Int} (h0 : a0 ≤ (4 : Int)) (h1 : a1 < a0) (h2 : a2 = a1 + 1) : a2 ≤ (4 : Int) := by omega
theorem ox_221 {a0 a1 a2 : Int} (h0 : -1 * a0 + 4 < a1 + 1) (h1 : a2 = a0 + 1) : -1 * a2 + 4 < a1 := by omega
theorem ox_222 {a0 : Int} (h0 : (0 : Int) ≤ a0 + 1) (h1 : a0 ≠ (-1)) : (0 : Int) ≤ a0 := by omega
theorem ox_223 {a0 a1 : Int} (h0 : a1 < a0) : a1 + 1 ≤ a0 := by omega
theorem ox_224 {a0 : Int} (h0 : a0 = 0) : a0 ≤ (4 : Int) := by omega
theorem ox_225 {a0 : Int} (h0 : a0 = 0) : 0 ≤ -1 * a0 + 4 := by omega
theorem ox_226 {a0 : Int} (h0 : (0 : Int) ≤ a0) (h1 : a0 ≤ (40 : Int)) : (-2147483648) ≤ a0 * 26 := by omega
theorem ox_227 {a0 : Int} (h0 : (0 : Int) ≤ a0) (h1 : a0 ≤ (40 : Int)) : a0 * 26 ≤ 2147483647 := by omega
theorem ox_228 {a0 a1 : Int} (h0 : a0 = a1 * 26) : a0 = 26 * a1 := by omega
theorem ox_229 {a0 a1 : Int} (h0 : a0 < 0) (h1 : (0 : Int) ≤ a1) (h2 : a1 ≤ (40 : Int)) (h3 : a0 = 26 * a1) : False := by omega
theorem ox_230 {a0 a1 : Int} (h0 : (0 : Int) ≤ a0) (h1 : a0 ≤ (40 : Int)) (h2 : 0 ≤ a1) (h3 : a1 = 26 * a0) : (-2147483648) ≤ a1 + 26 := by omega
theorem ox_231 {a0 a1 : Int} (h0 : (0 : Int) ≤ a0) (h1 : a0 ≤ (40 : Int)) (h2 : 0 ≤ a1) (h3 : a1 = 26 * a0) : a1 + 26 ≤ 2147483647 := by omega
theorem ox_232 {a0 a1 a2 : Int} (h0 : a0 = a1 + 26) (h1 : a1 = 26 * a2) : a0 = 26 * a2 + 26 := by omega
theorem ox_233 {a0 a1 a2 : Int} (h0 : 1066 < a0) (h1 : (0 : Int) ≤ a1) (h2 : a1 ≤ (40 : Int)) (h3 : 0 ≤ a2) (h4 : a2 = 26 * a1) (h5 : a0 = 26 * a1 + 26) : False := by omega
theorem ox_234 {a0 : Int} (h0 : (0 : Int) ≤ a0) : 0 ≤ 26 * a0 := by omega
theorem ox_235 : (0 : Int) + (5 : Int) ≤ 5 := by omega
theorem ox_236 {a0 : Int} (h0 : a0 ≤ (40 : Int)) : 26 * a0 + (5 : Int) ≤ 1066 := by omega
theorem ox_237 {a0 a1 a2 : Int} (h0 : (0 : Int) ≤ a0) (h1 : a0 ≤ (40 : Int)) (h2 : 0 ≤ a1) (h3 : a2 ≤ 1066) (h4 : a2 = 26 * a0 + 26) (h5 : a1 = 26 * a0) : (26 * a0) % 26 = 0 := by omega
theorem ox_238 {a0 a1 : Int} (h0 : (0 : Int) ≤ a0) (h1 : a1 = 26 * a0) : (-2147483648) ≤ a1 + 5 := by omega
theorem ox_239 {a0 a1 : Int} (h0 : a0 ≤ (40 : Int)) (h1 : a1 = 26 * a0) : a1 + 5 ≤ 2147483647 := by omega
theorem ox_240 {a0 a1 a2 : Int} (h0 : a0 = a1 + 5) (h1 : a1 = 26 * a2) : a0 = 26 * a2 + 5 := by omega
theorem ox_241 {a0 : Int} (h0 : (0 : Int) ≤ a0) : 0 ≤ 26 * a0 + 5 := by omega
theorem ox_242 {a0 : Int} (h0 : a0 ≤ (40 : Int)) : 26 * a0 + 5 + (5 : Int) ≤ 1066 := by omega
theorem ox_243 {a0 a1 a2 : Int} (h0 : (0 : Int) ≤ a0) (h1 : a0 ≤ (40 : Int)) (h2 : 0 ≤ a1) (h3 : a2 ≤ 1066) (h4 : a2 = 26 * a0 + 26) (h5 : a1 = 26 * a0) : (26 * a0 + 5) % 26 = 5 := by omega
theorem ox_244 {a0 a1 : Int} (h0 : (0 : Int) ≤ a0) (h1 : a1 = 26 * a0) : (-2147483648) ≤ a1 + 10 := by omega
theorem ox_245 {a0 a1 : Int} (h0 : a0 ≤ (40 : Int)) (h1 : a1 = 26 * a0) : a1 + 10 ≤ 2147483647 := by omega
theorem ox_246 {a0 a1 a2 : Int} (h0 : a0 = a1 + 10) (h1 : a1 = 26 * a2) : a0 = 26 * a2 + 10 := by omega
theorem ox_247 {a0 : Int} (h0 : (0 : Int) ≤ a0) : 0 ≤ 26 * a0 + 10 := by omega
theorem ox_248 {a0 : Int} (h0 : a0 ≤ (40 : Int)) : 26 * a0 + 10 + (5 : Int) ≤ 1066 := by omega
theorem ox_249 {a0 a1 : Int} (h0 : (0 : Int) ≤ a0) (h1 : a1 = 26 * a0) : (-2147483648) ≤ a1 + 15 := by omega
theorem ox_250 {a0 a1 : Int} (h0 : a0 ≤ (40 : Int)) (h1 : a1 = 26 * a0) : a1 + 15 ≤ 2147483647 := by omega
theorem ox_251 {a0 a1 a2 : Int} (h0 : a0 = a1 + 15) (h1 : a1 = 26 * a2) : a0 = 26 * a2 + 15 := by omega
theorem ox_252 {a0 : Int} (h0 : (0 : Int) ≤ a0) : 0 ≤ 26 * a0 + 15 := by omega
theorem ox_253 {a0 : Int} (h0 : a0 ≤ (40 : Int)) : 26 * a0 + 15 + (5 : Int) ≤ 1066 := by omega
theorem ox_254 {a0 a1 a2 : Int} (h0 : (0 : Int) ≤ a0) (h1 : a0 ≤ (40 : Int)) (h2 : 0 ≤ a1) (h3 : a2 ≤ 1066) (h4 : a2 = 26 * a0 + 26) (h5 : a1 = 26 * a0) : (26 * a0 + 15) % 26 = 15 := by omega
theorem ox_255 {a0 a1 : Int} (h0 : (0 : Int) ≤ a0) (h1 : a1 = 26 * a0) : (-2147483648) ≤ a1 + 20 := by omega
theorem ox_256 {a0 a1 : Int} (h0 : a0 ≤ (40 : Int)) (h1 : a1 = 26 * a0) : a1 + 20 ≤ 2147483647 := by omega
theorem ox_257 {a0 a1 a2 : Int} (h0 : a0 = a1 + 20) (h1 : a1 = 26 * a2) : a0 = 26 * a2 + 20 := by omega
theorem ox_258 {a0 : Int} (h0 : (0 : Int) ≤ a0) : 0 ≤ 26 * a0 + 20 := by omega
theorem ox_259 : (0 : Int) + (4 : Int) ≤ 4 := by omega
theorem ox_260 {a0 : Int} (h0 : a0 ≤ (40 : Int)) : 26 * a0 + 20 + (4 : Int) ≤ 1066 := by omega
theorem ox_261 {a0 a1 a2 : Int} (h0 : (0 : Int) ≤ a0) (h1 : a0 ≤ (40 : Int)) (h2 : 0 ≤ a1) (h3 : a2 ≤ 1066) (h4 : a2 = 26 * a0 + 26) (h5 : a1 = 26 * a0) : (26 * a0 + 20) % 26 = 20 := by omega
theorem ox_262 {a0 a1 : Int} (h0 : (0 : Int) ≤ a0) (h1 : a1 = 26 * a0) : (-2147483648) ≤ a1 + 26 := by omega
theorem ox_263 {a0 a1 : Int} (h0 : a0 ≤ (40 : Int)) (h1 : a1 = 26 * a0) : a1 + 26 ≤ 2147483647 := by omega
theorem ox_264 {a0 a1 : Int} (h0 : (0 : Int) ≤ a0) (h1 : a1 = 26 * a0 + 26) : (-2147483648) ≤ a1 - 2 := by omega
theorem ox_265 {a0 a1 : Int} (h0 : a0 ≤ (40 : Int)) (h1 : a1 = 26 * a0 + 26) : a1 - 2 ≤ 2147483647 := by omega
theorem ox_266 {a0 a1 a2 : Int} (h0 : a0 = a1 - 2) (h1 : a1 = 26 * a2 + 26) : a0 = 26 * a2 + 24 := by omega
theorem ox_267 {a0 : Int} (h0 : (0 : Int) ≤ a0) : 0 ≤ 26 * a0 + 24 := by omega
theorem ox_268 {a0 : Int} (h0 : a0 ≤ (40 : Int)) : 26 * a0 + 24 < 1066 := by omega
theorem ox_269 {a0 a1 a2 : Int} (h0 : (0 : Int) ≤ a0) (h1 : a0 ≤ (40 : Int)) (h2 : 0 ≤ a1) (h3 : a2 ≤ 1066) (h4 : a2 = 26 * a0 + 26) (h5 : a1 = 26 * a0) : (26 * a0 + 24) % 26 < 10 ∨ 15 ≤ (26 * a0 + 24) % 26 := by omega
theorem ox_270 {a0 a1 : Int} (h0 : (0 : Int) ≤ a0) (h1 : a1 = 26 * a0 + 26) : (-2147483648) ≤ a1 - 1 := by omega
theorem ox_271 {a0 a1 : Int} (h0 : a0 ≤ (40 : Int)) (h1 : a1 = 26 * a0 + 26) : a1 - 1 ≤ 2147483647 := by omega
theorem ox_272 {a0 a1 a2 : Int} (h0 : a0 = a1 - 1) (h1 : a1 = 26 * a2 + 26) : a0 = 26 * a2 + 25 := by omega
theorem ox_273 {a0 : Int} (h0 : (0 : Int) ≤ a0) : 0 ≤ 26 * a0 + 25 := by omega
theorem ox_274 {a0 : Int} (h0 : a0 ≤ (40 : Int)) : 26 * a0 + 25 < 1066 := by omega
theorem ox_275 {a0 a1 a2 : Int} (h0 : (0 : Int) ≤ a0) (h1 : a0 ≤ (40 : Int)) (h2 : 0 ≤ a1) (h3 : a2 ≤ 1066) (h4 : a2 = 26 * a0 + 26) (h5 : a1 = 26 * a0) : (26 * a0 + 25) % 26 < 10 ∨ 15 ≤ (26 * a0 + 25) % 26 := by omega
theorem ox_276 {a0 : Int} (h0 : (0 : Int) ≤ a0) (h1 : a0 ≤ (5 : Int)) : 0 ≤ a0 := by omega
theorem ox_277 {a0 : Int} : 26 * a0 + 5 ≤ 26 * a0 + 25 ∧ 26 * a0 + 25 < 26 * a0 + 26 := by omega
theorem ox_278 {a0 : Int} : 26 * a0 + 5 ≤ 26 * a0 + 24 ∧ 26 * a0 + 24 < 26 * a0 + 26 := by omega
theorem ox_279 {a0 : Int} : 26 * a0 + 5 ≤ 26 * a0 + 20 ∧ 26 * a0 + 20 + (4 : Int) ≤ 26 * a0 + 26 ∧ 0 ≤ (4 : Int) := by omega
theorem ox_280 {a0 : Int} : 26 * a0 + 5 ≤ 26 * a0 + 15 ∧ 26 * a0 + 15 + (5 : Int) ≤ 26 * a0 + 26 ∧ 0 ≤ (5 : Int) := by omega
theorem ox_281 {a0 : Int} : 26 * a0 + 5 ≤ 26 * a0 + 10 ∧ 26 * a0 + 10 + (5 : Int) ≤ 26 * a0 + 26 ∧ 0 ≤ (5 : Int) := by omega
theorem ox_282 {a0 : Int} : 26 * a0 + 5 ≤ 26 * a0 + 5 ∧ 26 * a0 + 5 + (5 : Int) ≤ 26 * a0 + 26 ∧ 0 ≤ (5 : Int) := by omega
theorem ox_283 {a0 : Int} : 26 * a0 = 26 * a0 := by omega
theorem ox_284 : 0 ≤ (26 : Int) := by omega
theorem ox_285 : 0 ≤ (1040 : Int) := by omega
theorem ox_286 : (26 : Int) + (1040 : Int) ≤ 1066 := by omega
theorem ox_287 : (0 : Int) + (1040 : Int) ≤ 1066 := by omega
theorem ox_288 {a0 a1 : Int} (h0 : (0 : Int) ≤ a0) (h1 : a0 + a1 ≤ (40 : Int)) (h2 : 40 ≤ a0) : (0 : Int) ≤ a0 := by omega
theorem ox_289 {a0 a1 : Int} (h0 : (0 : Int) ≤ a0) (h1 : a1 + a0 ≤ (40 : Int)) : a1 ≤ (40 : Int) := by omega
theorem ox_290 {a0 a1 a2 : Int} (h0 : (0 : Int) ≤ a0) (h1 : a1 + a0 ≤ (40 : Int)) (h2 : a2 = 0) : a1 + a2 ≤ (40 : Int) := by omega
theorem ox_291 {a0 : Int} (h0 : a0 = 0) : a0 = 0 := by omega
theorem ox_292 {a0 a1 : Int} (h0 : (0 : Int) ≤ a0) (h1 : a1 + a0 ≤ (40 : Int)) : 0 ≤ a0 := by omega
theorem ox_293 {a0 : Int} : a0 = a0 := by omega
theorem ox_294 {a0 a1 : Int} (h0 : (0 : Int) ≤ a0) (h1 : a1 + a0 ≤ (40 : Int)) (h2 : 40 ≤ a1) : a1 = 40 := by omega
theorem ox_295 {a0 a1 : Int} (h0 : (0 : Int) ≤ a0) (h1 : a0 + a1 ≤ (40 : Int)) (h2 : a0 < 40) : (-2147483648) ≤ a0 + 1 := by omega
theorem ox_296 {a0 a1 : Int} (h0 : (0 : Int) ≤ a0) (h1 : a0 + a1 ≤ (40 : Int)) (h2 : a0 < 40) : a0 + 1 ≤ 2147483647 := by omega
theorem ox_297 {a0 a1 a2 : Int} (h0 : (0 : Int) ≤ a0) (h1 : a0 + a1 ≤ (40 : Int)) (h2 : a0 < 40) (h3 : a2 = a0 + 1) : (0 : Int) ≤ a2 := by omega
theorem ox_298 {a0 a1 a2 : Int} (h0 : (0 : Int) ≤ a0) (h1 : a0 + a1 ≤ (40 : Int)) (h2 : a0 < 40) (h3 : a2 = a0 + 1) : a2 ≤ (40 : Int) := by omega
theorem ox_299 {a0 a1 a2 a3 : Int} (h0 : (0 : Int) ≤ a0) (h1 : a0 + a1 ≤ (40 : Int)) (h2 : a0 < 40) (h3 : a2 = 0) (h4 : a3 = a0 + 1) : a3 + a2 ≤ (40 : Int) := by omega
theorem ox_300 {a0 a1 : Int} (h0 : a0 + 1 ≤ a1) : a0 < a1 := by omega
theorem ox_301 {a0 a1 a2 : Int} (h0 : (0 : Int) ≤ a0) (h1 : a0 ≤ (40 : Int)) (h2 : 0 ≤ a1) (h3 : a2 ≤ 1066) (h4 : a2 = 26 * a0 + 26) (h5 : a1 = 26 * a0) : (26 * a0 + 10) % 26 = 10 := by omega
theorem ox_302 {a0 a1 : Int} (h0 : (0 : Int) ≤ a0) (h1 : a0 + a1 ≤ (40 : Int)) (h2 : a0 ≠ 0) : (1 : Int) ≤ a0 := by omega
theorem ox_303 {a0 a1 : Int} (h0 : (0 : Int) ≤ a0) (h1 : a0 + a1 ≤ (40 : Int)) (h2 : (1 : Int) ≤ a0) : (-2147483648) ≤ a0 - 1 := by omega
theorem ox_304 {a0 a1 : Int} (h0 : (0 : Int) ≤ a0) (h1 : a1 + a0 ≤ (40 : Int)) : a1 - 1 ≤ 2147483647 := by omega
theorem ox_305 {a0 a1 : Int} (h0 : (0 : Int) ≤ a0) (h1 : a1 + a0 ≤ (40 : Int)) : (-2147483648) ≤ a0 + 1 := by omega
theorem ox_306 {a0 a1 : Int} (h0 : (0 : Int) ≤ a0) (h1 : a0 + a1 ≤ (40 : Int)) : a1 + 1 ≤ 2147483647 := by omega
theorem ox_307 {a0 a1 a2 : Int} (h0 : (0 : Int) ≤ a0) (h1 : a0 + a1 ≤ (40 : Int)) (h2 : (1 : Int) ≤ a0) (h3 : a2 = a0 + (-1)) : (0 : Int) ≤ a2 := by omega
theorem ox_308 {a0 a1 a2 : Int} (h0 : (0 : Int) ≤ a0) (h1 : a1 + a0 ≤ (40 : Int)) (h2 : a2 = a1 + (-1)) : a2 ≤ (40 : Int) := by omega
theorem ox_309 {a0 a1 a2 : Int} (h0 : (0 : Int) ≤ a0) (h1 : a0 + a1 ≤ (40 : Int)) (h2 : (1 : Int) ≤ a0) (h3 : a2 = a0 + (-1)) : 0 ≤ a2 := by omega
theorem ox_310 {a0 a1 a2 : Int} (h0 : (0 : Int) ≤ a0) (h1 : a1 + a0 ≤ (40 : Int)) (h2 : a2 = a1 + (-1)) : a2 ≤ a1 + a0 := by omega
theorem ox_311 {a0 a1 a2 : Int} (h0 : (0 : Int) ≤ a0) (h1 : a1 + a0 ≤ (40 : Int)) (h2 : a2 = a0 + 1) : (0 : Int) ≤ a2 := by omega
theorem ox_312 {a0 a1 a2 a3 : Int} (h0 : a0 + a1 ≤ (40 : Int)) (h1 : a2 = a1 + 1) (h2 : a3 = a0 + (-1)) : a3 + a2 ≤ (40 : Int) := by omega
theorem ox_313 {a0 a1 a2 : Int} (h0 : (0 : Int) ≤ a0) (h1 : a0 + a1 ≤ (40 : Int)) (h2 : (1 : Int) ≤ a0) (h3 : a2 = 1) : ((a0 ≠ (0 : Int)) ∧ ((1 : Int) ≤ a0) ∧ (a2 = (1 : Int))) ∨ ((a0 = (0 : Int)) ∧ (a2 = (0 : Int))) := by omega
theorem ox_314 {a0 a1 a2 a3 : Int} (h0 : a0 = a1 + 1) (h1 : a2 = a3 + (-1)) : a2 + a0 = a3 + a1 := by omega
theorem ox_315 {a0 a1 a2 : Int} (h0 : (0 : Int) ≤ a0) (h1 : a0 + a1 ≤ (40 : Int)) (h2 : a0 = 0) (h3 : a2 = 0) : ((a0 ≠ (0 : Int)) ∧ ((1 : Int) ≤ a0) ∧ (a2 = (1 : Int))) ∨ ((a0 = (0 : Int)) ∧ (a2 = (0 : Int))) := by omega
theorem ox_316 {a0 : Int} (h0 : (0 : Int) ≤ a0) (h1 : a0 ≤ (1 : Int)) : 0 ≤ a0 := by omega
theorem ox_317 {a0 : Int} (h0 : (0 : Int) ≤ a0) (h1 : a0 ≤ (1 : Int)) : a0 ≤ 1 := by omega
theorem ox_318 {a0 a1 : Int} (h0 : (0 : Int) ≤ a0) (h1 : a1 + a0 ≤ (40 : Int)) (h2 : a0 ≠ 0) : (1 : Int) ≤ a0 := by omega
theorem ox_319 {a0 a1 : Int} (h0 : (0 : Int) ≤ a0) (h1 : a0 + a1 ≤ (40 : Int)) : (-2147483648) ≤ a0 + 1 := by omega
theorem ox_320 {a0 a1 : Int} (h0 : (0 : Int) ≤ a0) (h1 : a1 + a0 ≤ (40 : Int)) : a1 + 1 ≤ 2147483647 := by omega
theorem ox_321 {a0 a1 : Int} (h0 : (0 : Int) ≤ a0) (h1 : a1 + a0 ≤ (40 : Int)) (h2 : (1 : Int) ≤ a0) : (-2147483648) ≤ a0 - 1 := by omega
theorem ox_322 {a0 a1 : Int} (h0 : (0 : Int) ≤ a0) (h1 : a0 + a1 ≤ (40 : Int)) : a1 - 1 ≤ 2147483647 := by omega
theorem ox_323 {a0 a1 a2 : Int} (h0 : (0 : Int) ≤ a0) (h1 : a0 + a1 ≤ (40 : Int)) (h2 : a2 = a0 + 1) : (0 : Int) ≤ a2 := by omega
theorem ox_324 {a0 a1 a2 : Int} (h0 : a0 + a1 ≤ (40 : Int)) (h1 : (1 : Int) ≤ a1) (h2 : a2 = a0 + 1) : a2 ≤ (40 : Int) := by omega
theorem ox_325 {a0 a1 a2 : Int} (h0 : (0 : Int) ≤ a0) (h1 : a0 + a1 ≤ (40 : Int)) (h2 : a2 = a0 + 1) : 0 ≤ a2 := by omega
theorem ox_326 {a0 a1 a2 : Int} (h0 : (0 : Int) ≤ a0) (h1 : a1 + a0 ≤ (40 : Int)) (h2 : (1 : Int) ≤ a0) (h3 : a2 = a1 + 1) : a2 ≤ a1 + a0 := by omega
theorem ox_327 {a0 a1 a2 : Int} (h0 : (0 : Int) ≤ a0) (h1 : a1 + a0 ≤ (40 : Int)) (h2 : (1 : Int) ≤ a0) (h3 : a2 = a0 + (-1)) : (0 : Int) ≤ a2 := by omega
theorem ox_328 {a0 a1 a2 a3 : Int} (h0 : a0 + a1 ≤ (40 : Int)) (h1 : a2 = a1 + (-1)) (h2 : a3 = a0 + 1) : a3 + a2 ≤ (40 : Int) := by omega
theorem ox_329 {a0 a1 a2 : Int} (h0 : (0 : Int) ≤ a0) (h1 : a1 + a0 ≤ (40 : Int)) (h2 : (1 : Int) ≤ a0) (h3 : a2 = 1) : ((a0 ≠ (0 : Int)) ∧ ((1 : Int) ≤ a0) ∧ (a2 = (1 : Int))) ∨ ((a0 = (0 : Int)) ∧ (a2 = (0 : Int))) := by omega
theorem ox_330 {a0 a1 a2 a3 : Int} (h0 : a0 = a1 + (-1)) (h1 : a2 = a3 + 1) : a2 + a0 = a3 + a1 := by omega
theorem ox_331 {a0 a1 a2 : Int} (h0 : (0 : Int) ≤ a0) (h1 : a1 + a0 ≤ (40 : Int)) (h2 : a0 = 0) (h3 : a2 = 0) : ((a0 ≠ (0 : Int)) ∧ ((1 : Int) ≤ a0) ∧ (a2 = (1 : Int))) ∨ ((a0 = (0 : Int)) ∧ (a2 = (0 : Int))) := by omega
theorem ox_332 {a0 a1 : Int} (h0 : a0 < 0) (h1 : a1 = 0) : ((a0 + 1 ≤ (0 : Int)) ∧ (a1 = (0 : Int))) ∨ (((0 : Int) ≤ a0) ∧ ((61 : Int) ≤ a0) ∧ (a1 = (0 : Int))) ∨ (((0 : Int) ≤ a0) ∧ (a0 ≤ (60 : Int)) ∧ (a1 = (1 : Int))) := by omega
theorem ox_333 {a0 a1 : Int} (h0 : 0 ≤ a0) (h1 : 60 < a0) (h2 : a1 = 0) : ((a0 + 1 ≤ (0 : Int)) ∧ (a1 = (0 : Int))) ∨ (((0 : Int) ≤ a0) ∧ ((61 : Int) ≤ a0) ∧ (a1 = (0 : Int))) ∨ (((0 : Int) ≤ a0) ∧ (a0 ≤ (60 : Int)) ∧ (a1 = (1 : Int))) := by omega
theorem ox_334 {a0 a1 : Int} (h0 : 0 ≤ a0) (h1 : a0 ≤ 60) (h2 : a1 = 1) : ((a0 + 1 ≤ (0 : Int)) ∧ (a1 = (0 : Int))) ∨ (((0 : Int) ≤ a0) ∧ ((61 : Int) ≤ a0) ∧ (a1 = (0 : Int))) ∨ (((0 : Int) ≤ a0) ∧ (a0 ≤ (60 : Int)) ∧ (a1 = (1 : Int))) := by omega
theorem ox_335 {a0 : Int} (h0 : -1 * a0 + 60 < 0) (h1 : (0 : Int) ≤ a0) (h2 : a0 ≤ (60 : Int)) : False := by omega
theorem ox_336 {a0 : Int} (h0 : a0 ≤ (60 : Int)) : a0 + 1 ≤ 2147483647 := by omega
theorem ox_337 {a0 a1 : Int} (h0 : a0 < 60) (h1 : a1 = a0 + 1) : a1 ≤ (60 : Int) := by omega
theorem ox_338 {a0 a1 a2 : Int} (h0 : -1 * a0 + 60 < a1 + 1) (h1 : a2 = a0 + 1) : -1 * a2 + 60 < a1 := by omega
theorem ox_339 {a0 : Int} (h0 : a0 = 0) : a0 ≤ (60 : Int) := by omega
theorem ox_340 {a0 : Int} (h0 : a0 = 0) : 0 ≤ -1 * a0 + 60 := by omega
theorem ox_341 {a0 a1 : Int} (h0 : ((a0 + 1 ≤ (0 : Int)) ∧ (a1 = (0 : Int))) ∨ (((0 : Int) ≤ a0) ∧ ((61 : Int) ≤ a0) ∧ (a1 = (0 : Int))) ∨ (((0 : Int) ≤ a0) ∧ (a0 ≤ (60 : Int)) ∧ (a1 = (1 : Int)))) (h1 : a1 ≠ 0) : (0 : Int) ≤ a0 := by omega
theorem ox_342 {a0 a1 : Int} (h0 : ((a0 + 1 ≤ (0 : Int)) ∧ (a1 = (0 : Int))) ∨ (((0 : Int) ≤ a0) ∧ ((61 : Int) ≤ a0) ∧ (a1 = (0 : Int))) ∨ (((0 : Int) ≤ a0) ∧ (a0 ≤ (60 : Int)) ∧ (a1 = (1 : Int)))) (h1 : a1 ≠ 0) : a0 ≤ (60 : Int) := by omega
theorem ox_343 {a0 a1 : Int} (h0 : ((a0 + 1 ≤ (0 : Int)) ∧ (a1 = (0 : Int))) ∨ (((0 : Int) ≤ a0) ∧ ((61 : Int) ≤ a0) ∧ (a1 = (0 : Int))) ∨ (((0 : Int) ≤ a0) ∧ (a0 ≤ (60 : Int)) ∧ (a1 = (1 : Int)))) (h1 : a1 ≠ 0) : a1 = (1 : Int) := by omega
theorem ox_344 {a0 : Int} (h0 : 0 ≤ a0) (h1 : a0 ≤ 1) (h2 : a0 ≠ 1) : a0 ≤ (0 : Int) := by omega
theorem ox_345 {a0 : Int} (h0 : (0 : Int) ≤ a0) (h1 : a0 ≤ (4 : Int)) : (-2147483648) ≤ a0 - 1 := by omega
theorem ox_346 {a0 : Int} (h0 : (0 : Int) ≤ a0) (h1 : a0 ≤ (4 : Int)) : a0 - 1 ≤ 2147483647 := by omega
theorem ox_347 {a0 : Int} (h0 : a0 + 1 < 0) (h1 : (0 : Int) ≤ a0 + 1) (h2 : a0 ≤ (3 : Int)) : False := by omega
theorem ox_348 {a0 : Int} (h0 : a0 < 0) : a0 + 1 ≤ 0 := by omega
theorem ox_349 {a0 : Int} : a0 ≤ a0 := by omega
theorem ox_350 {a0 : Int} (h0 : 0 ≤ a0) : 0 ≤ a0 := by omega
theorem ox_351 {a0 : Int} (h0 : a0 ≤ (3 : Int)) : a0 < 4 := by omega
theorem ox_352 {a0 : Int} (h0 : 0 < a0) (h1 : a0 ≤ (6 : Int)) (h2 : a0 ≤ 0) : False := by omega
theorem ox_353 {a0 : Int} (h0 : (0 : Int) ≤ a0 + 1) : (-2147483648) ≤ a0 + (-1) := by omega
theorem ox_354 {a0 : Int} (h0 : a0 ≤ (3 : Int)) : a0 + (-1) ≤ 2147483647 := by omega
theorem ox_355 {a0 a1 : Int} (h0 : 0 ≤ a0) (h1 : a1 = a0 + (-1)) : (0 : Int) ≤ a1 + 1 := by omega
theorem ox_356 {a0 a1 : Int} (h0 : a0 ≤ (3 : Int)) (h1 : a1 = a0 + (-1)) : a1 ≤ (3 : Int) := by omega
theorem ox_357 {a0 : Int} : a0 + 1 = a0 + 1 := by omega
theorem ox_358 {a0 a1 : Int} (h0 : a0 = a1 + (-1)) : a0 + 1 = a1 := by omega
theorem ox_359 {a0 : Int} (h0 : a0 = 0) : 0 ≤ a0 := by omega
theorem ox_360 {a0 : Int} (h0 : a0 = 0) : a0 ≤ 5 := by omega
theorem ox_361 {a0 a1 a2 : Int} (h0 : a0 + 1 < a1 + 1) (h1 : a2 = a0 + (-1)) : a2 + 1 < a1 := by omega
theorem ox_362 {a0 : Int} (h0 : a0 ≤ (6 : Int)) (h1 : 0 < a0) : 1 ≤ a0 := by omega
theorem ox_363 {a0 a1 a2 : Int} (h0 : (0 : Int) ≤ a0) (h1 : 0 ≤ a1 ∧ a1 < a2 ∧ a1 ≤ a0) : 0 ≤ a0 := by omega
theorem ox_364 {a0 a1 a2 : Int} (h0 : a0 ≤ (6 : Int)) (h1 : 0 < a0) (h2 : 0 ≤ a1 ∧ a1 < a0 ∧ a1 ≤ a2) : 1 ≤ a0 := by omega
theorem ox_365 {a0 a1 a2 a3 : Int} (h0 : a0 ≤ 0) (h1 : a0 ≤ (6 : Int)) (h2 : 0 < a0) (h3 : 0 ≤ a1 ∧ a1 < a0 ∧ a1 ≤ a2) (h4 : a1 = a3) : False := by omega
theorem ox_366 {a0 : Int} (h0 : 0 < a0) : 1 ≤ a0 := by omega
theorem ox_367 {a0 a1 a2 a3 : Int} (h0 : (0 : Int) ≤ a0) (h1 : 0 ≤ a1 ∧ a1 < a2 ∧ a1 ≤ a0) (h2 : a1 = a3) : 0 ≤ a0 := by omega
theorem ox_368 {a0 a1 a2 a3 a4 : Int} (h0 : (0 : Int) ≤ a0) (h1 : 0 ≤ a1 ∧ a1 < a2 ∧ a1 ≤ a0) (h2 : 0 ≤ a3 ∧ a3 ≤ a0) (h3 : a1 = a4) : 0 ≤ a0 := by omega
theorem ox_369 {a0 a1 a2 : Int} (h0 : 0 ≤ a0 ∧ a0 ≤ a1) (h1 : a0 = a2) : (0 : Int) ≤ a0 := by omega
theorem ox_370 {a0 a1 a2 a3 : Int} (h0 : 0 ≤ a0 ∧ a0 < a1 ∧ a0 ≤ a2) (h1 : a0 = a3) : 0 ≤ a0 := by omega
theorem ox_371 {a0 a1 a2 a3 : Int} (h0 : a0 ≤ (6 : Int)) (h1 : 0 ≤ a1 ∧ a1 < a0 ∧ a1 ≤ a2) (h2 : a1 = a3) : a1 ≤ 5 := by omega
theorem ox_372 {a0 a1 : Int} (h0 : (0 : Int) ≤ a0) (h1 : a0 ≤ (4 : Int)) (h2 : a1 = a0 + (-1)) : (0 : Int) ≤ a1 + 1 := by omega
theorem ox_373 {a0 a1 : Int} (h0 : (0 : Int) ≤ a0) (h1 : a0 ≤ (4 : Int)) (h2 : a1 = a0 + (-1)) : a1 ≤ (3 : Int) := by omega
theorem ox_374 {a0 a1 : Int} (h0 : a0 = a1 + (-1)) : a1 ≤ a0 + 1 := by omega
theorem ox_375 {a0 a1 : Int} (h0 : (0 : Int) ≤ a0) (h1 : a0 ≤ (4 : Int)) (h2 : a1 = a0 + (-1)) : 0 ≤ a1 + 1 := by omega
theorem ox_376 {a0 a1 : Int} (h0 : a0 ≤ (4 : Int)) (h1 : a1 < a0) : a1 < 4 := by omega
theorem ox_377 {a0 a1 : Int} (h0 : (0 : Int) ≤ a0) (h1 : a0 ≤ (4 : Int)) (h2 : a0 ≤ a1) : (0 : Int) ≤ a0 := by omega
theorem ox_378 {a0 a1 : Int} (h0 : (0 : Int) ≤ a0) (h1 : a0 ≤ (4 : Int)) (h2 : a0 ≤ a1) : a0 ≤ (4 : Int) := by omega
theorem ox_379 {a0 : Int} (h0 : (0 : Int) ≤ a0) (h1 : a0 ≤ (5 : Int)) : (-2147483648) ≤ a0 + 1 := by omega
theorem ox_380 {a0 : Int} (h0 : (0 : Int) ≤ a0) (h1 : a0 ≤ (5 : Int)) : a0 + 1 ≤ 2147483647 := by omega
theorem ox_381 {a0 : Int} (h0 : -1 * a0 + 2147483647 < 0) (h1 : (0 : Int) ≤ a0) (h2 : a0 ≤ (2147483647 : Int)) : False := by omega
theorem ox_382 {a0 : Int} (h0 : 0 ≤ a0) (h1 : a0 ≤ 1) (h2 : a0 ≠ 0) : (1 : Int) ≤ a0 := by omega
theorem ox_383 {a0 a1 : Int} (h0 : (0 : Int) ≤ a0) (h1 : a0 ≤ (5 : Int)) (h2 : a1 = a0 + 1) : a1 ≤ (6 : Int) := by omega
theorem ox_384 {a0 a1 : Int} (h0 : a1 < a0) (h1 : (-2147483648) ≤ a0 ∧ a0 ≤ 2147483647) : a1 + 1 ≤ 2147483647 := by omega
theorem ox_385 {a0 a1 : Int} (h0 : 0 ≤ a0) (h1 : a1 < a0) : (0 : Int) ≤ a0 + 1 := by omega
theorem ox_386 {a0 a1 a2 : Int} (h0 : a1 < a0) (h1 : (-2147483648) ≤ a0 ∧ a0 ≤ 2147483647) (h2 : a2 = a1 + 1) : a2 ≤ (2147483647 : Int) := by omega
theorem ox_387 {a0 a1 a2 : Int} (h0 : -1 * a0 + 2147483647 < a1 + 1) (h1 : a2 = a0 + 1) : -1 * a2 + 2147483647 < a1 := by omega
theorem ox_388 {a0 a1 : Int} (h0 : a1 ≤ a0) (h1 : a1 ≠ a0) : a1 + 1 ≤ a0 := by omega
theorem ox_389 {a0 a1 : Int} (h0 : (0 : Int) ≤ a0 + 1) (h1 : a1 ≤ a0) (h2 : a1 + 1 ≤ a0) : (0 : Int) ≤ a0 + 1 := by omega
theorem ox_390 {a0 : Int} (h0 : a0 ≤ (4 : Int)) : a0 ≤ (4 : Int) := by omega
theorem ox_391 {a0 a1 : Int} (h0 : (0 : Int) ≤ a0 + 1) (h1 : a1 ≤ a0) (h2 : a1 = a0) : (0 : Int) ≤ a0 + 1 := by omega
theorem ox_392 {a0 a1 : Int} (h0 : 0 ≤ a0) (h1 : a0 ≤ a1) (h2 : a0 = a1) : (0 : Int) ≤ a0 + 1 := by omega
theorem ox_393 {a0 a1 : Int} (h0 : a0 < a1) (h1 : (0 : Int) ≤ a0 + 1) (h2 : a1 < 0) : False := by omega
theorem ox_394 {a0 a1 : Int} (h0 : (0 : Int) ≤ a0 + 1) (h1 : a1 < 0) (h2 : a1 ≠ a0) : a1 + 1 ≤ a0 := by omega
theorem ox_395 {a0 a1 : Int} (h0 : (0 : Int) ≤ a0 + 1) (h1 : a1 = a0) : (0 : Int) ≤ a1 + 1 := by omega
theorem ox_396 {a0 : Int} (h0 : a0 = 0) : a0 ≤ (2147483647 : Int) := by omega
theorem ox_397 {a0 : Int} (h0 : a0 = 0) : 0 ≤ -1 * a0 + 2147483647 := by omega
theorem ox_398 {a0 a1 : Int} (h0 : a0 < 0) (h1 : a1 = 0) : ((a0 + 1 ≤ (0 : Int)) ∧ (a1 = (0 : Int))) ∨ (((0 : Int) ≤ a0) ∧ ((100 : Int) ≤ a0) ∧ (a1 = (0 : Int))) ∨ (((0 : Int) ≤ a0) ∧ (a0 ≤ (99 : Int)) ∧ (a1 = (1 : Int))) := by omega
theorem ox_399 {a0 a1 : Int} (h0 : 0 ≤ a0) (h1 : 99 < a0) (h2 : a1 = 0) : ((a0 + 1 ≤ (0 : Int)) ∧ (a1 = (0 : Int))) ∨ (((0 : Int) ≤ a0) ∧ ((100 : Int) ≤ a0) ∧ (a1 = (0 : Int))) ∨ (((0 : Int) ≤ a0) ∧ (a0 ≤ (99 : Int)) ∧ (a1 = (1 : Int))) := by omega
theorem ox_400 {a0 a1 : Int} (h0 : 0 ≤ a0) (h1 : a0 ≤ 99) (h2 : a1 = 1) : ((a0 + 1 ≤ (0 : Int)) ∧ (a1 = (0 : Int))) ∨ (((0 : Int) ≤ a0) ∧ ((100 : Int) ≤ a0) ∧ (a1 = (0 : Int))) ∨ (((0 : Int) ≤ a0) ∧ (a0 ≤ (99 : Int)) ∧ (a1 = (1 : Int))) := by omega
theorem ox_401 {a0 : Int} (h0 : 0 < a0) (h1 : a0 ≤ (4 : Int)) (h2 : a0 ≤ 0) : False := by omega
theorem ox_402 {a0 : Int} (h0 : a0 = 0) : a0 ≤ 3 := by omega
theorem ox_403 {a0 : Int} (h0 : a0 ≤ (4 : Int)) (h1 : 0 < a0) : 1 ≤ a0 := by omega
theorem ox_404 {a0 a1 a2 : Int} (h0 : a0 ≤ (4 : Int)) (h1 : 0 < a0) (h2 : 0 ≤ a1 ∧ a1 < a0 ∧ a1 ≤ a2) : 1 ≤ a0 := by omega
theorem ox_405 {a0 a1 a2 a3 : Int} (h0 : a0 ≤ 0) (h1 : a0 ≤ (4 : Int)) (h2 : 0 < a0) (h3 : 0 ≤ a1 ∧ a1 < a0 ∧ a1 ≤ a2) (h4 : a1 = a3) : False := by omega
theorem ox_406 {a0 a1 a2 a3 : Int} (h0 : a0 ≤ (4 : Int)) (h1 : 0 ≤ a1 ∧ a1 < a0 ∧ a1 ≤ a2) (h2 : a1 = a3) : a1 ≤ 3 := by omega
theorem ox_407 {a0 a1 a2 : Int} (h0 : (0 : Int) ≤ a0) (h1 : 0 ≤ a0 → a0 < a2 → 0 ≤ a1 ∧ a1 ≤ 3) : (a0 + 1 ≤ a2) → (((0 : Int) ≤ a1) ∧ (a1 ≤ (3 : Int))) := by omega
theorem ox_408 {a0 a1 a2 : Int} (h0 : (0 : Int) ≤ a0) (h1 : a0 < a1) (h2 : 0 ≤ a0 → a0 < a1 → 0 ≤ a2 ∧ a2 ≤ 3) : (0 : Int) ≤ a2 := by omega
theorem ox_409 {a0 a1 a2 : Int} (h0 : (0 : Int) ≤ a0) (h1 : a0 < a1) (h2 : 0 ≤ a0 → a0 < a1 → 0 ≤ a2 ∧ a2 ≤ 3) : a2 ≤ (3 : Int) := by omega
theorem ox_410 {a0 : Int} (h0 : (0 : Int) ≤ a0) (h1 : a0 ≤ (3 : Int)) : 0 ≤ a0 := by omega
theorem ox_411 {a0 : Int} (h0 : (0 : Int) ≤ a0) (h1 : a0 ≤ (3 : Int)) : a0 < 4 := by omega
theorem ox_412 {a0 a1 : Int} (h0 : ((a0 + 1 ≤ (0 : Int)) ∧ (a1 = (0 : Int))) ∨ (((0 : Int) ≤ a0) ∧ ((100 : Int) ≤ a0) ∧ (a1 = (0 : Int))) ∨ (((0 : Int) ≤ a0) ∧ (a0 ≤ (99 : Int)) ∧ (a1 = (1 : Int)))) (h1 : a1 ≠ 0) : (0 : Int) ≤ a0 := by omega
theorem ox_413 {a0 a1 : Int} (h0 : ((a0 + 1 ≤ (0 : Int)) ∧ (a1 = (0 : Int))) ∨ (((0 : Int) ≤ a0) ∧ ((100 : Int) ≤ a0) ∧ (a1 = (0 : Int))) ∨ (((0 : Int) ≤ a0) ∧ (a0 ≤ (99 : Int)) ∧ (a1 = (1 : Int)))) (h1 : a1 ≠ 0) : a0 ≤ (99 : Int) := by omega
theorem ox_414 {a0 a1 : Int} (h0 : ((a0 + 1 ≤ (0 : Int)) ∧ (a1 = (0 : Int))) ∨ (((0 : Int) ≤ a0) ∧ ((100 : Int) ≤ a0) ∧ (a1 = (0 : Int))) ∨ (((0 : Int) ≤ a0) ∧ (a0 ≤ (99 : Int)) ∧ (a1 = (1 : Int)))) (h1 : a1 ≠ 0) : a1 = (1 : Int) := by omega
theorem ox_415 {a0 : Int} (h0 : 400 < a0) (h1 : a0 ≤ (400 : Int)) : False := by omega
theorem ox_416 {a0 : Int} (h0 : a0 ≤ (400 : Int)) (h1 : a0 ≤ 400) : a0 ≤ (400 : Int) := by omega
theorem ox_417 {a0 a1 : Int} (h0 : a0 ≤ (400 : Int)) (h1 : a0 ≤ a1) : a0 ≤ (400 : Int) := by omega
theorem ox_418 {a0 a1 : Int} (h0 : a0 ≤ (400 : Int)) (h1 : a1 < a0) : a1 ≤ (400 : Int) := by omega
theorem ox_419 {a0 : Int} (h0 : a0 = 400) : a0 ≤ (400 : Int) := by omega
theorem ox_420 {a0 : Int} (h0 : (0 : Int) ≤ a0) : (-2147483648) ≤ a0 * 5 := by omega
theorem ox_421 {a0 : Int} (h0 : a0 ≤ (4 : Int)) : a0 * 5 ≤ 2147483647 := by omega
theorem ox_422 {a0 a1 : Int} (h0 : a0 = a1 * 5) : a0 = 5 * a1 := by omega
theorem ox_423 {a0 a1 a2 : Int} (h0 : (0 : Int) ≤ a0) (h1 : (0 : Int) ≤ a1) (h2 : a2 = 5 * a0) : (-2147483648) ≤ a2 + a1 := by omega
theorem ox_424 {a0 a1 a2 : Int} (h0 : a0 ≤ (4 : Int)) (h1 : a1 ≤ (5 : Int)) (h2 : a2 = 5 * a0) : a2 + a1 ≤ 2147483647 := by omega
theorem ox_425 {a0 a1 a2 a3 : Int} (h0 : a0 = a1 + a2) (h1 : a1 = 5 * a3) : a0 = a2 + 5 * a3 := by omega
theorem ox_426 {a0 a1 : Int} (h0 : (0 : Int) ≤ a0) (h1 : (0 : Int) ≤ a1) : 0 ≤ a1 + 5 * a0 := by omega
theorem ox_427 {a0 a1 a2 a3 : Int} (h0 : a0 ≤ (5 : Int)) (h1 : a1 ≤ (4 : Int)) (h2 : a2 < a1) (h3 : a3 < a0) : a3 + 5 * a2 < 20 := by omega
theorem ox_428 {a0 : Int} (h0 : 0 < a0) (h1 : a0 ≤ (5 : Int)) (h2 : a0 ≤ 0) : False := by omega
theorem ox_429 {a0 : Int} (h0 : a0 = 0) : a0 ≤ 4 := by omega
theorem ox_430 {a0 : Int} (h0 : a0 ≤ (5 : Int)) (h1 : 0 < a0) : 1 ≤ a0 := by omega
theorem ox_431 {a0 a1 a2 : Int} (h0 : a0 ≤ (5 : Int)) (h1 : 0 < a0) (h2 : 0 ≤ a1 ∧ a1 < a0 ∧ a1 ≤ a2) : 1 ≤ a0 := by omega
theorem ox_432 {a0 a1 a2 a3 : Int} (h0 : a0 ≤ 0) (h1 : a0 ≤ (5 : Int)) (h2 : 0 < a0) (h3 : 0 ≤ a1 ∧ a1 < a0 ∧ a1 ≤ a2) (h4 : a1 = a3) : False := by omega
theorem ox_433 {a0 a1 a2 a3 : Int} (h0 : a0 ≤ (5 : Int)) (h1 : 0 ≤ a1 ∧ a1 < a0 ∧ a1 ≤ a2) (h2 : a1 = a3) : a1 ≤ 4 := by omega
theorem ox_434 {a0 : Int} (h0 : (0 : Int) ≤ a0) (h1 : a0 ≤ (3 : Int)) : (-2147483648) ≤ a0 * 5 := by omega
theorem ox_435 {a0 : Int} (h0 : (0 : Int) ≤ a0) (h1 : a0 ≤ (3 : Int)) : a0 * 5 ≤ 2147483647 := by omega
theorem ox_436 {a0 a1 a2 : Int} (h0 : a0 ≤ (3 : Int)) (h1 : a1 ≤ (4 : Int)) (h2 : a2 = 5 * a0) : a2 + a1 ≤ 2147483647 := by omega
theorem ox_437 {a0 a1 : Int} (h0 : a0 ≤ (3 : Int)) (h1 : a1 ≤ (4 : Int)) : a1 + 5 * a0 < 20 := by omega
theorem ox_438 {a0 a1 a2 : Int} (h0 : a1 ≤ a1 → a1 < a2 → 0 ≤ a0 ∧ a0 ≤ 4) : (a1 + 1 ≤ a2) → (((0 : Int) ≤ a0) ∧ (a0 ≤ (4 : Int))) := by omega
theorem ox_439 {a0 a1 a2 : Int} (h0 : a1 < a0) (h1 : a1 ≤ a1 → a1 < a0 → 0 ≤ a2 ∧ a2 ≤ 4) : (0 : Int) ≤ a2 := by omega
theorem ox_440 {a0 a1 a2 : Int} (h0 : a1 < a0) (h1 : a1 ≤ a1 → a1 < a0 → 0 ≤ a2 ∧ a2 ≤ 4) : a2 ≤ (4 : Int) := by omega
theorem ox_441 {a0 a1 a2 : Int} (h0 : (0 : Int) ≤ a0) (h1 : 0 ≤ a0 → a0 < a2 → (-1) ≤ a1 ∧ a1 ≤ 4) : (a0 + 1 ≤ a2) → (((0 : Int) ≤ a1 + 1) ∧ (a1 ≤ (4 : Int))) := by omega
theorem ox_442 {a0 a1 a2 : Int} (h0 : (0 : Int) ≤ a0) (h1 : a0 < a1) (h2 : 0 ≤ a0 → a0 < a1 → (-1) ≤ a2 ∧ a2 ≤ 4) : (0 : Int) ≤ a2 + 1 := by omega
theorem ox_443 {a0 a1 a2 : Int} (h0 : (0 : Int) ≤ a0) (h1 : a0 < a1) (h2 : 0 ≤ a0 → a0 < a1 → (-1) ≤ a2 ∧ a2 ≤ 4) : a2 ≤ (4 : Int) := by omega
theorem ox_444 {a0 a1 : Int} (h0 : a0 ≤ (4 : Int)) (h1 : a1 < a0) : a1 ≤ (3 : Int) := by omega
theorem ox_445 {a0 : Int} (h0 : (0 : Int) ≤ a0 + 1) (h1 : a0 ≤ (4 : Int)) (h2 : (0 : Int) ≤ a0) : (0 : Int) ≤ a0 := by omega
theorem ox_446 {a0 : Int} (h0 : (0 : Int) ≤ a0 + 1) (h1 : a0 ≤ (4 : Int)) (h2 : (0 : Int) ≤ a0) : a0 ≤ (4 : Int) := by omega
theorem ox_447 {a0 a1 : Int} (h0 : a0 = a1 + 1) : a1 ≤ a0 := by omega
theorem ox_448 {a0 a1 : Int} (h0 : a0 = a1 + 1) : a1 < a0 := by omega
theorem ox_449 {a0 : Int} (h0 : (0 : Int) ≤ a0) (h1 : a0 ≠ 0) : (1 : Int) ≤ a0 := by omega
theorem ox_450 {a0 a1 : Int} (h0 : (0 : Int) ≤ a0) (h1 : a0 ≤ (5 : Int)) (h2 : (a0 ≤ 1 ∧ a1 = 1) ∨ (1 ≤ a0 ∧ a1 = a0)) : a1 ≤ (5 : Int) := by omega
theorem ox_451 : (0 : Int) ≤ 0 := by omega
theorem ox_452 {a0 a1 : Int} (h0 : a0 ≤ a1) : a0 ≤ a1 := by omega
theorem ox_453 {a0 : Int} (h0 : a0 < (-1000000000)) (h1 : (0 : Int) ≤ a0 + 1000000000) : False := by omega
theorem ox_454 {a0 : Int} (h0 : (0 : Int) ≤ a0 + 1000000000) (h1 : (-1000000000) ≤ a0) : (0 : Int) ≤ a0 + 1000000000 := by omega
theorem ox_455 {a0 a1 : Int} (h0 : (0 : Int) ≤ a0 + 1000000000) (h1 : a1 ≤ a0) : (0 : Int) ≤ a0 + 1000000000 := by omega
theorem ox_456 {a0 a1 : Int} (h0 : (0 : Int) ≤ a0 + 1000000000) (h1 : a0 < a1) : (0 : Int) ≤ a1 + 1000000000 := by omega
theorem ox_457 {a0 : Int} (h0 : a0 = (-1000000000)) : (0 : Int) ≤ a0 + 1000000000 := by omega
theorem ox_458 {a0 a1 : Int} (h0 : (0 : Int) ≤ a0 + 1) (h1 : a0 + 1 ≤ a1) (h2 : a0 ≤ (4 : Int)) : (-1) ≤ a0 := by omega
theorem ox_459 {a0 a1 : Int} (h0 : (0 : Int) ≤ a0 + 1) (h1 : a0 + 1 ≤ a1) (h2 : a0 ≤ (4 : Int)) : a0 ≤ 4 := by omega
theorem ox_460 {a0 : Int} (h0 : a0 = 0) : a0 ≤ 0 := by omega
theorem ox_461 {a0 a1 : Int} (h0 : a0 < 0) (h1 : a1 = 0) : ((a0 + 1 ≤ (0 : Int)) ∧ (a1 = (0 : Int))) ∨ (((0 : Int) ≤ a0) ∧ ((7 : Int) ≤ a0) ∧ (a1 = (0 : Int))) ∨ (((0 : Int) ≤ a0) ∧ (a0 ≤ (6 : Int)) ∧ (a1 = (1 : Int))) := by omega
theorem ox_462 {a0 a1 : Int} (h0 : 0 ≤ a0) (h1 : 7 ≤ a0) (h2 : a1 = 0) : ((a0 + 1 ≤ (0 : Int)) ∧ (a1 = (0 : Int))) ∨ (((0 : Int) ≤ a0) ∧ ((7 : Int) ≤ a0) ∧ (a1 = (0 : Int))) ∨ (((0 : Int) ≤ a0) ∧ (a0 ≤ (6 : Int)) ∧ (a1 = (1 : Int))) := by omega
theorem ox_463 {a0 a1 : Int} (h0 : 0 ≤ a0) (h1 : a0 < 7) (h2 : a1 = 1) : ((a0 + 1 ≤ (0 : Int)) ∧ (a1 = (0 : Int))) ∨ (((0 : Int) ≤ a0) ∧ ((7 : Int) ≤ a0) ∧ (a1 = (0 : Int))) ∨ (((0 : Int) ≤ a0) ∧ (a0 ≤ (6 : Int)) ∧ (a1 = (1 : Int))) := by omega
theorem ox_464 {a0 : Int} (h0 : (3 : Int) ≤ a0) (h1 : a0 ≤ (8 : Int)) : (-2147483648) ≤ a0 - 3 := by omega
theorem ox_465 {a0 : Int} (h0 : (3 : Int) ≤ a0) (h1 : a0 ≤ (8 : Int)) : a0 - 3 ≤ 2147483647 := by omega
theorem ox_466 {a0 a1 : Int} (h0 : a0 = a1 - 3) : a0 = a1 + (-3) := by omega
theorem ox_467 {a0 a1 : Int} (h0 : (3 : Int) ≤ a0) (h1 : a0 ≤ (8 : Int)) (h2 : a1 = a0 + (-3)) : (0 : Int) ≤ a1 := by omega
theorem ox_468 {a0 a1 : Int} (h0 : (3 : Int) ≤ a0) (h1 : a0 ≤ (8 : Int)) (h2 : a1 = a0 + (-3)) : a1 ≤ (8 : Int) := by omega
theorem ox_469 {a0 a1 : Int} (h0 : ((a0 + 1 ≤ (0 : Int)) ∧ (a1 = (0 : Int))) ∨ (((0 : Int) ≤ a0) ∧ ((7 : Int) ≤ a0) ∧ (a1 = (0 : Int))) ∨ (((0 : Int) ≤ a0) ∧ (a0 ≤ (6 : Int)) ∧ (a1 = (1 : Int)))) (h1 : a1 ≠ 0) : (0 : Int) ≤ a0 := by omega
theorem ox_470 {a0 a1 : Int} (h0 : ((a0 + 1 ≤ (0 : Int)) ∧ (a1 = (0 : Int))) ∨ (((0 : Int) ≤ a0) ∧ ((7 : Int) ≤ a0) ∧ (a1 = (0 : Int))) ∨ (((0 : Int) ≤ a0) ∧ (a0 ≤ (6 : Int)) ∧ (a1 = (1 : Int)))) (h1 : a1 ≠ 0) : a0 ≤ (6 : Int) := by omega
theorem ox_471 {a0 a1 : Int} (h0 : ((a0 + 1 ≤ (0 : Int)) ∧ (a1 = (0 : Int))) ∨ (((0 : Int) ≤ a0) ∧ ((7 : Int) ≤ a0) ∧ (a1 = (0 : Int))) ∨ (((0 : Int) ≤ a0) ∧ (a0 ≤ (6 : Int)) ∧ (a1 = (1 : Int)))) (h1 : a1 ≠ 0) : a1 = (1 : Int) := by omega
theorem ox_472 {a0 : Int} (h0 : a0 = 0) : 0 ≤ a0 ∧ a0 ≤ 1 := by omega
theorem ox_473 {a0 : Int} (h0 : a0 = 1) : 0 ≤ a0 ∧ a0 ≤ 1 := by omega
theorem ox_474 {a0 : Int} (h0 : (0 : Int) ≤ a0) (h1 : a0 ≤ (4 : Int)) (h2 : a0 ≠ 0) : (1 : Int) ≤ a0 := by omega
theorem ox_475 {a0 a1 : Int} (h0 : (0 : Int) ≤ a0) (h1 : a0 ≤ (4 : Int)) (h2 : (1 : Int) ≤ a0) (h3 : a1 = 0) : a1 + 1 ≤ a0 := by omega
theorem ox_476 {a0 : Int} (h0 : -1 * a0 + 4 < 0) (h1 : (1 : Int) ≤ a0) (h2 : a0 ≤ (4 : Int)) : False := by omega
theorem ox_477 {a0 : Int} (h0 : (1 : Int) ≤ a0) : (0 : Int) ≤ a0 := by omega
theorem ox_478 {a0 : Int} (h0 : (1 : Int) ≤ a0) : (-2147483648) ≤ a0 + 1 := by omega
theorem ox_479 {a0 : Int} (h0 : (0 : Int) ≤ a0) (h1 : a0 ≤ (1048576 : Int)) : (0 : Int) ≤ a0 := by omega
theorem ox_480 {a0 : Int} (h0 : (0 : Int) ≤ a0) (h1 : a0 ≤ (1048576 : Int)) : a0 ≤ (1048576 : Int) := by omega
theorem ox_481 {a0 a1 : Int} (h0 : (1 : Int) ≤ a0) (h1 : a1 = a0 + 1) : (1 : Int) ≤ a1 := by omega
theorem ox_482 {a0 : Int} (h0 : a0 ≤ (4 : Int)) : a0 ≤ (1048576 : Int) := by omega
theorem ox_483 {a0 : Int} (h0 : a0 = 0) : a0 ≤ (1048576 : Int) := by omega
theorem ox_484 {a0 : Int} (h0 : a0 = 1) : (1 : Int) ≤ a0 := by omega
theorem ox_485 {a0 : Int} (h0 : a0 = 1) : a0 ≤ (4 : Int) := by omega
theorem ox_486 {a0 : Int} (h0 : a0 = 1) : 0 ≤ -1 * a0 + 4 := by omega
theorem ox_487 {a0 a1 a2 a3 : Int} (h0 : (0 : Int) ≤ a0) (h1 : a0 + 1 ≤ a1) (h2 : a2 = 1) : ((a0 ≠ a3) ∧ (a2 = (1 : Int))) ∨ ((a0 ≠ a3) ∧ (a2 = (0 : Int))) ∨ ((a0 = a3) ∧ (a2 = (1 : Int))) ∨ ((a0 = a3) ∧ (a2 = (0 : Int))) ∨ ((a2 = (0 : Int))) := by omega
theorem ox_488 {a0 a1 a2 a3 : Int} (h0 : (0 : Int) ≤ a0) (h1 : a0 + 1 ≤ a1) (h2 : a2 = 0) : ((a0 ≠ a3) ∧ (a2 = (1 : Int))) ∨ ((a0 ≠ a3) ∧ (a2 = (0 : Int))) ∨ ((a0 = a3) ∧ (a2 = (1 : Int))) ∨ ((a0 = a3) ∧ (a2 = (0 : Int))) ∨ ((a2 = (0 : Int))) := by omega
theorem ox_489 {a0 a1 a2 a3 a4 : Int} (h0 : (0 : Int) ≤ a0) (h1 : a0 + 1 ≤ a1) (h2 : a2 = a3) (h3 : a4 = 0) : ((a0 ≠ a3) ∧ (a4 = (1 : Int))) ∨ ((a0 ≠ a3) ∧ (a4 = (0 : Int))) ∨ ((a0 = a3) ∧ (a4 = (1 : Int))) ∨ ((a0 = a3) ∧ (a4 = (0 : Int))) ∨ ((a4 = (0 : Int))) := by omega
theorem ox_490 {a0 a1 a2 a3 : Int} (h0 : (0 : Int) ≤ a0) (h1 : a0 + 1 ≤ a1) (h2 : a0 = a2) (h3 : a3 = 1) : ((a0 ≠ a2) ∧ (a3 = (1 : Int))) ∨ ((a0 ≠ a2) ∧ (a3 = (0 : Int))) ∨ ((a0 = a2) ∧ (a3 = (1 : Int))) ∨ ((a0 = a2) ∧ (a3 = (0 : Int))) ∨ ((a3 = (0 : Int))) := by omega
theorem ox_491 {a0 a1 a2 a3 : Int} (h0 : (0 : Int) ≤ a0) (h1 : a0 + 1 ≤ a1) (h2 : a0 = a2) (h3 : a3 = 0) : ((a0 ≠ a2) ∧ (a3 = (1 : Int))) ∨ ((a0 ≠ a2) ∧ (a3 = (0 : Int))) ∨ ((a0 = a2) ∧ (a3 = (1 : Int))) ∨ ((a0 = a2) ∧ (a3 = (0 : Int))) ∨ ((a3 = (0 : Int))) := by omega
theorem ox_492 : (0 : Int) < 4 := by omega
theorem ox_493 : (1 : Int) < 4 := by omega
theorem ox_494 {a0 : Int} (h0 : a0 = 2) : (0 : Int) ≤ a0 := by omega
theorem ox_495 {a0 : Int} (h0 : a0 = 2) : a0 ≤ (4 : Int) := by omega
theorem ox_496 {a0 a1 a2 : Int} (h0 : ((a0 ≠ a1) ∧ (a2 = (1 : Int))) ∨ ((a0 ≠ a1) ∧ (a2 = (0 : Int))) ∨ ((a0 = a1) ∧ (a2 = (1 : Int))) ∨ ((a0 = a1) ∧ (a2 = (0 : Int))) ∨ ((a2 = (0 : Int)))) (h1 : a2 ≠ 0) : (1 : Int) ≤ a2 := by omega
theorem ox_497 {a0 : Int} (h0 : a0 = 0) : (-2147483648) ≤ a0 + 1 := by omega
theorem ox_498 {a0 : Int} (h0 : a0 = 0) : a0 + 1 ≤ 2147483647 := by omega
theorem ox_499 {a0 : Int} (h0 : -1 * a0 + 2147483647 < 0) (h1 : (1 : Int) ≤ a0) (h2 : a0 ≤ (2147483647 : Int)) : False := by omega
theorem ox_500 {a0 a1 a2 : Int} (h0 : (0 : Int) ≤ a0) (h1 : a2 ≤ a1) (h2 : a0 < a2) : (0 : Int) ≤ a2 := by omega
theorem ox_501 {a0 a1 : Int} (h0 : (0 : Int) ≤ a0) (h1 : a1 ≤ a0) (h2 : a1 + 1 ≤ a0) : (0 : Int) ≤ a0 := by omega
theorem ox_502 {a0 a1 : Int} (h0 : (0 : Int) ≤ a0) (h1 : a1 ≤ a0) (h2 : a1 = a0) : (0 : Int) ≤ a0 := by omega
theorem ox_503 {a0 a1 : Int} (h0 : (0 : Int) ≤ a0) (h1 : a1 = a0) : (0 : Int) ≤ a1 := by omega
theorem ox_504 {a0 : Int} (h0 : a0 = 1) : a0 ≤ (2147483647 : Int) := by omega
theorem ox_505 {a0 : Int} (h0 : a0 = 1) : 0 ≤ -1 * a0 + 2147483647 := by omega
theorem ox_506 {a0 a1 : Int} (h0 : (0 : Int) ≤ a0) (h1 : a1 = a0 + 1) : (1 : Int) ≤ a1 := by omega
theorem ox_507 {a0 a1 a2 : Int} (h0 : a0 ≤ (4 : Int)) (h1 : a1 < a0) (h2 : a2 = a1 + 1) : 0 ≤ -1 * a2 + 4 := by omega
theorem ox_508 {a0 : Int} (h0 : -1 * a0 + 7 < 0) (h1 : (0 : Int) ≤ a0) (h2 : a0 ≤ (7 : Int)) : False := by omega
theorem ox_509 {a0 : Int} (h0 : a0 ≤ (7 : Int)) : a0 + 1 ≤ 2147483647 := by omega
theorem ox_510 {a0 : Int} (h0 : (0 : Int) ≤ a0 + 1) (h1 : a0 ≤ (1048576 : Int)) : (0 : Int) ≤ a0 + 1 := by omega
theorem ox_511 {a0 : Int} (h0 : (0 : Int) ≤ a0 + 1) (h1 : a0 ≤ (1048576 : Int)) : a0 ≤ (1048576 : Int) := by omega
theorem ox_512 {a0 a1 : Int} (h0 : (0 : Int) ≤ a0) (h1 : a1 ≤ a0) : (0 : Int) ≤ a0 := by omega
theorem ox_513 {a0 a1 : Int} (h0 : a0 < 7) (h1 : a1 = a0 + 1) : a1 ≤ (7 : Int) := by omega
theorem ox_514 {a0 a1 a2 : Int} (h0 : -1 * a0 + 7 < a1 + 1) (h1 : a2 = a0 + 1) : -1 * a2 + 7 < a1 := by omega
theorem ox_515 {a0 : Int} (h0 : a0 ≤ (7 : Int)) : a0 ≤ (1048576 : Int) := by omega
theorem ox_516 {a0 a1 : Int} (h0 : (0 : Int) ≤ a0) (h1 : a0 < a1) : (0 : Int) ≤ a1 := by omega
theorem ox_517 {a0 : Int} (h0 : a0 = (-1)) : a0 ≤ (1048576 : Int) := by omega
theorem ox_518 {a0 : Int} (h0 : a0 = 0) : a0 ≤ (7 : Int) := by omega
theorem ox_519 {a0 : Int} (h0 : a0 = 0) : 0 ≤ -1 * a0 + 7 := by omega
theorem ox_520 {a0 : Int} (h0 : -1 * a0 + 9 < 0) (h1 : (1 : Int) ≤ a0) (h2 : a0 ≤ (9 : Int)) : False := by omega
theorem ox_521 {a0 a1 : Int} (h0 : (3 : Int) ≤ a0) (h1 : a1 ≤ (9 : Int)) : (-2147483648) ≤ a0 - a1 := by omega
theorem ox_522 {a0 a1 : Int} (h0 : a0 ≤ (8 : Int)) (h1 : (1 : Int) ≤ a1) : a0 - a1 ≤ 2147483647 := by omega
theorem ox_523 {a0 a1 a2 : Int} (h0 : a1 ≤ a0) (h1 : a2 = a0 + -1 * a1) : (0 : Int) ≤ a2 := by omega
theorem ox_524 {a0 a1 a2 a3 a4 : Int} (h0 : ((a0 = (3 : Int)) ∧ (a1 ≤ a2 + 3)) ∨ (a0 + a2 = a1)) (h1 : (1 : Int) ≤ a3) (h2 : a4 = a0 + -1 * a3) : (a4 ≤ (2 : Int)) ∨ (a4 + a2 + 1 ≤ a1) := by omega
theorem ox_525 {a0 : Int} (h0 : a0 ≤ (9 : Int)) : a0 + 1 ≤ 2147483647 := by omega
theorem ox_526 {a0 a1 : Int} (h0 : a0 ≤ (8 : Int)) (h1 : a1 ≤ a0) : a1 ≤ (8 : Int) := by omega
theorem ox_527 {a0 a1 a2 : Int} (h0 : a0 ≤ (8 : Int)) (h1 : a1 ≤ a0) (h2 : a2 = a1 + 1) : a2 ≤ (9 : Int) := by omega
theorem ox_528 {a0 a1 a2 : Int} (h0 : -1 * a0 + 9 < a1 + 1) (h1 : a2 = a0 + 1) : -1 * a2 + 9 < a1 := by omega
theorem ox_529 {a0 : Int} (h0 : a0 = 1) : a0 ≤ (9 : Int) := by omega
theorem ox_530 {a0 : Int} (h0 : a0 = 1) : 0 ≤ -1 * a0 + 9 := by omega
theorem ox_531 {a0 a1 : Int} (h0 : (0 : Int) ≤ a0 + 1) (h1 : a1 ≤ a0) : (0 : Int) ≤ a0 + 1 := by omega
theorem ox_532 {a0 : Int} (h0 : a0 ≤ (5 : Int)) : a0 ≤ (1048576 : Int) := by omega
theorem ox_533 {a0 a1 : Int} (h0 : (0 : Int) ≤ a0 + 1) (h1 : a0 < a1) : (0 : Int) ≤ a1 + 1 := by omega
theorem ox_534 {a0 : Int} (h0 : -1 * a0 + 64 < 0) (h1 : (0 : Int) ≤ a0) (h2 : a0 ≤ (64 : Int)) : False := by omega
theorem ox_535 {a0 a1 : Int} (h0 : (a1 ≤ 1 ∧ a0 = 1) ∨ (1 ≤ a1 ∧ a0 = a1)) : (1 : Int) ≤ a0 := by omega
theorem ox_536 {a0 : Int} (h0 : a0 ≤ (64 : Int)) : a0 + 1 ≤ 2147483647 := by omega
theorem ox_537 {a0 a1 : Int} (h0 : a0 < 64) (h1 : a1 = a0 + 1) : a1 ≤ (64 : Int) := by omega
theorem ox_538 {a0 a1 a2 : Int} (h0 : -1 * a0 + 64 < a1 + 1) (h1 : a2 = a0 + 1) : -1 * a2 + 64 < a1 := by omega
theorem ox_539 {a0 : Int} (h0 : a0 = 0) : a0 ≤ (64 : Int) := by omega
theorem ox_540 {a0 : Int} (h0 : a0 = 0) : 0 ≤ -1 * a0 + 64 := by omega
theorem ox_541 {a0 : Int} (h0 : (1 : Int) ≤ a0) : 1 ≤ a0 := by omega
theorem ox_542 {a0 a1 a2 : Int} (h0 : a0 ≤ 4) (h1 : a1 < a0) (h2 : a2 = a1 + 1) : a2 ≤ (4 : Int) := by omega
theorem ox_543 {a0 a1 : Int} (h0 : 0 ≤ a0) (h1 : a0 < a1) : 0 ≤ a0 := by omega
theorem ox_544 {a0 : Int} (h0 : (0 : Int) ≤ a0) (h1 : a0 ≤ (30 : Int)) (h2 : a0 < 30) : 0 ≤ a0 := by omega
theorem ox_545 {a0 : Int} (h0 : (0 : Int) ≤ a0) (h1 : a0 ≤ (30 : Int)) (h2 : a0 < 30) : a0 < 30 := by omega
theorem ox_546 {a0 : Int} (h0 : (0 : Int) ≤ a0) (h1 : a0 ≤ (4 : Int)) : a0 ≤ 4 := by omega
theorem ox_547 {a0 : Int} (h0 : (0 : Int) ≤ a0) (h1 : a0 ≤ (30 : Int)) (h2 : a0 < 30) : (-2147483648) ≤ a0 + 1 := by omega
theorem ox_548 {a0 : Int} (h0 : (0 : Int) ≤ a0) (h1 : a0 ≤ (30 : Int)) (h2 : a0 < 30) : a0 + 1 ≤ 2147483647 := by omega
theorem ox_549 {a0 a1 : Int} (h0 : (0 : Int) ≤ a0) (h1 : a0 ≤ (30 : Int)) (h2 : a0 < 30) (h3 : a1 = a0 + 1) : (-2147483648) ≤ a1 - 1 := by omega
theorem ox_550 {a0 a1 : Int} (h0 : (0 : Int) ≤ a0) (h1 : a0 ≤ (30 : Int)) (h2 : a0 < 30) (h3 : a1 = a0 + 1) : a1 - 1 ≤ 2147483647 := by omega
theorem ox_551 {a0 a1 a2 : Int} (h0 : a0 = a1 - 1) (h1 : a1 = a2 + 1) : a0 = a2 := by omega
theorem ox_552 {a0 a1 : Int} (h0 : (0 : Int) ≤ a0) (h1 : a0 ≤ (30 : Int)) (h2 : a0 < 30) (h3 : a1 = a0) : ((a0 ≤ (29 : Int)) ∧ (a1 = a0)) ∨ (((30 : Int) ≤ a0) ∧ (a1 + 1 = (0 : Int))) := by omega
theorem ox_553 {a0 a1 : Int} (h0 : (0 : Int) ≤ a0) (h1 : a0 ≤ (30 : Int)) (h2 : a0 < 30) (h3 : a1 = a0) : (0 : Int) ≤ a1 + 1 := by omega
theorem ox_554 {a0 a1 : Int} (h0 : (0 : Int) ≤ a0) (h1 : a0 ≤ (30 : Int)) (h2 : a0 < 30) (h3 : a1 = a0) : a1 ≤ (29 : Int) := by omega
theorem ox_555 {a0 a1 : Int} (h0 : (0 : Int) ≤ a0) (h1 : a0 ≤ (30 : Int)) (h2 : a0 < 30) (h3 : a1 = a0 + 1) : (0 : Int) ≤ a1 := by omega
theorem ox_556 {a0 a1 : Int} (h0 : (0 : Int) ≤ a0) (h1 : a0 ≤ (30 : Int)) (h2 : a0 < 30) (h3 : a1 = a0 + 1) : a1 ≤ (30 : Int) := by omega
theorem ox_557 {a0 a1 : Int} (h0 : (0 : Int) ≤ a0) (h1 : a0 ≤ (30 : Int)) (h2 : 30 ≤ a0) (h3 : a1 = (-1)) : ((a0 ≤ (29 : Int)) ∧ (a1 = a0)) ∨ (((30 : Int) ≤ a0) ∧ (a1 + 1 = (0 : Int))) := by omega
theorem ox_558 {a0 : Int} (h0 : a0 = (-1)) : a0 ≤ (29 : Int) := by omega
theorem ox_559 {a0 : Int} (h0 : 0 ≤ a0 ∧ a0 ≤ 1) : 0 ≤ a0 ∧ a0 ≤ 1 := by omega
theorem ox_560 {a0 a1 a2 : Int} (h0 : (0 : Int) ≤ a0) (h1 : a0 ≤ (30 : Int)) (h2 : a1 < 0) (h3 : a2 = 0) : ((a1 + 1 ≤ (0 : Int)) ∧ (a2 = (0 : Int))) ∨ (((0 : Int) ≤ a1) ∧ (a0 ≤ a1) ∧ (a2 = (0 : Int))) ∨ (((0 : Int) ≤ a1) ∧ (a1 + 1 ≤ a0) ∧ (a2 = (1 : Int))) ∨ (((0 : Int) ≤ a1) ∧ (a1 + 1 ≤ a0) ∧ (a2 = (0 : Int))) := by omega
theorem ox_561 {a0 a1 a2 : Int} (h0 : a0 = 0) : ((a1 + 1 ≤ (0 : Int)) ∧ (a0 = (0 : Int))) ∨ (((0 : Int) ≤ a1) ∧ (a2 ≤ a1) ∧ (a0 = (0 : Int))) ∨ (((0 : Int) ≤ a1) ∧ (a1 + 1 ≤ a2) ∧ (a0 = (1 : Int))) ∨ (((0 : Int) ≤ a1) ∧ (a1 + 1 ≤ a2) ∧ (a0 = (0 : Int))) := by omega
theorem ox_562 {a0 a1 : Int} (h0 : a0 ≤ (30 : Int)) (h1 : a1 < a0) : a1 < 30 := by omega
theorem ox_563 {a0 a1 a2 : Int} (h0 : 0 ≤ a0) (h1 : a0 < a1) (h2 : a2 = 1) : ((a0 + 1 ≤ (0 : Int)) ∧ (a2 = (0 : Int))) ∨ (((0 : Int) ≤ a0) ∧ (a1 ≤ a0) ∧ (a2 = (0 : Int))) ∨ (((0 : Int) ≤ a0) ∧ (a0 + 1 ≤ a1) ∧ (a2 = (1 : Int))) ∨ (((0 : Int) ≤ a0) ∧ (a0 + 1 ≤ a1) ∧ (a2 = (0 : Int))) := by omega
theorem ox_564 {a0 : Int} (h0 : (0 : Int) ≤ a0) (h1 : a0 ≤ (29 : Int)) : 0 ≤ a0 := by omega
theorem ox_565 {a0 : Int} (h0 : (0 : Int) ≤ a0) (h1 : a0 ≤ (29 : Int)) : a0 < 30 := by omega
theorem ox_566 {a0 : Int} (h0 : 0 ≤ a0 ∧ a0 ≤ 4) : (-2147483648) ≤ a0 * 343 := by omega
theorem ox_567 {a0 : Int} (h0 : 0 ≤ a0 ∧ a0 ≤ 4) : a0 * 343 ≤ 2147483647 := by omega
theorem ox_568 {a0 a1 : Int} (h0 : a0 = a1 * 343) : a0 = 343 * a1 := by omega
theorem ox_569 {a0 : Int} (h0 : -1 * a0 + 343 < 0) (h1 : (0 : Int) ≤ a0) (h2 : a0 ≤ (343 : Int)) : False := by omega
theorem ox_570 {a0 a1 a2 : Int} (h0 : 0 ≤ a0 ∧ a0 ≤ 4) (h1 : (0 : Int) ≤ a1) (h2 : a2 = 343 * a0) : (-2147483648) ≤ a2 + a1 := by omega
theorem ox_571 {a0 a1 a2 : Int} (h0 : 0 ≤ a0 ∧ a0 ≤ 4) (h1 : a1 ≤ (343 : Int)) (h2 : a2 = 343 * a0) : a2 + a1 ≤ 2147483647 := by omega
theorem ox_572 {a0 a1 a2 a3 : Int} (h0 : a0 = a1 + a2) (h1 : a1 = 343 * a3) : a0 = a2 + 343 * a3 := by omega
theorem ox_573 {a0 a1 : Int} (h0 : 0 ≤ a0 ∧ a0 ≤ 4) (h1 : (0 : Int) ≤ a1) : 0 ≤ a1 + 343 * a0 := by omega
theorem ox_574 {a0 a1 : Int} (h0 : 0 ≤ a0 ∧ a0 ≤ 4) (h1 : a1 < 343) : a1 + 343 * a0 < 1715 := by omega
theorem ox_575 {a0 : Int} (h0 : a0 ≤ (343 : Int)) : a0 + 1 ≤ 2147483647 := by omega
theorem ox_576 {a0 a1 : Int} (h0 : a0 < 343) (h1 : a1 = a0 + 1) : a1 ≤ (343 : Int) := by omega
theorem ox_577 {a0 a1 a2 : Int} (h0 : -1 * a0 + 343 < a1 + 1) (h1 : a2 = a0 + 1) : -1 * a2 + 343 < a1 := by omega
theorem ox_578 {a0 : Int} (h0 : a0 < 343) : a0 < 343 := by omega
theorem ox_579 {a0 : Int} (h0 : a0 = 0) : a0 ≤ (343 : Int) := by omega
theorem ox_580 {a0 : Int} (h0 : a0 = 0) : 0 ≤ -1 * a0 + 343 := by omega
theorem ox_581 {a0 : Int} (h0 : a0 ≤ (8 : Int)) : a0 ≤ 8 := by omega
theorem ox_582 {a0 : Int} (h0 : a0 = 0) : a0 ≤ (99 : Int) := by omega
theorem ox_583 {a0 a1 a2 : Int} (h0 : a1 < a0) (h1 : a2 = 0) : (a1 ≤ (2 : Int)) ∨ (a1 + a2 + 1 ≤ a0) := by omega
theorem ox_584 {a0 : Int} (h0 : (0 : Int) ≤ a0) (h1 : a0 ≤ (6 : Int)) : 0 ≤ a0 := by omega
theorem ox_585 {a0 : Int} (h0 : (0 : Int) ≤ a0) (h1 : a0 ≤ (6 : Int)) : a0 < 7 := by omega
theorem ox_586 {a0 a1 : Int} (h0 : 0 ≤ a0) (h1 : a0 ≤ a1) : (-2147483648) ≤ a0 + 1 := by omega
theorem ox_587 {a0 a1 : Int} (h0 : a0 ≤ (8 : Int)) (h1 : a1 ≤ a0) : a1 + 1 ≤ 2147483647 := by omega
theorem ox_588 {a0 a1 a2 : Int} (h0 : 0 ≤ a0 ∧ a0 ≤ 8) (h1 : a1 < a0) (h2 : a2 = a1 + 1) : a2 ≤ (8 : Int) := by omega
theorem ox_589 {a0 : Int} (h0 : 7 ≤ a0) : 7 ≤ a0 := by omega
theorem ox_590 {a0 : Int} (h0 : a0 < 7) : a0 < 7 := by omega
theorem ox_591 {a0 : Int} (h0 : (0 : Int) ≤ a0) (h1 : a0 ≤ (342 : Int)) : 0 ≤ a0 := by omega
theorem ox_592 {a0 a1 : Int} (h0 : 0 ≤ a0 ∧ a0 ≤ a1) (h1 : 49 * a0 ≤ a1 ∧ a1 < 49 * a0 + 49) : 0 ≤ a0 := by omega
theorem ox_593 {a0 a1 a2 : Int} (h0 : 0 ≤ a0 ∧ a0 < 7 ∧ a0 ≤ a1) (h1 : a1 = 7 * a2 + a0) : (0 : Int) ≤ a0 := by omega
theorem ox_594 {a0 a1 a2 : Int} (h0 : 0 ≤ a0 ∧ a0 < 7 ∧ a0 ≤ a1) (h1 : a1 = 7 * a2 + a0) : a0 ≤ (6 : Int) := by omega
theorem ox_595 {a0 a1 : Int} (h0 : 0 ≤ a0 ∧ a0 ≤ a1) (h1 : 7 * a0 ≤ a1 ∧ a1 < 7 * a0 + 7) : 0 ≤ a0 := by omega
theorem ox_596 {a0 : Int} (h0 : (0 : Int) ≤ a0) (h1 : a0 ≤ (342 : Int)) : (0 : Int) ≤ a0 := by omega
theorem ox_597 {a0 : Int} (h0 : (0 : Int) ≤ a0) (h1 : a0 ≤ (342 : Int)) : a0 ≤ (342 : Int) := by omega
theorem ox_598 {a0 : Int} (h0 : 0 ≤ a0) (h1 : a0 ≤ 8) : (0 : Int) ≤ a0 := by omega
theorem ox_599 {a0 : Int} (h0 : 0 ≤ a0) (h1 : a0 ≤ 8) : a0 ≤ (8 : Int) := by omega
theorem ox_600 {a0 a1 a2 a3 : Int} (h0 : a0 ≠ a1 → a2 + a3 ≤ 8) (h1 : a1 ≠ a0) : a2 + a3 ≤ (8 : Int) := by omega
theorem ox_601 {a0 a1 a2 : Int} (h0 : a0 = a1) (h1 : a1 = a2) (h2 : a0 ≠ a2) : False := by omega
theorem ox_602 {a0 a1 : Int} (h0 : 0 ≤ a0) (h1 : 0 ≤ a1) : (-2147483648) ≤ a0 + a1 := by omega
theorem ox_603 {a0 a1 : Int} (h0 : a0 ≤ 8) (h1 : a1 ≤ 8) : a0 + a1 ≤ 2147483647 := by omega
theorem ox_604 {a0 a1 a2 : Int} (h0 : a0 = a1 + a2) : a0 = a2 + a1 := by omega
theorem ox_605 {a0 a1 a2 : Int} (h0 : 0 ≤ a0) (h1 : 0 ≤ a1) (h2 : a2 = a1 + a0) : (0 : Int) ≤ a2 := by omega
theorem ox_606 {a0 a1 a2 : Int} (h0 : a0 + a1 ≤ (8 : Int)) (h1 : a2 = a1 + a0) : a2 ≤ (8 : Int) := by omega
theorem ox_607 {a0 a1 a2 a3 a4 a5 : Int} (h0 : a0 ≠ a1 → a0 ≠ a2 → a1 ≠ a2 → a3 + a4 + a5 ≤ 8) (h1 : a1 ≠ a0) : (a0 ≠ a2) → ((a1 ≠ a2) → (a3 + a4 + a5 ≤ (8 : Int))) := by omega
theorem ox_608 {a0 a1 a2 : Int} (h0 : a0 = a1 + a2) : a0 = a1 + a2 := by omega
theorem ox_609 {a0 a1 a2 : Int} (h0 : 0 ≤ a0) (h1 : 0 ≤ a1) (h2 : a2 = a0 + a1) : (0 : Int) ≤ a2 := by omega
theorem ox_610 {a0 a1 a2 : Int} (h0 : a0 + a1 ≤ (8 : Int)) (h1 : a2 = a0 + a1) : a2 ≤ (8 : Int) := by omega
theorem ox_611 {a0 a1 a2 a3 a4 a5 : Int} (h0 : a0 ≠ a1 → a0 ≠ a2 → a1 ≠ a2 → a3 + a4 + a5 ≤ 8) (h1 : a1 ≠ a0) (h2 : a2 ≠ a0) : (a1 ≠ a2) → (a3 + a4 + a5 ≤ (8 : Int)) := by omega
theorem ox_612 {a0 a1 a2 a3 a4 a5 : Int} (h0 : a0 ≠ a1 → a0 ≠ a2 → a1 ≠ a2 → a3 + a4 + a5 ≤ 8) (h1 : a1 ≠ a0) (h2 : a2 ≠ a0) (h3 : a2 ≠ a1) : a3 + a4 + a5 ≤ (8 : Int) := by omega
theorem ox_613 {a0 a1 a2 a3 : Int} (h0 : 0 ≤ a0) (h1 : 0 ≤ a1) (h2 : 0 ≤ a2) (h3 : a3 = a0 + a1) : (-2147483648) ≤ a3 + a2 := by omega
theorem ox_614 {a0 a1 a2 a3 : Int} (h0 : a0 ≤ 8) (h1 : a1 ≤ 8) (h2 : a2 ≤ 8) (h3 : a3 = a0 + a1) : a3 + a2 ≤ 2147483647 := by omega
theorem ox_615 {a0 a1 a2 a3 a4 : Int} (h0 : a0 = a1 + a2) (h1 : a1 = a3 + a4) : a0 = a2 + a3 + a4 := by omega
theorem ox_616 {a0 a1 a2 a3 : Int} (h0 : 0 ≤ a0) (h1 : 0 ≤ a1) (h2 : 0 ≤ a2) (h3 : a3 = a2 + a0 + a1) : (0 : Int) ≤ a3 := by omega
theorem ox_617 {a0 a1 a2 a3 : Int} (h0 : a0 + a1 + a2 ≤ (8 : Int)) (h1 : a3 = a2 + a0 + a1) : a3 ≤ (8 : Int) := by omega
theorem ox_618 {a0 a1 : Int} (h0 : (0 : Int) ≤ a0) (h1 : a0 + 3 ≤ a1) : (3 : Int) ≤ a1 := by omega
theorem ox_619 {a0 a1 : Int} (h0 : (0 : Int) ≤ a0) (h1 : a0 + 3 ≤ a1) : (0 : Int) ≤ a0 := by omega
theorem ox_620 {a0 a1 a2 : Int} (h0 : a0 + 3 ≤ a1) (h1 : a2 = 0) : (a0 ≤ (2 : Int)) ∨ (a0 + a2 + 1 ≤ a1) := by omega
theorem ox_621 {a0 a1 : Int} (h0 : (0 : Int) ≤ a0) (h1 : a0 + 3 ≤ a1) : (-2147483648) ≤ a0 + 1 := by omega
theorem ox_622 {a0 a1 : Int} (h0 : a0 + 3 ≤ a1) (h1 : 0 ≤ a1 ∧ a1 ≤ 8) : a0 + 1 ≤ 2147483647 := by omega
theorem ox_623 {a0 a1 a2 : Int} (h0 : (0 : Int) ≤ a0) (h1 : a0 + 3 ≤ a1) (h2 : a2 = a0 + 1) : (0 : Int) ≤ a2 := by omega
theorem ox_624 {a0 a1 a2 a3 : Int} (h0 : a0 + 3 ≤ a1) (h1 : a2 = 0) (h2 : a3 = a0 + 1) : (a3 ≤ (2 : Int)) ∨ (a3 + a2 + 1 ≤ a1) := by omega
theorem ox_625 {a0 : Int} (h0 : (0 : Int) ≤ a0) (h1 : a0 ≤ (6 : Int)) : (-2147483648) ≤ a0 * 7 := by omega
theorem ox_626 {a0 : Int} (h0 : (0 : Int) ≤ a0) (h1 : a0 ≤ (6 : Int)) : a0 * 7 ≤ 2147483647 := by omega
theorem ox_627 {a0 a1 : Int} (h0 : a0 = a1 * 7) : a0 = 7 * a1 := by omega
theorem ox_628 {a0 a1 a2 : Int} (h0 : (0 : Int) ≤ a0) (h1 : (0 : Int) ≤ a1) (h2 : a2 = 7 * a0) : (-2147483648) ≤ a2 + a1 := by omega
theorem ox_629 {a0 a1 a2 : Int} (h0 : a0 ≤ (6 : Int)) (h1 : a1 ≤ (6 : Int)) (h2 : a2 = 7 * a0) : a2 + a1 ≤ 2147483647 := by omega
theorem ox_630 {a0 a1 a2 a3 : Int} (h0 : a0 = a1 + a2) (h1 : a1 = 7 * a3) : a0 = a2 + 7 * a3 := by omega
theorem ox_631 {a0 a1 a2 : Int} (h0 : (0 : Int) ≤ a0) (h1 : (0 : Int) ≤ a1) (h2 : a2 = a1 + 7 * a0) : (-2147483648) ≤ a2 * 7 := by omega
theorem ox_632 {a0 a1 a2 : Int} (h0 : a0 ≤ (6 : Int)) (h1 : a1 ≤ (6 : Int)) (h2 : a2 = a1 + 7 * a0) : a2 * 7 ≤ 2147483647 := by omega
theorem ox_633 {a0 a1 a2 a3 : Int} (h0 : a0 = a1 * 7) (h1 : a1 = a2 + 7 * a3) : a0 = 7 * a2 + 49 * a3 := by omega
theorem ox_634 {a0 a1 : Int} (h0 : (0 : Int) ≤ a0) (h1 : a0 + 3 ≤ a1) : (-2147483648) ≤ a0 + 2 := by omega
theorem ox_635 {a0 a1 : Int} (h0 : a0 + 3 ≤ a1) (h1 : 0 ≤ a1 ∧ a1 ≤ 8) : a0 + 2 ≤ 2147483647 := by omega
theorem ox_636 {a0 a1 a2 : Int} (h0 : (0 : Int) ≤ a0) (h1 : a0 + 3 ≤ a1) (h2 : a2 = a0 + 2) : (0 : Int) ≤ a2 := by omega
theorem ox_637 {a0 a1 a2 a3 : Int} (h0 : a0 + 3 ≤ a1) (h1 : a2 = 0) (h2 : a3 = a0 + 2) : (a3 ≤ (2 : Int)) ∨ (a3 + a2 + 1 ≤ a1) := by omega
theorem ox_638 {a0 a1 a2 a3 : Int} (h0 : (0 : Int) ≤ a0) (h1 : (0 : Int) ≤ a1) (h2 : (0 : Int) ≤ a2) (h3 : a3 = 7 * a1 + 49 * a0) : (-2147483648) ≤ a3 + a2 := by omega
theorem ox_639 {a0 a1 a2 a3 : Int} (h0 : a0 ≤ (6 : Int)) (h1 : a1 ≤ (6 : Int)) (h2 : a2 ≤ (6 : Int)) (h3 : a3 = 7 * a1 + 49 * a0) : a3 + a2 ≤ 2147483647 := by omega
theorem ox_640 {a0 a1 a2 a3 a4 : Int} (h0 : a0 = a1 + a2) (h1 : a1 = 7 * a3 + 49 * a4) : a0 = a2 + 7 * a3 + 49 * a4 := by omega
theorem ox_641 {a0 a1 a2 a3 : Int} (h0 : (0 : Int) ≤ a0) (h1 : (0 : Int) ≤ a1) (h2 : (0 : Int) ≤ a2) (h3 : a3 = a2 + 7 * a1 + 49 * a0) : (0 : Int) ≤ a3 := by omega
theorem ox_642 {a0 a1 a2 a3 : Int} (h0 : a0 ≤ (6 : Int)) (h1 : a1 ≤ (6 : Int)) (h2 : a2 ≤ (6 : Int)) (h3 : a3 = a2 + 7 * a1 + 49 * a0) : a3 ≤ (342 : Int) := by omega
theorem ox_643 {a0 : Int} (h0 : (0 : Int) ≤ a0) (h1 : a0 ≤ (4 : Int)) (h2 : (1 : Int) ≤ a0) : (-2147483648) ≤ a0 - 1 := by omega
theorem ox_644 {a0 : Int} (h0 : (0 : Int) ≤ a0) (h1 : a0 ≤ (4 : Int)) (h2 : (1 : Int) ≤ a0) : a0 - 1 ≤ 2147483647 := by omega
theorem ox_645 {a0 : Int} (h0 : (0 : Int) ≤ a0) (h1 : a0 ≤ (4 : Int)) (h2 : (1 : Int) ≤ a0) : 0 ≤ a0 + (-1) := by omega
theorem ox_646 {a0 : Int} (h0 : (0 : Int) ≤ a0) (h1 : a0 ≤ (4 : Int)) (h2 : (1 : Int) ≤ a0) : a0 + (-1) < 4 := by omega
theorem ox_647 {a0 : Int} (h0 : -1 * a0 + 9 < 0) (h1 : (0 : Int) ≤ a0) (h2 : a0 ≤ (9 : Int)) : False := by omega
theorem ox_648 {a0 : Int} (h0 : -1 * a0 + 6 < 0) (h1 : (0 : Int) ≤ a0) (h2 : a0 ≤ (6 : Int)) : False := by omega
theorem ox_649 {a0 a1 : Int} (h0 : (0 : Int) ≤ a0) (h1 : a0 ≤ (6 : Int)) (h2 : -1 * a0 + 6 < a1 + 1) : (-2147483648) ≤ a0 + 2 := by omega
theorem ox_650 {a0 a1 : Int} (h0 : (0 : Int) ≤ a0) (h1 : a0 ≤ (6 : Int)) (h2 : -1 * a0 + 6 < a1 + 1) : a0 + 2 ≤ 2147483647 := by omega
theorem ox_651 {a0 a1 a2 : Int} (h0 : a1 < a0) (h1 : a1 = a2 + 2) : a2 + 3 ≤ a0 := by omega
theorem ox_652 {a0 a1 : Int} (h0 : (0 : Int) ≤ a0) (h1 : a0 + 1 ≤ a1) : (-2147483648) ≤ a0 * 343 := by omega
theorem ox_653 {a0 a1 : Int} (h0 : a0 ≤ (5 : Int)) (h1 : a1 + 1 ≤ a0) : a1 * 343 ≤ 2147483647 := by omega
theorem ox_654 {a0 a1 a2 : Int} (h0 : (0 : Int) ≤ a0) (h1 : (0 : Int) ≤ a1) (h2 : a2 = 343 * a0) : (-2147483648) ≤ a2 + a1 := by omega
theorem ox_655 {a0 a1 a2 a3 : Int} (h0 : a0 ≤ (5 : Int)) (h1 : a1 + 1 ≤ a0) (h2 : a2 ≤ (342 : Int)) (h3 : a3 = 343 * a1) : a3 + a2 ≤ 2147483647 := by omega
theorem ox_656 {a0 : Int} (h0 : (0 : Int) ≤ a0) (h1 : a0 ≤ (8 : Int)) : 0 ≤ a0 := by omega
theorem ox_657 {a0 : Int} (h0 : (0 : Int) ≤ a0) (h1 : a0 ≤ (8 : Int)) : a0 < 9 := by omega
theorem ox_658 {a0 a1 : Int} (h0 : (0 : Int) ≤ a0) (h1 : (0 : Int) ≤ a1) : 0 ≤ a1 + 343 * a0 := by omega
theorem ox_659 {a0 a1 a2 : Int} (h0 : a0 ≤ (5 : Int)) (h1 : a1 + 1 ≤ a0) (h2 : a2 ≤ (342 : Int)) : a2 + 343 * a1 < 1715 := by omega
theorem ox_660 {a0 : Int} (h0 : a0 ≤ (6 : Int)) : a0 + 1 ≤ 2147483647 := by omega
theorem ox_661 {a0 a1 a2 a3 : Int} (h0 : 0 ≤ a0 ∧ a0 ≤ 8) (h1 : a1 < a0) (h2 : a1 = a2 + 2) (h3 : a3 = a2 + 1) : a3 ≤ (6 : Int) := by omega
theorem ox_662 {a0 a1 a2 : Int} (h0 : -1 * a0 + 6 < a1 + 1) (h1 : a2 = a0 + 1) : -1 * a2 + 6 < a1 := by omega
theorem ox_663 {a0 : Int} (h0 : a0 = 0) : a0 ≤ (6 : Int) := by omega
theorem ox_664 {a0 : Int} (h0 : a0 = 0) : 0 ≤ -1 * a0 + 6 := by omega
theorem ox_665 {a0 a1 a2 a3 : Int} (h0 : a0 ≤ (5 : Int)) (h1 : a1 + 1 ≤ a0) (h2 : a2 ≤ (343 : Int)) (h3 : a3 = 343 * a1) : a3 + a2 ≤ 2147483647 := by omega
theorem ox_666 {a0 : Int} (h0 : a0 < 343) : a0 ≤ (342 : Int) := by omega
theorem ox_667 {a0 a1 a2 : Int} (h0 : a0 ≤ (5 : Int)) (h1 : a1 + 1 ≤ a0) (h2 : a2 < 343) : a2 + 343 * a1 < 1715 := by omega
theorem ox_668 {a0 a1 : Int} (h0 : 0 ≤ a0 ∧ a0 ≤ 8) (h1 : a1 ≤ a0) : a1 < 9 := by omega
theorem ox_669 {a0 a1 a2 : Int} (h0 : 0 ≤ a0 ∧ a0 ≤ 8) (h1 : a1 ≤ a0) (h2 : a2 = a1 + 1) : a2 ≤ (9 : Int) := by omega
theorem ox_670 {a0 : Int} (h0 : a0 = 0) : a0 ≤ (9 : Int) := by omega
theorem ox_671 {a0 : Int} (h0 : a0 = 0) : 0 ≤ -1 * a0 + 9 := by omega
theorem ox_672 {a0 : Int} (h0 : (0 : Int) ≤ a0) (h1 : a0 ≤ (4 : Int)) (h2 : (1 : Int) ≤ a0) : (1 : Int) ≤ a0 := by omega
theorem ox_673 {a0 : Int} (h0 : -1 * a0 + 30 < 0) (h1 : (0 : Int) ≤ a0) (h2 : a0 ≤ (30 : Int)) : False := by omega
theorem ox_674 {a0 a1 : Int} (h0 : (0 : Int) ≤ a0) (h1 : a0 ≤ (4 : Int)) (h2 : (1 : Int) ≤ a0) : ((a0 ≠ (0 : Int)) ∧ ((1 : Int) ≤ a0)) ∨ ((a0 = (0 : Int)) ∧ (a1 = (0 : Int))) := by omega
theorem ox_675 {a0 a1 : Int} (h0 : a0 ≤ (30 : Int)) (h1 : a1 < a0) : a1 ≤ (29 : Int) := by omega
theorem ox_676 {a0 a1 a2 : Int} (h0 : a0 ≤ (30 : Int)) (h1 : a1 < a0) (h2 : a2 = a1 + 1) : a2 ≤ (30 : Int) := by omega
theorem ox_677 {a0 a1 a2 : Int} (h0 : -1 * a0 + 30 < a1 + 1) (h1 : a2 = a0 + 1) : -1 * a2 + 30 < a1 := by omega
theorem ox_678 {a0 : Int} (h0 : a0 = 0) : 0 ≤ -1 * a0 + 30 := by omega
theorem ox_679 {a0 a1 : Int} (h0 : (0 : Int) ≤ a0) (h1 : a0 ≤ (4 : Int)) (h2 : a0 = 0) (h3 : a1 = 0) : ((a0 ≠ (0 : Int)) ∧ ((1 : Int) ≤ a0)) ∨ ((a0 = (0 : Int)) ∧ (a1 = (0 : Int))) := by omega
theorem ox_680 {a0 : Int} (h0 : (0 : Int) ≤ a0 + 1) (h1 : a0 ≤ (1048576 : Int)) : (((0 : Int) ≤ a0 + 1) ∧ (a0 ≤ (1048576 : Int))) ∨ ((a0 + 2 = (0 : Int))) := by omega
theorem ox_681 {a0 : Int} (h0 : (0 : Int) ≤ a0 + 1) (h1 : a0 ≤ (1048576 : Int)) : (0 : Int) ≤ a0 + 2 := by omega
theorem ox_682 {a0 : Int} (h0 : (0 : Int) ≤ a0) (h1 : a0 ≤ (6 : Int)) : (0 : Int) ≤ a0 + 1 := by omega
theorem ox_683 {a0 : Int} (h0 : (0 : Int) ≤ a0) (h1 : a0 ≤ (6 : Int)) : a0 ≤ (1048576 : Int) := by omega
theorem ox_684 {a0 : Int} (h0 : (0 : Int) ≤ a0 + 1) (h1 : a0 ≤ (1048576 : Int)) (h2 : a0 ≠ (-1)) : (0 : Int) ≤ a0 := by omega
theorem ox_685 {a0 a1 : Int} (h0 : (0 : Int) ≤ a0) (h1 : a0 ≤ (6 : Int)) (h2 : a1 = a0) : (0 : Int) ≤ a0 + 1 := by omega
theorem ox_686 {a0 a1 : Int} (h0 : (0 : Int) ≤ a0) (h1 : a0 ≤ (6 : Int)) (h2 : a1 = a0) : a0 ≤ (1048576 : Int) := by omega
theorem ox_687 {a0 : Int} (h0 : a0 = (-2)) : (((0 : Int) ≤ a0 + 1) ∧ (a0 ≤ (1048576 : Int))) ∨ ((a0 + 2 = (0 : Int))) := by omega
theorem ox_688 {a0 : Int} (h0 : a0 = (-2)) : (0 : Int) ≤ a0 + 2 := by omega
theorem ox_689 {a0 : Int} (h0 : a0 = (-2)) : a0 ≤ (1048576 : Int) := by omega
theorem ox_690 {a0 a1 : Int} (h0 : ((a0 ≠ (0 : Int)) ∧ ((1 : Int) ≤ a0)) ∨ ((a0 = (0 : Int)) ∧ (a1 = (0 : Int)))) (h1 : a1 ≠ 0) : a0 ≠ (0 : Int) := by omega
theorem ox_691 {a0 : Int} (h0 : (0 : Int) ≤ a0) (h1 : a0 ≠ (0 : Int)) : (1 : Int) ≤ a0 := by omega
theorem ox_692 {a0 : Int} (h0 : -1 * a0 + 18 < 0) (h1 : (0 : Int) ≤ a0) (h2 : a0 ≤ (18 : Int)) : False := by omega
theorem ox_693 {a0 a1 : Int} (h0 : (0 : Int) ≤ a0) (h1 : a0 ≤ (18 : Int)) (h2 : a0 ≤ a1) : ((a0 = a0)) ∨ (((0 : Int) ≤ a0) ∧ (a0 ≤ (18 : Int)) ∧ (a0 + 1 ≤ a0)) := by omega
theorem ox_694 {a0 a1 : Int} (h0 : (0 : Int) ≤ a0) (h1 : a0 ≤ (18 : Int)) (h2 : a0 ≤ a1) : (0 : Int) ≤ a0 := by omega
theorem ox_695 {a0 a1 : Int} (h0 : (0 : Int) ≤ a0) (h1 : a0 ≤ (18 : Int)) (h2 : a0 ≤ a1) : a0 ≤ (18 : Int) := by omega
theorem ox_696 {a0 a1 : Int} (h0 : a0 ≤ (18 : Int)) (h1 : a1 < a0) : a1 < 18 := by omega
theorem ox_697 {a0 : Int} (h0 : a0 ≤ (18 : Int)) : a0 + 1 ≤ 2147483647 := by omega
theorem ox_698 {a0 a1 a2 : Int} (h0 : a0 ≤ (18 : Int)) (h1 : a1 < a0) (h2 : a2 = a1 + 1) : a2 ≤ (18 : Int) := by omega
theorem ox_699 {a0 a1 a2 : Int} (h0 : -1 * a0 + 18 < a1 + 1) (h1 : a2 = a0 + 1) : -1 * a2 + 18 < a1 := by omega
theorem ox_700 {a0 a1 : Int} (h0 : a0 ≤ (18 : Int)) (h1 : (0 : Int) ≤ a1) (h2 : a1 < a0) : ((a1 = a0)) ∨ (((0 : Int) ≤ a1) ∧ (a1 ≤ (18 : Int)) ∧ (a1 + 1 ≤ a0)) := by omega
theorem ox_701 {a0 : Int} (h0 : a0 ≤ (18 : Int)) : a0 ≤ (18 : Int) := by omega
theorem ox_702 {a0 : Int} (h0 : a0 = 0) : a0 ≤ (18 : Int) := by omega
theorem ox_703 {a0 : Int} (h0 : a0 = 0) : 0 ≤ -1 * a0 + 18 := by omega
theorem ox_704 {a0 : Int} (h0 : (0 : Int) ≤ a0) (h1 : a0 ≤ (4 : Int)) : (-2147483648) ≤ a0 * 343 := by omega
theorem ox_705 {a0 : Int} (h0 : (0 : Int) ≤ a0) (h1 : a0 ≤ (4 : Int)) : a0 * 343 ≤ 2147483647 := by omega
theorem ox_706 {a0 a1 a2 : Int} (h0 : a0 ≤ (4 : Int)) (h1 : a1 ≤ (343 : Int)) (h2 : a2 = 343 * a0) : a2 + a1 ≤ 2147483647 := by omega
theorem ox_707 {a0 a1 : Int} (h0 : a0 ≤ (4 : Int)) (h1 : a1 < 343) : a1 + 343 * a0 < 1715 := by omega
theorem ox_708 {a0 : Int} (h0 : (0 : Int) ≤ a0) (h1 : a0 ≤ (18 : Int)) : (0 : Int) ≤ a0 := by omega
theorem ox_709 {a0 : Int} (h0 : (0 : Int) ≤ a0) (h1 : a0 ≤ (18 : Int)) : a0 ≤ (18 : Int) := by omega
theorem ox_710 {a0 a1 : Int} (h0 : a0 ≤ (18 : Int)) (h1 : ((a1 = a0)) ∨ (((0 : Int) ≤ a1) ∧ (a1 ≤ (18 : Int)) ∧ (a1 + 1 ≤ a0))) (h2 : 18 ≤ a1) : a1 = a0 := by omega
theorem ox_711 {a0 : Int} (h0 : (0 : Int) ≤ a0) (h1 : a0 ≤ (18 : Int)) (h2 : a0 < 18) : (0 : Int) ≤ a0 := by omega
theorem ox_712 {a0 a1 : Int} (h0 : ((a0 = a1)) ∨ (((0 : Int) ≤ a0) ∧ (a0 ≤ (18 : Int)) ∧ (a0 + 1 ≤ a1))) (h1 : a0 ≠ a1) : a0 + 1 ≤ a1 := by omega
theorem ox_713 {a0 : Int} (h0 : a0 < 18) : a0 < 18 := by omega
theorem ox_714 {a0 a1 : Int} (h0 : a0 = a1) : a0 = a1 := by omega
theorem ox_715 {a0 a1 a2 : Int} (h0 : a0 < 18) (h1 : a0 = a1) (h2 : a2 = a1 + 1) : a2 ≤ (18 : Int) := by omega
theorem ox_716 {a0 : Int} (h0 : (0 : Int) ≤ a0) (h1 : a0 ≤ (5 : Int)) (h2 : a0 ≠ 0) : (1 : Int) ≤ a0 := by omega
theorem ox_717 {a0 a1 : Int} (h0 : a0 ≤ (344 : Int)) (h1 : a0 ≤ a1) : a0 ≤ (344 : Int) := by omega
theorem ox_718 {a0 a1 : Int} (h0 : a0 ≤ (344 : Int)) (h1 : a1 < a0) : a1 ≤ (344 : Int) := by omega
theorem ox_719 {a0 : Int} (h0 : a0 = 344) : a0 ≤ (344 : Int) := by omega
theorem ox_720 {a0 : Int} (h0 : (0 : Int) ≤ a0) (h1 : a0 ≤ (2 : Int)) : (-2147483648) ≤ a0 * 26 := by omega
theorem ox_721 {a0 : Int} (h0 : (0 : Int) ≤ a0) (h1 : a0 ≤ (2 : Int)) : a0 * 26 ≤ 2147483647 := by omega
theorem ox_722 {a0 a1 : Int} (h0 : a0 < 0) (h1 : (0 : Int) ≤ a1) (h2 : a1 ≤ (2 : Int)) (h3 : a0 = 26 * a1) : False := by omega
theorem ox_723 {a0 a1 : Int} (h0 : (0 : Int) ≤ a0) (h1 : a0 ≤ (2 : Int)) (h2 : 0 ≤ a1) (h3 : a1 = 26 * a0) : (-2147483648) ≤ a1 + 26 := by omega
theorem ox_724 {a0 a1 : Int} (h0 : (0 : Int) ≤ a0) (h1 : a0 ≤ (2 : Int)) (h2 : 0 ≤ a1) (h3 : a1 = 26 * a0) : a1 + 26 ≤ 2147483647 := by omega
theorem ox_725 {a0 a1 a2 : Int} (h0 : 78 < a0) (h1 : (0 : Int) ≤ a1) (h2 : a1 ≤ (2 : Int)) (h3 : 0 ≤ a2) (h4 : a2 = 26 * a1) (h5 : a0 = 26 * a1 + 26) : False := by omega
theorem ox_726 {a0 : Int} (h0 : a0 ≤ (2 : Int)) : 26 * a0 + (5 : Int) ≤ 78 := by omega
theorem ox_727 {a0 a1 a2 : Int} (h0 : (0 : Int) ≤ a0) (h1 : a0 ≤ (2 : Int)) (h2 : 0 ≤ a1) (h3 : a2 ≤ 78) (h4 : a2 = 26 * a0 + 26) (h5 : a1 = 26 * a0) : (26 * a0) % 26 = 0 := by omega
theorem ox_728 {a0 a1 : Int} (h0 : a0 ≤ (2 : Int)) (h1 : a1 = 26 * a0) : a1 + 5 ≤ 2147483647 := by omega
theorem ox_729 {a0 : Int} (h0 : a0 ≤ (2 : Int)) : 26 * a0 + 5 + (5 : Int) ≤ 78 := by omega
theorem ox_730 {a0 a1 a2 : Int} (h0 : (0 : Int) ≤ a0) (h1 : a0 ≤ (2 : Int)) (h2 : 0 ≤ a1) (h3 : a2 ≤ 78) (h4 : a2 = 26 * a0 + 26) (h5 : a1 = 26 * a0) : (26 * a0 + 5) % 26 = 5 := by omega
theorem ox_731 {a0 a1 : Int} (h0 : a0 ≤ (2 : Int)) (h1 : a1 = 26 * a0) : a1 + 10 ≤ 2147483647 := by omega
theorem ox_732 {a0 : Int} (h0 : a0 ≤ (2 : Int)) : 26 * a0 + 10 + (5 : Int) ≤ 78 := by omega
theorem ox_733 {a0 a1 : Int} (h0 : a0 ≤ (2 : Int)) (h1 : a1 = 26 * a0) : a1 + 15 ≤ 2147483647 := by omega
theorem ox_734 {a0 : Int} (h0 : a0 ≤ (2 : Int)) : 26 * a0 + 15 + (5 : Int) ≤ 78 := by omega
theorem ox_735 {a0 a1 a2 : Int} (h0 : (0 : Int) ≤ a0) (h1 : a0 ≤ (2 : Int)) (h2 : 0 ≤ a1) (h3 : a2 ≤ 78) (h4 : a2 = 26 * a0 + 26) (h5 : a1 = 26 * a0) : (26 * a0 + 15) % 26 = 15 := by omega
theorem ox_736 {a0 a1 : Int} (h0 : a0 ≤ (2 : Int)) (h1 : a1 = 26 * a0) : a1 + 20 ≤ 2147483647 := by omega
theorem ox_737 {a0 : Int} (h0 : a0 ≤ (2 : Int)) : 26 * a0 + 20 + (4 : Int) ≤ 78 := by omega
theorem ox_738 {a0 a1 a2 : Int} (h0 : (0 : Int) ≤ a0) (h1 : a0 ≤ (2 : Int)) (h2 : 0 ≤ a1) (h3 : a2 ≤ 78) (h4 : a2 = 26 * a0 + 26) (h5 : a1 = 26 * a0) : (26 * a0 + 20) % 26 = 20 := by omega
theorem ox_739 {a0 a1 : Int} (h0 : a0 ≤ (2 : Int)) (h1 : a1 = 26 * a0) : a1 + 26 ≤ 2147483647 := by omega
theorem ox_740 {a0 a1 : Int} (h0 : a0 ≤ (2 : Int)) (h1 : a1 = 26 * a0 + 26) : a1 - 2 ≤ 2147483647 := by omega
theorem ox_741 {a0 : Int} (h0 : a0 ≤ (2 : Int)) : 26 * a0 + 24 < 78 := by omega
theorem ox_742 {a0 a1 a2 : Int} (h0 : (0 : Int) ≤ a0) (h1 : a0 ≤ (2 : Int)) (h2 : 0 ≤ a1) (h3 : a2 ≤ 78) (h4 : a2 = 26 * a0 + 26) (h5 : a1 = 26 * a0) : (26 * a0 + 24) % 26 < 10 ∨ 15 ≤ (26 * a0 + 24) % 26 := by omega
theorem ox_743 {a0 a1 : Int} (h0 : a0 ≤ (2 : Int)) (h1 : a1 = 26 * a0 + 26) : a1 - 1 ≤ 2147483647 := by omega
theorem ox_744 {a0 : Int} (h0 : a0 ≤ (2 : Int)) : 26 * a0 + 25 < 78 := by omega
theorem ox_745 {a0 a1 a2 : Int} (h0 : (0 : Int) ≤ a0) (h1 : a0 ≤ (2 : Int)) (h2 : 0 ≤ a1) (h3 : a2 ≤ 78) (h4 : a2 = 26 * a0 + 26) (h5 : a1 = 26 * a0) : (26 * a0 + 25) % 26 < 10 ∨ 15 ≤ (26 * a0 + 25) % 26 := by omega
theorem ox_746 {a0 : Int} (h0 : 0 ≤ a0) (h1 : a0 < 3) : (0 : Int) ≤ a0 := by omega
theorem ox_747 {a0 : Int} (h0 : 0 ≤ a0) (h1 : a0 < 3) : a0 ≤ (2 : Int) := by omega
theorem ox_748 {a0 : Int} (h0 : 0 ≤ a0) (h1 : a0 < 3) : 0 ≤ a0 := by omega
theorem ox_749 {a0 : Int} (h0 : 0 ≤ a0) (h1 : a0 < 3) : a0 < 3 := by omega
theorem ox_750 {a0 a1 a2 : Int} (h0 : (0 : Int) ≤ a0) (h1 : a0 ≤ (2 : Int)) (h2 : 0 ≤ a1) (h3 : a2 ≤ 78) (h4 : a2 = 26 * a0 + 26) (h5 : a1 = 26 * a0) : (26 * a0 + 10) % 26 = 10 := by omega
theorem ox_751 {a0 : Int} (h0 : a0 = 0) : a0 ≤ (40 : Int) := by omega
theorem ox_752 {a0 : Int} (h0 : a0 = 0) : a0 + a0 ≤ (40 : Int) := by omega
theorem ox_753 {a0 : Int} (h0 : 0 ≤ a0) (h1 : a0 < 3) : a0 ≤ 2 := by omega
theorem ox_754 {a0 a1 a2 : Int} (h0 : (0 : Int) ≤ a0) (h1 : a0 ≤ (100000 : Int)) (h2 : a1 < 0) (h3 : a2 = (-1)) : (((0 : Int) ≤ a1) ∧ (a1 ≤ (1000 : Int)) ∧ (a0 + a1 ≤ (100000 : Int)) ∧ (a2 = a0 + a1) ∧ (a0 = a0 + a1)) ∨ (((a1 + 1 ≤ (0 : Int)) ∨ ((1001 : Int) ≤ a1) ∨ ((100001 : Int) ≤ a0 + a1)) ∧ (a2 + 1 = (0 : Int)) ∧ (a0 = a0)) := by omega
theorem ox_755 {a0 a1 a2 : Int} (h0 : 1000 < a0) (h1 : a1 = (-1)) : (((0 : Int) ≤ a0) ∧ (a0 ≤ (1000 : Int)) ∧ (a2 + a0 ≤ (100000 : Int)) ∧ (a1 = a2 + a0) ∧ (a2 = a2 + a0)) ∨ (((a0 + 1 ≤ (0 : Int)) ∨ ((1001 : Int) ≤ a0) ∨ ((100001 : Int) ≤ a2 + a0)) ∧ (a1 + 1 = (0 : Int)) ∧ (a2 = a2)) := by omega
theorem ox_756 {a0 a1 : Int} (h0 : (0 : Int) ≤ a0) (h1 : 0 ≤ a1) : (-2147483648) ≤ a0 + a1 := by omega
theorem ox_757 {a0 a1 : Int} (h0 : a0 ≤ (100000 : Int)) (h1 : a1 ≤ 1000) : a0 + a1 ≤ 2147483647 := by omega
theorem ox_758 {a0 a1 a2 a3 : Int} (h0 : 0 ≤ a0) (h1 : a0 ≤ 1000) (h2 : a1 ≤ 100000) (h3 : a1 = a2 + a0) (h4 : a3 = a2 + a0) : (((0 : Int) ≤ a0) ∧ (a0 ≤ (1000 : Int)) ∧ (a2 + a0 ≤ (100000 : Int)) ∧ (a3 = a2 + a0) ∧ (a3 = a2 + a0)) ∨ (((a0 + 1 ≤ (0 : Int)) ∨ ((1001 : Int) ≤ a0) ∨ ((100001 : Int) ≤ a2 + a0)) ∧ (a3 + 1 = (0 : Int)) ∧ (a3 = a2)) := by omega
theorem ox_759 {a0 a1 a2 : Int} (h0 : (0 : Int) ≤ a0) (h1 : 0 ≤ a1) (h2 : a2 = a0 + a1) : (0 : Int) ≤ a2 := by omega
theorem ox_760 {a0 a1 a2 a3 : Int} (h0 : a0 ≤ 100000) (h1 : a0 = a1 + a2) (h2 : a3 = a1 + a2) : a3 ≤ (100000 : Int) := by omega
theorem ox_761 {a0 a1 a2 a3 : Int} (h0 : 100000 < a0) (h1 : a0 = a1 + a2) (h2 : a3 = (-1)) : (((0 : Int) ≤ a2) ∧ (a2 ≤ (1000 : Int)) ∧ (a1 + a2 ≤ (100000 : Int)) ∧ (a3 = a1 + a2) ∧ (a1 = a1 + a2)) ∨ (((a2 + 1 ≤ (0 : Int)) ∨ ((1001 : Int) ≤ a2) ∨ ((100001 : Int) ≤ a1 + a2)) ∧ (a3 + 1 = (0 : Int)) ∧ (a1 = a1)) := by omega
theorem ox_762 {a0 a1 a2 a3 : Int} (h0 : a0 < a1) (h1 : a2 = 0) : ((a0 + 1 ≤ a1) ∧ (a2 = (0 : Int))) ∨ ((a1 ≤ a0) ∧ (a3 + 1 ≤ a0) ∧ (a2 = (0 : Int))) ∨ ((a1 ≤ a0) ∧ (a0 ≤ a3) ∧ (a2 = (1 : Int))) := by omega
theorem ox_763 {a0 a1 a2 a3 : Int} (h0 : a1 ≤ a0) (h1 : a2 < a0) (h2 : a3 = 0) : ((a0 + 1 ≤ a1) ∧ (a3 = (0 : Int))) ∨ ((a1 ≤ a0) ∧ (a2 + 1 ≤ a0) ∧ (a3 = (0 : Int))) ∨ ((a1 ≤ a0) ∧ (a0 ≤ a2) ∧ (a3 = (1 : Int))) := by omega
theorem ox_764 {a0 a1 a2 a3 : Int} (h0 : a1 ≤ a0) (h1 : a0 ≤ a2) (h2 : a3 = 1) : ((a0 + 1 ≤ a1) ∧ (a3 = (0 : Int))) ∨ ((a1 ≤ a0) ∧ (a2 + 1 ≤ a0) ∧ (a3 = (0 : Int))) ∨ ((a1 ≤ a0) ∧ (a0 ≤ a2) ∧ (a3 = (1 : Int))) := by omega
theorem ox_765 {a0 a1 a2 a3 a4 a5 : Int} (h0 : ((a0 + 1 ≤ a1) ∧ (a2 = (0 : Int))) ∨ ((a1 ≤ a0) ∧ (a3 + 1 ≤ a0) ∧ (a2 = (0 : Int))) ∨ ((a1 ≤ a0) ∧ (a0 ≤ a3) ∧ (a2 = (1 : Int)))) (h1 : a2 = 0) (h2 : a3 = 1000) (h3 : a1 = 0) (h4 : a4 = (-1)) : (((0 : Int) ≤ a0) ∧ (a0 ≤ (1000 : Int)) ∧ (a5 + a0 ≤ (100000 : Int)) ∧ (a4 = a5 + a0) ∧ (a5 = a5 + a0)) ∨ (((a0 + 1 ≤ (0 : Int)) ∨ ((1001 : Int) ≤ a0) ∨ ((100001 : Int) ≤ a5 + a0)) ∧ (a4 + 1 = (0 : Int)) ∧ (a5 = a5)) := by omega
theorem ox_766 {a0 a1 a2 a3 : Int} (h0 : ((a0 + 1 ≤ a1) ∧ (a2 = (0 : Int))) ∨ ((a1 ≤ a0) ∧ (a3 + 1 ≤ a0) ∧ (a2 = (0 : Int))) ∨ ((a1 ≤ a0) ∧ (a0 ≤ a3) ∧ (a2 = (1 : Int)))) (h1 : a2 ≠ 0) (h2 : a3 = 1000) (h3 : a1 = 0) : (0 : Int) ≤ a0 := by omega
theorem ox_767 {a0 a1 a2 a3 : Int} (h0 : ((a0 + 1 ≤ a1) ∧ (a2 = (0 : Int))) ∨ ((a1 ≤ a0) ∧ (a3 + 1 ≤ a0) ∧ (a2 = (0 : Int))) ∨ ((a1 ≤ a0) ∧ (a0 ≤ a3) ∧ (a2 = (1 : Int)))) (h1 : a2 ≠ 0) (h2 : a3 = 1000) (h3 : a1 = 0) : a0 ≤ (1000 : Int) := by omega
theorem ox_768 {a0 a1 a2 a3 : Int} (h0 : ((a0 + 1 ≤ a1) ∧ (a2 = (0 : Int))) ∨ ((a1 ≤ a0) ∧ (a3 + 1 ≤ a0) ∧ (a2 = (0 : Int))) ∨ ((a1 ≤ a0) ∧ (a0 ≤ a3) ∧ (a2 = (1 : Int)))) (h1 : a2 ≠ 0) (h2 : a3 = 1000) (h3 : a1 = 0) : a2 = (1 : Int) := by omega
theorem ox_769 {a0 a1 : Int} (h0 : (0 : Int) ≤ a0) (h1 : (0 : Int) ≤ a1) : (-2147483648) ≤ a0 + a1 := by omega
theorem ox_770 {a0 a1 : Int} (h0 : a0 ≤ (100000 : Int)) (h1 : a1 ≤ (1000 : Int)) : a0 + a1 ≤ 2147483647 := by omega
theorem ox_771 {a0 a1 a2 a3 : Int} (h0 : (0 : Int) ≤ a0) (h1 : a0 ≤ (1000 : Int)) (h2 : a1 ≤ 100000) (h3 : a1 = a2 + a0) (h4 : a3 = a2 + a0) : (((0 : Int) ≤ a0) ∧ (a0 ≤ (1000 : Int)) ∧ (a2 + a0 ≤ (100000 : Int)) ∧ (a3 = a2 + a0) ∧ (a3 = a2 + a0)) ∨ (((a0 + 1 ≤ (0 : Int)) ∨ ((1001 : Int) ≤ a0) ∨ ((100001 : Int) ≤ a2 + a0)) ∧ (a3 + 1 = (0 : Int)) ∧ (a3 = a2)) := by omega
theorem ox_772 {a0 a1 a2 : Int} (h0 : (0 : Int) ≤ a0) (h1 : (0 : Int) ≤ a1) (h2 : a2 = a0 + a1) : (0 : Int) ≤ a2 := by omega

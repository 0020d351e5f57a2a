theorem ox_998 {a0 : Int} (h0 : (0 : Int) ≤ a0) (h1 : a0 ≤ (1 : Int)) (h2 : a0 = (0 : Int)) : 0 ≤ a0 := by omega
theorem ox_999 {a0 : Int} (h0 : (0 : Int) ≤ a0) (h1 : a0 ≤ (1 : Int)) (h2 : a0 = (0 : Int)) : a0 < 2 := by omega
theorem ox_1000 {a0 : Int} (h0 : (0 : Int) ≤ a0) (h1 : a0 ≤ (1 : Int)) (h2 : a0 = (0 : Int)) : (-2147483648) ≤ 560 * a0 := by omega
theorem ox_1001 {a0 : Int} (h0 : (0 : Int) ≤ a0) (h1 : a0 ≤ (1 : Int)) (h2 : a0 = (0 : Int)) : 560 * a0 ≤ 2147483647 := by omega
theorem ox_1002 {a0 a1 : Int} (h0 : a0 = 560 * a1) : a0 = 560 * a1 := by omega
theorem ox_1003 {a0 a1 : Int} (h0 : a0 = (0 : Int)) (h1 : a1 = (0 : Int)) : a1 = a0 := by omega
theorem ox_1004 {a0 : Int} (h0 : (0 : Int) ≤ a0) (h1 : a0 ≤ (1 : Int)) : a0 < 2 := by omega
theorem ox_1005 {a0 : Int} (h0 : -1 * a0 + 26 < 0) (h1 : (0 : Int) ≤ a0) (h2 : a0 ≤ (26 : Int)) : False := by omega
theorem ox_1006 : 0 ≤ (25 : Int) := by omega
theorem ox_1007 : (25 : Int) < 26 := by omega
theorem ox_1008 : ((25 : Int)) % 26 < 10 ∨ 15 ≤ ((25 : Int)) % 26 := by omega
theorem ox_1009 {a0 : Int} (h0 : (0 : Int) ≤ a0) : (-2147483648) ≤ 20 + a0 := by omega
theorem ox_1010 {a0 : Int} (h0 : a0 ≤ (4 : Int)) : 20 + a0 ≤ 2147483647 := by omega
theorem ox_1011 {a0 a1 : Int} (h0 : a0 = 20 + a1) : a0 = a1 + 20 := by omega
theorem ox_1012 {a0 : Int} (h0 : (0 : Int) ≤ a0) (h1 : a0 ≤ (1 : Int)) : (-2147483648) ≤ 4 * a0 := by omega
theorem ox_1013 {a0 : Int} (h0 : (0 : Int) ≤ a0) (h1 : a0 ≤ (1 : Int)) : 4 * a0 ≤ 2147483647 := by omega
theorem ox_1014 {a0 a1 : Int} (h0 : a0 = 4 * a1) : a0 = 4 * a1 := by omega
theorem ox_1015 {a0 a1 a2 : Int} (h0 : (0 : Int) ≤ a0) (h1 : (0 : Int) ≤ a1) (h2 : a2 = 4 * a0) : (-2147483648) ≤ a2 + a1 := by omega
theorem ox_1016 {a0 a1 a2 : Int} (h0 : a0 ≤ (1 : Int)) (h1 : a1 ≤ (4 : Int)) (h2 : a2 = 4 * a0) : a2 + a1 ≤ 2147483647 := by omega
theorem ox_1017 {a0 a1 a2 a3 : Int} (h0 : a0 = a1 + a2) (h1 : a1 = 4 * a3) : a0 = a2 + 4 * a3 := by omega
theorem ox_1018 {a0 a1 : Int} (h0 : (0 : Int) ≤ a0) (h1 : (0 : Int) ≤ a1) : 0 ≤ a1 + 4 * a0 := by omega
theorem ox_1019 {a0 a1 a2 a3 : Int} (h0 : a0 ≤ (1 : Int)) (h1 : 0 ≤ a1 ∧ a1 ≤ 4) (h2 : a3 < a2) (h3 : a2 = a1) : a3 + 4 * a0 < 8 := by omega
theorem ox_1020 {a0 : Int} (h0 : (0 : Int) ≤ a0) : 0 ≤ a0 + 20 := by omega
theorem ox_1021 {a0 : Int} (h0 : a0 ≤ (4 : Int)) : a0 + 20 < 26 := by omega
theorem ox_1022 {a0 a1 a2 a3 : Int} (h0 : 0 ≤ a0 ∧ a0 ≤ 4) (h1 : (0 : Int) ≤ a1) (h2 : a1 ≤ (4 : Int)) (h3 : -1 * a1 + 4 < a2 + 1) (h4 : a1 < a3) (h5 : a3 = a0) : (a1 + 20) % 26 < 10 ∨ 15 ≤ (a1 + 20) % 26 := by omega
theorem ox_1023 {a0 a1 a2 a3 : Int} (h0 : 0 ≤ a0 ∧ a0 ≤ 4) (h1 : a2 < a1) (h2 : a1 = a0) (h3 : a3 = a2 + 1) : a3 ≤ (4 : Int) := by omega
theorem ox_1024 {a0 : Int} (h0 : (0 : Int) ≤ a0) : (-2147483648) ≤ 0 + a0 := by omega
theorem ox_1025 {a0 : Int} (h0 : a0 ≤ (5 : Int)) : 0 + a0 ≤ 2147483647 := by omega
theorem ox_1026 {a0 a1 : Int} (h0 : a0 = 0 + a1) : a0 = a1 := by omega
theorem ox_1027 {a0 : Int} (h0 : a0 ≤ (5 : Int)) : a0 < 26 := by omega
theorem ox_1028 {a0 a1 : Int} (h0 : (0 : Int) ≤ a0) (h1 : a0 ≤ (5 : Int)) (h2 : -1 * a0 + 5 < a1 + 1) (h3 : a0 < 5) : (a0) % 26 < 10 ∨ 15 ≤ (a0) % 26 := by omega
theorem ox_1029 {a0 : Int} (h0 : a0 < 26) : a0 < 26 := by omega
theorem ox_1030 {a0 : Int} (h0 : a0 ≤ (26 : Int)) : a0 + 1 ≤ 2147483647 := by omega
theorem ox_1031 {a0 a1 : Int} (h0 : a0 < 26) (h1 : a1 = a0 + 1) : a1 ≤ (26 : Int) := by omega
theorem ox_1032 {a0 a1 a2 : Int} (h0 : -1 * a0 + 26 < a1 + 1) (h1 : a2 = a0 + 1) : -1 * a2 + 26 < a1 := by omega
theorem ox_1033 {a0 : Int} (h0 : a0 = 0) : a0 ≤ (26 : Int) := by omega
theorem ox_1034 {a0 : Int} (h0 : a0 = 0) : 0 ≤ -1 * a0 + 26 := by omega

theorem ob_0 {a0 a1 : Int} (h0 : a0 = 0) (h1 : a1 = 0) : a1 = a0 := by omega
theorem ob_1 {a0 : Int} (h0 : a0 = 0) : (0 : Int) ≤ a0 := by omega
theorem ob_2 {a0 : Int} (h0 : a0 = 0) : a0 ≤ (255 : Int) := by omega
theorem ob_3 {a0 a1 a2 : Int} (h0 : a0 = 0) : (a1 + 1 ≤ a2) ∨ (a0 = (0 : Int)) := by omega
theorem ob_4 {a0 a1 : Int} (h0 : (0 : Int) ≤ a0) (h1 : a0 < a1) : 0 ≤ a0 := by omega
theorem ob_5 {a0 a1 : Int} (h0 : a0 ≤ (1600 : Int)) (h1 : a1 < a0) : a1 < 1600 := by omega
theorem ob_6 {a0 a1 : Int} (h0 : a0 = a1) : a0 = a1 := by omega
theorem ob_7 {a0 : Int} (h0 : 0 ≤ a0 ∧ a0 ≤ 255) : (0 : Int) ≤ a0 := by omega
theorem ob_8 {a0 : Int} (h0 : 0 ≤ a0 ∧ a0 ≤ 255) : a0 ≤ (255 : Int) := by omega
theorem ob_9 {a0 a1 a2 : Int} (h0 : a1 < a0) : (a1 + 1 ≤ a0) ∨ (a2 = (0 : Int)) := by omega
theorem ob_10 {a0 a1 : Int} (h0 : a0 < 97) (h1 : a1 = 0) : ((a0 ≤ (96 : Int)) ∧ (a1 = (0 : Int))) ∨ (((97 : Int) ≤ a0) ∧ ((123 : Int) ≤ a0) ∧ (a1 = (0 : Int))) ∨ (((97 : Int) ≤ a0) ∧ (a0 ≤ (122 : Int)) ∧ (a1 = (1 : Int))) := by omega
theorem ob_11 {a0 : Int} (h0 : a0 = 0) : a0 ≤ (1 : Int) := by omega
theorem ob_12 {a0 a1 : Int} (h0 : 97 ≤ a0) (h1 : 122 < a0) (h2 : a1 = 0) : ((a0 ≤ (96 : Int)) ∧ (a1 = (0 : Int))) ∨ (((97 : Int) ≤ a0) ∧ ((123 : Int) ≤ a0) ∧ (a1 = (0 : Int))) ∨ (((97 : Int) ≤ a0) ∧ (a0 ≤ (122 : Int)) ∧ (a1 = (1 : Int))) := by omega
theorem ob_13 {a0 a1 : Int} (h0 : 97 ≤ a0) (h1 : a0 ≤ 122) (h2 : a1 = 1) : ((a0 ≤ (96 : Int)) ∧ (a1 = (0 : Int))) ∨ (((97 : Int) ≤ a0) ∧ ((123 : Int) ≤ a0) ∧ (a1 = (0 : Int))) ∨ (((97 : Int) ≤ a0) ∧ (a0 ≤ (122 : Int)) ∧ (a1 = (1 : Int))) := by omega
theorem ob_14 {a0 : Int} (h0 : a0 = 1) : (0 : Int) ≤ a0 := by omega
theorem ob_15 {a0 : Int} (h0 : a0 = 1) : a0 ≤ (1 : Int) := by omega
theorem ob_16 {a0 a1 : Int} (h0 : a0 < 48) (h1 : a1 = 0) : ((a0 ≤ (47 : Int)) ∧ (a1 = (0 : Int))) ∨ (((48 : Int) ≤ a0) ∧ ((58 : Int) ≤ a0) ∧ (a1 = (0 : Int))) ∨ (((48 : Int) ≤ a0) ∧ (a0 ≤ (57 : Int)) ∧ (a1 = (1 : Int))) := by omega
theorem ob_17 {a0 a1 : Int} (h0 : 48 ≤ a0) (h1 : 57 < a0) (h2 : a1 = 0) : ((a0 ≤ (47 : Int)) ∧ (a1 = (0 : Int))) ∨ (((48 : Int) ≤ a0) ∧ ((58 : Int) ≤ a0) ∧ (a1 = (0 : Int))) ∨ (((48 : Int) ≤ a0) ∧ (a0 ≤ (57 : Int)) ∧ (a1 = (1 : Int))) := by omega
theorem ob_18 {a0 a1 : Int} (h0 : 48 ≤ a0) (h1 : a0 ≤ 57) (h2 : a1 = 1) : ((a0 ≤ (47 : Int)) ∧ (a1 = (0 : Int))) ∨ (((48 : Int) ≤ a0) ∧ ((58 : Int) ≤ a0) ∧ (a1 = (0 : Int))) ∨ (((48 : Int) ≤ a0) ∧ (a0 ≤ (57 : Int)) ∧ (a1 = (1 : Int))) := by omega
theorem ob_19 {a0 : Int} (h0 : (1 : Int) ≤ a0) : (1 : Int) ≤ a0 := by omega
theorem ob_20 {a0 : Int} (h0 : (1 : Int) ≤ a0) : (0 : Int) ≤ a0 := by omega
theorem ob_21 {a0 : Int} (h0 : (0 : Int) ≤ a0) (h1 : 0 < a0) : (1 : Int) ≤ a0 := by omega
theorem ob_22 {a0 : Int} (h0 : (0 : Int) ≤ a0) (h1 : a0 ≠ 0) : (1 : Int) ≤ a0 := by omega
theorem ob_23 {a0 a1 : Int} (h0 : (0 : Int) ≤ a0) (h1 : (1 : Int) ≤ a0) (h2 : a1 = 0) : ((a0 ≠ (0 : Int)) ∧ ((1 : Int) ≤ a0) ∧ (a1 = (0 : Int))) ∨ ((a0 = (0 : Int)) ∧ (a1 = (1 : Int))) := by omega
theorem ob_24 {a0 a1 : Int} (h0 : (0 : Int) ≤ a0) (h1 : a0 = 0) (h2 : a1 = 1) : ((a0 ≠ (0 : Int)) ∧ ((1 : Int) ≤ a0) ∧ (a1 = (0 : Int))) ∨ ((a0 = (0 : Int)) ∧ (a1 = (1 : Int))) := by omega
theorem ob_25 {a0 : Int} (h0 : a0 = 0) : a0 = (0 : Int) := by omega
theorem ob_26 {a0 a1 a2 : Int} (h0 : (a0 = 0 ∧ a1 = a2) ∨ (a0 ≠ 0 ∧ a1 ≠ a2)) (h1 : a0 = 0) (h2 : a0 = (0 : Int)) (h3 : a2 = 7021235455869215084) : a1 = (7021235455869215084 : Int) := by omega
theorem ob_27 {a0 a1 a2 : Int} (h0 : (a0 = 0 ∧ a1 = a2) ∨ (a0 ≠ 0 ∧ a1 ≠ a2)) (h1 : a0 ≠ 0) (h2 : a2 = 7021235455869215084) : a0 ≠ (0 : Int) := by omega
theorem ob_28 {a0 a1 a2 : Int} (h0 : (a0 = 0 ∧ a1 = a2) ∨ (a0 ≠ 0 ∧ a1 ≠ a2)) (h1 : a0 ≠ 0) (h2 : a0 ≠ (0 : Int)) (h3 : a2 = 7021235455869215084) : a1 ≠ (7021235455869215084 : Int) := by omega
theorem ob_29 {a0 a1 a2 : Int} (h0 : (a0 = 0 ∧ a1 = a2) ∨ (a0 ≠ 0 ∧ a1 ≠ a2)) (h1 : a0 = 0) (h2 : a2 = 1953853029) : a1 = (1953853029 : Int) := by omega
theorem ob_30 {a0 a1 a2 : Int} (h0 : (a0 = 0 ∧ a1 = a2) ∨ (a0 ≠ 0 ∧ a1 ≠ a2)) (h1 : a0 ≠ 0) (h2 : a2 = 1953853029) : a0 ≠ (0 : Int) := by omega
theorem ob_31 {a0 a1 a2 : Int} (h0 : (a0 = 0 ∧ a1 = a2) ∨ (a0 ≠ 0 ∧ a1 ≠ a2)) (h1 : a0 ≠ 0) (h2 : a2 = 1953853029) : a1 ≠ (1953853029 : Int) := by omega
theorem ob_32 {a0 a1 a2 : Int} (h0 : (a0 = 0 ∧ a1 = a2) ∨ (a0 ≠ 0 ∧ a1 ≠ a2)) (h1 : a0 = 0) (h2 : a2 = 482955846501) : a1 = (482955846501 : Int) := by omega
theorem ob_33 {a0 a1 a2 : Int} (h0 : (a0 = 0 ∧ a1 = a2) ∨ (a0 ≠ 0 ∧ a1 ≠ a2)) (h1 : a0 ≠ 0) (h2 : a2 = 482955846501) : a0 ≠ (0 : Int) := by omega
theorem ob_34 {a0 a1 a2 : Int} (h0 : (a0 = 0 ∧ a1 = a2) ∨ (a0 ≠ 0 ∧ a1 ≠ a2)) (h1 : a0 ≠ 0) (h2 : a2 = 482955846501) : a1 ≠ (482955846501 : Int) := by omega
theorem ob_35 {a0 a1 a2 : Int} (h0 : (a0 = 0 ∧ a1 = a2) ∨ (a0 ≠ 0 ∧ a1 ≠ a2)) (h1 : a0 = 0) (h2 : a2 = 474316301683) : a1 = (474316301683 : Int) := by omega
theorem ob_36 {a0 a1 a2 : Int} (h0 : (a0 = 0 ∧ a1 = a2) ∨ (a0 ≠ 0 ∧ a1 ≠ a2)) (h1 : a0 ≠ 0) (h2 : a2 = 474316301683) : a0 ≠ (0 : Int) := by omega
theorem ob_37 {a0 a1 a2 : Int} (h0 : (a0 = 0 ∧ a1 = a2) ∨ (a0 ≠ 0 ∧ a1 ≠ a2)) (h1 : a0 ≠ 0) (h2 : a2 = 474316301683) : a1 ≠ (474316301683 : Int) := by omega
theorem ob_38 {a0 a1 a2 : Int} (h0 : (a0 = 0 ∧ a1 = a2) ∨ (a0 ≠ 0 ∧ a1 ≠ a2)) (h1 : a0 = 0) (h2 : a2 = 448546567013) : a1 = (448546567013 : Int) := by omega
theorem ob_39 {a0 a1 a2 : Int} (h0 : (a0 = 0 ∧ a1 = a2) ∨ (a0 ≠ 0 ∧ a1 ≠ a2)) (h1 : a0 ≠ 0) (h2 : a2 = 448546567013) : a0 ≠ (0 : Int) := by omega
theorem ob_40 {a0 a1 a2 : Int} (h0 : (a0 = 0 ∧ a1 = a2) ∨ (a0 ≠ 0 ∧ a1 ≠ a2)) (h1 : a0 ≠ 0) (h2 : a2 = 448546567013) : a1 ≠ (448546567013 : Int) := by omega
theorem ob_41 {a0 a1 a2 : Int} (h0 : (a0 = 0 ∧ a1 = a2) ∨ (a0 ≠ 0 ∧ a1 ≠ a2)) (h1 : a0 = 0) (h2 : a2 = 24948) : a1 = (24948 : Int) := by omega
theorem ob_42 {a0 a1 a2 : Int} (h0 : (a0 = 0 ∧ a1 = a2) ∨ (a0 ≠ 0 ∧ a1 ≠ a2)) (h1 : a0 ≠ 0) (h2 : a2 = 24948) : a0 ≠ (0 : Int) := by omega
theorem ob_43 {a0 a1 a2 : Int} (h0 : (a0 = 0 ∧ a1 = a2) ∨ (a0 ≠ 0 ∧ a1 ≠ a2)) (h1 : a0 ≠ 0) (h2 : a2 = 24948) : a1 ≠ (24948 : Int) := by omega
theorem ob_44 {a0 a1 a2 : Int} (h0 : (a0 = 0 ∧ a1 = a2) ∨ (a0 ≠ 0 ∧ a1 ≠ a2)) (h1 : a0 = 0) (h2 : a2 = 483006772069) : a1 = (483006772069 : Int) := by omega
theorem ob_45 {a0 a1 a2 : Int} (h0 : (a0 = 0 ∧ a1 = a2) ∨ (a0 ≠ 0 ∧ a1 ≠ a2)) (h1 : a0 ≠ 0) (h2 : a2 = 483006772069) : a0 ≠ (0 : Int) := by omega
theorem ob_46 {a0 a1 a2 : Int} (h0 : (a0 = 0 ∧ a1 = a2) ∨ (a0 ≠ 0 ∧ a1 ≠ a2)) (h1 : a0 ≠ 0) (h2 : a2 = 483006772069) : a1 ≠ (483006772069 : Int) := by omega
theorem ob_47 {a0 a1 a2 : Int} (h0 : (a0 = 0 ∧ a1 = a2) ∨ (a0 ≠ 0 ∧ a1 ≠ a2)) (h1 : a0 = 0) (h2 : a2 = 465625113971) : a1 = (465625113971 : Int) := by omega
theorem ob_48 {a0 a1 a2 : Int} (h0 : (a0 = 0 ∧ a1 = a2) ∨ (a0 ≠ 0 ∧ a1 ≠ a2)) (h1 : a0 ≠ 0) (h2 : a2 = 465625113971) : a0 ≠ (0 : Int) := by omega
theorem ob_49 {a0 a1 a2 : Int} (h0 : (a0 = 0 ∧ a1 = a2) ∨ (a0 ≠ 0 ∧ a1 ≠ a2)) (h1 : a0 ≠ 0) (h2 : a2 = 465625113971) : a1 ≠ (465625113971 : Int) := by omega
theorem ob_50 {a0 a1 a2 : Int} (h0 : (a0 = 0 ∧ a1 = a2) ∨ (a0 ≠ 0 ∧ a1 ≠ a2)) (h1 : a0 ≠ 0) (h2 : a2 = 1735156068) : a0 ≠ (0 : Int) := by omega
theorem ob_51 {a0 a1 a2 : Int} (h0 : (a0 = 0 ∧ a1 = a2) ∨ (a0 ≠ 0 ∧ a1 ≠ a2)) (h1 : a0 ≠ 0) (h2 : a2 = 1735156068) : a1 ≠ (1735156068 : Int) := by omega
theorem ob_52 {a0 a1 a2 : Int} (h0 : (a0 = 0 ∧ a1 = a2) ∨ (a0 ≠ 0 ∧ a1 ≠ a2)) (h1 : a0 = 0) (h2 : a2 = 1752526195) : a1 = (1752526195 : Int) := by omega
theorem ob_53 {a0 a1 a2 : Int} (h0 : (a0 = 0 ∧ a1 = a2) ∨ (a0 ≠ 0 ∧ a1 ≠ a2)) (h1 : a0 ≠ 0) (h2 : a2 = 1752526195) : a0 ≠ (0 : Int) := by omega
theorem ob_54 {a0 a1 a2 : Int} (h0 : (a0 = 0 ∧ a1 = a2) ∨ (a0 ≠ 0 ∧ a1 ≠ a2)) (h1 : a0 ≠ 0) (h2 : a2 = 1752526195) : a1 ≠ (1752526195 : Int) := by omega
theorem ob_55 {a0 a1 a2 : Int} (h0 : (a0 = 0 ∧ a1 = a2) ∨ (a0 ≠ 0 ∧ a1 ≠ a2)) (h1 : a0 = 0) (h2 : a2 = 1685217655) : a1 = (1685217655 : Int) := by omega
theorem ob_56 {a0 a1 a2 : Int} (h0 : (a0 = 0 ∧ a1 = a2) ∨ (a0 ≠ 0 ∧ a1 ≠ a2)) (h1 : a0 ≠ 0) (h2 : a2 = 1685217655) : a0 ≠ (0 : Int) := by omega
theorem ob_57 {a0 a1 a2 : Int} (h0 : (a0 = 0 ∧ a1 = a2) ∨ (a0 ≠ 0 ∧ a1 ≠ a2)) (h1 : a0 ≠ 0) (h2 : a2 = 1685217655) : a1 ≠ (1685217655 : Int) := by omega
theorem ob_58 {a0 a1 a2 : Int} (h0 : (a0 = 0 ∧ a1 = a2) ∨ (a0 ≠ 0 ∧ a1 ≠ a2)) (h1 : a0 = 0) (h2 : a2 = 1935764837) : a1 = (1935764837 : Int) := by omega
theorem ob_59 {a0 a1 a2 : Int} (h0 : (a0 = 0 ∧ a1 = a2) ∨ (a0 ≠ 0 ∧ a1 ≠ a2)) (h1 : a0 ≠ 0) (h2 : a2 = 1935764837) : a0 ≠ (0 : Int) := by omega
theorem ob_60 {a0 a1 a2 : Int} (h0 : (a0 = 0 ∧ a1 = a2) ∨ (a0 ≠ 0 ∧ a1 ≠ a2)) (h1 : a0 ≠ 0) (h2 : a2 = 1935764837) : a1 ≠ (1935764837 : Int) := by omega
theorem ob_61 {a0 a1 a2 : Int} (h0 : (a0 = 0 ∧ a1 = a2) ∨ (a0 ≠ 0 ∧ a1 ≠ a2)) (h1 : a0 = 0) (h2 : a2 = 1953854062) : a1 = (1953854062 : Int) := by omega
theorem ob_62 {a0 a1 a2 : Int} (h0 : (a0 = 0 ∧ a1 = a2) ∨ (a0 ≠ 0 ∧ a1 ≠ a2)) (h1 : a0 ≠ 0) (h2 : a2 = 1953854062) : a0 ≠ (0 : Int) := by omega
theorem ob_63 {a0 a1 a2 : Int} (h0 : (a0 = 0 ∧ a1 = a2) ∨ (a0 ≠ 0 ∧ a1 ≠ a2)) (h1 : a0 ≠ 0) (h2 : a2 = 1953854062) : a1 ≠ (1953854062 : Int) := by omega
theorem ob_64 {a0 a1 a2 : Int} (h0 : (a0 = 0 ∧ a1 = a2) ∨ (a0 ≠ 0 ∧ a1 ≠ a2)) (h1 : a0 = 0) (h2 : a2 = 1819242087) : a1 = (1819242087 : Int) := by omega
theorem ob_65 {a0 a1 a2 : Int} (h0 : (a0 = 0 ∧ a1 = a2) ∨ (a0 ≠ 0 ∧ a1 ≠ a2)) (h1 : a0 ≠ 0) (h2 : a2 = 1819242087) : a0 ≠ (0 : Int) := by omega
theorem ob_66 {a0 a1 a2 : Int} (h0 : (a0 = 0 ∧ a1 = a2) ∨ (a0 ≠ 0 ∧ a1 ≠ a2)) (h1 : a0 ≠ 0) (h2 : a2 = 1819242087) : a1 ≠ (1819242087 : Int) := by omega
theorem ob_67 {a0 a1 a2 : Int} (h0 : (a0 = 0 ∧ a1 = a2) ∨ (a0 ≠ 0 ∧ a1 ≠ a2)) (h1 : a0 = 0) (h2 : a2 = 2003792494) : a1 = (2003792494 : Int) := by omega
theorem ob_68 {a0 a1 a2 : Int} (h0 : (a0 = 0 ∧ a1 = a2) ∨ (a0 ≠ 0 ∧ a1 ≠ a2)) (h1 : a0 ≠ 0) (h2 : a2 = 2003792494) : a0 ≠ (0 : Int) := by omega
theorem ob_69 {a0 a1 a2 : Int} (h0 : (a0 = 0 ∧ a1 = a2) ∨ (a0 ≠ 0 ∧ a1 ≠ a2)) (h1 : a0 ≠ 0) (h2 : a2 = 2003792494) : a1 ≠ (2003792494 : Int) := by omega
theorem ob_70 {a0 a1 a2 a3 a4 : Int} (h0 : (a0 = 0 ∧ a1 = a2) ∨ (a0 ≠ 0 ∧ a1 ≠ a2)) (h1 : a0 ≠ 0) (h2 : a0 ≠ (0 : Int)) (h3 : (a3 = 0 ∧ a1 = a4) ∨ (a3 ≠ 0 ∧ a1 ≠ a4)) (h4 : a3 = 0) (h5 : a4 = 512802253683) (h6 : a2 = 7021235455869215084) : a1 = (512802253683 : Int) := by omega
theorem ob_71 {a0 a1 a2 : Int} (h0 : (a0 = 0 ∧ a1 = a2) ∨ (a0 ≠ 0 ∧ a1 ≠ a2)) (h1 : a0 ≠ 0) (h2 : a2 = 512802253683) : a0 ≠ (0 : Int) := by omega
theorem ob_72 {a0 a1 a2 a3 a4 : Int} (h0 : (a0 = 0 ∧ a1 = a2) ∨ (a0 ≠ 0 ∧ a1 ≠ a2)) (h1 : a0 ≠ 0) (h2 : a0 ≠ (0 : Int)) (h3 : (a3 = 0 ∧ a1 = a4) ∨ (a3 ≠ 0 ∧ a1 ≠ a4)) (h4 : a3 ≠ 0) (h5 : a4 = 512802253683) (h6 : a2 = 7021235455869215084) : a1 ≠ (512802253683 : Int) := by omega
theorem ob_73 {a0 a1 a2 a3 a4 a5 a6 : Int} (h0 : (a0 = 0 ∧ a1 = a2) ∨ (a0 ≠ 0 ∧ a1 ≠ a2)) (h1 : a0 ≠ 0) (h2 : a0 ≠ (0 : Int)) (h3 : a1 ≠ (7021235455869215084 : Int)) (h4 : (a3 = 0 ∧ a1 = a4) ∨ (a3 ≠ 0 ∧ a1 ≠ a4)) (h5 : a3 ≠ 0) (h6 : a3 ≠ (0 : Int)) (h7 : (a5 = 0 ∧ a1 = a6) ∨ (a5 ≠ 0 ∧ a1 ≠ a6)) (h8 : a5 = 0) (h9 : a6 = 28530) (h10 : a4 = 1953853029) (h11 : a2 = 7021235455869215084) : a1 = (28530 : Int) := by omega
theorem ob_74 {a0 a1 a2 : Int} (h0 : (a0 = 0 ∧ a1 = a2) ∨ (a0 ≠ 0 ∧ a1 ≠ a2)) (h1 : a0 ≠ 0) (h2 : a2 = 28530) : a0 ≠ (0 : Int) := by omega
theorem ob_75 {a0 a1 a2 a3 a4 a5 a6 : Int} (h0 : (a0 = 0 ∧ a1 = a2) ∨ (a0 ≠ 0 ∧ a1 ≠ a2)) (h1 : a0 ≠ 0) (h2 : a0 ≠ (0 : Int)) (h3 : a1 ≠ (7021235455869215084 : Int)) (h4 : (a3 = 0 ∧ a1 = a4) ∨ (a3 ≠ 0 ∧ a1 ≠ a4)) (h5 : a3 ≠ 0) (h6 : a3 ≠ (0 : Int)) (h7 : (a5 = 0 ∧ a1 = a6) ∨ (a5 ≠ 0 ∧ a1 ≠ a6)) (h8 : a5 ≠ 0) (h9 : a6 = 28530) (h10 : a4 = 1953853029) (h11 : a2 = 7021235455869215084) : a1 ≠ (28530 : Int) := by omega
theorem ob_76 {a0 a1 a2 a3 a4 a5 a6 a7 a8 : Int} (h0 : (a0 = 0 ∧ a1 = a2) ∨ (a0 ≠ 0 ∧ a1 ≠ a2)) (h1 : a0 ≠ 0) (h2 : a0 ≠ (0 : Int)) (h3 : a1 ≠ (7021235455869215084 : Int)) (h4 : (a3 = 0 ∧ a1 = a4) ∨ (a3 ≠ 0 ∧ a1 ≠ a4)) (h5 : a3 ≠ 0) (h6 : a3 ≠ (0 : Int)) (h7 : a1 ≠ (1953853029 : Int)) (h8 : (a5 = 0 ∧ a1 = a6) ∨ (a5 ≠ 0 ∧ a1 ≠ a6)) (h9 : a5 ≠ 0) (h10 : a5 ≠ (0 : Int)) (h11 : (a7 = 0 ∧ a1 = a8) ∨ (a7 ≠ 0 ∧ a1 ≠ a8)) (h12 : a7 = 0) (h13 : a8 = 6385252) (h14 : a6 = 482955846501) (h15 : a4 = 1953853029) (h16 : a2 = 7021235455869215084) : a1 = (6385252 : Int) := by omega
theorem ob_77 {a0 a1 a2 : Int} (h0 : (a0 = 0 ∧ a1 = a2) ∨ (a0 ≠ 0 ∧ a1 ≠ a2)) (h1 : a0 ≠ 0) (h2 : a2 = 6385252) : a0 ≠ (0 : Int) := by omega
theorem ob_78 {a0 a1 a2 a3 a4 a5 a6 a7 a8 : Int} (h0 : (a0 = 0 ∧ a1 = a2) ∨ (a0 ≠ 0 ∧ a1 ≠ a2)) (h1 : a0 ≠ 0) (h2 : a0 ≠ (0 : Int)) (h3 : a1 ≠ (7021235455869215084 : Int)) (h4 : (a3 = 0 ∧ a1 = a4) ∨ (a3 ≠ 0 ∧ a1 ≠ a4)) (h5 : a3 ≠ 0) (h6 : a3 ≠ (0 : Int)) (h7 : a1 ≠ (1953853029 : Int)) (h8 : (a5 = 0 ∧ a1 = a6) ∨ (a5 ≠ 0 ∧ a1 ≠ a6)) (h9 : a5 ≠ 0) (h10 : a5 ≠ (0 : Int)) (h11 : (a7 = 0 ∧ a1 = a8) ∨ (a7 ≠ 0 ∧ a1 ≠ a8)) (h12 : a7 ≠ 0) (h13 : a8 = 6385252) (h14 : a6 = 482955846501) (h15 : a4 = 1953853029) (h16 : a2 = 7021235455869215084) : a1 ≠ (6385252 : Int) := by omega
theorem ob_79 {a0 a1 a2 : Int} (h0 : (a0 = 0 ∧ a1 = a2) ∨ (a0 ≠ 0 ∧ a1 ≠ a2)) (h1 : a0 ≠ 0) (h2 : a2 = 7237492) : a0 ≠ (0 : Int) := by omega
theorem ob_80 {a0 a1 a2 a3 a4 a5 a6 a7 a8 a9 a10 : Int} (h0 : (a0 = 0 ∧ a1 = a2) ∨ (a0 ≠ 0 ∧ a1 ≠ a2)) (h1 : a0 ≠ 0) (h2 : a0 ≠ (0 : Int)) (h3 : a1 ≠ (7021235455869215084 : Int)) (h4 : (a3 = 0 ∧ a1 = a4) ∨ (a3 ≠ 0 ∧ a1 ≠ a4)) (h5 : a3 ≠ 0) (h6 : a3 ≠ (0 : Int)) (h7 : a1 ≠ (1953853029 : Int)) (h8 : (a5 = 0 ∧ a1 = a6) ∨ (a5 ≠ 0 ∧ a1 ≠ a6)) (h9 : a5 ≠ 0) (h10 : a5 ≠ (0 : Int)) (h11 : a1 ≠ (482955846501 : Int)) (h12 : (a7 = 0 ∧ a1 = a8) ∨ (a7 ≠ 0 ∧ a1 ≠ a8)) (h13 : a7 ≠ 0) (h14 : a7 ≠ (0 : Int)) (h15 : (a9 = 0 ∧ a1 = a10) ∨ (a9 ≠ 0 ∧ a1 ≠ a10)) (h16 : a9 ≠ 0) (h17 : a10 = 7237492) (h18 : a8 = 474316301683) (h19 : a6 = 482955846501) (h20 : a4 = 1953853029) (h21 : a2 = 7021235455869215084) : a1 ≠ (7237492 : Int) := by omega
theorem ob_81 {a0 a1 a2 a3 a4 a5 a6 a7 a8 a9 a10 : Int} (h0 : (a0 = 0 ∧ a1 = a2) ∨ (a0 ≠ 0 ∧ a1 ≠ a2)) (h1 : a0 ≠ 0) (h2 : a0 ≠ (0 : Int)) (h3 : a1 ≠ (7021235455869215084 : Int)) (h4 : (a3 = 0 ∧ a1 = a4) ∨ (a3 ≠ 0 ∧ a1 ≠ a4)) (h5 : a3 ≠ 0) (h6 : a3 ≠ (0 : Int)) (h7 : a1 ≠ (1953853029 : Int)) (h8 : (a5 = 0 ∧ a1 = a6) ∨ (a5 ≠ 0 ∧ a1 ≠ a6)) (h9 : a5 ≠ 0) (h10 : a5 ≠ (0 : Int)) (h11 : a1 ≠ (482955846501 : Int)) (h12 : (a7 = 0 ∧ a1 = a8) ∨ (a7 ≠ 0 ∧ a1 ≠ a8)) (h13 : a7 ≠ 0) (h14 : a7 ≠ (0 : Int)) (h15 : (a9 = 0 ∧ a1 = a10) ∨ (a9 ≠ 0 ∧ a1 ≠ a10)) (h16 : a9 = 0) (h17 : a10 = 7237492) (h18 : a8 = 474316301683) (h19 : a6 = 482955846501) (h20 : a4 = 1953853029) (h21 : a2 = 7021235455869215084) : a1 = (7237492 : Int) := by omega
theorem ob_82 {a0 a1 a2 : Int} (h0 : (a0 = 0 ∧ a1 = a2) ∨ (a0 ≠ 0 ∧ a1 ≠ a2)) (h1 : a0 = 0) (h2 : a2 = 1735156068) : a1 = (1735156068 : Int) := by omega
theorem ob_83 {a0 : Int} (h0 : a0 = 40) : a0 ≤ (58 : Int) := by omega
theorem ob_84 {a0 : Int} (h0 : a0 = 41) : a0 ≤ (58 : Int) := by omega
theorem ob_85 {a0 : Int} (h0 : a0 = 41) (h1 : a0 ≤ (58 : Int)) : (41 : Int) ≤ a0 := by omega
theorem ob_86 {a0 : Int} (h0 : a0 = 60) : (60 : Int) ≤ a0 := by omega
theorem ob_87 {a0 : Int} (h0 : a0 = 60) (h1 : (60 : Int) ≤ a0) : (41 : Int) ≤ a0 := by omega
theorem ob_88 {a0 : Int} (h0 : a0 = 60) (h1 : (60 : Int) ≤ a0) (h2 : (41 : Int) ≤ a0) : (42 : Int) ≤ a0 := by omega
theorem ob_89 {a0 : Int} (h0 : a0 = 62) : (60 : Int) ≤ a0 := by omega
theorem ob_90 {a0 : Int} (h0 : a0 = 62) (h1 : (60 : Int) ≤ a0) : (41 : Int) ≤ a0 := by omega
theorem ob_91 {a0 : Int} (h0 : a0 = 62) (h1 : (60 : Int) ≤ a0) (h2 : (41 : Int) ≤ a0) : (42 : Int) ≤ a0 := by omega
theorem ob_92 {a0 : Int} (h0 : a0 = 62) : (61 : Int) ≤ a0 := by omega
theorem ob_93 {a0 : Int} (h0 : a0 = 61) : (60 : Int) ≤ a0 := by omega
theorem ob_94 {a0 : Int} (h0 : a0 = 61) (h1 : (60 : Int) ≤ a0) : (41 : Int) ≤ a0 := by omega
theorem ob_95 {a0 : Int} (h0 : a0 = 61) (h1 : (60 : Int) ≤ a0) (h2 : (41 : Int) ≤ a0) : (42 : Int) ≤ a0 := by omega
theorem ob_96 {a0 : Int} (h0 : a0 = 61) : (61 : Int) ≤ a0 := by omega
theorem ob_97 {a0 : Int} (h0 : a0 = 61) : a0 ≤ (61 : Int) := by omega
theorem ob_98 {a0 : Int} (h0 : a0 = 43) : a0 ≤ (58 : Int) := by omega
theorem ob_99 {a0 : Int} (h0 : a0 = 43) (h1 : a0 ≤ (58 : Int)) : (41 : Int) ≤ a0 := by omega
theorem ob_100 {a0 : Int} (h0 : a0 = 43) (h1 : a0 ≤ (58 : Int)) (h2 : (41 : Int) ≤ a0) : (42 : Int) ≤ a0 := by omega
theorem ob_101 {a0 : Int} (h0 : a0 = 43) : a0 ≤ (59 : Int) := by omega
theorem ob_102 {a0 : Int} (h0 : a0 = 43) : a0 ≤ (61 : Int) := by omega
theorem ob_103 {a0 : Int} (h0 : a0 = 43) : a0 ≤ (60 : Int) := by omega
theorem ob_104 {a0 : Int} (h0 : a0 = 45) : a0 ≤ (58 : Int) := by omega
theorem ob_105 {a0 : Int} (h0 : a0 = 45) (h1 : a0 ≤ (58 : Int)) : (41 : Int) ≤ a0 := by omega
theorem ob_106 {a0 : Int} (h0 : a0 = 45) (h1 : a0 ≤ (58 : Int)) (h2 : (41 : Int) ≤ a0) : (42 : Int) ≤ a0 := by omega
theorem ob_107 {a0 : Int} (h0 : a0 = 45) : a0 ≤ (59 : Int) := by omega
theorem ob_108 {a0 : Int} (h0 : a0 = 45) : a0 ≤ (61 : Int) := by omega
theorem ob_109 {a0 : Int} (h0 : a0 = 45) : a0 ≤ (60 : Int) := by omega
theorem ob_110 {a0 : Int} (h0 : a0 = 45) : (44 : Int) ≤ a0 := by omega
theorem ob_111 {a0 : Int} (h0 : a0 = 42) : a0 ≤ (58 : Int) := by omega
theorem ob_112 {a0 : Int} (h0 : a0 = 42) (h1 : a0 ≤ (58 : Int)) : (41 : Int) ≤ a0 := by omega
theorem ob_113 {a0 : Int} (h0 : a0 = 42) (h1 : a0 ≤ (58 : Int)) (h2 : (41 : Int) ≤ a0) : (42 : Int) ≤ a0 := by omega
theorem ob_114 {a0 : Int} (h0 : a0 = 42) : a0 ≤ (59 : Int) := by omega
theorem ob_115 {a0 : Int} (h0 : a0 = 42) : a0 ≤ (61 : Int) := by omega
theorem ob_116 {a0 : Int} (h0 : a0 = 42) : a0 ≤ (60 : Int) := by omega
theorem ob_117 {a0 : Int} (h0 : a0 = 42) : a0 ≤ (42 : Int) := by omega
theorem ob_118 {a0 : Int} (h0 : a0 = 42) : a0 ≤ (44 : Int) := by omega
theorem ob_119 {a0 : Int} (h0 : a0 = 47) : a0 ≤ (58 : Int) := by omega
theorem ob_120 {a0 : Int} (h0 : a0 = 47) (h1 : a0 ≤ (58 : Int)) : (41 : Int) ≤ a0 := by omega
theorem ob_121 {a0 : Int} (h0 : a0 = 47) (h1 : a0 ≤ (58 : Int)) (h2 : (41 : Int) ≤ a0) : (42 : Int) ≤ a0 := by omega
theorem ob_122 {a0 : Int} (h0 : a0 = 47) : a0 ≤ (59 : Int) := by omega
theorem ob_123 {a0 : Int} (h0 : a0 = 47) : a0 ≤ (61 : Int) := by omega
theorem ob_124 {a0 : Int} (h0 : a0 = 47) : a0 ≤ (60 : Int) := by omega
theorem ob_125 {a0 : Int} (h0 : a0 = 47) : (44 : Int) ≤ a0 := by omega
theorem ob_126 {a0 : Int} (h0 : a0 = 47) : (46 : Int) ≤ a0 := by omega
theorem ob_127 {a0 : Int} (h0 : a0 = 47) : (43 : Int) ≤ a0 := by omega
theorem ob_128 {a0 : Int} (h0 : a0 = 37) : a0 ≤ (58 : Int) := by omega
theorem ob_129 {a0 : Int} (h0 : a0 = 37) (h1 : a0 ≤ (58 : Int)) : a0 ≤ (39 : Int) := by omega
theorem ob_130 {a0 : Int} (h0 : a0 = 37) (h1 : a0 ≤ (58 : Int)) (h2 : a0 ≤ (39 : Int)) : a0 ≤ (40 : Int) := by omega
theorem ob_131 {a0 : Int} (h0 : a0 = 37) : a0 ≤ (59 : Int) := by omega
theorem ob_132 {a0 : Int} (h0 : a0 = 37) : a0 ≤ (61 : Int) := by omega
theorem ob_133 {a0 : Int} (h0 : a0 = 37) : a0 ≤ (60 : Int) := by omega
theorem ob_134 {a0 : Int} (h0 : a0 = 37) : a0 ≤ (42 : Int) := by omega
theorem ob_135 {a0 : Int} (h0 : a0 = 37) : a0 ≤ (44 : Int) := by omega
theorem ob_136 {a0 : Int} (h0 : a0 = 37) : a0 ≤ (41 : Int) := by omega
theorem ob_137 {a0 : Int} (h0 : a0 = 37) : a0 ≤ (46 : Int) := by omega
theorem ob_138 {a0 a1 : Int} (h0 : a0 + -1 * a1 < 0) (h1 : a1 ≤ a0) : False := by omega
theorem ob_139 {a0 : Int} (h0 : (0 : Int) ≤ a0) : (0 : Int) ≤ a0 := by omega
theorem ob_140 {a0 : Int} (h0 : (0 : Int) ≤ a0) : (-2147483648) ≤ a0 + 1 := by omega
theorem ob_141 {a0 : Int} (h0 : a0 ≤ (1600 : Int)) : a0 + 1 ≤ 2147483647 := by omega
theorem ob_142 {a0 a1 : Int} (h0 : a0 = a1 + 1) : a0 = a1 + 1 := by omega
theorem ob_143 {a0 a1 : Int} (h0 : a0 < a1) (h1 : a1 ≤ a0) : False := by omega
theorem ob_144 {a0 a1 a2 : Int} (h0 : a0 ≤ a1) (h1 : (a1 + 1 ≤ a0) ∨ (a2 = (0 : Int))) : a2 = (0 : Int) := by omega
theorem ob_145 {a0 a1 : Int} (h0 : a0 ≤ a1) : a0 ≤ a1 := by omega
theorem ob_146 {a0 : Int} : a0 ≤ a0 := by omega
theorem ob_147 {a0 a1 a2 : Int} (h0 : a0 = 0) : (a0 = (0 : Int)) ∨ (a1 + 1 ≤ a2) := by omega
theorem ob_148 {a0 a1 : Int} (h0 : a1 < a0) : a1 + 1 ≤ a0 := by omega
theorem ob_149 {a0 a1 : Int} (h0 : (0 : Int) ≤ a0) (h1 : a1 = a0 + 1) : (0 : Int) ≤ a1 := by omega
theorem ob_150 {a0 a1 a2 : Int} (h0 : a0 ≤ (1600 : Int)) (h1 : a1 < a0) (h2 : a2 = a1 + 1) : a2 ≤ (1600 : Int) := by omega
theorem ob_151 {a0 a1 a2 : Int} (h0 : a0 ≤ a1) (h1 : a2 = a1 + 1) : a0 ≤ a2 := by omega
theorem ob_152 {a0 a1 a2 : Int} (h0 : a1 < a0) (h1 : a2 = a1 + 1) : a2 ≤ a0 := by omega
theorem ob_153 {a0 a1 a2 a3 : Int} (h0 : a0 + -1 * a1 < a2 + 1) (h1 : a3 = a1 + 1) : a0 + -1 * a3 < a2 := by omega
theorem ob_154 {a0 a1 : Int} (h0 : a1 ≤ a0) (h1 : a0 < a1) : False := by omega
theorem ob_155 {a0 a1 : Int} (h0 : a0 = a1 + 1) : a1 ≤ a0 := by omega
theorem ob_156 {a0 a1 a2 a3 : Int} (h0 : a0 ≤ a1) (h1 : a2 = a1 + 1) (h2 : a3 = 1) : (a3 = (0 : Int)) ∨ (a0 + 1 ≤ a2) := by omega
theorem ob_157 {a0 : Int} (h0 : (0 : Int) ≤ a0) (h1 : a0 ≤ (1 : Int)) (h2 : a0 ≠ 0) : (1 : Int) ≤ a0 := by omega
theorem ob_158 {a0 a1 a2 a3 : Int} (h0 : a0 ≤ a1) (h1 : a2 = a1 + 1) (h2 : a3 = 5) : (a3 = (0 : Int)) ∨ (a0 + 1 ≤ a2) := by omega
theorem ob_159 {a0 a1 a2 : Int} (h0 : ((a0 ≤ (47 : Int)) ∧ (a1 = (0 : Int))) ∨ (((48 : Int) ≤ a0) ∧ ((58 : Int) ≤ a0) ∧ (a1 = (0 : Int))) ∨ (((48 : Int) ≤ a0) ∧ (a0 ≤ (57 : Int)) ∧ (a1 = (1 : Int)))) (h1 : a1 ≠ 0) (h2 : a0 = a2) : (48 : Int) ≤ a2 := by omega
theorem ob_160 {a0 a1 a2 : Int} (h0 : ((a0 ≤ (47 : Int)) ∧ (a1 = (0 : Int))) ∨ (((48 : Int) ≤ a0) ∧ ((58 : Int) ≤ a0) ∧ (a1 = (0 : Int))) ∨ (((48 : Int) ≤ a0) ∧ (a0 ≤ (57 : Int)) ∧ (a1 = (1 : Int)))) (h1 : a1 ≠ 0) (h2 : a0 = a2) : a2 ≤ (57 : Int) := by omega
theorem ob_161 {a0 a1 a2 : Int} (h0 : ((a0 ≤ (47 : Int)) ∧ (a1 = (0 : Int))) ∨ (((48 : Int) ≤ a0) ∧ ((58 : Int) ≤ a0) ∧ (a1 = (0 : Int))) ∨ (((48 : Int) ≤ a0) ∧ (a0 ≤ (57 : Int)) ∧ (a1 = (1 : Int)))) (h1 : a1 ≠ 0) (h2 : a0 = a2) : a1 = (1 : Int) := by omega
theorem ob_162 {a0 : Int} (h0 : (0 : Int) ≤ a0) (h1 : a0 ≤ (1 : Int)) (h2 : a0 = (1 : Int)) : (1 : Int) ≤ a0 := by omega
theorem ob_163 {a0 a1 : Int} (h0 : a0 ≤ (1600 : Int)) (h1 : (0 : Int) ≤ a1) : (-2147483648) ≤ a1 - a0 := by omega
theorem ob_164 {a0 a1 : Int} (h0 : (0 : Int) ≤ a0) (h1 : a1 ≤ (1600 : Int)) : a1 - a0 ≤ 2147483647 := by omega
theorem ob_165 {a0 a1 a2 : Int} (h0 : a0 = a1 - a2) : a0 = a1 + -1 * a2 := by omega
theorem ob_166 {a0 a1 a2 : Int} (h0 : a0 ≤ a1) (h1 : a1 ≤ a2) : a0 ≤ a2 := by omega
theorem ob_167 {a0 a1 a2 a3 a4 : Int} (h0 : a0 ≤ a1) (h1 : 4 < a2) (h2 : a2 = a3 + -1 * a1) (h3 : a4 = 1) : (a4 = (0 : Int)) ∨ (a0 + 1 ≤ a3) := by omega
theorem ob_168 {a0 a1 a2 a3 a4 a5 a6 a7 a8 a9 a10 : Int} (h0 : (0 : Int) ≤ a0) (h1 : a1 ≤ a2) (h2 : ((a3 ≤ (47 : Int)) ∧ (a4 = (0 : Int))) ∨ (((48 : Int) ≤ a3) ∧ ((58 : Int) ≤ a3) ∧ (a4 = (0 : Int))) ∨ (((48 : Int) ≤ a3) ∧ (a3 ≤ (57 : Int)) ∧ (a4 = (1 : Int)))) (h3 : a4 ≠ 0) (h4 : a2 ≤ a5) (h5 : a5 = a2 → a6 = a7) (h6 : ((a8 ≤ (47 : Int)) ∧ (a9 = (0 : Int))) ∨ (((48 : Int) ≤ a8) ∧ ((58 : Int) ≤ a8) ∧ (a9 = (0 : Int))) ∨ (((48 : Int) ≤ a8) ∧ (a8 ≤ (57 : Int)) ∧ (a9 = (1 : Int)))) (h7 : a9 = 0) (h8 : a8 = a6) (h9 : a3 = a7) (h10 : a10 = 4) : (a10 = (0 : Int)) ∨ (a1 + 1 ≤ a5) := by omega
theorem ob_169 {a0 a1 a2 : Int} (h0 : ((a0 ≤ (96 : Int)) ∧ (a1 = (0 : Int))) ∨ (((97 : Int) ≤ a0) ∧ ((123 : Int) ≤ a0) ∧ (a1 = (0 : Int))) ∨ (((97 : Int) ≤ a0) ∧ (a0 ≤ (122 : Int)) ∧ (a1 = (1 : Int)))) (h1 : a1 ≠ 0) (h2 : a0 = a2) : (97 : Int) ≤ a2 := by omega
theorem ob_170 {a0 a1 a2 : Int} (h0 : ((a0 ≤ (96 : Int)) ∧ (a1 = (0 : Int))) ∨ (((97 : Int) ≤ a0) ∧ ((123 : Int) ≤ a0) ∧ (a1 = (0 : Int))) ∨ (((97 : Int) ≤ a0) ∧ (a0 ≤ (122 : Int)) ∧ (a1 = (1 : Int)))) (h1 : a1 ≠ 0) (h2 : a0 = a2) : a2 ≤ (122 : Int) := by omega
theorem ob_171 {a0 a1 a2 : Int} (h0 : ((a0 ≤ (96 : Int)) ∧ (a1 = (0 : Int))) ∨ (((97 : Int) ≤ a0) ∧ ((123 : Int) ≤ a0) ∧ (a1 = (0 : Int))) ∨ (((97 : Int) ≤ a0) ∧ (a0 ≤ (122 : Int)) ∧ (a1 = (1 : Int)))) (h1 : a1 ≠ 0) (h2 : a0 = a2) : a1 = (1 : Int) := by omega
theorem ob_172 {a0 a1 a2 a3 a4 a5 : Int} (h0 : a0 ≤ a1) (h1 : a2 ≤ (57 : Int)) (h2 : a1 ≤ a3) (h3 : a3 = a1 → a4 = a2) (h4 : (97 : Int) ≤ a4) (h5 : a5 = 1) : (a5 = (0 : Int)) ∨ (a0 + 1 ≤ a3) := by omega
theorem ob_173 {a0 a1 a2 : Int} (h0 : (a0 + 1 ≤ a1) ∨ (a2 = (0 : Int))) (h1 : (48 : Int) ≤ a2) : a0 + 1 ≤ a1 := by omega
theorem ob_174 {a0 a1 a2 : Int} (h0 : a0 ≤ (1600 : Int)) (h1 : a1 + 1 ≤ a0) (h2 : a2 = a1 + 1) : a2 ≤ (1600 : Int) := by omega
theorem ob_175 {a0 a1 a2 : Int} (h0 : a0 + 1 ≤ a1) (h1 : a2 = a0 + 1) : a2 ≤ a1 := by omega
theorem ob_176 {a0 : Int} (h0 : a0 ≤ (1600 : Int)) : a0 ≤ (1600 : Int) := by omega
theorem ob_177 {a0 a1 : Int} (h0 : a0 ≤ a1) : 0 ≤ a1 + -1 * a0 := by omega
theorem ob_178 {a0 : Int} (h0 : -1 * a0 + 1600 < 0) (h1 : (0 : Int) ≤ a0) (h2 : a0 ≤ (1600 : Int)) : False := by omega
theorem ob_179 {a0 a1 : Int} (h0 : a0 ≤ (1600 : Int)) (h1 : (1 : Int) ≤ a1) : (-2147483648) ≤ a1 - a0 := by omega
theorem ob_180 {a0 a1 : Int} (h0 : (0 : Int) ≤ a0) (h1 : a1 ≤ (1601 : Int)) : a1 - a0 ≤ 2147483647 := by omega
theorem ob_181 {a0 a1 a2 : Int} (h0 : a0 ≤ a1) (h1 : a1 + 1 ≤ a2) : a0 ≤ a2 := by omega
theorem ob_182 {a0 a1 : Int} (h0 : a0 + 1 ≤ a1) : a0 ≤ a1 := by omega
theorem ob_183 {a0 a1 a2 a3 : Int} (h0 : a0 ≤ a1) (h1 : a1 + 1 ≤ a2) (h2 : a3 = 2) : (a3 = (0 : Int)) ∨ (a0 + 1 ≤ a2) := by omega
theorem ob_184 {a0 a1 a2 a3 : Int} (h0 : a0 ≤ a1) (h1 : a1 + 1 ≤ a2) (h2 : a3 = 3) : (a3 = (0 : Int)) ∨ (a0 + 1 ≤ a2) := by omega
theorem ob_185 {a0 a1 a2 a3 : Int} (h0 : a0 ≤ a1) (h1 : a1 + 1 ≤ a2) (h2 : a3 = 1) : (a3 = (0 : Int)) ∨ (a0 + 1 ≤ a2) := by omega
theorem ob_186 {a0 : Int} (h0 : (0 : Int) ≤ a0) : (-2147483648) ≤ a0 + 8 := by omega
theorem ob_187 {a0 : Int} (h0 : a0 ≤ (1600 : Int)) : a0 + 8 ≤ 2147483647 := by omega
theorem ob_188 {a0 a1 : Int} (h0 : a0 = a1 + 8) : a0 = a1 + 8 := by omega
theorem ob_189 {a0 a1 a2 a3 a4 : Int} (h0 : a0 ≤ 8) (h1 : a2 < a1) (h2 : a3 ≤ a2) (h3 : a3 = a4 + 8) (h4 : a0 = a1 + -1 * a4) : False := by omega
theorem ob_190 {a0 a1 a2 a3 : Int} (h0 : a0 ≤ (1600 : Int)) (h1 : a1 ≤ a0) (h2 : a2 < a1) (h3 : a3 = a2 + 1) : a3 ≤ (1600 : Int) := by omega
theorem ob_191 {a0 a1 a2 : Int} (h0 : -1 * a0 + 1600 < a1 + 1) (h1 : a2 = a0 + 1) : -1 * a2 + 1600 < a1 := by omega
theorem ob_192 {a0 : Int} (h0 : a0 ≤ (1600 : Int)) : 0 ≤ -1 * a0 + 1600 := by omega
theorem ob_193 {a0 : Int} (h0 : (1 : Int) ≤ a0) : (-2147483648) ≤ a0 + 1 := by omega
theorem ob_194 {a0 : Int} (h0 : a0 ≤ (1601 : Int)) : a0 + 1 ≤ 2147483647 := by omega
theorem ob_195 {a0 a1 : Int} (h0 : (1 : Int) ≤ a0) (h1 : a1 = a0 + 1) : (1 : Int) ≤ a1 := by omega
theorem ob_196 {a0 a1 a2 : Int} (h0 : a0 ≤ (1600 : Int)) (h1 : a1 ≤ a0) (h2 : a2 = a1 + 1) : a2 ≤ (1601 : Int) := by omega
theorem ob_197 {a0 a1 a2 : Int} (h0 : a0 + 1 ≤ a1) (h1 : a2 = a1 + 1) : a0 + 1 ≤ a2 := by omega
theorem ob_198 {a0 a1 a2 a3 : Int} (h0 : (a0 + 1 ≤ a1) ∨ (a2 = (0 : Int))) (h1 : (97 : Int) ≤ a2) (h2 : a3 = a0 + 1) : a3 ≤ a1 := by omega
theorem ob_199 {a0 a1 : Int} (h0 : (1 : Int) ≤ a0) (h1 : a1 = a0 + 1) : (0 : Int) ≤ a1 := by omega
theorem ob_200 {a0 a1 : Int} (h0 : (0 : Int) ≤ a0) (h1 : a1 = a0 + 1) : (1 : Int) ≤ a1 := by omega
theorem ob_201 {a0 a1 : Int} (h0 : a0 ≤ (1600 : Int)) (h1 : a1 = a0 + 1) : a1 ≤ (1601 : Int) := by omega
theorem ob_202 {a0 a1 : Int} (h0 : a0 = a1 + 1) : a1 + 1 ≤ a0 := by omega
theorem ob_203 {a0 a1 a2 : Int} (h0 : a1 < a0) (h1 : a2 = a1 + 1) : 0 ≤ a0 + -1 * a2 := by omega
theorem ob_204 {a0 a1 : Int} (h0 : a0 = 10) (h1 : a0 = a1) : a1 ≤ (31 : Int) := by omega
theorem ob_205 {a0 a1 : Int} (h0 : (0 : Int) ≤ a0) (h1 : a0 ≤ a1) : (0 : Int) ≤ a0 := by omega
theorem ob_206 {a0 a1 : Int} (h0 : a0 ≤ (1600 : Int)) (h1 : a1 ≤ a0) : a1 ≤ (1600 : Int) := by omega
theorem ob_207 {a0 a1 a2 a3 : Int} (h0 : a0 ≠ 5) (h1 : a1 = 0) : ((a0 ≠ (5 : Int)) ∧ (a1 = (0 : Int))) ∨ ((a0 = (5 : Int)) ∧ (a2 ≠ a3) ∧ (a1 = (0 : Int))) ∨ ((a0 = (5 : Int)) ∧ (a2 = a3) ∧ (a1 = (1 : Int))) := by omega
theorem ob_208 {a0 a1 a2 a3 a4 : Int} (h0 : a0 ≠ a1) (h1 : a0 = a2) (h2 : a3 = 0) : ((a4 ≠ (5 : Int)) ∧ (a3 = (0 : Int))) ∨ ((a4 = (5 : Int)) ∧ (a2 ≠ a1) ∧ (a3 = (0 : Int))) ∨ ((a4 = (5 : Int)) ∧ (a2 = a1) ∧ (a3 = (1 : Int))) := by omega
theorem ob_209 {a0 a1 a2 a3 a4 : Int} (h0 : a0 = 5) (h1 : a1 = a2) (h2 : a1 = a3) (h3 : a4 = 1) : ((a0 ≠ (5 : Int)) ∧ (a4 = (0 : Int))) ∨ ((a0 = (5 : Int)) ∧ (a3 ≠ a2) ∧ (a4 = (0 : Int))) ∨ ((a0 = (5 : Int)) ∧ (a3 = a2) ∧ (a4 = (1 : Int))) := by omega
theorem ob_210 {a0 a1 a2 a3 : Int} (h0 : a0 ≠ 3) (h1 : a1 = 0) : ((a0 ≠ (3 : Int)) ∧ (a1 = (0 : Int))) ∨ ((a0 = (3 : Int)) ∧ (a2 ≠ a3) ∧ (a1 = (0 : Int))) ∨ ((a0 = (3 : Int)) ∧ (a2 = a3) ∧ (a1 = (1 : Int))) := by omega
theorem ob_211 {a0 a1 a2 : Int} (h0 : (a0 = 0 ∧ a1 = a2) ∨ (a0 ≠ 0 ∧ a1 ≠ a2)) (h1 : a0 ≠ 0) : a0 ≠ (0 : Int) := by omega
theorem ob_212 {a0 a1 a2 : Int} (h0 : (a0 = 0 ∧ a1 = a2) ∨ (a0 ≠ 0 ∧ a1 ≠ a2)) (h1 : a0 ≠ 0) (h2 : a0 ≠ (0 : Int)) : a1 ≠ a2 := by omega
theorem ob_213 {a0 a1 a2 a3 a4 : Int} (h0 : a0 = 3) (h1 : (a1 = 0 ∧ a2 = a3) ∨ (a1 ≠ 0 ∧ a2 ≠ a3)) (h2 : a2 ≠ a3) (h3 : a4 = 0) : ((a0 ≠ (3 : Int)) ∧ (a4 = (0 : Int))) ∨ ((a0 = (3 : Int)) ∧ (a2 ≠ a3) ∧ (a4 = (0 : Int))) ∨ ((a0 = (3 : Int)) ∧ (a2 = a3) ∧ (a4 = (1 : Int))) := by omega
theorem ob_214 {a0 a1 a2 : Int} (h0 : (a0 = 0 ∧ a1 = a2) ∨ (a0 ≠ 0 ∧ a1 ≠ a2)) (h1 : a0 = 0) (h2 : a0 = (0 : Int)) : a1 = a2 := by omega
theorem ob_215 {a0 a1 a2 a3 : Int} (h0 : a0 = 3) (h1 : a1 = a2) (h2 : a3 = 1) : ((a0 ≠ (3 : Int)) ∧ (a3 = (0 : Int))) ∨ ((a0 = (3 : Int)) ∧ (a1 ≠ a2) ∧ (a3 = (0 : Int))) ∨ ((a0 = (3 : Int)) ∧ (a1 = a2) ∧ (a3 = (1 : Int))) := by omega
theorem ob_216 {a0 : Int} (h0 : a0 = 2) : (1 : Int) ≤ a0 := by omega
theorem ob_217 {a0 : Int} (h0 : (0 : Int) ≤ a0) (h1 : (1 : Int) ≤ a0) : (1 : Int) ≤ a0 := by omega
theorem ob_218 {a0 : Int} (h0 : a0 = 1) : (1 : Int) ≤ a0 := by omega
theorem ob_219 {a0 a1 : Int} (h0 : ((a0 ≠ (0 : Int)) ∧ ((1 : Int) ≤ a0) ∧ (a1 = (0 : Int))) ∨ ((a0 = (0 : Int)) ∧ (a1 = (1 : Int)))) (h1 : a1 ≠ 0) : a0 = (0 : Int) := by omega
theorem ob_220 {a0 a1 : Int} (h0 : ((a0 ≠ (0 : Int)) ∧ ((1 : Int) ≤ a0) ∧ (a1 = (0 : Int))) ∨ ((a0 = (0 : Int)) ∧ (a1 = (1 : Int)))) (h1 : a1 ≠ 0) : a1 = (1 : Int) := by omega
theorem ob_221 {a0 a1 a2 a3 a4 : Int} (h0 : (1 : Int) ≤ a0) : ((1 : Int) ≤ a0) ∨ ((a0 = (0 : Int)) ∧ (a1 = (0 : Int)) ∧ (a2 = (1 : Int)) ∧ ((a3 = (0 : Int)) ∨ (a4 + 1 ≤ a4))) := by omega
theorem ob_222 {a0 : Int} (h0 : 0 ≤ a0 ∧ a0 ≤ 1) (h1 : a0 ≠ 0) : (1 : Int) ≤ a0 := by omega
theorem ob_223 {a0 a1 a2 a3 a4 : Int} (h0 : (0 : Int) ≤ a0) (h1 : 0 ≤ a1 ∧ a1 ≤ 1) (h2 : a1 ≠ 0) (h3 : (a2 = (0 : Int)) ∨ (a3 + 1 ≤ a4)) : ((1 : Int) ≤ a0) ∨ ((a0 = (0 : Int)) ∧ (a0 = (0 : Int)) ∧ (a1 = (1 : Int)) ∧ ((a2 = (0 : Int)) ∨ (a3 + 1 ≤ a4))) := by omega
theorem ob_224 {a0 a1 : Int} (h0 : ((a0 ≠ (0 : Int)) ∧ ((1 : Int) ≤ a0) ∧ (a1 = (0 : Int))) ∨ ((a0 = (0 : Int)) ∧ (a1 = (1 : Int)))) (h1 : a1 = 0) : a0 ≠ (0 : Int) := by omega
theorem ob_225 {a0 a1 : Int} (h0 : (0 : Int) ≤ a0) (h1 : ((a0 ≠ (0 : Int)) ∧ ((1 : Int) ≤ a0) ∧ (a1 = (0 : Int))) ∨ ((a0 = (0 : Int)) ∧ (a1 = (1 : Int)))) (h2 : a0 ≠ (0 : Int)) : (1 : Int) ≤ a0 := by omega
theorem ob_226 {a0 : Int} (h0 : (0 : Int) ≤ a0) (h1 : a0 ≤ (1 : Int)) (h2 : a0 = 0) : a0 = (0 : Int) := by omega
theorem ob_227 {a0 a1 a2 a3 : Int} (h0 : (0 : Int) ≤ a0) (h1 : 0 ≤ a1 ∧ a1 ≤ 1) (h2 : (1 : Int) ≤ a0) : ((1 : Int) ≤ a0) ∨ ((a0 = (0 : Int)) ∧ (a0 = (0 : Int)) ∧ (a1 = (1 : Int)) ∧ ((a2 = (0 : Int)) ∨ (a3 + 1 ≤ a3))) := by omega
theorem ob_228 {a0 a1 : Int} (h0 : a0 = 0) (h1 : a1 = (0 : Int)) (h2 : ((a1 ≠ (0 : Int)) ∧ ((1 : Int) ≤ a1) ∧ (a0 = (0 : Int))) ∨ ((a1 = (0 : Int)) ∧ (a0 = (1 : Int)))) : False := by omega
theorem ob_229 {a0 : Int} (h0 : (0 : Int) ≤ a0) (h1 : a0 = (0 : Int)) : a0 = (0 : Int) := by omega
theorem ob_230 {a0 : Int} (h0 : a0 = 4) : (1 : Int) ≤ a0 := by omega
theorem ob_231 {a0 a1 : Int} (h0 : a0 ≠ 0) (h1 : (1 : Int) ≤ a1) (h2 : ((a1 ≠ (0 : Int)) ∧ ((1 : Int) ≤ a1) ∧ (a0 = (0 : Int))) ∨ ((a1 = (0 : Int)) ∧ (a0 = (1 : Int)))) : False := by omega
theorem ob_232 {a0 : Int} (h0 : (0 : Int) ≤ a0) (h1 : (1 : Int) ≤ a0) : a0 ≠ (0 : Int) := by omega
theorem ob_233 {a0 a1 a2 : Int} (h0 : a0 ≤ a1) (h1 : a2 < a0) : a0 ≤ a1 := by omega
theorem ob_234 {a0 a1 a2 a3 : Int} (h0 : (1 : Int) ≤ a0) : ((1 : Int) ≤ a0) ∨ ((a0 = (0 : Int)) ∧ (a1 = (0 : Int)) ∧ ((a2 = (0 : Int)) ∨ (a3 + 1 ≤ a3))) := by omega
theorem ob_235 {a0 : Int} (h0 : a0 = (0 : Int)) : a0 = (0 : Int) := by omega
theorem ob_236 {a0 a1 a2 : Int} (h0 : a0 ≤ a1) (h1 : a0 ≤ a2) (h2 : a2 ≤ a1) : a0 ≤ a2 := by omega
theorem ob_237 {a0 a1 a2 : Int} (h0 : a0 ≤ a1) (h1 : a0 ≤ a2) (h2 : a2 ≤ a1) : a2 ≤ a1 := by omega
theorem ob_238 {a0 a1 a2 a3 : Int} (h0 : (0 : Int) ≤ a0) (h1 : (a1 = (0 : Int)) ∨ (a2 + 1 ≤ a3)) : ((1 : Int) ≤ a0) ∨ ((a0 = (0 : Int)) ∧ (a0 = (0 : Int)) ∧ ((a1 = (0 : Int)) ∨ (a2 + 1 ≤ a3))) := by omega
theorem ob_239 {a0 a1 a2 : Int} (h0 : a0 ≤ a1) (h1 : a0 ≤ a2) (h2 : a1 < a2) : a0 ≤ a1 := by omega
theorem ob_240 {a0 : Int} (h0 : (1 : Int) ≤ a0) : a0 ≠ (0 : Int) := by omega
theorem ob_241 {a0 a1 a2 : Int} (h0 : (0 : Int) ≤ a0) (h1 : (1 : Int) ≤ a0) : ((1 : Int) ≤ a0) ∨ ((a0 = (0 : Int)) ∧ (a0 = (0 : Int)) ∧ ((a1 = (0 : Int)) ∨ (a2 + 1 ≤ a2))) := by omega
theorem ob_242 {a0 : Int} (h0 : (0 : Int) ≤ a0) (h1 : a0 ≤ (1 : Int)) : 0 ≤ a0 ∧ a0 ≤ 1 := by omega
theorem ob_243 {a0 a1 a2 a3 a4 a5 a6 a7 a8 : Int} (h0 : a0 ≤ a1) (h1 : ((1 : Int) ≤ a2) ∨ ((a2 = (0 : Int)) ∧ (a3 = (0 : Int)) ∧ (a4 = (1 : Int)) ∧ ((a5 = (0 : Int)) ∨ (a0 + 1 ≤ a1)))) (h2 : ((1 : Int) ≤ a6) ∨ ((a6 = (0 : Int)) ∧ (a2 = (0 : Int)) ∧ ((a7 = (0 : Int)) ∨ (a1 + 1 ≤ a8)))) : ((1 : Int) ≤ a6) ∨ ((a6 = (0 : Int)) ∧ (a3 = (0 : Int)) ∧ ((a7 = (0 : Int)) ∨ (a0 + 1 ≤ a8))) := by omega
theorem ob_244 {a0 a1 : Int} (h0 : (0 : Int) ≤ a0) (h1 : a0 ≤ (1 : Int)) (h2 : a0 + a1 = (1 : Int)) : 0 ≤ a0 := by omega
theorem ob_245 {a0 a1 : Int} (h0 : (0 : Int) ≤ a0) (h1 : a0 ≤ (1 : Int)) (h2 : a0 + a1 = (1 : Int)) : a0 < 2 := by omega
theorem ob_246 {a0 a1 : Int} (h0 : (0 : Int) ≤ a0) (h1 : a0 ≤ (1 : Int)) (h2 : a0 + a1 = (1 : Int)) : (-2147483648) ≤ 560 * a0 := by omega
theorem ob_247 {a0 a1 : Int} (h0 : (0 : Int) ≤ a0) (h1 : a0 ≤ (1 : Int)) (h2 : a0 + a1 = (1 : Int)) : 560 * a0 ≤ 2147483647 := by omega
theorem ob_248 {a0 a1 : Int} (h0 : a0 = 560 * a1) : a0 = 560 * a1 := by omega
theorem ob_249 {a0 a1 : Int} (h0 : (0 : Int) ≤ a0) (h1 : a0 ≤ (1 : Int)) (h2 : a1 + a0 = (1 : Int)) : 0 ≤ a0 := by omega
theorem ob_250 {a0 a1 : Int} (h0 : a0 + a1 = (1 : Int)) : a0 ≠ a1 := by omega
theorem ob_251 {a0 : Int} (h0 : a0 = (3 : Int)) : a0 = (3 : Int) := by omega
theorem ob_252 {a0 a1 a2 a3 : Int} (h0 : a0 = (3 : Int)) (h1 : ((a0 ≠ (3 : Int)) ∧ (a1 = (0 : Int))) ∨ ((a0 = (3 : Int)) ∧ (a2 ≠ a3) ∧ (a1 = (0 : Int))) ∨ ((a0 = (3 : Int)) ∧ (a2 = a3) ∧ (a1 = (1 : Int)))) (h2 : a1 = 0) (h3 : a3 = 7021235455869215084) : a2 ≠ (7021235455869215084 : Int) := by omega
theorem ob_253 {a0 a1 a2 a3 : Int} (h0 : a0 = (3 : Int)) (h1 : ((a0 ≠ (3 : Int)) ∧ (a1 = (0 : Int))) ∨ ((a0 = (3 : Int)) ∧ (a2 ≠ a3) ∧ (a1 = (0 : Int))) ∨ ((a0 = (3 : Int)) ∧ (a2 = a3) ∧ (a1 = (1 : Int)))) (h2 : a1 = 0) (h3 : a3 = 1953853029) : a2 ≠ (1953853029 : Int) := by omega
theorem ob_254 {a0 a1 a2 a3 : Int} (h0 : a0 = (3 : Int)) (h1 : ((a0 ≠ (3 : Int)) ∧ (a1 = (0 : Int))) ∨ ((a0 = (3 : Int)) ∧ (a2 ≠ a3) ∧ (a1 = (0 : Int))) ∨ ((a0 = (3 : Int)) ∧ (a2 = a3) ∧ (a1 = (1 : Int)))) (h2 : a1 = 0) (h3 : a3 = 448546567013) : a2 ≠ (448546567013 : Int) := by omega
theorem ob_255 {a0 a1 a2 a3 : Int} (h0 : a0 = (3 : Int)) (h1 : ((a0 ≠ (3 : Int)) ∧ (a1 = (0 : Int))) ∨ ((a0 = (3 : Int)) ∧ (a2 ≠ a3) ∧ (a1 = (0 : Int))) ∨ ((a0 = (3 : Int)) ∧ (a2 = a3) ∧ (a1 = (1 : Int)))) (h2 : a1 = 0) (h3 : a3 = 1735156068) : a2 ≠ (1735156068 : Int) := by omega
theorem ob_256 {a0 a1 a2 a3 : Int} (h0 : a0 = (3 : Int)) (h1 : ((a0 ≠ (3 : Int)) ∧ (a1 = (0 : Int))) ∨ ((a0 = (3 : Int)) ∧ (a2 ≠ a3) ∧ (a1 = (0 : Int))) ∨ ((a0 = (3 : Int)) ∧ (a2 = a3) ∧ (a1 = (1 : Int)))) (h2 : a1 = 0) (h3 : a3 = 1752526195) : a2 ≠ (1752526195 : Int) := by omega
theorem ob_257 {a0 a1 a2 a3 : Int} (h0 : a0 = (3 : Int)) (h1 : ((a0 ≠ (3 : Int)) ∧ (a1 = (0 : Int))) ∨ ((a0 = (3 : Int)) ∧ (a2 ≠ a3) ∧ (a1 = (0 : Int))) ∨ ((a0 = (3 : Int)) ∧ (a2 = a3) ∧ (a1 = (1 : Int)))) (h2 : a1 = 0) (h3 : a3 = 1685217655) : a2 ≠ (1685217655 : Int) := by omega
theorem ob_258 {a0 a1 a2 : Int} (h0 : a0 = 1) : (a0 = (0 : Int)) → ((a1 = (1953853029 : Int)) → (a2 ≤ (4 : Int))) := by omega
theorem ob_259 {a0 a1 a2 : Int} (h0 : a0 = 1) : (a0 = (0 : Int)) → ((a1 = (448546567013 : Int)) → (a2 ≤ (3 : Int))) := by omega
theorem ob_260 {a0 a1 : Int} (h0 : a0 = 0) (h1 : a1 = 1735156068) (h2 : a0 = 1) : False := by omega
theorem ob_261 {a0 a1 a2 a3 : Int} (h0 : ((a0 ≠ (3 : Int)) ∧ (a1 = (0 : Int))) ∨ ((a0 = (3 : Int)) ∧ (a2 ≠ a3) ∧ (a1 = (0 : Int))) ∨ ((a0 = (3 : Int)) ∧ (a2 = a3) ∧ (a1 = (1 : Int)))) (h1 : a1 ≠ 0) (h2 : a3 = 1685217655) : a2 = (1685217655 : Int) := by omega
theorem ob_262 {a0 a1 a2 a3 : Int} (h0 : ((a0 ≠ (3 : Int)) ∧ (a1 = (0 : Int))) ∨ ((a0 = (3 : Int)) ∧ (a2 ≠ a3) ∧ (a1 = (0 : Int))) ∨ ((a0 = (3 : Int)) ∧ (a2 = a3) ∧ (a1 = (1 : Int)))) (h1 : a1 ≠ 0) (h2 : a3 = 1685217655) : a1 = (1 : Int) := by omega
theorem ob_263 {a0 : Int} (h0 : (0 : Int) ≤ a0) (h1 : a0 ≤ (1 : Int)) : 0 ≤ a0 := by omega
theorem ob_264 {a0 : Int} (h0 : (0 : Int) ≤ a0) (h1 : a0 ≤ (1 : Int)) : a0 < 2 := by omega
theorem ob_265 {a0 a1 a2 : Int} (h0 : a0 = (1685217655 : Int)) (h1 : a1 = 0) : (a1 = (0 : Int)) → ((a0 = (1953853029 : Int)) → (a2 ≤ (4 : Int))) := by omega
theorem ob_266 {a0 a1 a2 : Int} (h0 : a0 = (1685217655 : Int)) (h1 : a1 = 0) : (a1 = (0 : Int)) → ((a0 = (448546567013 : Int)) → (a2 ≤ (3 : Int))) := by omega
theorem ob_267 {a0 a1 a2 a3 a4 : Int} (h0 : a0 = 0) (h1 : a1 = 1735156068) (h2 : a2 = (3 : Int)) (h3 : ((a2 ≠ (3 : Int)) ∧ (a3 = (0 : Int))) ∨ ((a2 = (3 : Int)) ∧ (a1 ≠ a4) ∧ (a3 = (0 : Int))) ∨ ((a2 = (3 : Int)) ∧ (a1 = a4) ∧ (a3 = (1 : Int)))) (h4 : a3 = 0) (h5 : a4 = 1735156068) : False := by omega
theorem ob_268 {a0 a1 a2 : Int} (h0 : a0 = (1685217655 : Int)) (h1 : a1 = 1) : (a1 = (0 : Int)) → ((a0 = (1953853029 : Int)) → (a2 ≤ (4 : Int))) := by omega
theorem ob_269 {a0 a1 a2 : Int} (h0 : a0 = (1685217655 : Int)) (h1 : a1 = 1) : (a1 = (0 : Int)) → ((a0 = (448546567013 : Int)) → (a2 ≤ (3 : Int))) := by omega
theorem ob_270 {a0 a1 a2 a3 : Int} (h0 : ((a0 ≠ (3 : Int)) ∧ (a1 = (0 : Int))) ∨ ((a0 = (3 : Int)) ∧ (a2 ≠ a3) ∧ (a1 = (0 : Int))) ∨ ((a0 = (3 : Int)) ∧ (a2 = a3) ∧ (a1 = (1 : Int)))) (h1 : a1 ≠ 0) (h2 : a3 = 1752526195) : a2 = (1752526195 : Int) := by omega
theorem ob_271 {a0 a1 a2 a3 : Int} (h0 : ((a0 ≠ (3 : Int)) ∧ (a1 = (0 : Int))) ∨ ((a0 = (3 : Int)) ∧ (a2 ≠ a3) ∧ (a1 = (0 : Int))) ∨ ((a0 = (3 : Int)) ∧ (a2 = a3) ∧ (a1 = (1 : Int)))) (h1 : a1 ≠ 0) (h2 : a3 = 1752526195) : a1 = (1 : Int) := by omega
theorem ob_272 {a0 : Int} (h0 : (0 : Int) ≤ a0) (h1 : a0 ≤ (1 : Int)) : (0 : Int) ≤ a0 := by omega
theorem ob_273 {a0 : Int} (h0 : (0 : Int) ≤ a0) (h1 : a0 ≤ (1 : Int)) : a0 ≤ (1 : Int) := by omega
theorem ob_274 {a0 a1 a2 : Int} (h0 : a0 = (1752526195 : Int)) (h1 : (0 : Int) ≤ a1) (h2 : a1 ≤ (1 : Int)) : (a1 = (0 : Int)) → ((a0 = (1953853029 : Int)) → (a2 ≤ (4 : Int))) := by omega
theorem ob_275 {a0 a1 a2 : Int} (h0 : a0 = (1752526195 : Int)) (h1 : (0 : Int) ≤ a1) (h2 : a1 ≤ (1 : Int)) : (a1 = (0 : Int)) → ((a0 = (448546567013 : Int)) → (a2 ≤ (3 : Int))) := by omega
theorem ob_276 {a0 : Int} (h0 : (0 : Int) ≤ a0) (h1 : a0 ≤ (1 : Int)) : a0 ≤ 1 := by omega
theorem ob_277 {a0 a1 a2 a3 : Int} (h0 : ((a0 ≠ (3 : Int)) ∧ (a1 = (0 : Int))) ∨ ((a0 = (3 : Int)) ∧ (a2 ≠ a3) ∧ (a1 = (0 : Int))) ∨ ((a0 = (3 : Int)) ∧ (a2 = a3) ∧ (a1 = (1 : Int)))) (h1 : a1 ≠ 0) (h2 : a3 = 1735156068) : a2 = (1735156068 : Int) := by omega
theorem ob_278 {a0 a1 a2 a3 : Int} (h0 : ((a0 ≠ (3 : Int)) ∧ (a1 = (0 : Int))) ∨ ((a0 = (3 : Int)) ∧ (a2 ≠ a3) ∧ (a1 = (0 : Int))) ∨ ((a0 = (3 : Int)) ∧ (a2 = a3) ∧ (a1 = (1 : Int)))) (h1 : a1 ≠ 0) (h2 : a3 = 1735156068) : a1 = (1 : Int) := by omega
theorem ob_279 {a0 a1 a2 : Int} (h0 : a0 = (1735156068 : Int)) (h1 : (0 : Int) ≤ a1) (h2 : a1 ≤ (1 : Int)) : (a1 = (0 : Int)) → ((a0 = (1953853029 : Int)) → (a2 ≤ (4 : Int))) := by omega
theorem ob_280 {a0 a1 a2 : Int} (h0 : a0 = (1735156068 : Int)) (h1 : (0 : Int) ≤ a1) (h2 : a1 ≤ (1 : Int)) : (a1 = (0 : Int)) → ((a0 = (448546567013 : Int)) → (a2 ≤ (3 : Int))) := by omega
theorem ob_281 {a0 a1 a2 a3 : Int} (h0 : ((a0 ≠ (3 : Int)) ∧ (a1 = (0 : Int))) ∨ ((a0 = (3 : Int)) ∧ (a2 ≠ a3) ∧ (a1 = (0 : Int))) ∨ ((a0 = (3 : Int)) ∧ (a2 = a3) ∧ (a1 = (1 : Int)))) (h1 : a1 ≠ 0) (h2 : a3 = 448546567013) : a2 = (448546567013 : Int) := by omega
theorem ob_282 {a0 a1 a2 a3 : Int} (h0 : ((a0 ≠ (3 : Int)) ∧ (a1 = (0 : Int))) ∨ ((a0 = (3 : Int)) ∧ (a2 ≠ a3) ∧ (a1 = (0 : Int))) ∨ ((a0 = (3 : Int)) ∧ (a2 = a3) ∧ (a1 = (1 : Int)))) (h1 : a1 ≠ 0) (h2 : a3 = 448546567013) : a1 = (1 : Int) := by omega
theorem ob_283 {a0 : Int} (h0 : 0 ≤ a0 ∧ a0 ≤ 4) (h1 : a0 ≠ 4) : a0 ≤ (3 : Int) := by omega
theorem ob_284 {a0 a1 a2 : Int} (h0 : a0 = (448546567013 : Int)) (h1 : a1 = 0) : (a1 = (0 : Int)) → ((a0 = (1953853029 : Int)) → (a2 ≤ (4 : Int))) := by omega
theorem ob_285 {a0 a1 a2 : Int} (h0 : a0 = (448546567013 : Int)) (h1 : 0 ≤ a1 ∧ a1 ≤ 4) (h2 : a1 ≤ (3 : Int)) (h3 : a2 = 0) : (a2 = (0 : Int)) → ((a0 = (448546567013 : Int)) → (a1 ≤ (3 : Int))) := by omega
theorem ob_286 {a0 a1 a2 a3 a4 : Int} (h0 : a0 = 0) (h1 : a1 = 1735156068) (h2 : ((a2 ≠ (3 : Int)) ∧ (a3 = (0 : Int))) ∨ ((a2 = (3 : Int)) ∧ (a1 ≠ a4) ∧ (a3 = (0 : Int))) ∨ ((a2 = (3 : Int)) ∧ (a1 = a4) ∧ (a3 = (1 : Int)))) (h3 : a3 ≠ 0) (h4 : a4 = 448546567013) : False := by omega
theorem ob_287 {a0 a1 a2 : Int} (h0 : a0 = (448546567013 : Int)) (h1 : a1 = 1) : (a1 = (0 : Int)) → ((a0 = (1953853029 : Int)) → (a2 ≤ (4 : Int))) := by omega
theorem ob_288 {a0 a1 a2 : Int} (h0 : a0 = (448546567013 : Int)) (h1 : 0 ≤ a1 ∧ a1 ≤ 4) (h2 : a1 = 4) (h3 : a2 = 1) : (a2 = (0 : Int)) → ((a0 = (448546567013 : Int)) → (a1 ≤ (3 : Int))) := by omega
theorem ob_289 {a0 a1 a2 a3 : Int} (h0 : ((a0 ≠ (3 : Int)) ∧ (a1 = (0 : Int))) ∨ ((a0 = (3 : Int)) ∧ (a2 ≠ a3) ∧ (a1 = (0 : Int))) ∨ ((a0 = (3 : Int)) ∧ (a2 = a3) ∧ (a1 = (1 : Int)))) (h1 : a1 ≠ 0) (h2 : a3 = 1953853029) : a2 = (1953853029 : Int) := by omega
theorem ob_290 {a0 a1 a2 a3 : Int} (h0 : ((a0 ≠ (3 : Int)) ∧ (a1 = (0 : Int))) ∨ ((a0 = (3 : Int)) ∧ (a2 ≠ a3) ∧ (a1 = (0 : Int))) ∨ ((a0 = (3 : Int)) ∧ (a2 = a3) ∧ (a1 = (1 : Int)))) (h1 : a1 ≠ 0) (h2 : a3 = 1953853029) : a1 = (1 : Int) := by omega
theorem ob_291 {a0 : Int} (h0 : 0 ≤ a0 ∧ a0 ≤ 5) (h1 : a0 ≠ 5) : a0 ≤ (4 : Int) := by omega
theorem ob_292 {a0 a1 a2 : Int} (h0 : a0 = (1953853029 : Int)) (h1 : 0 ≤ a1 ∧ a1 ≤ 5) (h2 : a1 ≤ (4 : Int)) (h3 : a2 = 0) : (a2 = (0 : Int)) → ((a0 = (1953853029 : Int)) → (a1 ≤ (4 : Int))) := by omega
theorem ob_293 {a0 a1 a2 : Int} (h0 : a0 = (1953853029 : Int)) (h1 : a1 = 0) : (a1 = (0 : Int)) → ((a0 = (448546567013 : Int)) → (a2 ≤ (3 : Int))) := by omega
theorem ob_294 {a0 a1 a2 a3 a4 : Int} (h0 : a0 = 0) (h1 : a1 = 1735156068) (h2 : ((a2 ≠ (3 : Int)) ∧ (a3 = (0 : Int))) ∨ ((a2 = (3 : Int)) ∧ (a1 ≠ a4) ∧ (a3 = (0 : Int))) ∨ ((a2 = (3 : Int)) ∧ (a1 = a4) ∧ (a3 = (1 : Int)))) (h3 : a3 ≠ 0) (h4 : a4 = 1953853029) : False := by omega
theorem ob_295 {a0 a1 a2 : Int} (h0 : a0 = (1953853029 : Int)) (h1 : 0 ≤ a1 ∧ a1 ≤ 5) (h2 : a1 = 5) (h3 : a2 = 1) : (a2 = (0 : Int)) → ((a0 = (1953853029 : Int)) → (a1 ≤ (4 : Int))) := by omega
theorem ob_296 {a0 a1 a2 : Int} (h0 : a0 = (1953853029 : Int)) (h1 : a1 = 1) : (a1 = (0 : Int)) → ((a0 = (448546567013 : Int)) → (a2 ≤ (3 : Int))) := by omega
theorem ob_297 {a0 a1 a2 a3 : Int} (h0 : ((a0 ≠ (3 : Int)) ∧ (a1 = (0 : Int))) ∨ ((a0 = (3 : Int)) ∧ (a2 ≠ a3) ∧ (a1 = (0 : Int))) ∨ ((a0 = (3 : Int)) ∧ (a2 = a3) ∧ (a1 = (1 : Int)))) (h1 : a1 ≠ 0) (h2 : a3 = 7021235455869215084) : a2 = (7021235455869215084 : Int) := by omega
theorem ob_298 {a0 a1 a2 a3 : Int} (h0 : ((a0 ≠ (3 : Int)) ∧ (a1 = (0 : Int))) ∨ ((a0 = (3 : Int)) ∧ (a2 ≠ a3) ∧ (a1 = (0 : Int))) ∨ ((a0 = (3 : Int)) ∧ (a2 = a3) ∧ (a1 = (1 : Int)))) (h1 : a1 ≠ 0) (h2 : a3 = 7021235455869215084) : a1 = (1 : Int) := by omega
theorem ob_299 {a0 a1 a2 : Int} (h0 : a0 = (7021235455869215084 : Int)) (h1 : (0 : Int) ≤ a1) (h2 : a1 ≤ (1 : Int)) : (a1 = (0 : Int)) → ((a0 = (1953853029 : Int)) → (a2 ≤ (4 : Int))) := by omega
theorem ob_300 {a0 a1 a2 : Int} (h0 : a0 = (7021235455869215084 : Int)) (h1 : (0 : Int) ≤ a1) (h2 : a1 ≤ (1 : Int)) : (a1 = (0 : Int)) → ((a0 = (448546567013 : Int)) → (a2 ≤ (3 : Int))) := by omega
theorem ob_301 {a0 a1 a2 a3 a4 : Int} (h0 : a0 = 0) (h1 : a1 = 1735156068) (h2 : ((a2 ≠ (3 : Int)) ∧ (a3 = (0 : Int))) ∨ ((a2 = (3 : Int)) ∧ (a1 ≠ a4) ∧ (a3 = (0 : Int))) ∨ ((a2 = (3 : Int)) ∧ (a1 = a4) ∧ (a3 = (1 : Int)))) (h3 : a3 ≠ 0) (h4 : a4 = 7021235455869215084) : False := by omega
theorem ob_302 {a0 : Int} (h0 : 0 ≤ a0 ∧ a0 ≤ 15) : 0 ≤ a0 := by omega
theorem ob_303 {a0 : Int} (h0 : 0 ≤ a0 ∧ a0 ≤ 15) : a0 ≤ 15 := by omega
theorem ob_304 {a0 a1 a2 a3 a4 : Int} (h0 : ((1 : Int) ≤ a0) ∨ ((a0 = (0 : Int)) ∧ (a1 = (0 : Int)) ∧ ((a2 = (0 : Int)) ∨ (a3 + 1 ≤ a4)))) : ((1 : Int) ≤ a0) ∨ ((a0 = (0 : Int)) ∧ (a1 = (0 : Int)) ∧ ((a2 = (0 : Int)) ∨ (a3 + 1 ≤ a4))) := by omega
theorem ob_305 {a0 a1 a2 a3 a4 : Int} (h0 : ((1 : Int) ≤ a0) ∨ ((a0 = (0 : Int)) ∧ (a1 = (0 : Int)) ∧ ((a2 = (0 : Int)) ∨ (a3 + 1 ≤ a4)))) (h1 : a0 = 0) : a1 = 0 := by omega
theorem ob_306 {a0 : Int} (h0 : (0 : Int) ≤ a0) (h1 : a0 ≤ (89 : Int)) : 0 ≤ a0 := by omega
theorem ob_307 {a0 : Int} (h0 : (0 : Int) ≤ a0) (h1 : a0 ≤ (89 : Int)) : a0 < 90 := by omega
theorem ob_308 {a0 : Int} (h0 : (0 : Int) ≤ a0) (h1 : a0 ≤ (89 : Int)) : (-2147483648) ≤ a0 + 1 := by omega
theorem ob_309 {a0 : Int} (h0 : (0 : Int) ≤ a0) (h1 : a0 ≤ (89 : Int)) : a0 + 1 ≤ 2147483647 := by omega
theorem ob_310 {a0 a1 : Int} (h0 : a0 = 0) : (a0 = (0 : Int)) ∨ (((97 : Int) ≤ a0) ∧ (a0 ≤ (122 : Int)) ∧ (a1 = (3 : Int))) := by omega
theorem ob_311 {a0 a1 a2 a3 : Int} (h0 : ((a0 ≠ (3 : Int)) ∧ (a1 = (0 : Int))) ∨ ((a0 = (3 : Int)) ∧ (a2 ≠ a3) ∧ (a1 = (0 : Int))) ∨ ((a0 = (3 : Int)) ∧ (a2 = a3) ∧ (a1 = (1 : Int)))) (h1 : a1 ≠ 0) (h2 : a3 = 483006772069) : a0 = (3 : Int) := by omega
theorem ob_312 {a0 a1 a2 a3 : Int} (h0 : ((a0 ≠ (3 : Int)) ∧ (a1 = (0 : Int))) ∨ ((a0 = (3 : Int)) ∧ (a2 ≠ a3) ∧ (a1 = (0 : Int))) ∨ ((a0 = (3 : Int)) ∧ (a2 = a3) ∧ (a1 = (1 : Int)))) (h1 : a1 ≠ 0) (h2 : a3 = 483006772069) : a2 = (483006772069 : Int) := by omega
theorem ob_313 {a0 a1 a2 a3 : Int} (h0 : ((a0 ≠ (3 : Int)) ∧ (a1 = (0 : Int))) ∨ ((a0 = (3 : Int)) ∧ (a2 ≠ a3) ∧ (a1 = (0 : Int))) ∨ ((a0 = (3 : Int)) ∧ (a2 = a3) ∧ (a1 = (1 : Int)))) (h1 : a1 ≠ 0) (h2 : a3 = 483006772069) : a1 = (1 : Int) := by omega
theorem ob_314 {a0 a1 : Int} (h0 : a0 = (3 : Int)) (h1 : a1 = 117) : (a1 = (0 : Int)) ∨ (((97 : Int) ≤ a1) ∧ (a1 ≤ (122 : Int)) ∧ (a0 = (3 : Int))) := by omega
theorem ob_315 {a0 a1 a2 a3 : Int} (h0 : ((a0 ≠ (3 : Int)) ∧ (a1 = (0 : Int))) ∨ ((a0 = (3 : Int)) ∧ (a2 ≠ a3) ∧ (a1 = (0 : Int))) ∨ ((a0 = (3 : Int)) ∧ (a2 = a3) ∧ (a1 = (1 : Int)))) (h1 : a1 ≠ 0) (h2 : a3 = 482955846501) : a0 = (3 : Int) := by omega
theorem ob_316 {a0 a1 a2 a3 : Int} (h0 : ((a0 ≠ (3 : Int)) ∧ (a1 = (0 : Int))) ∨ ((a0 = (3 : Int)) ∧ (a2 ≠ a3) ∧ (a1 = (0 : Int))) ∨ ((a0 = (3 : Int)) ∧ (a2 = a3) ∧ (a1 = (1 : Int)))) (h1 : a1 ≠ 0) (h2 : a3 = 482955846501) : a2 = (482955846501 : Int) := by omega
theorem ob_317 {a0 a1 a2 a3 : Int} (h0 : ((a0 ≠ (3 : Int)) ∧ (a1 = (0 : Int))) ∨ ((a0 = (3 : Int)) ∧ (a2 ≠ a3) ∧ (a1 = (0 : Int))) ∨ ((a0 = (3 : Int)) ∧ (a2 = a3) ∧ (a1 = (1 : Int)))) (h1 : a1 ≠ 0) (h2 : a3 = 482955846501) : a1 = (1 : Int) := by omega
theorem ob_318 {a0 a1 : Int} (h0 : a0 = (3 : Int)) (h1 : a1 = 112) : (a1 = (0 : Int)) ∨ (((97 : Int) ≤ a1) ∧ (a1 ≤ (122 : Int)) ∧ (a0 = (3 : Int))) := by omega
theorem ob_319 {a0 a1 a2 a3 : Int} (h0 : ((a0 ≠ (3 : Int)) ∧ (a1 = (0 : Int))) ∨ ((a0 = (3 : Int)) ∧ (a2 ≠ a3) ∧ (a1 = (0 : Int))) ∨ ((a0 = (3 : Int)) ∧ (a2 = a3) ∧ (a1 = (1 : Int)))) (h1 : a1 ≠ 0) (h2 : a3 = 512802253683) : a0 = (3 : Int) := by omega
theorem ob_320 {a0 a1 a2 a3 : Int} (h0 : ((a0 ≠ (3 : Int)) ∧ (a1 = (0 : Int))) ∨ ((a0 = (3 : Int)) ∧ (a2 ≠ a3) ∧ (a1 = (0 : Int))) ∨ ((a0 = (3 : Int)) ∧ (a2 = a3) ∧ (a1 = (1 : Int)))) (h1 : a1 ≠ 0) (h2 : a3 = 512802253683) : a2 = (512802253683 : Int) := by omega
theorem ob_321 {a0 a1 a2 a3 : Int} (h0 : ((a0 ≠ (3 : Int)) ∧ (a1 = (0 : Int))) ∨ ((a0 = (3 : Int)) ∧ (a2 ≠ a3) ∧ (a1 = (0 : Int))) ∨ ((a0 = (3 : Int)) ∧ (a2 = a3) ∧ (a1 = (1 : Int)))) (h1 : a1 ≠ 0) (h2 : a3 = 512802253683) : a1 = (1 : Int) := by omega
theorem ob_322 {a0 a1 : Int} (h0 : a0 = (3 : Int)) (h1 : a1 = 119) : (a1 = (0 : Int)) ∨ (((97 : Int) ≤ a1) ∧ (a1 ≤ (122 : Int)) ∧ (a0 = (3 : Int))) := by omega
theorem ob_323 {a0 a1 a2 a3 : Int} (h0 : ((a0 ≠ (3 : Int)) ∧ (a1 = (0 : Int))) ∨ ((a0 = (3 : Int)) ∧ (a2 ≠ a3) ∧ (a1 = (0 : Int))) ∨ ((a0 = (3 : Int)) ∧ (a2 = a3) ∧ (a1 = (1 : Int)))) (h1 : a1 ≠ 0) (h2 : a3 = 2003792494) : a0 = (3 : Int) := by omega
theorem ob_324 {a0 a1 a2 a3 : Int} (h0 : ((a0 ≠ (3 : Int)) ∧ (a1 = (0 : Int))) ∨ ((a0 = (3 : Int)) ∧ (a2 ≠ a3) ∧ (a1 = (0 : Int))) ∨ ((a0 = (3 : Int)) ∧ (a2 = a3) ∧ (a1 = (1 : Int)))) (h1 : a1 ≠ 0) (h2 : a3 = 2003792494) : a2 = (2003792494 : Int) := by omega
theorem ob_325 {a0 a1 a2 a3 : Int} (h0 : ((a0 ≠ (3 : Int)) ∧ (a1 = (0 : Int))) ∨ ((a0 = (3 : Int)) ∧ (a2 ≠ a3) ∧ (a1 = (0 : Int))) ∨ ((a0 = (3 : Int)) ∧ (a2 = a3) ∧ (a1 = (1 : Int)))) (h1 : a1 ≠ 0) (h2 : a3 = 2003792494) : a1 = (1 : Int) := by omega
theorem ob_326 {a0 a1 : Int} (h0 : a0 = (3 : Int)) (h1 : a1 = 111) : (a1 = (0 : Int)) ∨ (((97 : Int) ≤ a1) ∧ (a1 ≤ (122 : Int)) ∧ (a0 = (3 : Int))) := by omega
theorem ob_327 {a0 a1 a2 a3 : Int} (h0 : ((a0 ≠ (3 : Int)) ∧ (a1 = (0 : Int))) ∨ ((a0 = (3 : Int)) ∧ (a2 ≠ a3) ∧ (a1 = (0 : Int))) ∨ ((a0 = (3 : Int)) ∧ (a2 = a3) ∧ (a1 = (1 : Int)))) (h1 : a1 ≠ 0) (h2 : a3 = 1819242087) : a0 = (3 : Int) := by omega
theorem ob_328 {a0 a1 a2 a3 : Int} (h0 : ((a0 ≠ (3 : Int)) ∧ (a1 = (0 : Int))) ∨ ((a0 = (3 : Int)) ∧ (a2 ≠ a3) ∧ (a1 = (0 : Int))) ∨ ((a0 = (3 : Int)) ∧ (a2 = a3) ∧ (a1 = (1 : Int)))) (h1 : a1 ≠ 0) (h2 : a3 = 1819242087) : a2 = (1819242087 : Int) := by omega
theorem ob_329 {a0 a1 a2 a3 : Int} (h0 : ((a0 ≠ (3 : Int)) ∧ (a1 = (0 : Int))) ∨ ((a0 = (3 : Int)) ∧ (a2 ≠ a3) ∧ (a1 = (0 : Int))) ∨ ((a0 = (3 : Int)) ∧ (a2 = a3) ∧ (a1 = (1 : Int)))) (h1 : a1 ≠ 0) (h2 : a3 = 1819242087) : a1 = (1 : Int) := by omega
theorem ob_330 {a0 a1 : Int} (h0 : a0 = (3 : Int)) (h1 : a1 = 108) : (a1 = (0 : Int)) ∨ (((97 : Int) ≤ a1) ∧ (a1 ≤ (122 : Int)) ∧ (a0 = (3 : Int))) := by omega
theorem ob_331 {a0 a1 a2 a3 : Int} (h0 : ((a0 ≠ (3 : Int)) ∧ (a1 = (0 : Int))) ∨ ((a0 = (3 : Int)) ∧ (a2 ≠ a3) ∧ (a1 = (0 : Int))) ∨ ((a0 = (3 : Int)) ∧ (a2 = a3) ∧ (a1 = (1 : Int)))) (h1 : a1 ≠ 0) (h2 : a3 = 1953854062) : a0 = (3 : Int) := by omega
theorem ob_332 {a0 a1 a2 a3 : Int} (h0 : ((a0 ≠ (3 : Int)) ∧ (a1 = (0 : Int))) ∨ ((a0 = (3 : Int)) ∧ (a2 ≠ a3) ∧ (a1 = (0 : Int))) ∨ ((a0 = (3 : Int)) ∧ (a2 = a3) ∧ (a1 = (1 : Int)))) (h1 : a1 ≠ 0) (h2 : a3 = 1953854062) : a2 = (1953854062 : Int) := by omega
theorem ob_333 {a0 a1 a2 a3 : Int} (h0 : ((a0 ≠ (3 : Int)) ∧ (a1 = (0 : Int))) ∨ ((a0 = (3 : Int)) ∧ (a2 ≠ a3) ∧ (a1 = (0 : Int))) ∨ ((a0 = (3 : Int)) ∧ (a2 = a3) ∧ (a1 = (1 : Int)))) (h1 : a1 ≠ 0) (h2 : a3 = 1953854062) : a1 = (1 : Int) := by omega
theorem ob_334 {a0 a1 : Int} (h0 : a0 = (3 : Int)) (h1 : a1 = 116) : (a1 = (0 : Int)) ∨ (((97 : Int) ≤ a1) ∧ (a1 ≤ (122 : Int)) ∧ (a0 = (3 : Int))) := by omega
theorem ob_335 {a0 a1 a2 a3 : Int} (h0 : ((a0 ≠ (3 : Int)) ∧ (a1 = (0 : Int))) ∨ ((a0 = (3 : Int)) ∧ (a2 ≠ a3) ∧ (a1 = (0 : Int))) ∨ ((a0 = (3 : Int)) ∧ (a2 = a3) ∧ (a1 = (1 : Int)))) (h1 : a1 ≠ 0) (h2 : a3 = 1935764837) : a0 = (3 : Int) := by omega
theorem ob_336 {a0 a1 a2 a3 : Int} (h0 : ((a0 ≠ (3 : Int)) ∧ (a1 = (0 : Int))) ∨ ((a0 = (3 : Int)) ∧ (a2 ≠ a3) ∧ (a1 = (0 : Int))) ∨ ((a0 = (3 : Int)) ∧ (a2 = a3) ∧ (a1 = (1 : Int)))) (h1 : a1 ≠ 0) (h2 : a3 = 1935764837) : a2 = (1935764837 : Int) := by omega
theorem ob_337 {a0 a1 a2 a3 : Int} (h0 : ((a0 ≠ (3 : Int)) ∧ (a1 = (0 : Int))) ∨ ((a0 = (3 : Int)) ∧ (a2 ≠ a3) ∧ (a1 = (0 : Int))) ∨ ((a0 = (3 : Int)) ∧ (a2 = a3) ∧ (a1 = (1 : Int)))) (h1 : a1 ≠ 0) (h2 : a3 = 1935764837) : a1 = (1 : Int) := by omega
theorem ob_338 {a0 a1 : Int} (h0 : a0 = (3 : Int)) (h1 : a1 = 115) : (a1 = (0 : Int)) ∨ (((97 : Int) ≤ a1) ∧ (a1 ≤ (122 : Int)) ∧ (a0 = (3 : Int))) := by omega
theorem ob_339 {a0 a1 : Int} (h0 : (0 : Int) ≤ a0) (h1 : 560 * a0 ≤ a1) : 0 ≤ a1 := by omega
theorem ob_340 {a0 a1 : Int} (h0 : a0 ≤ (1 : Int)) (h1 : a1 ≤ 560 * a0 + 559) : a1 < 1120 := by omega
theorem ob_341 {a0 a1 : Int} (h0 : (0 : Int) ≤ a0) (h1 : 560 * a0 ≤ a1) : (-2147483648) ≤ a1 + 1 := by omega
theorem ob_342 {a0 a1 : Int} (h0 : a0 ≤ (1 : Int)) (h1 : a1 ≤ 560 * a0 + 559) : a1 + 1 ≤ 2147483647 := by omega
theorem ob_343 {a0 a1 a2 : Int} (h0 : a0 + a1 = (1 : Int)) (h1 : 560 * a0 ≤ a2) (h2 : a2 ≤ 560 * a0 + 559) : a2 < 560 * a1 ∨ 560 * a1 + 560 ≤ a2 := by omega
theorem ob_344 {a0 a1 a2 a3 a4 : Int} (h0 : (1 : Int) ≤ a0) (h1 : a0 ≤ a1 + a2 + 1) (h2 : a3 + a0 ≤ 560 * a4 + 9 * a1 + a2 + 1) : (-2147483648) ≤ a0 - 1 := by omega
theorem ob_345 {a0 a1 a2 : Int} (h0 : a0 ≤ (30 : Int)) (h1 : a1 ≤ (7 : Int)) (h2 : a2 ≤ a0 + a1 + 1) : a2 - 1 ≤ 2147483647 := by omega
theorem ob_346 {a0 a1 : Int} (h0 : a0 = a1 - 1) : a0 = a1 + (-1) := by omega
theorem ob_347 {a0 a1 a2 a3 a4 : Int} (h0 : (1 : Int) ≤ a0) (h1 : a0 ≤ a1 + a2 + 1) (h2 : a3 + a0 ≤ 560 * a4 + 9 * a1 + a2 + 1) : 0 ≤ a0 + (-1) := by omega
theorem ob_348 {a0 a1 a2 : Int} (h0 : a0 ≤ (30 : Int)) (h1 : a1 ≤ (7 : Int)) (h2 : a2 ≤ a0 + a1 + 1) : a2 + (-1) < 90 := by omega
theorem ob_349 {a0 a1 a2 : Int} (h0 : a0 = (8 : Int)) (h1 : a2 + (-1) = 0 → a1 = a0) (h2 : a1 ≤ 3) : a2 ≠ (1 : Int) := by omega
theorem ob_350 {a0 : Int} (h0 : (0 : Int) ≤ a0) : 0 ≤ a0 := by omega
theorem ob_351 {a0 : Int} (h0 : a0 ≤ (1 : Int)) : a0 < 2 := by omega
theorem ob_352 {a0 a1 : Int} (h0 : (a0 = (0 : Int)) ∨ (((97 : Int) ≤ a0) ∧ (a0 ≤ (122 : Int)) ∧ (a1 = (3 : Int)))) (h1 : a0 ≠ 0) : (97 : Int) ≤ a0 := by omega
theorem ob_353 {a0 a1 : Int} (h0 : (a0 = (0 : Int)) ∨ (((97 : Int) ≤ a0) ∧ (a0 ≤ (122 : Int)) ∧ (a1 = (3 : Int)))) (h1 : a0 ≠ 0) (h2 : (97 : Int) ≤ a0) : a0 ≤ (122 : Int) := by omega
theorem ob_354 {a0 a1 : Int} (h0 : (a0 = (0 : Int)) ∨ (((97 : Int) ≤ a0) ∧ (a0 ≤ (122 : Int)) ∧ (a1 = (3 : Int)))) (h1 : a0 ≠ 0) : a1 = (3 : Int) := by omega
theorem ob_355 {a0 : Int} (h0 : (97 : Int) ≤ a0) (h1 : a0 ≤ (122 : Int)) : (1 : Int) ≤ a0 := by omega
theorem ob_356 {a0 : Int} (h0 : a0 = 0) (h1 : (0 : Int) ≤ a0) (h2 : (1 : Int) ≤ a0) : False := by omega
theorem ob_357 {a0 a1 a2 a3 a4 : Int} (h0 : (1 : Int) ≤ a0) (h1 : a0 ≤ a1 + a2 + 1) (h2 : a3 + a0 ≤ 560 * a4 + 9 * a1 + a2 + 1) : (0 : Int) ≤ a0 := by omega
theorem ob_358 {a0 a1 a2 : Int} (h0 : a0 ≤ (30 : Int)) (h1 : a1 ≤ (7 : Int)) (h2 : a2 ≤ a0 + a1 + 1) : a2 ≤ (60 : Int) := by omega
theorem ob_359 {a0 a1 a2 a3 a4 a5 a6 a7 a8 a9 : Int} (h0 : (1 : Int) ≤ a0) (h1 : a1 = 1) : ((1 : Int) ≤ a0) ∨ (((0 : Int) ≤ a2) ∧ (a2 ≤ (30 : Int)) ∧ ((0 : Int) ≤ a3) ∧ (a3 ≤ (7 : Int)) ∧ (560 * a4 ≤ a5) ∧ ((1 : Int) ≤ a6) ∧ (a0 = (0 : Int)) ∧ (a7 = (8 : Int)) ∧ (a8 ≠ (0 : Int)) ∧ ((a8 = (0 : Int)) ∨ (a9 + 1 ≤ a9)) ∧ (a6 ≤ a6 + 1) ∧ (((a1 = (1 : Int)) ∧ (a6 ≤ a2 + a3 + 1) ∧ (a5 + a6 ≤ 560 * a4 + 9 * a2 + a3 + 1)) ∨ ((a1 = (0 : Int)) ∧ (a6 ≤ a2 + a3) ∧ (a5 + a6 ≤ 560 * a4 + 9 * a2)))) := by omega
theorem ob_360 {a0 : Int} (h0 : a0 = 4) : a0 ≠ (3 : Int) := by omega
theorem ob_361 {a0 : Int} (h0 : a0 = 4) : a0 ≠ (5 : Int) := by omega
theorem ob_362 {a0 a1 a2 a3 : Int} (h0 : ((a0 ≠ (5 : Int)) ∧ (a1 = (0 : Int))) ∨ ((a0 = (5 : Int)) ∧ (a2 ≠ a3) ∧ (a1 = (0 : Int))) ∨ ((a0 = (5 : Int)) ∧ (a2 = a3) ∧ (a1 = (1 : Int)))) (h1 : a0 = 4) (h2 : a3 = 40) : a1 = (0 : Int) := by omega
theorem ob_363 {a0 : Int} (h0 : a0 = 4) : (4 : Int) ≤ a0 := by omega
theorem ob_364 {a0 : Int} (h0 : a0 = 4) (h1 : (4 : Int) ≤ a0) : a0 ≤ (4 : Int) := by omega
theorem ob_365 {a0 a1 a2 a3 : Int} (h0 : ((a0 ≠ (5 : Int)) ∧ (a1 = (0 : Int))) ∨ ((a0 = (5 : Int)) ∧ (a2 ≠ a3) ∧ (a1 = (0 : Int))) ∨ ((a0 = (5 : Int)) ∧ (a2 = a3) ∧ (a1 = (1 : Int)))) (h1 : a1 ≠ 0) (h2 : a3 = 40) : a0 = (5 : Int) := by omega
theorem ob_366 {a0 a1 a2 a3 : Int} (h0 : ((a0 ≠ (5 : Int)) ∧ (a1 = (0 : Int))) ∨ ((a0 = (5 : Int)) ∧ (a2 ≠ a3) ∧ (a1 = (0 : Int))) ∨ ((a0 = (5 : Int)) ∧ (a2 = a3) ∧ (a1 = (1 : Int)))) (h1 : a1 ≠ 0) (h2 : a3 = 40) : a2 = (40 : Int) := by omega
theorem ob_367 {a0 a1 a2 a3 : Int} (h0 : ((a0 ≠ (5 : Int)) ∧ (a1 = (0 : Int))) ∨ ((a0 = (5 : Int)) ∧ (a2 ≠ a3) ∧ (a1 = (0 : Int))) ∨ ((a0 = (5 : Int)) ∧ (a2 = a3) ∧ (a1 = (1 : Int)))) (h1 : a1 ≠ 0) (h2 : a3 = 40) : a1 = (1 : Int) := by omega
theorem ob_368 {a0 : Int} (h0 : a0 ≤ (30 : Int)) (h1 : a0 ≠ 30) : a0 ≤ (29 : Int) := by omega
theorem ob_369 {a0 a1 a2 a3 : Int} (h0 : a0 ≠ 0) (h1 : ((a1 ≠ (5 : Int)) ∧ (a0 = (0 : Int))) ∨ ((a1 = (5 : Int)) ∧ (a2 ≠ a3) ∧ (a0 = (0 : Int))) ∨ ((a1 = (5 : Int)) ∧ (a2 = a3) ∧ (a0 = (1 : Int)))) (h2 : a1 = (3 : Int)) (h3 : a3 = 40) : False := by omega
theorem ob_370 {a0 : Int} (h0 : a0 = (3 : Int)) : a0 ≠ (5 : Int) := by omega
theorem ob_371 {a0 : Int} (h0 : a0 ≤ (30 : Int)) : a0 + 1 ≤ 2147483647 := by omega
theorem ob_372 {a0 : Int} (h0 : a0 = 0) (h1 : (97 : Int) ≤ a0) (h2 : a0 ≤ (122 : Int)) (h3 : (1 : Int) ≤ a0) : False := by omega
theorem ob_373 {a0 : Int} (h0 : (97 : Int) ≤ a0) (h1 : a0 ≤ (122 : Int)) (h2 : (1 : Int) ≤ a0) : (1 : Int) ≤ a0 := by omega
theorem ob_374 {a0 : Int} (h0 : a0 ≠ 0) (h1 : a0 = 0) : False := by omega
theorem ob_375 {a0 : Int} (h0 : a0 = 0) (h1 : (97 : Int) ≤ a0) : False := by omega
theorem ob_376 {a0 : Int} (h0 : (97 : Int) ≤ a0) : (1 : Int) ≤ a0 := by omega
theorem ob_377 {a0 a1 : Int} (h0 : a0 + a1 = (1 : Int)) : a0 + a1 = (1 : Int) := by omega
theorem ob_378 {a0 a1 : Int} (h0 : 560 * a0 ≤ a1) : 560 * a0 ≤ a1 := by omega
theorem ob_379 {a0 a1 a2 a3 a4 : Int} (h0 : a0 ≤ (30 : Int)) (h1 : a1 ≤ (7 : Int)) (h2 : (1 : Int) ≤ a2) (h3 : a3 + a2 ≤ 560 * a4 + 9 * a0 + a1 + 1) : a3 ≤ 560 * a4 + 559 := by omega
theorem ob_380 {a0 : Int} (h0 : a0 = 0) : a0 = 0 := by omega
theorem ob_381 {a0 a1 a2 a3 a4 a5 : Int} (h0 : 560 * a0 ≤ a1) (h1 : a1 + a2 ≤ 560 * a0 + 9 * a3 + a4 + 1) (h2 : a5 = a1 + 1) : a5 = a1 + 1 := by omega
theorem ob_382 {a0 a1 a2 a3 a4 : Int} (h0 : (1 : Int) ≤ a0) (h1 : a0 ≤ a1 + a2 + 1) (h2 : a3 + a0 ≤ 560 * a4 + 9 * a1 + a2 + 1) : 1 ≤ a0 := by omega
theorem ob_383 {a0 a1 a2 : Int} (h0 : a0 ≤ (30 : Int)) (h1 : a1 ≤ (7 : Int)) (h2 : a2 ≤ a0 + a1 + 1) : a2 ≤ 59 := by omega
theorem ob_384 {a0 : Int} (h0 : (0 : Int) ≤ a0) : 0 ≤ 560 * a0 := by omega
theorem ob_385 {a0 : Int} (h0 : (97 : Int) ≤ a0) : 97 ≤ a0 := by omega
theorem ob_386 {a0 : Int} (h0 : a0 ≤ (122 : Int)) : a0 ≤ 122 := by omega
theorem ob_387 {a0 a1 a2 a3 a4 a5 a6 a7 a8 a9 a10 a11 a12 a13 : Int} (h0 : (0 : Int) ≤ a0) (h1 : a1 ≤ (30 : Int)) (h2 : (0 : Int) ≤ a2) (h3 : a2 ≤ (7 : Int)) (h4 : (1 : Int) ≤ a3) (h5 : 560 * a4 ≤ a5) (h6 : a3 ≤ a1 + a2 + 1) (h7 : a5 + a3 ≤ 560 * a4 + 9 * a1 + a2 + 1) (h8 : a6 = (8 : Int)) (h9 : a1 ≠ 30) (h10 : a7 = (3 : Int)) (h11 : (a8 = (0 : Int)) ∨ (a9 + 1 ≤ a10)) (h12 : a11 = a5 + 1) (h13 : a12 = 0) (h14 : a13 = a1 + 1) : ((1 : Int) ≤ a0) ∨ (((0 : Int) ≤ a13) ∧ (a13 ≤ (30 : Int)) ∧ ((0 : Int) ≤ a2) ∧ (a2 ≤ (7 : Int)) ∧ (560 * a4 ≤ a11) ∧ ((1 : Int) ≤ a3) ∧ (a0 = (0 : Int)) ∧ (a6 = (8 : Int)) ∧ (a7 ≠ (0 : Int)) ∧ ((a8 = (0 : Int)) ∨ (a9 + 1 ≤ a10)) ∧ (a3 ≤ a3 + 1) ∧ (((a12 = (1 : Int)) ∧ (a3 ≤ a13 + a2 + 1) ∧ (a11 + a3 ≤ 560 * a4 + 9 * a13 + a2 + 1)) ∨ ((a12 = (0 : Int)) ∧ (a3 ≤ a13 + a2) ∧ (a11 + a3 ≤ 560 * a4 + 9 * a13)))) := by omega
theorem ob_388 {a0 : Int} (h0 : a0 ≠ 0) (h1 : (0 : Int) ≤ a0) (h2 : a0 ≤ (1 : Int)) (h3 : a0 = (0 : Int)) : False := by omega
theorem ob_389 {a0 : Int} (h0 : a0 ≠ 0) (h1 : a0 = 0) (h2 : a0 = (0 : Int)) : False := by omega
theorem ob_390 {a0 : Int} (h0 : a0 ≠ 0) (h1 : a0 = (0 : Int)) : False := by omega
theorem ob_391 {a0 : Int} (h0 : a0 = 110) : 97 ≤ a0 := by omega
theorem ob_392 {a0 : Int} (h0 : a0 = 110) : a0 ≤ 122 := by omega
theorem ob_393 {a0 a1 a2 a3 a4 a5 a6 a7 a8 a9 a10 a11 a12 a13 : Int} (h0 : (0 : Int) ≤ a0) (h1 : a1 ≤ (30 : Int)) (h2 : (0 : Int) ≤ a2) (h3 : a2 ≤ (7 : Int)) (h4 : (1 : Int) ≤ a3) (h5 : 560 * a4 ≤ a5) (h6 : a3 ≤ a1 + a2 + 1) (h7 : a5 + a3 ≤ 560 * a4 + 9 * a1 + a2 + 1) (h8 : a6 = (8 : Int)) (h9 : a1 ≠ 30) (h10 : a7 = 4) (h11 : (a8 = (0 : Int)) ∨ (a9 + 1 ≤ a10)) (h12 : a11 = a5 + 1) (h13 : a12 = 0) (h14 : a13 = a1 + 1) : ((1 : Int) ≤ a0) ∨ (((0 : Int) ≤ a13) ∧ (a13 ≤ (30 : Int)) ∧ ((0 : Int) ≤ a2) ∧ (a2 ≤ (7 : Int)) ∧ (560 * a4 ≤ a11) ∧ ((1 : Int) ≤ a3) ∧ (a0 = (0 : Int)) ∧ (a6 = (8 : Int)) ∧ (a7 ≠ (0 : Int)) ∧ ((a8 = (0 : Int)) ∨ (a9 + 1 ≤ a10)) ∧ (a3 ≤ a3 + 1) ∧ (((a12 = (1 : Int)) ∧ (a3 ≤ a13 + a2 + 1) ∧ (a11 + a3 ≤ 560 * a4 + 9 * a13 + a2 + 1)) ∨ ((a12 = (0 : Int)) ∧ (a3 ≤ a13 + a2) ∧ (a11 + a3 ≤ 560 * a4 + 9 * a13)))) := by omega
theorem ob_394 {a0 : Int} (h0 : a0 = 0) (h1 : a0 = (1 : Int)) : False := by omega
theorem ob_395 {a0 : Int} (h0 : a0 = (1 : Int)) : (1 : Int) ≤ a0 := by omega
theorem ob_396 {a0 : Int} (h0 : a0 ≤ (7 : Int)) (h1 : a0 ≠ 7) : a0 ≤ (6 : Int) := by omega
theorem ob_397 {a0 a1 a2 : Int} (h0 : a0 ≤ (30 : Int)) (h1 : a1 ≤ (7 : Int)) (h2 : a2 ≤ a0 + a1 + 1) : a2 ≤ (89 : Int) := by omega
theorem ob_398 {a0 : Int} (h0 : (1 : Int) ≤ a0) : 1 ≤ a0 := by omega
theorem ob_399 {a0 : Int} (h0 : a0 ≤ (7 : Int)) : a0 + 1 ≤ 2147483647 := by omega
theorem ob_400 {a0 a1 a2 a3 a4 : Int} (h0 : a0 = 1) (h1 : a1 = a2 + 1) (h2 : a3 = 126) (h3 : a4 = 7) : (((a4 = 3 ∧ a3 = 126) ∨ a4 = 7) ∧ a1 = a2 + 1 ∧ a0 = 1) := by omega
theorem ob_401 {a0 a1 a2 a3 : Int} (h0 : a0 ≤ (30 : Int)) (h1 : a1 ≤ (7 : Int)) (h2 : a2 ≤ a0 + a1 + 1) (h3 : a3 = a2 + 1) : a3 ≤ (60 : Int) := by omega
theorem ob_402 {a0 a1 a2 a3 a4 a5 a6 a7 a8 a9 a10 a11 a12 a13 a14 a15 a16 a17 a18 a19 a20 : Int} (h0 : (0 : Int) ≤ a0) (h1 : a0 ≤ (1600 : Int)) (h2 : (0 : Int) ≤ a1) (h3 : (0 : Int) ≤ a2) (h4 : a3 ≤ (30 : Int)) (h5 : (0 : Int) ≤ a4) (h6 : a4 ≤ (7 : Int)) (h7 : (1 : Int) ≤ a5) (h8 : 560 * a6 ≤ a7) (h9 : a5 ≤ a3 + a4 + 1) (h10 : a7 + a5 ≤ 560 * a6 + 9 * a3 + a4 + 1) (h11 : a8 = (8 : Int)) (h12 : ((a9 ≠ (5 : Int)) ∧ (a10 = (0 : Int))) ∨ ((a9 = (5 : Int)) ∧ (a11 ≠ a12) ∧ (a10 = (0 : Int))) ∨ ((a9 = (5 : Int)) ∧ (a11 = a12) ∧ (a10 = (1 : Int)))) (h13 : a3 ≠ 30) (h14 : a10 ≠ 0) (h15 : a4 ≠ 7) (h16 : (a13 = (0 : Int)) ∨ (a14 + 1 ≤ a15)) (h17 : a16 = a5 + 1) (h18 : a17 = a8) (h19 : a12 = 40) (h20 : a18 = 1) (h21 : a19 = a4 + 1) (h22 : a20 = a3 + 1) : ((1 : Int) ≤ a2) ∨ (((0 : Int) ≤ a20) ∧ (a20 ≤ (30 : Int)) ∧ ((0 : Int) ≤ a19) ∧ (a19 ≤ (7 : Int)) ∧ (560 * a6 ≤ a7) ∧ ((1 : Int) ≤ a16) ∧ (a2 = (0 : Int)) ∧ (a17 = (8 : Int)) ∧ (a9 ≠ (0 : Int)) ∧ ((a13 = (0 : Int)) ∨ (a14 + 1 ≤ a15)) ∧ (a16 ≤ a5 + 1) ∧ (((a18 = (1 : Int)) ∧ (a16 ≤ a20 + a19 + 1) ∧ (a7 + a16 ≤ 560 * a6 + 9 * a20 + a19 + 1)) ∨ ((a18 = (0 : Int)) ∧ (a16 ≤ a20 + a19) ∧ (a7 + a16 ≤ 560 * a6 + 9 * a20)))) := by omega
theorem ob_403 {a0 a1 a2 a3 : Int} (h0 : ((a0 ≠ (3 : Int)) ∧ (a1 = (0 : Int))) ∨ ((a0 = (3 : Int)) ∧ (a2 ≠ a3) ∧ (a1 = (0 : Int))) ∨ ((a0 = (3 : Int)) ∧ (a2 = a3) ∧ (a1 = (1 : Int)))) (h1 : a1 ≠ 0) (h2 : a3 = 7237492) : a0 = (3 : Int) := by omega
theorem ob_404 {a0 a1 a2 a3 : Int} (h0 : ((a0 ≠ (3 : Int)) ∧ (a1 = (0 : Int))) ∨ ((a0 = (3 : Int)) ∧ (a2 ≠ a3) ∧ (a1 = (0 : Int))) ∨ ((a0 = (3 : Int)) ∧ (a2 = a3) ∧ (a1 = (1 : Int)))) (h1 : a1 ≠ 0) (h2 : a3 = 7237492) : a2 = (7237492 : Int) := by omega
theorem ob_405 {a0 a1 a2 a3 : Int} (h0 : ((a0 ≠ (3 : Int)) ∧ (a1 = (0 : Int))) ∨ ((a0 = (3 : Int)) ∧ (a2 ≠ a3) ∧ (a1 = (0 : Int))) ∨ ((a0 = (3 : Int)) ∧ (a2 = a3) ∧ (a1 = (1 : Int)))) (h1 : a1 ≠ 0) (h2 : a3 = 7237492) : a1 = (1 : Int) := by omega
theorem ob_406 {a0 : Int} (h0 : (0 : Int) ≤ a0) : (-2147483648) ≤ a0 + 0 := by omega
theorem ob_407 {a0 : Int} (h0 : a0 ≤ (30 : Int)) : a0 + 0 ≤ 2147483647 := by omega
theorem ob_408 {a0 a1 : Int} (h0 : a0 = a1 + 0) : a0 = a1 := by omega
theorem ob_409 {a0 a1 a2 a3 a4 : Int} (h0 : a0 = 1) (h1 : a1 = a2 + 1) (h2 : a3 = 126) (h3 : a4 = 3) : (((a4 = 3 ∧ a3 = 126) ∨ a4 = 7) ∧ a1 = a2 + 1 ∧ a0 = 1) := by omega
theorem ob_410 {a0 a1 a2 a3 a4 a5 a6 a7 a8 a9 a10 a11 a12 a13 a14 a15 a16 a17 a18 : Int} (h0 : (0 : Int) ≤ a0) (h1 : a1 ≤ (30 : Int)) (h2 : (0 : Int) ≤ a2) (h3 : a2 ≤ (7 : Int)) (h4 : (1 : Int) ≤ a3) (h5 : 560 * a4 ≤ a5) (h6 : a3 ≤ a1 + a2 + 1) (h7 : a5 + a3 ≤ 560 * a4 + 9 * a1 + a2 + 1) (h8 : a6 = (8 : Int)) (h9 : ((a7 ≠ (3 : Int)) ∧ (a8 = (0 : Int))) ∨ ((a7 = (3 : Int)) ∧ (a9 ≠ a10) ∧ (a8 = (0 : Int))) ∨ ((a7 = (3 : Int)) ∧ (a9 = a10) ∧ (a8 = (1 : Int)))) (h10 : a8 ≠ 0) (h11 : a2 ≠ 7) (h12 : (a11 = (0 : Int)) ∨ (a12 + 1 ≤ a13)) (h13 : a14 = a3 + 1) (h14 : a15 = a6) (h15 : a10 = 7237492) (h16 : a16 = 1) (h17 : a17 = a2 + 1) (h18 : a18 = a1) : ((1 : Int) ≤ a0) ∨ (((0 : Int) ≤ a18) ∧ (a18 ≤ (30 : Int)) ∧ ((0 : Int) ≤ a17) ∧ (a17 ≤ (7 : Int)) ∧ (560 * a4 ≤ a5) ∧ ((1 : Int) ≤ a14) ∧ (a0 = (0 : Int)) ∧ (a15 = (8 : Int)) ∧ (a7 ≠ (0 : Int)) ∧ ((a11 = (0 : Int)) ∨ (a12 + 1 ≤ a13)) ∧ (a14 ≤ a3 + 1) ∧ (((a16 = (1 : Int)) ∧ (a14 ≤ a18 + a17 + 1) ∧ (a5 + a14 ≤ 560 * a4 + 9 * a18 + a17 + 1)) ∨ ((a16 = (0 : Int)) ∧ (a14 ≤ a18 + a17) ∧ (a5 + a14 ≤ 560 * a4 + 9 * a18)))) := by omega
theorem ob_411 {a0 a1 a2 : Int} (h0 : a0 = (8 : Int)) (h1 : a2 + (-1) = 0 → a1 = a0) (h2 : a1 < 7) : a2 ≠ (1 : Int) := by omega
theorem ob_412 {a0 : Int} (h0 : a0 = 4) : a0 ≤ (4 : Int) := by omega
theorem ob_413 {a0 a1 a2 a3 a4 a5 a6 a7 a8 a9 a10 a11 a12 a13 a14 a15 a16 a17 a18 : Int} (h0 : (0 : Int) ≤ a0) (h1 : a1 ≤ (30 : Int)) (h2 : (0 : Int) ≤ a2) (h3 : a2 ≤ (7 : Int)) (h4 : (1 : Int) ≤ a3) (h5 : 560 * a4 ≤ a5) (h6 : a3 ≤ a1 + a2 + 1) (h7 : a5 + a3 ≤ 560 * a4 + 9 * a1 + a2 + 1) (h8 : a6 = (8 : Int)) (h9 : ((a7 ≠ (5 : Int)) ∧ (a8 = (0 : Int))) ∨ ((a7 = (5 : Int)) ∧ (a9 ≠ a10) ∧ (a8 = (0 : Int))) ∨ ((a7 = (5 : Int)) ∧ (a9 = a10) ∧ (a8 = (1 : Int)))) (h10 : a1 ≠ 30) (h11 : a8 ≠ 0) (h12 : a2 ≠ 7) (h13 : (a11 = (0 : Int)) ∨ (a12 + 1 ≤ a13)) (h14 : a14 = a3 + 1) (h15 : a15 = a6) (h16 : a10 = 40) (h17 : a16 = 1) (h18 : a17 = a2 + 1) (h19 : a18 = a1 + 1) : ((1 : Int) ≤ a0) ∨ (((0 : Int) ≤ a18) ∧ (a18 ≤ (30 : Int)) ∧ ((0 : Int) ≤ a17) ∧ (a17 ≤ (7 : Int)) ∧ (560 * a4 ≤ a5) ∧ ((1 : Int) ≤ a14) ∧ (a0 = (0 : Int)) ∧ (a15 = (8 : Int)) ∧ (a7 ≠ (0 : Int)) ∧ ((a11 = (0 : Int)) ∨ (a12 + 1 ≤ a13)) ∧ (a14 ≤ a3 + 1) ∧ (((a16 = (1 : Int)) ∧ (a14 ≤ a18 + a17 + 1) ∧ (a5 + a14 ≤ 560 * a4 + 9 * a18 + a17 + 1)) ∨ ((a16 = (0 : Int)) ∧ (a14 ≤ a18 + a17) ∧ (a5 + a14 ≤ 560 * a4 + 9 * a18)))) := by omega
theorem ob_414 {a0 a1 a2 a3 : Int} (h0 : ((a0 ≠ (5 : Int)) ∧ (a1 = (0 : Int))) ∨ ((a0 = (5 : Int)) ∧ (a2 ≠ a3) ∧ (a1 = (0 : Int))) ∨ ((a0 = (5 : Int)) ∧ (a2 = a3) ∧ (a1 = (1 : Int)))) (h1 : a1 ≠ 0) (h2 : a3 = 60) : a0 = (5 : Int) := by omega
theorem ob_415 {a0 a1 a2 a3 : Int} (h0 : ((a0 ≠ (5 : Int)) ∧ (a1 = (0 : Int))) ∨ ((a0 = (5 : Int)) ∧ (a2 ≠ a3) ∧ (a1 = (0 : Int))) ∨ ((a0 = (5 : Int)) ∧ (a2 = a3) ∧ (a1 = (1 : Int)))) (h1 : a1 ≠ 0) (h2 : a3 = 60) : a2 = (60 : Int) := by omega
theorem ob_416 {a0 a1 a2 a3 : Int} (h0 : ((a0 ≠ (5 : Int)) ∧ (a1 = (0 : Int))) ∨ ((a0 = (5 : Int)) ∧ (a2 ≠ a3) ∧ (a1 = (0 : Int))) ∨ ((a0 = (5 : Int)) ∧ (a2 = a3) ∧ (a1 = (1 : Int)))) (h1 : a1 ≠ 0) (h2 : a3 = 60) : a1 = (1 : Int) := by omega
theorem ob_417 {a0 : Int} (h0 : a0 = 4) : (0 : Int) ≤ a0 := by omega
theorem ob_418 {a0 : Int} (h0 : a0 = 4) : a0 ≤ (6 : Int) := by omega
theorem ob_419 {a0 a1 : Int} (h0 : a0 = (5 : Int)) (h1 : a1 = 4) : (a1 = (0 : Int)) ∨ ((3 : Int) ≤ a0) := by omega
theorem ob_420 {a0 a1 : Int} (h0 : a0 = (60 : Int)) (h1 : a1 = 4) : ((4 : Int) ≤ a1) → (((37 : Int) ≤ a0) ∧ (a0 ≤ (62 : Int))) := by omega
theorem ob_421 {a0 a1 a2 a3 : Int} (h0 : ((a0 ≠ (5 : Int)) ∧ (a1 = (0 : Int))) ∨ ((a0 = (5 : Int)) ∧ (a2 ≠ a3) ∧ (a1 = (0 : Int))) ∨ ((a0 = (5 : Int)) ∧ (a2 = a3) ∧ (a1 = (1 : Int)))) (h1 : a1 ≠ 0) (h2 : a3 = 62) : a0 = (5 : Int) := by omega
theorem ob_422 {a0 a1 a2 a3 : Int} (h0 : ((a0 ≠ (5 : Int)) ∧ (a1 = (0 : Int))) ∨ ((a0 = (5 : Int)) ∧ (a2 ≠ a3) ∧ (a1 = (0 : Int))) ∨ ((a0 = (5 : Int)) ∧ (a2 = a3) ∧ (a1 = (1 : Int)))) (h1 : a1 ≠ 0) (h2 : a3 = 62) : a2 = (62 : Int) := by omega
theorem ob_423 {a0 a1 a2 a3 : Int} (h0 : ((a0 ≠ (5 : Int)) ∧ (a1 = (0 : Int))) ∨ ((a0 = (5 : Int)) ∧ (a2 ≠ a3) ∧ (a1 = (0 : Int))) ∨ ((a0 = (5 : Int)) ∧ (a2 = a3) ∧ (a1 = (1 : Int)))) (h1 : a1 ≠ 0) (h2 : a3 = 62) : a1 = (1 : Int) := by omega
theorem ob_424 {a0 a1 : Int} (h0 : a0 = (62 : Int)) (h1 : a1 = 4) : ((4 : Int) ≤ a1) → (((37 : Int) ≤ a0) ∧ (a0 ≤ (62 : Int))) := by omega
theorem ob_425 {a0 a1 a2 a3 : Int} (h0 : ((a0 ≠ (5 : Int)) ∧ (a1 = (0 : Int))) ∨ ((a0 = (5 : Int)) ∧ (a2 ≠ a3) ∧ (a1 = (0 : Int))) ∨ ((a0 = (5 : Int)) ∧ (a2 = a3) ∧ (a1 = (1 : Int)))) (h1 : a1 ≠ 0) (h2 : a3 = 43) : a0 = (5 : Int) := by omega
theorem ob_426 {a0 a1 a2 a3 : Int} (h0 : ((a0 ≠ (5 : Int)) ∧ (a1 = (0 : Int))) ∨ ((a0 = (5 : Int)) ∧ (a2 ≠ a3) ∧ (a1 = (0 : Int))) ∨ ((a0 = (5 : Int)) ∧ (a2 = a3) ∧ (a1 = (1 : Int)))) (h1 : a1 ≠ 0) (h2 : a3 = 43) : a2 = (43 : Int) := by omega
theorem ob_427 {a0 a1 a2 a3 : Int} (h0 : ((a0 ≠ (5 : Int)) ∧ (a1 = (0 : Int))) ∨ ((a0 = (5 : Int)) ∧ (a2 ≠ a3) ∧ (a1 = (0 : Int))) ∨ ((a0 = (5 : Int)) ∧ (a2 = a3) ∧ (a1 = (1 : Int)))) (h1 : a1 ≠ 0) (h2 : a3 = 43) : a1 = (1 : Int) := by omega
theorem ob_428 {a0 : Int} (h0 : a0 = 5) : (0 : Int) ≤ a0 := by omega
theorem ob_429 {a0 : Int} (h0 : a0 = 5) : a0 ≤ (6 : Int) := by omega
theorem ob_430 {a0 : Int} (h0 : a0 = 5) : a0 ≠ (3 : Int) := by omega
theorem ob_431 {a0 a1 : Int} (h0 : a0 = (5 : Int)) (h1 : a1 = 5) : (a1 = (0 : Int)) ∨ ((3 : Int) ≤ a0) := by omega
theorem ob_432 {a0 a1 : Int} (h0 : a0 = (43 : Int)) (h1 : a1 = 5) : ((4 : Int) ≤ a1) → (((37 : Int) ≤ a0) ∧ (a0 ≤ (62 : Int))) := by omega
theorem ob_433 {a0 a1 a2 a3 : Int} (h0 : ((a0 ≠ (5 : Int)) ∧ (a1 = (0 : Int))) ∨ ((a0 = (5 : Int)) ∧ (a2 ≠ a3) ∧ (a1 = (0 : Int))) ∨ ((a0 = (5 : Int)) ∧ (a2 = a3) ∧ (a1 = (1 : Int)))) (h1 : a1 ≠ 0) (h2 : a3 = 42) : a0 = (5 : Int) := by omega
theorem ob_434 {a0 a1 a2 a3 : Int} (h0 : ((a0 ≠ (5 : Int)) ∧ (a1 = (0 : Int))) ∨ ((a0 = (5 : Int)) ∧ (a2 ≠ a3) ∧ (a1 = (0 : Int))) ∨ ((a0 = (5 : Int)) ∧ (a2 = a3) ∧ (a1 = (1 : Int)))) (h1 : a1 ≠ 0) (h2 : a3 = 42) : a2 = (42 : Int) := by omega
theorem ob_435 {a0 a1 a2 a3 : Int} (h0 : ((a0 ≠ (5 : Int)) ∧ (a1 = (0 : Int))) ∨ ((a0 = (5 : Int)) ∧ (a2 ≠ a3) ∧ (a1 = (0 : Int))) ∨ ((a0 = (5 : Int)) ∧ (a2 = a3) ∧ (a1 = (1 : Int)))) (h1 : a1 ≠ 0) (h2 : a3 = 42) : a1 = (1 : Int) := by omega
theorem ob_436 {a0 : Int} (h0 : a0 = 6) : (0 : Int) ≤ a0 := by omega
theorem ob_437 {a0 : Int} (h0 : a0 = 6) : a0 ≤ (6 : Int) := by omega
theorem ob_438 {a0 : Int} (h0 : a0 = 6) : a0 ≠ (3 : Int) := by omega
theorem ob_439 {a0 a1 : Int} (h0 : a0 = (5 : Int)) (h1 : a1 = 6) : (a1 = (0 : Int)) ∨ ((3 : Int) ≤ a0) := by omega
theorem ob_440 {a0 a1 : Int} (h0 : a0 = (42 : Int)) (h1 : a1 = 6) : ((4 : Int) ≤ a1) → (((37 : Int) ≤ a0) ∧ (a0 ≤ (62 : Int))) := by omega
theorem ob_441 {a0 a1 a2 a3 : Int} (h0 : ((a0 ≠ (5 : Int)) ∧ (a1 = (0 : Int))) ∨ ((a0 = (5 : Int)) ∧ (a2 ≠ a3) ∧ (a1 = (0 : Int))) ∨ ((a0 = (5 : Int)) ∧ (a2 = a3) ∧ (a1 = (1 : Int)))) (h1 : a1 ≠ 0) (h2 : a3 = 47) : a0 = (5 : Int) := by omega
theorem ob_442 {a0 a1 a2 a3 : Int} (h0 : ((a0 ≠ (5 : Int)) ∧ (a1 = (0 : Int))) ∨ ((a0 = (5 : Int)) ∧ (a2 ≠ a3) ∧ (a1 = (0 : Int))) ∨ ((a0 = (5 : Int)) ∧ (a2 = a3) ∧ (a1 = (1 : Int)))) (h1 : a1 ≠ 0) (h2 : a3 = 47) : a2 = (47 : Int) := by omega
theorem ob_443 {a0 a1 a2 a3 : Int} (h0 : ((a0 ≠ (5 : Int)) ∧ (a1 = (0 : Int))) ∨ ((a0 = (5 : Int)) ∧ (a2 ≠ a3) ∧ (a1 = (0 : Int))) ∨ ((a0 = (5 : Int)) ∧ (a2 = a3) ∧ (a1 = (1 : Int)))) (h1 : a1 ≠ 0) (h2 : a3 = 47) : a1 = (1 : Int) := by omega
theorem ob_444 {a0 a1 : Int} (h0 : a0 = (47 : Int)) (h1 : a1 = 6) : ((4 : Int) ≤ a1) → (((37 : Int) ≤ a0) ∧ (a0 ≤ (62 : Int))) := by omega
theorem ob_445 {a0 : Int} (h0 : a0 = 0) : a0 ≤ (6 : Int) := by omega
theorem ob_446 {a0 : Int} (h0 : a0 = 0) : a0 ≠ (3 : Int) := by omega
theorem ob_447 {a0 a1 : Int} (h0 : a0 = 0) : (a0 = (0 : Int)) ∨ ((3 : Int) ≤ a1) := by omega
theorem ob_448 {a0 a1 : Int} (h0 : a0 = 0) : ((4 : Int) ≤ a0) → (((37 : Int) ≤ a1) ∧ (a1 ≤ (62 : Int))) := by omega
theorem ob_449 {a0 a1 a2 a3 : Int} (h0 : ((a0 ≠ (5 : Int)) ∧ (a1 = (0 : Int))) ∨ ((a0 = (5 : Int)) ∧ (a2 ≠ a3) ∧ (a1 = (0 : Int))) ∨ ((a0 = (5 : Int)) ∧ (a2 = a3) ∧ (a1 = (1 : Int)))) (h1 : a1 ≠ 0) (h2 : a3 = 37) : a0 = (5 : Int) := by omega
theorem ob_450 {a0 a1 a2 a3 : Int} (h0 : ((a0 ≠ (5 : Int)) ∧ (a1 = (0 : Int))) ∨ ((a0 = (5 : Int)) ∧ (a2 ≠ a3) ∧ (a1 = (0 : Int))) ∨ ((a0 = (5 : Int)) ∧ (a2 = a3) ∧ (a1 = (1 : Int)))) (h1 : a1 ≠ 0) (h2 : a3 = 37) : a2 = (37 : Int) := by omega
theorem ob_451 {a0 a1 a2 a3 : Int} (h0 : ((a0 ≠ (5 : Int)) ∧ (a1 = (0 : Int))) ∨ ((a0 = (5 : Int)) ∧ (a2 ≠ a3) ∧ (a1 = (0 : Int))) ∨ ((a0 = (5 : Int)) ∧ (a2 = a3) ∧ (a1 = (1 : Int)))) (h1 : a1 ≠ 0) (h2 : a3 = 37) : a1 = (1 : Int) := by omega
theorem ob_452 {a0 a1 : Int} (h0 : a0 = (37 : Int)) (h1 : a1 = 6) : ((4 : Int) ≤ a1) → (((37 : Int) ≤ a0) ∧ (a0 ≤ (62 : Int))) := by omega
theorem ob_453 {a0 a1 a2 a3 : Int} (h0 : ((a0 ≠ (5 : Int)) ∧ (a1 = (0 : Int))) ∨ ((a0 = (5 : Int)) ∧ (a2 ≠ a3) ∧ (a1 = (0 : Int))) ∨ ((a0 = (5 : Int)) ∧ (a2 = a3) ∧ (a1 = (1 : Int)))) (h1 : a1 ≠ 0) (h2 : a3 = 45) : a0 = (5 : Int) := by omega
theorem ob_454 {a0 a1 a2 a3 : Int} (h0 : ((a0 ≠ (5 : Int)) ∧ (a1 = (0 : Int))) ∨ ((a0 = (5 : Int)) ∧ (a2 ≠ a3) ∧ (a1 = (0 : Int))) ∨ ((a0 = (5 : Int)) ∧ (a2 = a3) ∧ (a1 = (1 : Int)))) (h1 : a1 ≠ 0) (h2 : a3 = 45) : a2 = (45 : Int) := by omega
theorem ob_455 {a0 a1 a2 a3 : Int} (h0 : ((a0 ≠ (5 : Int)) ∧ (a1 = (0 : Int))) ∨ ((a0 = (5 : Int)) ∧ (a2 ≠ a3) ∧ (a1 = (0 : Int))) ∨ ((a0 = (5 : Int)) ∧ (a2 = a3) ∧ (a1 = (1 : Int)))) (h1 : a1 ≠ 0) (h2 : a3 = 45) : a1 = (1 : Int) := by omega
theorem ob_456 {a0 a1 : Int} (h0 : a0 = (45 : Int)) (h1 : a1 = 5) : ((4 : Int) ≤ a1) → (((37 : Int) ≤ a0) ∧ (a0 ≤ (62 : Int))) := by omega
theorem ob_457 {a0 a1 a2 a3 : Int} (h0 : ((a0 ≠ (5 : Int)) ∧ (a1 = (0 : Int))) ∨ ((a0 = (5 : Int)) ∧ (a2 ≠ a3) ∧ (a1 = (0 : Int))) ∨ ((a0 = (5 : Int)) ∧ (a2 = a3) ∧ (a1 = (1 : Int)))) (h1 : a1 ≠ 0) (h2 : a3 = 61) : a0 = (5 : Int) := by omega
theorem ob_458 {a0 a1 a2 a3 : Int} (h0 : ((a0 ≠ (5 : Int)) ∧ (a1 = (0 : Int))) ∨ ((a0 = (5 : Int)) ∧ (a2 ≠ a3) ∧ (a1 = (0 : Int))) ∨ ((a0 = (5 : Int)) ∧ (a2 = a3) ∧ (a1 = (1 : Int)))) (h1 : a1 ≠ 0) (h2 : a3 = 61) : a2 = (61 : Int) := by omega
theorem ob_459 {a0 a1 a2 a3 : Int} (h0 : ((a0 ≠ (5 : Int)) ∧ (a1 = (0 : Int))) ∨ ((a0 = (5 : Int)) ∧ (a2 ≠ a3) ∧ (a1 = (0 : Int))) ∨ ((a0 = (5 : Int)) ∧ (a2 = a3) ∧ (a1 = (1 : Int)))) (h1 : a1 ≠ 0) (h2 : a3 = 61) : a1 = (1 : Int) := by omega
theorem ob_460 {a0 a1 : Int} (h0 : a0 = (61 : Int)) (h1 : a1 = 4) : ((4 : Int) ≤ a1) → (((37 : Int) ≤ a0) ∧ (a0 ≤ (62 : Int))) := by omega
theorem ob_461 {a0 a1 a2 a3 : Int} (h0 : ((a0 ≠ (3 : Int)) ∧ (a1 = (0 : Int))) ∨ ((a0 = (3 : Int)) ∧ (a2 ≠ a3) ∧ (a1 = (0 : Int))) ∨ ((a0 = (3 : Int)) ∧ (a2 = a3) ∧ (a1 = (1 : Int)))) (h1 : a1 ≠ 0) (h2 : a3 = 28530) : a0 = (3 : Int) := by omega
theorem ob_462 {a0 a1 a2 a3 : Int} (h0 : ((a0 ≠ (3 : Int)) ∧ (a1 = (0 : Int))) ∨ ((a0 = (3 : Int)) ∧ (a2 ≠ a3) ∧ (a1 = (0 : Int))) ∨ ((a0 = (3 : Int)) ∧ (a2 = a3) ∧ (a1 = (1 : Int)))) (h1 : a1 ≠ 0) (h2 : a3 = 28530) : a2 = (28530 : Int) := by omega
theorem ob_463 {a0 a1 a2 a3 : Int} (h0 : ((a0 ≠ (3 : Int)) ∧ (a1 = (0 : Int))) ∨ ((a0 = (3 : Int)) ∧ (a2 ≠ a3) ∧ (a1 = (0 : Int))) ∨ ((a0 = (3 : Int)) ∧ (a2 = a3) ∧ (a1 = (1 : Int)))) (h1 : a1 ≠ 0) (h2 : a3 = 28530) : a1 = (1 : Int) := by omega
theorem ob_464 {a0 : Int} (h0 : a0 = 1) : a0 ≤ (6 : Int) := by omega
theorem ob_465 {a0 : Int} (h0 : a0 = 1) : a0 ≠ (3 : Int) := by omega
theorem ob_466 {a0 a1 : Int} (h0 : a0 = (3 : Int)) (h1 : a1 = 1) : (a1 = (0 : Int)) ∨ ((3 : Int) ≤ a0) := by omega
theorem ob_467 {a0 a1 : Int} (h0 : a0 = 1) : ((4 : Int) ≤ a0) → (((37 : Int) ≤ a1) ∧ (a1 ≤ (62 : Int))) := by omega
theorem ob_468 {a0 a1 a2 a3 : Int} (h0 : ((a0 ≠ (3 : Int)) ∧ (a1 = (0 : Int))) ∨ ((a0 = (3 : Int)) ∧ (a2 ≠ a3) ∧ (a1 = (0 : Int))) ∨ ((a0 = (3 : Int)) ∧ (a2 = a3) ∧ (a1 = (1 : Int)))) (h1 : a1 ≠ 0) (h2 : a3 = 6385252) : a0 = (3 : Int) := by omega
theorem ob_469 {a0 a1 a2 a3 : Int} (h0 : ((a0 ≠ (3 : Int)) ∧ (a1 = (0 : Int))) ∨ ((a0 = (3 : Int)) ∧ (a2 ≠ a3) ∧ (a1 = (0 : Int))) ∨ ((a0 = (3 : Int)) ∧ (a2 = a3) ∧ (a1 = (1 : Int)))) (h1 : a1 ≠ 0) (h2 : a3 = 6385252) : a2 = (6385252 : Int) := by omega
theorem ob_470 {a0 a1 a2 a3 : Int} (h0 : ((a0 ≠ (3 : Int)) ∧ (a1 = (0 : Int))) ∨ ((a0 = (3 : Int)) ∧ (a2 ≠ a3) ∧ (a1 = (0 : Int))) ∨ ((a0 = (3 : Int)) ∧ (a2 = a3) ∧ (a1 = (1 : Int)))) (h1 : a1 ≠ 0) (h2 : a3 = 6385252) : a1 = (1 : Int) := by omega
theorem ob_471 {a0 : Int} (h0 : a0 = 2) : (0 : Int) ≤ a0 := by omega
theorem ob_472 {a0 : Int} (h0 : a0 = 2) : a0 ≤ (6 : Int) := by omega
theorem ob_473 {a0 : Int} (h0 : a0 = 2) : a0 ≠ (3 : Int) := by omega
theorem ob_474 {a0 a1 : Int} (h0 : a0 = (3 : Int)) (h1 : a1 = 2) : (a1 = (0 : Int)) ∨ ((3 : Int) ≤ a0) := by omega
theorem ob_475 {a0 a1 : Int} (h0 : a0 = 2) : ((4 : Int) ≤ a0) → (((37 : Int) ≤ a1) ∧ (a1 ≤ (62 : Int))) := by omega
theorem ob_476 {a0 : Int} (h0 : (1 : Int) ≤ a0) (h1 : a0 ≤ (90 : Int)) : (-2147483648) ≤ a0 - 1 := by omega
theorem ob_477 {a0 : Int} (h0 : (1 : Int) ≤ a0) (h1 : a0 ≤ (90 : Int)) : a0 - 1 ≤ 2147483647 := by omega
theorem ob_478 {a0 : Int} (h0 : a0 < 0) (h1 : (0 : Int) ≤ a0) : False := by omega
theorem ob_479 {a0 : Int} (h0 : a0 ≤ (89 : Int)) : a0 < 90 := by omega
theorem ob_480 {a0 a1 a2 : Int} (h0 : a0 = (8 : Int)) (h1 : a2 = 0 → a1 = a0) (h2 : a1 = 5) : a2 ≠ (0 : Int) := by omega
theorem ob_481 {a0 : Int} (h0 : (0 : Int) ≤ a0 + 1) : (-2147483648) ≤ a0 + (-1) := by omega
theorem ob_482 {a0 : Int} (h0 : a0 ≤ (89 : Int)) : a0 + (-1) ≤ 2147483647 := by omega
theorem ob_483 {a0 a1 : Int} (h0 : a0 = a1 + (-1)) : a0 = a1 + (-1) := by omega
theorem ob_484 {a0 a1 : Int} (h0 : (0 : Int) ≤ a0) (h1 : a1 = a0 + (-1)) : (0 : Int) ≤ a1 + 1 := by omega
theorem ob_485 {a0 a1 : Int} (h0 : a0 ≤ (89 : Int)) (h1 : a1 = a0 + (-1)) : a1 ≤ (89 : Int) := by omega
theorem ob_486 {a0 a1 : Int} (h0 : (0 : Int) ≤ a0) (h1 : a0 ≠ (0 : Int)) (h2 : a1 = a0 + (-1)) : (0 : Int) ≤ a1 := by omega
theorem ob_487 {a0 a1 a2 : Int} (h0 : a0 < a1 + 1) (h1 : a2 = a0 + (-1)) : a2 < a1 := by omega
theorem ob_488 {a0 : Int} (h0 : a0 = 0) : ((a0 = (0 : Int))) ∨ ((a0 = (1 : Int))) := by omega
theorem ob_489 {a0 a1 a2 : Int} (h0 : a0 = (8 : Int)) (h1 : a2 = 0 → a1 = a0) (h2 : a1 = 4) : a2 ≠ (0 : Int) := by omega
theorem ob_490 {a0 : Int} (h0 : a0 = 4) (h1 : a0 ≤ (4 : Int)) : a0 ≤ (5 : Int) := by omega
theorem ob_491 {a0 : Int} (h0 : a0 = 1) : ((a0 = (0 : Int))) ∨ ((a0 = (1 : Int))) := by omega
theorem ob_492 {a0 a1 a2 : Int} (h0 : a0 = (8 : Int)) (h1 : a2 = 0 → a1 = a0) (h2 : a1 = 6) : a2 ≠ (0 : Int) := by omega
theorem ob_493 {a0 : Int} (h0 : a0 = 6) : (6 : Int) ≤ a0 := by omega
theorem ob_494 {a0 a1 : Int} (h0 : (1 : Int) ≤ a0) (h1 : a0 ≤ (90 : Int)) (h2 : a1 = a0 + (-1)) : (0 : Int) ≤ a1 + 1 := by omega
theorem ob_495 {a0 a1 : Int} (h0 : (1 : Int) ≤ a0) (h1 : a0 ≤ (90 : Int)) (h2 : a1 = a0 + (-1)) : a1 ≤ (89 : Int) := by omega
theorem ob_496 {a0 a1 : Int} (h0 : (1 : Int) ≤ a0) (h1 : a0 ≤ (90 : Int)) (h2 : a1 = a0 + (-1)) : (0 : Int) ≤ a1 := by omega
theorem ob_497 {a0 a1 : Int} (h0 : (1 : Int) ≤ a0) (h1 : a0 ≤ (90 : Int)) (h2 : a1 = a0 + (-1)) : 0 ≤ a1 := by omega
theorem ob_498 {a0 : Int} (h0 : (0 : Int) ≤ a0) : (-2147483648) ≤ a0 - 1 := by omega
theorem ob_499 {a0 : Int} (h0 : a0 ≤ (37 : Int)) : a0 - 1 ≤ 2147483647 := by omega
theorem ob_500 {a0 : Int} (h0 : (1 : Int) ≤ a0) : 0 ≤ a0 + (-1) := by omega
theorem ob_501 {a0 : Int} (h0 : a0 ≤ (37 : Int)) : a0 + (-1) < 90 := by omega
theorem ob_502 {a0 : Int} : a0 + (-1) < a0 := by omega
theorem ob_503 {a0 : Int} : a0 + (-1) = a0 - 1 := by omega
theorem ob_504 {a0 : Int} (h0 : (0 : Int) ≤ a0) (h1 : a0 ≤ (6 : Int)) (h2 : a0 ≤ 0) : a0 ≤ (2 : Int) := by omega
theorem ob_505 {a0 : Int} (h0 : a0 ≤ 0) : a0 ≤ (3 : Int) := by omega
theorem ob_506 {a0 a1 : Int} (h0 : 1 ≤ a1 + (-1) → 1 ≤ a0 ∧ a0 ≤ 7) (h1 : 6 < a0) (h2 : a0 ≠ 7) : a1 ≤ (1 : Int) := by omega
theorem ob_507 {a0 : Int} (h0 : 6 < a0) (h1 : a0 ≠ 7) : (8 : Int) ≤ a0 := by omega
theorem ob_508 {a0 a1 a2 : Int} (h0 : (1 : Int) ≤ a0) (h1 : a0 + (-1) = 0 → a1 = a2) (h2 : 1 ≤ a0 + (-1) → 1 ≤ a1 ∧ a1 ≤ 7) (h3 : 6 < a1) (h4 : a1 ≠ 7) : a1 = a2 := by omega
theorem ob_509 {a0 a1 : Int} (h0 : 1 ≤ a0) (h1 : (1 : Int) ≤ a1) (h2 : a1 ≤ (1 : Int)) (h3 : a0 = a1 + (-1)) : False := by omega
theorem ob_510 {a0 a1 : Int} (h0 : (1 : Int) ≤ a0) (h1 : a1 = a0 + (-1)) : (0 : Int) ≤ a1 := by omega
theorem ob_511 {a0 a1 : Int} (h0 : a0 ≤ (37 : Int)) (h1 : a1 = a0 + (-1)) : a1 ≤ (60 : Int) := by omega
theorem ob_512 {a0 a1 a2 a3 a4 a5 a6 a7 a8 a9 a10 a11 : Int} (h0 : (0 : Int) ≤ a0) (h1 : a1 = (8 : Int)) (h2 : (0 : Int) ≤ a2) (h3 : a2 ≤ (7 : Int)) (h4 : a3 ≤ a4) (h5 : a3 ≤ a5 + a2) (h6 : a6 + a3 ≤ 560 * a7 + 9 * a5) (h7 : 560 * a7 ≤ a6) (h8 : a8 = 0) (h9 : a9 = a3 + (-1)) : ((1 : Int) ≤ a0) ∨ ((560 * a7 ≤ a6) ∧ (a6 + a9 ≤ 560 * a7 + 9 * a5 + 9) ∧ (a0 = (0 : Int)) ∧ (a1 = (8 : Int)) ∧ (((a8 = (1 : Int)) ∧ ((1 : Int) ≤ a9) ∧ (a9 ≤ a4 + 1) ∧ (a10 ≠ (0 : Int)) ∧ ((a10 = (0 : Int)) ∨ (a11 + 1 ≤ a11)) ∧ ((0 : Int) ≤ a2) ∧ (a2 ≤ (7 : Int)) ∧ (a9 ≤ a5 + a2 + 1) ∧ (a6 + a9 ≤ 560 * a7 + 9 * a5 + a2 + 1)) ∨ ((a8 = (0 : Int)) ∧ (a9 + 1 ≤ a4) ∧ ((a10 = (0 : Int)) ∨ (a10 ≠ (0 : Int))) ∧ ((a9 = (0 : Int)) ∨ (((0 : Int) ≤ a2) ∧ (a2 ≤ (7 : Int)) ∧ (a9 ≤ a5 + a2) ∧ (a6 + a9 ≤ 560 * a7 + 9 * a5)))))) := by omega
theorem ob_513 {a0 a1 a2 : Int} (h0 : a0 = (8 : Int)) (h1 : a2 + (-1) = 0 → a1 = a0) (h2 : a1 = 7) : a2 ≠ (1 : Int) := by omega
theorem ob_514 {a0 : Int} (h0 : 6 < a0) (h1 : a0 = 7) : (1 : Int) ≤ a0 := by omega
theorem ob_515 {a0 : Int} (h0 : 6 < a0) (h1 : a0 = 7) (h2 : (1 : Int) ≤ a0) : a0 ≤ (7 : Int) := by omega
theorem ob_516 {a0 a1 : Int} (h0 : (a0 = 3 ∨ a0 = 7) → 1 ≤ a1) (h1 : a0 = 7) : (1 : Int) ≤ a1 := by omega
theorem ob_517 {a0 : Int} (h0 : a0 ≤ (7 : Int)) : a0 - 1 ≤ 2147483647 := by omega
theorem ob_518 {a0 a1 : Int} (h0 : a0 = a1 + (-1)) : a0 = a1 - 1 := by omega
theorem ob_519 {a0 : Int} (h0 : (1 : Int) ≤ a0) (h1 : a0 ≠ (1 : Int)) : 2 ≤ a0 := by omega
theorem ob_520 {a0 a1 : Int} (h0 : a0 = 7) (h1 : a1 = a0) : a1 = 7 := by omega
theorem ob_521 {a0 a1 a2 a3 a4 a5 a6 a7 a8 a9 a10 a11 a12 a13 a14 a15 a16 a17 a18 : Int} (h0 : a0 = (8 : Int)) (h1 : a1 ≤ (7 : Int)) (h2 : a2 ≤ a3) (h3 : a2 ≤ a4 + a1) (h4 : a5 + a2 ≤ 560 * a6 + 9 * a4) (h5 : 560 * a6 ≤ a5) (h6 : (1 : Int) ≤ a1) (h7 : ((a7 ≠ (5 : Int)) ∧ (a8 = (0 : Int))) ∨ ((a7 = (5 : Int)) ∧ (a9 ≠ a10) ∧ (a8 = (0 : Int))) ∨ ((a7 = (5 : Int)) ∧ (a9 = a10) ∧ (a8 = (1 : Int)))) (h8 : ((1 : Int) ≤ a11) ∨ ((a11 = (0 : Int)) ∧ (a12 = (0 : Int)) ∧ (a8 = (1 : Int)) ∧ ((a13 = (0 : Int)) ∨ (a14 + 1 ≤ a15)))) (h9 : a10 = 41) (h10 : a16 = a1 + (-1)) (h11 : a17 = 0) (h12 : a18 = a2 + (-1)) : ((1 : Int) ≤ a11) ∨ ((560 * a6 ≤ a5) ∧ (a5 + a18 ≤ 560 * a6 + 9 * a4 + 9) ∧ (a11 = (0 : Int)) ∧ (a0 = (8 : Int)) ∧ (((a17 = (1 : Int)) ∧ ((1 : Int) ≤ a18) ∧ (a18 ≤ a3 + 1) ∧ (a7 ≠ (0 : Int)) ∧ ((a13 = (0 : Int)) ∨ (a14 + 1 ≤ a15)) ∧ ((0 : Int) ≤ a16) ∧ (a16 ≤ (7 : Int)) ∧ (a18 ≤ a4 + a16 + 1) ∧ (a5 + a18 ≤ 560 * a6 + 9 * a4 + a16 + 1)) ∨ ((a17 = (0 : Int)) ∧ (a18 + 1 ≤ a3) ∧ ((a13 = (0 : Int)) ∨ (a7 ≠ (0 : Int))) ∧ ((a18 = (0 : Int)) ∨ (((0 : Int) ≤ a16) ∧ (a16 ≤ (7 : Int)) ∧ (a18 ≤ a4 + a16) ∧ (a5 + a18 ≤ 560 * a6 + 9 * a4)))))) := by omega
theorem ob_522 {a0 a1 : Int} (h0 : (a0 = (0 : Int)) ∨ ((3 : Int) ≤ a1)) (h1 : 0 < a0) : (3 : Int) ≤ a1 := by omega
theorem ob_523 {a0 : Int} (h0 : 0 < a0) (h1 : a0 ≠ 2) (h2 : a0 ≠ 1) : (3 : Int) ≤ a0 := by omega
theorem ob_524 {a0 : Int} (h0 : (3 : Int) ≤ a0) : (2 : Int) ≤ a0 := by omega
theorem ob_525 {a0 : Int} (h0 : a0 ≠ (3 : Int)) (h1 : 0 < a0) (h2 : a0 ≠ 2) (h3 : a0 ≠ 1) : (4 : Int) ≤ a0 := by omega
theorem ob_526 {a0 a1 : Int} (h0 : a0 ≠ (3 : Int)) (h1 : ((4 : Int) ≤ a0) → (((37 : Int) ≤ a1) ∧ (a1 ≤ (62 : Int)))) (h2 : 0 < a0) (h3 : a0 ≠ 2) (h4 : a0 ≠ 1) : (37 : Int) ≤ a1 := by omega
theorem ob_527 {a0 a1 : Int} (h0 : a0 ≠ (3 : Int)) (h1 : ((4 : Int) ≤ a0) → (((37 : Int) ≤ a1) ∧ (a1 ≤ (62 : Int)))) (h2 : 0 < a0) (h3 : a0 ≠ 2) (h4 : a0 ≠ 1) : a1 ≤ (62 : Int) := by omega
theorem ob_528 {a0 : Int} (h0 : a0 ≠ (3 : Int)) (h1 : a0 ≠ 4) (h2 : 0 < a0) (h3 : a0 ≠ 2) (h4 : a0 ≠ 1) : (5 : Int) ≤ a0 := by omega
theorem ob_529 {a0 : Int} (h0 : a0 ≤ (37 : Int)) : a0 ≤ (89 : Int) := by omega
theorem ob_530 {a0 : Int} (h0 : a0 ≤ (6 : Int)) (h1 : (4 : Int) ≤ a0) : a0 = 1 ∨ a0 = 2 ∨ a0 = 4 ∨ a0 = 5 ∨ a0 = 6 := by omega
theorem ob_531 {a0 a1 : Int} (h0 : a0 ≤ (62 : Int)) (h1 : a1 = a0) : a1 < 97 ∨ (122 < a1 ∧ a1 ≠ 126) := by omega
theorem ob_532 {a0 : Int} (h0 : a0 = 1) : a0 = 0 + 1 := by omega
theorem ob_533 {a0 a1 : Int} (h0 : a0 ≤ (37 : Int)) (h1 : a1 = a0 + 1) : a1 ≤ (60 : Int) := by omega
theorem ob_534 {a0 a1 a2 a3 a4 a5 a6 a7 a8 a9 a10 a11 a12 a13 a14 a15 a16 : Int} (h0 : (0 : Int) ≤ a0) (h1 : a0 ≤ (1600 : Int)) (h2 : (0 : Int) ≤ a1) (h3 : a2 = (8 : Int)) (h4 : (a3 = (0 : Int)) ∨ ((3 : Int) ≤ a4)) (h5 : (0 : Int) ≤ a5) (h6 : a5 ≤ (7 : Int)) (h7 : (0 : Int) ≤ a6) (h8 : a6 ≤ a7) (h9 : a6 ≤ a8 + a5) (h10 : a9 + a6 ≤ 560 * a10 + 9 * a8) (h11 : 560 * a10 ≤ a9) (h12 : 0 < a3) (h13 : a11 = a6 + 1) (h14 : a12 = a2) (h15 : (a13 = (0 : Int)) ∨ (a14 + 1 ≤ a15)) (h16 : a16 = 1) : ((1 : Int) ≤ a1) ∨ ((560 * a10 ≤ a9) ∧ (a9 + a11 ≤ 560 * a10 + 9 * a8 + 9) ∧ (a1 = (0 : Int)) ∧ (a12 = (8 : Int)) ∧ (((a16 = (1 : Int)) ∧ ((1 : Int) ≤ a11) ∧ (a11 ≤ a7 + 1) ∧ (a4 ≠ (0 : Int)) ∧ ((a13 = (0 : Int)) ∨ (a14 + 1 ≤ a15)) ∧ ((0 : Int) ≤ a5) ∧ (a5 ≤ (7 : Int)) ∧ (a11 ≤ a8 + a5 + 1) ∧ (a9 + a11 ≤ 560 * a10 + 9 * a8 + a5 + 1)) ∨ ((a16 = (0 : Int)) ∧ (a11 + 1 ≤ a7) ∧ ((a13 = (0 : Int)) ∨ (a4 ≠ (0 : Int))) ∧ ((a11 = (0 : Int)) ∨ (((0 : Int) ≤ a5) ∧ (a5 ≤ (7 : Int)) ∧ (a11 ≤ a8 + a5) ∧ (a9 + a11 ≤ 560 * a10 + 9 * a8)))))) := by omega
theorem ob_535 {a0 : Int} (h0 : a0 = 1) : a0 ≤ (2 : Int) := by omega
theorem ob_536 {a0 : Int} (h0 : a0 = 1) : a0 ≤ (3 : Int) := by omega
theorem ob_537 {a0 : Int} (h0 : a0 = 1) : a0 = 1 ∨ a0 = 2 ∨ a0 = 4 ∨ a0 = 5 ∨ a0 = 6 := by omega
theorem ob_538 {a0 : Int} (h0 : a0 = 124) : a0 < 97 ∨ (122 < a0 ∧ a0 ≠ 126) := by omega
theorem ob_539 {a0 a1 a2 a3 a4 a5 a6 a7 a8 a9 a10 a11 a12 a13 a14 a15 : Int} (h0 : (0 : Int) ≤ a0) (h1 : a1 = (8 : Int)) (h2 : (a2 = (0 : Int)) ∨ ((3 : Int) ≤ a3)) (h3 : (0 : Int) ≤ a4) (h4 : a4 ≤ (7 : Int)) (h5 : (0 : Int) ≤ a5) (h6 : a5 ≤ a6) (h7 : a5 ≤ a7 + a4) (h8 : a8 + a5 ≤ 560 * a9 + 9 * a7) (h9 : 560 * a9 ≤ a8) (h10 : 0 < a2) (h11 : a10 = a5 + 1) (h12 : a11 = a1) (h13 : (a12 = (0 : Int)) ∨ (a13 + 1 ≤ a14)) (h14 : a15 = 1) : ((1 : Int) ≤ a0) ∨ ((560 * a9 ≤ a8) ∧ (a8 + a10 ≤ 560 * a9 + 9 * a7 + 9) ∧ (a0 = (0 : Int)) ∧ (a11 = (8 : Int)) ∧ (((a15 = (1 : Int)) ∧ ((1 : Int) ≤ a10) ∧ (a10 ≤ a6 + 1) ∧ (a3 ≠ (0 : Int)) ∧ ((a12 = (0 : Int)) ∨ (a13 + 1 ≤ a14)) ∧ ((0 : Int) ≤ a4) ∧ (a4 ≤ (7 : Int)) ∧ (a10 ≤ a7 + a4 + 1) ∧ (a8 + a10 ≤ 560 * a9 + 9 * a7 + a4 + 1)) ∨ ((a15 = (0 : Int)) ∧ (a10 + 1 ≤ a6) ∧ ((a12 = (0 : Int)) ∨ (a3 ≠ (0 : Int))) ∧ ((a10 = (0 : Int)) ∨ (((0 : Int) ≤ a4) ∧ (a4 ≤ (7 : Int)) ∧ (a10 ≤ a7 + a4) ∧ (a8 + a10 ≤ 560 * a9 + 9 * a7)))))) := by omega
theorem ob_540 {a0 : Int} (h0 : a0 = 2) : a0 ≤ (2 : Int) := by omega
theorem ob_541 {a0 : Int} (h0 : a0 = 2) : a0 ≤ (3 : Int) := by omega
theorem ob_542 {a0 : Int} (h0 : a0 = 2) : a0 = 1 ∨ a0 = 2 ∨ a0 = 4 ∨ a0 = 5 ∨ a0 = 6 := by omega
theorem ob_543 {a0 : Int} (h0 : a0 = 38) : a0 < 97 ∨ (122 < a0 ∧ a0 ≠ 126) := by omega
theorem ob_544 {a0 a1 a2 : Int} (h0 : a0 = (8 : Int)) (h1 : a2 + (-1) = 0 → a1 = a0) (h2 : a1 ≤ 6) : a2 ≠ (1 : Int) := by omega
theorem ob_545 {a0 a1 a2 : Int} (h0 : a0 = (8 : Int)) (h1 : (1 : Int) ≤ a1) (h2 : a1 + (-1) = 0 → a2 = a0) (h3 : 1 ≤ a1 + (-1) → 1 ≤ a2 ∧ a2 ≤ 7) : (1 : Int) ≤ a2 := by omega
theorem ob_546 {a0 : Int} (h0 : a0 ≤ 6) (h1 : (1 : Int) ≤ a0) : a0 ≤ (7 : Int) := by omega
theorem ob_547 {a0 a1 : Int} (h0 : a0 ≤ 0) (h1 : (1 : Int) ≤ a1) (h2 : a1 < a0) : False := by omega
theorem ob_548 {a0 a1 : Int} (h0 : a0 = 1) (h1 : (1 : Int) ≤ a1) (h2 : a1 < a0) : False := by omega
theorem ob_549 {a0 a1 a2 a3 a4 a5 a6 a7 a8 a9 a10 a11 a12 a13 a14 a15 a16 a17 a18 : Int} (h0 : (0 : Int) ≤ a0) (h1 : a0 ≤ (1600 : Int)) (h2 : (0 : Int) ≤ a1) (h3 : a1 ≤ (1 : Int)) (h4 : (0 : Int) ≤ a2) (h5 : a2 ≤ (1 : Int)) (h6 : (0 : Int) ≤ a3) (h7 : a4 = (8 : Int)) (h8 : (a5 = (0 : Int)) ∨ ((3 : Int) ≤ a6)) (h9 : (0 : Int) ≤ a7) (h10 : a7 ≤ (7 : Int)) (h11 : (1 : Int) ≤ a8) (h12 : a8 ≤ a9) (h13 : a8 ≤ a10 + a7) (h14 : a11 + a8 ≤ 560 * a2 + 9 * a10) (h15 : 560 * a2 ≤ a11) (h16 : a8 + (-1) = 0 → a12 = a4) (h17 : 1 ≤ a8 + (-1) → 1 ≤ a12 ∧ a12 ≤ 7) (h18 : a12 < a5) (h19 : a13 = a8 + 1) (h20 : a14 = a4) (h21 : (a15 = (0 : Int)) ∨ (a16 + 1 ≤ a17)) (h22 : a18 = 1) : ((1 : Int) ≤ a3) ∨ ((560 * a2 ≤ a11) ∧ (a11 + a13 ≤ 560 * a2 + 9 * a10 + 9) ∧ (a3 = (0 : Int)) ∧ (a14 = (8 : Int)) ∧ (((a18 = (1 : Int)) ∧ ((1 : Int) ≤ a13) ∧ (a13 ≤ a9 + 1) ∧ (a6 ≠ (0 : Int)) ∧ ((a15 = (0 : Int)) ∨ (a16 + 1 ≤ a17)) ∧ ((0 : Int) ≤ a7) ∧ (a7 ≤ (7 : Int)) ∧ (a13 ≤ a10 + a7 + 1) ∧ (a11 + a13 ≤ 560 * a2 + 9 * a10 + a7 + 1)) ∨ ((a18 = (0 : Int)) ∧ (a13 + 1 ≤ a9) ∧ ((a15 = (0 : Int)) ∨ (a6 ≠ (0 : Int))) ∧ ((a13 = (0 : Int)) ∨ (((0 : Int) ≤ a7) ∧ (a7 ≤ (7 : Int)) ∧ (a13 ≤ a10 + a7) ∧ (a11 + a13 ≤ 560 * a2 + 9 * a10)))))) := by omega
theorem ob_550 {a0 a1 a2 a3 a4 a5 a6 a7 a8 a9 a10 a11 a12 a13 a14 a15 a16 a17 : Int} (h0 : (0 : Int) ≤ a0) (h1 : a0 ≤ (1600 : Int)) (h2 : (0 : Int) ≤ a1) (h3 : a2 = (8 : Int)) (h4 : (a3 = (0 : Int)) ∨ ((3 : Int) ≤ a4)) (h5 : (0 : Int) ≤ a5) (h6 : a5 ≤ (7 : Int)) (h7 : (1 : Int) ≤ a6) (h8 : a6 ≤ a7) (h9 : a6 ≤ a8 + a5) (h10 : a9 + a6 ≤ 560 * a10 + 9 * a8) (h11 : 560 * a10 ≤ a9) (h12 : a6 + (-1) = 0 → a11 = a2) (h13 : 1 ≤ a6 + (-1) → 1 ≤ a11 ∧ a11 ≤ 7) (h14 : a11 < a3) (h15 : a12 = a6 + 1) (h16 : a13 = a2) (h17 : (a14 = (0 : Int)) ∨ (a15 + 1 ≤ a16)) (h18 : a17 = 1) : ((1 : Int) ≤ a1) ∨ ((560 * a10 ≤ a9) ∧ (a9 + a12 ≤ 560 * a10 + 9 * a8 + 9) ∧ (a1 = (0 : Int)) ∧ (a13 = (8 : Int)) ∧ (((a17 = (1 : Int)) ∧ ((1 : Int) ≤ a12) ∧ (a12 ≤ a7 + 1) ∧ (a4 ≠ (0 : Int)) ∧ ((a14 = (0 : Int)) ∨ (a15 + 1 ≤ a16)) ∧ ((0 : Int) ≤ a5) ∧ (a5 ≤ (7 : Int)) ∧ (a12 ≤ a8 + a5 + 1) ∧ (a9 + a12 ≤ 560 * a10 + 9 * a8 + a5 + 1)) ∨ ((a17 = (0 : Int)) ∧ (a12 + 1 ≤ a7) ∧ ((a14 = (0 : Int)) ∨ (a4 ≠ (0 : Int))) ∧ ((a12 = (0 : Int)) ∨ (((0 : Int) ≤ a5) ∧ (a5 ≤ (7 : Int)) ∧ (a12 ≤ a8 + a5) ∧ (a9 + a12 ≤ 560 * a10 + 9 * a8)))))) := by omega
theorem ob_551 {a0 a1 a2 a3 : Int} (h0 : a0 ≤ (30 : Int)) (h1 : (0 : Int) ≤ a1) (h2 : a2 + a1 ≤ 560 * a3 + 9 * a0) : a2 ≤ 560 * a3 + 559 := by omega
theorem ob_552 {a0 : Int} (h0 : a0 ≤ (37 : Int)) : a0 ≤ 59 := by omega
theorem ob_553 {a0 a1 : Int} (h0 : a0 ≤ 6) (h1 : a1 = a0) : a1 ≤ 6 := by omega
theorem ob_554 {a0 a1 a2 : Int} (h0 : a0 ≠ 3) (h1 : a1 = a0) : (a1 = 3 ∧ a2 = a2 - 1) ∨ (a1 ≠ 3 ∧ a2 = a2) := by omega
theorem ob_555 {a0 a1 a2 a3 a4 : Int} (h0 : a0 ≤ (1 : Int)) (h1 : a1 ≤ (30 : Int)) (h2 : (1 : Int) ≤ a2) (h3 : a3 + a2 ≤ 560 * a0 + 9 * a1) (h4 : a4 = a3 + 1) : a4 ≤ (830 : Int) := by omega
theorem ob_556 {a0 : Int} (h0 : a0 ≤ (7 : Int)) : a0 ≤ (7 : Int) := by omega
theorem ob_557 {a0 a1 : Int} (h0 : a0 ≤ (37 : Int)) (h1 : a1 = a0 + (-1)) : a1 ≤ (37 : Int) := by omega
theorem ob_558 {a0 a1 : Int} (h0 : (1 : Int) ≤ a0) (h1 : a0 ≠ (1 : Int)) (h2 : a1 = a0 + (-1)) : (1 : Int) ≤ a1 := by omega
theorem ob_559 {a0 a1 a2 : Int} (h0 : a0 ≤ a1) (h1 : a2 = a0 + (-1)) : a2 ≤ a1 := by omega
theorem ob_560 {a0 a1 a2 a3 : Int} (h0 : a0 ≤ a1 + a2) (h1 : a3 = a0 + (-1)) : a3 ≤ a1 + a2 := by omega
theorem ob_561 {a0 a1 a2 a3 a4 a5 : Int} (h0 : a0 + a1 ≤ 560 * a2 + 9 * a3) (h1 : a4 = a0 + 1) (h2 : a5 = a1 + (-1)) : a4 + a5 ≤ 560 * a2 + 9 * a3 := by omega
theorem ob_562 {a0 a1 a2 : Int} (h0 : 560 * a0 ≤ a1) (h1 : a2 = a1 + 1) : 560 * a0 ≤ a2 := by omega
theorem ob_563 {a0 a1 : Int} (h0 : (a0 = 3 ∨ a0 = 7) → 1 ≤ a1) (h1 : a0 = 3) : (1 : Int) ≤ a1 := by omega
theorem ob_564 {a0 a1 a2 a3 : Int} (h0 : a0 = 3) (h1 : a1 = a0) (h2 : a2 = a3 + (-1)) : (a1 = 3 ∧ a2 = a3 - 1) ∨ (a1 ≠ 3 ∧ a2 = a3) := by omega
theorem ob_565 {a0 a1 : Int} (h0 : a0 ≤ (7 : Int)) (h1 : a1 = a0 + (-1)) : a1 ≤ (7 : Int) := by omega
theorem ob_566 {a0 a1 a2 a3 a4 : Int} (h0 : a0 ≤ a1 + a2) (h1 : a3 = a2 + (-1)) (h2 : a4 = a0 + (-1)) : a4 ≤ a1 + a3 := by omega
theorem ob_567 {a0 a1 : Int} (h0 : (0 : Int) ≤ a0) (h1 : 560 * a0 ≤ a1) : (0 : Int) ≤ a1 := by omega
theorem ob_568 {a0 a1 a2 a3 : Int} (h0 : a0 ≤ (1 : Int)) (h1 : a1 ≤ (30 : Int)) (h2 : (1 : Int) ≤ a2) (h3 : a3 + a2 ≤ 560 * a0 + 9 * a1) : a3 ≤ (830 : Int) := by omega
theorem ob_569 {a0 a1 a2 : Int} (h0 : (0 : Int) ≤ a0) (h1 : a0 ≤ (7 : Int)) (h2 : a1 ≤ a2 + a0) : (0 : Int) ≤ a0 := by omega
theorem ob_570 {a0 a1 a2 : Int} (h0 : (0 : Int) ≤ a0) (h1 : a0 ≤ (7 : Int)) (h2 : a1 ≤ a2 + a0) : a0 ≤ (7 : Int) := by omega
theorem ob_571 {a0 a1 a2 a3 a4 : Int} (h0 : (1 : Int) ≤ a0) (h1 : a0 ≤ a1 + a2) (h2 : a3 + a0 ≤ 560 * a4 + 9 * a1) : (0 : Int) ≤ a0 := by omega
theorem ob_572 {a0 a1 a2 : Int} (h0 : a0 ≤ (30 : Int)) (h1 : a1 ≤ (7 : Int)) (h2 : a2 ≤ a0 + a1) : a2 ≤ (37 : Int) := by omega
theorem ob_573 {a0 a1 a2 a3 a4 : Int} (h0 : (1 : Int) ≤ a0) (h1 : a0 ≤ a1 + a2) (h2 : a3 + a0 ≤ 560 * a4 + 9 * a1) : (1 : Int) ≤ a0 := by omega
theorem ob_574 {a0 a1 a2 : Int} (h0 : a0 ≤ a1 + a2) : a0 ≤ a1 + a2 := by omega
theorem ob_575 {a0 a1 a2 a3 : Int} (h0 : a0 + a1 ≤ 560 * a2 + 9 * a3) : a0 + a1 ≤ 560 * a2 + 9 * a3 := by omega
theorem ob_576 {a0 a1 a2 a3 a4 : Int} (h0 : (1 : Int) ≤ a0) (h1 : a0 ≤ a1 + a2) (h2 : a3 + a0 ≤ 560 * a4 + 9 * a1) : 0 ≤ a0 := by omega
theorem ob_577 {a0 : Int} (h0 : (0 : Int) ≤ a0) (h1 : a0 ≤ (6 : Int)) (h2 : a0 = 4) : (4 : Int) ≤ a0 := by omega
theorem ob_578 {a0 a1 : Int} (h0 : (a0 = (0 : Int)) ∨ ((3 : Int) ≤ a1)) (h1 : a0 = 4) : (3 : Int) ≤ a1 := by omega
theorem ob_579 {a0 a1 : Int} (h0 : ((4 : Int) ≤ a0) → (((37 : Int) ≤ a1) ∧ (a1 ≤ (62 : Int)))) (h1 : a0 = 4) : (37 : Int) ≤ a1 := by omega
theorem ob_580 {a0 a1 : Int} (h0 : ((4 : Int) ≤ a0) → (((37 : Int) ≤ a1) ∧ (a1 ≤ (62 : Int)))) (h1 : a0 = 4) : a1 ≤ (62 : Int) := by omega
theorem ob_581 {a0 a1 a2 : Int} (h0 : a0 ≤ (30 : Int)) (h1 : a1 ≤ (7 : Int)) (h2 : a2 ≤ a0 + a1) : a2 ≤ (90 : Int) := by omega
theorem ob_582 {a0 : Int} (h0 : a0 = (8 : Int)) : a0 = (8 : Int) := by omega
theorem ob_583 {a0 : Int} (h0 : a0 ≤ 0) (h1 : a0 = 4) : False := by omega
theorem ob_584 {a0 : Int} (h0 : a0 = 2) (h1 : a0 = 4) : False := by omega
theorem ob_585 {a0 : Int} (h0 : a0 = 4) : (3 : Int) ≤ a0 := by omega
theorem ob_586 {a0 : Int} (h0 : a0 = 1) (h1 : a0 = 4) : False := by omega
theorem ob_587 {a0 : Int} (h0 : a0 = 4) : (2 : Int) ≤ a0 := by omega
theorem ob_588 {a0 : Int} (h0 : a0 = 4) : a0 = 1 ∨ a0 = 2 ∨ a0 = 4 ∨ a0 = 5 ∨ a0 = 6 := by omega
theorem ob_589 {a0 a1 a2 a3 a4 a5 a6 a7 a8 a9 a10 a11 a12 a13 a14 a15 a16 : Int} (h0 : (0 : Int) ≤ a0) (h1 : (0 : Int) ≤ a1) (h2 : a2 = (8 : Int)) (h3 : (a3 = (0 : Int)) ∨ ((3 : Int) ≤ a4)) (h4 : a3 = 4) (h5 : (0 : Int) ≤ a5) (h6 : a5 ≤ (7 : Int)) (h7 : (0 : Int) ≤ a6) (h8 : a6 ≤ a7) (h9 : a6 ≤ a8 + a5) (h10 : a9 + a6 ≤ 560 * a10 + 9 * a8) (h11 : 560 * a10 ≤ a9) (h12 : a11 = a6 + 1) (h13 : a12 = a2) (h14 : (a13 = (0 : Int)) ∨ (a14 + 1 ≤ a15)) (h15 : a16 = 1) : ((1 : Int) ≤ a1) ∨ ((560 * a10 ≤ a9) ∧ (a9 + a11 ≤ 560 * a10 + 9 * a8 + 9) ∧ (a1 = (0 : Int)) ∧ (a12 = (8 : Int)) ∧ (((a16 = (1 : Int)) ∧ ((1 : Int) ≤ a11) ∧ (a11 ≤ a7 + 1) ∧ (a4 ≠ (0 : Int)) ∧ ((a13 = (0 : Int)) ∨ (a14 + 1 ≤ a15)) ∧ ((0 : Int) ≤ a5) ∧ (a5 ≤ (7 : Int)) ∧ (a11 ≤ a8 + a5 + 1) ∧ (a9 + a11 ≤ 560 * a10 + 9 * a8 + a5 + 1)) ∨ ((a16 = (0 : Int)) ∧ (a11 + 1 ≤ a7) ∧ ((a13 = (0 : Int)) ∨ (a4 ≠ (0 : Int))) ∧ ((a11 = (0 : Int)) ∨ (((0 : Int) ≤ a5) ∧ (a5 ≤ (7 : Int)) ∧ (a11 ≤ a8 + a5) ∧ (a9 + a11 ≤ 560 * a10 + 9 * a8)))))) := by omega
theorem ob_590 {a0 a1 a2 a3 a4 a5 a6 a7 a8 a9 a10 a11 a12 a13 a14 a15 a16 a17 : Int} (h0 : (0 : Int) ≤ a0) (h1 : a0 ≤ (1600 : Int)) (h2 : (0 : Int) ≤ a1) (h3 : a1 ≤ (1 : Int)) (h4 : (0 : Int) ≤ a2) (h5 : (0 : Int) ≤ a3) (h6 : a4 = (8 : Int)) (h7 : (a5 = (0 : Int)) ∨ ((3 : Int) ≤ a6)) (h8 : a5 = 4) (h9 : (0 : Int) ≤ a7) (h10 : a7 ≤ (7 : Int)) (h11 : (0 : Int) ≤ a8) (h12 : a8 ≤ a9) (h13 : a8 ≤ a10 + a7) (h14 : a11 + a8 ≤ 560 * a2 + 9 * a10) (h15 : 560 * a2 ≤ a11) (h16 : a12 = a8 + 1) (h17 : a13 = a4) (h18 : (a14 = (0 : Int)) ∨ (a15 + 1 ≤ a16)) (h19 : a17 = 1) : ((1 : Int) ≤ a3) ∨ ((560 * a2 ≤ a11) ∧ (a11 + a12 ≤ 560 * a2 + 9 * a10 + 9) ∧ (a3 = (0 : Int)) ∧ (a13 = (8 : Int)) ∧ (((a17 = (1 : Int)) ∧ ((1 : Int) ≤ a12) ∧ (a12 ≤ a9 + 1) ∧ (a6 ≠ (0 : Int)) ∧ ((a14 = (0 : Int)) ∨ (a15 + 1 ≤ a16)) ∧ ((0 : Int) ≤ a7) ∧ (a7 ≤ (7 : Int)) ∧ (a12 ≤ a10 + a7 + 1) ∧ (a11 + a12 ≤ 560 * a2 + 9 * a10 + a7 + 1)) ∨ ((a17 = (0 : Int)) ∧ (a12 + 1 ≤ a9) ∧ ((a14 = (0 : Int)) ∨ (a6 ≠ (0 : Int))) ∧ ((a12 = (0 : Int)) ∨ (((0 : Int) ≤ a7) ∧ (a7 ≤ (7 : Int)) ∧ (a12 ≤ a10 + a7) ∧ (a11 + a12 ≤ 560 * a2 + 9 * a10)))))) := by omega
theorem ob_591 {a0 a1 : Int} (h0 : a0 = 3) (h1 : a1 = 4) (h2 : a1 ≤ a0) : False := by omega
theorem ob_592 {a0 : Int} (h0 : ((a0 = (0 : Int))) ∨ ((a0 = (1 : Int)))) (h1 : a0 ≠ 0) : a0 = (1 : Int) := by omega
theorem ob_593 {a0 a1 a2 : Int} (h0 : a0 ≤ (30 : Int)) (h1 : a1 ≤ (7 : Int)) (h2 : a2 ≤ a0 + a1) : a2 ≤ (60 : Int) := by omega
theorem ob_594 {a0 a1 a2 a3 a4 a5 a6 a7 a8 a9 : Int} (h0 : (1 : Int) ≤ a0) (h1 : a1 = 1) : ((1 : Int) ≤ a0) ∨ ((560 * a2 ≤ a3) ∧ (a3 + a4 ≤ 560 * a2 + 9 * a5 + 9) ∧ (a0 = (0 : Int)) ∧ (a6 = (8 : Int)) ∧ (((a1 = (1 : Int)) ∧ ((1 : Int) ≤ a4) ∧ (a4 ≤ a4 + 1) ∧ (a7 ≠ (0 : Int)) ∧ ((a7 = (0 : Int)) ∨ (a8 + 1 ≤ a8)) ∧ ((0 : Int) ≤ a9) ∧ (a9 ≤ (7 : Int)) ∧ (a4 ≤ a5 + a9 + 1) ∧ (a3 + a4 ≤ 560 * a2 + 9 * a5 + a9 + 1)) ∨ ((a1 = (0 : Int)) ∧ (a4 + 1 ≤ a4) ∧ ((a7 = (0 : Int)) ∨ (a7 ≠ (0 : Int))) ∧ ((a4 = (0 : Int)) ∨ (((0 : Int) ≤ a9) ∧ (a9 ≤ (7 : Int)) ∧ (a4 ≤ a5 + a9) ∧ (a3 + a4 ≤ 560 * a2 + 9 * a5)))))) := by omega
theorem ob_595 {a0 : Int} (h0 : a0 = 0) : a0 ≤ (89 : Int) := by omega
theorem ob_596 {a0 a1 a2 a3 a4 a5 a6 : Int} (h0 : a0 + 100 * a1 + 200 * a2 + -200 * a3 + -1000000 * a4 + 1000000 < 0) (h1 : (0 : Int) ≤ a0) (h2 : ((a5 = (0 : Int)) ∧ (a4 = (0 : Int))) ∨ ((a5 ≠ (0 : Int)) ∧ (a4 = (1 : Int)))) (h3 : ((a6 = (0 : Int)) ∧ (a1 = (0 : Int))) ∨ ((a6 ≠ (0 : Int)) ∧ (a1 = (1 : Int)))) (h4 : a3 ≤ a2) : False := by omega
theorem ob_597 {a0 : Int} (h0 : (0 : Int) ≤ a0) (h1 : a0 ≠ (0 : Int)) : (1 : Int) ≤ a0 := by omega
theorem ob_598 {a0 : Int} (h0 : (0 : Int) ≤ a0) (h1 : a0 ≤ 0) : a0 = (0 : Int) := by omega
theorem ob_599 {a0 a1 a2 a3 a4 a5 a6 a7 : Int} (h0 : ((1 : Int) ≤ a0) ∨ ((a1 = (0 : Int)) ∧ (560 * a2 ≤ a3) ∧ (a3 ≤ 560 * a2 + 300)) ∨ (((1 : Int) ≤ a1) ∧ (a4 = (8 : Int)) ∧ ((0 : Int) ≤ a5) ∧ (a5 ≤ (30 : Int)) ∧ ((0 : Int) ≤ a6) ∧ (a6 ≤ (7 : Int)) ∧ (560 * a2 ≤ a3) ∧ (((a7 = (1 : Int)) ∧ (a1 ≤ a5 + a6 + 1) ∧ (a3 + a1 ≤ 560 * a2 + 9 * a5 + a6 + 1)) ∨ ((a7 = (0 : Int)) ∧ (a1 ≤ a5 + a6) ∧ (a3 + a1 ≤ 560 * a2 + 9 * a5))))) (h1 : a0 = (0 : Int)) : 560 * a2 ≤ a3 := by omega
theorem ob_600 {a0 a1 a2 a3 a4 a5 a6 a7 : Int} (h0 : ((1 : Int) ≤ a0) ∨ ((a1 = (0 : Int)) ∧ (560 * a2 ≤ a3) ∧ (a3 ≤ 560 * a2 + 300)) ∨ (((1 : Int) ≤ a1) ∧ (a4 = (8 : Int)) ∧ ((0 : Int) ≤ a5) ∧ (a5 ≤ (30 : Int)) ∧ ((0 : Int) ≤ a6) ∧ (a6 ≤ (7 : Int)) ∧ (560 * a2 ≤ a3) ∧ (((a7 = (1 : Int)) ∧ (a1 ≤ a5 + a6 + 1) ∧ (a3 + a1 ≤ 560 * a2 + 9 * a5 + a6 + 1)) ∨ ((a7 = (0 : Int)) ∧ (a1 ≤ a5 + a6) ∧ (a3 + a1 ≤ 560 * a2 + 9 * a5))))) (h1 : a0 = (0 : Int)) : a3 ≤ 560 * a2 + 300 := by omega
theorem ob_601 {a0 a1 : Int} (h0 : a0 ≤ 560 * a1 + 300) : a0 ≤ 560 * a1 + 560 := by omega
theorem ob_602 {a0 : Int} (h0 : a0 ≤ (1 : Int)) : 560 * a0 ≤ 1120 := by omega
theorem ob_603 {a0 a1 : Int} (h0 : a0 ≤ (1 : Int)) (h1 : a1 ≤ 560 * a0 + 300) : a1 ≤ 1120 := by omega
theorem ob_604 {a0 : Int} (h0 : 0 < a0) : (1 : Int) ≤ a0 := by omega
theorem ob_605 {a0 a1 a2 a3 a4 a5 a6 a7 : Int} (h0 : ((1 : Int) ≤ a0) ∨ ((a1 = (0 : Int)) ∧ (560 * a2 ≤ a3) ∧ (a3 ≤ 560 * a2 + 300)) ∨ (((1 : Int) ≤ a1) ∧ (a4 = (8 : Int)) ∧ ((0 : Int) ≤ a5) ∧ (a5 ≤ (30 : Int)) ∧ ((0 : Int) ≤ a6) ∧ (a6 ≤ (7 : Int)) ∧ (560 * a2 ≤ a3) ∧ (((a7 = (1 : Int)) ∧ (a1 ≤ a5 + a6 + 1) ∧ (a3 + a1 ≤ 560 * a2 + 9 * a5 + a6 + 1)) ∨ ((a7 = (0 : Int)) ∧ (a1 ≤ a5 + a6) ∧ (a3 + a1 ≤ 560 * a2 + 9 * a5))))) (h1 : a0 = (0 : Int)) (h2 : 0 < a1) : a4 = (8 : Int) := by omega
theorem ob_606 {a0 a1 a2 a3 a4 a5 a6 a7 : Int} (h0 : ((1 : Int) ≤ a0) ∨ ((a1 = (0 : Int)) ∧ (560 * a2 ≤ a3) ∧ (a3 ≤ 560 * a2 + 300)) ∨ (((1 : Int) ≤ a1) ∧ (a4 = (8 : Int)) ∧ ((0 : Int) ≤ a5) ∧ (a5 ≤ (30 : Int)) ∧ ((0 : Int) ≤ a6) ∧ (a6 ≤ (7 : Int)) ∧ (560 * a2 ≤ a3) ∧ (((a7 = (1 : Int)) ∧ (a1 ≤ a5 + a6 + 1) ∧ (a3 + a1 ≤ 560 * a2 + 9 * a5 + a6 + 1)) ∨ ((a7 = (0 : Int)) ∧ (a1 ≤ a5 + a6) ∧ (a3 + a1 ≤ 560 * a2 + 9 * a5))))) (h1 : a0 = (0 : Int)) (h2 : 0 < a1) : (0 : Int) ≤ a5 := by omega
theorem ob_607 {a0 a1 a2 a3 a4 a5 a6 a7 : Int} (h0 : ((1 : Int) ≤ a0) ∨ ((a1 = (0 : Int)) ∧ (560 * a2 ≤ a3) ∧ (a3 ≤ 560 * a2 + 300)) ∨ (((1 : Int) ≤ a1) ∧ (a4 = (8 : Int)) ∧ ((0 : Int) ≤ a5) ∧ (a5 ≤ (30 : Int)) ∧ ((0 : Int) ≤ a6) ∧ (a6 ≤ (7 : Int)) ∧ (560 * a2 ≤ a3) ∧ (((a7 = (1 : Int)) ∧ (a1 ≤ a5 + a6 + 1) ∧ (a3 + a1 ≤ 560 * a2 + 9 * a5 + a6 + 1)) ∨ ((a7 = (0 : Int)) ∧ (a1 ≤ a5 + a6) ∧ (a3 + a1 ≤ 560 * a2 + 9 * a5))))) (h1 : a0 = (0 : Int)) (h2 : 0 < a1) : a5 ≤ (30 : Int) := by omega
theorem ob_608 {a0 a1 a2 a3 a4 a5 a6 a7 : Int} (h0 : ((1 : Int) ≤ a0) ∨ ((a1 = (0 : Int)) ∧ (560 * a2 ≤ a3) ∧ (a3 ≤ 560 * a2 + 300)) ∨ (((1 : Int) ≤ a1) ∧ (a4 = (8 : Int)) ∧ ((0 : Int) ≤ a5) ∧ (a5 ≤ (30 : Int)) ∧ ((0 : Int) ≤ a6) ∧ (a6 ≤ (7 : Int)) ∧ (560 * a2 ≤ a3) ∧ (((a7 = (1 : Int)) ∧ (a1 ≤ a5 + a6 + 1) ∧ (a3 + a1 ≤ 560 * a2 + 9 * a5 + a6 + 1)) ∨ ((a7 = (0 : Int)) ∧ (a1 ≤ a5 + a6) ∧ (a3 + a1 ≤ 560 * a2 + 9 * a5))))) (h1 : a0 = (0 : Int)) (h2 : 0 < a1) : (0 : Int) ≤ a6 := by omega
theorem ob_609 {a0 a1 a2 a3 a4 a5 a6 a7 : Int} (h0 : ((1 : Int) ≤ a0) ∨ ((a1 = (0 : Int)) ∧ (560 * a2 ≤ a3) ∧ (a3 ≤ 560 * a2 + 300)) ∨ (((1 : Int) ≤ a1) ∧ (a4 = (8 : Int)) ∧ ((0 : Int) ≤ a5) ∧ (a5 ≤ (30 : Int)) ∧ ((0 : Int) ≤ a6) ∧ (a6 ≤ (7 : Int)) ∧ (560 * a2 ≤ a3) ∧ (((a7 = (1 : Int)) ∧ (a1 ≤ a5 + a6 + 1) ∧ (a3 + a1 ≤ 560 * a2 + 9 * a5 + a6 + 1)) ∨ ((a7 = (0 : Int)) ∧ (a1 ≤ a5 + a6) ∧ (a3 + a1 ≤ 560 * a2 + 9 * a5))))) (h1 : a0 = (0 : Int)) (h2 : 0 < a1) : a6 ≤ (7 : Int) := by omega
theorem ob_610 {a0 a1 a2 a3 a4 a5 a6 a7 : Int} (h0 : ((1 : Int) ≤ a0) ∨ ((a1 = (0 : Int)) ∧ (560 * a2 ≤ a3) ∧ (a3 ≤ 560 * a2 + 300)) ∨ (((1 : Int) ≤ a1) ∧ (a4 = (8 : Int)) ∧ ((0 : Int) ≤ a5) ∧ (a5 ≤ (30 : Int)) ∧ ((0 : Int) ≤ a6) ∧ (a6 ≤ (7 : Int)) ∧ (560 * a2 ≤ a3) ∧ (((a7 = (1 : Int)) ∧ (a1 ≤ a5 + a6 + 1) ∧ (a3 + a1 ≤ 560 * a2 + 9 * a5 + a6 + 1)) ∨ ((a7 = (0 : Int)) ∧ (a1 ≤ a5 + a6) ∧ (a3 + a1 ≤ 560 * a2 + 9 * a5))))) (h1 : a0 = (0 : Int)) (h2 : 0 < a1) : ((a7 = (1 : Int)) ∧ (a1 ≤ a5 + a6 + 1) ∧ (a3 + a1 ≤ 560 * a2 + 9 * a5 + a6 + 1)) ∨ ((a7 = (0 : Int)) ∧ (a1 ≤ a5 + a6) ∧ (a3 + a1 ≤ 560 * a2 + 9 * a5)) := by omega
theorem ob_611 {a0 a1 a2 a3 a4 a5 a6 a7 : Int} (h0 : ((1 : Int) ≤ a0) ∨ ((a1 = (0 : Int)) ∧ (560 * a2 ≤ a3) ∧ (a3 ≤ 560 * a2 + 300)) ∨ (((1 : Int) ≤ a1) ∧ (a4 = (8 : Int)) ∧ ((0 : Int) ≤ a5) ∧ (a5 ≤ (30 : Int)) ∧ ((0 : Int) ≤ a6) ∧ (a6 ≤ (7 : Int)) ∧ (560 * a2 ≤ a3) ∧ (((a7 = (1 : Int)) ∧ (a1 ≤ a5 + a6 + 1) ∧ (a3 + a1 ≤ 560 * a2 + 9 * a5 + a6 + 1)) ∨ ((a7 = (0 : Int)) ∧ (a1 ≤ a5 + a6) ∧ (a3 + a1 ≤ 560 * a2 + 9 * a5))))) (h1 : a0 = (0 : Int)) (h2 : 0 < a1) (h3 : a7 = 0) : a1 ≤ a5 + a6 := by omega
theorem ob_612 {a0 a1 a2 a3 a4 a5 a6 a7 : Int} (h0 : ((1 : Int) ≤ a0) ∨ ((a1 = (0 : Int)) ∧ (560 * a2 ≤ a3) ∧ (a3 ≤ 560 * a2 + 300)) ∨ (((1 : Int) ≤ a1) ∧ (a4 = (8 : Int)) ∧ ((0 : Int) ≤ a5) ∧ (a5 ≤ (30 : Int)) ∧ ((0 : Int) ≤ a6) ∧ (a6 ≤ (7 : Int)) ∧ (560 * a2 ≤ a3) ∧ (((a7 = (1 : Int)) ∧ (a1 ≤ a5 + a6 + 1) ∧ (a3 + a1 ≤ 560 * a2 + 9 * a5 + a6 + 1)) ∨ ((a7 = (0 : Int)) ∧ (a1 ≤ a5 + a6) ∧ (a3 + a1 ≤ 560 * a2 + 9 * a5))))) (h1 : a0 = (0 : Int)) (h2 : 0 < a1) (h3 : a7 = 0) : a3 + a1 ≤ 560 * a2 + 9 * a5 := by omega
theorem ob_613 {a0 : Int} (h0 : (0 : Int) ≤ a0) (h1 : a0 = (0 : Int)) : a0 = 0 := by omega
theorem ob_614 {a0 : Int} (h0 : 0 < a0) : 1 ≤ a0 := by omega
theorem ob_615 {a0 : Int} (h0 : a0 ≤ (30 : Int)) : a0 ≤ (30 : Int) := by omega
theorem ob_616 {a0 a1 a2 : Int} (h0 : (0 : Int) ≤ a0) (h1 : a0 ≤ a1) (h2 : a2 ≤ a0) : (0 : Int) ≤ a0 := by omega
theorem ob_617 {a0 : Int} (h0 : (0 : Int) ≤ a0) (h1 : a0 ≤ (60 : Int)) : (0 : Int) ≤ a0 := by omega
theorem ob_618 {a0 : Int} (h0 : (0 : Int) ≤ a0) (h1 : a0 ≤ (60 : Int)) : a0 ≤ (60 : Int) := by omega
theorem ob_619 {a0 a1 a2 a3 a4 a5 a6 a7 a8 a9 a10 a11 a12 : Int} (h0 : a0 ≤ (30 : Int)) (h1 : (0 : Int) ≤ a1) (h2 : ((1 : Int) ≤ a2) ∨ ((560 * a3 ≤ a4) ∧ (a4 + a1 ≤ 560 * a3 + 9 * a0 + 9) ∧ (a2 = (0 : Int)) ∧ (a5 = (8 : Int)) ∧ (((a6 = (1 : Int)) ∧ ((1 : Int) ≤ a1) ∧ (a1 ≤ a7 + 1) ∧ (a8 ≠ (0 : Int)) ∧ ((a9 = (0 : Int)) ∨ (a10 + 1 ≤ a11)) ∧ ((0 : Int) ≤ a12) ∧ (a12 ≤ (7 : Int)) ∧ (a1 ≤ a0 + a12 + 1) ∧ (a4 + a1 ≤ 560 * a3 + 9 * a0 + a12 + 1)) ∨ ((a6 = (0 : Int)) ∧ (a1 + 1 ≤ a7) ∧ ((a9 = (0 : Int)) ∨ (a8 ≠ (0 : Int))) ∧ ((a1 = (0 : Int)) ∨ (((0 : Int) ≤ a12) ∧ (a12 ≤ (7 : Int)) ∧ (a1 ≤ a0 + a12) ∧ (a4 + a1 ≤ 560 * a3 + 9 * a0))))))) : ((1 : Int) ≤ a2) ∨ ((a1 = (0 : Int)) ∧ (560 * a3 ≤ a4) ∧ (a4 ≤ 560 * a3 + 300)) ∨ (((1 : Int) ≤ a1) ∧ (a5 = (8 : Int)) ∧ ((0 : Int) ≤ a0) ∧ (a0 ≤ (30 : Int)) ∧ ((0 : Int) ≤ a12) ∧ (a12 ≤ (7 : Int)) ∧ (560 * a3 ≤ a4) ∧ (((a6 = (1 : Int)) ∧ (a1 ≤ a0 + a12 + 1) ∧ (a4 + a1 ≤ 560 * a3 + 9 * a0 + a12 + 1)) ∨ ((a6 = (0 : Int)) ∧ (a1 ≤ a0 + a12) ∧ (a4 + a1 ≤ 560 * a3 + 9 * a0)))) := by omega
theorem ob_620 {a0 a1 a2 a3 a4 a5 a6 a7 a8 a9 a10 a11 a12 a13 : Int} (h0 : (0 : Int) ≤ a0) (h1 : ((1 : Int) ≤ a0) ∨ ((560 * a1 ≤ a2) ∧ (a2 + a3 ≤ 560 * a1 + 9 * a4 + 9) ∧ (a0 = (0 : Int)) ∧ (a5 = (8 : Int)) ∧ (((a6 = (1 : Int)) ∧ ((1 : Int) ≤ a3) ∧ (a3 ≤ a7 + 1) ∧ (a8 ≠ (0 : Int)) ∧ ((a9 = (0 : Int)) ∨ (a10 + 1 ≤ a11)) ∧ ((0 : Int) ≤ a12) ∧ (a12 ≤ (7 : Int)) ∧ (a3 ≤ a4 + a12 + 1) ∧ (a2 + a3 ≤ 560 * a1 + 9 * a4 + a12 + 1)) ∨ ((a6 = (0 : Int)) ∧ (a3 + 1 ≤ a7) ∧ ((a9 = (0 : Int)) ∨ (a8 ≠ (0 : Int))) ∧ ((a3 = (0 : Int)) ∨ (((0 : Int) ≤ a12) ∧ (a12 ≤ (7 : Int)) ∧ (a3 ≤ a4 + a12) ∧ (a2 + a3 ≤ 560 * a1 + 9 * a4))))))) (h2 : (a0 = 0 ∧ a13 = 0) ∨ (a0 ≠ 0 ∧ a13 = 1)) : ((a0 = (0 : Int)) ∧ (a13 = (0 : Int))) ∨ ((a0 ≠ (0 : Int)) ∧ (a13 = (1 : Int))) := by omega
theorem ob_621 {a0 a1 a2 a3 a4 a5 a6 a7 a8 a9 a10 a11 a12 a13 : Int} (h0 : ((1 : Int) ≤ a0) ∨ ((560 * a1 ≤ a2) ∧ (a2 + a3 ≤ 560 * a1 + 9 * a4 + 9) ∧ (a0 = (0 : Int)) ∧ (a5 = (8 : Int)) ∧ (((a6 = (1 : Int)) ∧ ((1 : Int) ≤ a3) ∧ (a3 ≤ a7 + 1) ∧ (a8 ≠ (0 : Int)) ∧ ((a9 = (0 : Int)) ∨ (a10 + 1 ≤ a11)) ∧ ((0 : Int) ≤ a12) ∧ (a12 ≤ (7 : Int)) ∧ (a3 ≤ a4 + a12 + 1) ∧ (a2 + a3 ≤ 560 * a1 + 9 * a4 + a12 + 1)) ∨ ((a6 = (0 : Int)) ∧ (a3 + 1 ≤ a7) ∧ ((a9 = (0 : Int)) ∨ (a8 ≠ (0 : Int))) ∧ ((a3 = (0 : Int)) ∨ (((0 : Int) ≤ a12) ∧ (a12 ≤ (7 : Int)) ∧ (a3 ≤ a4 + a12) ∧ (a2 + a3 ≤ 560 * a1 + 9 * a4))))))) (h1 : (a9 = 0 ∧ a13 = 0) ∨ (a9 ≠ 0 ∧ a13 = 1)) : ((a9 = (0 : Int)) ∧ (a13 = (0 : Int))) ∨ ((a9 ≠ (0 : Int)) ∧ (a13 = (1 : Int))) := by omega
theorem ob_622 {a0 a1 a2 a3 a4 a5 a6 a7 a8 a9 a10 a11 a12 a13 a14 a15 a16 a17 a18 a19 : Int} (h0 : ((a0 = (0 : Int)) ∧ (a1 = (0 : Int))) ∨ ((a0 ≠ (0 : Int)) ∧ (a1 = (1 : Int)))) (h1 : ((a2 = (0 : Int)) ∧ (a3 = (0 : Int))) ∨ ((a2 ≠ (0 : Int)) ∧ (a3 = (1 : Int)))) (h2 : a4 + 100 * a3 + 200 * a5 + -200 * a6 + -1000000 * a1 + 1000000 < a7 + 1) (h3 : a0 = (0 : Int)) (h4 : 0 < a4) (h5 : a8 ≤ (60 : Int)) (h6 : a6 ≤ a9) (h7 : ((1 : Int) ≤ a10) ∨ ((560 * a11 ≤ a12) ∧ (a12 + a8 ≤ 560 * a11 + 9 * a13 + 9) ∧ (a10 = (0 : Int)) ∧ (a14 = (8 : Int)) ∧ (((a15 = (1 : Int)) ∧ ((1 : Int) ≤ a8) ∧ (a8 ≤ a4 + 1) ∧ (a2 ≠ (0 : Int)) ∧ ((a16 = (0 : Int)) ∨ (a6 + 1 ≤ a9)) ∧ ((0 : Int) ≤ a17) ∧ (a17 ≤ (7 : Int)) ∧ (a8 ≤ a13 + a17 + 1) ∧ (a12 + a8 ≤ 560 * a11 + 9 * a13 + a17 + 1)) ∨ ((a15 = (0 : Int)) ∧ (a8 + 1 ≤ a4) ∧ ((a16 = (0 : Int)) ∨ (a2 ≠ (0 : Int))) ∧ ((a8 = (0 : Int)) ∨ (((0 : Int) ≤ a17) ∧ (a17 ≤ (7 : Int)) ∧ (a8 ≤ a13 + a17) ∧ (a12 + a8 ≤ 560 * a11 + 9 * a13))))))) (h8 : (a10 = 0 ∧ a18 = 0) ∨ (a10 ≠ 0 ∧ a18 = 1)) (h9 : (a16 = 0 ∧ a19 = 0) ∨ (a16 ≠ 0 ∧ a19 = 1)) : a8 + 100 * a19 + 200 * a5 + -200 * a9 + -1000000 * a18 + 1000000 < a7 := by omega
theorem ob_623 {a0 : Int} (h0 : (0 : Int) ≤ a0) (h1 : a0 ≤ (1 : Int)) (h2 : a0 ≠ 0) : a0 = (1 : Int) := by omega
theorem ob_624 {a0 a1 a2 a3 a4 a5 : Int} (h0 : ((a0 = (1 : Int)) ∧ (a1 ≤ a2 + a3 + 1) ∧ (a4 + a1 ≤ 560 * a5 + 9 * a2 + a3 + 1)) ∨ ((a0 = (0 : Int)) ∧ (a1 ≤ a2 + a3) ∧ (a4 + a1 ≤ 560 * a5 + 9 * a2))) : a1 ≤ a2 + a3 + 1 := by omega
theorem ob_625 {a0 a1 a2 a3 a4 a5 : Int} (h0 : (0 : Int) ≤ a0) (h1 : ((a1 = (1 : Int)) ∧ (a2 ≤ a3 + a0 + 1) ∧ (a4 + a2 ≤ 560 * a5 + 9 * a3 + a0 + 1)) ∨ ((a1 = (0 : Int)) ∧ (a2 ≤ a3 + a0) ∧ (a4 + a2 ≤ 560 * a5 + 9 * a3))) : a4 + a2 ≤ 560 * a5 + 9 * a3 + a0 + 1 := by omega
theorem ob_626 {a0 : Int} (h0 : a0 = (1 : Int)) : a0 = 1 := by omega
theorem ob_627 {a0 a1 a2 : Int} (h0 : a0 ≤ a1 + a2 + 1) : a0 ≤ a1 + a2 + 1 := by omega
theorem ob_628 {a0 a1 a2 a3 a4 : Int} (h0 : a0 + a1 ≤ 560 * a2 + 9 * a3 + a4 + 1) : a0 + a1 ≤ 560 * a2 + 9 * a3 + a4 + 1 := by omega
theorem ob_629 {a0 a1 a2 a3 a4 a5 a6 a7 a8 a9 a10 a11 a12 : Int} (h0 : ((1 : Int) ≤ a0) ∨ (((0 : Int) ≤ a1) ∧ (a1 ≤ (30 : Int)) ∧ ((0 : Int) ≤ a2) ∧ (a2 ≤ (7 : Int)) ∧ (560 * a3 ≤ a4) ∧ ((1 : Int) ≤ a5) ∧ (a0 = (0 : Int)) ∧ (a6 = (8 : Int)) ∧ (a7 ≠ (0 : Int)) ∧ ((a8 = (0 : Int)) ∨ (a9 + 1 ≤ a10)) ∧ (a5 ≤ a11 + 1) ∧ (((a12 = (1 : Int)) ∧ (a5 ≤ a1 + a2 + 1) ∧ (a4 + a5 ≤ 560 * a3 + 9 * a1 + a2 + 1)) ∨ ((a12 = (0 : Int)) ∧ (a5 ≤ a1 + a2) ∧ (a4 + a5 ≤ 560 * a3 + 9 * a1))))) : ((1 : Int) ≤ a0) ∨ ((a5 = (0 : Int)) ∧ (560 * a3 ≤ a4) ∧ (a4 ≤ 560 * a3 + 300)) ∨ (((1 : Int) ≤ a5) ∧ (a6 = (8 : Int)) ∧ ((0 : Int) ≤ a1) ∧ (a1 ≤ (30 : Int)) ∧ ((0 : Int) ≤ a2) ∧ (a2 ≤ (7 : Int)) ∧ (560 * a3 ≤ a4) ∧ (((a12 = (1 : Int)) ∧ (a5 ≤ a1 + a2 + 1) ∧ (a4 + a5 ≤ 560 * a3 + 9 * a1 + a2 + 1)) ∨ ((a12 = (0 : Int)) ∧ (a5 ≤ a1 + a2) ∧ (a4 + a5 ≤ 560 * a3 + 9 * a1)))) := by omega
theorem ob_630 {a0 a1 a2 a3 a4 a5 a6 a7 a8 a9 a10 a11 a12 a13 : Int} (h0 : (0 : Int) ≤ a0) (h1 : ((1 : Int) ≤ a0) ∨ (((0 : Int) ≤ a1) ∧ (a1 ≤ (30 : Int)) ∧ ((0 : Int) ≤ a2) ∧ (a2 ≤ (7 : Int)) ∧ (560 * a3 ≤ a4) ∧ ((1 : Int) ≤ a5) ∧ (a0 = (0 : Int)) ∧ (a6 = (8 : Int)) ∧ (a7 ≠ (0 : Int)) ∧ ((a8 = (0 : Int)) ∨ (a9 + 1 ≤ a10)) ∧ (a5 ≤ a11 + 1) ∧ (((a12 = (1 : Int)) ∧ (a5 ≤ a1 + a2 + 1) ∧ (a4 + a5 ≤ 560 * a3 + 9 * a1 + a2 + 1)) ∨ ((a12 = (0 : Int)) ∧ (a5 ≤ a1 + a2) ∧ (a4 + a5 ≤ 560 * a3 + 9 * a1))))) (h2 : (a0 = 0 ∧ a13 = 0) ∨ (a0 ≠ 0 ∧ a13 = 1)) : ((a0 = (0 : Int)) ∧ (a13 = (0 : Int))) ∨ ((a0 ≠ (0 : Int)) ∧ (a13 = (1 : Int))) := by omega
theorem ob_631 {a0 a1 a2 a3 a4 a5 a6 a7 a8 a9 a10 a11 a12 a13 : Int} (h0 : ((1 : Int) ≤ a0) ∨ (((0 : Int) ≤ a1) ∧ (a1 ≤ (30 : Int)) ∧ ((0 : Int) ≤ a2) ∧ (a2 ≤ (7 : Int)) ∧ (560 * a3 ≤ a4) ∧ ((1 : Int) ≤ a5) ∧ (a0 = (0 : Int)) ∧ (a6 = (8 : Int)) ∧ (a7 ≠ (0 : Int)) ∧ ((a8 = (0 : Int)) ∨ (a9 + 1 ≤ a10)) ∧ (a5 ≤ a11 + 1) ∧ (((a12 = (1 : Int)) ∧ (a5 ≤ a1 + a2 + 1) ∧ (a4 + a5 ≤ 560 * a3 + 9 * a1 + a2 + 1)) ∨ ((a12 = (0 : Int)) ∧ (a5 ≤ a1 + a2) ∧ (a4 + a5 ≤ 560 * a3 + 9 * a1))))) (h1 : (a8 = 0 ∧ a13 = 0) ∨ (a8 ≠ 0 ∧ a13 = 1)) : ((a8 = (0 : Int)) ∧ (a13 = (0 : Int))) ∨ ((a8 ≠ (0 : Int)) ∧ (a13 = (1 : Int))) := by omega
theorem ob_632 {a0 a1 a2 a3 a4 a5 a6 a7 a8 a9 a10 a11 a12 a13 a14 a15 a16 a17 a18 a19 : Int} (h0 : (0 : Int) ≤ a0) (h1 : ((a1 = (0 : Int)) ∧ (a2 = (0 : Int))) ∨ ((a1 ≠ (0 : Int)) ∧ (a2 = (1 : Int)))) (h2 : ((a3 = (0 : Int)) ∧ (a4 = (0 : Int))) ∨ ((a3 ≠ (0 : Int)) ∧ (a4 = (1 : Int)))) (h3 : a0 + 100 * a4 + 200 * a5 + -200 * a6 + -1000000 * a2 + 1000000 < a7 + 1) (h4 : a1 = (0 : Int)) (h5 : a8 ≤ (60 : Int)) (h6 : a6 ≤ a9) (h7 : ((1 : Int) ≤ a10) ∨ (((0 : Int) ≤ a11) ∧ (a11 ≤ (30 : Int)) ∧ ((0 : Int) ≤ a12) ∧ (a12 ≤ (7 : Int)) ∧ (560 * a13 ≤ a14) ∧ ((1 : Int) ≤ a8) ∧ (a10 = (0 : Int)) ∧ (a15 = (8 : Int)) ∧ (a3 ≠ (0 : Int)) ∧ ((a16 = (0 : Int)) ∨ (a6 + 1 ≤ a9)) ∧ (a8 ≤ a0 + 1) ∧ (((a17 = (1 : Int)) ∧ (a8 ≤ a11 + a12 + 1) ∧ (a14 + a8 ≤ 560 * a13 + 9 * a11 + a12 + 1)) ∨ ((a17 = (0 : Int)) ∧ (a8 ≤ a11 + a12) ∧ (a14 + a8 ≤ 560 * a13 + 9 * a11))))) (h8 : (a10 = 0 ∧ a18 = 0) ∨ (a10 ≠ 0 ∧ a18 = 1)) (h9 : (a16 = 0 ∧ a19 = 0) ∨ (a16 ≠ 0 ∧ a19 = 1)) : a8 + 100 * a19 + 200 * a5 + -200 * a9 + -1000000 * a18 + 1000000 < a7 := by omega
theorem ob_633 {a0 : Int} (h0 : (0 : Int) ≤ a0) (h1 : a0 = (0 : Int)) : (0 : Int) ≤ a0 := by omega
theorem ob_634 {a0 a1 : Int} (h0 : a0 = a1 + 1) (h1 : a1 = 0) : (0 : Int) ≤ a0 := by omega
theorem ob_635 {a0 a1 : Int} (h0 : a0 = a1 + 1) (h1 : a1 = 0) : a0 ≤ (60 : Int) := by omega
theorem ob_636 {a0 a1 a2 a3 a4 a5 a6 a7 : Int} (h0 : a0 = 560 * a1) (h1 : a2 = (0 : Int)) (h2 : a3 = a4 + 1) (h3 : a5 = 8) (h4 : a4 = 0) (h5 : a6 = 1) : ((1 : Int) ≤ a7) ∨ ((a3 = (0 : Int)) ∧ (560 * a1 ≤ a0) ∧ (a0 ≤ 560 * a1 + 300)) ∨ (((1 : Int) ≤ a3) ∧ (a5 = (8 : Int)) ∧ ((0 : Int) ≤ a2) ∧ (a2 ≤ (30 : Int)) ∧ ((0 : Int) ≤ a4) ∧ (a4 ≤ (7 : Int)) ∧ (560 * a1 ≤ a0) ∧ (((a6 = (1 : Int)) ∧ (a3 ≤ a2 + a4 + 1) ∧ (a0 + a3 ≤ 560 * a1 + 9 * a2 + a4 + 1)) ∨ ((a6 = (0 : Int)) ∧ (a3 ≤ a2 + a4) ∧ (a0 + a3 ≤ 560 * a1 + 9 * a2)))) := by omega
theorem ob_637 {a0 a1 : Int} (h0 : (0 : Int) ≤ a0) (h1 : a0 = (0 : Int)) (h2 : (a0 = 0 ∧ a1 = 0) ∨ (a0 ≠ 0 ∧ a1 = 1)) : ((a0 = (0 : Int)) ∧ (a1 = (0 : Int))) ∨ ((a0 ≠ (0 : Int)) ∧ (a1 = (1 : Int))) := by omega
theorem ob_638 {a0 a1 : Int} (h0 : (a0 = 0 ∧ a1 = 0) ∨ (a0 ≠ 0 ∧ a1 = 1)) : ((a0 = (0 : Int)) ∧ (a1 = (0 : Int))) ∨ ((a0 ≠ (0 : Int)) ∧ (a1 = (1 : Int))) := by omega
theorem ob_639 {a0 a1 : Int} (h0 : a0 = a1 + 1) (h1 : a1 = 0) : a0 = 1 := by omega
theorem ob_640 {a0 a1 a2 a3 a4 a5 a6 a7 : Int} (h0 : a0 ≤ a1) (h1 : a2 = a3 + 1) (h2 : (a4 = 0 ∧ a5 = 0) ∨ (a4 ≠ 0 ∧ a5 = 1)) (h3 : (a6 = 0 ∧ a7 = 0) ∨ (a6 ≠ 0 ∧ a7 = 1)) (h4 : a3 = 0) : 0 ≤ a2 + 100 * a7 + 200 * a1 + -200 * a0 + -1000000 * a5 + 1000000 := by omega
theorem ob_641 {a0 : Int} (h0 : -1 * a0 + 8 < 0) (h1 : (0 : Int) ≤ a0) (h2 : a0 ≤ (8 : Int)) : False := by omega
theorem ob_642 {a0 : Int} (h0 : a0 ≤ (8 : Int)) : a0 + 1 ≤ 2147483647 := by omega
theorem ob_643 {a0 a1 a2 a3 : Int} (h0 : (0 : Int) ≤ a0) (h1 : a0 + a1 ≤ (8 : Int)) (h2 : a2 < a1) (h3 : a3 = a2 + 1) : a3 ≤ (8 : Int) := by omega
theorem ob_644 {a0 a1 a2 : Int} (h0 : -1 * a0 + 8 < a1 + 1) (h1 : a2 = a0 + 1) : -1 * a2 + 8 < a1 := by omega
theorem ob_645 {a0 a1 : Int} (h0 : (0 : Int) ≤ a0) (h1 : (0 : Int) ≤ a1) : (-2147483648) ≤ a0 + a1 := by omega
theorem ob_646 {a0 a1 a2 : Int} (h0 : a0 + a1 ≤ (8 : Int)) (h1 : a2 < a1) : a0 + a2 ≤ 2147483647 := by omega
theorem ob_647 {a0 a1 a2 : Int} (h0 : a0 = a1 + a2) : a0 = a1 + a2 := by omega
theorem ob_648 {a0 a1 : Int} (h0 : (0 : Int) ≤ a0) (h1 : (0 : Int) ≤ a1) : 0 ≤ a0 + a1 := by omega
theorem ob_649 {a0 a1 a2 : Int} (h0 : a0 + a1 ≤ (8 : Int)) (h1 : a2 < a1) : a0 + a2 < 8 := by omega
theorem ob_650 {a0 : Int} (h0 : a0 = 0) : a0 ≤ (8 : Int) := by omega
theorem ob_651 {a0 : Int} (h0 : a0 = 0) : 0 ≤ -1 * a0 + 8 := by omega
theorem ob_652 {a0 : Int} (h0 : a0 = 3) : (1 : Int) ≤ a0 := by omega
theorem ob_653 {a0 a1 : Int} (h0 : (0 : Int) ≤ a0) (h1 : a0 ≤ (1 : Int)) (h2 : a0 + a1 = (1 : Int)) : (-2147483648) ≤ 4 * a0 := by omega
theorem ob_654 {a0 a1 : Int} (h0 : (0 : Int) ≤ a0) (h1 : a0 ≤ (1 : Int)) (h2 : a0 + a1 = (1 : Int)) : 4 * a0 ≤ 2147483647 := by omega
theorem ob_655 {a0 a1 : Int} (h0 : a0 = 4 * a1) : a0 = 4 * a1 := by omega
theorem ob_656 {a0 a1 a2 : Int} (h0 : (0 : Int) ≤ a0) (h1 : 0 ≤ a1 ∧ a1 ≤ 4) (h2 : a2 = 4 * a0) : (-2147483648) ≤ a2 + a1 := by omega
theorem ob_657 {a0 a1 a2 : Int} (h0 : a0 ≤ (1 : Int)) (h1 : a1 ≤ (3 : Int)) (h2 : a2 = 4 * a0) : a2 + a1 ≤ 2147483647 := by omega
theorem ob_658 {a0 a1 a2 a3 : Int} (h0 : a0 = a1 + a2) (h1 : a1 = 4 * a3) : a0 = a2 + 4 * a3 := by omega
theorem ob_659 {a0 a1 a2 : Int} (h0 : (0 : Int) ≤ a0) (h1 : a0 ≤ (1 : Int)) (h2 : a0 + a1 = (1 : Int)) (h3 : a2 = 4 * a0) : (0 : Int) ≤ a2 := by omega
theorem ob_660 {a0 a1 a2 : Int} (h0 : a0 ≤ (1 : Int)) (h1 : a1 ≤ (3 : Int)) (h2 : a2 = 4 * a0) : a2 + a1 ≤ (8 : Int) := by omega
theorem ob_661 {a0 a1 : Int} (h0 : (0 : Int) ≤ a0) (h1 : 0 ≤ a1 ∧ a1 ≤ 4) : 0 ≤ a1 + 4 * a0 := by omega
theorem ob_662 {a0 a1 : Int} (h0 : a0 ≤ (1 : Int)) (h1 : a1 ≤ (3 : Int)) : a1 + 4 * a0 < 8 := by omega
theorem ob_663 {a0 a1 : Int} (h0 : a0 = 99) (h1 : a1 = 0) : a1 ≤ a0 := by omega
theorem ob_664 {a0 : Int} (h0 : -1 * a0 + 3 < 0) (h1 : (0 : Int) ≤ a0) (h2 : a0 ≤ (3 : Int)) : False := by omega
theorem ob_665 {a0 : Int} (h0 : a0 ≤ (3 : Int)) (h1 : 0 ≤ a0 ∧ a0 ≤ 4) : (-2147483648) ≤ a0 + 1 := by omega
theorem ob_666 {a0 : Int} (h0 : a0 ≤ (3 : Int)) (h1 : 0 ≤ a0 ∧ a0 ≤ 4) : a0 + 1 ≤ 2147483647 := by omega
theorem ob_667 {a0 a1 : Int} (h0 : a0 ≤ (3 : Int)) (h1 : 0 ≤ a0 ∧ a0 ≤ 4) (h2 : a1 = a0 + 1) : 0 ≤ a1 := by omega
theorem ob_668 {a0 a1 : Int} (h0 : a0 ≤ (3 : Int)) (h1 : 0 ≤ a0 ∧ a0 ≤ 4) (h2 : a1 = a0 + 1) : a1 ≤ 4 := by omega
theorem ob_669 {a0 a1 a2 : Int} (h0 : (0 : Int) ≤ a0) (h1 : 0 ≤ a1 ∧ a1 ≤ 4) (h2 : a2 = a1 + 4 * a0) : (-2147483648) ≤ 3 * a2 := by omega
theorem ob_670 {a0 a1 a2 : Int} (h0 : a0 ≤ (1 : Int)) (h1 : a1 ≤ (3 : Int)) (h2 : a2 = a1 + 4 * a0) : 3 * a2 ≤ 2147483647 := by omega
theorem ob_671 {a0 a1 a2 a3 : Int} (h0 : a0 = 3 * a1) (h1 : a1 = a2 + 4 * a3) : a0 = 3 * a2 + 12 * a3 := by omega
theorem ob_672 {a0 a1 a2 a3 : Int} (h0 : (0 : Int) ≤ a0) (h1 : 0 ≤ a1 ∧ a1 ≤ 4) (h2 : (0 : Int) ≤ a2) (h3 : a3 = 3 * a1 + 12 * a0) : (-2147483648) ≤ a3 + a2 := by omega
theorem ob_673 {a0 a1 a2 a3 : Int} (h0 : a0 ≤ (1 : Int)) (h1 : a1 ≤ (3 : Int)) (h2 : a2 ≤ (3 : Int)) (h3 : a3 = 3 * a1 + 12 * a0) : a3 + a2 ≤ 2147483647 := by omega
theorem ob_674 {a0 a1 a2 a3 a4 : Int} (h0 : a0 = a1 + a2) (h1 : a1 = 3 * a3 + 12 * a4) : a0 = a2 + 3 * a3 + 12 * a4 := by omega
theorem ob_675 {a0 a1 : Int} (h0 : a0 = 6) (h1 : a1 = 0) : a1 ≤ a0 := by omega
theorem ob_676 {a0 a1 a2 : Int} (h0 : (0 : Int) ≤ a0) (h1 : 0 ≤ a1 ∧ a1 ≤ 4) (h2 : (0 : Int) ≤ a2) : 0 ≤ a2 + 3 * a1 + 12 * a0 := by omega
theorem ob_677 {a0 a1 a2 : Int} (h0 : a0 ≤ (1 : Int)) (h1 : a1 ≤ (3 : Int)) (h2 : a2 < 3) : a2 + 3 * a1 + 12 * a0 < 24 := by omega
theorem ob_678 {a0 : Int} (h0 : a0 ≤ (3 : Int)) : a0 + 1 ≤ 2147483647 := by omega
theorem ob_679 {a0 a1 : Int} (h0 : a0 < 3) (h1 : a1 = a0 + 1) : a1 ≤ (3 : Int) := by omega
theorem ob_680 {a0 a1 a2 : Int} (h0 : -1 * a0 + 3 < a1 + 1) (h1 : a2 = a0 + 1) : -1 * a2 + 3 < a1 := by omega
theorem ob_681 {a0 : Int} (h0 : a0 = 0) : a0 ≤ (3 : Int) := by omega
theorem ob_682 {a0 a1 a2 a3 a4 : Int} (h0 : a0 ≤ a1) (h1 : a1 ≤ a2) (h2 : a2 ≤ a3) (h3 : a3 ≤ a4) : a0 ≤ a4 := by omega
theorem ob_683 {a0 : Int} (h0 : a0 = 0) : 0 ≤ -1 * a0 + 3 := by omega
theorem ob_684 {a0 : Int} (h0 : -1 * a0 + 10 < 0) (h1 : (0 : Int) ≤ a0) (h2 : a0 ≤ (10 : Int)) : False := by omega
theorem ob_685 {a0 : Int} (h0 : a0 ≤ (10 : Int)) : a0 + 1 ≤ 2147483647 := by omega
theorem ob_686 {a0 a1 a2 a3 : Int} (h0 : (0 : Int) ≤ a0) (h1 : a0 + a1 ≤ (10 : Int)) (h2 : a2 < a1) (h3 : a3 = a2 + 1) : a3 ≤ (10 : Int) := by omega
theorem ob_687 {a0 a1 a2 : Int} (h0 : -1 * a0 + 10 < a1 + 1) (h1 : a2 = a0 + 1) : -1 * a2 + 10 < a1 := by omega
theorem ob_688 {a0 a1 a2 : Int} (h0 : a0 + a1 ≤ (10 : Int)) (h1 : a2 < a1) : a0 + a2 ≤ 2147483647 := by omega
theorem ob_689 {a0 a1 a2 : Int} (h0 : a0 + a1 ≤ (10 : Int)) (h1 : a2 < a1) : a0 + a2 < 10 := by omega
theorem ob_690 {a0 : Int} (h0 : a0 = 0) : a0 ≤ (10 : Int) := by omega
theorem ob_691 {a0 : Int} (h0 : a0 = 0) : 0 ≤ -1 * a0 + 10 := by omega
theorem ob_692 {a0 a1 : Int} (h0 : (0 : Int) ≤ a0) (h1 : a0 ≤ (1 : Int)) (h2 : a0 + a1 = (1 : Int)) : (-2147483648) ≤ 5 * a0 := by omega
theorem ob_693 {a0 a1 : Int} (h0 : (0 : Int) ≤ a0) (h1 : a0 ≤ (1 : Int)) (h2 : a0 + a1 = (1 : Int)) : 5 * a0 ≤ 2147483647 := by omega
theorem ob_694 {a0 a1 : Int} (h0 : a0 = 5 * a1) : a0 = 5 * a1 := by omega
theorem ob_695 {a0 a1 a2 : Int} (h0 : (0 : Int) ≤ a0) (h1 : 0 ≤ a1 ∧ a1 ≤ 5) (h2 : a2 = 5 * a0) : (-2147483648) ≤ a2 + a1 := by omega
theorem ob_696 {a0 a1 a2 : Int} (h0 : a0 ≤ (1 : Int)) (h1 : a1 ≤ (4 : Int)) (h2 : a2 = 5 * a0) : a2 + a1 ≤ 2147483647 := by omega
theorem ob_697 {a0 a1 a2 a3 : Int} (h0 : a0 = a1 + a2) (h1 : a1 = 5 * a3) : a0 = a2 + 5 * a3 := by omega
theorem ob_698 {a0 a1 a2 : Int} (h0 : (0 : Int) ≤ a0) (h1 : a0 ≤ (1 : Int)) (h2 : a0 + a1 = (1 : Int)) (h3 : a2 = 5 * a0) : (0 : Int) ≤ a2 := by omega
theorem ob_699 {a0 a1 a2 : Int} (h0 : a0 ≤ (1 : Int)) (h1 : a1 ≤ (4 : Int)) (h2 : a2 = 5 * a0) : a2 + a1 ≤ (10 : Int) := by omega
theorem ob_700 {a0 a1 : Int} (h0 : (0 : Int) ≤ a0) (h1 : 0 ≤ a1 ∧ a1 ≤ 5) : 0 ≤ a1 + 5 * a0 := by omega
theorem ob_701 {a0 a1 : Int} (h0 : a0 ≤ (1 : Int)) (h1 : a1 ≤ (4 : Int)) : a1 + 5 * a0 < 10 := by omega
theorem ob_702 {a0 a1 : Int} (h0 : (0 : Int) ≤ a0) (h1 : a0 ≤ (8 : Int)) (h2 : -1 * a0 + 8 < a1 + 1) : 0 ≤ a0 := by omega
theorem ob_703 {a0 a1 : Int} (h0 : (0 : Int) ≤ a0) (h1 : a0 ≤ (8 : Int)) (h2 : -1 * a0 + 8 < a1 + 1) : a0 ≤ 8 := by omega
theorem ob_704 {a0 : Int} (h0 : a0 ≤ (4 : Int)) (h1 : 0 ≤ a0 ∧ a0 ≤ 5) : (-2147483648) ≤ a0 + 1 := by omega
theorem ob_705 {a0 : Int} (h0 : a0 ≤ (4 : Int)) (h1 : 0 ≤ a0 ∧ a0 ≤ 5) : a0 + 1 ≤ 2147483647 := by omega
theorem ob_706 {a0 a1 : Int} (h0 : a0 ≤ (4 : Int)) (h1 : 0 ≤ a0 ∧ a0 ≤ 5) (h2 : a1 = a0 + 1) : 0 ≤ a1 := by omega
theorem ob_707 {a0 a1 : Int} (h0 : a0 ≤ (4 : Int)) (h1 : 0 ≤ a0 ∧ a0 ≤ 5) (h2 : a1 = a0 + 1) : a1 ≤ 5 := by omega
theorem ob_708 {a0 a1 : Int} (h0 : a0 = 0) (h1 : ((a0 ≠ (0 : Int)) ∧ ((1 : Int) ≤ a0) ∧ (a1 = (0 : Int))) ∨ ((a0 = (0 : Int)) ∧ (a1 = (1 : Int)))) (h2 : a1 = 0) : False := by omega
theorem ob_709 {a0 : Int} (h0 : 0 ≤ a0 ∧ a0 ≤ 5) : a0 ≤ 5 := by omega
theorem ob_710 {a0 a1 a2 : Int} (h0 : a0 + a1 = (1 : Int)) (h1 : a2 ≤ (4 : Int)) (h2 : 0 ≤ a2 ∧ a2 ≤ 5) : a2 + 5 * a0 < 5 * a1 ∨ 5 * a1 + 5 ≤ a2 + 5 * a0 := by omega
theorem ob_711 {a0 : Int} (h0 : a0 ≤ (8 : Int)) : a0 ≤ 8 := by omega
theorem ob_712 {a0 : Int} (h0 : a0 ≤ (4 : Int)) (h1 : 0 ≤ a0 ∧ a0 ≤ 5) : 0 ≤ a0 := by omega
theorem ob_713 {a0 a1 : Int} : a0 + 5 * a1 = 5 * a1 + a0 := by omega
theorem ob_714 {a0 : Int} (h0 : 8 ≤ a0) : 3 ≤ a0 := by omega
theorem ob_715 {a0 a1 a2 : Int} (h0 : (0 : Int) ≤ a0) (h1 : 0 ≤ a1 ∧ a1 ≤ 5) (h2 : a2 = a1 + 5 * a0) : (-2147483648) ≤ 8 * a2 := by omega
theorem ob_716 {a0 a1 a2 : Int} (h0 : a0 ≤ (1 : Int)) (h1 : a1 ≤ (4 : Int)) (h2 : a2 = a1 + 5 * a0) : 8 * a2 ≤ 2147483647 := by omega
theorem ob_717 {a0 a1 a2 a3 : Int} (h0 : a0 = 8 * a1) (h1 : a1 = a2 + 5 * a3) : a0 = 8 * a2 + 40 * a3 := by omega
theorem ob_718 {a0 a1 a2 a3 : Int} (h0 : (0 : Int) ≤ a0) (h1 : 0 ≤ a1 ∧ a1 ≤ 5) (h2 : (0 : Int) ≤ a2) (h3 : a3 = 8 * a1 + 40 * a0) : (-2147483648) ≤ a3 + a2 := by omega
theorem ob_719 {a0 a1 a2 a3 : Int} (h0 : a0 ≤ (1 : Int)) (h1 : a1 ≤ (4 : Int)) (h2 : a2 ≤ (8 : Int)) (h3 : a3 = 8 * a1 + 40 * a0) : a3 + a2 ≤ 2147483647 := by omega
theorem ob_720 {a0 a1 a2 a3 a4 : Int} (h0 : a0 = a1 + a2) (h1 : a1 = 8 * a3 + 40 * a4) : a0 = a2 + 8 * a3 + 40 * a4 := by omega
theorem ob_721 {a0 a1 a2 : Int} (h0 : (0 : Int) ≤ a0) (h1 : 0 ≤ a1 ∧ a1 ≤ 5) (h2 : (0 : Int) ≤ a2) : 0 ≤ a2 + 8 * a1 + 40 * a0 := by omega
theorem ob_722 {a0 a1 a2 : Int} (h0 : a0 ≤ (1 : Int)) (h1 : a1 ≤ (4 : Int)) (h2 : a2 < 8) : a2 + 8 * a1 + 40 * a0 < 80 := by omega
theorem ob_723 {a0 a1 : Int} (h0 : a0 < 8) (h1 : a1 = a0 + 1) : a1 ≤ (8 : Int) := by omega
theorem ob_724 {a0 : Int} (h0 : 3 ≤ a0) : 3 ≤ a0 := by omega
theorem ob_725 {a0 a1 a2 a3 : Int} (h0 : a0 ≤ a1) (h1 : a1 ≤ a2) (h2 : a2 ≤ a3) : a0 ≤ a3 := by omega
theorem ob_726 {a0 a1 a2 : Int} (h0 : (0 : Int) ≤ a0) (h1 : (1 : Int) ≤ a0) : ((1 : Int) ≤ a0) ∨ ((a0 = (0 : Int)) ∧ ((a1 = (0 : Int)) ∨ (a2 + 1 ≤ a2))) := by omega
theorem ob_727 {a0 : Int} (h0 : a0 = 3) (h1 : (1 : Int) ≤ a0) : a0 = (3 : Int) := by omega
theorem ob_728 {a0 a1 a2 : Int} (h0 : (a0 = (0 : Int)) → ((a1 = (1953853029 : Int)) → (a2 ≤ (4 : Int)))) (h1 : a0 = 0) : (a1 = (1953853029 : Int)) → (a2 ≤ (4 : Int)) := by omega
theorem ob_729 {a0 a1 a2 : Int} (h0 : (a0 = (0 : Int)) → ((a1 = (448546567013 : Int)) → (a2 ≤ (3 : Int)))) (h1 : a0 = 0) : (a1 = (448546567013 : Int)) → (a2 ≤ (3 : Int)) := by omega
theorem ob_730 {a0 a1 a2 : Int} (h0 : (a0 = 0 ∧ a1 = a2) ∨ (a0 ≠ 0 ∧ a1 ≠ a2)) (h1 : a0 ≠ 0) (h2 : a2 = 7021235455869215084) : a1 ≠ (7021235455869215084 : Int) := by omega
theorem ob_731 {a0 a1 a2 a3 a4 a5 a6 : Int} (h0 : a0 ≤ a1) (h1 : ((1 : Int) ≤ a2) ∨ ((a2 = (0 : Int)) ∧ (a3 = (0 : Int)) ∧ (a4 = (1 : Int)) ∧ ((a5 = (0 : Int)) ∨ (a1 + 1 ≤ a6)))) : ((1 : Int) ≤ a2) ∨ ((a2 = (0 : Int)) ∧ ((a5 = (0 : Int)) ∨ (a0 + 1 ≤ a6))) := by omega
theorem ob_732 {a0 a1 : Int} (h0 : a0 = 999) (h1 : a1 = 0) : a1 ≤ a0 := by omega
theorem ob_733 {a0 a1 a2 a3 a4 a5 a6 a7 : Int} (h0 : a0 ≤ a1) (h1 : a1 ≤ a2) (h2 : ((1 : Int) ≤ a3) ∨ ((a3 = (0 : Int)) ∧ (a4 = (0 : Int)) ∧ (a5 = (1 : Int)) ∧ ((a6 = (0 : Int)) ∨ (a2 + 1 ≤ a7)))) : ((1 : Int) ≤ a3) ∨ ((a3 = (0 : Int)) ∧ ((a6 = (0 : Int)) ∨ (a0 + 1 ≤ a7))) := by omega
theorem ob_734 {a0 a1 a2 a3 a4 a5 : Int} (h0 : ((1 : Int) ≤ a0) ∨ ((a0 = (0 : Int)) ∧ (a1 = (0 : Int)) ∧ (a2 = (1 : Int)) ∧ ((a3 = (0 : Int)) ∨ (a4 + 1 ≤ a5)))) (h1 : a0 = 0) : a1 = 0 := by omega
theorem ob_735 {a0 a1 : Int} (h0 : a0 = 100) (h1 : a1 = 0) : a1 ≤ a0 := by omega
theorem ob_736 {a0 a1 a2 : Int} (h0 : a0 ≤ a1) (h1 : a1 ≤ a2) (h2 : a2 = 100) (h3 : a0 = 0) : 0 ≤ a1 := by omega
theorem ob_737 {a0 a1 a2 : Int} (h0 : a0 ≤ a1) (h1 : a1 ≤ a2) (h2 : a2 = 100) (h3 : a0 = 0) : a1 ≤ 100 := by omega
theorem ob_738 {a0 a1 a2 : Int} (h0 : a0 = 0) (h1 : a1 = (1752526195 : Int)) (h2 : (a0 = 0 ∧ a1 = a2) ∨ (a0 ≠ 0 ∧ a1 ≠ a2)) (h3 : a2 = 1685217655) : False := by omega
theorem ob_739 {a0 : Int} (h0 : a0 = (1752526195 : Int)) : a0 ≠ (1685217655 : Int) := by omega
theorem ob_740 {a0 : Int} (h0 : (0 : Int) ≤ a0) (h1 : a0 ≤ (1 : Int)) (h2 : a0 = 0) : a0 = 0 := by omega
theorem ob_741 {a0 : Int} (h0 : a0 = (1735156068 : Int)) : a0 = 1735156068 := by omega
theorem ob_742 {a0 a1 a2 : Int} (h0 : a0 = 0) (h1 : a1 = (1735156068 : Int)) (h2 : (a0 = 0 ∧ a1 = a2) ∨ (a0 ≠ 0 ∧ a1 ≠ a2)) (h3 : a2 = 1752526195) : False := by omega
theorem ob_743 {a0 : Int} (h0 : a0 = (1735156068 : Int)) : a0 ≠ (1752526195 : Int) := by omega
theorem ob_744 {a0 a1 a2 : Int} (h0 : a0 = 0) (h1 : a1 = (1735156068 : Int)) (h2 : (a0 = 0 ∧ a1 = a2) ∨ (a0 ≠ 0 ∧ a1 ≠ a2)) (h3 : a2 = 1685217655) : False := by omega
theorem ob_745 {a0 : Int} (h0 : a0 = (1735156068 : Int)) : a0 ≠ (1685217655 : Int) := by omega
theorem ob_746 {a0 a1 a2 : Int} (h0 : (a0 = (0 : Int)) → ((a1 = (448546567013 : Int)) → (a2 ≤ (3 : Int)))) (h1 : a0 = 0) (h2 : a1 = (448546567013 : Int)) : a2 ≤ (3 : Int) := by omega
theorem ob_747 {a0 a1 a2 : Int} (h0 : a0 = 0) (h1 : a1 = (448546567013 : Int)) (h2 : (a0 = 0 ∧ a1 = a2) ∨ (a0 ≠ 0 ∧ a1 ≠ a2)) (h3 : a2 = 1735156068) : False := by omega
theorem ob_748 {a0 : Int} (h0 : a0 = (448546567013 : Int)) : a0 ≠ (1735156068 : Int) := by omega
theorem ob_749 {a0 a1 a2 : Int} (h0 : a0 = 0) (h1 : a1 = (448546567013 : Int)) (h2 : (a0 = 0 ∧ a1 = a2) ∨ (a0 ≠ 0 ∧ a1 ≠ a2)) (h3 : a2 = 1752526195) : False := by omega
theorem ob_750 {a0 : Int} (h0 : a0 = (448546567013 : Int)) : a0 ≠ (1752526195 : Int) := by omega
theorem ob_751 {a0 a1 a2 : Int} (h0 : a0 = 0) (h1 : a1 = (448546567013 : Int)) (h2 : (a0 = 0 ∧ a1 = a2) ∨ (a0 ≠ 0 ∧ a1 ≠ a2)) (h3 : a2 = 1685217655) : False := by omega
theorem ob_752 {a0 : Int} (h0 : a0 = (448546567013 : Int)) : a0 ≠ (1685217655 : Int) := by omega
theorem ob_753 {a0 a1 a2 : Int} (h0 : (a0 = (0 : Int)) → ((a1 = (1953853029 : Int)) → (a2 ≤ (4 : Int)))) (h1 : a0 = 0) (h2 : a1 = (1953853029 : Int)) : a2 ≤ (4 : Int) := by omega
theorem ob_754 {a0 a1 a2 : Int} (h0 : a0 = 0) (h1 : a1 = (1953853029 : Int)) (h2 : (a0 = 0 ∧ a1 = a2) ∨ (a0 ≠ 0 ∧ a1 ≠ a2)) (h3 : a2 = 448546567013) : False := by omega
theorem ob_755 {a0 : Int} (h0 : a0 = (1953853029 : Int)) : a0 ≠ (448546567013 : Int) := by omega
theorem ob_756 {a0 a1 a2 : Int} (h0 : a0 = 0) (h1 : a1 = (1953853029 : Int)) (h2 : (a0 = 0 ∧ a1 = a2) ∨ (a0 ≠ 0 ∧ a1 ≠ a2)) (h3 : a2 = 1735156068) : False := by omega
theorem ob_757 {a0 : Int} (h0 : a0 = (1953853029 : Int)) : a0 ≠ (1735156068 : Int) := by omega
theorem ob_758 {a0 a1 a2 : Int} (h0 : a0 = 0) (h1 : a1 = (1953853029 : Int)) (h2 : (a0 = 0 ∧ a1 = a2) ∨ (a0 ≠ 0 ∧ a1 ≠ a2)) (h3 : a2 = 1752526195) : False := by omega
theorem ob_759 {a0 : Int} (h0 : a0 = (1953853029 : Int)) : a0 ≠ (1752526195 : Int) := by omega
theorem ob_760 {a0 a1 a2 : Int} (h0 : a0 = 0) (h1 : a1 = (1953853029 : Int)) (h2 : (a0 = 0 ∧ a1 = a2) ∨ (a0 ≠ 0 ∧ a1 ≠ a2)) (h3 : a2 = 1685217655) : False := by omega
theorem ob_761 {a0 : Int} (h0 : a0 = (1953853029 : Int)) : a0 ≠ (1685217655 : Int) := by omega
theorem ob_762 {a0 a1 a2 : Int} (h0 : (a0 = 0 ∧ a1 = a2) ∨ (a0 ≠ 0 ∧ a1 ≠ a2)) (h1 : a0 = 0) (h2 : a2 = 7021235455869215084) : a1 = (7021235455869215084 : Int) := by omega
theorem ob_763 {a0 a1 : Int} (h0 : a0 = 9) (h1 : a1 = 1) : a1 ≤ a0 := by omega
theorem ob_764 {a0 a1 a2 : Int} (h0 : a0 = 0) (h1 : a1 = (7021235455869215084 : Int)) (h2 : (a0 = 0 ∧ a1 = a2) ∨ (a0 ≠ 0 ∧ a1 ≠ a2)) (h3 : a2 = 1953853029) : False := by omega
theorem ob_765 {a0 : Int} (h0 : a0 = (7021235455869215084 : Int)) : a0 ≠ (1953853029 : Int) := by omega
theorem ob_766 {a0 a1 a2 : Int} (h0 : a0 = 0) (h1 : a1 = (7021235455869215084 : Int)) (h2 : (a0 = 0 ∧ a1 = a2) ∨ (a0 ≠ 0 ∧ a1 ≠ a2)) (h3 : a2 = 448546567013) : False := by omega
theorem ob_767 {a0 : Int} (h0 : a0 = (7021235455869215084 : Int)) : a0 ≠ (448546567013 : Int) := by omega
theorem ob_768 {a0 a1 a2 : Int} (h0 : a0 = 0) (h1 : a1 = (7021235455869215084 : Int)) (h2 : (a0 = 0 ∧ a1 = a2) ∨ (a0 ≠ 0 ∧ a1 ≠ a2)) (h3 : a2 = 1735156068) : False := by omega
theorem ob_769 {a0 : Int} (h0 : a0 = (7021235455869215084 : Int)) : a0 ≠ (1735156068 : Int) := by omega
theorem ob_770 {a0 a1 a2 : Int} (h0 : a0 = 0) (h1 : a1 = (7021235455869215084 : Int)) (h2 : (a0 = 0 ∧ a1 = a2) ∨ (a0 ≠ 0 ∧ a1 ≠ a2)) (h3 : a2 = 1752526195) : False := by omega
theorem ob_771 {a0 : Int} (h0 : a0 = (7021235455869215084 : Int)) : a0 ≠ (1752526195 : Int) := by omega
theorem ob_772 {a0 a1 a2 : Int} (h0 : a0 = 0) (h1 : a1 = (7021235455869215084 : Int)) (h2 : (a0 = 0 ∧ a1 = a2) ∨ (a0 ≠ 0 ∧ a1 ≠ a2)) (h3 : a2 = 1685217655) : False := by omega
theorem ob_773 {a0 : Int} (h0 : a0 = (7021235455869215084 : Int)) : a0 ≠ (1685217655 : Int) := by omega
theorem ob_774 {a0 a1 a2 : Int} (h0 : (1 : Int) ≤ a0) : ((1 : Int) ≤ a0) ∨ ((a0 = (0 : Int)) ∧ ((a1 = (0 : Int)) ∨ (a2 + 1 ≤ a2))) := by omega
theorem ob_775 {a0 : Int} : a0 = a0 := by omega
theorem ob_776 {a0 : Int} (h0 : -1 * a0 + 26 < 0) (h1 : (0 : Int) ≤ a0) (h2 : a0 ≤ (26 : Int)) : False := by omega
theorem ob_777 {a0 : Int} (h0 : -1 * a0 + 5 < 0) (h1 : (0 : Int) ≤ a0) (h2 : a0 ≤ (5 : Int)) : False := by omega
theorem ob_778 {a0 : Int} (h0 : -1 * a0 + 4 < 0) (h1 : (0 : Int) ≤ a0) (h2 : a0 ≤ (4 : Int)) : False := by omega
theorem ob_779 : 0 ≤ (25 : Int) := by omega
theorem ob_780 : (25 : Int) < 26 := by omega
theorem ob_781 : ((25 : Int)) % 26 < 10 ∨ 15 ≤ ((25 : Int)) % 26 := by omega
theorem ob_782 {a0 : Int} (h0 : (0 : Int) ≤ a0) : (-2147483648) ≤ 20 + a0 := by omega
theorem ob_783 {a0 : Int} (h0 : a0 ≤ (4 : Int)) : 20 + a0 ≤ 2147483647 := by omega
theorem ob_784 {a0 a1 : Int} (h0 : a0 = 20 + a1) : a0 = a1 + 20 := by omega
theorem ob_785 {a0 : Int} (h0 : (0 : Int) ≤ a0) (h1 : a0 ≤ (1 : Int)) : (-2147483648) ≤ 4 * a0 := by omega
theorem ob_786 {a0 : Int} (h0 : (0 : Int) ≤ a0) (h1 : a0 ≤ (1 : Int)) : 4 * a0 ≤ 2147483647 := by omega
theorem ob_787 {a0 a1 a2 : Int} (h0 : (0 : Int) ≤ a0) (h1 : (0 : Int) ≤ a1) (h2 : a2 = 4 * a0) : (-2147483648) ≤ a2 + a1 := by omega
theorem ob_788 {a0 a1 a2 : Int} (h0 : a0 ≤ (1 : Int)) (h1 : a1 ≤ (4 : Int)) (h2 : a2 = 4 * a0) : a2 + a1 ≤ 2147483647 := by omega
theorem ob_789 {a0 a1 : Int} (h0 : (0 : Int) ≤ a0) (h1 : (0 : Int) ≤ a1) : 0 ≤ a1 + 4 * a0 := by omega
theorem ob_790 {a0 a1 a2 a3 : Int} (h0 : a0 ≤ (1 : Int)) (h1 : 0 ≤ a1 ∧ a1 ≤ 4) (h2 : a3 < a2) (h3 : a2 = a1) : a3 + 4 * a0 < 8 := by omega
theorem ob_791 {a0 : Int} (h0 : (0 : Int) ≤ a0) : 0 ≤ a0 + 20 := by omega
theorem ob_792 {a0 : Int} (h0 : a0 ≤ (4 : Int)) : a0 + 20 < 26 := by omega
theorem ob_793 {a0 a1 a2 a3 : Int} (h0 : 0 ≤ a0 ∧ a0 ≤ 4) (h1 : (0 : Int) ≤ a1) (h2 : a1 ≤ (4 : Int)) (h3 : -1 * a1 + 4 < a2 + 1) (h4 : a1 < a3) (h5 : a3 = a0) : (a1 + 20) % 26 < 10 ∨ 15 ≤ (a1 + 20) % 26 := by omega
theorem ob_794 {a0 : Int} (h0 : a0 ≤ (4 : Int)) : a0 + 1 ≤ 2147483647 := by omega
theorem ob_795 {a0 a1 a2 a3 : Int} (h0 : 0 ≤ a0 ∧ a0 ≤ 4) (h1 : a2 < a1) (h2 : a1 = a0) (h3 : a3 = a2 + 1) : a3 ≤ (4 : Int) := by omega
theorem ob_796 {a0 a1 a2 : Int} (h0 : -1 * a0 + 4 < a1 + 1) (h1 : a2 = a0 + 1) : -1 * a2 + 4 < a1 := by omega
theorem ob_797 {a0 : Int} (h0 : a0 = 0) : a0 ≤ (4 : Int) := by omega
theorem ob_798 {a0 : Int} (h0 : a0 = 0) : 0 ≤ -1 * a0 + 4 := by omega
theorem ob_799 {a0 : Int} (h0 : (0 : Int) ≤ a0) : (-2147483648) ≤ 0 + a0 := by omega
theorem ob_800 {a0 : Int} (h0 : a0 ≤ (5 : Int)) : 0 + a0 ≤ 2147483647 := by omega
theorem ob_801 {a0 a1 : Int} (h0 : a0 = 0 + a1) : a0 = a1 := by omega
theorem ob_802 {a0 : Int} (h0 : a0 ≤ (5 : Int)) : a0 < 26 := by omega
theorem ob_803 {a0 a1 : Int} (h0 : (0 : Int) ≤ a0) (h1 : a0 ≤ (5 : Int)) (h2 : -1 * a0 + 5 < a1 + 1) (h3 : a0 < 5) : (a0) % 26 < 10 ∨ 15 ≤ (a0) % 26 := by omega
theorem ob_804 {a0 : Int} (h0 : a0 ≤ (5 : Int)) : a0 + 1 ≤ 2147483647 := by omega
theorem ob_805 {a0 a1 : Int} (h0 : a0 < 5) (h1 : a1 = a0 + 1) : a1 ≤ (5 : Int) := by omega
theorem ob_806 {a0 a1 a2 : Int} (h0 : -1 * a0 + 5 < a1 + 1) (h1 : a2 = a0 + 1) : -1 * a2 + 5 < a1 := by omega
theorem ob_807 {a0 : Int} (h0 : a0 = 0) : a0 ≤ (5 : Int) := by omega
theorem ob_808 {a0 : Int} (h0 : a0 = 0) : 0 ≤ -1 * a0 + 5 := by omega
theorem ob_809 {a0 : Int} (h0 : a0 < 26) : a0 < 26 := by omega
theorem ob_810 {a0 : Int} (h0 : a0 ≤ (26 : Int)) : a0 + 1 ≤ 2147483647 := by omega
theorem ob_811 {a0 a1 : Int} (h0 : a0 < 26) (h1 : a1 = a0 + 1) : a1 ≤ (26 : Int) := by omega
theorem ob_812 {a0 a1 a2 : Int} (h0 : -1 * a0 + 26 < a1 + 1) (h1 : a2 = a0 + 1) : -1 * a2 + 26 < a1 := by omega
theorem ob_813 {a0 : Int} (h0 : a0 = 0) : a0 ≤ (26 : Int) := by omega
theorem ob_814 {a0 : Int} (h0 : a0 = 0) : 0 ≤ -1 * a0 + 26 := by omega
theorem ob_815 {a0 : Int} (h0 : a0 = 0) : a0 ≤ (30 : Int) := by omega
theorem ob_816 {a0 : Int} (h0 : a0 = 0) : a0 + a0 ≤ (40 : Int) := by omega
theorem ob_817 {a0 : Int} (h0 : a0 < 3) : a0 < 3 := by omega
theorem ob_818 {a0 : Int} (h0 : (0 : Int) ≤ a0) (h1 : a0 ≤ (1 : Int)) : (-2147483648) ≤ 1 - a0 := by omega
theorem ob_819 {a0 : Int} (h0 : (0 : Int) ≤ a0) (h1 : a0 ≤ (1 : Int)) : 1 - a0 ≤ 2147483647 := by omega
theorem ob_820 {a0 a1 : Int} (h0 : a0 = 1 - a1) : a0 = -1 * a1 + 1 := by omega
theorem ob_821 {a0 a1 : Int} (h0 : a0 = -1 * a1 + 1) : a0 + a1 = (1 : Int) := by omega
theorem ob_822 {a0 : Int} (h0 : a0 = 0) : a0 ≤ (1600 : Int) := by omega
theorem ob_823 {a0 a1 : Int} (h0 : (0 : Int) ≤ a0) (h1 : a0 ≤ (1600 : Int)) (h2 : a0 ≤ a1) : (0 : Int) ≤ a0 := by omega
theorem ob_824 {a0 a1 : Int} (h0 : (0 : Int) ≤ a0) (h1 : a0 ≤ (1600 : Int)) (h2 : a0 ≤ a1) : a0 ≤ (1600 : Int) := by omega
theorem ob_825 {a0 a1 : Int} (h0 : (0 : Int) ≤ a0) (h1 : a0 ≤ (1 : Int)) (h2 : a1 = -1 * a0 + 1) : (0 : Int) ≤ a1 := by omega
theorem ob_826 {a0 a1 : Int} (h0 : (0 : Int) ≤ a0) (h1 : a0 ≤ (1 : Int)) (h2 : a1 = -1 * a0 + 1) : a1 ≤ (1 : Int) := by omega
theorem ob_827 {a0 a1 a2 : Int} (h0 : (0 : Int) ≤ a0) (h1 : a0 ≤ (1600 : Int)) (h2 : a0 ≤ a1) (h3 : a2 = 0) : a2 ≤ a0 := by omega
theorem ob_828 {a0 a1 a2 a3 a4 a5 : Int} (h0 : a0 + 2 * a1 + -2 * a2 + -1000000 * a3 + 1000000 < 0) (h1 : ((a4 = (0 : Int)) ∧ (a3 = (0 : Int))) ∨ ((a4 ≠ (0 : Int)) ∧ (a3 = (1 : Int)))) (h2 : ((a5 = (0 : Int)) ∧ (a0 = (0 : Int))) ∨ ((a5 ≠ (0 : Int)) ∧ (a0 = (1 : Int)))) (h3 : a2 ≤ a1) : False := by omega
theorem ob_829 {a0 a1 a2 : Int} (h0 : (0 : Int) ≤ a0) (h1 : a0 ≤ (1 : Int)) (h2 : a1 = 560 * a2) (h3 : a2 = -1 * a0 + 1) : (0 : Int) ≤ a2 := by omega
theorem ob_830 {a0 a1 a2 : Int} (h0 : (0 : Int) ≤ a0) (h1 : a0 ≤ (1 : Int)) (h2 : a1 = 560 * a2) (h3 : a2 = -1 * a0 + 1) : a2 ≤ (1 : Int) := by omega
theorem ob_831 {a0 a1 : Int} (h0 : a0 ≠ 0) (h1 : a1 ≠ (0 : Int)) (h2 : ((a1 ≠ (0 : Int)) ∧ ((1 : Int) ≤ a1) ∧ (a0 = (0 : Int))) ∨ ((a1 = (0 : Int)) ∧ (a0 = (1 : Int)))) : False := by omega
theorem ob_832 {a0 a1 : Int} (h0 : ((a0 = (0 : Int)) ∧ (a1 = (0 : Int))) ∨ ((a0 ≠ (0 : Int)) ∧ (a1 = (1 : Int)))) (h1 : a0 = 0) : a1 = (0 : Int) := by omega
theorem ob_833 {a0 : Int} (h0 : a0 = (0 : Int)) : a0 = 0 := by omega
theorem ob_834 {a0 a1 a2 : Int} (h0 : (0 : Int) ≤ a0) (h1 : a0 ≤ (1 : Int)) (h2 : a1 = 560 * a2) (h3 : a2 = -1 * a0 + 1) : 0 ≤ -1 * a0 + 1 := by omega
theorem ob_835 {a0 a1 a2 : Int} (h0 : (0 : Int) ≤ a0) (h1 : a0 ≤ (1 : Int)) (h2 : a1 = 560 * a2) (h3 : a2 = -1 * a0 + 1) : -1 * a0 + 1 < 2 := by omega
theorem ob_836 {a0 a1 : Int} (h0 : ((a0 = (0 : Int)) ∧ (a1 = (0 : Int))) ∨ ((a0 ≠ (0 : Int)) ∧ (a1 = (1 : Int)))) (h1 : a0 ≠ 0) : a0 ≠ (0 : Int) := by omega
theorem ob_837 {a0 a1 : Int} (h0 : ((a0 = (0 : Int)) ∧ (a1 = (0 : Int))) ∨ ((a0 ≠ (0 : Int)) ∧ (a1 = (1 : Int)))) (h1 : a0 ≠ 0) : a1 = (1 : Int) := by omega
theorem ob_838 {a0 a1 : Int} (h0 : ((a0 = (0 : Int)) ∧ (a1 = (0 : Int))) ∨ ((a0 ≠ (0 : Int)) ∧ (a1 = (1 : Int)))) (h1 : a0 ≠ 0) (h2 : a0 ≠ (0 : Int)) : a0 ≠ (0 : Int) := by omega
theorem ob_839 {a0 a1 a2 a3 a4 : Int} (h0 : (0 : Int) ≤ a0) (h1 : ((1 : Int) ≤ a0) ∨ ((a0 = (0 : Int)) ∧ ((a1 = (0 : Int)) ∨ (a2 + 1 ≤ a3)))) (h2 : (a0 = 0 ∧ a4 = 0) ∨ (a0 ≠ 0 ∧ a4 = 1)) : ((a0 = (0 : Int)) ∧ (a4 = (0 : Int))) ∨ ((a0 ≠ (0 : Int)) ∧ (a4 = (1 : Int))) := by omega
theorem ob_840 {a0 a1 a2 a3 a4 : Int} (h0 : ((1 : Int) ≤ a0) ∨ ((a0 = (0 : Int)) ∧ ((a1 = (0 : Int)) ∨ (a2 + 1 ≤ a3)))) (h1 : (a1 = 0 ∧ a4 = 0) ∨ (a1 ≠ 0 ∧ a4 = 1)) : ((a1 = (0 : Int)) ∧ (a4 = (0 : Int))) ∨ ((a1 ≠ (0 : Int)) ∧ (a4 = (1 : Int))) := by omega
theorem ob_841 {a0 a1 a2 a3 a4 a5 a6 a7 a8 a9 a10 a11 : Int} (h0 : ((a0 = (0 : Int)) ∧ (a1 = (0 : Int))) ∨ ((a0 ≠ (0 : Int)) ∧ (a1 = (1 : Int)))) (h1 : ((a2 = (0 : Int)) ∧ (a3 = (0 : Int))) ∨ ((a2 ≠ (0 : Int)) ∧ (a3 = (1 : Int)))) (h2 : a3 + 2 * a4 + -2 * a5 + -1000000 * a1 + 1000000 < a6 + 1) (h3 : a0 = (0 : Int)) (h4 : a2 ≠ 0) (h5 : a5 ≤ a7) (h6 : ((1 : Int) ≤ a8) ∨ ((a8 = (0 : Int)) ∧ ((a9 = (0 : Int)) ∨ (a5 + 1 ≤ a7)))) (h7 : (a8 = 0 ∧ a10 = 0) ∨ (a8 ≠ 0 ∧ a10 = 1)) (h8 : (a9 = 0 ∧ a11 = 0) ∨ (a9 ≠ 0 ∧ a11 = 1)) : a11 + 2 * a4 + -2 * a7 + -1000000 * a10 + 1000000 < a6 := by omega
theorem ob_842 {a0 a1 : Int} (h0 : (a0 = 0 ∧ a1 = 0) ∨ (a0 ≠ 0 ∧ a1 = 1)) (h1 : a0 = 0) : ((a0 = (0 : Int)) ∧ (a1 = (0 : Int))) ∨ ((a0 ≠ (0 : Int)) ∧ (a1 = (1 : Int))) := by omega
theorem ob_843 {a0 a1 a2 a3 : Int} (h0 : (a0 = (0 : Int)) ∨ (a1 + 1 ≤ a2)) (h1 : (a0 = 0 ∧ a3 = 0) ∨ (a0 ≠ 0 ∧ a3 = 1)) (h2 : a1 = 0) : ((a0 = (0 : Int)) ∧ (a3 = (0 : Int))) ∨ ((a0 ≠ (0 : Int)) ∧ (a3 = (1 : Int))) := by omega
theorem ob_844 {a0 a1 a2 a3 a4 a5 : Int} (h0 : a0 ≤ a1) (h1 : (a2 = 0 ∧ a3 = 0) ∨ (a2 ≠ 0 ∧ a3 = 1)) (h2 : (a4 = 0 ∧ a5 = 0) ∨ (a4 ≠ 0 ∧ a5 = 1)) (h3 : a2 = 0) : 0 ≤ a5 + 2 * a1 + -2 * a0 + -1000000 * a3 + 1000000 := by omega
theorem ob_845 {a0 : Int} (h0 : a0 ≤ (1600 : Int)) : a0 < 1620 := by omega
theorem ob_846 {a0 : Int} (h0 : a0 = 0) : 0 ≤ -1 * a0 + 1600 := by omega
theorem ob_847 {a0 : Int} (h0 : a0 ≠ 0) : a0 ≠ 0 := by omega
theorem ob_848 {a0 a1 a2 : Int} (h0 : a0 ≤ a1) (h1 : a1 ≤ a2) : ((a0 ≤ a1) ∧ (a1 ≤ a2) ∧ (a1 = a1)) ∨ ((a0 ≤ a1) ∧ (a2 + 1 ≤ a1) ∧ (a1 = a2)) ∨ ((a1 + 1 ≤ a0) ∧ (a1 = a0)) := by omega
theorem ob_849 {a0 a1 a2 : Int} (h0 : a0 ≤ a1) (h1 : a2 < a1) : ((a0 ≤ a1) ∧ (a1 ≤ a2) ∧ (a2 = a1)) ∨ ((a0 ≤ a1) ∧ (a2 + 1 ≤ a1) ∧ (a2 = a2)) ∨ ((a1 + 1 ≤ a0) ∧ (a2 = a0)) := by omega
theorem ob_850 {a0 a1 a2 : Int} (h0 : a1 < a0) : ((a0 ≤ a1) ∧ (a1 ≤ a2) ∧ (a0 = a1)) ∨ ((a0 ≤ a1) ∧ (a2 + 1 ≤ a1) ∧ (a0 = a2)) ∨ ((a1 + 1 ≤ a0) ∧ (a0 = a0)) := by omega
theorem ob_851 {a0 : Int} (h0 : (0 : Int) ≤ a0) (h1 : a0 ≤ (1 : Int)) : (-2147483648) ≤ 5 * a0 := by omega
theorem ob_852 {a0 : Int} (h0 : (0 : Int) ≤ a0) (h1 : a0 ≤ (1 : Int)) : 5 * a0 ≤ 2147483647 := by omega
theorem ob_853 {a0 a1 a2 : Int} (h0 : (0 : Int) ≤ a0) (h1 : (0 : Int) ≤ a1) (h2 : a2 = 5 * a0) : (-2147483648) ≤ a2 + a1 := by omega
theorem ob_854 {a0 a1 a2 a3 : Int} (h0 : a0 ≤ (1 : Int)) (h1 : 0 ≤ a1 ∧ a1 ≤ 5) (h2 : a2 + 1 ≤ a1) (h3 : a3 = 5 * a0) : a3 + a2 ≤ 2147483647 := by omega
theorem ob_855 {a0 a1 : Int} (h0 : (0 : Int) ≤ a0) (h1 : (0 : Int) ≤ a1) : 0 ≤ a1 + 5 * a0 := by omega
theorem ob_856 {a0 a1 a2 : Int} (h0 : a0 ≤ (1 : Int)) (h1 : 0 ≤ a1 ∧ a1 ≤ 5) (h2 : a2 + 1 ≤ a1) : a2 + 5 * a0 < 10 := by omega
theorem ob_857 {a0 a1 a2 a3 : Int} (h0 : (0 : Int) ≤ a0) (h1 : 5 * a1 ≤ a0 + 5 * a1 → a0 + 5 * a1 < 5 * a1 + a3 → 3 ≤ a2) : (a0 + 1 ≤ a3) → ((3 : Int) ≤ a2) := by omega
theorem ob_858 {a0 a1 a2 a3 : Int} (h0 : (0 : Int) ≤ a0) (h1 : a0 + 1 ≤ a1) (h2 : 5 * a2 ≤ a0 + 5 * a2 → a0 + 5 * a2 < 5 * a2 + a1 → 3 ≤ a3) : (3 : Int) ≤ a3 := by omega
theorem ob_859 {a0 a1 : Int} (h0 : (0 : Int) ≤ a0) (h1 : a0 + 1 ≤ a1) : (-2147483648) ≤ 10 + a0 := by omega
theorem ob_860 {a0 a1 : Int} (h0 : 0 ≤ a0 ∧ a0 ≤ 5) (h1 : a1 + 1 ≤ a0) : 10 + a1 ≤ 2147483647 := by omega
theorem ob_861 {a0 a1 : Int} (h0 : a0 = 10 + a1) : a0 = a1 + 10 := by omega
theorem ob_862 {a0 a1 : Int} (h0 : (0 : Int) ≤ a0) (h1 : a0 + 1 ≤ a1) : 0 ≤ a0 + 10 := by omega
theorem ob_863 {a0 a1 : Int} (h0 : 0 ≤ a0 ∧ a0 ≤ 5) (h1 : a1 + 1 ≤ a0) : a1 + 10 < 26 := by omega
theorem ob_864 {a0 a1 a2 : Int} (h0 : 0 ≤ a0 ∧ a0 ≤ 5) (h1 : (0 : Int) ≤ a1) (h2 : a1 + 1 ≤ a0) (h3 : 0 ≤ a2 ∧ a2 ≤ 8) (h4 : (3 : Int) ≤ a2) : 10 ≤ (a1 + 10) % 26 := by omega
theorem ob_865 {a0 a1 a2 : Int} (h0 : 0 ≤ a0 ∧ a0 ≤ 5) (h1 : (0 : Int) ≤ a1) (h2 : a1 + 1 ≤ a0) (h3 : 0 ≤ a2 ∧ a2 ≤ 8) (h4 : (3 : Int) ≤ a2) : (a1 + 10) % 26 < 15 := by omega
theorem ob_866 {a0 a1 : Int} (h0 : 0 ≤ a0 ∧ a0 ≤ 8) (h1 : (3 : Int) ≤ a0) (h2 : 0 ≤ a1 ∧ a1 ≤ 99) : (-2147483648) ≤ a0 - a1 := by omega
theorem ob_867 {a0 a1 : Int} (h0 : 0 ≤ a0 ∧ a0 ≤ 8) (h1 : (3 : Int) ≤ a0) (h2 : 0 ≤ a1 ∧ a1 ≤ 99) : a0 - a1 ≤ 2147483647 := by omega
theorem ob_868 {a0 a1 a2 : Int} (h0 : a0 = a1 - a2) : a0 = -1 * a2 + a1 := by omega
theorem ob_869 {a0 : Int} (h0 : 0 ≤ a0 ∧ a0 ≤ 8) (h1 : (3 : Int) ≤ a0) : (3 : Int) ≤ a0 := by omega
theorem ob_870 {a0 : Int} (h0 : 0 ≤ a0 ∧ a0 ≤ 8) (h1 : (3 : Int) ≤ a0) : a0 ≤ (8 : Int) := by omega
theorem ob_871 {a0 : Int} (h0 : 0 ≤ a0 ∧ a0 ≤ 99) : (0 : Int) ≤ a0 := by omega
theorem ob_872 {a0 : Int} (h0 : 0 ≤ a0 ∧ a0 ≤ 99) : a0 ≤ (99 : Int) := by omega
theorem ob_873 {a0 a1 a2 a3 a4 a5 : Int} (h0 : ((a0 ≤ a1) ∧ (a1 ≤ a2) ∧ (a3 = a1)) ∨ ((a0 ≤ a1) ∧ (a2 + 1 ≤ a1) ∧ (a3 = a2)) ∨ ((a1 + 1 ≤ a0) ∧ (a3 = a0))) (h1 : a2 = 8) (h2 : a1 = -1 * a4 + a5) (h3 : a0 = 3) : (3 : Int) ≤ a3 := by omega
theorem ob_874 {a0 a1 a2 a3 a4 a5 : Int} (h0 : ((a0 ≤ a1) ∧ (a1 ≤ a2) ∧ (a3 = a1)) ∨ ((a0 ≤ a1) ∧ (a2 + 1 ≤ a1) ∧ (a3 = a2)) ∨ ((a1 + 1 ≤ a0) ∧ (a3 = a0))) (h1 : a2 = 8) (h2 : a1 = -1 * a4 + a5) (h3 : a0 = 3) : a3 ≤ (8 : Int) := by omega
theorem ob_875 {a0 a1 a2 a3 a4 a5 : Int} (h0 : 0 ≤ a0 ∧ a0 ≤ 8) (h1 : 0 ≤ a1 ∧ a1 ≤ 99) (h2 : ((a2 ≤ a3) ∧ (a3 ≤ a4) ∧ (a5 = a3)) ∨ ((a2 ≤ a3) ∧ (a4 + 1 ≤ a3) ∧ (a5 = a4)) ∨ ((a3 + 1 ≤ a2) ∧ (a5 = a2))) (h3 : a4 = 8) (h4 : a3 = -1 * a1 + a0) (h5 : a2 = 3) : ((a5 = (3 : Int)) ∧ (a0 ≤ a1 + 3)) ∨ (a5 + a1 = a0) := by omega
theorem ob_876 {a0 a1 a2 : Int} (h0 : (0 : Int) ≤ a0) (h1 : (0 : Int) ≤ a1) (h2 : a2 = a1 + 5 * a0) : (-2147483648) ≤ 8 * a2 := by omega
theorem ob_877 {a0 a1 a2 a3 : Int} (h0 : a0 ≤ (1 : Int)) (h1 : 0 ≤ a1 ∧ a1 ≤ 5) (h2 : a2 + 1 ≤ a1) (h3 : a3 = a2 + 5 * a0) : 8 * a3 ≤ 2147483647 := by omega
theorem ob_878 {a0 a1 a2 a3 : Int} (h0 : (0 : Int) ≤ a0) (h1 : (0 : Int) ≤ a1) (h2 : 0 ≤ a2 ∧ a2 ≤ 8) (h3 : a3 = 8 * a1 + 40 * a0) : (-2147483648) ≤ a3 + a2 := by omega
theorem ob_879 {a0 a1 a2 a3 a4 : Int} (h0 : a0 ≤ (1 : Int)) (h1 : 0 ≤ a1 ∧ a1 ≤ 5) (h2 : a2 + 1 ≤ a1) (h3 : 0 ≤ a3 ∧ a3 ≤ 8) (h4 : a4 = 8 * a2 + 40 * a0) : a4 + a3 ≤ 2147483647 := by omega
theorem ob_880 {a0 a1 : Int} (h0 : (0 : Int) ≤ a0) (h1 : a0 + 1 ≤ a1) : (0 : Int) ≤ a0 := by omega
theorem ob_881 {a0 a1 : Int} (h0 : 0 ≤ a0 ∧ a0 ≤ 5) (h1 : (0 : Int) ≤ a1) (h2 : a1 + 1 ≤ a0) : a1 + 1 ≤ a0 := by omega
theorem ob_882 {a0 a1 a2 a3 a4 : Int} (h0 : (0 : Int) ≤ a0) (h1 : (0 : Int) ≤ a1) (h2 : 0 ≤ a2 ∧ a2 ≤ 8) (h3 : a3 ≤ (8 : Int)) (h4 : a4 = a2 + 8 * a1 + 40 * a0) : (-2147483648) ≤ a4 - a3 := by omega
theorem ob_883 {a0 a1 a2 a3 a4 a5 : Int} (h0 : a0 ≤ (1 : Int)) (h1 : 0 ≤ a1 ∧ a1 ≤ 5) (h2 : a2 + 1 ≤ a1) (h3 : 0 ≤ a3 ∧ a3 ≤ 8) (h4 : (3 : Int) ≤ a4) (h5 : a5 = a3 + 8 * a2 + 40 * a0) : a5 - a4 ≤ 2147483647 := by omega
theorem ob_884 {a0 a1 a2 a3 a4 a5 : Int} (h0 : a0 = a1 - a2) (h1 : a1 = a3 + 8 * a4 + 40 * a5) : a0 = a3 + -1 * a2 + 8 * a4 + 40 * a5 := by omega
theorem ob_885 {a0 a1 a2 a3 a4 a5 : Int} (h0 : (0 : Int) ≤ a0) (h1 : (0 : Int) ≤ a1) (h2 : (0 : Int) ≤ a2) (h3 : 0 ≤ a3 ∧ a3 ≤ 8) (h4 : a4 ≤ (8 : Int)) (h5 : a5 = a3 + -1 * a4 + 8 * a1 + 40 * a0) : (-2147483648) ≤ a5 + a2 := by omega
theorem ob_886 {a0 a1 a2 a3 a4 a5 a6 a7 : Int} (h0 : a0 ≤ (1 : Int)) (h1 : 0 ≤ a1 ∧ a1 ≤ 5) (h2 : a2 + 1 ≤ a1) (h3 : (a3 ≤ (2 : Int)) ∨ (a3 + a5 + 1 ≤ a4)) (h4 : 0 ≤ a4 ∧ a4 ≤ 8) (h5 : 0 ≤ a5 ∧ a5 ≤ 99) (h6 : (3 : Int) ≤ a6) (h7 : a7 = a4 + -1 * a6 + 8 * a2 + 40 * a0) : a7 + a3 ≤ 2147483647 := by omega
theorem ob_887 {a0 a1 a2 a3 a4 a5 a6 : Int} (h0 : a0 = a1 + a2) (h1 : a1 = a3 + -1 * a4 + 8 * a5 + 40 * a6) : a0 = a3 + a2 + -1 * a4 + 8 * a5 + 40 * a6 := by omega
theorem ob_888 {a0 a1 a2 a3 a4 a5 a6 : Int} (h0 : (0 : Int) ≤ a0) (h1 : (0 : Int) ≤ a1) (h2 : a1 + 1 ≤ a2) (h3 : (0 : Int) ≤ a3) (h4 : 5 * a0 ≤ a1 + 5 * a0 → a1 + 5 * a0 < 5 * a0 + a2 → 3 ≤ a4) (h5 : 0 ≤ a5 ∧ a5 ≤ 99) (h6 : ((a6 = (3 : Int)) ∧ (a4 ≤ a5 + 3)) ∨ (a6 + a5 = a4)) : 0 ≤ a4 + a3 + -1 * a6 + 8 * a1 + 40 * a0 := by omega
theorem ob_889 {a0 a1 a2 a3 a4 a5 a6 : Int} (h0 : a0 ≤ (1 : Int)) (h1 : 0 ≤ a1 ∧ a1 ≤ 5) (h2 : a2 + 1 ≤ a1) (h3 : (a3 ≤ (2 : Int)) ∨ (a3 + a5 + 1 ≤ a4)) (h4 : 0 ≤ a4 ∧ a4 ≤ 8) (h5 : (3 : Int) ≤ a6) (h6 : ((a6 = (3 : Int)) ∧ (a4 ≤ a5 + 3)) ∨ (a6 + a5 = a4)) : a4 + a3 + -1 * a6 + 8 * a2 + 40 * a0 < 80 := by omega
theorem ob_890 {a0 a1 a2 a3 : Int} (h0 : a0 ≤ (1 : Int)) (h1 : 0 ≤ a1 ∧ a1 ≤ 4) (h2 : a2 + 1 ≤ a1) (h3 : a3 = 4 * a0) : a3 + a2 ≤ 2147483647 := by omega
theorem ob_891 {a0 a1 a2 : Int} (h0 : (0 : Int) ≤ a0) (h1 : (0 : Int) ≤ a1) (h2 : a2 = a1 + 4 * a0) : (-2147483648) ≤ 3 * a2 := by omega
theorem ob_892 {a0 a1 a2 a3 : Int} (h0 : a0 ≤ (1 : Int)) (h1 : 0 ≤ a1 ∧ a1 ≤ 4) (h2 : a2 + 1 ≤ a1) (h3 : a3 = a2 + 4 * a0) : 3 * a3 ≤ 2147483647 := by omega
theorem ob_893 {a0 a1 a2 a3 : Int} (h0 : (0 : Int) ≤ a0) (h1 : (0 : Int) ≤ a1) (h2 : (0 : Int) ≤ a2) (h3 : a3 = 3 * a1 + 12 * a0) : (-2147483648) ≤ a3 + a2 := by omega
theorem ob_894 {a0 a1 a2 a3 a4 : Int} (h0 : a0 ≤ (1 : Int)) (h1 : 0 ≤ a1 ∧ a1 ≤ 4) (h2 : a2 + 1 ≤ a1) (h3 : a3 ≤ (2 : Int)) (h4 : a4 = 3 * a2 + 12 * a0) : a4 + a3 ≤ 2147483647 := by omega
theorem ob_895 {a0 a1 a2 : Int} (h0 : (0 : Int) ≤ a0) (h1 : (0 : Int) ≤ a1) (h2 : (0 : Int) ≤ a2) : 0 ≤ a2 + 3 * a1 + 12 * a0 := by omega
theorem ob_896 {a0 a1 a2 a3 : Int} (h0 : a0 ≤ (1 : Int)) (h1 : 0 ≤ a1 ∧ a1 ≤ 4) (h2 : a2 + 1 ≤ a1) (h3 : a3 ≤ (2 : Int)) : a3 + 3 * a2 + 12 * a0 < 24 := by omega
theorem ob_897 {a0 a1 a2 a3 : Int} (h0 : ((a0 = (3 : Int)) ∧ (a1 ≤ a2 + 3)) ∨ (a0 + a2 = a1)) (h1 : a3 < a0) : (a3 ≤ (2 : Int)) ∨ (a3 + a2 + 1 ≤ a1) := by omega
theorem ob_898 {a0 a1 : Int} (h0 : 0 ≤ a0 ∧ a0 ≤ 4) (h1 : (0 : Int) ≤ a1) (h2 : a1 + 1 ≤ a0) : a1 + 1 ≤ a0 := by omega
theorem ob_899 {a0 : Int} (h0 : a0 = 0) : a0 ≤ (2 : Int) := by omega
theorem ob_900 {a0 a1 a2 : Int} (h0 : a0 ≤ (8 : Int)) (h1 : a1 < a0) (h2 : a2 = a1 + 1) : a2 ≤ (8 : Int) := by omega
theorem ob_901 {a0 a1 a2 : Int} (h0 : (a0 ≤ (0 : Int)) ∨ (a0 + a2 + 3 ≤ a1)) : (a0 ≤ (2 : Int)) ∨ (a0 + a2 + 1 ≤ a1) := by omega
theorem ob_902 {a0 a1 a2 : Int} (h0 : (a0 ≤ (0 : Int)) ∨ (a0 + a2 + 3 ≤ a1)) (h1 : 0 ≤ a1 ∧ a1 ≤ 8) (h2 : 0 ≤ a2 ∧ a2 ≤ 99) : a0 + 1 ≤ 2147483647 := by omega
theorem ob_903 {a0 a1 a2 a3 : Int} (h0 : (a0 ≤ (0 : Int)) ∨ (a0 + a2 + 3 ≤ a1)) (h1 : a3 = a0 + 1) : (a3 ≤ (2 : Int)) ∨ (a3 + a2 + 1 ≤ a1) := by omega
theorem ob_904 {a0 : Int} (h0 : (0 : Int) ≤ a0) : (-2147483648) ≤ a0 + 2 := by omega
theorem ob_905 {a0 a1 a2 : Int} (h0 : (a0 ≤ (0 : Int)) ∨ (a0 + a2 + 3 ≤ a1)) (h1 : 0 ≤ a1 ∧ a1 ≤ 8) (h2 : 0 ≤ a2 ∧ a2 ≤ 99) : a0 + 2 ≤ 2147483647 := by omega
theorem ob_906 {a0 a1 : Int} (h0 : a0 = a1 + 2) : a0 = a1 + 2 := by omega
theorem ob_907 {a0 a1 : Int} (h0 : (0 : Int) ≤ a0) (h1 : a1 = a0 + 2) : (0 : Int) ≤ a1 := by omega
theorem ob_908 {a0 a1 a2 a3 : Int} (h0 : (a0 ≤ (0 : Int)) ∨ (a0 + a2 + 3 ≤ a1)) (h1 : a3 = a0 + 2) : (a3 ≤ (2 : Int)) ∨ (a3 + a2 + 1 ≤ a1) := by omega
theorem ob_909 {a0 : Int} (h0 : -1 * a0 + 6 < 0) (h1 : (0 : Int) ≤ a0) (h2 : a0 ≤ (6 : Int)) : False := by omega
theorem ob_910 {a0 a1 : Int} (h0 : (0 : Int) ≤ a0) (h1 : a0 ≤ (6 : Int)) (h2 : -1 * a0 + 6 < a1 + 1) : (-2147483648) ≤ a0 + 2 := by omega
theorem ob_911 {a0 a1 : Int} (h0 : (0 : Int) ≤ a0) (h1 : a0 ≤ (6 : Int)) (h2 : -1 * a0 + 6 < a1 + 1) : a0 + 2 ≤ 2147483647 := by omega
theorem ob_912 {a0 a1 a2 a3 a4 : Int} (h0 : ((a0 = (3 : Int)) ∧ (a1 ≤ a2 + 3)) ∨ (a0 + a2 = a1)) (h1 : a3 < a0) (h2 : a3 = a4 + 2) : (a4 ≤ (0 : Int)) ∨ (a4 + a2 + 3 ≤ a1) := by omega
theorem ob_913 {a0 : Int} (h0 : a0 ≤ (6 : Int)) : a0 + 1 ≤ 2147483647 := by omega
theorem ob_914 {a0 a1 a2 a3 : Int} (h0 : a0 ≤ (8 : Int)) (h1 : a1 < a0) (h2 : a1 = a2 + 2) (h3 : a3 = a2 + 1) : a3 ≤ (6 : Int) := by omega
theorem ob_915 {a0 a1 a2 : Int} (h0 : -1 * a0 + 6 < a1 + 1) (h1 : a2 = a0 + 1) : -1 * a2 + 6 < a1 := by omega
theorem ob_916 {a0 : Int} (h0 : a0 = 0) : 0 ≤ -1 * a0 + 6 := by omega
theorem ob_917 {a0 a1 : Int} (h0 : 0 ≤ a0 ∧ a0 ≤ 5) (h1 : (0 : Int) ≤ a1) (h2 : a1 + 1 ≤ a0) : 10 + a1 ≤ 2147483647 := by omega
theorem ob_918 {a0 a1 : Int} (h0 : 0 ≤ a0 ∧ a0 ≤ 5) (h1 : (0 : Int) ≤ a1) (h2 : a1 + 1 ≤ a0) : a1 + 10 < 26 := by omega
theorem ob_919 {a0 a1 : Int} (h0 : 0 ≤ a0 ∧ a0 ≤ 5) (h1 : (0 : Int) ≤ a1) (h2 : a1 + 1 ≤ a0) : 10 ≤ (a1 + 10) % 26 := by omega
theorem ob_920 {a0 a1 : Int} (h0 : 0 ≤ a0 ∧ a0 ≤ 5) (h1 : (0 : Int) ≤ a1) (h2 : a1 + 1 ≤ a0) : (a1 + 10) % 26 < 15 := by omega
theorem ob_921 {a0 a1 : Int} (h0 : (0 : Int) ≤ a0) (h1 : a0 + 1 ≤ a1) : (-2147483648) ≤ 20 + a0 := by omega
theorem ob_922 {a0 a1 : Int} (h0 : 0 ≤ a0 ∧ a0 ≤ 4) (h1 : (0 : Int) ≤ a1) (h2 : a1 + 1 ≤ a0) : 20 + a1 ≤ 2147483647 := by omega
theorem ob_923 {a0 a1 : Int} (h0 : (0 : Int) ≤ a0) (h1 : a0 + 1 ≤ a1) : 0 ≤ a0 + 20 := by omega
theorem ob_924 {a0 a1 : Int} (h0 : 0 ≤ a0 ∧ a0 ≤ 4) (h1 : (0 : Int) ≤ a1) (h2 : a1 + 1 ≤ a0) : a1 + 20 < 26 := by omega
theorem ob_925 {a0 : Int} (h0 : -1 * a0 + 1120 < 0) (h1 : a0 ≤ (1120 : Int)) : False := by omega
theorem ob_926 : 0 ≤ (0 : Int) := by omega
theorem ob_927 : (0 : Int) < 60 := by omega
theorem ob_928 {a0 a1 : Int} (h0 : a0 ≤ (1120 : Int)) (h1 : a1 < a0) : a1 < 1120 := by omega
theorem ob_929 {a0 a1 : Int} (h0 : a1 < a0) : a1 < a0 := by omega
theorem ob_930 {a0 a1 : Int} (h0 : a0 ≠ 126 → (a0 < 97 ∨ 122 < a0) → 2 ≤ a1) (h1 : a0 ≠ 126) : ((a0 ≤ (96 : Int)) ∨ ((123 : Int) ≤ a0)) → ((2 : Int) ≤ a1) := by omega
theorem ob_931 {a0 a1 : Int} (h0 : (0 : Int) ≤ a0 + 1) (h1 : a0 ≤ (61 : Int)) (h2 : a0 = a1) : (-2147483648) ≤ a0 + (-1) := by omega
theorem ob_932 {a0 a1 : Int} (h0 : (0 : Int) ≤ a0 + 1) (h1 : a0 ≤ (61 : Int)) (h2 : a0 = a1) : a0 + (-1) ≤ 2147483647 := by omega
theorem ob_933 {a0 a1 a2 : Int} (h0 : (0 : Int) ≤ a0 + 1) (h1 : a0 ≤ (61 : Int)) (h2 : a0 = a1) (h3 : a2 = a0 + (-1)) : (-2147483648) ≤ a2 - 1 := by omega
theorem ob_934 {a0 a1 a2 : Int} (h0 : (0 : Int) ≤ a0 + 1) (h1 : a0 ≤ (61 : Int)) (h2 : a0 = a1) (h3 : a2 = a0 + (-1)) : a2 - 1 ≤ 2147483647 := by omega
theorem ob_935 {a0 a1 a2 : Int} (h0 : a0 = a1 - 1) (h1 : a1 = a2 + (-1)) : a0 = a2 + (-2) := by omega
theorem ob_936 {a0 a1 a2 a3 : Int} (h0 : a0 = a1) (h1 : a2 ≠ 126 → (a2 < 97 ∨ 122 < a2) → 2 ≤ a1) (h2 : a2 ≠ 126) (h3 : ((a2 ≤ (96 : Int)) ∧ (a3 = (0 : Int))) ∨ (((97 : Int) ≤ a2) ∧ ((123 : Int) ≤ a2) ∧ (a3 = (0 : Int))) ∨ (((97 : Int) ≤ a2) ∧ (a2 ≤ (122 : Int)) ∧ (a3 = (1 : Int)))) (h4 : a3 = 0) : 0 ≤ a0 + (-2) := by omega
theorem ob_937 {a0 a1 : Int} (h0 : (0 : Int) ≤ a0 + 1) (h1 : a0 ≤ (61 : Int)) (h2 : a0 = a1) : a0 + (-2) < 60 := by omega
theorem ob_938 {a0 a1 a2 a3 : Int} (h0 : a0 = a1) (h1 : a2 = 126 → 1 ≤ a1) (h2 : a2 ≠ 126 → (a2 < 97 ∨ 122 < a2) → 2 ≤ a1) (h3 : ((a2 ≤ (96 : Int)) ∧ (a3 = (0 : Int))) ∨ (((97 : Int) ≤ a2) ∧ ((123 : Int) ≤ a2) ∧ (a3 = (0 : Int))) ∨ (((97 : Int) ≤ a2) ∧ (a2 ≤ (122 : Int)) ∧ (a3 = (1 : Int)))) (h4 : a3 = 0) : 0 ≤ a0 + (-1) := by omega
theorem ob_939 {a0 a1 : Int} (h0 : a0 = a1) (h1 : a1 ≤ 60) : a0 + (-1) < 60 := by omega
theorem ob_940 {a0 : Int} (h0 : a0 ≤ (1120 : Int)) : a0 + 1 ≤ 2147483647 := by omega
theorem ob_941 {a0 a1 a2 : Int} (h0 : a0 = a1) (h1 : 0 ≤ a1) (h2 : a2 = a0 + (-1)) : (0 : Int) ≤ a2 + 1 := by omega
theorem ob_942 {a0 a1 a2 : Int} (h0 : (0 : Int) ≤ a0 + 1) (h1 : a0 ≤ (61 : Int)) (h2 : a0 = a1) (h3 : a2 = a0 + (-1)) : a2 ≤ (61 : Int) := by omega
theorem ob_943 {a0 a1 a2 : Int} (h0 : a0 ≤ (1120 : Int)) (h1 : a1 < a0) (h2 : a2 = a1 + 1) : a2 ≤ (1120 : Int) := by omega
theorem ob_944 {a0 a1 a2 a3 a4 a5 a6 : Int} (h0 : a0 = a1) (h1 : (a2 = 126 ∧ a3 = a1) ∨ (97 ≤ a2 ∧ a2 ≤ 122 ∧ a3 = a1 + 1) ∨ (a2 ≠ 126 ∧ (a2 < 97 ∨ 122 < a2) ∧ a3 = a1 + -1)) (h2 : a2 ≠ 126) (h3 : ((a2 ≤ (96 : Int)) ∧ (a4 = (0 : Int))) ∨ (((97 : Int) ≤ a2) ∧ ((123 : Int) ≤ a2) ∧ (a4 = (0 : Int))) ∨ (((97 : Int) ≤ a2) ∧ (a2 ≤ (122 : Int)) ∧ (a4 = (1 : Int)))) (h4 : a4 = 0) (h5 : a5 = a3) (h6 : a6 = a0 + (-1)) : a6 = a5 := by omega
theorem ob_945 {a0 a1 a2 : Int} (h0 : -1 * a0 + 1120 < a1 + 1) (h1 : a2 = a0 + 1) : -1 * a2 + 1120 < a1 := by omega
theorem ob_946 {a0 a1 : Int} (h0 : ((a0 ≤ (96 : Int)) ∧ (a1 = (0 : Int))) ∨ (((97 : Int) ≤ a0) ∧ ((123 : Int) ≤ a0) ∧ (a1 = (0 : Int))) ∨ (((97 : Int) ≤ a0) ∧ (a0 ≤ (122 : Int)) ∧ (a1 = (1 : Int)))) (h1 : a1 ≠ 0) : (97 : Int) ≤ a0 := by omega
theorem ob_947 {a0 a1 : Int} (h0 : ((a0 ≤ (96 : Int)) ∧ (a1 = (0 : Int))) ∨ (((97 : Int) ≤ a0) ∧ ((123 : Int) ≤ a0) ∧ (a1 = (0 : Int))) ∨ (((97 : Int) ≤ a0) ∧ (a0 ≤ (122 : Int)) ∧ (a1 = (1 : Int)))) (h1 : a1 ≠ 0) : a0 ≤ (122 : Int) := by omega
theorem ob_948 {a0 a1 : Int} (h0 : ((a0 ≤ (96 : Int)) ∧ (a1 = (0 : Int))) ∨ (((97 : Int) ≤ a0) ∧ ((123 : Int) ≤ a0) ∧ (a1 = (0 : Int))) ∨ (((97 : Int) ≤ a0) ∧ (a0 ≤ (122 : Int)) ∧ (a1 = (1 : Int)))) (h1 : a1 ≠ 0) : a1 = (1 : Int) := by omega
theorem ob_949 {a0 a1 : Int} (h0 : a0 = a1) (h1 : 0 ≤ a1) : 0 ≤ a0 := by omega
theorem ob_950 {a0 a1 a2 : Int} (h0 : a0 = a1) (h1 : 97 ≤ a2 → a2 ≤ 122 → a1 ≤ 59) (h2 : (97 : Int) ≤ a2) (h3 : a2 ≤ (122 : Int)) : a0 < 60 := by omega
theorem ob_951 {a0 a1 : Int} (h0 : (0 : Int) ≤ a0 + 1) (h1 : a0 ≤ (61 : Int)) (h2 : a0 = a1) : (-2147483648) ≤ a0 + 1 := by omega
theorem ob_952 {a0 a1 : Int} (h0 : (0 : Int) ≤ a0 + 1) (h1 : a0 ≤ (61 : Int)) (h2 : a0 = a1) : a0 + 1 ≤ 2147483647 := by omega
theorem ob_953 {a0 a1 a2 : Int} (h0 : (0 : Int) ≤ a0 + 1) (h1 : a0 ≤ (61 : Int)) (h2 : a0 = a1) (h3 : a2 = a0 + 1) : (0 : Int) ≤ a2 + 1 := by omega
theorem ob_954 {a0 a1 a2 : Int} (h0 : a0 = a1) (h1 : a1 ≤ 60) (h2 : a2 = a0 + 1) : a2 ≤ (61 : Int) := by omega
theorem ob_955 {a0 a1 a2 a3 a4 a5 : Int} (h0 : a0 = a1) (h1 : (a2 = 126 ∧ a3 = a1) ∨ (97 ≤ a2 ∧ a2 ≤ 122 ∧ a3 = a1 + 1) ∨ (a2 ≠ 126 ∧ (a2 < 97 ∨ 122 < a2) ∧ a3 = a1 + -1)) (h2 : (97 : Int) ≤ a2) (h3 : a2 ≤ (122 : Int)) (h4 : a4 = a3) (h5 : a5 = a0 + 1) : a5 = a4 := by omega
theorem ob_956 {a0 : Int} (h0 : a0 = 126) : a0 = (126 : Int) := by omega
theorem ob_957 {a0 a1 a2 : Int} (h0 : (a0 = 126 ∧ a1 = a2) ∨ (97 ≤ a0 ∧ a0 ≤ 122 ∧ a1 = a2 + 1) ∨ (a0 ≠ 126 ∧ (a0 < 97 ∨ 122 < a0) ∧ a1 = a2 + -1)) (h1 : a0 = 126) : a1 = a2 := by omega
theorem ob_958 {a0 a1 a2 : Int} (h0 : (a0 = 126 ∧ a1 = a2) ∨ (97 ≤ a0 ∧ a0 ≤ 122 ∧ a1 = a2 + 1) ∨ (a0 ≠ 126 ∧ (a0 < 97 ∨ 122 < a0) ∧ a1 = a2 + -1)) (h1 : a0 = 126 → 1 ≤ a2) (h2 : a1 = a2) : (1 : Int) ≤ a2 := by omega
theorem ob_959 {a0 a1 : Int} (h0 : a0 = 126) : (a0 ≤ (122 : Int)) → (a1 ≤ (59 : Int)) := by omega
theorem ob_960 {a0 a1 : Int} (h0 : (0 : Int) ≤ a0 + 1) (h1 : a0 ≤ (61 : Int)) (h2 : a0 = a1) : (-2147483648) ≤ a0 - 1 := by omega
theorem ob_961 {a0 a1 : Int} (h0 : (0 : Int) ≤ a0 + 1) (h1 : a0 ≤ (61 : Int)) (h2 : a0 = a1) : a0 - 1 ≤ 2147483647 := by omega
theorem ob_962 {a0 a1 : Int} (h0 : a0 = a1) (h1 : (1 : Int) ≤ a1) : 0 ≤ a0 + (-1) := by omega
theorem ob_963 {a0 a1 : Int} (h0 : (0 : Int) ≤ a0 + 1) (h1 : a0 ≤ (61 : Int)) (h2 : a0 = a1) : (0 : Int) ≤ a0 + 1 := by omega
theorem ob_964 {a0 a1 : Int} (h0 : (0 : Int) ≤ a0 + 1) (h1 : a0 ≤ (61 : Int)) (h2 : a0 = a1) : a0 ≤ (61 : Int) := by omega
theorem ob_965 {a0 a1 a2 a3 : Int} (h0 : a0 = a1) (h1 : a2 = a1) (h2 : a3 = a2) : a0 = a3 := by omega
theorem ob_966 {a0 : Int} (h0 : a0 = 0) : (0 : Int) ≤ a0 + 1 := by omega
theorem ob_967 {a0 : Int} (h0 : a0 = 0) : a0 ≤ (61 : Int) := by omega
theorem ob_968 {a0 : Int} (h0 : (0 : Int) ≤ a0) (h1 : a0 ≤ (1120 : Int)) : (0 : Int) ≤ a0 := by omega
theorem ob_969 {a0 : Int} (h0 : (0 : Int) ≤ a0) (h1 : a0 ≤ (1120 : Int)) : a0 ≤ (1120 : Int) := by omega
theorem ob_970 {a0 : Int} (h0 : (0 : Int) ≤ a0) (h1 : a0 ≤ (1120 : Int)) : 0 ≤ -1 * a0 + 1120 := by omega
theorem ob_971 {a0 a1 a2 a3 : Int} (h0 : a0 < a1) (h1 : a2 = 0) : ((a0 + 1 ≤ a1) ∧ (a2 = (0 : Int))) ∨ ((a1 ≤ a0) ∧ (a3 + 1 ≤ a0) ∧ (a2 = (0 : Int))) ∨ ((a1 ≤ a0) ∧ (a0 ≤ a3) ∧ (a2 = (1 : Int))) := by omega
theorem ob_972 {a0 a1 a2 a3 : Int} (h0 : a1 ≤ a0) (h1 : a2 < a0) (h2 : a3 = 0) : ((a0 + 1 ≤ a1) ∧ (a3 = (0 : Int))) ∨ ((a1 ≤ a0) ∧ (a2 + 1 ≤ a0) ∧ (a3 = (0 : Int))) ∨ ((a1 ≤ a0) ∧ (a0 ≤ a2) ∧ (a3 = (1 : Int))) := by omega
theorem ob_973 {a0 a1 a2 a3 : Int} (h0 : a1 ≤ a0) (h1 : a0 ≤ a2) (h2 : a3 = 1) : ((a0 + 1 ≤ a1) ∧ (a3 = (0 : Int))) ∨ ((a1 ≤ a0) ∧ (a2 + 1 ≤ a0) ∧ (a3 = (0 : Int))) ∨ ((a1 ≤ a0) ∧ (a0 ≤ a2) ∧ (a3 = (1 : Int))) := by omega
theorem ob_974 {a0 : Int} (h0 : 0 ≤ a0) : (((0 : Int) ≤ a0) ∧ (a0 = a0)) ∨ ((a0 + 1 ≤ (0 : Int))) := by omega
theorem ob_975 {a0 a1 : Int} (h0 : a0 < 0) : (((0 : Int) ≤ a0) ∧ (a1 = a0)) ∨ ((a0 + 1 ≤ (0 : Int))) := by omega
theorem ob_976 {a0 a1 : Int} (h0 : 0 ≤ a0) (h1 : a0 < a1) : (0 : Int) ≤ a0 := by omega
theorem ob_977 {a0 a1 a2 : Int} (h0 : a0 < a1 + 1) (h1 : 0 ≤ a2) (h2 : a2 < a0) : a2 < a1 := by omega
theorem ob_978 {a0 : Int} (h0 : 0 ≤ a0) : (0 : Int) ≤ a0 := by omega
theorem ob_979 {a0 : Int} (h0 : 0 ≤ a0) : 0 ≤ a0 := by omega
theorem ob_980 {a0 a1 : Int} (h0 : (0 : Int) ≤ a0) (h1 : a0 < a1 + 1) (h2 : 0 < a0) : 1 ≤ a0 := by omega
theorem ob_981 {a0 : Int} (h0 : (1 : Int) ≤ a0) : 0 ≤ a0 := by omega
theorem ob_982 {a0 a1 a2 : Int} (h0 : (1 : Int) ≤ a0) (h1 : 0 ≤ a1 ∧ a1 < a2 ∧ a1 ≤ a0) : 0 ≤ a0 := by omega
theorem ob_983 {a0 a1 a2 a3 : Int} (h0 : 0 ≤ a0 ∧ a0 < a1 ∧ a0 ≤ a2) (h1 : a0 = a3) : (0 : Int) ≤ a0 := by omega
theorem ob_984 {a0 a1 a2 a3 a4 : Int} (h0 : a0 < a1 + 1) (h1 : 0 ≤ a2 ∧ a2 < a0 ∧ a2 ≤ a3) (h2 : a2 = a4) : a2 < a1 := by omega
theorem ob_985 {a0 : Int} (h0 : (0 : Int) ≤ a0) (h1 : a0 ≤ (4 : Int)) (h2 : a0 ≤ 0) : a0 = 0 := by omega
theorem ob_986 {a0 a1 : Int} (h0 : a0 = 1) (h1 : a1 = 1) : a1 = a0 := by omega
theorem ob_987 {a0 : Int} (h0 : a0 = 1) : a0 ≤ (100000000 : Int) := by omega
theorem ob_988 {a0 : Int} (h0 : (0 : Int) ≤ a0) (h1 : a0 ≤ (100 : Int)) : (-2147483648) ≤ 1 * a0 := by omega
theorem ob_989 {a0 : Int} (h0 : (0 : Int) ≤ a0) (h1 : a0 ≤ (100 : Int)) : 1 * a0 ≤ 2147483647 := by omega
theorem ob_990 {a0 a1 : Int} (h0 : a0 = 1 * a1) : a0 = a1 := by omega
theorem ob_991 {a0 : Int} (h0 : 0 < a0) (h1 : a0 ≤ 1) : a0 = 1 := by omega
theorem ob_992 {a0 a1 a2 : Int} (h0 : (0 : Int) ≤ a0) (h1 : a0 ≤ (100 : Int)) (h2 : a1 = a0) (h3 : a2 = a0) : a2 = a1 := by omega
theorem ob_993 {a0 a1 : Int} (h0 : (0 : Int) ≤ a0) (h1 : a0 ≤ (100 : Int)) (h2 : a1 = a0) : (0 : Int) ≤ a1 := by omega
theorem ob_994 {a0 a1 : Int} (h0 : (0 : Int) ≤ a0) (h1 : a0 ≤ (100 : Int)) (h2 : a1 = a0) : a1 ≤ (100000000 : Int) := by omega
theorem ob_995 {a0 a1 : Int} (h0 : (0 : Int) ≤ a0) (h1 : a0 ≤ (100 : Int)) (h2 : a1 = a0) : 0 ≤ a1 := by omega
theorem ob_996 {a0 a1 : Int} (h0 : (0 : Int) ≤ a0) (h1 : a0 ≤ (100 : Int)) (h2 : a1 = a0) : a1 ≤ 100 := by omega
theorem ob_997 {a0 : Int} (h0 : (0 : Int) ≤ a0) (h1 : a0 ≤ (100 : Int)) : 0 ≤ a0 := by omega
theorem ob_998 {a0 : Int} (h0 : (0 : Int) ≤ a0) (h1 : a0 ≤ (100 : Int)) : a0 ≤ 100 := by omega
theorem ob_999 {a0 : Int} (h0 : 1 < a0) (h1 : a0 ≤ 2) : a0 = 2 := by omega
theorem ob_1000 {a0 a1 a2 : Int} (h0 : 0 * 0 ≤ a0 ∧ a0 ≤ 100 * 100) (h1 : a1 = a2) (h2 : a0 = a2) : a0 = a1 := by omega
theorem ob_1001 {a0 a1 a2 : Int} (h0 : 0 * 0 ≤ a0 ∧ a0 ≤ 100 * 100) (h1 : a1 = a2) (h2 : a0 = a2) : (0 : Int) ≤ a1 := by omega
theorem ob_1002 {a0 a1 a2 : Int} (h0 : 0 * 0 ≤ a0 ∧ a0 ≤ 100 * 100) (h1 : a1 = a2) (h2 : a0 = a2) : a1 ≤ (100000000 : Int) := by omega
theorem ob_1003 {a0 a1 : Int} (h0 : 0 * 0 ≤ a0 ∧ a0 ≤ 100 * 100) (h1 : a0 = a1) : 0 ≤ a0 := by omega
theorem ob_1004 {a0 a1 : Int} (h0 : 0 * 0 ≤ a0 ∧ a0 ≤ 100 * 100) (h1 : a0 = a1) : a0 ≤ 10000 := by omega
theorem ob_1005 {a0 : Int} (h0 : 2 < a0) (h1 : a0 ≤ 3) : a0 = 3 := by omega
theorem ob_1006 {a0 a1 a2 : Int} (h0 : 0 * 0 ≤ a0 ∧ a0 ≤ 10000 * 100) (h1 : a1 = a2) (h2 : a0 = a2) : a0 = a1 := by omega
theorem ob_1007 {a0 a1 a2 : Int} (h0 : 0 * 0 ≤ a0 ∧ a0 ≤ 10000 * 100) (h1 : a1 = a2) (h2 : a0 = a2) : (0 : Int) ≤ a1 := by omega
theorem ob_1008 {a0 a1 a2 : Int} (h0 : 0 * 0 ≤ a0 ∧ a0 ≤ 10000 * 100) (h1 : a1 = a2) (h2 : a0 = a2) : a1 ≤ (100000000 : Int) := by omega
theorem ob_1009 {a0 a1 : Int} (h0 : 0 * 0 ≤ a0 ∧ a0 ≤ 10000 * 100) (h1 : a0 = a1) : 0 ≤ a0 := by omega
theorem ob_1010 {a0 a1 : Int} (h0 : 0 * 0 ≤ a0 ∧ a0 ≤ 10000 * 100) (h1 : a0 = a1) : a0 ≤ 1000000 := by omega
theorem ob_1011 {a0 : Int} (h0 : 4 < a0) (h1 : a0 ≤ (4 : Int)) : False := by omega
theorem ob_1012 {a0 : Int} (h0 : a0 ≤ (4 : Int)) (h1 : 3 < a0) : a0 = 4 := by omega
theorem ob_1013 {a0 a1 a2 : Int} (h0 : 0 * 0 ≤ a0 ∧ a0 ≤ 1000000 * 100) (h1 : a1 = a2) (h2 : a0 = a2) : a0 = a1 := by omega
theorem ob_1014 {a0 a1 a2 : Int} (h0 : 0 * 0 ≤ a0 ∧ a0 ≤ 1000000 * 100) (h1 : a1 = a2) (h2 : a0 = a2) : (0 : Int) ≤ a1 := by omega
theorem ob_1015 {a0 a1 a2 : Int} (h0 : 0 * 0 ≤ a0 ∧ a0 ≤ 1000000 * 100) (h1 : a1 = a2) (h2 : a0 = a2) : a1 ≤ (100000000 : Int) := by omega
theorem ob_1016 {a0 a1 : Int} (h0 : 0 ≤ a0 ∧ a0 ≤ 5) (h1 : a1 = a0) : (-2147483648) ≤ a1 - 1 := by omega
theorem ob_1017 {a0 a1 : Int} (h0 : 0 ≤ a0 ∧ a0 ≤ 5) (h1 : a1 = a0) : a1 - 1 ≤ 2147483647 := by omega
theorem ob_1018 {a0 a1 a2 : Int} (h0 : a0 = a1 - 1) (h1 : a1 = a2) : a0 = a2 + (-1) := by omega
theorem ob_1019 {a0 a1 a2 a3 a4 : Int} (h0 : ((a0 + 1 ≤ a1) ∧ (a2 = (0 : Int))) ∨ ((a1 ≤ a0) ∧ (a3 + 1 ≤ a0) ∧ (a2 = (0 : Int))) ∨ ((a1 ≤ a0) ∧ (a0 ≤ a3) ∧ (a2 = (1 : Int)))) (h1 : a3 = a4 + (-1)) (h2 : a1 = 0) : ((a0 + 1 ≤ (0 : Int)) ∧ (a2 = (0 : Int))) ∨ (((0 : Int) ≤ a0) ∧ (a4 ≤ a0) ∧ (a2 = (0 : Int))) ∨ (((0 : Int) ≤ a0) ∧ (a0 + 1 ≤ a4) ∧ (a2 = (1 : Int))) := by omega
theorem ob_1020 {a0 a1 : Int} (h0 : 0 ≤ a0 ∧ a0 ≤ 4) (h1 : a1 = a0) : (-2147483648) ≤ a1 - 1 := by omega
theorem ob_1021 {a0 a1 : Int} (h0 : 0 ≤ a0 ∧ a0 ≤ 4) (h1 : a1 = a0) : a1 - 1 ≤ 2147483647 := by omega
theorem ob_1022 {a0 a1 : Int} (h0 : a0 < 0) (h1 : a1 = 0) : ((a0 + 1 ≤ (0 : Int)) ∧ (a1 = (0 : Int))) ∨ (((0 : Int) ≤ a0) ∧ ((7 : Int) ≤ a0) ∧ (a1 = (0 : Int))) ∨ (((0 : Int) ≤ a0) ∧ (a0 ≤ (6 : Int)) ∧ (a1 = (1 : Int))) := by omega
theorem ob_1023 {a0 a1 : Int} (h0 : 0 ≤ a0) (h1 : 7 ≤ a0) (h2 : a1 = 0) : ((a0 + 1 ≤ (0 : Int)) ∧ (a1 = (0 : Int))) ∨ (((0 : Int) ≤ a0) ∧ ((7 : Int) ≤ a0) ∧ (a1 = (0 : Int))) ∨ (((0 : Int) ≤ a0) ∧ (a0 ≤ (6 : Int)) ∧ (a1 = (1 : Int))) := by omega
theorem ob_1024 {a0 a1 : Int} (h0 : 0 ≤ a0) (h1 : a0 < 7) (h2 : a1 = 1) : ((a0 + 1 ≤ (0 : Int)) ∧ (a1 = (0 : Int))) ∨ (((0 : Int) ≤ a0) ∧ ((7 : Int) ≤ a0) ∧ (a1 = (0 : Int))) ∨ (((0 : Int) ≤ a0) ∧ (a0 ≤ (6 : Int)) ∧ (a1 = (1 : Int))) := by omega
theorem ob_1025 {a0 a1 a2 : Int} (h0 : a0 ≤ (1 : Int)) (h1 : 0 ≤ a1 ∧ a1 ≤ 4) (h2 : a2 + 1 ≤ a1) : a2 + 4 * a0 < 8 := by omega
theorem ob_1026 {a0 : Int} : (a0) % 26 = (a0) % 26 := by omega
theorem ob_1027 {a0 a1 : Int} (h0 : (0 : Int) ≤ a0) (h1 : a0 + 1 ≤ a1) : (-2147483648) ≤ 0 + a0 := by omega
theorem ob_1028 {a0 a1 : Int} (h0 : 0 ≤ a0 ∧ a0 ≤ 5) (h1 : (0 : Int) ≤ a1) (h2 : a1 + 1 ≤ a0) : 0 + a1 ≤ 2147483647 := by omega
theorem ob_1029 {a0 a1 : Int} (h0 : (0 : Int) ≤ a0) (h1 : a0 + 1 ≤ a1) : 0 ≤ a0 := by omega
theorem ob_1030 {a0 a1 : Int} (h0 : 0 ≤ a0 ∧ a0 ≤ 5) (h1 : (0 : Int) ≤ a1) (h2 : a1 + 1 ≤ a0) : a1 < 26 := by omega
theorem ob_1031 {a0 a1 : Int} (h0 : a0 ≠ (-1)) (h1 : a1 = 0) : ((a0 + 1 ≠ (0 : Int)) ∧ (a1 = (0 : Int))) ∨ ((a0 + 1 = (0 : Int)) ∧ (a1 = (1 : Int))) := by omega
theorem ob_1032 {a0 a1 : Int} (h0 : a0 = (-1)) (h1 : a1 = 1) : ((a0 + 1 ≠ (0 : Int)) ∧ (a1 = (0 : Int))) ∨ ((a0 + 1 = (0 : Int)) ∧ (a1 = (1 : Int))) := by omega
theorem ob_1033 {a0 a1 a2 : Int} (h0 : a0 < 0) (h1 : a1 = 0) : ((a0 + 1 ≤ (0 : Int)) ∧ (a1 = (0 : Int))) ∨ (((0 : Int) ≤ a0) ∧ (a2 ≠ (0 : Int)) ∧ (a1 = (0 : Int))) ∨ (((0 : Int) ≤ a0) ∧ (a2 = (0 : Int)) ∧ (a1 = (1 : Int))) := by omega
theorem ob_1034 {a0 a1 : Int} (h0 : (0 : Int) ≤ a0) (h1 : a0 + 1 ≤ a1) : (-2147483648) ≤ 5 + a0 := by omega
theorem ob_1035 {a0 a1 : Int} (h0 : 0 ≤ a0 ∧ a0 ≤ 5) (h1 : (0 : Int) ≤ a1) (h2 : a1 + 1 ≤ a0) : 5 + a1 ≤ 2147483647 := by omega
theorem ob_1036 {a0 a1 : Int} (h0 : a0 = 5 + a1) : a0 = a1 + 5 := by omega
theorem ob_1037 {a0 a1 : Int} (h0 : (0 : Int) ≤ a0) (h1 : a0 + 1 ≤ a1) : 0 ≤ a0 + 5 := by omega
theorem ob_1038 {a0 a1 : Int} (h0 : 0 ≤ a0 ∧ a0 ≤ 5) (h1 : (0 : Int) ≤ a1) (h2 : a1 + 1 ≤ a0) : a1 + 5 < 26 := by omega
theorem ob_1039 {a0 a1 a2 : Int} (h0 : 0 ≤ a0) (h1 : a1 ≠ 0) (h2 : a2 = 0) : ((a0 + 1 ≤ (0 : Int)) ∧ (a2 = (0 : Int))) ∨ (((0 : Int) ≤ a0) ∧ (a1 ≠ (0 : Int)) ∧ (a2 = (0 : Int))) ∨ (((0 : Int) ≤ a0) ∧ (a1 = (0 : Int)) ∧ (a2 = (1 : Int))) := by omega
theorem ob_1040 {a0 a1 a2 : Int} (h0 : 0 ≤ a0) (h1 : a1 = 0) (h2 : a2 = 1) : ((a0 + 1 ≤ (0 : Int)) ∧ (a2 = (0 : Int))) ∨ (((0 : Int) ≤ a0) ∧ (a1 ≠ (0 : Int)) ∧ (a2 = (0 : Int))) ∨ (((0 : Int) ≤ a0) ∧ (a1 = (0 : Int)) ∧ (a2 = (1 : Int))) := by omega
theorem ob_1041 {a0 a1 a2 : Int} (h0 : a0 ≤ a1) (h1 : a0 = a2) : a2 ≤ a1 := by omega
theorem ob_1042 {a0 : Int} (h0 : a0 = (-1)) : (0 : Int) ≤ a0 + 1 := by omega
theorem ob_1043 {a0 a1 a2 a3 : Int} (h0 : 0 ≤ a0 ∧ a0 ≤ 5) (h1 : a1 ≤ a2) (h2 : a1 = a0) (h3 : a3 = (-1)) : a3 + 1 ≤ a0 := by omega
theorem ob_1044 {a0 a1 a2 : Int} (h0 : a0 = a1) (h1 : a1 = -1) (h2 : a2 = (-1)) : a2 = a0 := by omega
theorem ob_1045 {a0 : Int} (h0 : a0 ≤ (5 : Int)) : a0 ≤ 5 := by omega
theorem ob_1046 {a0 a1 a2 : Int} (h0 : a1 < a0) (h1 : a0 = a2) : a1 < a2 := by omega
theorem ob_1047 {a0 a1 a2 a3 : Int} (h0 : 0 ≤ a0 ∧ a0 ≤ 5) (h1 : a2 < a1) (h2 : a1 = a0) (h3 : a3 = a2 + 1) : a3 ≤ (5 : Int) := by omega
theorem ob_1048 {a0 a1 a2 a3 : Int} (h0 : a0 = a1) (h1 : a1 = a2) (h2 : a3 = a2) : a0 = a3 := by omega
theorem ob_1049 {a0 : Int} (h0 : (0 : Int) ≤ a0) : (-2147483648) ≤ 5 + a0 := by omega
theorem ob_1050 {a0 : Int} (h0 : a0 ≤ (5 : Int)) : 5 + a0 ≤ 2147483647 := by omega
theorem ob_1051 {a0 : Int} (h0 : (0 : Int) ≤ a0) : 0 ≤ a0 + 5 := by omega
theorem ob_1052 {a0 : Int} (h0 : a0 ≤ (5 : Int)) : a0 + 5 < 26 := by omega
theorem ob_1053 {a0 : Int} (h0 : (0 : Int) ≤ a0) : (0 : Int) ≤ a0 + 1 := by omega
theorem ob_1054 {a0 a1 a2 : Int} (h0 : a1 < a0) (h1 : a0 = a2) : a1 + 1 ≤ a2 := by omega
theorem ob_1055 {a0 a1 a2 : Int} (h0 : a0 = a1) (h1 : a1 = a2) : a2 = a0 := by omega
theorem ob_1056 {a0 : Int} (h0 : (0 : Int) ≤ a0) (h1 : a0 ≤ (1 : Int)) : (-2147483648) ≤ a0 * 3 := by omega
theorem ob_1057 {a0 : Int} (h0 : (0 : Int) ≤ a0) (h1 : a0 ≤ (1 : Int)) : a0 * 3 ≤ 2147483647 := by omega
theorem ob_1058 {a0 a1 : Int} (h0 : a0 = a1 * 3) : a0 = 3 * a1 := by omega
theorem ob_1059 {a0 : Int} (h0 : (0 : Int) ≤ a0) (h1 : a0 ≤ (1 : Int)) (h2 : (1 : Int) ≤ a0) : a0 = 1 := by omega
theorem ob_1060 {a0 a1 : Int} (h0 : a0 + 1 ≤ a1) : a0 + 1 ≤ a1 := by omega
theorem ob_1061 {a0 a1 a2 a3 : Int} (h0 : (0 : Int) ≤ a0) (h1 : a0 + 1 ≤ a1) (h2 : a2 = a0) (h3 : a2 = a3) : (-2147483648) ≤ 15 + a0 := by omega
theorem ob_1062 {a0 a1 : Int} (h0 : 0 ≤ a0 ∧ a0 ≤ 5) (h1 : a1 + 1 ≤ a0) : 15 + a1 ≤ 2147483647 := by omega
theorem ob_1063 {a0 a1 : Int} (h0 : a0 = 15 + a1) : a0 = a1 + 15 := by omega
theorem ob_1064 {a0 a1 a2 a3 : Int} (h0 : (0 : Int) ≤ a0) (h1 : a0 + 1 ≤ a1) (h2 : a2 = a0) (h3 : a2 = a3) : 0 ≤ a0 + 15 := by omega
theorem ob_1065 {a0 a1 : Int} (h0 : 0 ≤ a0 ∧ a0 ≤ 5) (h1 : a1 + 1 ≤ a0) : a1 + 15 < 26 := by omega
theorem ob_1066 {a0 a1 a2 a3 : Int} (h0 : (0 : Int) ≤ a0) (h1 : a0 + 1 ≤ a1) (h2 : a2 = a0) (h3 : a2 = a3) : (0 : Int) ≤ a0 := by omega
theorem ob_1067 {a0 a1 : Int} (h0 : 0 ≤ a0 ∧ a0 ≤ 5) (h1 : (0 : Int) ≤ a1) (h2 : a1 + 1 ≤ a0) : (a1) % 26 < 10 ∨ 15 ≤ (a1) % 26 := by omega
theorem ob_1068 {a0 a1 : Int} (h0 : 0 ≤ a0 ∧ a0 ≤ 5) (h1 : (0 : Int) ≤ a1) (h2 : a1 + 1 ≤ a0) : (a1 + 5) % 26 < 10 ∨ 15 ≤ (a1 + 5) % 26 := by omega
theorem ob_1069 {a0 a1 : Int} (h0 : (0 : Int) ≤ a0) (h1 : a0 + 1 ≤ a1) : (-2147483648) ≤ 15 + a0 := by omega
theorem ob_1070 {a0 a1 : Int} (h0 : 0 ≤ a0 ∧ a0 ≤ 5) (h1 : (0 : Int) ≤ a1) (h2 : a1 + 1 ≤ a0) : 15 + a1 ≤ 2147483647 := by omega
theorem ob_1071 {a0 a1 : Int} (h0 : (0 : Int) ≤ a0) (h1 : a0 + 1 ≤ a1) : 0 ≤ a0 + 15 := by omega
theorem ob_1072 {a0 a1 : Int} (h0 : 0 ≤ a0 ∧ a0 ≤ 5) (h1 : (0 : Int) ≤ a1) (h2 : a1 + 1 ≤ a0) : a1 + 15 < 26 := by omega
theorem ob_1073 {a0 a1 : Int} (h0 : 0 ≤ a0 ∧ a0 ≤ 5) (h1 : (0 : Int) ≤ a1) (h2 : a1 + 1 ≤ a0) : (a1 + 15) % 26 < 10 ∨ 15 ≤ (a1 + 15) % 26 := by omega
theorem ob_1074 {a0 : Int} (h0 : 0 ≤ a0 ∧ a0 ≤ 99) : (-2147483648) ≤ a0 + 1 := by omega
theorem ob_1075 {a0 : Int} (h0 : 0 ≤ a0 ∧ a0 ≤ 99) : a0 + 1 ≤ 2147483647 := by omega
theorem ob_1076 {a0 a1 a2 a3 a4 : Int} (h0 : ((a0 ≤ a1) ∧ (a1 ≤ a2) ∧ (a3 = a1)) ∨ ((a0 ≤ a1) ∧ (a2 + 1 ≤ a1) ∧ (a3 = a2)) ∨ ((a1 + 1 ≤ a0) ∧ (a3 = a0))) (h1 : a2 = 99) (h2 : a1 = a4 + 1) (h3 : a0 = 0) : 0 ≤ a3 := by omega
theorem ob_1077 {a0 a1 a2 a3 a4 : Int} (h0 : ((a0 ≤ a1) ∧ (a1 ≤ a2) ∧ (a3 = a1)) ∨ ((a0 ≤ a1) ∧ (a2 + 1 ≤ a1) ∧ (a3 = a2)) ∨ ((a1 + 1 ≤ a0) ∧ (a3 = a0))) (h1 : a2 = 99) (h2 : a1 = a4 + 1) (h3 : a0 = 0) : a3 ≤ 99 := by omega
theorem ob_1078 {a0 a1 : Int} (h0 : 0 ≤ a0 ∧ a0 ≤ 4) (h1 : (0 : Int) ≤ a1) (h2 : a1 + 1 ≤ a0) : (a1 + 20) % 26 < 10 ∨ 15 ≤ (a1 + 20) % 26 := by omega
theorem ob_1079 : 0 ≤ (24 : Int) := by omega
theorem ob_1080 : (24 : Int) < 26 := by omega
theorem ob_1081 : ((24 : Int)) % 26 < 10 ∨ 15 ≤ ((24 : Int)) % 26 := by omega
theorem ob_1082 {a0 a1 a2 : Int} (h0 : (0 : Int) ≤ a0 + 1) (h1 : a0 + 1 ≤ a1) (h2 : 0 ≤ a0) (h3 : a0 = a2) : (-2147483648) ≤ 15 + a0 := by omega
theorem ob_1083 {a0 a1 a2 : Int} (h0 : 0 ≤ a0 ∧ a0 ≤ 5) (h1 : a1 + 1 ≤ a0) (h2 : a1 = a2) : 15 + a1 ≤ 2147483647 := by omega
theorem ob_1084 {a0 a1 a2 : Int} (h0 : a0 = 15 + a1) (h1 : a1 = a2) : a0 = a2 + 15 := by omega
theorem ob_1085 {a0 a1 a2 : Int} (h0 : (0 : Int) ≤ a0 + 1) (h1 : a0 + 1 ≤ a1) (h2 : 0 ≤ a0) (h3 : a0 = a2) : 0 ≤ a2 + 15 := by omega
theorem ob_1086 {a0 a1 a2 : Int} (h0 : 0 ≤ a0 ∧ a0 ≤ 5) (h1 : a1 + 1 ≤ a0) (h2 : a1 = a2) : a2 + 15 < 26 := by omega
theorem ob_1087 {a0 a1 a2 : Int} (h0 : 0 ≤ a0 ∧ a0 ≤ 5) (h1 : (0 : Int) ≤ a1 + 1) (h2 : a1 + 1 ≤ a0) (h3 : 0 ≤ a1) (h4 : a1 = a2) : (a2 + 15) % 26 < 10 ∨ 15 ≤ (a2 + 15) % 26 := by omega
theorem ob_1088 {a0 a1 a2 : Int} (h0 : (0 : Int) ≤ a0 + 1) (h1 : a0 + 1 ≤ a1) (h2 : 0 ≤ a0) (h3 : a0 = a2) : (0 : Int) ≤ a0 := by omega
theorem ob_1089 {a0 a1 a2 : Int} (h0 : a0 + 1 ≤ a1) (h1 : a0 = a2) : a0 + 1 ≤ a1 := by omega
theorem ob_1090 {a0 a1 a2 : Int} (h0 : ((a0 + 1 ≤ (0 : Int)) ∧ (a1 = (0 : Int))) ∨ (((0 : Int) ≤ a0) ∧ (a2 ≤ a0) ∧ (a1 = (0 : Int))) ∨ (((0 : Int) ≤ a0) ∧ (a0 + 1 ≤ a2) ∧ (a1 = (1 : Int)))) (h1 : a1 ≠ 0) : (0 : Int) ≤ a0 := by omega
theorem ob_1091 {a0 a1 a2 : Int} (h0 : ((a0 + 1 ≤ (0 : Int)) ∧ (a1 = (0 : Int))) ∨ (((0 : Int) ≤ a0) ∧ (a2 ≤ a0) ∧ (a1 = (0 : Int))) ∨ (((0 : Int) ≤ a0) ∧ (a0 + 1 ≤ a2) ∧ (a1 = (1 : Int)))) (h1 : a1 ≠ 0) : a0 + 1 ≤ a2 := by omega
theorem ob_1092 {a0 a1 a2 : Int} (h0 : ((a0 + 1 ≤ (0 : Int)) ∧ (a1 = (0 : Int))) ∨ (((0 : Int) ≤ a0) ∧ (a2 ≤ a0) ∧ (a1 = (0 : Int))) ∨ (((0 : Int) ≤ a0) ∧ (a0 + 1 ≤ a2) ∧ (a1 = (1 : Int)))) (h1 : a1 ≠ 0) : a1 = (1 : Int) := by omega
theorem ob_1093 {a0 a1 a2 : Int} (h0 : 0 ≤ a0 ∧ a0 ≤ 5) (h1 : (0 : Int) ≤ a1) (h2 : a1 ≤ (1 : Int)) (h3 : (0 : Int) ≤ a2) (h4 : a2 + 1 ≤ a0) (h5 : a1 = (1 : Int)) (h6 : (1 : Int) ≤ a1) : 10 ≤ (a2 + 10) % 26 := by omega
theorem ob_1094 {a0 a1 a2 : Int} (h0 : 0 ≤ a0 ∧ a0 ≤ 5) (h1 : (0 : Int) ≤ a1) (h2 : a1 ≤ (1 : Int)) (h3 : (0 : Int) ≤ a2) (h4 : a2 + 1 ≤ a0) (h5 : a1 = (1 : Int)) (h6 : (1 : Int) ≤ a1) : (a2 + 10) % 26 < 15 := by omega
theorem ob_1095 {a0 a1 : Int} (h0 : 0 ≤ a0 ∧ a0 ≤ 5) (h1 : a1 + 1 ≤ a0) : 0 + a1 ≤ 2147483647 := by omega
theorem ob_1096 {a0 a1 : Int} (h0 : 0 ≤ a0 ∧ a0 ≤ 5) (h1 : a1 + 1 ≤ a0) : a1 < 26 := by omega
theorem ob_1097 {a0 a1 : Int} (h0 : 0 ≤ a0 ∧ a0 ≤ 5) (h1 : a1 + 1 ≤ a0) : 5 + a1 ≤ 2147483647 := by omega
theorem ob_1098 {a0 a1 : Int} (h0 : 0 ≤ a0 ∧ a0 ≤ 5) (h1 : a1 + 1 ≤ a0) : a1 + 5 < 26 := by omega
theorem ob_1099 {a0 : Int} (h0 : (3 : Int) ≤ a0) (h1 : a0 ≤ (8 : Int)) : (-2147483648) ≤ a0 - 1 := by omega
theorem ob_1100 {a0 : Int} (h0 : (3 : Int) ≤ a0) (h1 : a0 ≤ (8 : Int)) : a0 - 1 ≤ 2147483647 := by omega
theorem ob_1101 {a0 a1 a2 a3 a4 : Int} (h0 : ((a0 + 1 ≤ a1) ∧ (a2 = (0 : Int))) ∨ ((a1 ≤ a0) ∧ (a3 + 1 ≤ a0) ∧ (a2 = (0 : Int))) ∨ ((a1 ≤ a0) ∧ (a0 ≤ a3) ∧ (a2 = (1 : Int)))) (h1 : a2 ≠ 0) (h2 : a3 = a4 + (-1)) (h3 : a1 = 0) : (0 : Int) ≤ a0 := by omega
theorem ob_1102 {a0 a1 a2 a3 a4 : Int} (h0 : ((a0 + 1 ≤ a1) ∧ (a2 = (0 : Int))) ∨ ((a1 ≤ a0) ∧ (a3 + 1 ≤ a0) ∧ (a2 = (0 : Int))) ∨ ((a1 ≤ a0) ∧ (a0 ≤ a3) ∧ (a2 = (1 : Int)))) (h1 : a2 ≠ 0) (h2 : a3 = a4 + (-1)) (h3 : a1 = 0) : a0 + 1 ≤ a4 := by omega
theorem ob_1103 {a0 a1 a2 a3 a4 : Int} (h0 : ((a0 + 1 ≤ a1) ∧ (a2 = (0 : Int))) ∨ ((a1 ≤ a0) ∧ (a3 + 1 ≤ a0) ∧ (a2 = (0 : Int))) ∨ ((a1 ≤ a0) ∧ (a0 ≤ a3) ∧ (a2 = (1 : Int)))) (h1 : a2 ≠ 0) (h2 : a3 = a4 + (-1)) (h3 : a1 = 0) : a2 = (1 : Int) := by omega
theorem ob_1104 {a0 a1 a2 a3 : Int} (h0 : ((a0 = (3 : Int)) ∧ (a1 ≤ a2 + 3)) ∨ (a0 + a2 = a1)) (h1 : a3 + 1 ≤ a0) : (a3 ≤ (2 : Int)) ∨ (a3 + a2 + 1 ≤ a1) := by omega
theorem ob_1105 {a0 a1 : Int} (h0 : 0 ≤ a0 ∧ a0 ≤ 4) (h1 : a1 + 1 ≤ a0) : 20 + a1 ≤ 2147483647 := by omega
theorem ob_1106 {a0 a1 : Int} (h0 : 0 ≤ a0 ∧ a0 ≤ 4) (h1 : a1 + 1 ≤ a0) : a1 + 20 < 26 := by omega
theorem ob_1107 {a0 a1 a2 a3 : Int} (h0 : ((a0 + 1 ≤ a1) ∧ (a2 = (0 : Int))) ∨ ((a1 ≤ a0) ∧ (a3 + 1 ≤ a0) ∧ (a2 = (0 : Int))) ∨ ((a1 ≤ a0) ∧ (a0 ≤ a3) ∧ (a2 = (1 : Int)))) (h1 : a2 ≠ 0) (h2 : a3 = 999) (h3 : a1 = 0) : (0 : Int) ≤ a0 := by omega
theorem ob_1108 {a0 a1 a2 a3 : Int} (h0 : ((a0 + 1 ≤ a1) ∧ (a2 = (0 : Int))) ∨ ((a1 ≤ a0) ∧ (a3 + 1 ≤ a0) ∧ (a2 = (0 : Int))) ∨ ((a1 ≤ a0) ∧ (a0 ≤ a3) ∧ (a2 = (1 : Int)))) (h1 : a2 ≠ 0) (h2 : a3 = 999) (h3 : a1 = 0) : a0 ≤ (999 : Int) := by omega
theorem ob_1109 {a0 a1 a2 a3 : Int} (h0 : ((a0 + 1 ≤ a1) ∧ (a2 = (0 : Int))) ∨ ((a1 ≤ a0) ∧ (a3 + 1 ≤ a0) ∧ (a2 = (0 : Int))) ∨ ((a1 ≤ a0) ∧ (a0 ≤ a3) ∧ (a2 = (1 : Int)))) (h1 : a2 ≠ 0) (h2 : a3 = 999) (h3 : a1 = 0) : a2 = (1 : Int) := by omega
theorem ob_1110 {a0 a1 a2 : Int} (h0 : 0 ≤ a0 ∧ a0 ≤ 4) (h1 : (0 : Int) ≤ a1) (h2 : a1 ≤ (1 : Int)) (h3 : (0 : Int) ≤ a2) (h4 : a2 + 1 ≤ a0) (h5 : a1 = (1 : Int)) (h6 : (1 : Int) ≤ a1) : (a2 + 20) % 26 < 10 ∨ 15 ≤ (a2 + 20) % 26 := by omega
theorem ob_1111 {a0 : Int} (h0 : (3 : Int) ≤ a0) (h1 : a0 ≤ (8 : Int)) : (-2147483648) ≤ a0 - 3 := by omega
theorem ob_1112 {a0 : Int} (h0 : (3 : Int) ≤ a0) (h1 : a0 ≤ (8 : Int)) : a0 - 3 ≤ 2147483647 := by omega
theorem ob_1113 {a0 a1 : Int} (h0 : a0 = a1 - 3) : a0 = a1 + (-3) := by omega
theorem ob_1114 {a0 a1 : Int} (h0 : ((a0 + 1 ≤ (0 : Int)) ∧ (a1 = (0 : Int))) ∨ (((0 : Int) ≤ a0) ∧ ((7 : Int) ≤ a0) ∧ (a1 = (0 : Int))) ∨ (((0 : Int) ≤ a0) ∧ (a0 ≤ (6 : Int)) ∧ (a1 = (1 : Int)))) (h1 : a1 ≠ 0) : (0 : Int) ≤ a0 := by omega
theorem ob_1115 {a0 a1 : Int} (h0 : ((a0 + 1 ≤ (0 : Int)) ∧ (a1 = (0 : Int))) ∨ (((0 : Int) ≤ a0) ∧ ((7 : Int) ≤ a0) ∧ (a1 = (0 : Int))) ∨ (((0 : Int) ≤ a0) ∧ (a0 ≤ (6 : Int)) ∧ (a1 = (1 : Int)))) (h1 : a1 ≠ 0) : a0 ≤ (6 : Int) := by omega
theorem ob_1116 {a0 a1 : Int} (h0 : ((a0 + 1 ≤ (0 : Int)) ∧ (a1 = (0 : Int))) ∨ (((0 : Int) ≤ a0) ∧ ((7 : Int) ≤ a0) ∧ (a1 = (0 : Int))) ∨ (((0 : Int) ≤ a0) ∧ (a0 ≤ (6 : Int)) ∧ (a1 = (1 : Int)))) (h1 : a1 ≠ 0) : a1 = (1 : Int) := by omega
theorem ob_1117 {a0 a1 : Int} (h0 : (3 : Int) ≤ a0) (h1 : a0 ≤ (8 : Int)) (h2 : a1 = a0 + (-3)) : (0 : Int) ≤ a1 := by omega
theorem ob_1118 {a0 a1 a2 a3 : Int} (h0 : ((a0 = (3 : Int)) ∧ (a1 ≤ a2 + 3)) ∨ (a0 + a2 = a1)) (h1 : a3 = a0 + (-3)) : (a3 ≤ (0 : Int)) ∨ (a3 + a2 + 3 ≤ a1) := by omega
theorem ob_1119 {a0 a1 a2 : Int} (h0 : a0 ≤ (8 : Int)) (h1 : (3 : Int) ≤ a1) (h2 : a2 = a1 + (-1)) : (-2147483648) ≤ a2 - a0 := by omega
theorem ob_1120 {a0 a1 a2 : Int} (h0 : (0 : Int) ≤ a0) (h1 : a1 ≤ (8 : Int)) (h2 : a2 = a1 + (-1)) : a2 - a0 ≤ 2147483647 := by omega
theorem ob_1121 {a0 a1 a2 a3 : Int} (h0 : a0 = a1 - a2) (h1 : a1 = a3 + (-1)) : a0 = a3 + -1 * a2 + (-1) := by omega
theorem ob_1122 {a0 a1 a2 a3 a4 a5 : Int} (h0 : ((a0 = (3 : Int)) ∧ (a1 ≤ a2 + 3)) ∨ (a0 + a2 = a1)) (h1 : a3 < a0) (h2 : (3 : Int) ≤ a4) (h3 : ((a4 = (3 : Int)) ∧ (a1 ≤ a2 + 3)) ∨ (a4 + a2 = a1)) (h4 : a5 = a4 + -1 * a3 + (-1)) : (0 : Int) ≤ a5 := by omega
theorem ob_1123 {a0 a1 a2 a3 a4 : Int} (h0 : (0 : Int) ≤ a0) (h1 : ((a1 = (3 : Int)) ∧ (a2 ≤ a3 + 3)) ∨ (a1 + a3 = a2)) (h2 : a4 = a1 + -1 * a0 + (-1)) : (a4 ≤ (2 : Int)) ∨ (a4 + a3 + 1 ≤ a2) := by omega
theorem ob_1124 {a0 a1 a2 : Int} (h0 : 0 ≤ a0 ∧ a0 ≤ 5) (h1 : a2 < a1) (h2 : a1 = a0) : a2 ≤ (4 : Int) := by omega
theorem ob_1125 {a0 : Int} (h0 : (0 : Int) ≤ a0 + 1) : (0 : Int) ≤ a0 + 1 := by omega
theorem ob_1126 {a0 : Int} (h0 : a0 ≤ (4 : Int)) : a0 ≤ (4 : Int) := by omega
theorem ob_1127 {a0 : Int} (h0 : a0 = (-1)) : a0 ≤ (4 : Int) := by omega
theorem ob_1128 {a0 a1 : Int} (h0 : 0 ≤ a0 ∧ a0 ≤ 5) (h1 : a1 = (-1)) : a1 + 1 ≤ a0 := by omega
theorem ob_1129 {a0 a1 a2 a3 : Int} (h0 : ((a0 + 1 ≤ a1) ∧ (a2 = (0 : Int))) ∨ ((a1 ≤ a0) ∧ (a3 + 1 ≤ a0) ∧ (a2 = (0 : Int))) ∨ ((a1 ≤ a0) ∧ (a0 ≤ a3) ∧ (a2 = (1 : Int)))) (h1 : a2 ≠ 0) (h2 : a3 = 1) (h3 : a1 = 0) : (0 : Int) ≤ a0 := by omega
theorem ob_1130 {a0 a1 a2 a3 : Int} (h0 : ((a0 + 1 ≤ a1) ∧ (a2 = (0 : Int))) ∨ ((a1 ≤ a0) ∧ (a3 + 1 ≤ a0) ∧ (a2 = (0 : Int))) ∨ ((a1 ≤ a0) ∧ (a0 ≤ a3) ∧ (a2 = (1 : Int)))) (h1 : a2 ≠ 0) (h2 : a3 = 1) (h3 : a1 = 0) : a0 ≤ (1 : Int) := by omega
theorem ob_1131 {a0 a1 a2 a3 : Int} (h0 : ((a0 + 1 ≤ a1) ∧ (a2 = (0 : Int))) ∨ ((a1 ≤ a0) ∧ (a3 + 1 ≤ a0) ∧ (a2 = (0 : Int))) ∨ ((a1 ≤ a0) ∧ (a0 ≤ a3) ∧ (a2 = (1 : Int)))) (h1 : a2 ≠ 0) (h2 : a3 = 1) (h3 : a1 = 0) : a2 = (1 : Int) := by omega
theorem ob_1132 {a0 a1 : Int} (h0 : 0 ≤ a0 ∧ a0 ≤ 4) (h1 : a1 ≠ 0) (h2 : a1 = a0) : (1 : Int) ≤ a0 := by omega
theorem ob_1133 {a0 : Int} (h0 : -1 * a0 + 4 < 0) (h1 : (1 : Int) ≤ a0) (h2 : a0 ≤ (4 : Int)) : False := by omega
theorem ob_1134 {a0 a1 : Int} (h0 : (0 : Int) ≤ a0) (h1 : a0 ≤ (3 : Int)) (h2 : a0 + 1 ≤ a1) : (0 : Int) ≤ a0 := by omega
theorem ob_1135 {a0 a1 : Int} (h0 : (0 : Int) ≤ a0) (h1 : a0 ≤ (3 : Int)) (h2 : a0 + 1 ≤ a1) : a0 ≤ (3 : Int) := by omega
theorem ob_1136 {a0 a1 a2 : Int} (h0 : 0 ≤ a0 ∧ a0 ≤ 4) (h1 : a2 < a1) (h2 : a1 = a0) : a2 ≤ (3 : Int) := by omega
theorem ob_1137 {a0 : Int} (h0 : a0 = 1) : a0 ≤ (4 : Int) := by omega
theorem ob_1138 {a0 a1 : Int} (h0 : 0 ≤ a0 ∧ a0 ≤ 4) (h1 : (1 : Int) ≤ a0) (h2 : a1 = 0) : a1 + 1 ≤ a0 := by omega
theorem ob_1139 {a0 : Int} (h0 : a0 = 1) : 0 ≤ -1 * a0 + 4 := by omega
theorem ob_1140 {a0 : Int} (h0 : -1 * a0 + 7 < 0) (h1 : (0 : Int) ≤ a0) (h2 : a0 ≤ (7 : Int)) : False := by omega
theorem ob_1141 {a0 : Int} (h0 : a0 ≤ (7 : Int)) : a0 ≤ (1048576 : Int) := by omega
theorem ob_1142 {a0 a1 : Int} (h0 : (0 : Int) ≤ a0) (h1 : a0 < a1) : (0 : Int) ≤ a1 := by omega
theorem ob_1143 {a0 a1 : Int} (h0 : a0 < 7) (h1 : a1 = a0 + 1) : a1 ≤ (7 : Int) := by omega
theorem ob_1144 {a0 a1 a2 : Int} (h0 : -1 * a0 + 7 < a1 + 1) (h1 : a2 = a0 + 1) : -1 * a2 + 7 < a1 := by omega
theorem ob_1145 {a0 : Int} (h0 : (0 : Int) ≤ a0 + 1) (h1 : a0 ≤ (1048576 : Int)) : (0 : Int) ≤ a0 + 1 := by omega
theorem ob_1146 {a0 : Int} (h0 : (0 : Int) ≤ a0 + 1) (h1 : a0 ≤ (1048576 : Int)) : a0 ≤ (1048576 : Int) := by omega
theorem ob_1147 {a0 a1 : Int} (h0 : (0 : Int) ≤ a0) (h1 : a1 ≤ a0) : (0 : Int) ≤ a0 := by omega
theorem ob_1148 {a0 : Int} (h0 : a0 = (-1)) : a0 ≤ (1048576 : Int) := by omega
theorem ob_1149 {a0 : Int} (h0 : a0 = 0) : a0 ≤ (7 : Int) := by omega
theorem ob_1150 {a0 : Int} (h0 : a0 = 0) : 0 ≤ -1 * a0 + 7 := by omega
theorem ob_1151 {a0 a1 a2 : Int} (h0 : ((a0 + 1 ≤ (0 : Int)) ∧ (a1 = (0 : Int))) ∨ (((0 : Int) ≤ a0) ∧ (a2 ≠ (0 : Int)) ∧ (a1 = (0 : Int))) ∨ (((0 : Int) ≤ a0) ∧ (a2 = (0 : Int)) ∧ (a1 = (1 : Int)))) (h1 : a1 ≠ 0) : (0 : Int) ≤ a0 := by omega
theorem ob_1152 {a0 a1 a2 : Int} (h0 : ((a0 + 1 ≤ (0 : Int)) ∧ (a1 = (0 : Int))) ∨ (((0 : Int) ≤ a0) ∧ (a2 ≠ (0 : Int)) ∧ (a1 = (0 : Int))) ∨ (((0 : Int) ≤ a0) ∧ (a2 = (0 : Int)) ∧ (a1 = (1 : Int)))) (h1 : a1 ≠ 0) : a2 = (0 : Int) := by omega
theorem ob_1153 {a0 a1 a2 : Int} (h0 : ((a0 + 1 ≤ (0 : Int)) ∧ (a1 = (0 : Int))) ∨ (((0 : Int) ≤ a0) ∧ (a2 ≠ (0 : Int)) ∧ (a1 = (0 : Int))) ∨ (((0 : Int) ≤ a0) ∧ (a2 = (0 : Int)) ∧ (a1 = (1 : Int)))) (h1 : a1 ≠ 0) : a1 = (1 : Int) := by omega
theorem ob_1154 {a0 a1 a2 a3 : Int} (h0 : ((a0 + 1 ≤ a1) ∧ (a2 = (0 : Int))) ∨ ((a1 ≤ a0) ∧ (a3 + 1 ≤ a0) ∧ (a2 = (0 : Int))) ∨ ((a1 ≤ a0) ∧ (a0 ≤ a3) ∧ (a2 = (1 : Int)))) (h1 : a2 ≠ 0) (h2 : a3 = 99) (h3 : a1 = 0) : (0 : Int) ≤ a0 := by omega
theorem ob_1155 {a0 a1 a2 a3 : Int} (h0 : ((a0 + 1 ≤ a1) ∧ (a2 = (0 : Int))) ∨ ((a1 ≤ a0) ∧ (a3 + 1 ≤ a0) ∧ (a2 = (0 : Int))) ∨ ((a1 ≤ a0) ∧ (a0 ≤ a3) ∧ (a2 = (1 : Int)))) (h1 : a2 ≠ 0) (h2 : a3 = 99) (h3 : a1 = 0) : a0 ≤ (99 : Int) := by omega
theorem ob_1156 {a0 a1 a2 a3 : Int} (h0 : ((a0 + 1 ≤ a1) ∧ (a2 = (0 : Int))) ∨ ((a1 ≤ a0) ∧ (a3 + 1 ≤ a0) ∧ (a2 = (0 : Int))) ∨ ((a1 ≤ a0) ∧ (a0 ≤ a3) ∧ (a2 = (1 : Int)))) (h1 : a2 ≠ 0) (h2 : a3 = 99) (h3 : a1 = 0) : a2 = (1 : Int) := by omega
theorem ob_1157 {a0 a1 a2 a3 : Int} (h0 : ((a0 + 1 ≤ a1) ∧ (a2 = (0 : Int))) ∨ ((a1 ≤ a0) ∧ (a3 + 1 ≤ a0) ∧ (a2 = (0 : Int))) ∨ ((a1 ≤ a0) ∧ (a0 ≤ a3) ∧ (a2 = (1 : Int)))) (h1 : a2 ≠ 0) : a1 ≤ a0 := by omega
theorem ob_1158 {a0 a1 a2 a3 : Int} (h0 : ((a0 + 1 ≤ a1) ∧ (a2 = (0 : Int))) ∨ ((a1 ≤ a0) ∧ (a3 + 1 ≤ a0) ∧ (a2 = (0 : Int))) ∨ ((a1 ≤ a0) ∧ (a0 ≤ a3) ∧ (a2 = (1 : Int)))) (h1 : a2 ≠ 0) : a0 ≤ a3 := by omega
theorem ob_1159 {a0 a1 a2 a3 : Int} (h0 : ((a0 + 1 ≤ a1) ∧ (a2 = (0 : Int))) ∨ ((a1 ≤ a0) ∧ (a3 + 1 ≤ a0) ∧ (a2 = (0 : Int))) ∨ ((a1 ≤ a0) ∧ (a0 ≤ a3) ∧ (a2 = (1 : Int)))) (h1 : a2 ≠ 0) : a2 = (1 : Int) := by omega
theorem ob_1160 {a0 a1 : Int} (h0 : (0 : Int) ≤ a0) (h1 : a0 + a1 ≤ (40 : Int)) : (-2147483648) ≤ a0 + 1 := by omega
theorem ob_1161 {a0 a1 : Int} (h0 : (0 : Int) ≤ a0) (h1 : (0 : Int) ≤ a1) (h2 : a0 + a1 ≤ (40 : Int)) : a0 + 1 ≤ 2147483647 := by omega
theorem ob_1162 {a0 a1 a2 : Int} (h0 : (0 : Int) ≤ a0) (h1 : a0 + a1 ≤ (40 : Int)) (h2 : a2 = a0 + 1) : (0 : Int) ≤ a2 := by omega
theorem ob_1163 {a0 a1 a2 a3 : Int} (h0 : (0 : Int) ≤ a0) (h1 : a1 + a0 ≤ (40 : Int)) (h2 : a1 ≠ 40) (h3 : a2 = 0) (h4 : a3 = a1 + 1) : a3 + a2 ≤ (40 : Int) := by omega
theorem ob_1164 {a0 a1 : Int} (h0 : (0 : Int) ≤ a0) (h1 : a0 + a1 ≤ (40 : Int)) : (-2147483648) ≤ 26 * a0 := by omega
theorem ob_1165 {a0 a1 : Int} (h0 : (0 : Int) ≤ a0) (h1 : (0 : Int) ≤ a1) (h2 : a0 + a1 ≤ (40 : Int)) : 26 * a0 ≤ 2147483647 := by omega
theorem ob_1166 {a0 a1 : Int} (h0 : a0 = 26 * a1) : a0 = 26 * a1 := by omega
theorem ob_1167 {a0 a1 a2 : Int} (h0 : (0 : Int) ≤ a0) (h1 : (0 : Int) ≤ a1) (h2 : a2 = 26 * a0) : (-2147483648) ≤ a2 + a1 := by omega
theorem ob_1168 {a0 a1 a2 a3 : Int} (h0 : (0 : Int) ≤ a0) (h1 : a1 + a0 ≤ (40 : Int)) (h2 : a2 ≤ (26 : Int)) (h3 : a3 = 26 * a1) : a3 + a2 ≤ 2147483647 := by omega
theorem ob_1169 {a0 a1 a2 a3 : Int} (h0 : a0 = a1 + a2) (h1 : a1 = 26 * a3) : a0 = a2 + 26 * a3 := by omega
theorem ob_1170 {a0 a1 : Int} (h0 : (0 : Int) ≤ a0) (h1 : (0 : Int) ≤ a1) : 0 ≤ a1 + 26 * a0 := by omega
theorem ob_1171 {a0 a1 a2 : Int} (h0 : (0 : Int) ≤ a0) (h1 : a1 + a0 ≤ (40 : Int)) (h2 : a2 < 26) : a2 + 26 * a1 < 1066 := by omega
theorem ob_1172 {a0 a1 : Int} : (a0 + 26 * a1) % 26 = (a0) % 26 := by omega
theorem ob_1173 {a0 : Int} (h0 : -1 * a0 + 1040 < 0) (h1 : (0 : Int) ≤ a0) (h2 : a0 ≤ (1040 : Int)) : False := by omega
theorem ob_1174 {a0 a1 : Int} (h0 : (0 : Int) ≤ a0) (h1 : a0 + a1 ≤ (40 : Int)) (h2 : a0 = 40) : (-2147483648) ≤ a0 - 1 := by omega
theorem ob_1175 {a0 a1 : Int} (h0 : (0 : Int) ≤ a0) (h1 : a0 + a1 ≤ (40 : Int)) (h2 : a0 = 40) : a0 - 1 ≤ 2147483647 := by omega
theorem ob_1176 {a0 a1 a2 : Int} (h0 : (0 : Int) ≤ a0) (h1 : a0 + a1 ≤ (40 : Int)) (h2 : a0 = 40) (h3 : a2 = a0 + (-1)) : (-2147483648) ≤ a2 + 1 := by omega
theorem ob_1177 {a0 a1 a2 : Int} (h0 : (0 : Int) ≤ a0) (h1 : a0 + a1 ≤ (40 : Int)) (h2 : a0 = 40) (h3 : a2 = a0 + (-1)) : a2 + 1 ≤ 2147483647 := by omega
theorem ob_1178 {a0 a1 a2 : Int} (h0 : a0 = a1 + 1) (h1 : a1 = a2 + (-1)) : a0 = a2 := by omega
theorem ob_1179 {a0 a1 a2 : Int} (h0 : (0 : Int) ≤ a0) (h1 : a0 + a1 ≤ (40 : Int)) (h2 : a0 = 40) (h3 : a2 = a0) : (0 : Int) ≤ a2 := by omega
theorem ob_1180 {a0 a1 a2 a3 : Int} (h0 : (0 : Int) ≤ a0) (h1 : a0 + a1 ≤ (40 : Int)) (h2 : a0 = 40) (h3 : a2 = 0) (h4 : a3 = a0) : a3 + a2 ≤ (40 : Int) := by omega
theorem ob_1181 {a0 a1 a2 : Int} (h0 : (0 : Int) ≤ a0) (h1 : a0 + a1 ≤ (40 : Int)) (h2 : a0 = 40) (h3 : a2 = a0 + (-1)) : (-2147483648) ≤ 26 * a2 := by omega
theorem ob_1182 {a0 a1 a2 : Int} (h0 : (0 : Int) ≤ a0) (h1 : a0 + a1 ≤ (40 : Int)) (h2 : a0 = 40) (h3 : a2 = a0 + (-1)) : 26 * a2 ≤ 2147483647 := by omega
theorem ob_1183 {a0 a1 a2 : Int} (h0 : a0 = 26 * a1) (h1 : a1 = a2 + (-1)) : a0 = 26 * a2 + (-26) := by omega
theorem ob_1184 {a0 a1 a2 : Int} (h0 : (0 : Int) ≤ a0) (h1 : (0 : Int) ≤ a1) (h2 : a2 = 26 * a0 + (-26)) : (-2147483648) ≤ a2 + a1 := by omega
theorem ob_1185 {a0 a1 a2 : Int} (h0 : a0 = 40) (h1 : a1 ≤ (26 : Int)) (h2 : a2 = 26 * a0 + (-26)) : a2 + a1 ≤ 2147483647 := by omega
theorem ob_1186 {a0 a1 a2 a3 : Int} (h0 : a0 = a1 + a2) (h1 : a1 = 26 * a3 + (-26)) : a0 = a2 + 26 * a3 + (-26) := by omega
theorem ob_1187 {a0 a1 : Int} (h0 : a0 = 40) (h1 : (0 : Int) ≤ a1) : 0 ≤ a1 + 26 * a0 + (-26) := by omega
theorem ob_1188 {a0 a1 : Int} (h0 : a0 = 40) (h1 : a1 ≤ (26 : Int)) : a1 + 26 * a0 + (-26) < 1066 := by omega
theorem ob_1189 {a0 a1 : Int} : (a0 + 26 * a1 + (-26)) % 26 = (a0) % 26 := by omega
theorem ob_1190 {a0 : Int} (h0 : (0 : Int) ≤ a0) : (-2147483648) ≤ a0 + 26 := by omega
theorem ob_1191 {a0 : Int} (h0 : a0 ≤ (1040 : Int)) : a0 + 26 ≤ 2147483647 := by omega
theorem ob_1192 {a0 a1 : Int} (h0 : a0 = a1 + 26) : a0 = a1 + 26 := by omega
theorem ob_1193 {a0 : Int} (h0 : (0 : Int) ≤ a0) : 0 ≤ a0 + 26 := by omega
theorem ob_1194 {a0 : Int} (h0 : a0 < 1040) : a0 + 26 < 1066 := by omega
theorem ob_1195 {a0 : Int} (h0 : a0 ≤ (1040 : Int)) : a0 < 1066 := by omega
theorem ob_1196 {a0 : Int} : (a0) % 26 = (a0 + 26) % 26 := by omega
theorem ob_1197 {a0 : Int} (h0 : a0 ≤ (1040 : Int)) : a0 + 1 ≤ 2147483647 := by omega
theorem ob_1198 {a0 a1 : Int} (h0 : a0 < 1040) (h1 : a1 = a0 + 1) : a1 ≤ (1040 : Int) := by omega
theorem ob_1199 {a0 a1 a2 : Int} (h0 : -1 * a0 + 1040 < a1 + 1) (h1 : a2 = a0 + 1) : -1 * a2 + 1040 < a1 := by omega
theorem ob_1200 {a0 : Int} (h0 : a0 = 0) : a0 ≤ (1040 : Int) := by omega
theorem ob_1201 {a0 : Int} (h0 : a0 = 0) : 0 ≤ -1 * a0 + 1040 := by omega
theorem ob_1202 {a0 a1 : Int} : (a0) % 26 = (a0 + 26 * a1) % 26 := by omega
theorem ob_1203 {a0 : Int} (h0 : a0 = 1) : 0 ≤ a0 ∧ a0 ≤ 1 := by omega
theorem ob_1204 {a0 a1 : Int} (h0 : ((a0 + 1 ≠ (0 : Int)) ∧ (a1 = (0 : Int))) ∨ ((a0 + 1 = (0 : Int)) ∧ (a1 = (1 : Int)))) (h1 : a1 = 0) : a0 + 1 ≠ (0 : Int) := by omega
theorem ob_1205 {a0 a1 : Int} (h0 : ((a0 + 1 ≠ (0 : Int)) ∧ (a1 = (0 : Int))) ∨ ((a0 + 1 = (0 : Int)) ∧ (a1 = (1 : Int)))) (h1 : a1 ≠ 0) : a0 + 1 = (0 : Int) := by omega
theorem ob_1206 {a0 a1 : Int} (h0 : ((a0 + 1 ≠ (0 : Int)) ∧ (a1 = (0 : Int))) ∨ ((a0 + 1 = (0 : Int)) ∧ (a1 = (1 : Int)))) (h1 : a1 ≠ 0) : a1 = (1 : Int) := by omega
theorem ob_1207 {a0 a1 a2 a3 a4 : Int} (h0 : 0 ≤ a0 ∧ a0 ≤ 5) (h1 : (0 : Int) ≤ a1) (h2 : a1 ≤ (1 : Int)) (h3 : (0 : Int) ≤ a2) (h4 : a2 + 1 ≤ a0) (h5 : a1 = (1 : Int)) (h6 : (1 : Int) ≤ a1) (h7 : a3 + 1 ≤ a0) (h8 : a3 = a4) : (a2) % 26 < 10 ∨ 15 ≤ (a2) % 26 := by omega
theorem ob_1208 {a0 a1 a2 a3 : Int} (h0 : ((a0 + 1 ≤ a1) ∧ (a2 = (0 : Int))) ∨ ((a1 ≤ a0) ∧ (a3 + 1 ≤ a0) ∧ (a2 = (0 : Int))) ∨ ((a1 ≤ a0) ∧ (a0 ≤ a3) ∧ (a2 = (1 : Int)))) (h1 : a2 ≠ 0) (h2 : a3 = 50) (h3 : a1 = 1) : (1 : Int) ≤ a0 := by omega
theorem ob_1209 {a0 a1 a2 a3 : Int} (h0 : ((a0 + 1 ≤ a1) ∧ (a2 = (0 : Int))) ∨ ((a1 ≤ a0) ∧ (a3 + 1 ≤ a0) ∧ (a2 = (0 : Int))) ∨ ((a1 ≤ a0) ∧ (a0 ≤ a3) ∧ (a2 = (1 : Int)))) (h1 : a2 ≠ 0) (h2 : a3 = 50) (h3 : a1 = 1) : a0 ≤ (50 : Int) := by omega
theorem ob_1210 {a0 a1 a2 a3 : Int} (h0 : ((a0 + 1 ≤ a1) ∧ (a2 = (0 : Int))) ∨ ((a1 ≤ a0) ∧ (a3 + 1 ≤ a0) ∧ (a2 = (0 : Int))) ∨ ((a1 ≤ a0) ∧ (a0 ≤ a3) ∧ (a2 = (1 : Int)))) (h1 : a2 ≠ 0) (h2 : a3 = 50) (h3 : a1 = 1) : a2 = (1 : Int) := by omega
theorem ob_1211 {a0 a1 : Int} (h0 : (0 : Int) ≤ a0) (h1 : a0 + a1 ≤ (40 : Int)) (h2 : a0 ≠ 0) : (1 : Int) ≤ a0 := by omega
theorem ob_1212 {a0 a1 : Int} (h0 : (0 : Int) ≤ a0) (h1 : a0 + a1 ≤ (40 : Int)) (h2 : (1 : Int) ≤ a0) : (-2147483648) ≤ a0 - 1 := by omega
theorem ob_1213 {a0 a1 : Int} (h0 : (0 : Int) ≤ a0) (h1 : a1 + a0 ≤ (40 : Int)) : a1 - 1 ≤ 2147483647 := by omega
theorem ob_1214 {a0 a1 : Int} (h0 : (0 : Int) ≤ a0) (h1 : a1 + a0 ≤ (40 : Int)) : (-2147483648) ≤ a0 + 1 := by omega
theorem ob_1215 {a0 a1 : Int} (h0 : (0 : Int) ≤ a0) (h1 : a0 + a1 ≤ (40 : Int)) : a1 + 1 ≤ 2147483647 := by omega
theorem ob_1216 {a0 a1 a2 : Int} (h0 : (0 : Int) ≤ a0) (h1 : a0 + a1 ≤ (40 : Int)) (h2 : (1 : Int) ≤ a0) (h3 : a2 = a0 + (-1)) : (0 : Int) ≤ a2 := by omega
theorem ob_1217 {a0 a1 a2 : Int} (h0 : (0 : Int) ≤ a0) (h1 : a1 + a0 ≤ (40 : Int)) (h2 : a2 = a0 + 1) : (0 : Int) ≤ a2 := by omega
theorem ob_1218 {a0 a1 a2 a3 : Int} (h0 : a0 + a1 ≤ (40 : Int)) (h1 : a2 = a1 + 1) (h2 : a3 = a0 + (-1)) : a3 + a2 ≤ (40 : Int) := by omega
theorem ob_1219 {a0 a1 : Int} (h0 : (0 : Int) ≤ a0) (h1 : a1 + a0 ≤ (40 : Int)) (h2 : a0 ≠ 0) : (1 : Int) ≤ a0 := by omega
theorem ob_1220 {a0 a1 : Int} (h0 : (0 : Int) ≤ a0) (h1 : a1 + a0 ≤ (40 : Int)) : a1 + 1 ≤ 2147483647 := by omega
theorem ob_1221 {a0 a1 : Int} (h0 : (0 : Int) ≤ a0) (h1 : a1 + a0 ≤ (40 : Int)) (h2 : (1 : Int) ≤ a0) : (-2147483648) ≤ a0 - 1 := by omega
theorem ob_1222 {a0 a1 : Int} (h0 : (0 : Int) ≤ a0) (h1 : a0 + a1 ≤ (40 : Int)) : a1 - 1 ≤ 2147483647 := by omega
theorem ob_1223 {a0 a1 a2 : Int} (h0 : (0 : Int) ≤ a0) (h1 : a1 + a0 ≤ (40 : Int)) (h2 : (1 : Int) ≤ a0) (h3 : a2 = a0 + (-1)) : (0 : Int) ≤ a2 := by omega
theorem ob_1224 {a0 a1 a2 a3 : Int} (h0 : a0 + a1 ≤ (40 : Int)) (h1 : a2 = a1 + (-1)) (h2 : a3 = a0 + 1) : a3 + a2 ≤ (40 : Int) := by omega
theorem ob_1225 {a0 a1 a2 a3 : Int} (h0 : ((a0 + 1 ≤ a1) ∧ (a2 = (0 : Int))) ∨ ((a1 ≤ a0) ∧ (a3 + 1 ≤ a0) ∧ (a2 = (0 : Int))) ∨ ((a1 ≤ a0) ∧ (a0 ≤ a3) ∧ (a2 = (1 : Int)))) (h1 : a2 ≠ 0) (h2 : a3 = 60) (h3 : a1 = 0) : (0 : Int) ≤ a0 := by omega
theorem ob_1226 {a0 a1 a2 a3 : Int} (h0 : ((a0 + 1 ≤ a1) ∧ (a2 = (0 : Int))) ∨ ((a1 ≤ a0) ∧ (a3 + 1 ≤ a0) ∧ (a2 = (0 : Int))) ∨ ((a1 ≤ a0) ∧ (a0 ≤ a3) ∧ (a2 = (1 : Int)))) (h1 : a2 ≠ 0) (h2 : a3 = 60) (h3 : a1 = 0) : a0 ≤ (60 : Int) := by omega
theorem ob_1227 {a0 a1 a2 a3 : Int} (h0 : ((a0 + 1 ≤ a1) ∧ (a2 = (0 : Int))) ∨ ((a1 ≤ a0) ∧ (a3 + 1 ≤ a0) ∧ (a2 = (0 : Int))) ∨ ((a1 ≤ a0) ∧ (a0 ≤ a3) ∧ (a2 = (1 : Int)))) (h1 : a2 ≠ 0) (h2 : a3 = 60) (h3 : a1 = 0) : a2 = (1 : Int) := by omega
theorem ob_1228 {a0 : Int} (h0 : -1 * a0 + 60 < 0) (h1 : (0 : Int) ≤ a0) (h2 : a0 ≤ (60 : Int)) : False := by omega
theorem ob_1229 {a0 : Int} (h0 : a0 ≤ (1 : Int)) (h1 : a0 ≠ 1) : a0 ≤ (0 : Int) := by omega
theorem ob_1230 {a0 : Int} (h0 : a0 = 0) : 0 ≤ a0 ∧ a0 ≤ 1 := by omega
theorem ob_1231 {a0 : Int} (h0 : a0 ≤ (60 : Int)) : a0 + 1 ≤ 2147483647 := by omega
theorem ob_1232 {a0 a1 a2 : Int} (h0 : a0 ≤ (60 : Int)) (h1 : a1 < a0) (h2 : a2 = a1 + 1) : a2 ≤ (60 : Int) := by omega
theorem ob_1233 {a0 a1 a2 : Int} (h0 : -1 * a0 + 60 < a1 + 1) (h1 : a2 = a0 + 1) : -1 * a2 + 60 < a1 := by omega
theorem ob_1234 {a0 : Int} (h0 : a0 = 0) : a0 ≤ (60 : Int) := by omega
theorem ob_1235 {a0 : Int} (h0 : a0 = 0) : 0 ≤ -1 * a0 + 60 := by omega
theorem ob_1236 {a0 : Int} (h0 : (0 : Int) ≤ a0) (h1 : a0 ≤ (4 : Int)) : (-2147483648) ≤ a0 - 1 := by omega
theorem ob_1237 {a0 : Int} (h0 : (0 : Int) ≤ a0) (h1 : a0 ≤ (4 : Int)) : a0 - 1 ≤ 2147483647 := by omega
theorem ob_1238 {a0 a1 : Int} (h0 : a0 ≤ (4 : Int)) (h1 : a1 + 1 ≤ a0) : a1 < 4 := by omega
theorem ob_1239 {a0 : Int} (h0 : a0 = 1) : a0 ≤ (1296 : Int) := by omega
theorem ob_1240 {a0 : Int} (h0 : (1 : Int) ≤ a0) (h1 : a0 ≤ (6 : Int)) : (-2147483648) ≤ 1 * a0 := by omega
theorem ob_1241 {a0 : Int} (h0 : (1 : Int) ≤ a0) (h1 : a0 ≤ (6 : Int)) : 1 * a0 ≤ 2147483647 := by omega
theorem ob_1242 {a0 a1 a2 : Int} (h0 : (1 : Int) ≤ a0) (h1 : a0 ≤ (6 : Int)) (h2 : a1 = a0) (h3 : a2 = a0) : a2 = a1 := by omega
theorem ob_1243 {a0 a1 : Int} (h0 : (1 : Int) ≤ a0) (h1 : a0 ≤ (6 : Int)) (h2 : a1 = a0) : (1 : Int) ≤ a1 := by omega
theorem ob_1244 {a0 a1 : Int} (h0 : (1 : Int) ≤ a0) (h1 : a0 ≤ (6 : Int)) (h2 : a1 = a0) : a1 ≤ (1296 : Int) := by omega
theorem ob_1245 {a0 a1 : Int} (h0 : (1 : Int) ≤ a0) (h1 : a0 ≤ (6 : Int)) (h2 : a1 = a0) : 1 ≤ a1 := by omega
theorem ob_1246 {a0 a1 : Int} (h0 : (1 : Int) ≤ a0) (h1 : a0 ≤ (6 : Int)) (h2 : a1 = a0) : a1 ≤ 6 := by omega
theorem ob_1247 {a0 : Int} (h0 : (1 : Int) ≤ a0) (h1 : a0 ≤ (6 : Int)) : 1 ≤ a0 := by omega
theorem ob_1248 {a0 : Int} (h0 : (1 : Int) ≤ a0) (h1 : a0 ≤ (6 : Int)) : a0 ≤ 6 := by omega
theorem ob_1249 {a0 a1 a2 : Int} (h0 : 1 * 1 ≤ a0 ∧ a0 ≤ 6 * 6) (h1 : a1 = a2) (h2 : a0 = a2) : a0 = a1 := by omega
theorem ob_1250 {a0 a1 a2 : Int} (h0 : 1 * 1 ≤ a0 ∧ a0 ≤ 6 * 6) (h1 : a1 = a2) (h2 : a0 = a2) : (1 : Int) ≤ a1 := by omega
theorem ob_1251 {a0 a1 a2 : Int} (h0 : 1 * 1 ≤ a0 ∧ a0 ≤ 6 * 6) (h1 : a1 = a2) (h2 : a0 = a2) : a1 ≤ (1296 : Int) := by omega
theorem ob_1252 {a0 a1 : Int} (h0 : 1 * 1 ≤ a0 ∧ a0 ≤ 6 * 6) (h1 : a0 = a1) : 1 ≤ a0 := by omega
theorem ob_1253 {a0 a1 : Int} (h0 : 1 * 1 ≤ a0 ∧ a0 ≤ 6 * 6) (h1 : a0 = a1) : a0 ≤ 36 := by omega
theorem ob_1254 {a0 a1 a2 : Int} (h0 : 1 * 1 ≤ a0 ∧ a0 ≤ 36 * 6) (h1 : a1 = a2) (h2 : a0 = a2) : a0 = a1 := by omega
theorem ob_1255 {a0 a1 a2 : Int} (h0 : 1 * 1 ≤ a0 ∧ a0 ≤ 36 * 6) (h1 : a1 = a2) (h2 : a0 = a2) : (1 : Int) ≤ a1 := by omega
theorem ob_1256 {a0 a1 a2 : Int} (h0 : 1 * 1 ≤ a0 ∧ a0 ≤ 36 * 6) (h1 : a1 = a2) (h2 : a0 = a2) : a1 ≤ (1296 : Int) := by omega
theorem ob_1257 {a0 a1 : Int} (h0 : 1 * 1 ≤ a0 ∧ a0 ≤ 36 * 6) (h1 : a0 = a1) : 1 ≤ a0 := by omega
theorem ob_1258 {a0 a1 : Int} (h0 : 1 * 1 ≤ a0 ∧ a0 ≤ 36 * 6) (h1 : a0 = a1) : a0 ≤ 216 := by omega
theorem ob_1259 {a0 a1 a2 : Int} (h0 : 1 * 1 ≤ a0 ∧ a0 ≤ 216 * 6) (h1 : a1 = a2) (h2 : a0 = a2) : a0 = a1 := by omega
theorem ob_1260 {a0 a1 a2 : Int} (h0 : 1 * 1 ≤ a0 ∧ a0 ≤ 216 * 6) (h1 : a1 = a2) (h2 : a0 = a2) : (1 : Int) ≤ a1 := by omega
theorem ob_1261 {a0 a1 a2 : Int} (h0 : 1 * 1 ≤ a0 ∧ a0 ≤ 216 * 6) (h1 : a1 = a2) (h2 : a0 = a2) : a1 ≤ (1296 : Int) := by omega
theorem ob_1262 {a0 a1 a2 : Int} (h0 : 0 ≤ a0 ∧ a0 ≤ 4) (h1 : a1 + 1 ≤ a0) (h2 : a2 = a0) : (-2147483648) ≤ a2 - 1 := by omega
theorem ob_1263 {a0 a1 a2 : Int} (h0 : 0 ≤ a0 ∧ a0 ≤ 4) (h1 : a1 + 1 ≤ a0) (h2 : a2 = a0) : a2 - 1 ≤ 2147483647 := by omega
theorem ob_1264 {a0 a1 a2 : Int} (h0 : 0 ≤ a0 ∧ a0 ≤ 4) (h1 : (0 : Int) ≤ a1) (h2 : a1 + 1 ≤ a0) (h3 : a2 = a0 + (-1)) : (-2147483648) ≤ a2 - a1 := by omega
theorem ob_1265 {a0 a1 a2 : Int} (h0 : 0 ≤ a0 ∧ a0 ≤ 4) (h1 : (0 : Int) ≤ a1) (h2 : a1 + 1 ≤ a0) (h3 : a2 = a0 + (-1)) : a2 - a1 ≤ 2147483647 := by omega
theorem ob_1266 {a0 : Int} (h0 : (1 : Int) ≤ a0) (h1 : a0 ≤ (6 : Int)) : (1 : Int) ≤ a0 := by omega
theorem ob_1267 {a0 : Int} (h0 : (1 : Int) ≤ a0) (h1 : a0 ≤ (6 : Int)) : a0 ≤ (6 : Int) := by omega
theorem ob_1268 {a0 a1 a2 : Int} (h0 : 0 ≤ a0 ∧ a0 ≤ 4) (h1 : (0 : Int) ≤ a1) (h2 : a1 + 1 ≤ a0) (h3 : a2 = a0 + -1 * a1 + (-1)) : (0 : Int) ≤ a2 := by omega
theorem ob_1269 {a0 a1 a2 : Int} (h0 : 0 ≤ a0 ∧ a0 ≤ 4) (h1 : (0 : Int) ≤ a1) (h2 : a1 + 1 ≤ a0) (h3 : a2 = a0 + -1 * a1 + (-1)) : a2 ≤ (4 : Int) := by omega
theorem ob_1270 {a0 a1 a2 : Int} (h0 : a0 = a1) (h1 : a1 = a2) : a0 = a2 := by omega
theorem ob_1271 {a0 a1 a2 : Int} (h0 : a0 = a1) (h1 : (1 : Int) ≤ a0) (h2 : a0 ≤ (1296 : Int)) (h3 : a2 = a1) : 1 ≤ a2 := by omega
theorem ob_1272 {a0 a1 : Int} (h0 : (0 : Int) ≤ a0) (h1 : 0 ≤ a1 ∧ a1 ≤ a0) : 0 ≤ a0 := by omega
theorem ob_1273 {a0 a1 : Int} (h0 : a0 = a1) (h1 : (1 : Int) ≤ a0) (h2 : a0 ≤ (1296 : Int)) : 1 ≤ a1 := by omega
theorem ob_1274 {a0 a1 a2 : Int} (h0 : 0 ≤ a0 ∧ a0 ≤ a1) (h1 : a0 = a2) : 0 ≤ a0 := by omega
theorem ob_1275 {a0 a1 a2 a3 a4 : Int} (h0 : 0 ≤ a0 ∧ a0 ≤ a1) (h1 : 0 ≤ a2 ∧ a2 < a3 ∧ a2 ≤ a0) (h2 : a0 = a4) : 0 ≤ a4 := by omega
theorem ob_1276 {a0 a1 a2 a3 : Int} (h0 : (1 : Int) ≤ a0) (h1 : a0 ≤ (6 : Int)) (h2 : 0 ≤ a1 ∧ a1 < a0 ∧ a1 ≤ a2) (h3 : a2 = a3) : 1 ≤ a0 := by omega
theorem ob_1277 {a0 a1 a2 a3 a4 : Int} (h0 : 0 ≤ a0 ∧ a0 < a1 ∧ a0 ≤ a2) (h1 : a2 = a3) (h2 : a0 = a4) : (0 : Int) ≤ a4 := by omega
theorem ob_1278 {a0 a1 a2 a3 a4 : Int} (h0 : (1 : Int) ≤ a0) (h1 : a0 ≤ (6 : Int)) (h2 : 0 ≤ a1 ∧ a1 < a0 ∧ a1 ≤ a2) (h3 : a2 = a3) (h4 : a1 = a4) : a4 + 1 ≤ a0 := by omega
theorem ob_1279 {a0 a1 a2 a3 a4 a5 : Int} (h0 : 0 ≤ a0 ∧ a0 ≤ a1) (h1 : 0 ≤ a2 ∧ a2 < a3 ∧ a2 ≤ a0) (h2 : a0 = a4) (h3 : a2 = a5) : a5 ≤ a4 := by omega
theorem ob_1280 {a0 : Int} (h0 : a0 = 1) : ((a0 = (1 : Int))) ∨ ((a0 = (0 : Int))) := by omega
theorem ob_1281 {a0 a1 : Int} (h0 : 0 ≤ a0 ∧ a0 ≤ 5) (h1 : a1 = a0) : (-2147483648) ≤ a1 + 1 := by omega
theorem ob_1282 {a0 a1 : Int} (h0 : 0 ≤ a0 ∧ a0 ≤ 5) (h1 : a1 = a0) : a1 + 1 ≤ 2147483647 := by omega
theorem ob_1283 {a0 a1 a2 : Int} (h0 : a0 = a1 + 1) (h1 : a1 = a2) : a0 = a2 + 1 := by omega
theorem ob_1284 {a0 a1 : Int} (h0 : 0 ≤ a0 ∧ a0 ≤ 5) (h1 : a1 = a0 + 1) : (1 : Int) ≤ a1 := by omega
theorem ob_1285 {a0 a1 : Int} (h0 : 0 ≤ a0 ∧ a0 ≤ 5) (h1 : a1 = a0 + 1) : a1 ≤ (6 : Int) := by omega
theorem ob_1286 {a0 a1 a2 a3 : Int} (h0 : a0 = a1) (h1 : a2 = a3) : a0 = a1 := by omega
theorem ob_1287 {a0 a1 a2 a3 a4 a5 : Int} (h0 : a0 = a1) (h1 : a0 + 1 ≤ a2) (h2 : a3 ≠ a4) (h3 : a4 = a5) (h4 : a3 = a1) (h5 : a2 = a5 + 1) : a1 + 1 ≤ a5 := by omega
theorem ob_1288 {a0 : Int} (h0 : a0 = 0) : ((a0 = (1 : Int))) ∨ ((a0 = (0 : Int))) := by omega
theorem ob_1289 {a0 a1 a2 : Int} (h0 : a0 = a1) (h1 : (0 : Int) ≤ a0) (h2 : a2 = a1) : (0 : Int) ≤ a2 := by omega
theorem ob_1290 {a0 a1 a2 : Int} (h0 : a0 + 1 ≤ a1) (h1 : a2 = a0) : a2 + 1 ≤ a1 := by omega
theorem ob_1291 {a0 : Int} (h0 : -1 * a0 + 1296 < 0) (h1 : (0 : Int) ≤ a0) (h2 : a0 ≤ (1296 : Int)) : False := by omega
theorem ob_1292 {a0 a1 : Int} (h0 : 0 ≤ a0 ∧ a0 ≤ 4) (h1 : a1 = a0) : (0 : Int) ≤ a1 := by omega
theorem ob_1293 {a0 a1 : Int} (h0 : 0 ≤ a0 ∧ a0 ≤ 4) (h1 : a1 = a0) : a1 ≤ (4 : Int) := by omega
theorem ob_1294 {a0 a1 a2 a3 : Int} (h0 : a0 = a1) (h1 : a1 = a2) (h2 : a2 = a3) : a0 = a3 := by omega
theorem ob_1295 {a0 a1 a2 a3 a4 : Int} (h0 : a0 = a1) (h1 : a2 = a3) (h2 : a3 = a4) : a0 = a1 := by omega
theorem ob_1296 {a0 a1 a2 a3 : Int} (h0 : 0 ≤ a0 ∧ a0 ≤ 4) (h1 : a1 ≤ a2) (h2 : a1 = a0) (h3 : a3 = a0) : (0 : Int) ≤ a3 := by omega
theorem ob_1297 {a0 a1 a2 a3 : Int} (h0 : 0 ≤ a0 ∧ a0 ≤ 4) (h1 : a1 ≤ a2) (h2 : a1 = a0) (h3 : a3 = a0) : a3 ≤ (4 : Int) := by omega
theorem ob_1298 {a0 a1 a2 a3 : Int} (h0 : 0 ≤ a0 ∧ a0 ≤ 4) (h1 : a2 < a1) (h2 : a1 = a0) (h3 : a3 = a0) : (0 : Int) ≤ a3 := by omega
theorem ob_1299 {a0 a1 a2 a3 : Int} (h0 : 0 ≤ a0 ∧ a0 ≤ 4) (h1 : a2 < a1) (h2 : a1 = a0) (h3 : a3 = a0) : a3 ≤ (4 : Int) := by omega
theorem ob_1300 {a0 a1 a2 : Int} (h0 : 0 ≤ a0 ∧ a0 ≤ 4) (h1 : a2 < a1) (h2 : a1 = a0) : a2 < 4 := by omega
theorem ob_1301 {a0 : Int} (h0 : ((a0 = (1 : Int))) ∨ ((a0 = (0 : Int)))) (h1 : a0 ≠ 0) : a0 = (1 : Int) := by omega
theorem ob_1302 {a0 : Int} (h0 : a0 ≤ (1296 : Int)) : a0 + 1 ≤ 2147483647 := by omega
theorem ob_1303 {a0 : Int} (h0 : a0 ≤ (1296 : Int)) : a0 ≤ (1048576 : Int) := by omega
theorem ob_1304 {a0 a1 : Int} (h0 : (0 : Int) ≤ a0 + 1) (h1 : a0 < a1) : (0 : Int) ≤ a1 + 1 := by omega
theorem ob_1305 {a0 a1 a2 a3 a4 a5 : Int} (h0 : a0 = a1) (h1 : a1 = a2) (h2 : a0 ≤ (1296 : Int)) (h3 : a4 < a3) (h4 : a3 = a2) (h5 : a5 = a4 + 1) : a5 ≤ (1296 : Int) := by omega
theorem ob_1306 {a0 a1 a2 : Int} (h0 : -1 * a0 + 1296 < a1 + 1) (h1 : a2 = a0 + 1) : -1 * a2 + 1296 < a1 := by omega
theorem ob_1307 {a0 a1 : Int} (h0 : (0 : Int) ≤ a0 + 1) (h1 : a1 ≤ a0) : (0 : Int) ≤ a0 + 1 := by omega
theorem ob_1308 {a0 a1 a2 a3 a4 a5 : Int} (h0 : a0 = a1) (h1 : a2 = a3) (h2 : a3 = a4) (h3 : a1 = a5) : a0 = a5 := by omega
theorem ob_1309 {a0 a1 a2 a3 a4 a5 a6 : Int} (h0 : a0 = a1) (h1 : a2 = a3) (h2 : a3 = a4) (h3 : a5 = a6) : a0 = a1 := by omega
theorem ob_1310 {a0 a1 a2 a3 a4 a5 a6 : Int} (h0 : 0 ≤ a0 ∧ a0 ≤ 5) (h1 : a1 + 1 ≤ a2) (h2 : a4 < a3) (h3 : a4 = a5) (h4 : a3 = a0) (h5 : a2 = a0 + 1) (h6 : a6 = a0) : (-2147483648) ≤ a6 + 1 := by omega
theorem ob_1311 {a0 a1 a2 a3 a4 a5 a6 : Int} (h0 : 0 ≤ a0 ∧ a0 ≤ 5) (h1 : a1 + 1 ≤ a2) (h2 : a4 < a3) (h3 : a4 = a5) (h4 : a3 = a0) (h5 : a2 = a0 + 1) (h6 : a6 = a0) : a6 + 1 ≤ 2147483647 := by omega
theorem ob_1312 {a0 a1 a2 a3 a4 a5 a6 : Int} (h0 : 0 ≤ a0 ∧ a0 ≤ 5) (h1 : a1 + 1 ≤ a2) (h2 : a4 < a3) (h3 : a4 = a5) (h4 : a3 = a0) (h5 : a2 = a0 + 1) (h6 : a6 = a0 + 1) : (1 : Int) ≤ a6 := by omega
theorem ob_1313 {a0 a1 a2 a3 a4 a5 a6 : Int} (h0 : 0 ≤ a0 ∧ a0 ≤ 5) (h1 : a1 + 1 ≤ a2) (h2 : a4 < a3) (h3 : a4 = a5) (h4 : a3 = a0) (h5 : a2 = a0 + 1) (h6 : a6 = a0 + 1) : a6 ≤ (6 : Int) := by omega
theorem ob_1314 {a0 a1 a2 a3 a4 a5 a6 : Int} (h0 : a0 = a1) (h1 : a2 = a3) (h2 : a3 = a4) (h3 : a5 = a6) (h4 : a1 = a6) : a0 = a6 := by omega
theorem ob_1315 {a0 a1 a2 a3 a4 : Int} (h0 : a1 < a0) (h1 : a1 = a2) (h2 : a0 = a3) (h3 : a4 = a2) : a4 + 1 ≤ a3 := by omega
theorem ob_1316 {a0 : Int} (h0 : a0 = 0) : a0 ≤ (1296 : Int) := by omega
theorem ob_1317 {a0 : Int} (h0 : a0 = 0) : 0 ≤ -1 * a0 + 1296 := by omega
theorem ob_1318 {a0 a1 a2 a3 : Int} (h0 : (0 : Int) ≤ a0) (h1 : a0 < a1) (h2 : a1 = a2) (h3 : a3 = a2) : (1 : Int) ≤ a3 := by omega
theorem ob_1319 {a0 a1 a2 a3 : Int} (h0 : 0 ≤ a0 ∧ a0 ≤ 4) (h1 : a2 < a1) (h2 : a1 = a0) (h3 : a3 = a0) : a3 ≤ (6 : Int) := by omega
theorem ob_1320 {a0 a1 a2 a3 a4 : Int} (h0 : a0 = a1) (h1 : a0 + 1 ≤ a2) (h2 : a2 = a3) (h3 : a4 = a1) : a4 + 1 ≤ a3 := by omega
theorem ob_1321 {a0 : Int} (h0 : (0 : Int) ≤ a0) (h1 : a0 ≤ (6 : Int)) : (-2147483648) ≤ 1 * a0 := by omega
theorem ob_1322 {a0 : Int} (h0 : (0 : Int) ≤ a0) (h1 : a0 ≤ (6 : Int)) : 1 * a0 ≤ 2147483647 := by omega
theorem ob_1323 {a0 a1 a2 : Int} (h0 : (0 : Int) ≤ a0) (h1 : a0 ≤ (6 : Int)) (h2 : a1 = a0) (h3 : a2 = a0) : a2 = a1 := by omega
theorem ob_1324 {a0 a1 : Int} (h0 : (0 : Int) ≤ a0) (h1 : a0 ≤ (6 : Int)) (h2 : a1 = a0) : (0 : Int) ≤ a1 := by omega
theorem ob_1325 {a0 a1 : Int} (h0 : (0 : Int) ≤ a0) (h1 : a0 ≤ (6 : Int)) (h2 : a1 = a0) : a1 ≤ (1296 : Int) := by omega
theorem ob_1326 {a0 a1 : Int} (h0 : (0 : Int) ≤ a0) (h1 : a0 ≤ (6 : Int)) (h2 : a1 = a0) : 0 ≤ a1 := by omega
theorem ob_1327 {a0 a1 : Int} (h0 : (0 : Int) ≤ a0) (h1 : a0 ≤ (6 : Int)) (h2 : a1 = a0) : a1 ≤ 6 := by omega
theorem ob_1328 {a0 : Int} (h0 : (0 : Int) ≤ a0) (h1 : a0 ≤ (6 : Int)) : 0 ≤ a0 := by omega
theorem ob_1329 {a0 : Int} (h0 : (0 : Int) ≤ a0) (h1 : a0 ≤ (6 : Int)) : a0 ≤ 6 := by omega
theorem ob_1330 {a0 a1 a2 : Int} (h0 : 0 * 0 ≤ a0 ∧ a0 ≤ 6 * 6) (h1 : a1 = a2) (h2 : a0 = a2) : a0 = a1 := by omega
theorem ob_1331 {a0 a1 a2 : Int} (h0 : 0 * 0 ≤ a0 ∧ a0 ≤ 6 * 6) (h1 : a1 = a2) (h2 : a0 = a2) : (0 : Int) ≤ a1 := by omega
theorem ob_1332 {a0 a1 a2 : Int} (h0 : 0 * 0 ≤ a0 ∧ a0 ≤ 6 * 6) (h1 : a1 = a2) (h2 : a0 = a2) : a1 ≤ (1296 : Int) := by omega
theorem ob_1333 {a0 a1 : Int} (h0 : 0 * 0 ≤ a0 ∧ a0 ≤ 6 * 6) (h1 : a0 = a1) : 0 ≤ a0 := by omega
theorem ob_1334 {a0 a1 : Int} (h0 : 0 * 0 ≤ a0 ∧ a0 ≤ 6 * 6) (h1 : a0 = a1) : a0 ≤ 36 := by omega
theorem ob_1335 {a0 a1 a2 : Int} (h0 : 0 * 0 ≤ a0 ∧ a0 ≤ 36 * 6) (h1 : a1 = a2) (h2 : a0 = a2) : a0 = a1 := by omega
theorem ob_1336 {a0 a1 a2 : Int} (h0 : 0 * 0 ≤ a0 ∧ a0 ≤ 36 * 6) (h1 : a1 = a2) (h2 : a0 = a2) : (0 : Int) ≤ a1 := by omega
theorem ob_1337 {a0 a1 a2 : Int} (h0 : 0 * 0 ≤ a0 ∧ a0 ≤ 36 * 6) (h1 : a1 = a2) (h2 : a0 = a2) : a1 ≤ (1296 : Int) := by omega
theorem ob_1338 {a0 a1 : Int} (h0 : 0 * 0 ≤ a0 ∧ a0 ≤ 36 * 6) (h1 : a0 = a1) : 0 ≤ a0 := by omega
theorem ob_1339 {a0 a1 : Int} (h0 : 0 * 0 ≤ a0 ∧ a0 ≤ 36 * 6) (h1 : a0 = a1) : a0 ≤ 216 := by omega
theorem ob_1340 {a0 a1 a2 : Int} (h0 : 0 * 0 ≤ a0 ∧ a0 ≤ 216 * 6) (h1 : a1 = a2) (h2 : a0 = a2) : a0 = a1 := by omega
theorem ob_1341 {a0 a1 a2 : Int} (h0 : 0 * 0 ≤ a0 ∧ a0 ≤ 216 * 6) (h1 : a1 = a2) (h2 : a0 = a2) : (0 : Int) ≤ a1 := by omega
theorem ob_1342 {a0 a1 a2 : Int} (h0 : 0 * 0 ≤ a0 ∧ a0 ≤ 216 * 6) (h1 : a1 = a2) (h2 : a0 = a2) : a1 ≤ (1296 : Int) := by omega
theorem ob_1343 {a0 a1 : Int} (h0 : 0 ≤ a0 ∧ a0 ≤ 4) (h1 : a1 = a0) : a1 ≤ (6 : Int) := by omega
theorem ob_1344 {a0 : Int} (h0 : (0 : Int) ≤ a0) (h1 : a0 ≤ (1048576 : Int)) : (0 : Int) ≤ a0 := by omega
theorem ob_1345 {a0 : Int} (h0 : (0 : Int) ≤ a0) (h1 : a0 ≤ (1048576 : Int)) : a0 ≤ (1048576 : Int) := by omega
theorem ob_1346 {a0 : Int} (h0 : 0 ≤ a0) : (0 : Int) ≤ a0 + 1 := by omega
theorem ob_1347 {a0 a1 : Int} (h0 : 0 ≤ a0) (h1 : a0 < a1) : (0 : Int) ≤ a0 + 1 := by omega
theorem ob_1348 {a0 a1 : Int} (h0 : (0 : Int) ≤ a0 + 1) (h1 : 0 ≤ a0) (h2 : a0 ≤ a1) : (0 : Int) ≤ a0 + 1 := by omega
theorem ob_1349 {a0 : Int} (h0 : a0 = 0) : a0 ≤ (1048576 : Int) := by omega
theorem ob_1350 {a0 a1 a2 a3 : Int} (h0 : 0 ≤ a0 ∧ a0 ≤ 5) (h1 : a1 + 1 ≤ a0) (h2 : a1 = a2) (h3 : a3 = a0) : (-2147483648) ≤ a3 + 1 := by omega
theorem ob_1351 {a0 a1 a2 a3 : Int} (h0 : 0 ≤ a0 ∧ a0 ≤ 5) (h1 : a1 + 1 ≤ a0) (h2 : a1 = a2) (h3 : a3 = a0) : a3 + 1 ≤ 2147483647 := by omega
theorem ob_1352 {a0 a1 a2 a3 : Int} (h0 : 0 ≤ a0 ∧ a0 ≤ 5) (h1 : a1 + 1 ≤ a0) (h2 : a1 = a2) (h3 : a3 = a0 + 1) : (1 : Int) ≤ a3 := by omega
theorem ob_1353 {a0 a1 a2 a3 : Int} (h0 : 0 ≤ a0 ∧ a0 ≤ 5) (h1 : a1 + 1 ≤ a0) (h2 : a1 = a2) (h3 : a3 = a0 + 1) : a3 ≤ (6 : Int) := by omega
theorem ob_1354 {a0 a1 a2 : Int} (h0 : a0 < 0) (h1 : (0 : Int) ≤ a0 + 1) (h2 : a0 + 1 ≤ a1) (h3 : 0 ≤ a0) (h4 : a0 = a2) : False := by omega
theorem ob_1355 {a0 a1 : Int} (h0 : 0 ≤ a0) (h1 : a0 = a1) : (0 : Int) ≤ a0 := by omega
theorem ob_1356 {a0 a1 a2 : Int} (h0 : 0 ≤ a0) (h1 : (0 : Int) ≤ a0 + 1) (h2 : a0 + 1 ≤ a1) (h3 : a0 < 0) (h4 : a0 = a2) : False := by omega
theorem ob_1357 {a0 a1 : Int} (h0 : (0 : Int) ≤ a0 + 1000000000) (h1 : a0 < a1) : (0 : Int) ≤ a1 + 1000000000 := by omega
theorem ob_1358 {a0 a1 : Int} (h0 : (0 : Int) ≤ a0 + 1000000000) (h1 : a1 ≤ a0) : (0 : Int) ≤ a0 + 1000000000 := by omega
theorem ob_1359 {a0 : Int} (h0 : a0 = (-1000000000)) : (0 : Int) ≤ a0 + 1000000000 := by omega
theorem ob_1360 {a0 : Int} (h0 : -1 * a0 + 16 < 0) (h1 : (0 : Int) ≤ a0) (h2 : a0 ≤ (16 : Int)) : False := by omega
theorem ob_1361 {a0 : Int} (h0 : a0 ≤ (16 : Int)) : a0 + 1 ≤ 2147483647 := by omega
theorem ob_1362 {a0 a1 : Int} (h0 : a0 < 16) (h1 : a1 = a0 + 1) : a1 ≤ (16 : Int) := by omega
theorem ob_1363 {a0 a1 a2 : Int} (h0 : -1 * a0 + 16 < a1 + 1) (h1 : a2 = a0 + 1) : -1 * a2 + 16 < a1 := by omega
theorem ob_1364 {a0 a1 a2 a3 : Int} (h0 : 0 ≤ a0 ∧ a0 < 4 ∧ a0 ≤ a1) (h1 : a1 = 4 * a2 + a0) (h2 : a3 < a0) : (0 : Int) ≤ a0 := by omega
theorem ob_1365 {a0 a1 a2 a3 : Int} (h0 : 0 ≤ a0 ∧ a0 < 4 ∧ a0 ≤ a1) (h1 : ((a0 + 1 ≤ (0 : Int)) ∧ (a2 = (0 : Int))) ∨ (((0 : Int) ≤ a0) ∧ (a3 ≤ a0) ∧ (a2 = (0 : Int))) ∨ (((0 : Int) ≤ a0) ∧ (a0 + 1 ≤ a3) ∧ (a2 = (1 : Int)))) (h2 : a2 = 0) : a3 ≤ a0 := by omega
theorem ob_1366 {a0 a1 a2 : Int} (h0 : 0 ≤ a0 ∧ a0 ≤ a1) (h1 : 4 * a0 ≤ a1 ∧ a1 < 4 * a0 + 4) (h2 : a0 < a2) : (0 : Int) ≤ a0 := by omega
theorem ob_1367 {a0 a1 a2 : Int} (h0 : a1 < a0) (h1 : a0 + 1 ≤ a2) : a1 + 1 ≤ a2 := by omega
theorem ob_1368 {a0 a1 a2 : Int} (h0 : 0 ≤ a0) (h1 : a0 = a1) (h2 : a2 = a1) : (0 : Int) ≤ a2 := by omega
theorem ob_1369 {a0 a1 a2 a3 : Int} (h0 : a0 + 1 ≤ a1) (h1 : a0 = a2) (h2 : a3 = a2) : a3 + 1 ≤ a1 := by omega
theorem ob_1370 {a0 a1 : Int} (h0 : 0 ≤ a0 ∧ a0 < 4 ∧ a0 ≤ a1) : (0 : Int) ≤ a0 := by omega
theorem ob_1371 {a0 : Int} (h0 : a0 = 0) : a0 ≤ (16 : Int) := by omega
theorem ob_1372 {a0 : Int} (h0 : a0 = 0) : 0 ≤ -1 * a0 + 16 := by omega
theorem ob_1373 {a0 : Int} (h0 : -1 * a0 + 2147483647 < 0) (h1 : (1 : Int) ≤ a0) (h2 : a0 ≤ (2147483647 : Int)) : False := by omega
theorem ob_1374 {a0 a1 : Int} (h0 : a1 < a0) (h1 : (-2147483648) ≤ a0 ∧ a0 ≤ 2147483647) : a1 + 1 ≤ 2147483647 := by omega
theorem ob_1375 {a0 a1 a2 : Int} (h0 : a1 < a0) (h1 : (-2147483648) ≤ a0 ∧ a0 ≤ 2147483647) (h2 : a2 = a1 + 1) : a2 ≤ (2147483647 : Int) := by omega
theorem ob_1376 {a0 a1 a2 : Int} (h0 : -1 * a0 + 2147483647 < a1 + 1) (h1 : a2 = a0 + 1) : -1 * a2 + 2147483647 < a1 := by omega
theorem ob_1377 {a0 a1 : Int} (h0 : (0 : Int) ≤ a0) (h1 : a1 < a0) : (0 : Int) ≤ a0 := by omega
theorem ob_1378 {a0 a1 : Int} (h0 : a1 ≤ a0) (h1 : a0 ≠ a1) : a1 + 1 ≤ a0 := by omega
theorem ob_1379 {a0 a1 : Int} (h0 : (0 : Int) ≤ a0) (h1 : a0 ≤ a1) : (0 : Int) ≤ a1 := by omega
theorem ob_1380 {a0 a1 : Int} (h0 : (0 : Int) ≤ a0) (h1 : a0 ≤ a1) (h2 : a1 = a0) : (0 : Int) ≤ a0 := by omega
theorem ob_1381 {a0 : Int} (h0 : a0 = 0) : (0 : Int) ≤ a0 + 1048576 := by omega
theorem ob_1382 {a0 : Int} (h0 : a0 = 1) : (0 : Int) ≤ a0 + 1048576 := by omega
theorem ob_1383 {a0 : Int} (h0 : (0 : Int) ≤ a0 + 1048576) (h1 : a0 ≤ (1 : Int)) : (0 : Int) ≤ a0 + 1048576 := by omega
theorem ob_1384 {a0 : Int} (h0 : (0 : Int) ≤ a0 + 1048576) (h1 : a0 ≤ (1 : Int)) : a0 ≤ (1 : Int) := by omega
theorem ob_1385 {a0 : Int} (h0 : a0 = 1) : a0 ≤ (2147483647 : Int) := by omega
theorem ob_1386 {a0 : Int} (h0 : a0 = 1) : 0 ≤ -1 * a0 + 2147483647 := by omega
theorem ob_1387 {a0 a1 a2 a3 : Int} (h0 : (0 : Int) ≤ a0) (h1 : a0 + 1 ≤ a1) (h2 : a0 ≠ a2) : ((a0 ≠ a2)) ∨ ((a0 = a2) ∧ (a3 = (0 : Int))) := by omega
theorem ob_1388 {a0 a1 a2 a3 : Int} (h0 : (0 : Int) ≤ a0) (h1 : a0 + 1 ≤ a1) (h2 : a0 = a2) (h3 : a3 = 0) : ((a0 ≠ a2)) ∨ ((a0 = a2) ∧ (a3 = (0 : Int))) := by omega
theorem ob_1389 {a0 : Int} (h0 : -1 * a0 + 25 < 0) (h1 : (0 : Int) ≤ a0) (h2 : a0 ≤ (25 : Int)) : False := by omega
theorem ob_1390 {a0 a1 a2 a3 : Int} (h0 : 0 ≤ a0 ∧ a0 ≤ 5) (h1 : a1 ≤ a2) (h2 : a1 = a0) (h3 : a3 = a0) : 0 ≤ a3 := by omega
theorem ob_1391 {a0 a1 a2 a3 : Int} (h0 : 0 ≤ a0 ∧ a0 ≤ 5) (h1 : a1 ≤ a2) (h2 : a1 = a0) (h3 : a3 = a0) : a3 ≤ 5 := by omega
theorem ob_1392 {a0 a1 a2 : Int} (h0 : 0 ≤ a0 ∧ a0 ≤ 5) (h1 : a1 ≤ a2) (h2 : a1 = a0) : 0 ≤ a0 := by omega
theorem ob_1393 {a0 a1 a2 : Int} (h0 : 0 ≤ a0 ∧ a0 ≤ 5) (h1 : a1 ≤ a2) (h2 : a1 = a0) : a0 ≤ 5 := by omega
theorem ob_1394 {a0 a1 a2 : Int} (h0 : a1 < a0) (h1 : a0 = a2) : a1 < a0 := by omega
theorem ob_1395 {a0 a1 a2 a3 : Int} (h0 : 0 ≤ a0 ∧ a0 ≤ 5) (h1 : a1 ≤ a2) (h2 : 1 ≤ a0) (h3 : a1 = a0) (h4 : a3 = a0) : 1 ≤ a3 := by omega
theorem ob_1396 {a0 a1 a2 : Int} (h0 : 0 ≤ a0 ∧ a0 ≤ 5) (h1 : a1 ≤ a2) (h2 : 1 ≤ a0) (h3 : a1 = a0) : 1 ≤ a0 := by omega
theorem ob_1397 {a0 a1 a2 : Int} (h0 : 0 ≤ a0 ∧ a0 ≤ 5) (h1 : a1 ≤ a2) (h2 : 1 ≤ a0) (h3 : a1 = a0) : 0 ≤ a0 := by omega
theorem ob_1398 {a0 a1 a2 : Int} (h0 : 0 ≤ a0 ∧ a0 ≤ 5) (h1 : a1 ≤ a2) (h2 : 1 ≤ a0) (h3 : a1 = a0) : a0 ≤ 5 := by omega
theorem ob_1399 {a0 a1 : Int} (h0 : 1 ≤ a0) (h1 : a1 = a0) : 1 ≤ a1 := by omega
theorem ob_1400 {a0 : Int} (h0 : 1 ≤ a0) : 1 ≤ a0 := by omega
theorem ob_1401 {a0 a1 a2 a3 : Int} (h0 : 0 ≤ a0 ∧ a0 ≤ a1) (h1 : a0 < a2) (h2 : a0 = a3) : (0 : Int) ≤ a0 := by omega
theorem ob_1402 {a0 a1 a2 : Int} (h0 : a0 < a1) (h1 : a0 = a2) : a0 + 1 ≤ a1 := by omega
theorem ob_1403 {a0 : Int} (h0 : a0 ≤ (25 : Int)) : a0 + 1 ≤ 2147483647 := by omega
theorem ob_1404 {a0 a1 a2 a3 : Int} (h0 : 0 * 0 ≤ a0 ∧ a0 ≤ 5 * 5) (h1 : a1 < a0) (h2 : a0 = a2) (h3 : a3 = a1 + 1) : a3 ≤ (25 : Int) := by omega
theorem ob_1405 {a0 a1 a2 : Int} (h0 : -1 * a0 + 25 < a1 + 1) (h1 : a2 = a0 + 1) : -1 * a2 + 25 < a1 := by omega
theorem ob_1406 {a0 a1 a2 a3 a4 : Int} (h0 : 0 ≤ a0 ∧ a0 < a1 ∧ a0 ≤ a2) (h1 : a1 = a3) (h2 : a0 = a4) : (0 : Int) ≤ a0 := by omega
theorem ob_1407 {a0 a1 a2 a3 a4 : Int} (h0 : 0 ≤ a0 ∧ a0 < a1 ∧ a0 ≤ a2) (h1 : a1 = a3) (h2 : a0 = a4) : a0 + 1 ≤ a3 := by omega
theorem ob_1408 : (0 : Int) < 4 := by omega
theorem ob_1409 : 0 ≤ (1 : Int) := by omega
theorem ob_1410 : (1 : Int) < 4 := by omega
theorem ob_1411 {a0 : Int} (h0 : a0 = 0) : (-2147483648) ≤ a0 + 1 := by omega
theorem ob_1412 {a0 : Int} (h0 : a0 = 0) : a0 + 1 ≤ 2147483647 := by omega
theorem ob_1413 {a0 : Int} (h0 : a0 = 2) : a0 ≤ (4 : Int) := by omega
theorem ob_1414 {a0 : Int} (h0 : a0 = 0) : a0 ≤ (25 : Int) := by omega
theorem ob_1415 {a0 : Int} (h0 : a0 = 0) : 0 ≤ -1 * a0 + 25 := by omega
theorem ob_1416 {a0 : Int} (h0 : (100 : Int) ≤ a0) (h1 : a0 ≤ (100 : Int)) : (-2147483648) ≤ 1 * a0 := by omega
theorem ob_1417 {a0 : Int} (h0 : (100 : Int) ≤ a0) (h1 : a0 ≤ (100 : Int)) : 1 * a0 ≤ 2147483647 := by omega
theorem ob_1418 {a0 a1 a2 : Int} (h0 : (100 : Int) ≤ a0) (h1 : a0 ≤ (100 : Int)) (h2 : a1 = a0) (h3 : a2 = a0) : a2 = a1 := by omega
theorem ob_1419 {a0 a1 : Int} (h0 : (100 : Int) ≤ a0) (h1 : a0 ≤ (100 : Int)) (h2 : a1 = a0) : (1 : Int) ≤ a1 := by omega
theorem ob_1420 {a0 a1 : Int} (h0 : (100 : Int) ≤ a0) (h1 : a0 ≤ (100 : Int)) (h2 : a1 = a0) : a1 ≤ (100000000 : Int) := by omega
theorem ob_1421 {a0 a1 : Int} (h0 : (100 : Int) ≤ a0) (h1 : a0 ≤ (100 : Int)) (h2 : a1 = a0) : 100 ≤ a1 := by omega
theorem ob_1422 {a0 a1 : Int} (h0 : (100 : Int) ≤ a0) (h1 : a0 ≤ (100 : Int)) (h2 : a1 = a0) : a1 ≤ 100 := by omega
theorem ob_1423 {a0 : Int} (h0 : (100 : Int) ≤ a0) (h1 : a0 ≤ (100 : Int)) : 100 ≤ a0 := by omega
theorem ob_1424 {a0 : Int} (h0 : (100 : Int) ≤ a0) (h1 : a0 ≤ (100 : Int)) : a0 ≤ 100 := by omega
theorem ob_1425 {a0 a1 a2 : Int} (h0 : 100 * 100 ≤ a0 ∧ a0 ≤ 100 * 100) (h1 : a1 = a2) (h2 : a0 = a2) : a0 = a1 := by omega
theorem ob_1426 {a0 a1 a2 : Int} (h0 : 100 * 100 ≤ a0 ∧ a0 ≤ 100 * 100) (h1 : a1 = a2) (h2 : a0 = a2) : (1 : Int) ≤ a1 := by omega
theorem ob_1427 {a0 a1 a2 : Int} (h0 : 100 * 100 ≤ a0 ∧ a0 ≤ 100 * 100) (h1 : a1 = a2) (h2 : a0 = a2) : a1 ≤ (100000000 : Int) := by omega
theorem ob_1428 {a0 a1 : Int} (h0 : 100 * 100 ≤ a0 ∧ a0 ≤ 100 * 100) (h1 : a0 = a1) : 10000 ≤ a0 := by omega
theorem ob_1429 {a0 a1 : Int} (h0 : 100 * 100 ≤ a0 ∧ a0 ≤ 100 * 100) (h1 : a0 = a1) : a0 ≤ 10000 := by omega
theorem ob_1430 {a0 a1 a2 : Int} (h0 : 10000 * 100 ≤ a0 ∧ a0 ≤ 10000 * 100) (h1 : a1 = a2) (h2 : a0 = a2) : a0 = a1 := by omega
theorem ob_1431 {a0 a1 a2 : Int} (h0 : 10000 * 100 ≤ a0 ∧ a0 ≤ 10000 * 100) (h1 : a1 = a2) (h2 : a0 = a2) : (1 : Int) ≤ a1 := by omega
theorem ob_1432 {a0 a1 a2 : Int} (h0 : 10000 * 100 ≤ a0 ∧ a0 ≤ 10000 * 100) (h1 : a1 = a2) (h2 : a0 = a2) : a1 ≤ (100000000 : Int) := by omega
theorem ob_1433 {a0 a1 : Int} (h0 : 10000 * 100 ≤ a0 ∧ a0 ≤ 10000 * 100) (h1 : a0 = a1) : 1000000 ≤ a0 := by omega
theorem ob_1434 {a0 a1 : Int} (h0 : 10000 * 100 ≤ a0 ∧ a0 ≤ 10000 * 100) (h1 : a0 = a1) : a0 ≤ 1000000 := by omega
theorem ob_1435 {a0 a1 a2 : Int} (h0 : 1000000 * 100 ≤ a0 ∧ a0 ≤ 1000000 * 100) (h1 : a1 = a2) (h2 : a0 = a2) : a0 = a1 := by omega
theorem ob_1436 {a0 a1 a2 : Int} (h0 : 1000000 * 100 ≤ a0 ∧ a0 ≤ 1000000 * 100) (h1 : a1 = a2) (h2 : a0 = a2) : (1 : Int) ≤ a1 := by omega
theorem ob_1437 {a0 a1 a2 : Int} (h0 : 1000000 * 100 ≤ a0 ∧ a0 ≤ 1000000 * 100) (h1 : a1 = a2) (h2 : a0 = a2) : a1 ≤ (100000000 : Int) := by omega
theorem ob_1438 {a0 a1 a2 a3 : Int} (h0 : ((a0 + 1 ≤ a1) ∧ (a2 = (0 : Int))) ∨ ((a1 ≤ a0) ∧ (a3 + 1 ≤ a0) ∧ (a2 = (0 : Int))) ∨ ((a1 ≤ a0) ∧ (a0 ≤ a3) ∧ (a2 = (1 : Int)))) (h1 : a2 ≠ 0) (h2 : a3 = 4) (h3 : a1 = 0) : (0 : Int) ≤ a0 := by omega
theorem ob_1439 {a0 a1 a2 a3 : Int} (h0 : ((a0 + 1 ≤ a1) ∧ (a2 = (0 : Int))) ∨ ((a1 ≤ a0) ∧ (a3 + 1 ≤ a0) ∧ (a2 = (0 : Int))) ∨ ((a1 ≤ a0) ∧ (a0 ≤ a3) ∧ (a2 = (1 : Int)))) (h1 : a2 ≠ 0) (h2 : a3 = 4) (h3 : a1 = 0) : a0 ≤ (4 : Int) := by omega
theorem ob_1440 {a0 a1 a2 a3 : Int} (h0 : ((a0 + 1 ≤ a1) ∧ (a2 = (0 : Int))) ∨ ((a1 ≤ a0) ∧ (a3 + 1 ≤ a0) ∧ (a2 = (0 : Int))) ∨ ((a1 ≤ a0) ∧ (a0 ≤ a3) ∧ (a2 = (1 : Int)))) (h1 : a2 ≠ 0) (h2 : a3 = 4) (h3 : a1 = 0) : a2 = (1 : Int) := by omega
theorem ob_1441 {a0 : Int} (h0 : 0 ≤ a0 ∧ a0 ≤ 100) : (-2147483648) ≤ 100 - a0 := by omega
theorem ob_1442 {a0 : Int} (h0 : 0 ≤ a0 ∧ a0 ≤ 100) : 100 - a0 ≤ 2147483647 := by omega
theorem ob_1443 {a0 a1 : Int} (h0 : a0 = 100 - a1) : a0 = -1 * a1 + 100 := by omega
theorem ob_1444 {a0 a1 : Int} (h0 : 0 ≤ a0 ∧ a0 ≤ 100) (h1 : a1 = -1 * a0 + 100) : (0 : Int) ≤ a1 := by omega
theorem ob_1445 {a0 a1 : Int} (h0 : 0 ≤ a0 ∧ a0 ≤ 100) (h1 : a1 = -1 * a0 + 100) : a1 ≤ (100 : Int) := by omega
theorem ob_1446 {a0 : Int} (h0 : (0 : Int) ≤ a0) (h1 : a0 ≤ (4 : Int)) : (0 : Int) ≤ a0 := by omega
theorem ob_1447 {a0 : Int} (h0 : (0 : Int) ≤ a0) (h1 : a0 ≤ (4 : Int)) : a0 ≤ (4 : Int) := by omega
theorem ob_1448 {a0 : Int} (h0 : a0 = 100) : (100 : Int) ≤ a0 := by omega
theorem ob_1449 {a0 : Int} (h0 : a0 = 100) : a0 ≤ (100 : Int) := by omega
theorem ob_1450 {a0 a1 : Int} (h0 : (1 : Int) ≤ a0) (h1 : a0 ≤ (100000000 : Int)) (h2 : a1 = a0) : (1 : Int) ≤ a1 := by omega
theorem ob_1451 {a0 a1 a2 : Int} (h0 : a0 = a1) (h1 : (0 : Int) ≤ a0) (h2 : a0 ≤ (100000000 : Int)) (h3 : a2 = a1) : (0 : Int) ≤ a2 := by omega
theorem ob_1452 {a0 a1 : Int} (h0 : (1 : Int) ≤ a0) (h1 : a0 ≤ (100000000 : Int)) (h2 : a1 = a0) : 0 ≤ a1 := by omega
theorem ob_1453 {a0 a1 a2 : Int} (h0 : (1 : Int) ≤ a0) (h1 : a0 ≤ (100000000 : Int)) (h2 : 0 ≤ a1 ∧ a1 ≤ a2) (h3 : a2 = a0) : 0 ≤ a0 := by omega
theorem ob_1454 {a0 a1 a2 : Int} (h0 : a0 = a1) (h1 : (0 : Int) ≤ a0) (h2 : a0 ≤ (100000000 : Int)) (h3 : a2 = a1) : 0 ≤ a2 := by omega
theorem ob_1455 {a0 a1 a2 a3 : Int} (h0 : a0 = a1) (h1 : 0 ≤ a2 ∧ a2 ≤ a3) (h2 : a3 = a1) : 0 ≤ a1 := by omega
theorem ob_1456 {a0 a1 a2 a3 : Int} (h0 : ((a0 + 1 ≤ a1) ∧ (a2 = (0 : Int))) ∨ ((a1 ≤ a0) ∧ (a3 + 1 ≤ a0) ∧ (a2 = (0 : Int))) ∨ ((a1 ≤ a0) ∧ (a0 ≤ a3) ∧ (a2 = (1 : Int)))) (h1 : a2 ≠ 0) (h2 : a3 = 999) (h3 : a1 = (-999)) : (0 : Int) ≤ a0 + 999 := by omega
theorem ob_1457 {a0 a1 a2 a3 : Int} (h0 : ((a0 + 1 ≤ a1) ∧ (a2 = (0 : Int))) ∨ ((a1 ≤ a0) ∧ (a3 + 1 ≤ a0) ∧ (a2 = (0 : Int))) ∨ ((a1 ≤ a0) ∧ (a0 ≤ a3) ∧ (a2 = (1 : Int)))) (h1 : a2 ≠ 0) (h2 : a3 = 999) (h3 : a1 = (-999)) : a0 ≤ (999 : Int) := by omega
theorem ob_1458 {a0 a1 a2 a3 : Int} (h0 : ((a0 + 1 ≤ a1) ∧ (a2 = (0 : Int))) ∨ ((a1 ≤ a0) ∧ (a3 + 1 ≤ a0) ∧ (a2 = (0 : Int))) ∨ ((a1 ≤ a0) ∧ (a0 ≤ a3) ∧ (a2 = (1 : Int)))) (h1 : a2 ≠ 0) (h2 : a3 = 999) (h3 : a1 = (-999)) : a2 = (1 : Int) := by omega
theorem ob_1459 {a0 : Int} (h0 : (0 : Int) ≤ a0) (h1 : a0 ≤ (30 : Int)) (h2 : a0 ≠ 30) : a0 ≤ (29 : Int) := by omega
theorem ob_1460 {a0 : Int} (h0 : (0 : Int) ≤ a0) (h1 : a0 ≤ (30 : Int)) (h2 : a0 ≤ (29 : Int)) : 0 ≤ a0 := by omega
theorem ob_1461 {a0 : Int} (h0 : (0 : Int) ≤ a0) (h1 : a0 ≤ (30 : Int)) (h2 : a0 ≤ (29 : Int)) : a0 < 30 := by omega
theorem ob_1462 {a0 a1 : Int} (h0 : 0 ≤ a0 ∧ a0 ≤ 5) (h1 : a1 + 1 ≤ a0) : a1 ≤ 4 := by omega
theorem ob_1463 {a0 : Int} (h0 : (0 : Int) ≤ a0) (h1 : a0 ≤ (30 : Int)) (h2 : a0 ≤ (29 : Int)) : (-2147483648) ≤ a0 + 1 := by omega
theorem ob_1464 {a0 : Int} (h0 : (0 : Int) ≤ a0) (h1 : a0 ≤ (30 : Int)) (h2 : a0 ≤ (29 : Int)) : a0 + 1 ≤ 2147483647 := by omega
theorem ob_1465 {a0 a1 : Int} (h0 : (0 : Int) ≤ a0) (h1 : a0 ≤ (30 : Int)) (h2 : a0 ≤ (29 : Int)) (h3 : a1 = a0 + 1) : (-2147483648) ≤ a1 - 1 := by omega
theorem ob_1466 {a0 a1 : Int} (h0 : (0 : Int) ≤ a0) (h1 : a0 ≤ (30 : Int)) (h2 : a0 ≤ (29 : Int)) (h3 : a1 = a0 + 1) : a1 - 1 ≤ 2147483647 := by omega
theorem ob_1467 {a0 a1 a2 : Int} (h0 : a0 = a1 - 1) (h1 : a1 = a2 + 1) : a0 = a2 := by omega
theorem ob_1468 {a0 a1 : Int} (h0 : (0 : Int) ≤ a0) (h1 : a0 ≤ (30 : Int)) (h2 : a0 ≤ (29 : Int)) (h3 : a1 = a0 + 1) : (0 : Int) ≤ a1 := by omega
theorem ob_1469 {a0 a1 : Int} (h0 : (0 : Int) ≤ a0) (h1 : a0 ≤ (30 : Int)) (h2 : a0 ≤ (29 : Int)) (h3 : a1 = a0 + 1) : a1 ≤ (30 : Int) := by omega
theorem ob_1470 {a0 : Int} (h0 : (0 : Int) ≤ a0) (h1 : a0 ≤ (30 : Int)) : (-2147483648) ≤ a0 - 1 := by omega
theorem ob_1471 {a0 : Int} (h0 : (0 : Int) ≤ a0) (h1 : a0 ≤ (30 : Int)) : a0 - 1 ≤ 2147483647 := by omega
theorem ob_1472 {a0 a1 : Int} (h0 : a0 ≤ (30 : Int)) (h1 : a1 + 1 ≤ a0) : a1 < 30 := by omega
theorem ob_1473 {a0 a1 a2 : Int} (h0 : (0 : Int) ≤ a0) (h1 : a0 ≤ (100000 : Int)) (h2 : a1 = (-1)) : ((a1 + 1 = (0 : Int))) ∨ ((a0 + a2 ≤ (100000 : Int)) ∧ (a1 = a0 + a2)) ∨ (((100001 : Int) ≤ a0 + a2) ∧ (a1 + 1 = (0 : Int))) := by omega
theorem ob_1474 {a0 : Int} (h0 : a0 = (-1)) : a0 ≤ (101000 : Int) := by omega
theorem ob_1475 {a0 a1 a2 a3 : Int} (h0 : ((a0 + 1 ≤ a1) ∧ (a2 = (0 : Int))) ∨ ((a1 ≤ a0) ∧ (a3 + 1 ≤ a0) ∧ (a2 = (0 : Int))) ∨ ((a1 ≤ a0) ∧ (a0 ≤ a3) ∧ (a2 = (1 : Int)))) (h1 : a2 ≠ 0) (h2 : a3 = 1000) (h3 : a1 = 0) : (0 : Int) ≤ a0 := by omega
theorem ob_1476 {a0 a1 a2 a3 : Int} (h0 : ((a0 + 1 ≤ a1) ∧ (a2 = (0 : Int))) ∨ ((a1 ≤ a0) ∧ (a3 + 1 ≤ a0) ∧ (a2 = (0 : Int))) ∨ ((a1 ≤ a0) ∧ (a0 ≤ a3) ∧ (a2 = (1 : Int)))) (h1 : a2 ≠ 0) (h2 : a3 = 1000) (h3 : a1 = 0) : a0 ≤ (1000 : Int) := by omega
theorem ob_1477 {a0 a1 a2 a3 : Int} (h0 : ((a0 + 1 ≤ a1) ∧ (a2 = (0 : Int))) ∨ ((a1 ≤ a0) ∧ (a3 + 1 ≤ a0) ∧ (a2 = (0 : Int))) ∨ ((a1 ≤ a0) ∧ (a0 ≤ a3) ∧ (a2 = (1 : Int)))) (h1 : a2 ≠ 0) (h2 : a3 = 1000) (h3 : a1 = 0) : a2 = (1 : Int) := by omega
theorem ob_1478 {a0 a1 : Int} (h0 : a0 ≤ (100000 : Int)) (h1 : a1 ≤ (1000 : Int)) : a0 + a1 ≤ 2147483647 := by omega
theorem ob_1479 {a0 a1 a2 a3 : Int} (h0 : a0 ≤ 100000) (h1 : a0 = a1 + a2) (h2 : a3 = a1 + a2) : ((a3 + 1 = (0 : Int))) ∨ ((a1 + a2 ≤ (100000 : Int)) ∧ (a3 = a1 + a2)) ∨ (((100001 : Int) ≤ a1 + a2) ∧ (a3 + 1 = (0 : Int))) := by omega
theorem ob_1480 {a0 a1 a2 : Int} (h0 : (0 : Int) ≤ a0) (h1 : (0 : Int) ≤ a1) (h2 : a2 = a0 + a1) : (0 : Int) ≤ a2 + 1 := by omega
theorem ob_1481 {a0 a1 a2 : Int} (h0 : a0 ≤ (100000 : Int)) (h1 : a1 ≤ (1000 : Int)) (h2 : a2 = a0 + a1) : a2 ≤ (101000 : Int) := by omega
theorem ob_1482 {a0 a1 a2 : Int} (h0 : (0 : Int) ≤ a0) (h1 : (0 : Int) ≤ a1) (h2 : a2 = a0 + a1) : (0 : Int) ≤ a2 := by omega
theorem ob_1483 {a0 a1 a2 a3 : Int} (h0 : a0 ≤ 100000) (h1 : a0 = a1 + a2) (h2 : a3 = a1 + a2) : a3 ≤ (100000 : Int) := by omega
theorem ob_1484 {a0 a1 a2 : Int} (h0 : a0 = (-1)) : ((a0 + 1 = (0 : Int))) ∨ ((a1 + a2 ≤ (100000 : Int)) ∧ (a0 = a1 + a2)) ∨ (((100001 : Int) ≤ a1 + a2) ∧ (a0 + 1 = (0 : Int))) := by omega
theorem ob_1485 {a0 : Int} (h0 : (0 : Int) ≤ a0) (h1 : a0 ≤ (342 : Int)) : 0 ≤ a0 := by omega
theorem ob_1486 {a0 a1 a2 a3 : Int} (h0 : a0 ≠ 0) (h1 : 0 ≤ a1 ∧ a1 < 7 ∧ a1 ≤ a2) (h2 : a2 = 7 * a3 + a1) : ((a0 ≠ (0 : Int)) ∧ (a0 ≠ (1 : Int)) ∧ ((0 : Int) ≤ a1) ∧ (a1 ≤ (6 : Int)) ∧ (a1 ≤ a2) ∧ (a2 = 7 * a3 + a1)) ∨ ((a0 ≠ (0 : Int)) ∧ (a0 = (1 : Int)) ∧ ((1 : Int) ≤ a0) ∧ ((0 : Int) ≤ a1) ∧ (a1 ≤ (6 : Int))) ∨ ((a0 = (0 : Int)) ∧ ((0 : Int) ≤ a1) ∧ (a1 ≤ a2) ∧ (49 * a1 ≤ a2) ∧ (a2 ≤ 49 * a1 + 48)) := by omega
theorem ob_1487 {a0 a1 a2 : Int} (h0 : 0 ≤ a0 ∧ a0 < 7 ∧ a0 ≤ a1) (h1 : a1 = 7 * a2 + a0) : (0 : Int) ≤ a0 := by omega
theorem ob_1488 {a0 a1 a2 : Int} (h0 : 0 ≤ a0 ∧ a0 < 7 ∧ a0 ≤ a1) (h1 : a1 = 7 * a2 + a0) : a0 ≤ (6 : Int) := by omega
theorem ob_1489 {a0 a1 : Int} (h0 : 0 ≤ a0 ∧ a0 ≤ a1) (h1 : 7 * a0 ≤ a1 ∧ a1 < 7 * a0 + 7) : 0 ≤ a0 := by omega
theorem ob_1490 {a0 a1 a2 a3 a4 : Int} (h0 : a0 = 1) (h1 : 0 ≤ a1 ∧ a1 < 7 ∧ a1 ≤ a2) : ((a0 ≠ (0 : Int)) ∧ (a0 ≠ (1 : Int)) ∧ ((0 : Int) ≤ a1) ∧ (a1 ≤ (6 : Int)) ∧ (a1 ≤ a3) ∧ (a3 = 7 * a4 + a1)) ∨ ((a0 ≠ (0 : Int)) ∧ (a0 = (1 : Int)) ∧ ((1 : Int) ≤ a0) ∧ ((0 : Int) ≤ a1) ∧ (a1 ≤ (6 : Int))) ∨ ((a0 = (0 : Int)) ∧ ((0 : Int) ≤ a1) ∧ (a1 ≤ a3) ∧ (49 * a1 ≤ a3) ∧ (a3 ≤ 49 * a1 + 48)) := by omega
theorem ob_1491 {a0 a1 a2 a3 : Int} (h0 : (0 : Int) ≤ a0) (h1 : a1 = 0) (h2 : 49 * a2 ≤ a0 ∧ a0 < 49 * a2 + 49) : ((a1 ≠ (0 : Int)) ∧ (a1 ≠ (1 : Int)) ∧ ((0 : Int) ≤ a2) ∧ (a2 ≤ (6 : Int)) ∧ (a2 ≤ a0) ∧ (a0 = 7 * a3 + a2)) ∨ ((a1 ≠ (0 : Int)) ∧ (a1 = (1 : Int)) ∧ ((1 : Int) ≤ a1) ∧ ((0 : Int) ≤ a2) ∧ (a2 ≤ (6 : Int))) ∨ ((a1 = (0 : Int)) ∧ ((0 : Int) ≤ a2) ∧ (a2 ≤ a0) ∧ (49 * a2 ≤ a0) ∧ (a0 ≤ 49 * a2 + 48)) := by omega
theorem ob_1492 {a0 a1 : Int} (h0 : 0 ≤ a0 ∧ a0 ≤ a1) (h1 : 49 * a0 ≤ a1 ∧ a1 < 49 * a0 + 49) : (0 : Int) ≤ a0 := by omega
theorem ob_1493 {a0 a1 : Int} (h0 : a0 ≤ (342 : Int)) (h1 : 49 * a1 ≤ a0 ∧ a0 < 49 * a1 + 49) : a1 ≤ (6 : Int) := by omega
theorem ob_1494 {a0 a1 : Int} (h0 : 0 ≤ a0 ∧ a0 ≤ 4) (h1 : (1 : Int) ≤ a0) (h2 : a1 = a0) : (-2147483648) ≤ a1 - 1 := by omega
theorem ob_1495 {a0 a1 : Int} (h0 : 0 ≤ a0 ∧ a0 ≤ 4) (h1 : (1 : Int) ≤ a0) (h2 : a1 = a0) : a1 - 1 ≤ 2147483647 := by omega
theorem ob_1496 {a0 a1 a2 a3 : Int} (h0 : (0 : Int) ≤ a0) (h1 : 0 ≤ a1 ∧ a1 ≤ 4) (h2 : a2 = a1 + (-1)) (h3 : a3 = 4 * a0) : (-2147483648) ≤ a3 + a2 := by omega
theorem ob_1497 {a0 a1 a2 a3 : Int} (h0 : a0 ≤ (1 : Int)) (h1 : 0 ≤ a1 ∧ a1 ≤ 4) (h2 : a2 = a1 + (-1)) (h3 : a3 = 4 * a0) : a3 + a2 ≤ 2147483647 := by omega
theorem ob_1498 {a0 a1 a2 a3 a4 : Int} (h0 : a0 = a1 + a2) (h1 : a2 = a3 + (-1)) (h2 : a1 = 4 * a4) : a0 = a3 + 4 * a4 + (-1) := by omega
theorem ob_1499 {a0 a1 a2 : Int} (h0 : (0 : Int) ≤ a0) (h1 : 0 ≤ a1 ∧ a1 ≤ 4) (h2 : a2 = a1 + 4 * a0 + (-1)) : (-2147483648) ≤ 3 * a2 := by omega

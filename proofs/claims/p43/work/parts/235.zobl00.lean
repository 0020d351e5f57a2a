theorem ox_773 {a0 a1 : Int} (h0 : a0 < 97) (h1 : a1 = 0) : ((a0 ≤ (96 : Int)) ∧ (a1 = (0 : Int))) ∨ (((97 : Int) ≤ a0) ∧ ((123 : Int) ≤ a0) ∧ (a1 = (0 : Int))) ∨ (((97 : Int) ≤ a0) ∧ (a0 ≤ (122 : Int)) ∧ (a1 = (1 : Int))) := by omega
theorem ox_774 {a0 a1 : Int} (h0 : 97 ≤ a0) (h1 : 122 < a0) (h2 : a1 = 0) : ((a0 ≤ (96 : Int)) ∧ (a1 = (0 : Int))) ∨ (((97 : Int) ≤ a0) ∧ ((123 : Int) ≤ a0) ∧ (a1 = (0 : Int))) ∨ (((97 : Int) ≤ a0) ∧ (a0 ≤ (122 : Int)) ∧ (a1 = (1 : Int))) := by omega
theorem ox_775 {a0 a1 : Int} (h0 : 97 ≤ a0) (h1 : a0 ≤ 122) (h2 : a1 = 1) : ((a0 ≤ (96 : Int)) ∧ (a1 = (0 : Int))) ∨ (((97 : Int) ≤ a0) ∧ ((123 : Int) ≤ a0) ∧ (a1 = (0 : Int))) ∨ (((97 : Int) ≤ a0) ∧ (a0 ≤ (122 : Int)) ∧ (a1 = (1 : Int))) := by omega
theorem ox_776 {a0 a1 : Int} (h0 : a0 < 48) (h1 : a1 = 0) : ((a0 ≤ (47 : Int)) ∧ (a1 = (0 : Int))) ∨ (((48 : Int) ≤ a0) ∧ ((58 : Int) ≤ a0) ∧ (a1 = (0 : Int))) ∨ (((48 : Int) ≤ a0) ∧ (a0 ≤ (57 : Int)) ∧ (a1 = (1 : Int))) := by omega
theorem ox_777 {a0 a1 : Int} (h0 : 48 ≤ a0) (h1 : 57 < a0) (h2 : a1 = 0) : ((a0 ≤ (47 : Int)) ∧ (a1 = (0 : Int))) ∨ (((48 : Int) ≤ a0) ∧ ((58 : Int) ≤ a0) ∧ (a1 = (0 : Int))) ∨ (((48 : Int) ≤ a0) ∧ (a0 ≤ (57 : Int)) ∧ (a1 = (1 : Int))) := by omega
theorem ox_778 {a0 a1 : Int} (h0 : 48 ≤ a0) (h1 : a0 ≤ 57) (h2 : a1 = 1) : ((a0 ≤ (47 : Int)) ∧ (a1 = (0 : Int))) ∨ (((48 : Int) ≤ a0) ∧ ((58 : Int) ≤ a0) ∧ (a1 = (0 : Int))) ∨ (((48 : Int) ≤ a0) ∧ (a0 ≤ (57 : Int)) ∧ (a1 = (1 : Int))) := by omega
theorem ox_779 {a0 : Int} (h0 : a0 = 4) : (0 : Int) ≤ a0 + 1 := by omega
theorem ox_780 {a0 : Int} (h0 : a0 = 4) : a0 ≤ (4 : Int) := by omega
theorem ox_781 {a0 : Int} (h0 : a0 = 3) : (0 : Int) ≤ a0 + 1 := by omega
theorem ox_782 {a0 : Int} (h0 : a0 = 3) : a0 ≤ (4 : Int) := by omega
theorem ox_783 {a0 : Int} (h0 : a0 = 2) : (0 : Int) ≤ a0 + 1 := by omega
theorem ox_784 {a0 : Int} (h0 : a0 = 0) : (0 : Int) ≤ a0 + 1 := by omega
theorem ox_785 {a0 : Int} (h0 : a0 = 1) : (0 : Int) ≤ a0 + 1 := by omega
theorem ox_786 {a0 a1 : Int} (h0 : a0 = 59) (h1 : a1 = 1) : ((a0 = (59 : Int)) ∧ (a1 = (1 : Int))) ∨ ((a0 ≠ (59 : Int)) ∧ (a0 = (40 : Int)) ∧ (a0 ≤ (58 : Int)) ∧ (a1 = (1 : Int))) ∨ ((a0 ≠ (59 : Int)) ∧ (a0 ≠ (40 : Int)) ∧ (a0 = (41 : Int)) ∧ (a0 ≤ (58 : Int)) ∧ ((41 : Int) ≤ a0) ∧ (a1 = (1 : Int))) ∨ ((a0 ≠ (59 : Int)) ∧ (a0 ≠ (40 : Int)) ∧ (a0 ≠ (41 : Int)) ∧ (a1 = (0 : Int))) ∨ ((a0 ≠ (59 : Int)) ∧ (a0 ≠ (40 : Int)) ∧ (a0 ≠ (41 : Int)) ∧ (a1 = (1 : Int))) := by omega
theorem ox_787 {a0 : Int} (h0 : a0 = 40) : a0 ≤ (58 : Int) := by omega
theorem ox_788 {a0 a1 : Int} (h0 : a0 = 40) (h1 : a0 ≤ (58 : Int)) (h2 : a1 = 1) : ((a0 = (59 : Int)) ∧ (a1 = (1 : Int))) ∨ ((a0 ≠ (59 : Int)) ∧ (a0 = (40 : Int)) ∧ (a0 ≤ (58 : Int)) ∧ (a1 = (1 : Int))) ∨ ((a0 ≠ (59 : Int)) ∧ (a0 ≠ (40 : Int)) ∧ (a0 = (41 : Int)) ∧ (a0 ≤ (58 : Int)) ∧ ((41 : Int) ≤ a0) ∧ (a1 = (1 : Int))) ∨ ((a0 ≠ (59 : Int)) ∧ (a0 ≠ (40 : Int)) ∧ (a0 ≠ (41 : Int)) ∧ (a1 = (0 : Int))) ∨ ((a0 ≠ (59 : Int)) ∧ (a0 ≠ (40 : Int)) ∧ (a0 ≠ (41 : Int)) ∧ (a1 = (1 : Int))) := by omega
theorem ox_789 {a0 : Int} (h0 : a0 = 41) : a0 ≤ (58 : Int) := by omega
theorem ox_790 {a0 : Int} (h0 : a0 = 41) (h1 : a0 ≤ (58 : Int)) : (41 : Int) ≤ a0 := by omega
theorem ox_791 {a0 a1 : Int} (h0 : a0 = 41) (h1 : a0 ≤ (58 : Int)) (h2 : (41 : Int) ≤ a0) (h3 : a1 = 1) : ((a0 = (59 : Int)) ∧ (a1 = (1 : Int))) ∨ ((a0 ≠ (59 : Int)) ∧ (a0 = (40 : Int)) ∧ (a0 ≤ (58 : Int)) ∧ (a1 = (1 : Int))) ∨ ((a0 ≠ (59 : Int)) ∧ (a0 ≠ (40 : Int)) ∧ (a0 = (41 : Int)) ∧ (a0 ≤ (58 : Int)) ∧ ((41 : Int) ≤ a0) ∧ (a1 = (1 : Int))) ∨ ((a0 ≠ (59 : Int)) ∧ (a0 ≠ (40 : Int)) ∧ (a0 ≠ (41 : Int)) ∧ (a1 = (0 : Int))) ∨ ((a0 ≠ (59 : Int)) ∧ (a0 ≠ (40 : Int)) ∧ (a0 ≠ (41 : Int)) ∧ (a1 = (1 : Int))) := by omega
theorem ox_792 {a0 a1 : Int} (h0 : a0 ≠ 59) (h1 : a0 ≠ 40) (h2 : a0 ≠ 41) (h3 : a1 = 0) : ((a0 = (59 : Int)) ∧ (a1 = (1 : Int))) ∨ ((a0 ≠ (59 : Int)) ∧ (a0 = (40 : Int)) ∧ (a0 ≤ (58 : Int)) ∧ (a1 = (1 : Int))) ∨ ((a0 ≠ (59 : Int)) ∧ (a0 ≠ (40 : Int)) ∧ (a0 = (41 : Int)) ∧ (a0 ≤ (58 : Int)) ∧ ((41 : Int) ≤ a0) ∧ (a1 = (1 : Int))) ∨ ((a0 ≠ (59 : Int)) ∧ (a0 ≠ (40 : Int)) ∧ (a0 ≠ (41 : Int)) ∧ (a1 = (0 : Int))) ∨ ((a0 ≠ (59 : Int)) ∧ (a0 ≠ (40 : Int)) ∧ (a0 ≠ (41 : Int)) ∧ (a1 = (1 : Int))) := by omega
theorem ox_793 {a0 a1 : Int} (h0 : a0 = 1) : ((a1 = (59 : Int)) ∧ (a0 = (1 : Int))) ∨ ((a1 ≠ (59 : Int)) ∧ (a1 = (40 : Int)) ∧ (a1 ≤ (58 : Int)) ∧ (a0 = (1 : Int))) ∨ ((a1 ≠ (59 : Int)) ∧ (a1 ≠ (40 : Int)) ∧ (a1 = (41 : Int)) ∧ (a1 ≤ (58 : Int)) ∧ ((41 : Int) ≤ a1) ∧ (a0 = (1 : Int))) ∨ ((a1 ≠ (59 : Int)) ∧ (a1 ≠ (40 : Int)) ∧ (a1 ≠ (41 : Int)) ∧ (a0 = (0 : Int))) ∨ ((a1 ≠ (59 : Int)) ∧ (a1 ≠ (40 : Int)) ∧ (a1 ≠ (41 : Int)) ∧ (a0 = (1 : Int))) := by omega
theorem ox_794 {a0 : Int} (h0 : -1 * a0 + 1600 < 0) (h1 : (0 : Int) ≤ a0) (h2 : a0 ≤ (1600 : Int)) : False := by omega
theorem ox_795 {a0 : Int} (h0 : (0 : Int) ≤ a0) (h1 : a0 ≤ (1601 : Int)) (h2 : a0 ≤ (1600 : Int)) : 0 ≤ a0 := by omega
theorem ox_796 {a0 : Int} (h0 : (0 : Int) ≤ a0) (h1 : a0 ≤ (1601 : Int)) (h2 : a0 ≤ (1600 : Int)) : a0 < 1601 := by omega
theorem ox_797 {a0 a1 : Int} (h0 : a0 ≤ (1600 : Int)) (h1 : (0 : Int) ≤ a1) : (-2147483648) ≤ a1 - a0 := by omega
theorem ox_798 {a0 a1 : Int} (h0 : (0 : Int) ≤ a0) (h1 : a1 ≤ (1600 : Int)) : a1 - a0 ≤ 2147483647 := by omega
theorem ox_799 {a0 a1 a2 : Int} (h0 : a0 = a1 - a2) : a0 = -1 * a2 + a1 := by omega
theorem ox_800 {a0 a1 : Int} (h0 : a0 ≤ (1600 : Int)) (h1 : a1 < a0) : a1 < 1600 := by omega
theorem ox_801 {a0 a1 : Int} (h0 : ((a0 ≤ (96 : Int)) ∧ (a1 = (0 : Int))) ∨ (((97 : Int) ≤ a0) ∧ ((123 : Int) ≤ a0) ∧ (a1 = (0 : Int))) ∨ (((97 : Int) ≤ a0) ∧ (a0 ≤ (122 : Int)) ∧ (a1 = (1 : Int)))) (h1 : a1 ≠ 0) : (97 : Int) ≤ a0 := by omega
theorem ox_802 {a0 a1 : Int} (h0 : ((a0 ≤ (96 : Int)) ∧ (a1 = (0 : Int))) ∨ (((97 : Int) ≤ a0) ∧ ((123 : Int) ≤ a0) ∧ (a1 = (0 : Int))) ∨ (((97 : Int) ≤ a0) ∧ (a0 ≤ (122 : Int)) ∧ (a1 = (1 : Int)))) (h1 : a1 ≠ 0) : a0 ≤ (122 : Int) := by omega
theorem ox_803 {a0 a1 : Int} (h0 : ((a0 ≤ (96 : Int)) ∧ (a1 = (0 : Int))) ∨ (((97 : Int) ≤ a0) ∧ ((123 : Int) ≤ a0) ∧ (a1 = (0 : Int))) ∨ (((97 : Int) ≤ a0) ∧ (a0 ≤ (122 : Int)) ∧ (a1 = (1 : Int)))) (h1 : a1 ≠ 0) : a1 = (1 : Int) := by omega
theorem ox_804 {a0 a1 : Int} (h0 : a1 < a0) (h1 : a0 ≤ a1) : False := by omega
theorem ox_805 {a0 a1 : Int} (h0 : a0 ≤ a1) (h1 : a1 < a0) : False := by omega
theorem ox_806 {a0 a1 : Int} (h0 : ((a0 ≤ (47 : Int)) ∧ (a1 = (0 : Int))) ∨ (((48 : Int) ≤ a0) ∧ ((58 : Int) ≤ a0) ∧ (a1 = (0 : Int))) ∨ (((48 : Int) ≤ a0) ∧ (a0 ≤ (57 : Int)) ∧ (a1 = (1 : Int)))) (h1 : a1 ≠ 0) : (48 : Int) ≤ a0 := by omega
theorem ox_807 {a0 a1 : Int} (h0 : ((a0 ≤ (47 : Int)) ∧ (a1 = (0 : Int))) ∨ (((48 : Int) ≤ a0) ∧ ((58 : Int) ≤ a0) ∧ (a1 = (0 : Int))) ∨ (((48 : Int) ≤ a0) ∧ (a0 ≤ (57 : Int)) ∧ (a1 = (1 : Int)))) (h1 : a1 ≠ 0) : a0 ≤ (57 : Int) := by omega
theorem ox_808 {a0 a1 : Int} (h0 : ((a0 ≤ (47 : Int)) ∧ (a1 = (0 : Int))) ∨ (((48 : Int) ≤ a0) ∧ ((58 : Int) ≤ a0) ∧ (a1 = (0 : Int))) ∨ (((48 : Int) ≤ a0) ∧ (a0 ≤ (57 : Int)) ∧ (a1 = (1 : Int)))) (h1 : a1 ≠ 0) : a1 = (1 : Int) := by omega
theorem ox_809 {a0 a1 a2 : Int} (h0 : a0 ≤ (1600 : Int)) (h1 : a1 < a0) (h2 : a2 = a1 + 1) : a2 ≤ (1600 : Int) := by omega
theorem ox_810 {a0 a1 a2 : Int} (h0 : -1 * a0 + 1600 < a1 + 1) (h1 : a2 = a0 + 1) : -1 * a2 + 1600 < a1 := by omega
theorem ox_811 {a0 : Int} (h0 : a0 = 0) : a0 ≤ (1600 : Int) := by omega
theorem ox_812 {a0 : Int} (h0 : a0 = 0) : 0 ≤ -1 * a0 + 1600 := by omega
theorem ox_813 {a0 : Int} (h0 : a0 = 1) : a0 = (1 : Int) := by omega
theorem ox_814 {a0 a1 : Int} (h0 : a0 < 0) (h1 : (0 : Int) ≤ a0) (h2 : a0 + 1 ≤ a1) : False := by omega
theorem ox_815 {a0 a1 : Int} (h0 : a1 ≤ a0) (h1 : (0 : Int) ≤ a0) (h2 : a0 + 1 ≤ a1) (h3 : 0 ≤ a0) : False := by omega
theorem ox_816 {a0 a1 : Int} (h0 : (0 : Int) ≤ a0) (h1 : a0 + 1 ≤ a1) : a0 + 1 ≤ a1 := by omega
theorem ox_817 {a0 : Int} (h0 : (0 : Int) ≤ a0) (h1 : a0 ≤ (151 : Int)) : (0 : Int) ≤ a0 := by omega
theorem ox_818 {a0 a1 : Int} (h0 : (0 : Int) ≤ a0) (h1 : a0 ≤ (151 : Int)) (h2 : a1 = 152) : a0 + 1 ≤ a1 := by omega
theorem ox_819 {a0 : Int} (h0 : (0 : Int) ≤ a0) (h1 : a0 ≤ (151 : Int)) : 0 ≤ a0 := by omega
theorem ox_820 {a0 : Int} (h0 : (0 : Int) ≤ a0) (h1 : a0 ≤ (151 : Int)) : a0 < 152 := by omega
theorem ox_821 {a0 : Int} (h0 : a0 = (1 : Int)) : a0 = (1 : Int) := by omega
theorem ox_822 {a0 : Int} (h0 : a0 = 0) (h1 : a0 = (1 : Int)) : False := by omega
theorem ox_823 {a0 : Int} (h0 : (0 : Int) ≤ a0) (h1 : a0 ≤ (151 : Int)) : a0 ≤ (151 : Int) := by omega
theorem ox_824 {a0 a1 : Int} (h0 : a0 ≤ (1600 : Int)) (h1 : a1 ≤ (8 : Int)) : a0 + a1 ≤ 2147483647 := by omega
theorem ox_825 {a0 : Int} (h0 : (0 : Int) ≤ a0) (h1 : a0 ≤ (18 : Int)) : (-2147483648) ≤ a0 * 8 := by omega
theorem ox_826 {a0 : Int} (h0 : (0 : Int) ≤ a0) (h1 : a0 ≤ (18 : Int)) : a0 * 8 ≤ 2147483647 := by omega
theorem ox_827 {a0 a1 a2 : Int} (h0 : (0 : Int) ≤ a0) (h1 : (0 : Int) ≤ a1) (h2 : a2 = 8 * a0) : (-2147483648) ≤ a2 + a1 := by omega
theorem ox_828 {a0 a1 a2 : Int} (h0 : a0 ≤ (18 : Int)) (h1 : a1 ≤ (8 : Int)) (h2 : a2 = 8 * a0) : a2 + a1 ≤ 2147483647 := by omega
theorem ox_829 {a0 a1 a2 a3 : Int} (h0 : a0 = a1 + a2) (h1 : a1 = 8 * a3) : a0 = a2 + 8 * a3 := by omega
theorem ox_830 {a0 a1 a2 : Int} (h0 : (0 : Int) ≤ a0) (h1 : (0 : Int) ≤ a1) (h2 : a2 = a1 + 8 * a0) : (0 : Int) ≤ a2 := by omega
theorem ox_831 {a0 a1 a2 : Int} (h0 : a0 ≤ (18 : Int)) (h1 : a1 < 8) (h2 : a2 = a1 + 8 * a0) : a2 ≤ (151 : Int) := by omega
theorem ox_832 {a0 a1 : Int} (h0 : a0 < 8) (h1 : a1 = a0 + 1) : a1 ≤ (8 : Int) := by omega
theorem ox_833 {a0 a1 : Int} (h0 : (0 : Int) ≤ a0) (h1 : (0 : Int) ≤ a1) : 0 ≤ a0 + a1 := by omega
theorem ox_834 {a0 a1 a2 a3 : Int} (h0 : a0 ≤ (1600 : Int)) (h1 : a1 < a0) (h2 : a1 = a2 + a3) : a2 + a3 < 1600 := by omega
theorem ox_835 {a0 : Int} (h0 : -1 * a0 + 19 < 0) (h1 : (0 : Int) ≤ a0) (h2 : a0 ≤ (19 : Int)) : False := by omega
theorem ox_836 {a0 : Int} (h0 : a0 < 19) : a0 ≤ (18 : Int) := by omega
theorem ox_837 {a0 a1 a2 : Int} (h0 : (0 : Int) ≤ a0) (h1 : a0 ≤ (1600 : Int)) (h2 : a1 ≤ 8) (h3 : a1 = -1 * a0 + a2) : (0 : Int) ≤ a0 := by omega
theorem ox_838 {a0 a1 a2 : Int} (h0 : (0 : Int) ≤ a0) (h1 : a0 ≤ (1600 : Int)) (h2 : a1 ≤ 8) (h3 : a1 = -1 * a0 + a2) : a0 ≤ (1600 : Int) := by omega
theorem ox_839 {a0 : Int} (h0 : a0 ≤ (19 : Int)) : a0 + 1 ≤ 2147483647 := by omega
theorem ox_840 {a0 a1 : Int} (h0 : a0 < 19) (h1 : a1 = a0 + 1) : a1 ≤ (19 : Int) := by omega
theorem ox_841 {a0 a1 a2 : Int} (h0 : -1 * a0 + 19 < a1 + 1) (h1 : a2 = a0 + 1) : -1 * a2 + 19 < a1 := by omega
theorem ox_842 {a0 : Int} (h0 : (0 : Int) ≤ a0) (h1 : a0 ≤ (1 : Int)) (h2 : a0 ≠ 0) : (1 : Int) ≤ a0 := by omega
theorem ox_843 {a0 : Int} (h0 : (0 : Int) ≤ a0) : (-2147483648) ≤ 100 + a0 := by omega
theorem ox_844 {a0 : Int} (h0 : a0 ≤ (19 : Int)) : 100 + a0 ≤ 2147483647 := by omega
theorem ox_845 {a0 a1 : Int} (h0 : a0 = 100 + a1) : a0 = a1 + 100 := by omega
theorem ox_846 {a0 : Int} (h0 : a0 = 0) : a0 ≤ (19 : Int) := by omega
theorem ox_847 {a0 : Int} (h0 : a0 = 0) : 0 ≤ -1 * a0 + 19 := by omega
theorem ox_848 {a0 a1 : Int} (h0 : ((a0 = (59 : Int)) ∧ (a1 = (1 : Int))) ∨ ((a0 ≠ (59 : Int)) ∧ (a0 = (40 : Int)) ∧ (a0 ≤ (58 : Int)) ∧ (a1 = (1 : Int))) ∨ ((a0 ≠ (59 : Int)) ∧ (a0 ≠ (40 : Int)) ∧ (a0 = (41 : Int)) ∧ (a0 ≤ (58 : Int)) ∧ ((41 : Int) ≤ a0) ∧ (a1 = (1 : Int))) ∨ ((a0 ≠ (59 : Int)) ∧ (a0 ≠ (40 : Int)) ∧ (a0 ≠ (41 : Int)) ∧ (a1 = (0 : Int))) ∨ ((a0 ≠ (59 : Int)) ∧ (a0 ≠ (40 : Int)) ∧ (a0 ≠ (41 : Int)) ∧ (a1 = (1 : Int)))) (h1 : a1 = 0) : a0 ≠ (59 : Int) := by omega
theorem ox_849 {a0 a1 : Int} (h0 : ((a0 = (59 : Int)) ∧ (a1 = (1 : Int))) ∨ ((a0 ≠ (59 : Int)) ∧ (a0 = (40 : Int)) ∧ (a0 ≤ (58 : Int)) ∧ (a1 = (1 : Int))) ∨ ((a0 ≠ (59 : Int)) ∧ (a0 ≠ (40 : Int)) ∧ (a0 = (41 : Int)) ∧ (a0 ≤ (58 : Int)) ∧ ((41 : Int) ≤ a0) ∧ (a1 = (1 : Int))) ∨ ((a0 ≠ (59 : Int)) ∧ (a0 ≠ (40 : Int)) ∧ (a0 ≠ (41 : Int)) ∧ (a1 = (0 : Int))) ∨ ((a0 ≠ (59 : Int)) ∧ (a0 ≠ (40 : Int)) ∧ (a0 ≠ (41 : Int)) ∧ (a1 = (1 : Int)))) (h1 : a1 = 0) : a0 ≠ (40 : Int) := by omega
theorem ox_850 {a0 a1 : Int} (h0 : ((a0 = (59 : Int)) ∧ (a1 = (1 : Int))) ∨ ((a0 ≠ (59 : Int)) ∧ (a0 = (40 : Int)) ∧ (a0 ≤ (58 : Int)) ∧ (a1 = (1 : Int))) ∨ ((a0 ≠ (59 : Int)) ∧ (a0 ≠ (40 : Int)) ∧ (a0 = (41 : Int)) ∧ (a0 ≤ (58 : Int)) ∧ ((41 : Int) ≤ a0) ∧ (a1 = (1 : Int))) ∨ ((a0 ≠ (59 : Int)) ∧ (a0 ≠ (40 : Int)) ∧ (a0 ≠ (41 : Int)) ∧ (a1 = (0 : Int))) ∨ ((a0 ≠ (59 : Int)) ∧ (a0 ≠ (40 : Int)) ∧ (a0 ≠ (41 : Int)) ∧ (a1 = (1 : Int)))) (h1 : a1 = 0) : a0 ≠ (41 : Int) := by omega
theorem ox_851 {a0 a1 : Int} (h0 : ((a0 = (59 : Int)) ∧ (a1 = (1 : Int))) ∨ ((a0 ≠ (59 : Int)) ∧ (a0 = (40 : Int)) ∧ (a0 ≤ (58 : Int)) ∧ (a1 = (1 : Int))) ∨ ((a0 ≠ (59 : Int)) ∧ (a0 ≠ (40 : Int)) ∧ (a0 = (41 : Int)) ∧ (a0 ≤ (58 : Int)) ∧ ((41 : Int) ≤ a0) ∧ (a1 = (1 : Int))) ∨ ((a0 ≠ (59 : Int)) ∧ (a0 ≠ (40 : Int)) ∧ (a0 ≠ (41 : Int)) ∧ (a1 = (0 : Int))) ∨ ((a0 ≠ (59 : Int)) ∧ (a0 ≠ (40 : Int)) ∧ (a0 ≠ (41 : Int)) ∧ (a1 = (1 : Int)))) (h1 : a1 ≠ 0) : (1 : Int) ≤ a1 := by omega
theorem ox_852 {a0 : Int} (h0 : (0 : Int) ≤ a0) (h1 : a0 ≤ (1601 : Int)) (h2 : a0 ≤ (1600 : Int)) : a0 ≤ (1600 : Int) := by omega
theorem ox_853 {a0 a1 : Int} (h0 : a0 ≤ (1600 : Int)) (h1 : a1 < a0) : a0 ≤ (1600 : Int) := by omega
theorem ox_854 {a0 a1 : Int} (h0 : a0 < a1) (h1 : a1 ≤ a0) : False := by omega
theorem ox_855 {a0 a1 : Int} (h0 : a1 ≤ a0) (h1 : a0 < a1) : False := by omega
theorem ox_856 {a0 a1 : Int} (h0 : -1 * a0 + 1601 < 0) (h1 : (0 : Int) ≤ a0) (h2 : a0 ≤ (1601 : Int)) (h3 : a1 = a0) : False := by omega
theorem ox_857 {a0 : Int} (h0 : a0 = 0) : a0 ≤ (0 : Int) := by omega
theorem ox_858 {a0 a1 : Int} (h0 : a0 = a1) (h1 : a1 ≤ 1600) : a0 ≤ (1600 : Int) := by omega
theorem ox_859 {a0 a1 : Int} (h0 : (a1 ≤ 1600 ∧ a0 = a1) ∨ (1600 ≤ a1 ∧ a0 = 1600)) : a0 ≤ (1600 : Int) := by omega
theorem ox_860 {a0 : Int} (h0 : a0 ≤ 1600) : a0 < 1601 := by omega
theorem ox_861 {a0 : Int} (h0 : a0 ≤ (1601 : Int)) : a0 + 1 ≤ 2147483647 := by omega
theorem ox_862 {a0 a1 : Int} (h0 : a0 ≤ 1600) (h1 : a1 = a0 + 1) : a1 ≤ (1601 : Int) := by omega
theorem ox_863 {a0 a1 a2 : Int} (h0 : a0 = a1 + 1) (h1 : a2 = a1 + 1) : a2 = a0 := by omega
theorem ox_864 {a0 a1 a2 : Int} (h0 : -1 * a0 + 1601 < a1 + 1) (h1 : a2 = a0 + 1) : -1 * a2 + 1601 < a1 := by omega
theorem ox_865 {a0 : Int} (h0 : a0 = 0) : a0 ≤ (1601 : Int) := by omega
theorem ox_866 {a0 : Int} (h0 : a0 = 0) : a0 = a0 := by omega
theorem ox_867 {a0 : Int} (h0 : a0 = 0) : 0 ≤ -1 * a0 + 1601 := by omega
theorem ox_868 {a0 : Int} (h0 : (0 : Int) ≤ a0) (h1 : a0 ≤ (300 : Int)) (h2 : a0 < 300) : 0 ≤ a0 := by omega
theorem ox_869 {a0 : Int} (h0 : (0 : Int) ≤ a0) (h1 : a0 ≤ (300 : Int)) (h2 : a0 < 300) : a0 < 300 := by omega
theorem ox_870 {a0 : Int} (h0 : (0 : Int) ≤ a0) (h1 : a0 ≤ (300 : Int)) (h2 : a0 < 300) : (-2147483648) ≤ a0 + 1 := by omega
theorem ox_871 {a0 : Int} (h0 : (0 : Int) ≤ a0) (h1 : a0 ≤ (300 : Int)) (h2 : a0 < 300) : a0 + 1 ≤ 2147483647 := by omega
theorem ox_872 {a0 a1 : Int} (h0 : (0 : Int) ≤ a0) (h1 : a0 ≤ (300 : Int)) (h2 : a0 < 300) (h3 : a1 = a0 + 1) : (0 : Int) ≤ a1 := by omega
theorem ox_873 {a0 a1 : Int} (h0 : (0 : Int) ≤ a0) (h1 : a0 ≤ (300 : Int)) (h2 : a0 < 300) (h3 : a1 = a0 + 1) : a1 ≤ (300 : Int) := by omega
theorem ox_874 {a0 a1 a2 : Int} (h0 : (0 : Int) ≤ a0) (h1 : a0 ≤ (5 : Int)) (h2 : a1 = 0) : (a1 = (1 : Int)) → ((a2 = (101 : Int)) → (a0 ≤ (4 : Int))) := by omega
theorem ox_875 {a0 a1 a2 : Int} (h0 : (0 : Int) ≤ a0) (h1 : a0 ≤ (4 : Int)) (h2 : a1 = 0) : (a1 = (1 : Int)) → ((a2 = (102 : Int)) → (a0 ≤ (3 : Int))) := by omega
theorem ox_876 {a0 a1 a2 : Int} (h0 : (0 : Int) ≤ a0) (h1 : a0 ≤ (5 : Int)) (h2 : a1 = 100) (h3 : a2 = 0) : (a2 = (1 : Int)) → ((a1 = (101 : Int)) → (a0 ≤ (4 : Int))) := by omega
theorem ox_877 {a0 a1 a2 : Int} (h0 : (0 : Int) ≤ a0) (h1 : a0 ≤ (4 : Int)) (h2 : a1 = 100) (h3 : a2 = 0) : (a2 = (1 : Int)) → ((a1 = (102 : Int)) → (a0 ≤ (3 : Int))) := by omega
theorem ox_878 {a0 a1 a2 : Int} (h0 : (0 : Int) ≤ a0) (h1 : a0 ≤ (5 : Int)) (h2 : a1 = 100) (h3 : a2 = 1) : (a2 = (1 : Int)) → ((a1 = (101 : Int)) → (a0 ≤ (4 : Int))) := by omega
theorem ox_879 {a0 a1 a2 : Int} (h0 : (0 : Int) ≤ a0) (h1 : a0 ≤ (4 : Int)) (h2 : a1 = 100) (h3 : a2 = 1) : (a2 = (1 : Int)) → ((a1 = (102 : Int)) → (a0 ≤ (3 : Int))) := by omega
theorem ox_880 {a0 a1 a2 : Int} (h0 : a0 = 0) : (a0 = (1 : Int)) → ((a1 = (101 : Int)) → (a2 ≤ (4 : Int))) := by omega
theorem ox_881 {a0 a1 a2 : Int} (h0 : (0 : Int) ≤ a0) (h1 : a0 ≤ (4 : Int)) (h2 : a1 = 101) (h3 : a2 = 0) : (a2 = (1 : Int)) → ((a1 = (102 : Int)) → (a0 ≤ (3 : Int))) := by omega
theorem ox_882 {a0 a1 a2 : Int} (h0 : a0 < 5) (h1 : a1 = 1) : (a1 = (1 : Int)) → ((a2 = (101 : Int)) → (a0 ≤ (4 : Int))) := by omega
theorem ox_883 {a0 a1 a2 : Int} (h0 : (0 : Int) ≤ a0) (h1 : a0 ≤ (4 : Int)) (h2 : a1 = 101) (h3 : a2 = 1) : (a2 = (1 : Int)) → ((a1 = (102 : Int)) → (a0 ≤ (3 : Int))) := by omega
theorem ox_884 {a0 a1 a2 : Int} (h0 : (0 : Int) ≤ a0) (h1 : a0 ≤ (5 : Int)) (h2 : a1 = 102) (h3 : a2 = 0) : (a2 = (1 : Int)) → ((a1 = (101 : Int)) → (a0 ≤ (4 : Int))) := by omega
theorem ox_885 {a0 a1 a2 : Int} (h0 : a0 = 0) : (a0 = (1 : Int)) → ((a1 = (102 : Int)) → (a2 ≤ (3 : Int))) := by omega
theorem ox_886 {a0 a1 a2 : Int} (h0 : (0 : Int) ≤ a0) (h1 : a0 ≤ (5 : Int)) (h2 : a1 = 102) (h3 : a2 = 1) : (a2 = (1 : Int)) → ((a1 = (101 : Int)) → (a0 ≤ (4 : Int))) := by omega
theorem ox_887 {a0 a1 a2 : Int} (h0 : a0 < 4) (h1 : a1 = 1) : (a1 = (1 : Int)) → ((a2 = (102 : Int)) → (a0 ≤ (3 : Int))) := by omega
theorem ox_888 {a0 a1 a2 : Int} (h0 : (0 : Int) ≤ a0) (h1 : a0 ≤ (5 : Int)) (h2 : a1 = 103) (h3 : a2 = 0) : (a2 = (1 : Int)) → ((a1 = (101 : Int)) → (a0 ≤ (4 : Int))) := by omega
theorem ox_889 {a0 a1 a2 : Int} (h0 : (0 : Int) ≤ a0) (h1 : a0 ≤ (4 : Int)) (h2 : a1 = 103) (h3 : a2 = 0) : (a2 = (1 : Int)) → ((a1 = (102 : Int)) → (a0 ≤ (3 : Int))) := by omega
theorem ox_890 {a0 a1 a2 : Int} (h0 : (0 : Int) ≤ a0) (h1 : a0 ≤ (5 : Int)) (h2 : a1 = 103) (h3 : a2 = 1) : (a2 = (1 : Int)) → ((a1 = (101 : Int)) → (a0 ≤ (4 : Int))) := by omega
theorem ox_891 {a0 a1 a2 : Int} (h0 : (0 : Int) ≤ a0) (h1 : a0 ≤ (4 : Int)) (h2 : a1 = 103) (h3 : a2 = 1) : (a2 = (1 : Int)) → ((a1 = (102 : Int)) → (a0 ≤ (3 : Int))) := by omega
theorem ox_892 {a0 a1 a2 : Int} (h0 : (0 : Int) ≤ a0) (h1 : a0 ≤ (5 : Int)) (h2 : a1 = 104) (h3 : a2 = 0) : (a2 = (1 : Int)) → ((a1 = (101 : Int)) → (a0 ≤ (4 : Int))) := by omega
theorem ox_893 {a0 a1 a2 : Int} (h0 : (0 : Int) ≤ a0) (h1 : a0 ≤ (4 : Int)) (h2 : a1 = 104) (h3 : a2 = 0) : (a2 = (1 : Int)) → ((a1 = (102 : Int)) → (a0 ≤ (3 : Int))) := by omega
theorem ox_894 {a0 a1 a2 : Int} (h0 : (0 : Int) ≤ a0) (h1 : a0 ≤ (5 : Int)) (h2 : a1 = 104) (h3 : a2 = 1) : (a2 = (1 : Int)) → ((a1 = (101 : Int)) → (a0 ≤ (4 : Int))) := by omega
theorem ox_895 {a0 a1 a2 : Int} (h0 : (0 : Int) ≤ a0) (h1 : a0 ≤ (4 : Int)) (h2 : a1 = 104) (h3 : a2 = 1) : (a2 = (1 : Int)) → ((a1 = (102 : Int)) → (a0 ≤ (3 : Int))) := by omega
theorem ox_896 {a0 a1 a2 : Int} (h0 : (0 : Int) ≤ a0) (h1 : a0 ≤ (5 : Int)) (h2 : a1 = 105) (h3 : a2 = 0) : (a2 = (1 : Int)) → ((a1 = (101 : Int)) → (a0 ≤ (4 : Int))) := by omega
theorem ox_897 {a0 a1 a2 : Int} (h0 : (0 : Int) ≤ a0) (h1 : a0 ≤ (4 : Int)) (h2 : a1 = 105) (h3 : a2 = 0) : (a2 = (1 : Int)) → ((a1 = (102 : Int)) → (a0 ≤ (3 : Int))) := by omega
theorem ox_898 {a0 a1 a2 : Int} (h0 : (0 : Int) ≤ a0) (h1 : a0 ≤ (5 : Int)) (h2 : a1 = 105) (h3 : a2 = 1) : (a2 = (1 : Int)) → ((a1 = (101 : Int)) → (a0 ≤ (4 : Int))) := by omega
theorem ox_899 {a0 a1 a2 : Int} (h0 : (0 : Int) ≤ a0) (h1 : a0 ≤ (4 : Int)) (h2 : a1 = 105) (h3 : a2 = 1) : (a2 = (1 : Int)) → ((a1 = (102 : Int)) → (a0 ≤ (3 : Int))) := by omega
theorem ox_900 {a0 : Int} (h0 : (0 : Int) ≤ a0) (h1 : a0 ≤ (1600 : Int)) (h2 : a0 < 1600) : (-2147483648) ≤ a0 + 1 := by omega
theorem ox_901 {a0 : Int} (h0 : (0 : Int) ≤ a0) (h1 : a0 ≤ (1600 : Int)) (h2 : a0 < 1600) : a0 + 1 ≤ 2147483647 := by omega
theorem ox_902 {a0 : Int} (h0 : (0 : Int) ≤ a0) (h1 : a0 ≤ (1600 : Int)) (h2 : a0 < 1600) : 0 ≤ a0 + 1 := by omega
theorem ox_903 {a0 : Int} (h0 : (0 : Int) ≤ a0) (h1 : a0 ≤ (1600 : Int)) (h2 : a0 < 1600) : a0 + 1 < 1601 := by omega
theorem ox_904 {a0 a1 : Int} (h0 : (0 : Int) ≤ a0) (h1 : a0 ≤ (1600 : Int)) (h2 : a0 < 1600) (h3 : a1 = a0 + 1) : (0 : Int) ≤ a1 := by omega
theorem ox_905 {a0 a1 : Int} (h0 : (0 : Int) ≤ a0) (h1 : a0 ≤ (1600 : Int)) (h2 : a0 < 1600) (h3 : a1 = a0 + 1) : a1 ≤ (1600 : Int) := by omega
theorem ox_906 {a0 : Int} (h0 : (0 : Int) ≤ a0) (h1 : a0 ≤ (1600 : Int)) : 0 ≤ a0 := by omega
theorem ox_907 {a0 : Int} (h0 : (0 : Int) ≤ a0) (h1 : a0 ≤ (1600 : Int)) : a0 < 1601 := by omega
theorem ox_908 {a0 a1 a2 a3 : Int} (h0 : a0 < a1) (h1 : a2 = 0) : (a2 = (0 : Int)) ∨ ((a1 ≤ a2) ∧ (a2 ≤ a3)) := by omega
theorem ox_909 {a0 a1 a2 : Int} (h0 : a1 ≤ a0) (h1 : a0 ≤ a2) : (a0 = (0 : Int)) ∨ ((a1 ≤ a0) ∧ (a0 ≤ a2)) := by omega
theorem ox_910 {a0 a1 a2 a3 : Int} (h0 : a1 ≤ a0) (h1 : a2 < a0) (h2 : a3 = 0) : (a3 = (0 : Int)) ∨ ((a1 ≤ a3) ∧ (a3 ≤ a2)) := by omega
theorem ox_911 {a0 a1 a2 : Int} (h0 : a0 = 0) : (a0 = (0 : Int)) ∨ ((a1 ≤ a0) ∧ (a0 ≤ a2)) := by omega
theorem ox_912 {a0 a1 : Int} (h0 : (0 : Int) ≤ a0) (h1 : a0 ≤ (4 : Int)) (h2 : a0 ≤ a1) : 0 ≤ a0 := by omega
theorem ox_913 {a0 a1 : Int} (h0 : (0 : Int) ≤ a0) (h1 : a0 ≤ (4 : Int)) (h2 : a0 ≤ a1) : a0 < 5 := by omega
theorem ox_914 {a0 : Int} (h0 : a0 ≤ (4 : Int)) : a0 < 5 := by omega
theorem ox_915 {a0 a1 a2 : Int} (h0 : (a0 = 0 ∧ a1 = a2) ∨ (a0 ≠ 0 ∧ a1 ≠ a2)) (h1 : a0 ≠ 0) : a0 ≠ (0 : Int) := by omega
theorem ox_916 {a0 a1 a2 : Int} (h0 : (a0 = 0 ∧ a1 = a2) ∨ (a0 ≠ 0 ∧ a1 ≠ a2)) (h1 : a0 ≠ 0) (h2 : a0 ≠ (0 : Int)) : a1 ≠ a2 := by omega
theorem ox_917 {a0 : Int} (h0 : a0 = 0) : a0 = (0 : Int) := by omega
theorem ox_918 {a0 a1 a2 : Int} (h0 : (a0 = 0 ∧ a1 = a2) ∨ (a0 ≠ 0 ∧ a1 ≠ a2)) (h1 : a0 = 0) (h2 : a0 = (0 : Int)) : a1 = a2 := by omega
theorem ox_919 {a0 a1 : Int} (h0 : a0 = a1) (h1 : a1 ≤ (4 : Int)) : a0 ≤ (4 : Int) := by omega
theorem ox_920 {a0 a1 : Int} (h0 : (0 : Int) ≤ a0) (h1 : a1 = a0) : 0 ≤ a1 := by omega
theorem ox_921 {a0 a1 : Int} (h0 : a0 = a1) (h1 : a1 ≤ (4 : Int)) : a0 < 5 := by omega
theorem ox_922 {a0 a1 : Int} (h0 : -1 * a0 + 8 < 0) (h1 : (0 : Int) ≤ a0) (h2 : a0 ≤ (8 : Int)) (h3 : a0 = a1) : False := by omega
theorem ox_923 {a0 a1 : Int} (h0 : (0 : Int) ≤ a0) (h1 : a1 = a0) : (-2147483648) ≤ a1 + 1 := by omega
theorem ox_924 {a0 a1 : Int} (h0 : a0 ≤ (5 : Int)) (h1 : a1 = a0) : a1 + 1 ≤ 2147483647 := by omega
theorem ox_925 {a0 a1 a2 : Int} (h0 : (0 : Int) ≤ a0) (h1 : a1 = a0) (h2 : a2 = a1 + 1) : (0 : Int) ≤ a2 := by omega
theorem ox_926 {a0 a1 a2 : Int} (h0 : a0 = a1) (h1 : a1 ≤ (4 : Int)) (h2 : a2 = a0 + 1) : a2 ≤ (5 : Int) := by omega
theorem ox_927 {a0 a1 a2 : Int} (h0 : a0 = a1) (h1 : a2 = a0 + 1) : a2 = a1 + 1 := by omega
theorem ox_928 {a0 a1 : Int} (h0 : a0 = a1) (h1 : 8 ≤ a1) : 3 ≤ a0 := by omega
theorem ox_929 {a0 a1 : Int} (h0 : (0 : Int) ≤ a0) (h1 : a1 = a0) : (-2147483648) ≤ a1 * 8 := by omega
theorem ox_930 {a0 a1 : Int} (h0 : a0 ≤ (5 : Int)) (h1 : a1 = a0) : a1 * 8 ≤ 2147483647 := by omega
theorem ox_931 {a0 a1 a2 a3 : Int} (h0 : (0 : Int) ≤ a0) (h1 : a1 = a0) (h2 : (0 : Int) ≤ a2) (h3 : a3 = 8 * a1) : (-2147483648) ≤ a3 + a2 := by omega
theorem ox_932 {a0 a1 a2 a3 : Int} (h0 : a0 ≤ (5 : Int)) (h1 : a1 = a0) (h2 : a2 ≤ (8 : Int)) (h3 : a3 = 8 * a1) : a3 + a2 ≤ 2147483647 := by omega
theorem ox_933 {a0 a1 a2 : Int} (h0 : (0 : Int) ≤ a0) (h1 : a1 = a0) (h2 : (0 : Int) ≤ a2) : 0 ≤ a2 + 8 * a1 := by omega
theorem ox_934 {a0 a1 a2 : Int} (h0 : a0 = a1) (h1 : a1 ≤ (4 : Int)) (h2 : a2 < 8) : a2 + 8 * a0 < 40 := by omega
theorem ox_935 {a0 a1 a2 : Int} (h0 : (a0 = (0 : Int)) ∨ ((a1 ≤ a0) ∧ (a0 ≤ a2))) (h1 : a2 = 6) (h2 : a1 = 0) : 0 ≤ a0 := by omega
theorem ox_936 {a0 a1 a2 : Int} (h0 : (a0 = (0 : Int)) ∨ ((a1 ≤ a0) ∧ (a0 ≤ a2))) (h1 : a2 = 6) (h2 : a1 = 0) : a0 ≤ 6 := by omega
theorem ox_937 {a0 a1 a2 : Int} (h0 : a0 = a1) (h1 : a1 < 8) (h2 : a2 = a0 + 1) : a2 ≤ (8 : Int) := by omega
theorem ox_938 {a0 a1 a2 a3 : Int} (h0 : a0 = a1) (h1 : a2 = a1 + 1) (h2 : a3 = a0 + 1) : a3 = a2 := by omega
theorem ox_939 {a0 a1 : Int} (h0 : a0 = a1) (h1 : 3 ≤ a1) : 3 ≤ a0 := by omega
theorem ox_940 {a0 : Int} (h0 : -1 * a0 + 3 < 0) (h1 : (0 : Int) ≤ a0) (h2 : a0 ≤ (3 : Int)) : False := by omega
theorem ox_941 {a0 a1 : Int} (h0 : (0 : Int) ≤ a0) (h1 : a0 ≤ (3 : Int)) (h2 : a0 ≤ a1) : 0 ≤ a0 := by omega
theorem ox_942 {a0 a1 : Int} (h0 : (0 : Int) ≤ a0) (h1 : a0 ≤ (3 : Int)) (h2 : a0 ≤ a1) : a0 < 4 := by omega
theorem ox_943 {a0 : Int} (h0 : a0 ≤ (3 : Int)) : a0 + 1 ≤ 2147483647 := by omega
theorem ox_944 {a0 a1 a2 : Int} (h0 : a0 ≤ (3 : Int)) (h1 : a1 < a0) (h2 : a2 = a1 + 1) : a2 ≤ (3 : Int) := by omega
theorem ox_945 {a0 a1 a2 : Int} (h0 : -1 * a0 + 3 < a1 + 1) (h1 : a2 = a0 + 1) : -1 * a2 + 3 < a1 := by omega
theorem ox_946 {a0 : Int} (h0 : a0 = 0) : a0 ≤ (3 : Int) := by omega
theorem ox_947 {a0 : Int} (h0 : a0 = 0) : 0 ≤ -1 * a0 + 3 := by omega
theorem ox_948 {a0 a1 : Int} (h0 : a0 = a1) (h1 : a1 ≤ (3 : Int)) : a0 ≤ (3 : Int) := by omega
theorem ox_949 {a0 a1 : Int} (h0 : a0 = a1) (h1 : a1 ≤ (3 : Int)) : a0 < 4 := by omega
theorem ox_950 {a0 a1 : Int} (h0 : a0 ≤ (4 : Int)) (h1 : a1 = a0) : a1 + 1 ≤ 2147483647 := by omega
theorem ox_951 {a0 a1 a2 : Int} (h0 : a0 = a1) (h1 : a1 ≤ (3 : Int)) (h2 : a2 = a0 + 1) : a2 ≤ (4 : Int) := by omega
theorem ox_952 {a0 a1 : Int} (h0 : (0 : Int) ≤ a0) (h1 : a1 = a0) : (-2147483648) ≤ a1 * 3 := by omega
theorem ox_953 {a0 a1 : Int} (h0 : a0 ≤ (4 : Int)) (h1 : a1 = a0) : a1 * 3 ≤ 2147483647 := by omega
theorem ox_954 {a0 a1 a2 a3 : Int} (h0 : (0 : Int) ≤ a0) (h1 : a1 = a0) (h2 : (0 : Int) ≤ a2) (h3 : a3 = 3 * a1) : (-2147483648) ≤ a3 + a2 := by omega
theorem ox_955 {a0 a1 a2 a3 : Int} (h0 : a0 ≤ (4 : Int)) (h1 : a1 = a0) (h2 : a2 ≤ (3 : Int)) (h3 : a3 = 3 * a1) : a3 + a2 ≤ 2147483647 := by omega
theorem ox_956 {a0 a1 a2 a3 : Int} (h0 : a0 = a1 + a2) (h1 : a1 = 3 * a3) : a0 = a2 + 3 * a3 := by omega
theorem ox_957 {a0 a1 a2 : Int} (h0 : (0 : Int) ≤ a0) (h1 : a1 = a0) (h2 : (0 : Int) ≤ a2) : 0 ≤ a2 + 3 * a1 := by omega
theorem ox_958 {a0 a1 a2 : Int} (h0 : a0 = a1) (h1 : a1 ≤ (3 : Int)) (h2 : a2 < 3) : a2 + 3 * a0 < 12 := by omega
theorem ox_959 {a0 a1 : Int} (h0 : a0 < 3) (h1 : a1 = a0 + 1) : a1 ≤ (3 : Int) := by omega
theorem ox_960 {a0 a1 : Int} (h0 : a0 < 112) (h1 : a1 = 0) : ((a0 ≤ (111 : Int)) ∧ (a1 = (0 : Int))) ∨ (((112 : Int) ≤ a0) ∧ ((119 : Int) ≤ a0) ∧ (a1 = (0 : Int))) ∨ (((112 : Int) ≤ a0) ∧ (a0 ≤ (118 : Int)) ∧ (a1 = (1 : Int))) := by omega
theorem ox_961 {a0 a1 : Int} (h0 : 112 ≤ a0) (h1 : 118 < a0) (h2 : a1 = 0) : ((a0 ≤ (111 : Int)) ∧ (a1 = (0 : Int))) ∨ (((112 : Int) ≤ a0) ∧ ((119 : Int) ≤ a0) ∧ (a1 = (0 : Int))) ∨ (((112 : Int) ≤ a0) ∧ (a0 ≤ (118 : Int)) ∧ (a1 = (1 : Int))) := by omega
theorem ox_962 {a0 a1 : Int} (h0 : 112 ≤ a0) (h1 : a0 ≤ 118) (h2 : a1 = 1) : ((a0 ≤ (111 : Int)) ∧ (a1 = (0 : Int))) ∨ (((112 : Int) ≤ a0) ∧ ((119 : Int) ≤ a0) ∧ (a1 = (0 : Int))) ∨ (((112 : Int) ≤ a0) ∧ (a0 ≤ (118 : Int)) ∧ (a1 = (1 : Int))) := by omega
theorem ox_963 {a0 : Int} (h0 : a0 = 2) : a0 ≤ (39 : Int) := by omega
theorem ox_964 {a0 : Int} (h0 : a0 ≠ 2) (h1 : a0 = 2) (h2 : a0 ≤ (39 : Int)) : False := by omega
theorem ox_965 {a0 a1 : Int} (h0 : ((a0 ≤ (111 : Int)) ∧ (a1 = (0 : Int))) ∨ (((112 : Int) ≤ a0) ∧ ((119 : Int) ≤ a0) ∧ (a1 = (0 : Int))) ∨ (((112 : Int) ≤ a0) ∧ (a0 ≤ (118 : Int)) ∧ (a1 = (1 : Int)))) (h1 : a1 ≠ 0) : (112 : Int) ≤ a0 := by omega
theorem ox_966 {a0 a1 : Int} (h0 : ((a0 ≤ (111 : Int)) ∧ (a1 = (0 : Int))) ∨ (((112 : Int) ≤ a0) ∧ ((119 : Int) ≤ a0) ∧ (a1 = (0 : Int))) ∨ (((112 : Int) ≤ a0) ∧ (a0 ≤ (118 : Int)) ∧ (a1 = (1 : Int)))) (h1 : a1 ≠ 0) : a0 ≤ (118 : Int) := by omega
theorem ox_967 {a0 a1 : Int} (h0 : ((a0 ≤ (111 : Int)) ∧ (a1 = (0 : Int))) ∨ (((112 : Int) ≤ a0) ∧ ((119 : Int) ≤ a0) ∧ (a1 = (0 : Int))) ∨ (((112 : Int) ≤ a0) ∧ (a0 ≤ (118 : Int)) ∧ (a1 = (1 : Int)))) (h1 : a1 ≠ 0) : a1 = (1 : Int) := by omega
theorem ox_968 {a0 : Int} (h0 : a0 = 2) (h1 : (112 : Int) ≤ a0) (h2 : a0 ≤ (118 : Int)) : False := by omega
theorem ox_969 {a0 : Int} (h0 : (112 : Int) ≤ a0) (h1 : a0 ≤ (118 : Int)) : (41 : Int) ≤ a0 := by omega
theorem ox_970 {a0 : Int} (h0 : (112 : Int) ≤ a0) (h1 : a0 ≤ (118 : Int)) (h2 : (41 : Int) ≤ a0) : (3 : Int) ≤ a0 := by omega
theorem ox_971 {a0 : Int} (h0 : (112 : Int) ≤ a0) : (3 : Int) ≤ a0 := by omega
theorem ox_972 {a0 : Int} (h0 : (0 : Int) ≤ a0 + 1) (h1 : a0 ≤ (4 : Int)) (h2 : a0 ≠ 4) : a0 ≤ (3 : Int) := by omega
theorem ox_973 {a0 : Int} (h0 : (0 : Int) ≤ a0) (h1 : a0 ≤ (300 : Int)) : (0 : Int) ≤ a0 := by omega
theorem ox_974 {a0 : Int} (h0 : (0 : Int) ≤ a0) (h1 : a0 ≤ (300 : Int)) : a0 ≤ (300 : Int) := by omega
theorem ox_975 {a0 : Int} (h0 : -1 * a0 + 1 < 0) (h1 : (0 : Int) ≤ a0) (h2 : a0 ≤ (1 : Int)) : False := by omega
theorem ox_976 {a0 : Int} (h0 : a0 ≤ (1 : Int)) : a0 + 1 ≤ 2147483647 := by omega
theorem ox_977 {a0 a1 : Int} (h0 : a0 < 1) (h1 : a1 = a0 + 1) : a1 ≤ (1 : Int) := by omega
theorem ox_978 {a0 a1 a2 : Int} (h0 : -1 * a0 + 1 < a1 + 1) (h1 : a2 = a0 + 1) : -1 * a2 + 1 < a1 := by omega
theorem ox_979 {a0 : Int} (h0 : a0 = 0) : 0 ≤ -1 * a0 + 1 := by omega
theorem ox_980 {a0 a1 a2 : Int} (h0 : (0 : Int) ≤ a0) (h1 : a0 ≤ (1 : Int)) (h2 : (a0 = (1 : Int)) → ((a1 = (101 : Int)) → (a2 ≤ (4 : Int)))) (h3 : a0 ≠ 0) : (a1 = (101 : Int)) → (a2 ≤ (4 : Int)) := by omega
theorem ox_981 {a0 a1 a2 : Int} (h0 : (0 : Int) ≤ a0) (h1 : a0 ≤ (1 : Int)) (h2 : (a0 = (1 : Int)) → ((a1 = (102 : Int)) → (a2 ≤ (3 : Int)))) (h3 : a0 ≠ 0) : (a1 = (102 : Int)) → (a2 ≤ (3 : Int)) := by omega
theorem ox_982 {a0 a1 a2 : Int} (h0 : (0 : Int) ≤ a0) (h1 : a0 ≤ (1 : Int)) (h2 : (a0 = (1 : Int)) → ((a1 = (101 : Int)) → (a2 ≤ (4 : Int)))) (h3 : a0 ≠ 0) (h4 : a1 = 101) : a2 ≤ (4 : Int) := by omega
theorem ox_983 {a0 : Int} (h0 : (0 : Int) ≤ a0) (h1 : a0 ≤ (5 : Int)) (h2 : a0 ≤ (4 : Int)) : a0 ≤ (4 : Int) := by omega
theorem ox_984 {a0 a1 a2 : Int} (h0 : (0 : Int) ≤ a0) (h1 : a0 ≤ (1 : Int)) (h2 : (a0 = (1 : Int)) → ((a1 = (102 : Int)) → (a2 ≤ (3 : Int)))) (h3 : a0 ≠ 0) (h4 : a1 = 102) : a2 ≤ (3 : Int) := by omega
theorem ox_985 {a0 : Int} (h0 : (0 : Int) ≤ a0) (h1 : a0 ≤ (4 : Int)) (h2 : a0 ≤ (3 : Int)) : a0 ≤ (3 : Int) := by omega
theorem ox_986 : (0 : Int) < 1601 := by omega
theorem ox_987 {a0 : Int} (h0 : a0 = 0) (h1 : a0 ≠ 0) : False := by omega
theorem ox_988 {a0 : Int} (h0 : a0 ≠ 0) (h1 : a0 = 0) : False := by omega
theorem ox_989 {a0 : Int} (h0 : (0 : Int) ≤ a0) (h1 : a0 ≤ (5 : Int)) : (0 : Int) ≤ a0 := by omega
theorem ox_990 {a0 : Int} (h0 : (0 : Int) ≤ a0) (h1 : a0 ≤ (5 : Int)) : a0 ≤ (5 : Int) := by omega
theorem ox_991 {a0 : Int} (h0 : 5 ≤ a0) : 5 ≤ a0 := by omega
theorem ox_992 {a0 : Int} (h0 : a0 < 4) : a0 < 4 := by omega
theorem ox_993 {a0 a1 : Int} (h0 : a0 < 4) (h1 : a1 = a0 + 1) : a1 ≤ (4 : Int) := by omega
theorem ox_994 {a0 : Int} (h0 : a0 = (-1)) : (-1) ≤ a0 := by omega
theorem ox_995 {a0 : Int} (h0 : a0 = (-1)) : a0 ≤ (-1) := by omega
theorem ox_996 {a0 : Int} (h0 : 3 ≤ a0) : 3 ≤ a0 := by omega
theorem ox_997 {a0 : Int} (h0 : a0 < 3) : a0 < 3 := by omega

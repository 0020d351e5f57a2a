theorem zc_19 : (19 : Int32).toInt = 19 := by decide
theorem zc_101 : (101 : Int32).toInt = 101 := by decide
theorem zc_102 : (102 : Int32).toInt = 102 := by decide
theorem zc_103 : (103 : Int32).toInt = 103 := by decide
theorem zc_104 : (104 : Int32).toInt = 104 := by decide
theorem zc_105 : (105 : Int32).toInt = 105 := by decide
theorem zc_106 : (106 : Int32).toInt = 106 := by decide
theorem zc_107 : (107 : Int32).toInt = 107 := by decide
theorem zc_152 : (152 : Int32).toInt = 152 := by decide
theorem zc_300 : (300 : Int32).toInt = 300 := by decide
theorem ts_100_104 (x : Int32) : (x.toInt < 100 ∨ 104 < x.toInt) ∨ x = 100 ∨ x = 101 ∨ x = 102 ∨ x = 103 ∨ x = 104 := by
  by_cases h : x.toInt < 100 ∨ 104 < x.toInt
  · exact Or.inl h
  · right
    have hz : x.toInt = 100 ∨ x.toInt = 101 ∨ x.toInt = 102 ∨ x.toInt = 103 ∨ x.toInt = 104 := by omega
    rcases hz with hz | hz | hz | hz | hz
    · exact Or.inl (Int32.toInt_inj.mp (hz.trans (by decide)))
    · exact Or.inr (Or.inl (Int32.toInt_inj.mp (hz.trans (by decide))))
    · exact Or.inr (Or.inr (Or.inl (Int32.toInt_inj.mp (hz.trans (by decide)))))
    · exact Or.inr (Or.inr (Or.inr (Or.inl (Int32.toInt_inj.mp (hz.trans (by decide))))))
    · exact Or.inr (Or.inr (Or.inr (Or.inr ((Int32.toInt_inj.mp (hz.trans (by decide)))))))
theorem ts_100_105 (x : Int32) : (x.toInt < 100 ∨ 105 < x.toInt) ∨ x = 100 ∨ x = 101 ∨ x = 102 ∨ x = 103 ∨ x = 104 ∨ x = 105 := by
  by_cases h : x.toInt < 100 ∨ 105 < x.toInt
  · exact Or.inl h
  · right
    have hz : x.toInt = 100 ∨ x.toInt = 101 ∨ x.toInt = 102 ∨ x.toInt = 103 ∨ x.toInt = 104 ∨ x.toInt = 105 := by omega
    rcases hz with hz | hz | hz | hz | hz | hz
    · exact Or.inl (Int32.toInt_inj.mp (hz.trans (by decide)))
    · exact Or.inr (Or.inl (Int32.toInt_inj.mp (hz.trans (by decide))))
    · exact Or.inr (Or.inr (Or.inl (Int32.toInt_inj.mp (hz.trans (by decide)))))
    · exact Or.inr (Or.inr (Or.inr (Or.inl (Int32.toInt_inj.mp (hz.trans (by decide))))))
    · exact Or.inr (Or.inr (Or.inr (Or.inr (Or.inl (Int32.toInt_inj.mp (hz.trans (by decide)))))))
    · exact Or.inr (Or.inr (Or.inr (Or.inr (Or.inr ((Int32.toInt_inj.mp (hz.trans (by decide))))))))
theorem hd_J0_charAt_5068e : yJ0_charAt_5068e.cls = RJ0 ∧ yJ0_charAt_5068e.cls ≠ "java/lang/invoke/MethodHandle" ∧ yJ0_charAt_5068e.cls ≠ "java/lang/invoke/VarHandle" ∧ (parseMethodDescriptor yJ0_charAt_5068e.desc).map (fun d => d.parameters.length) = some 1 := by decide +kernel
theorem hd_J0_checkIndex_df160 : yJ0_checkIndex_df160.cls ≠ "java/lang/invoke/MethodHandle" ∧ yJ0_checkIndex_df160.cls ≠ "java/lang/invoke/VarHandle" ∧ (parseMethodDescriptor yJ0_checkIndex_df160.desc).map (fun d => d.parameters.length) = some 2 := by decide +kernel
theorem hd_J0_isLatin1_aae02 : yJ0_isLatin1_aae02.cls = RJ0 ∧ yJ0_isLatin1_aae02.cls ≠ "java/lang/invoke/MethodHandle" ∧ yJ0_isLatin1_aae02.cls ≠ "java/lang/invoke/VarHandle" ∧ (parseMethodDescriptor yJ0_isLatin1_aae02.desc).map (fun d => d.parameters.length) = some 0 := by decide +kernel
theorem hd_J1_charAt_3b067 : yJ1_charAt_3b067.cls ≠ "java/lang/invoke/MethodHandle" ∧ yJ1_charAt_3b067.cls ≠ "java/lang/invoke/VarHandle" ∧ (parseMethodDescriptor yJ1_charAt_3b067.desc).map (fun d => d.parameters.length) = some 2 := by decide +kernel
theorem hd_J3_checkIndex_8e157 : yJ3_checkIndex_8e157.cls ≠ "java/lang/invoke/MethodHandle" ∧ yJ3_checkIndex_8e157.cls ≠ "java/lang/invoke/VarHandle" ∧ (parseMethodDescriptor yJ3_checkIndex_8e157.desc).map (fun d => d.parameters.length) = some 3 := by decide +kernel
theorem hd_X1_addFact : yX1_addFact.cls = RX1 ∧ yX1_addFact.cls ≠ "java/lang/invoke/MethodHandle" ∧ yX1_addFact.cls ≠ "java/lang/invoke/VarHandle" ∧ (parseMethodDescriptor yX1_addFact.desc).map (fun d => d.parameters.length) = some 1 := by decide +kernel
theorem hd_X1_addNumber : yX1_addNumber.cls = RX1 ∧ yX1_addNumber.cls ≠ "java/lang/invoke/MethodHandle" ∧ yX1_addNumber.cls ≠ "java/lang/invoke/VarHandle" ∧ (parseMethodDescriptor yX1_addNumber.desc).map (fun d => d.parameters.length) = some 1 := by decide +kernel
theorem hd_X1_addOperator : yX1_addOperator.cls = RX1 ∧ yX1_addOperator.cls ≠ "java/lang/invoke/MethodHandle" ∧ yX1_addOperator.cls ≠ "java/lang/invoke/VarHandle" ∧ (parseMethodDescriptor yX1_addOperator.desc).map (fun d => d.parameters.length) = some 1 := by decide +kernel
theorem hd_X1_addStep : yX1_addStep.cls = RX1 ∧ yX1_addStep.cls ≠ "java/lang/invoke/MethodHandle" ∧ yX1_addStep.cls ≠ "java/lang/invoke/VarHandle" ∧ (parseMethodDescriptor yX1_addStep.desc).map (fun d => d.parameters.length) = some 1 := by decide +kernel
theorem hd_X1_empty : yX1_empty.cls = RX1 ∧ yX1_empty.cls ≠ "java/lang/invoke/MethodHandle" ∧ yX1_empty.cls ≠ "java/lang/invoke/VarHandle" ∧ (parseMethodDescriptor yX1_empty.desc).map (fun d => d.parameters.length) = some 0 := by decide +kernel
theorem hd_X2_isFact : yX2_isFact.cls ≠ "java/lang/invoke/MethodHandle" ∧ yX2_isFact.cls ≠ "java/lang/invoke/VarHandle" ∧ (parseMethodDescriptor yX2_isFact.desc).map (fun d => d.parameters.length) = some 1 := by decide +kernel
theorem hd_X2_levelOf : yX2_levelOf.cls ≠ "java/lang/invoke/MethodHandle" ∧ yX2_levelOf.cls ≠ "java/lang/invoke/VarHandle" ∧ (parseMethodDescriptor yX2_levelOf.desc).map (fun d => d.parameters.length) = some 1 := by decide +kernel
theorem hd_X3_begin : yX3_begin.cls = RX3 ∧ yX3_begin.cls ≠ "java/lang/invoke/MethodHandle" ∧ yX3_begin.cls ≠ "java/lang/invoke/VarHandle" ∧ (parseMethodDescriptor yX3_begin.desc).map (fun d => d.parameters.length) = some 0 := by decide +kernel
theorem hd_X4_clear : yX4_clear.cls = RX4 ∧ yX4_clear.cls ≠ "java/lang/invoke/MethodHandle" ∧ yX4_clear.cls ≠ "java/lang/invoke/VarHandle" ∧ (parseMethodDescriptor yX4_clear.desc).map (fun d => d.parameters.length) = some 0 := by decide +kernel
theorem hd_X4_tellUsualGladness : yX4_tellUsualGladness.cls = RX4 ∧ yX4_tellUsualGladness.cls ≠ "java/lang/invoke/MethodHandle" ∧ yX4_tellUsualGladness.cls ≠ "java/lang/invoke/VarHandle" ∧ (parseMethodDescriptor yX4_tellUsualGladness.desc).map (fun d => d.parameters.length) = some 0 := by decide +kernel
theorem hd_X5_advance : yX5_advance.cls = RX5 ∧ yX5_advance.cls ≠ "java/lang/invoke/MethodHandle" ∧ yX5_advance.cls ≠ "java/lang/invoke/VarHandle" ∧ (parseMethodDescriptor yX5_advance.desc).map (fun d => d.parameters.length) = some 0 := by decide +kernel
theorem hd_X5_handOver : yX5_handOver.cls = RX5 ∧ yX5_handOver.cls ≠ "java/lang/invoke/MethodHandle" ∧ yX5_handOver.cls ≠ "java/lang/invoke/VarHandle" ∧ (parseMethodDescriptor yX5_handOver.desc).map (fun d => d.parameters.length) = some 1 := by decide +kernel
theorem hd_X5_mayBeginLine : yX5_mayBeginLine.cls = RX5 ∧ yX5_mayBeginLine.cls ≠ "java/lang/invoke/MethodHandle" ∧ yX5_mayBeginLine.cls ≠ "java/lang/invoke/VarHandle" ∧ (parseMethodDescriptor yX5_mayBeginLine.desc).map (fun d => d.parameters.length) = some 0 := by decide +kernel
theorem hd_X5_pass : yX5_pass.cls = RX5 ∧ yX5_pass.cls ≠ "java/lang/invoke/MethodHandle" ∧ yX5_pass.cls ≠ "java/lang/invoke/VarHandle" ∧ (parseMethodDescriptor yX5_pass.desc).map (fun d => d.parameters.length) = some 1 := by decide +kernel
theorem hd_X5_read : yX5_read.cls = RX5 ∧ yX5_read.cls ≠ "java/lang/invoke/MethodHandle" ∧ yX5_read.cls ≠ "java/lang/invoke/VarHandle" ∧ (parseMethodDescriptor yX5_read.desc).map (fun d => d.parameters.length) = some 2 := by decide +kernel
theorem hd_X5_readFormula : yX5_readFormula.cls = RX5 ∧ yX5_readFormula.cls ≠ "java/lang/invoke/MethodHandle" ∧ yX5_readFormula.cls ≠ "java/lang/invoke/VarHandle" ∧ (parseMethodDescriptor yX5_readFormula.desc).map (fun d => d.parameters.length) = some 2 := by decide +kernel
theorem hd_X5_readHouse : yX5_readHouse.cls = RX5 ∧ yX5_readHouse.cls ≠ "java/lang/invoke/MethodHandle" ∧ yX5_readHouse.cls ≠ "java/lang/invoke/VarHandle" ∧ (parseMethodDescriptor yX5_readHouse.desc).map (fun d => d.parameters.length) = some 1 := by decide +kernel
theorem hd_X5_readLine : yX5_readLine.cls = RX5 ∧ yX5_readLine.cls ≠ "java/lang/invoke/MethodHandle" ∧ yX5_readLine.cls ≠ "java/lang/invoke/VarHandle" ∧ (parseMethodDescriptor yX5_readLine.desc).map (fun d => d.parameters.length) = some 0 := by decide +kernel
theorem hd_X5_readName : yX5_readName.cls = RX5 ∧ yX5_readName.cls ≠ "java/lang/invoke/MethodHandle" ∧ yX5_readName.cls ≠ "java/lang/invoke/VarHandle" ∧ (parseMethodDescriptor yX5_readName.desc).map (fun d => d.parameters.length) = some 2 := by decide +kernel
theorem hd_X5_readNot : yX5_readNot.cls = RX5 ∧ yX5_readNot.cls ≠ "java/lang/invoke/MethodHandle" ∧ yX5_readNot.cls ≠ "java/lang/invoke/VarHandle" ∧ (parseMethodDescriptor yX5_readNot.desc).map (fun d => d.parameters.length) = some 1 := by decide +kernel
theorem hd_X5_readNumber : yX5_readNumber.cls = RX5 ∧ yX5_readNumber.cls ≠ "java/lang/invoke/MethodHandle" ∧ yX5_readNumber.cls ≠ "java/lang/invoke/VarHandle" ∧ (parseMethodDescriptor yX5_readNumber.desc).map (fun d => d.parameters.length) = some 2 := by decide +kernel
theorem hd_X5_readTune : yX5_readTune.cls = RX5 ∧ yX5_readTune.cls ≠ "java/lang/invoke/MethodHandle" ∧ yX5_readTune.cls ≠ "java/lang/invoke/VarHandle" ∧ (parseMethodDescriptor yX5_readTune.desc).map (fun d => d.parameters.length) = some 1 := by decide +kernel
theorem hd_X5_readUnit : yX5_readUnit.cls = RX5 ∧ yX5_readUnit.cls ≠ "java/lang/invoke/MethodHandle" ∧ yX5_readUnit.cls ≠ "java/lang/invoke/VarHandle" ∧ (parseMethodDescriptor yX5_readUnit.desc).map (fun d => d.parameters.length) = some 1 := by decide +kernel
theorem hd_X5_refuse : yX5_refuse.cls = RX5 ∧ yX5_refuse.cls ≠ "java/lang/invoke/MethodHandle" ∧ yX5_refuse.cls ≠ "java/lang/invoke/VarHandle" ∧ (parseMethodDescriptor yX5_refuse.desc).map (fun d => d.parameters.length) = some 0 := by decide +kernel
theorem hd_X5_setFault : yX5_setFault.cls = RX5 ∧ yX5_setFault.cls ≠ "java/lang/invoke/MethodHandle" ∧ yX5_setFault.cls ≠ "java/lang/invoke/VarHandle" ∧ (parseMethodDescriptor yX5_setFault.desc).map (fun d => d.parameters.length) = some 1 := by decide +kernel
theorem hd_X6_isDigit : yX6_isDigit.cls ≠ "java/lang/invoke/MethodHandle" ∧ yX6_isDigit.cls ≠ "java/lang/invoke/VarHandle" ∧ (parseMethodDescriptor yX6_isDigit.desc).map (fun d => d.parameters.length) = some 1 := by decide +kernel
theorem hd_X6_isLetter : yX6_isLetter.cls ≠ "java/lang/invoke/MethodHandle" ∧ yX6_isLetter.cls ≠ "java/lang/invoke/VarHandle" ∧ (parseMethodDescriptor yX6_isLetter.desc).map (fun d => d.parameters.length) = some 1 := by decide +kernel
theorem hd_X6_isSign : yX6_isSign.cls ≠ "java/lang/invoke/MethodHandle" ∧ yX6_isSign.cls ≠ "java/lang/invoke/VarHandle" ∧ (parseMethodDescriptor yX6_isSign.desc).map (fun d => d.parameters.length) = some 1 := by decide +kernel
theorem hd_X6_isSpelled : yX6_isSpelled.cls = RX6 ∧ yX6_isSpelled.cls ≠ "java/lang/invoke/MethodHandle" ∧ yX6_isSpelled.cls ≠ "java/lang/invoke/VarHandle" ∧ (parseMethodDescriptor yX6_isSpelled.desc).map (fun d => d.parameters.length) = some 3 := by decide +kernel
theorem hd_X6_scan : yX6_scan.cls = RX6 ∧ yX6_scan.cls ≠ "java/lang/invoke/MethodHandle" ∧ yX6_scan.cls ≠ "java/lang/invoke/VarHandle" ∧ (parseMethodDescriptor yX6_scan.desc).map (fun d => d.parameters.length) = some 2 := by decide +kernel
theorem hd_X6_scanNumber : yX6_scanNumber.cls = RX6 ∧ yX6_scanNumber.cls ≠ "java/lang/invoke/MethodHandle" ∧ yX6_scanNumber.cls ≠ "java/lang/invoke/VarHandle" ∧ (parseMethodDescriptor yX6_scanNumber.desc).map (fun d => d.parameters.length) = some 2 := by decide +kernel
theorem hd_X6_scanToken : yX6_scanToken.cls = RX6 ∧ yX6_scanToken.cls ≠ "java/lang/invoke/MethodHandle" ∧ yX6_scanToken.cls ≠ "java/lang/invoke/VarHandle" ∧ (parseMethodDescriptor yX6_scanToken.desc).map (fun d => d.parameters.length) = some 2 := by decide +kernel
theorem hd_X6_scanWord : yX6_scanWord.cls = RX6 ∧ yX6_scanWord.cls ≠ "java/lang/invoke/MethodHandle" ∧ yX6_scanWord.cls ≠ "java/lang/invoke/VarHandle" ∧ (parseMethodDescriptor yX6_scanWord.desc).map (fun d => d.parameters.length) = some 2 := by decide +kernel
theorem hd_X7_begin : yX7_begin.cls = RX7 ∧ yX7_begin.cls ≠ "java/lang/invoke/MethodHandle" ∧ yX7_begin.cls ≠ "java/lang/invoke/VarHandle" ∧ (parseMethodDescriptor yX7_begin.desc).map (fun d => d.parameters.length) = some 1 := by decide +kernel

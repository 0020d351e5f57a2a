theorem zc_18 : (18 : Int32).toInt = 18 := by decide
theorem zc_64 : (64 : Int32).toInt = 64 := by decide
theorem zc_78 : (78 : Int32).toInt = 78 := by decide
theorem zc_344 : (344 : Int32).toInt = 344 := by decide
theorem zc_400 : (400 : Int32).toInt = 400 := by decide
theorem zc_1066 : (1066 : Int32).toInt = 1066 := by decide
theorem zc_20000 : (20000 : Int32).toInt = 20000 := by decide
theorem zc_20111 : (20111 : Int32).toInt = 20111 := by decide
theorem ls_0_1 (x : Int32) : x = 0 ∨ x = 1 ∨ (¬ x = 0 ∧ ¬ x = 1) := by
  by_cases h0 : x = 0
  · exact Or.inl h0
  by_cases h1 : x = 1
  · exact Or.inr (Or.inl h1)
  exact Or.inr (Or.inr (⟨h0, h1⟩))
theorem ls_37_42_43_45_47_60_61_62_109_110 (x : Int32) : x = 37 ∨ x = 42 ∨ x = 43 ∨ x = 45 ∨ x = 47 ∨ x = 60 ∨ x = 61 ∨ x = 62 ∨ x = 109 ∨ x = 110 ∨ (¬ x = 37 ∧ ¬ x = 42 ∧ ¬ x = 43 ∧ ¬ x = 45 ∧ ¬ x = 47 ∧ ¬ x = 60 ∧ ¬ x = 61 ∧ ¬ x = 62 ∧ ¬ x = 109 ∧ ¬ x = 110) := by
  by_cases h0 : x = 37
  · exact Or.inl h0
  by_cases h1 : x = 42
  · exact Or.inr (Or.inl h1)
  by_cases h2 : x = 43
  · exact Or.inr (Or.inr (Or.inl h2))
  by_cases h3 : x = 45
  · exact Or.inr (Or.inr (Or.inr (Or.inl h3)))
  by_cases h4 : x = 47
  · exact Or.inr (Or.inr (Or.inr (Or.inr (Or.inl h4))))
  by_cases h5 : x = 60
  · exact Or.inr (Or.inr (Or.inr (Or.inr (Or.inr (Or.inl h5)))))
  by_cases h6 : x = 61
  · exact Or.inr (Or.inr (Or.inr (Or.inr (Or.inr (Or.inr (Or.inl h6))))))
  by_cases h7 : x = 62
  · exact Or.inr (Or.inr (Or.inr (Or.inr (Or.inr (Or.inr (Or.inr (Or.inl h7)))))))
  by_cases h8 : x = 109
  · exact Or.inr (Or.inr (Or.inr (Or.inr (Or.inr (Or.inr (Or.inr (Or.inr (Or.inl h8))))))))
  by_cases h9 : x = 110
  · exact Or.inr (Or.inr (Or.inr (Or.inr (Or.inr (Or.inr (Or.inr (Or.inr (Or.inr (Or.inl h9)))))))))
  exact Or.inr (Or.inr (Or.inr (Or.inr (Or.inr (Or.inr (Or.inr (Or.inr (Or.inr (Or.inr (⟨h0, h1, h2, h3, h4, h5, h6, h7, h8, h9⟩))))))))))
theorem hd_J6_bitCount_0f7a4 : yJ6_bitCount_0f7a4.cls ≠ "java/lang/invoke/MethodHandle" ∧ yJ6_bitCount_0f7a4.cls ≠ "java/lang/invoke/VarHandle" ∧ (parseMethodDescriptor yJ6_bitCount_0f7a4.desc).map (fun d => d.parameters.length) = some 1 := by decide +kernel
theorem hd_X0_begin : yX0_begin.cls = RX0 ∧ yX0_begin.cls ≠ "java/lang/invoke/MethodHandle" ∧ yX0_begin.cls ≠ "java/lang/invoke/VarHandle" ∧ (parseMethodDescriptor yX0_begin.desc).map (fun d => d.parameters.length) = some 1 := by decide +kernel
theorem hd_X0_keep : yX0_keep.cls = RX0 ∧ yX0_keep.cls ≠ "java/lang/invoke/MethodHandle" ∧ yX0_keep.cls ≠ "java/lang/invoke/VarHandle" ∧ (parseMethodDescriptor yX0_keep.desc).map (fun d => d.parameters.length) = some 1 := by decide +kernel
theorem hd_X0_stepBack : yX0_stepBack.cls = RX0 ∧ yX0_stepBack.cls ≠ "java/lang/invoke/MethodHandle" ∧ yX0_stepBack.cls ≠ "java/lang/invoke/VarHandle" ∧ (parseMethodDescriptor yX0_stepBack.desc).map (fun d => d.parameters.length) = some 1 := by decide +kernel
theorem hd_X0_stepOn : yX0_stepOn.cls = RX0 ∧ yX0_stepOn.cls ≠ "java/lang/invoke/MethodHandle" ∧ yX0_stepOn.cls ≠ "java/lang/invoke/VarHandle" ∧ (parseMethodDescriptor yX0_stepOn.desc).map (fun d => d.parameters.length) = some 1 := by decide +kernel
theorem hd_X1_joined : yX1_joined.cls ≠ "java/lang/invoke/MethodHandle" ∧ yX1_joined.cls ≠ "java/lang/invoke/VarHandle" ∧ (parseMethodDescriptor yX1_joined.desc).map (fun d => d.parameters.length) = some 3 := by decide +kernel
theorem hd_X1_valueBy : yX1_valueBy.cls = RX1 ∧ yX1_valueBy.cls ≠ "java/lang/invoke/MethodHandle" ∧ yX1_valueBy.cls ≠ "java/lang/invoke/VarHandle" ∧ (parseMethodDescriptor yX1_valueBy.desc).map (fun d => d.parameters.length) = some 1 := by decide +kernel
theorem hd_X3_add : yX3_add.cls = RX3 ∧ yX3_add.cls ≠ "java/lang/invoke/MethodHandle" ∧ yX3_add.cls ≠ "java/lang/invoke/VarHandle" ∧ (parseMethodDescriptor yX3_add.desc).map (fun d => d.parameters.length) = some 4 := by decide +kernel
theorem hd_X3_commonNote : yX3_commonNote.cls = RX3 ∧ yX3_commonNote.cls ≠ "java/lang/invoke/MethodHandle" ∧ yX3_commonNote.cls ≠ "java/lang/invoke/VarHandle" ∧ (parseMethodDescriptor yX3_commonNote.desc).map (fun d => d.parameters.length) = some 1 := by decide +kernel
theorem hd_X3_countNotes : yX3_countNotes.cls = RX3 ∧ yX3_countNotes.cls ≠ "java/lang/invoke/MethodHandle" ∧ yX3_countNotes.cls ≠ "java/lang/invoke/VarHandle" ∧ (parseMethodDescriptor yX3_countNotes.desc).map (fun d => d.parameters.length) = some 2 := by decide +kernel
theorem hd_X3_countsAt : yX3_countsAt.cls = RX3 ∧ yX3_countsAt.cls ≠ "java/lang/invoke/MethodHandle" ∧ yX3_countsAt.cls ≠ "java/lang/invoke/VarHandle" ∧ (parseMethodDescriptor yX3_countsAt.desc).map (fun d => d.parameters.length) = some 2 := by decide +kernel
theorem hd_X3_drop : yX3_drop.cls = RX3 ∧ yX3_drop.cls ≠ "java/lang/invoke/MethodHandle" ∧ yX3_drop.cls ≠ "java/lang/invoke/VarHandle" ∧ (parseMethodDescriptor yX3_drop.desc).map (fun d => d.parameters.length) = some 2 := by decide +kernel
theorem hd_X3_kindOf : yX3_kindOf.cls = RX3 ∧ yX3_kindOf.cls ≠ "java/lang/invoke/MethodHandle" ∧ yX3_kindOf.cls ≠ "java/lang/invoke/VarHandle" ∧ (parseMethodDescriptor yX3_kindOf.desc).map (fun d => d.parameters.length) = some 2 := by decide +kernel
theorem hd_X3_mostAlike : yX3_mostAlike.cls = RX3 ∧ yX3_mostAlike.cls ≠ "java/lang/invoke/MethodHandle" ∧ yX3_mostAlike.cls ≠ "java/lang/invoke/VarHandle" ∧ (parseMethodDescriptor yX3_mostAlike.desc).map (fun d => d.parameters.length) = some 1 := by decide +kernel
theorem hd_X3_noteOf : yX3_noteOf.cls ≠ "java/lang/invoke/MethodHandle" ∧ yX3_noteOf.cls ≠ "java/lang/invoke/VarHandle" ∧ (parseMethodDescriptor yX3_noteOf.desc).map (fun d => d.parameters.length) = some 2 := by decide +kernel
theorem hd_X3_rowAt : yX3_rowAt.cls ≠ "java/lang/invoke/MethodHandle" ∧ yX3_rowAt.cls ≠ "java/lang/invoke/VarHandle" ∧ (parseMethodDescriptor yX3_rowAt.desc).map (fun d => d.parameters.length) = some 3 := by decide +kernel
theorem hd_X3_sameBy : yX3_sameBy.cls = RX3 ∧ yX3_sameBy.cls ≠ "java/lang/invoke/MethodHandle" ∧ yX3_sameBy.cls ≠ "java/lang/invoke/VarHandle" ∧ (parseMethodDescriptor yX3_sameBy.desc).map (fun d => d.parameters.length) = some 1 := by decide +kernel
theorem hd_X3_sift : yX3_sift.cls = RX3 ∧ yX3_sift.cls ≠ "java/lang/invoke/MethodHandle" ∧ yX3_sift.cls ≠ "java/lang/invoke/VarHandle" ∧ (parseMethodDescriptor yX3_sift.desc).map (fun d => d.parameters.length) = some 2 := by decide +kernel
theorem hd_X3_strike : yX3_strike.cls = RX3 ∧ yX3_strike.cls ≠ "java/lang/invoke/MethodHandle" ∧ yX3_strike.cls ≠ "java/lang/invoke/VarHandle" ∧ (parseMethodDescriptor yX3_strike.desc).map (fun d => d.parameters.length) = some 1 := by decide +kernel
theorem hd_X3_weigh : yX3_weigh.cls = RX3 ∧ yX3_weigh.cls ≠ "java/lang/invoke/MethodHandle" ∧ yX3_weigh.cls ≠ "java/lang/invoke/VarHandle" ∧ (parseMethodDescriptor yX3_weigh.desc).map (fun d => d.parameters.length) = some 1 := by decide +kernel
theorem hd_X3_weighTune : yX3_weighTune.cls = RX3 ∧ yX3_weighTune.cls ≠ "java/lang/invoke/MethodHandle" ∧ yX3_weighTune.cls ≠ "java/lang/invoke/VarHandle" ∧ (parseMethodDescriptor yX3_weighTune.desc).map (fun d => d.parameters.length) = some 2 := by decide +kernel
theorem hd_X4_doesLike : yX4_doesLike.cls = RX4 ∧ yX4_doesLike.cls ≠ "java/lang/invoke/MethodHandle" ∧ yX4_doesLike.cls ≠ "java/lang/invoke/VarHandle" ∧ (parseMethodDescriptor yX4_doesLike.desc).map (fun d => d.parameters.length) = some 2 := by decide +kernel
theorem hd_X4_gladness : yX4_gladness.cls = RX4 ∧ yX4_gladness.cls ≠ "java/lang/invoke/MethodHandle" ∧ yX4_gladness.cls ≠ "java/lang/invoke/VarHandle" ∧ (parseMethodDescriptor yX4_gladness.desc).map (fun d => d.parameters.length) = some 5 := by decide +kernel
theorem hd_X4_gladnessBy : yX4_gladnessBy.cls = RX4 ∧ yX4_gladnessBy.cls ≠ "java/lang/invoke/MethodHandle" ∧ yX4_gladnessBy.cls ≠ "java/lang/invoke/VarHandle" ∧ (parseMethodDescriptor yX4_gladnessBy.desc).map (fun d => d.parameters.length) = some 6 := by decide +kernel
theorem hd_X4_hasTurn : yX4_hasTurn.cls = RX4 ∧ yX4_hasTurn.cls ≠ "java/lang/invoke/MethodHandle" ∧ yX4_hasTurn.cls ≠ "java/lang/invoke/VarHandle" ∧ (parseMethodDescriptor yX4_hasTurn.desc).map (fun d => d.parameters.length) = some 6 := by decide +kernel
theorem hd_X4_left : yX4_left.cls = RX4 ∧ yX4_left.cls ≠ "java/lang/invoke/MethodHandle" ∧ yX4_left.cls ≠ "java/lang/invoke/VarHandle" ∧ (parseMethodDescriptor yX4_left.desc).map (fun d => d.parameters.length) = some 2 := by decide +kernel
theorem hd_X4_noteLeft : yX4_noteLeft.cls = RX4 ∧ yX4_noteLeft.cls ≠ "java/lang/invoke/MethodHandle" ∧ yX4_noteLeft.cls ≠ "java/lang/invoke/VarHandle" ∧ (parseMethodDescriptor yX4_noteLeft.desc).map (fun d => d.parameters.length) = some 3 := by decide +kernel
theorem hd_X7_backOnCart : yX7_backOnCart.cls = RX7 ∧ yX7_backOnCart.cls ≠ "java/lang/invoke/MethodHandle" ∧ yX7_backOnCart.cls ≠ "java/lang/invoke/VarHandle" ∧ (parseMethodDescriptor yX7_backOnCart.desc).map (fun d => d.parameters.length) = some 1 := by decide +kernel
theorem hd_X7_copyOf : yX7_copyOf.cls = RX7 ∧ yX7_copyOf.cls ≠ "java/lang/invoke/MethodHandle" ∧ yX7_copyOf.cls ≠ "java/lang/invoke/VarHandle" ∧ (parseMethodDescriptor yX7_copyOf.desc).map (fun d => d.parameters.length) = some 1 := by decide +kernel
theorem hd_X7_isOnApproval : yX7_isOnApproval.cls = RX7 ∧ yX7_isOnApproval.cls ≠ "java/lang/invoke/MethodHandle" ∧ yX7_isOnApproval.cls ≠ "java/lang/invoke/VarHandle" ∧ (parseMethodDescriptor yX7_isOnApproval.desc).map (fun d => d.parameters.length) = some 1 := by decide +kernel
theorem hd_X7_isOnCart : yX7_isOnCart.cls = RX7 ∧ yX7_isOnCart.cls ≠ "java/lang/invoke/MethodHandle" ∧ yX7_isOnCart.cls ≠ "java/lang/invoke/VarHandle" ∧ (parseMethodDescriptor yX7_isOnCart.desc).map (fun d => d.parameters.length) = some 1 := by decide +kernel
theorem hd_X7_isPaid : yX7_isPaid.cls = RX7 ∧ yX7_isPaid.cls ≠ "java/lang/invoke/MethodHandle" ∧ yX7_isPaid.cls ≠ "java/lang/invoke/VarHandle" ∧ (parseMethodDescriptor yX7_isPaid.desc).map (fun d => d.parameters.length) = some 1 := by decide +kernel
theorem hd_X7_onApprovalIn : yX7_onApprovalIn.cls = RX7 ∧ yX7_onApprovalIn.cls ≠ "java/lang/invoke/MethodHandle" ∧ yX7_onApprovalIn.cls ≠ "java/lang/invoke/VarHandle" ∧ (parseMethodDescriptor yX7_onApprovalIn.desc).map (fun d => d.parameters.length) = some 1 := by decide +kernel
theorem hd_X7_pay : yX7_pay.cls = RX7 ∧ yX7_pay.cls ≠ "java/lang/invoke/MethodHandle" ∧ yX7_pay.cls ≠ "java/lang/invoke/VarHandle" ∧ (parseMethodDescriptor yX7_pay.desc).map (fun d => d.parameters.length) = some 1 := by decide +kernel
theorem hd_X7_readFrom : yX7_readFrom.cls = RX7 ∧ yX7_readFrom.cls ≠ "java/lang/invoke/MethodHandle" ∧ yX7_readFrom.cls ≠ "java/lang/invoke/VarHandle" ∧ (parseMethodDescriptor yX7_readFrom.desc).map (fun d => d.parameters.length) = some 2 := by decide +kernel
theorem hd_X7_writeTo : yX7_writeTo.cls = RX7 ∧ yX7_writeTo.cls ≠ "java/lang/invoke/MethodHandle" ∧ yX7_writeTo.cls ≠ "java/lang/invoke/VarHandle" ∧ (parseMethodDescriptor yX7_writeTo.desc).map (fun d => d.parameters.length) = some 2 := by decide +kernel
theorem hd_X8_barterGladness : yX8_barterGladness.cls = RX8 ∧ yX8_barterGladness.cls ≠ "java/lang/invoke/MethodHandle" ∧ yX8_barterGladness.cls ≠ "java/lang/invoke/VarHandle" ∧ (parseMethodDescriptor yX8_barterGladness.desc).map (fun d => d.parameters.length) = some 0 := by decide +kernel
theorem hd_X8_bothGladder : yX8_bothGladder.cls = RX8 ∧ yX8_bothGladder.cls ≠ "java/lang/invoke/MethodHandle" ∧ yX8_bothGladder.cls ≠ "java/lang/invoke/VarHandle" ∧ (parseMethodDescriptor yX8_bothGladder.desc).map (fun d => d.parameters.length) = some 2 := by decide +kernel
theorem hd_X8_gladNow : yX8_gladNow.cls = RX8 ∧ yX8_gladNow.cls ≠ "java/lang/invoke/MethodHandle" ∧ yX8_gladNow.cls ≠ "java/lang/invoke/VarHandle" ∧ (parseMethodDescriptor yX8_gladNow.desc).map (fun d => d.parameters.length) = some 2 := by decide +kernel
theorem hd_X8_holds : yX8_holds.cls ≠ "java/lang/invoke/MethodHandle" ∧ yX8_holds.cls ≠ "java/lang/invoke/VarHandle" ∧ (parseMethodDescriptor yX8_holds.desc).map (fun d => d.parameters.length) = some 2 := by decide +kernel
theorem hd_X8_isBestAgainst : yX8_isBestAgainst.cls = RX8 ∧ yX8_isBestAgainst.cls ≠ "java/lang/invoke/MethodHandle" ∧ yX8_isBestAgainst.cls ≠ "java/lang/invoke/VarHandle" ∧ (parseMethodDescriptor yX8_isBestAgainst.desc).map (fun d => d.parameters.length) = some 4 := by decide +kernel
theorem hd_X8_isHouse : yX8_isHouse.cls = RX8 ∧ yX8_isHouse.cls ≠ "java/lang/invoke/MethodHandle" ∧ yX8_isHouse.cls ≠ "java/lang/invoke/VarHandle" ∧ (parseMethodDescriptor yX8_isHouse.desc).map (fun d => d.parameters.length) = some 1 := by decide +kernel
theorem hd_X8_isNote : yX8_isNote.cls ≠ "java/lang/invoke/MethodHandle" ∧ yX8_isNote.cls ≠ "java/lang/invoke/VarHandle" ∧ (parseMethodDescriptor yX8_isNote.desc).map (fun d => d.parameters.length) = some 1 := by decide +kernel
theorem hd_X8_isPlace : yX8_isPlace.cls ≠ "java/lang/invoke/MethodHandle" ∧ yX8_isPlace.cls ≠ "java/lang/invoke/VarHandle" ∧ (parseMethodDescriptor yX8_isPlace.desc).map (fun d => d.parameters.length) = some 1 := by decide +kernel
theorem hd_X8_isTune : yX8_isTune.cls = RX8 ∧ yX8_isTune.cls ≠ "java/lang/invoke/MethodHandle" ∧ yX8_isTune.cls ≠ "java/lang/invoke/VarHandle" ∧ (parseMethodDescriptor yX8_isTune.desc).map (fun d => d.parameters.length) = some 1 := by decide +kernel
theorem hd_X8_isWeeksAhead : yX8_isWeeksAhead.cls ≠ "java/lang/invoke/MethodHandle" ∧ yX8_isWeeksAhead.cls ≠ "java/lang/invoke/VarHandle" ∧ (parseMethodDescriptor yX8_isWeeksAhead.desc).map (fun d => d.parameters.length) = some 1 := by decide +kernel
theorem hd_X8_layTrial : yX8_layTrial.cls = RX8 ∧ yX8_layTrial.cls ≠ "java/lang/invoke/MethodHandle" ∧ yX8_layTrial.cls ≠ "java/lang/invoke/VarHandle" ∧ (parseMethodDescriptor yX8_layTrial.desc).map (fun d => d.parameters.length) = some 0 := by decide +kernel
theorem hd_X8_layTwo : yX8_layTwo.cls = RX8 ∧ yX8_layTwo.cls ≠ "java/lang/invoke/MethodHandle" ∧ yX8_layTwo.cls ≠ "java/lang/invoke/VarHandle" ∧ (parseMethodDescriptor yX8_layTwo.desc).map (fun d => d.parameters.length) = some 2 := by decide +kernel
theorem hd_X8_lookAhead : yX8_lookAhead.cls = RX8 ∧ yX8_lookAhead.cls ≠ "java/lang/invoke/MethodHandle" ∧ yX8_lookAhead.cls ≠ "java/lang/invoke/VarHandle" ∧ (parseMethodDescriptor yX8_lookAhead.desc).map (fun d => d.parameters.length) = some 2 := by decide +kernel
theorem hd_X8_onCart : yX8_onCart.cls = RX8 ∧ yX8_onCart.cls ≠ "java/lang/invoke/MethodHandle" ∧ yX8_onCart.cls ≠ "java/lang/invoke/VarHandle" ∧ (parseMethodDescriptor yX8_onCart.desc).map (fun d => d.parameters.length) = some 0 := by decide +kernel
theorem hd_X8_paidBy : yX8_paidBy.cls = RX8 ∧ yX8_paidBy.cls ≠ "java/lang/invoke/MethodHandle" ∧ yX8_paidBy.cls ≠ "java/lang/invoke/VarHandle" ∧ (parseMethodDescriptor yX8_paidBy.desc).map (fun d => d.parameters.length) = some 1 := by decide +kernel
theorem hd_X8_paidFor : yX8_paidFor.cls = RX8 ∧ yX8_paidFor.cls ≠ "java/lang/invoke/MethodHandle" ∧ yX8_paidFor.cls ≠ "java/lang/invoke/VarHandle" ∧ (parseMethodDescriptor yX8_paidFor.desc).map (fun d => d.parameters.length) = some 0 := by decide +kernel
theorem hd_X8_passWeek : yX8_passWeek.cls = RX8 ∧ yX8_passWeek.cls ≠ "java/lang/invoke/MethodHandle" ∧ yX8_passWeek.cls ≠ "java/lang/invoke/VarHandle" ∧ (parseMethodDescriptor yX8_passWeek.desc).map (fun d => d.parameters.length) = some 2 := by decide +kernel
theorem hd_X8_passWeekIn : yX8_passWeekIn.cls = RX8 ∧ yX8_passWeekIn.cls ≠ "java/lang/invoke/MethodHandle" ∧ yX8_passWeekIn.cls ≠ "java/lang/invoke/VarHandle" ∧ (parseMethodDescriptor yX8_passWeekIn.desc).map (fun d => d.parameters.length) = some 4 := by decide +kernel
theorem hd_X8_priceOf : yX8_priceOf.cls = RX8 ∧ yX8_priceOf.cls ≠ "java/lang/invoke/MethodHandle" ∧ yX8_priceOf.cls ≠ "java/lang/invoke/VarHandle" ∧ (parseMethodDescriptor yX8_priceOf.desc).map (fun d => d.parameters.length) = some 1 := by decide +kernel
theorem hd_X8_putBytes : yX8_putBytes.cls = RX8 ∧ yX8_putBytes.cls ≠ "java/lang/invoke/MethodHandle" ∧ yX8_putBytes.cls ≠ "java/lang/invoke/VarHandle" ∧ (parseMethodDescriptor yX8_putBytes.desc).map (fun d => d.parameters.length) = some 1 := by decide +kernel
theorem hd_X8_rate : yX8_rate.cls = RX8 ∧ yX8_rate.cls ≠ "java/lang/invoke/MethodHandle" ∧ yX8_rate.cls ≠ "java/lang/invoke/VarHandle" ∧ (parseMethodDescriptor yX8_rate.desc).map (fun d => d.parameters.length) = some 2 := by decide +kernel
theorem hd_X8_rateAll : yX8_rateAll.cls = RX8 ∧ yX8_rateAll.cls ≠ "java/lang/invoke/MethodHandle" ∧ yX8_rateAll.cls ≠ "java/lang/invoke/VarHandle" ∧ (parseMethodDescriptor yX8_rateAll.desc).map (fun d => d.parameters.length) = some 0 := by decide +kernel
theorem hd_X8_roundCount : yX8_roundCount.cls = RX8 ∧ yX8_roundCount.cls ≠ "java/lang/invoke/MethodHandle" ∧ yX8_roundCount.cls ≠ "java/lang/invoke/VarHandle" ∧ (parseMethodDescriptor yX8_roundCount.desc).map (fun d => d.parameters.length) = some 0 := by decide +kernel
theorem hd_X8_roundPrice : yX8_roundPrice.cls = RX8 ∧ yX8_roundPrice.cls ≠ "java/lang/invoke/MethodHandle" ∧ yX8_roundPrice.cls ≠ "java/lang/invoke/VarHandle" ∧ (parseMethodDescriptor yX8_roundPrice.desc).map (fun d => d.parameters.length) = some 0 := by decide +kernel
theorem hd_X8_rowsOf : yX8_rowsOf.cls = RX8 ∧ yX8_rowsOf.cls ≠ "java/lang/invoke/MethodHandle" ∧ yX8_rowsOf.cls ≠ "java/lang/invoke/VarHandle" ∧ (parseMethodDescriptor yX8_rowsOf.desc).map (fun d => d.parameters.length) = some 1 := by decide +kernel
theorem hd_X8_sharedDivisor : yX8_sharedDivisor.cls ≠ "java/lang/invoke/MethodHandle" ∧ yX8_sharedDivisor.cls ≠ "java/lang/invoke/VarHandle" ∧ (parseMethodDescriptor yX8_sharedDivisor.desc).map (fun d => d.parameters.length) = some 2 := by decide +kernel
theorem hd_X8_spread : yX8_spread.cls = RX8 ∧ yX8_spread.cls ≠ "java/lang/invoke/MethodHandle" ∧ yX8_spread.cls ≠ "java/lang/invoke/VarHandle" ∧ (parseMethodDescriptor yX8_spread.desc).map (fun d => d.parameters.length) = some 2 := by decide +kernel
theorem hd_X8_takenNow : yX8_takenNow.cls = RX8 ∧ yX8_takenNow.cls ≠ "java/lang/invoke/MethodHandle" ∧ yX8_takenNow.cls ≠ "java/lang/invoke/VarHandle" ∧ (parseMethodDescriptor yX8_takenNow.desc).map (fun d => d.parameters.length) = some 1 := by decide +kernel
theorem hd_X8_takenWith : yX8_takenWith.cls = RX8 ∧ yX8_takenWith.cls ≠ "java/lang/invoke/MethodHandle" ∧ yX8_takenWith.cls ≠ "java/lang/invoke/VarHandle" ∧ (parseMethodDescriptor yX8_takenWith.desc).map (fun d => d.parameters.length) = some 2 := by decide +kernel
theorem hd_X8_trialIsBarter : yX8_trialIsBarter.cls = RX8 ∧ yX8_trialIsBarter.cls ≠ "java/lang/invoke/MethodHandle" ∧ yX8_trialIsBarter.cls ≠ "java/lang/invoke/VarHandle" ∧ (parseMethodDescriptor yX8_trialIsBarter.desc).map (fun d => d.parameters.length) = some 0 := by decide +kernel
theorem hd_X8_trialIsOrder : yX8_trialIsOrder.cls = RX8 ∧ yX8_trialIsOrder.cls ≠ "java/lang/invoke/MethodHandle" ∧ yX8_trialIsOrder.cls ≠ "java/lang/invoke/VarHandle" ∧ (parseMethodDescriptor yX8_trialIsOrder.desc).map (fun d => d.parameters.length) = some 0 := by decide +kernel
theorem hd_X8_tunesWith : yX8_tunesWith.cls = RX8 ∧ yX8_tunesWith.cls ≠ "java/lang/invoke/MethodHandle" ∧ yX8_tunesWith.cls ≠ "java/lang/invoke/VarHandle" ∧ (parseMethodDescriptor yX8_tunesWith.desc).map (fun d => d.parameters.length) = some 4 := by decide +kernel
theorem hd_X8_wayFrom : yX8_wayFrom.cls = RX8 ∧ yX8_wayFrom.cls ≠ "java/lang/invoke/MethodHandle" ∧ yX8_wayFrom.cls ≠ "java/lang/invoke/VarHandle" ∧ (parseMethodDescriptor yX8_wayFrom.desc).map (fun d => d.parameters.length) = some 1 := by decide +kernel
theorem hd_X8_wouldPay : yX8_wouldPay.cls = RX8 ∧ yX8_wouldPay.cls ≠ "java/lang/invoke/MethodHandle" ∧ yX8_wouldPay.cls ≠ "java/lang/invoke/VarHandle" ∧ (parseMethodDescriptor yX8_wouldPay.desc).map (fun d => d.parameters.length) = some 3 := by decide +kernel

/-! ===== the cells one by one ===== -/
theorem s_0 : shL[0]? = some (shO 4 [some 1, some 5, some 21, some 29, some 3, some 4, some 53]) := rfl
theorem s_1 : shL[1]? = some (shO 2 [some 2, none, some 13, none, none, none, none, none]) := rfl
theorem s_2 : shL[2]? = some (shA 0 200) := rfl
theorem s_3 : shL[3]? = some (shR 2 [37, 45]) := rfl
theorem s_4 : shL[4]? = some (shA 1 2) := rfl
theorem s_5 : shL[5]? = some (shO 3 [none, some 6, some 7, some 8, some 9, some 10, none, some 11, some 12, none]) := rfl
theorem s_6 : shL[6]? = some (shA 0 6) := rfl
theorem s_7 : shL[7]? = some (shA 0 6) := rfl
theorem s_8 : shL[8]? = some (shA 0 6) := rfl
theorem s_9 : shL[9]? = some (shA 0 6) := rfl
theorem s_10 : shL[10]? = some (shA 0 6) := rfl
theorem s_11 : shL[11]? = some (shA 0 6) := rfl
theorem s_12 : shL[12]? = some (shA 0 6) := rfl
theorem s_13 : shL[13]? = some (shO 3 [none, some 14, some 15, some 16, some 17, some 18, none, some 19, some 20, none]) := rfl
theorem s_14 : shL[14]? = some (shA 0 6) := rfl
theorem s_15 : shL[15]? = some (shA 0 6) := rfl
theorem s_16 : shL[16]? = some (shA 0 6) := rfl
theorem s_17 : shL[17]? = some (shA 0 6) := rfl
theorem s_18 : shL[18]? = some (shA 0 6) := rfl
theorem s_19 : shL[19]? = some (shA 0 6) := rfl
theorem s_20 : shL[20]? = some (shA 0 6) := rfl
theorem s_21 : shL[21]? = some (shO 1 [none, some 22, some 23, none, some 24, some 25, some 26, some 27, some 28, none]) := rfl
theorem s_22 : shL[22]? = some (shA 0 6) := rfl
theorem s_23 : shL[23]? = some (shA 0 6) := rfl
theorem s_24 : shL[24]? = some (shA 0 12) := rfl
theorem s_25 : shL[25]? = some (shA 0 12) := rfl
theorem s_26 : shL[26]? = some (shA 0 12) := rfl
theorem s_27 : shL[27]? = some (shA 0 12) := rfl
theorem s_28 : shL[28]? = some (shA 0 12) := rfl
theorem s_29 : shL[29]? = some (shO 1 [none, some 30, some 31, none, some 32, some 33, some 34, some 35, some 36, none]) := rfl
theorem s_30 : shL[30]? = some (shA 0 6) := rfl
theorem s_31 : shL[31]? = some (shA 0 6) := rfl
theorem s_32 : shL[32]? = some (shA 0 12) := rfl
theorem s_33 : shL[33]? = some (shA 0 12) := rfl
theorem s_34 : shL[34]? = some (shA 0 12) := rfl
theorem s_35 : shL[35]? = some (shA 0 12) := rfl
theorem s_36 : shL[36]? = some (shA 0 12) := rfl
theorem s_37 : shL[37]? = some (shO 1 [none, some 38, some 39, none, some 40, some 41, some 42, some 43, some 44, none]) := rfl
theorem s_38 : shL[38]? = some (shA 0 6) := rfl
theorem s_39 : shL[39]? = some (shA 0 6) := rfl
theorem s_40 : shL[40]? = some (shA 0 12) := rfl
theorem s_41 : shL[41]? = some (shA 0 12) := rfl
theorem s_42 : shL[42]? = some (shA 0 12) := rfl
theorem s_43 : shL[43]? = some (shA 0 12) := rfl
theorem s_44 : shL[44]? = some (shA 0 12) := rfl
theorem s_45 : shL[45]? = some (shO 1 [none, some 46, some 47, none, some 48, some 49, some 50, some 51, some 52, none]) := rfl
theorem s_46 : shL[46]? = some (shA 0 6) := rfl
theorem s_47 : shL[47]? = some (shA 0 6) := rfl
theorem s_48 : shL[48]? = some (shA 0 12) := rfl
theorem s_49 : shL[49]? = some (shA 0 12) := rfl
theorem s_50 : shL[50]? = some (shA 0 12) := rfl
theorem s_51 : shL[51]? = some (shA 0 12) := rfl
theorem s_52 : shL[52]? = some (shA 0 12) := rfl
theorem s_53 : shL[53]? = some (shO 0 [some 54, some 55, some 56, some 57, none]) := rfl
theorem s_54 : shL[54]? = some (shR 3 [58, 59, 60, 61, 62, 63, 64]) := rfl
theorem s_55 : shL[55]? = some (shR 3 [65, 66, 67, 68, 69, 70]) := rfl
theorem s_56 : shL[56]? = some (shA 0 100) := rfl
theorem s_57 : shL[57]? = some (shA 0 6) := rfl
theorem s_58 : shL[58]? = some (shA 0 100) := rfl
theorem s_59 : shL[59]? = some (shA 0 100) := rfl
theorem s_60 : shL[60]? = some (shA 0 100) := rfl
theorem s_61 : shL[61]? = some (shA 0 100) := rfl
theorem s_62 : shL[62]? = some (shA 0 100) := rfl
theorem s_63 : shL[63]? = some (shA 0 100) := rfl
theorem s_64 : shL[64]? = some (shA 0 100) := rfl
theorem s_65 : shL[65]? = some (shA 0 100) := rfl
theorem s_66 : shL[66]? = some (shA 0 100) := rfl
theorem s_67 : shL[67]? = some (shA 0 100) := rfl
theorem s_68 : shL[68]? = some (shA 0 100) := rfl
theorem s_69 : shL[69]? = some (shA 0 100) := rfl
theorem s_70 : shL[70]? = some (shA 0 100) := rfl
theorem s_71 : shL[71]? = some (shO 5 [some 72, some 73, some 74, none, some 75, none, some 76, some 77, some 78, some 79, none, some 80, none, none, none, none, none, none, none, some 81, some 82]) := rfl
theorem s_72 : shL[72]? = some (shA 0 375) := rfl
theorem s_73 : shL[73]? = some (shA 1 2) := rfl
theorem s_74 : shL[74]? = some (shA 0 200) := rfl
theorem s_75 : shL[75]? = some (shA 0 48) := rfl
theorem s_76 : shL[76]? = some (shA 0 6) := rfl
theorem s_77 : shL[77]? = some (shA 0 6) := rfl
theorem s_78 : shL[78]? = some (shA 0 6) := rfl
theorem s_79 : shL[79]? = some (shA 0 6) := rfl
theorem s_80 : shL[80]? = some (shA 0 12) := rfl
theorem s_81 : shL[81]? = some (shA 0 600) := rfl
theorem s_82 : shL[82]? = some (shA 0 700) := rfl
abbrev IsSt (b : Nat) : Prop := b = 21 ∨ b = 29 ∨ b = 37 ∨ b = 45
abbrev IsTd (b : Nat) : Prop := b = 5 ∨ b = 13
theorem sSt_0 {b : Nat} (h : IsSt b) : shL[b]? = some (shSt b) := by rcases h with rfl | rfl | rfl | rfl <;> rfl
theorem sSt_1 {b : Nat} (h : IsSt b) : shL[b + 1]? = some (shA 0 6) := by rcases h with rfl | rfl | rfl | rfl <;> rfl
theorem sSt_2 {b : Nat} (h : IsSt b) : shL[b + 2]? = some (shA 0 6) := by rcases h with rfl | rfl | rfl | rfl <;> rfl
theorem sSt_3 {b : Nat} (h : IsSt b) : shL[b + 3]? = some (shA 0 12) := by rcases h with rfl | rfl | rfl | rfl <;> rfl
theorem sSt_4 {b : Nat} (h : IsSt b) : shL[b + 4]? = some (shA 0 12) := by rcases h with rfl | rfl | rfl | rfl <;> rfl
theorem sSt_5 {b : Nat} (h : IsSt b) : shL[b + 5]? = some (shA 0 12) := by rcases h with rfl | rfl | rfl | rfl <;> rfl
theorem sSt_6 {b : Nat} (h : IsSt b) : shL[b + 6]? = some (shA 0 12) := by rcases h with rfl | rfl | rfl | rfl <;> rfl
theorem sSt_7 {b : Nat} (h : IsSt b) : shL[b + 7]? = some (shA 0 12) := by rcases h with rfl | rfl | rfl | rfl <;> rfl
theorem sTd_0 {b : Nat} (h : IsTd b) : shL[b]? = some (shTd b) := by rcases h with rfl | rfl <;> rfl
theorem sTd_1 {b : Nat} (h : IsTd b) : shL[b + 1]? = some (shA 0 6) := by rcases h with rfl | rfl <;> rfl
theorem sTd_2 {b : Nat} (h : IsTd b) : shL[b + 2]? = some (shA 0 6) := by rcases h with rfl | rfl <;> rfl
theorem sTd_3 {b : Nat} (h : IsTd b) : shL[b + 3]? = some (shA 0 6) := by rcases h with rfl | rfl <;> rfl
theorem sTd_4 {b : Nat} (h : IsTd b) : shL[b + 4]? = some (shA 0 6) := by rcases h with rfl | rfl <;> rfl
theorem sTd_5 {b : Nat} (h : IsTd b) : shL[b + 5]? = some (shA 0 6) := by rcases h with rfl | rfl <;> rfl
theorem sTd_6 {b : Nat} (h : IsTd b) : shL[b + 6]? = some (shA 0 6) := by rcases h with rfl | rfl <;> rfl
theorem sTd_7 {b : Nat} (h : IsTd b) : shL[b + 7]? = some (shA 0 6) := by rcases h with rfl | rfl <;> rfl
theorem dd_X0_find : yX0_find.cls = RX0 ∧ yX0_find.cls ≠ "java/lang/invoke/MethodHandle" ∧ yX0_find.cls ≠ "java/lang/invoke/VarHandle" ∧ (parseMethodDescriptor yX0_find.desc).map (fun d => d.parameters.length) = some 4 := by decide +kernel
theorem dd_X0_owedTogether : yX0_owedTogether.cls = RX0 ∧ yX0_owedTogether.cls ≠ "java/lang/invoke/MethodHandle" ∧ yX0_owedTogether.cls ≠ "java/lang/invoke/VarHandle" ∧ (parseMethodDescriptor yX0_owedTogether.desc).map (fun d => d.parameters.length) = some 0 := by decide +kernel
theorem dd_X0_chooseFrom : yX0_chooseFrom.cls = RX0 ∧ yX0_chooseFrom.cls ≠ "java/lang/invoke/MethodHandle" ∧ yX0_chooseFrom.cls ≠ "java/lang/invoke/VarHandle" ∧ (parseMethodDescriptor yX0_chooseFrom.desc).map (fun d => d.parameters.length) = some 3 := by decide +kernel
theorem dd_X0_followChoices : yX0_followChoices.cls = RX0 ∧ yX0_followChoices.cls ≠ "java/lang/invoke/MethodHandle" ∧ yX0_followChoices.cls ≠ "java/lang/invoke/VarHandle" ∧ (parseMethodDescriptor yX0_followChoices.desc).map (fun d => d.parameters.length) = some 1 := by decide +kernel
theorem dd_X1_begin : yX1_begin.cls = RX1 ∧ yX1_begin.cls ≠ "java/lang/invoke/MethodHandle" ∧ yX1_begin.cls ≠ "java/lang/invoke/VarHandle" ∧ (parseMethodDescriptor yX1_begin.desc).map (fun d => d.parameters.length) = some 1 := by decide +kernel
theorem dd_X1_copyFrom : yX1_copyFrom.cls = RX1 ∧ yX1_copyFrom.cls ≠ "java/lang/invoke/MethodHandle" ∧ yX1_copyFrom.cls ≠ "java/lang/invoke/VarHandle" ∧ (parseMethodDescriptor yX1_copyFrom.desc).map (fun d => d.parameters.length) = some 1 := by decide +kernel
theorem dd_X1_owedTo : yX1_owedTo.cls = RX1 ∧ yX1_owedTo.cls ≠ "java/lang/invoke/MethodHandle" ∧ yX1_owedTo.cls ≠ "java/lang/invoke/VarHandle" ∧ (parseMethodDescriptor yX1_owedTo.desc).map (fun d => d.parameters.length) = some 1 := by decide +kernel
theorem dd_X1_owedInAll : yX1_owedInAll.cls = RX1 ∧ yX1_owedInAll.cls ≠ "java/lang/invoke/MethodHandle" ∧ yX1_owedInAll.cls ≠ "java/lang/invoke/VarHandle" ∧ (parseMethodDescriptor yX1_owedInAll.desc).map (fun d => d.parameters.length) = some 0 := by decide +kernel
theorem dd_X1_isCross : yX1_isCross.cls = RX1 ∧ yX1_isCross.cls ≠ "java/lang/invoke/MethodHandle" ∧ yX1_isCross.cls ≠ "java/lang/invoke/VarHandle" ∧ (parseMethodDescriptor yX1_isCross.desc).map (fun d => d.parameters.length) = some 2 := by decide +kernel
theorem dd_X1_lends : yX1_lends.cls = RX1 ∧ yX1_lends.cls ≠ "java/lang/invoke/MethodHandle" ∧ yX1_lends.cls ≠ "java/lang/invoke/VarHandle" ∧ (parseMethodDescriptor yX1_lends.desc).map (fun d => d.parameters.length) = some 2 := by decide +kernel
theorem dd_X1_lend : yX1_lend.cls = RX1 ∧ yX1_lend.cls ≠ "java/lang/invoke/MethodHandle" ∧ yX1_lend.cls ≠ "java/lang/invoke/VarHandle" ∧ (parseMethodDescriptor yX1_lend.desc).map (fun d => d.parameters.length) = some 3 := by decide +kernel
theorem dd_X1_addBranches : yX1_addBranches.cls = RX1 ∧ yX1_addBranches.cls ≠ "java/lang/invoke/MethodHandle" ∧ yX1_addBranches.cls ≠ "java/lang/invoke/VarHandle" ∧ (parseMethodDescriptor yX1_addBranches.desc).map (fun d => d.parameters.length) = some 2 := by decide +kernel
theorem dd_X1_passDays : yX1_passDays.cls = RX1 ∧ yX1_passDays.cls ≠ "java/lang/invoke/MethodHandle" ∧ yX1_passDays.cls ≠ "java/lang/invoke/VarHandle" ∧ (parseMethodDescriptor yX1_passDays.desc).map (fun d => d.parameters.length) = some 3 := by decide +kernel
theorem dd_X1_growLoans : yX1_growLoans.cls = RX1 ∧ yX1_growLoans.cls ≠ "java/lang/invoke/MethodHandle" ∧ yX1_growLoans.cls ≠ "java/lang/invoke/VarHandle" ∧ (parseMethodDescriptor yX1_growLoans.desc).map (fun d => d.parameters.length) = some 1 := by decide +kernel
theorem dd_X1_workOff : yX1_workOff.cls = RX1 ∧ yX1_workOff.cls ≠ "java/lang/invoke/MethodHandle" ∧ yX1_workOff.cls ≠ "java/lang/invoke/VarHandle" ∧ (parseMethodDescriptor yX1_workOff.desc).map (fun d => d.parameters.length) = some 1 := by decide +kernel
theorem dd_X1_firstDue : yX1_firstDue.cls = RX1 ∧ yX1_firstDue.cls ≠ "java/lang/invoke/MethodHandle" ∧ yX1_firstDue.cls ≠ "java/lang/invoke/VarHandle" ∧ (parseMethodDescriptor yX1_firstDue.desc).map (fun d => d.parameters.length) = some 0 := by decide +kernel
theorem dd_X1_failDueLoans : yX1_failDueLoans.cls = RX1 ∧ yX1_failDueLoans.cls ≠ "java/lang/invoke/MethodHandle" ∧ yX1_failDueLoans.cls ≠ "java/lang/invoke/VarHandle" ∧ (parseMethodDescriptor yX1_failDueLoans.desc).map (fun d => d.parameters.length) = some 0 := by decide +kernel
theorem dd_X1_removeLoan : yX1_removeLoan.cls = RX1 ∧ yX1_removeLoan.cls ≠ "java/lang/invoke/MethodHandle" ∧ yX1_removeLoan.cls ≠ "java/lang/invoke/VarHandle" ∧ (parseMethodDescriptor yX1_removeLoan.desc).map (fun d => d.parameters.length) = some 1 := by decide +kernel
theorem dd_X1_burn : yX1_burn.cls = RX1 ∧ yX1_burn.cls ≠ "java/lang/invoke/MethodHandle" ∧ yX1_burn.cls ≠ "java/lang/invoke/VarHandle" ∧ (parseMethodDescriptor yX1_burn.desc).map (fun d => d.parameters.length) = some 2 := by decide +kernel
theorem dd_X1_removeLoansOf : yX1_removeLoansOf.cls = RX1 ∧ yX1_removeLoansOf.cls ≠ "java/lang/invoke/MethodHandle" ∧ yX1_removeLoansOf.cls ≠ "java/lang/invoke/VarHandle" ∧ (parseMethodDescriptor yX1_removeLoansOf.desc).map (fun d => d.parameters.length) = some 1 := by decide +kernel
theorem dd_X1_handOver : yX1_handOver.cls = RX1 ∧ yX1_handOver.cls ≠ "java/lang/invoke/MethodHandle" ∧ yX1_handOver.cls ≠ "java/lang/invoke/VarHandle" ∧ (parseMethodDescriptor yX1_handOver.desc).map (fun d => d.parameters.length) = some 2 := by decide +kernel
theorem dd_X1_partsWithLoans : yX1_partsWithLoans.cls = RX1 ∧ yX1_partsWithLoans.cls ≠ "java/lang/invoke/MethodHandle" ∧ yX1_partsWithLoans.cls ≠ "java/lang/invoke/VarHandle" ∧ (parseMethodDescriptor yX1_partsWithLoans.desc).map (fun d => d.parameters.length) = some 1 := by decide +kernel
theorem dd_X2_add : yX2_add.cls = RX2 ∧ yX2_add.cls ≠ "java/lang/invoke/MethodHandle" ∧ yX2_add.cls ≠ "java/lang/invoke/VarHandle" ∧ (parseMethodDescriptor yX2_add.desc).map (fun d => d.parameters.length) = some 1 := by decide +kernel
theorem dd_X2_read : yX2_read.cls = RX2 ∧ yX2_read.cls ≠ "java/lang/invoke/MethodHandle" ∧ yX2_read.cls ≠ "java/lang/invoke/VarHandle" ∧ (parseMethodDescriptor yX2_read.desc).map (fun d => d.parameters.length) = some 1 := by decide +kernel
theorem dd_X2_isAtSemicolon : yX2_isAtSemicolon.cls = RX2 ∧ yX2_isAtSemicolon.cls ≠ "java/lang/invoke/MethodHandle" ∧ yX2_isAtSemicolon.cls ≠ "java/lang/invoke/VarHandle" ∧ (parseMethodDescriptor yX2_isAtSemicolon.desc).map (fun d => d.parameters.length) = some 0 := by decide +kernel
theorem dd_X2_readLine : yX2_readLine.cls = RX2 ∧ yX2_readLine.cls ≠ "java/lang/invoke/MethodHandle" ∧ yX2_readLine.cls ≠ "java/lang/invoke/VarHandle" ∧ (parseMethodDescriptor yX2_readLine.desc).map (fun d => d.parameters.length) = some 0 := by decide +kernel
theorem dd_X2_readWood : yX2_readWood.cls = RX2 ∧ yX2_readWood.cls ≠ "java/lang/invoke/MethodHandle" ∧ yX2_readWood.cls ≠ "java/lang/invoke/VarHandle" ∧ (parseMethodDescriptor yX2_readWood.desc).map (fun d => d.parameters.length) = some 0 := by decide +kernel
theorem dd_X2_readTree : yX2_readTree.cls = RX2 ∧ yX2_readTree.cls ≠ "java/lang/invoke/MethodHandle" ∧ yX2_readTree.cls ≠ "java/lang/invoke/VarHandle" ∧ (parseMethodDescriptor yX2_readTree.desc).map (fun d => d.parameters.length) = some 1 := by decide +kernel
theorem dd_X2_readPart : yX2_readPart.cls = RX2 ∧ yX2_readPart.cls ≠ "java/lang/invoke/MethodHandle" ∧ yX2_readPart.cls ≠ "java/lang/invoke/VarHandle" ∧ (parseMethodDescriptor yX2_readPart.desc).map (fun d => d.parameters.length) = some 0 := by decide +kernel
theorem dd_X2_readQuarrel : yX2_readQuarrel.cls = RX2 ∧ yX2_readQuarrel.cls ≠ "java/lang/invoke/MethodHandle" ∧ yX2_readQuarrel.cls ≠ "java/lang/invoke/VarHandle" ∧ (parseMethodDescriptor yX2_readQuarrel.desc).map (fun d => d.parameters.length) = some 0 := by decide +kernel
theorem dd_X2_readHands : yX2_readHands.cls = RX2 ∧ yX2_readHands.cls ≠ "java/lang/invoke/MethodHandle" ∧ yX2_readHands.cls ≠ "java/lang/invoke/VarHandle" ∧ (parseMethodDescriptor yX2_readHands.desc).map (fun d => d.parameters.length) = some 0 := by decide +kernel
theorem dd_X2_readNumber : yX2_readNumber.cls = RX2 ∧ yX2_readNumber.cls ≠ "java/lang/invoke/MethodHandle" ∧ yX2_readNumber.cls ≠ "java/lang/invoke/VarHandle" ∧ (parseMethodDescriptor yX2_readNumber.desc).map (fun d => d.parameters.length) = some 2 := by decide +kernel
theorem dd_X2_nextToken : yX2_nextToken.cls = RX2 ∧ yX2_nextToken.cls ≠ "java/lang/invoke/MethodHandle" ∧ yX2_nextToken.cls ≠ "java/lang/invoke/VarHandle" ∧ (parseMethodDescriptor yX2_nextToken.desc).map (fun d => d.parameters.length) = some 0 := by decide +kernel
theorem dd_X2_readDigits : yX2_readDigits.cls = RX2 ∧ yX2_readDigits.cls ≠ "java/lang/invoke/MethodHandle" ∧ yX2_readDigits.cls ≠ "java/lang/invoke/VarHandle" ∧ (parseMethodDescriptor yX2_readDigits.desc).map (fun d => d.parameters.length) = some 0 := by decide +kernel
theorem dd_X2_isWord : yX2_isWord.cls = RX2 ∧ yX2_isWord.cls ≠ "java/lang/invoke/MethodHandle" ∧ yX2_isWord.cls ≠ "java/lang/invoke/VarHandle" ∧ (parseMethodDescriptor yX2_isWord.desc).map (fun d => d.parameters.length) = some 1 := by decide +kernel
theorem dd_X2_isLetter : yX2_isLetter.cls = RX2 ∧ yX2_isLetter.cls ≠ "java/lang/invoke/MethodHandle" ∧ yX2_isLetter.cls ≠ "java/lang/invoke/VarHandle" ∧ (parseMethodDescriptor yX2_isLetter.desc).map (fun d => d.parameters.length) = some 1 := by decide +kernel
theorem dd_X2_isDigit : yX2_isDigit.cls = RX2 ∧ yX2_isDigit.cls ≠ "java/lang/invoke/MethodHandle" ∧ yX2_isDigit.cls ≠ "java/lang/invoke/VarHandle" ∧ (parseMethodDescriptor yX2_isDigit.desc).map (fun d => d.parameters.length) = some 1 := by decide +kernel
theorem dd_X3_has : yX3_has.cls = RX3 ∧ yX3_has.cls ≠ "java/lang/invoke/MethodHandle" ∧ yX3_has.cls ≠ "java/lang/invoke/VarHandle" ∧ (parseMethodDescriptor yX3_has.desc).map (fun d => d.parameters.length) = some 1 := by decide +kernel
theorem dd_X3_forget : yX3_forget.cls = RX3 ∧ yX3_forget.cls ≠ "java/lang/invoke/MethodHandle" ∧ yX3_forget.cls ≠ "java/lang/invoke/VarHandle" ∧ (parseMethodDescriptor yX3_forget.desc).map (fun d => d.parameters.length) = some 0 := by decide +kernel
theorem dd_X3_copyFrom : yX3_copyFrom.cls = RX3 ∧ yX3_copyFrom.cls ≠ "java/lang/invoke/MethodHandle" ∧ yX3_copyFrom.cls ≠ "java/lang/invoke/VarHandle" ∧ (parseMethodDescriptor yX3_copyFrom.desc).map (fun d => d.parameters.length) = some 1 := by decide +kernel
theorem dd_X3_addTree : yX3_addTree.cls = RX3 ∧ yX3_addTree.cls ≠ "java/lang/invoke/MethodHandle" ∧ yX3_addTree.cls ≠ "java/lang/invoke/VarHandle" ∧ (parseMethodDescriptor yX3_addTree.desc).map (fun d => d.parameters.length) = some 4 := by decide +kernel
theorem dd_X3_addQuarrel : yX3_addQuarrel.cls = RX3 ∧ yX3_addQuarrel.cls ≠ "java/lang/invoke/MethodHandle" ∧ yX3_addQuarrel.cls ≠ "java/lang/invoke/VarHandle" ∧ (parseMethodDescriptor yX3_addQuarrel.desc).map (fun d => d.parameters.length) = some 2 := by decide +kernel
theorem dd_X3_isOfKind : yX3_isOfKind.cls = RX3 ∧ yX3_isOfKind.cls ≠ "java/lang/invoke/MethodHandle" ∧ yX3_isOfKind.cls ≠ "java/lang/invoke/VarHandle" ∧ (parseMethodDescriptor yX3_isOfKind.desc).map (fun d => d.parameters.length) = some 2 := by decide +kernel
theorem dd_X3_dueOf : yX3_dueOf.cls = RX3 ∧ yX3_dueOf.cls ≠ "java/lang/invoke/MethodHandle" ∧ yX3_dueOf.cls ≠ "java/lang/invoke/VarHandle" ∧ (parseMethodDescriptor yX3_dueOf.desc).map (fun d => d.parameters.length) = some 2 := by decide +kernel
theorem dd_X3_grownOnce : yX3_grownOnce.cls = RX3 ∧ yX3_grownOnce.cls ≠ "java/lang/invoke/MethodHandle" ∧ yX3_grownOnce.cls ≠ "java/lang/invoke/VarHandle" ∧ (parseMethodDescriptor yX3_grownOnce.desc).map (fun d => d.parameters.length) = some 3 := by decide +kernel
theorem dd_X3_grownIn : yX3_grownIn.cls = RX3 ∧ yX3_grownIn.cls ≠ "java/lang/invoke/MethodHandle" ∧ yX3_grownIn.cls ≠ "java/lang/invoke/VarHandle" ∧ (parseMethodDescriptor yX3_grownIn.desc).map (fun d => d.parameters.length) = some 3 := by decide +kernel
theorem dd_X4_write : yX4_write.cls = RX4 ∧ yX4_write.cls ≠ "java/lang/invoke/MethodHandle" ∧ yX4_write.cls ≠ "java/lang/invoke/VarHandle" ∧ (parseMethodDescriptor yX4_write.desc).map (fun d => d.parameters.length) = some 2 := by decide +kernel
theorem dd_X4_erase : yX4_erase.cls = RX4 ∧ yX4_erase.cls ≠ "java/lang/invoke/MethodHandle" ∧ yX4_erase.cls ≠ "java/lang/invoke/VarHandle" ∧ (parseMethodDescriptor yX4_erase.desc).map (fun d => d.parameters.length) = some 0 := by decide +kernel
theorem dd_X4_fault : yX4_fault.cls = RX4 ∧ yX4_fault.cls ≠ "java/lang/invoke/MethodHandle" ∧ yX4_fault.cls ≠ "java/lang/invoke/VarHandle" ∧ (parseMethodDescriptor yX4_fault.desc).map (fun d => d.parameters.length) = some 0 := by decide +kernel
theorem dd_X4_wood : yX4_wood.cls = RX4 ∧ yX4_wood.cls ≠ "java/lang/invoke/MethodHandle" ∧ yX4_wood.cls ≠ "java/lang/invoke/VarHandle" ∧ (parseMethodDescriptor yX4_wood.desc).map (fun d => d.parameters.length) = some 0 := by decide +kernel
theorem dd_X4_tree : yX4_tree.cls = RX4 ∧ yX4_tree.cls ≠ "java/lang/invoke/MethodHandle" ∧ yX4_tree.cls ≠ "java/lang/invoke/VarHandle" ∧ (parseMethodDescriptor yX4_tree.desc).map (fun d => d.parameters.length) = some 2 := by decide +kernel
theorem dd_X4_loan : yX4_loan.cls = RX4 ∧ yX4_loan.cls ≠ "java/lang/invoke/MethodHandle" ∧ yX4_loan.cls ≠ "java/lang/invoke/VarHandle" ∧ (parseMethodDescriptor yX4_loan.desc).map (fun d => d.parameters.length) = some 2 := by decide +kernel
theorem dd_X4_as : yX4_as.cls = RX4 ∧ yX4_as.cls ≠ "java/lang/invoke/MethodHandle" ∧ yX4_as.cls ≠ "java/lang/invoke/VarHandle" ∧ (parseMethodDescriptor yX4_as.desc).map (fun d => d.parameters.length) = some 2 := by decide +kernel
theorem dd_X4_borrow : yX4_borrow.cls = RX4 ∧ yX4_borrow.cls ≠ "java/lang/invoke/MethodHandle" ∧ yX4_borrow.cls ≠ "java/lang/invoke/VarHandle" ∧ (parseMethodDescriptor yX4_borrow.desc).map (fun d => d.parameters.length) = some 2 := by decide +kernel
theorem dd_X4_days : yX4_days.cls = RX4 ∧ yX4_days.cls ≠ "java/lang/invoke/MethodHandle" ∧ yX4_days.cls ≠ "java/lang/invoke/VarHandle" ∧ (parseMethodDescriptor yX4_days.desc).map (fun d => d.parameters.length) = some 1 := by decide +kernel
theorem dd_X4_fire : yX4_fire.cls = RX4 ∧ yX4_fire.cls ≠ "java/lang/invoke/MethodHandle" ∧ yX4_fire.cls ≠ "java/lang/invoke/VarHandle" ∧ (parseMethodDescriptor yX4_fire.desc).map (fun d => d.parameters.length) = some 1 := by decide +kernel
theorem dd_X4_sell : yX4_sell.cls = RX4 ∧ yX4_sell.cls ≠ "java/lang/invoke/MethodHandle" ∧ yX4_sell.cls ≠ "java/lang/invoke/VarHandle" ∧ (parseMethodDescriptor yX4_sell.desc).map (fun d => d.parameters.length) = some 2 := by decide +kernel
theorem dd_X4_keep : yX4_keep.cls = RX4 ∧ yX4_keep.cls ≠ "java/lang/invoke/MethodHandle" ∧ yX4_keep.cls ≠ "java/lang/invoke/VarHandle" ∧ (parseMethodDescriptor yX4_keep.desc).map (fun d => d.parameters.length) = some 1 := by decide +kernel
theorem dd_X4_back : yX4_back.cls = RX4 ∧ yX4_back.cls ≠ "java/lang/invoke/MethodHandle" ∧ yX4_back.cls ≠ "java/lang/invoke/VarHandle" ∧ (parseMethodDescriptor yX4_back.desc).map (fun d => d.parameters.length) = some 1 := by decide +kernel
theorem dd_X4_later : yX4_later.cls = RX4 ∧ yX4_later.cls ≠ "java/lang/invoke/MethodHandle" ∧ yX4_later.cls ≠ "java/lang/invoke/VarHandle" ∧ (parseMethodDescriptor yX4_later.desc).map (fun d => d.parameters.length) = some 2 := by decide +kernel
theorem dd_X4_all : yX4_all.cls = RX4 ∧ yX4_all.cls ≠ "java/lang/invoke/MethodHandle" ∧ yX4_all.cls ≠ "java/lang/invoke/VarHandle" ∧ (parseMethodDescriptor yX4_all.desc).map (fun d => d.parameters.length) = some 2 := by decide +kernel
theorem dd_X4_clear : yX4_clear.cls = RX4 ∧ yX4_clear.cls ≠ "java/lang/invoke/MethodHandle" ∧ yX4_clear.cls ≠ "java/lang/invoke/VarHandle" ∧ (parseMethodDescriptor yX4_clear.desc).map (fun d => d.parameters.length) = some 0 := by decide +kernel
theorem dd_X4_hut : yX4_hut.cls = RX4 ∧ yX4_hut.cls ≠ "java/lang/invoke/MethodHandle" ∧ yX4_hut.cls ≠ "java/lang/invoke/VarHandle" ∧ (parseMethodDescriptor yX4_hut.desc).map (fun d => d.parameters.length) = some 3 := by decide +kernel
theorem dd_X4_enough : yX4_enough.cls = RX4 ∧ yX4_enough.cls ≠ "java/lang/invoke/MethodHandle" ∧ yX4_enough.cls ≠ "java/lang/invoke/VarHandle" ∧ (parseMethodDescriptor yX4_enough.desc).map (fun d => d.parameters.length) = some 1 := by decide +kernel
theorem dd_X4_rid : yX4_rid.cls = RX4 ∧ yX4_rid.cls ≠ "java/lang/invoke/MethodHandle" ∧ yX4_rid.cls ≠ "java/lang/invoke/VarHandle" ∧ (parseMethodDescriptor yX4_rid.desc).map (fun d => d.parameters.length) = some 2 := by decide +kernel
theorem dd_X4_grandson : yX4_grandson.cls = RX4 ∧ yX4_grandson.cls ≠ "java/lang/invoke/MethodHandle" ∧ yX4_grandson.cls ≠ "java/lang/invoke/VarHandle" ∧ (parseMethodDescriptor yX4_grandson.desc).map (fun d => d.parameters.length) = some 1 := by decide +kernel
theorem dd_X4_toWhom : yX4_toWhom.cls = RX4 ∧ yX4_toWhom.cls ≠ "java/lang/invoke/MethodHandle" ∧ yX4_toWhom.cls ≠ "java/lang/invoke/VarHandle" ∧ (parseMethodDescriptor yX4_toWhom.desc).map (fun d => d.parameters.length) = some 3 := by decide +kernel
theorem dd_X4_count : yX4_count.cls = RX4 ∧ yX4_count.cls ≠ "java/lang/invoke/MethodHandle" ∧ yX4_count.cls ≠ "java/lang/invoke/VarHandle" ∧ (parseMethodDescriptor yX4_count.desc).map (fun d => d.parameters.length) = some 1 := by decide +kernel
theorem dd_X4_foretell : yX4_foretell.cls = RX4 ∧ yX4_foretell.cls ≠ "java/lang/invoke/MethodHandle" ∧ yX4_foretell.cls ≠ "java/lang/invoke/VarHandle" ∧ (parseMethodDescriptor yX4_foretell.desc).map (fun d => d.parameters.length) = some 1 := by decide +kernel
theorem dd_X4_anyFails : yX4_anyFails.cls = RX4 ∧ yX4_anyFails.cls ≠ "java/lang/invoke/MethodHandle" ∧ yX4_anyFails.cls ≠ "java/lang/invoke/VarHandle" ∧ (parseMethodDescriptor yX4_anyFails.desc).map (fun d => d.parameters.length) = some 2 := by decide +kernel
theorem dd_X4_commonWithTen : yX4_commonWithTen.cls = RX4 ∧ yX4_commonWithTen.cls ≠ "java/lang/invoke/MethodHandle" ∧ yX4_commonWithTen.cls ≠ "java/lang/invoke/VarHandle" ∧ (parseMethodDescriptor yX4_commonWithTen.desc).map (fun d => d.parameters.length) = some 1 := by decide +kernel
theorem dd_X5_in : yX5_in.cls = RX5 ∧ yX5_in.cls ≠ "java/lang/invoke/MethodHandle" ∧ yX5_in.cls ≠ "java/lang/invoke/VarHandle" ∧ (parseMethodDescriptor yX5_in.desc).map (fun d => d.parameters.length) = some 3 := by decide +kernel
theorem dd_X5_copy : yX5_copy.cls = RX5 ∧ yX5_copy.cls ≠ "java/lang/invoke/MethodHandle" ∧ yX5_copy.cls ≠ "java/lang/invoke/VarHandle" ∧ (parseMethodDescriptor yX5_copy.desc).map (fun d => d.parameters.length) = some 2 := by decide +kernel
theorem dd_X5_write : yX5_write.cls = RX5 ∧ yX5_write.cls ≠ "java/lang/invoke/MethodHandle" ∧ yX5_write.cls ≠ "java/lang/invoke/VarHandle" ∧ (parseMethodDescriptor yX5_write.desc).map (fun d => d.parameters.length) = some 2 := by decide +kernel
theorem dd_X5_erase : yX5_erase.cls = RX5 ∧ yX5_erase.cls ≠ "java/lang/invoke/MethodHandle" ∧ yX5_erase.cls ≠ "java/lang/invoke/VarHandle" ∧ (parseMethodDescriptor yX5_erase.desc).map (fun d => d.parameters.length) = some 0 := by decide +kernel
theorem dd_X5_sort : yX5_sort.cls = RX5 ∧ yX5_sort.cls ≠ "java/lang/invoke/MethodHandle" ∧ yX5_sort.cls ≠ "java/lang/invoke/VarHandle" ∧ (parseMethodDescriptor yX5_sort.desc).map (fun d => d.parameters.length) = some 1 := by decide +kernel
theorem dd_X5_token : yX5_token.cls = RX5 ∧ yX5_token.cls ≠ "java/lang/invoke/MethodHandle" ∧ yX5_token.cls ≠ "java/lang/invoke/VarHandle" ∧ (parseMethodDescriptor yX5_token.desc).map (fun d => d.parameters.length) = some 0 := by decide +kernel
theorem dd_X5_isWord : yX5_isWord.cls = RX5 ∧ yX5_isWord.cls ≠ "java/lang/invoke/MethodHandle" ∧ yX5_isWord.cls ≠ "java/lang/invoke/VarHandle" ∧ (parseMethodDescriptor yX5_isWord.desc).map (fun d => d.parameters.length) = some 3 := by decide +kernel
theorem dd_X5_treeWord : yX5_treeWord.cls = RX5 ∧ yX5_treeWord.cls ≠ "java/lang/invoke/MethodHandle" ∧ yX5_treeWord.cls ≠ "java/lang/invoke/VarHandle" ∧ (parseMethodDescriptor yX5_treeWord.desc).map (fun d => d.parameters.length) = some 0 := by decide +kernel
theorem dd_X5_wordOf : yX5_wordOf.cls = RX5 ∧ yX5_wordOf.cls ≠ "java/lang/invoke/MethodHandle" ∧ yX5_wordOf.cls ≠ "java/lang/invoke/VarHandle" ∧ (parseMethodDescriptor yX5_wordOf.desc).map (fun d => d.parameters.length) = some 0 := by decide +kernel
theorem dd_X5_reads : yX5_reads.cls = RX5 ∧ yX5_reads.cls ≠ "java/lang/invoke/MethodHandle" ∧ yX5_reads.cls ≠ "java/lang/invoke/VarHandle" ∧ (parseMethodDescriptor yX5_reads.desc).map (fun d => d.parameters.length) = some 4 := by decide +kernel
theorem dd_X5_readsRest : yX5_readsRest.cls = RX5 ∧ yX5_readsRest.cls ≠ "java/lang/invoke/MethodHandle" ∧ yX5_readsRest.cls ≠ "java/lang/invoke/VarHandle" ∧ (parseMethodDescriptor yX5_readsRest.desc).map (fun d => d.parameters.length) = some 1 := by decide +kernel
theorem dd_X5_isTreeWord : yX5_isTreeWord.cls = RX5 ∧ yX5_isTreeWord.cls ≠ "java/lang/invoke/MethodHandle" ∧ yX5_isTreeWord.cls ≠ "java/lang/invoke/VarHandle" ∧ (parseMethodDescriptor yX5_isTreeWord.desc).map (fun d => d.parameters.length) = some 1 := by decide +kernel
theorem dd_X5_readsLine : yX5_readsLine.cls = RX5 ∧ yX5_readsLine.cls ≠ "java/lang/invoke/MethodHandle" ∧ yX5_readsLine.cls ≠ "java/lang/invoke/VarHandle" ∧ (parseMethodDescriptor yX5_readsLine.desc).map (fun d => d.parameters.length) = some 0 := by decide +kernel
theorem dd_X5_fault : yX5_fault.cls = RX5 ∧ yX5_fault.cls ≠ "java/lang/invoke/MethodHandle" ∧ yX5_fault.cls ≠ "java/lang/invoke/VarHandle" ∧ (parseMethodDescriptor yX5_fault.desc).map (fun d => d.parameters.length) = some 0 := by decide +kernel
theorem dd_X5_tell : yX5_tell.cls = RX5 ∧ yX5_tell.cls ≠ "java/lang/invoke/MethodHandle" ∧ yX5_tell.cls ≠ "java/lang/invoke/VarHandle" ∧ (parseMethodDescriptor yX5_tell.desc).map (fun d => d.parameters.length) = some 1 := by decide +kernel
theorem dd_X5_wood : yX5_wood.cls = RX5 ∧ yX5_wood.cls ≠ "java/lang/invoke/MethodHandle" ∧ yX5_wood.cls ≠ "java/lang/invoke/VarHandle" ∧ (parseMethodDescriptor yX5_wood.desc).map (fun d => d.parameters.length) = some 0 := by decide +kernel
theorem dd_X5_isTree : yX5_isTree.cls = RX5 ∧ yX5_isTree.cls ≠ "java/lang/invoke/MethodHandle" ∧ yX5_isTree.cls ≠ "java/lang/invoke/VarHandle" ∧ (parseMethodDescriptor yX5_isTree.desc).map (fun d => d.parameters.length) = some 1 := by decide +kernel
theorem dd_X5_lives : yX5_lives.cls = RX5 ∧ yX5_lives.cls ≠ "java/lang/invoke/MethodHandle" ∧ yX5_lives.cls ≠ "java/lang/invoke/VarHandle" ∧ (parseMethodDescriptor yX5_lives.desc).map (fun d => d.parameters.length) = some 1 := by decide +kernel
theorem dd_X5_placeOf : yX5_placeOf.cls = RX5 ∧ yX5_placeOf.cls ≠ "java/lang/invoke/MethodHandle" ∧ yX5_placeOf.cls ≠ "java/lang/invoke/VarHandle" ∧ (parseMethodDescriptor yX5_placeOf.desc).map (fun d => d.parameters.length) = some 3 := by decide +kernel
theorem dd_X5_owedTo : yX5_owedTo.cls = RX5 ∧ yX5_owedTo.cls ≠ "java/lang/invoke/MethodHandle" ∧ yX5_owedTo.cls ≠ "java/lang/invoke/VarHandle" ∧ (parseMethodDescriptor yX5_owedTo.desc).map (fun d => d.parameters.length) = some 2 := by decide +kernel
theorem dd_X5_owedAll : yX5_owedAll.cls = RX5 ∧ yX5_owedAll.cls ≠ "java/lang/invoke/MethodHandle" ∧ yX5_owedAll.cls ≠ "java/lang/invoke/VarHandle" ∧ (parseMethodDescriptor yX5_owedAll.desc).map (fun d => d.parameters.length) = some 1 := by decide +kernel
theorem dd_X5_isCross : yX5_isCross.cls = RX5 ∧ yX5_isCross.cls ≠ "java/lang/invoke/MethodHandle" ∧ yX5_isCross.cls ≠ "java/lang/invoke/VarHandle" ∧ (parseMethodDescriptor yX5_isCross.desc).map (fun d => d.parameters.length) = some 1 := by decide +kernel
theorem dd_X5_lends : yX5_lends.cls = RX5 ∧ yX5_lends.cls ≠ "java/lang/invoke/MethodHandle" ∧ yX5_lends.cls ≠ "java/lang/invoke/VarHandle" ∧ (parseMethodDescriptor yX5_lends.desc).map (fun d => d.parameters.length) = some 1 := by decide +kernel
theorem dd_X5_grown : yX5_grown.cls = RX5 ∧ yX5_grown.cls ≠ "java/lang/invoke/MethodHandle" ∧ yX5_grown.cls ≠ "java/lang/invoke/VarHandle" ∧ (parseMethodDescriptor yX5_grown.desc).map (fun d => d.parameters.length) = some 3 := by decide +kernel
theorem dd_X5_remove : yX5_remove.cls = RX5 ∧ yX5_remove.cls ≠ "java/lang/invoke/MethodHandle" ∧ yX5_remove.cls ≠ "java/lang/invoke/VarHandle" ∧ (parseMethodDescriptor yX5_remove.desc).map (fun d => d.parameters.length) = some 2 := by decide +kernel
theorem dd_X5_few : yX5_few.cls = RX5 ∧ yX5_few.cls ≠ "java/lang/invoke/MethodHandle" ∧ yX5_few.cls ≠ "java/lang/invoke/VarHandle" ∧ (parseMethodDescriptor yX5_few.desc).map (fun d => d.parameters.length) = some 1 := by decide +kernel
theorem dd_X5_firstDue : yX5_firstDue.cls = RX5 ∧ yX5_firstDue.cls ≠ "java/lang/invoke/MethodHandle" ∧ yX5_firstDue.cls ≠ "java/lang/invoke/VarHandle" ∧ (parseMethodDescriptor yX5_firstDue.desc).map (fun d => d.parameters.length) = some 1 := by decide +kernel
theorem dd_X5_work : yX5_work.cls = RX5 ∧ yX5_work.cls ≠ "java/lang/invoke/MethodHandle" ∧ yX5_work.cls ≠ "java/lang/invoke/VarHandle" ∧ (parseMethodDescriptor yX5_work.desc).map (fun d => d.parameters.length) = some 2 := by decide +kernel
theorem dd_X5_day : yX5_day.cls = RX5 ∧ yX5_day.cls ≠ "java/lang/invoke/MethodHandle" ∧ yX5_day.cls ≠ "java/lang/invoke/VarHandle" ∧ (parseMethodDescriptor yX5_day.desc).map (fun d => d.parameters.length) = some 2 := by decide +kernel
theorem dd_X5_tree : yX5_tree.cls = RX5 ∧ yX5_tree.cls ≠ "java/lang/invoke/MethodHandle" ∧ yX5_tree.cls ≠ "java/lang/invoke/VarHandle" ∧ (parseMethodDescriptor yX5_tree.desc).map (fun d => d.parameters.length) = some 2 := by decide +kernel
theorem dd_X5_loan : yX5_loan.cls = RX5 ∧ yX5_loan.cls ≠ "java/lang/invoke/MethodHandle" ∧ yX5_loan.cls ≠ "java/lang/invoke/VarHandle" ∧ (parseMethodDescriptor yX5_loan.desc).map (fun d => d.parameters.length) = some 2 := by decide +kernel
theorem dd_X5_as : yX5_as.cls = RX5 ∧ yX5_as.cls ≠ "java/lang/invoke/MethodHandle" ∧ yX5_as.cls ≠ "java/lang/invoke/VarHandle" ∧ (parseMethodDescriptor yX5_as.desc).map (fun d => d.parameters.length) = some 2 := by decide +kernel
theorem dd_X5_borrow : yX5_borrow.cls = RX5 ∧ yX5_borrow.cls ≠ "java/lang/invoke/MethodHandle" ∧ yX5_borrow.cls ≠ "java/lang/invoke/VarHandle" ∧ (parseMethodDescriptor yX5_borrow.desc).map (fun d => d.parameters.length) = some 2 := by decide +kernel
theorem dd_X5_days : yX5_days.cls = RX5 ∧ yX5_days.cls ≠ "java/lang/invoke/MethodHandle" ∧ yX5_days.cls ≠ "java/lang/invoke/VarHandle" ∧ (parseMethodDescriptor yX5_days.desc).map (fun d => d.parameters.length) = some 1 := by decide +kernel
theorem dd_X5_burn : yX5_burn.cls = RX5 ∧ yX5_burn.cls ≠ "java/lang/invoke/MethodHandle" ∧ yX5_burn.cls ≠ "java/lang/invoke/VarHandle" ∧ (parseMethodDescriptor yX5_burn.desc).map (fun d => d.parameters.length) = some 1 := by decide +kernel
theorem dd_X5_fire : yX5_fire.cls = RX5 ∧ yX5_fire.cls ≠ "java/lang/invoke/MethodHandle" ∧ yX5_fire.cls ≠ "java/lang/invoke/VarHandle" ∧ (parseMethodDescriptor yX5_fire.desc).map (fun d => d.parameters.length) = some 1 := by decide +kernel
theorem dd_X5_sell : yX5_sell.cls = RX5 ∧ yX5_sell.cls ≠ "java/lang/invoke/MethodHandle" ∧ yX5_sell.cls ≠ "java/lang/invoke/VarHandle" ∧ (parseMethodDescriptor yX5_sell.desc).map (fun d => d.parameters.length) = some 2 := by decide +kernel
theorem dd_X5_keep : yX5_keep.cls = RX5 ∧ yX5_keep.cls ≠ "java/lang/invoke/MethodHandle" ∧ yX5_keep.cls ≠ "java/lang/invoke/VarHandle" ∧ (parseMethodDescriptor yX5_keep.desc).map (fun d => d.parameters.length) = some 1 := by decide +kernel
theorem dd_X5_back : yX5_back.cls = RX5 ∧ yX5_back.cls ≠ "java/lang/invoke/MethodHandle" ∧ yX5_back.cls ≠ "java/lang/invoke/VarHandle" ∧ (parseMethodDescriptor yX5_back.desc).map (fun d => d.parameters.length) = some 1 := by decide +kernel
theorem dd_X5_tryDays : yX5_tryDays.cls = RX5 ∧ yX5_tryDays.cls ≠ "java/lang/invoke/MethodHandle" ∧ yX5_tryDays.cls ≠ "java/lang/invoke/VarHandle" ∧ (parseMethodDescriptor yX5_tryDays.desc).map (fun d => d.parameters.length) = some 2 := by decide +kernel
theorem dd_X5_later : yX5_later.cls = RX5 ∧ yX5_later.cls ≠ "java/lang/invoke/MethodHandle" ∧ yX5_later.cls ≠ "java/lang/invoke/VarHandle" ∧ (parseMethodDescriptor yX5_later.desc).map (fun d => d.parameters.length) = some 2 := by decide +kernel
theorem dd_X5_all : yX5_all.cls = RX5 ∧ yX5_all.cls ≠ "java/lang/invoke/MethodHandle" ∧ yX5_all.cls ≠ "java/lang/invoke/VarHandle" ∧ (parseMethodDescriptor yX5_all.desc).map (fun d => d.parameters.length) = some 2 := by decide +kernel
theorem dd_X5_clear : yX5_clear.cls = RX5 ∧ yX5_clear.cls ≠ "java/lang/invoke/MethodHandle" ∧ yX5_clear.cls ≠ "java/lang/invoke/VarHandle" ∧ (parseMethodDescriptor yX5_clear.desc).map (fun d => d.parameters.length) = some 0 := by decide +kernel
theorem dd_X5_owedFor : yX5_owedFor.cls = RX5 ∧ yX5_owedFor.cls ≠ "java/lang/invoke/MethodHandle" ∧ yX5_owedFor.cls ≠ "java/lang/invoke/VarHandle" ∧ (parseMethodDescriptor yX5_owedFor.desc).map (fun d => d.parameters.length) = some 3 := by decide +kernel
theorem dd_X5_layPrices : yX5_layPrices.cls = RX5 ∧ yX5_layPrices.cls ≠ "java/lang/invoke/MethodHandle" ∧ yX5_layPrices.cls ≠ "java/lang/invoke/VarHandle" ∧ (parseMethodDescriptor yX5_layPrices.desc).map (fun d => d.parameters.length) = some 1 := by decide +kernel
theorem dd_X5_by : yX5_by.cls = RX5 ∧ yX5_by.cls ≠ "java/lang/invoke/MethodHandle" ∧ yX5_by.cls ≠ "java/lang/invoke/VarHandle" ∧ (parseMethodDescriptor yX5_by.desc).map (fun d => d.parameters.length) = some 3 := by decide +kernel
theorem dd_X5_layLeasts : yX5_layLeasts.cls = RX5 ∧ yX5_layLeasts.cls ≠ "java/lang/invoke/MethodHandle" ∧ yX5_layLeasts.cls ≠ "java/lang/invoke/VarHandle" ∧ (parseMethodDescriptor yX5_layLeasts.desc).map (fun d => d.parameters.length) = some 0 := by decide +kernel
theorem dd_X5_hut : yX5_hut.cls = RX5 ∧ yX5_hut.cls ≠ "java/lang/invoke/MethodHandle" ∧ yX5_hut.cls ≠ "java/lang/invoke/VarHandle" ∧ (parseMethodDescriptor yX5_hut.desc).map (fun d => d.parameters.length) = some 3 := by decide +kernel
theorem dd_X5_enough : yX5_enough.cls = RX5 ∧ yX5_enough.cls ≠ "java/lang/invoke/MethodHandle" ∧ yX5_enough.cls ≠ "java/lang/invoke/VarHandle" ∧ (parseMethodDescriptor yX5_enough.desc).map (fun d => d.parameters.length) = some 1 := by decide +kernel
theorem dd_X5_rid : yX5_rid.cls = RX5 ∧ yX5_rid.cls ≠ "java/lang/invoke/MethodHandle" ∧ yX5_rid.cls ≠ "java/lang/invoke/VarHandle" ∧ (parseMethodDescriptor yX5_rid.desc).map (fun d => d.parameters.length) = some 2 := by decide +kernel
theorem dd_X5_grandson : yX5_grandson.cls = RX5 ∧ yX5_grandson.cls ≠ "java/lang/invoke/MethodHandle" ∧ yX5_grandson.cls ≠ "java/lang/invoke/VarHandle" ∧ (parseMethodDescriptor yX5_grandson.desc).map (fun d => d.parameters.length) = some 1 := by decide +kernel
theorem dd_X5_toWhom : yX5_toWhom.cls = RX5 ∧ yX5_toWhom.cls ≠ "java/lang/invoke/MethodHandle" ∧ yX5_toWhom.cls ≠ "java/lang/invoke/VarHandle" ∧ (parseMethodDescriptor yX5_toWhom.desc).map (fun d => d.parameters.length) = some 3 := by decide +kernel
theorem dd_X5_count : yX5_count.cls = RX5 ∧ yX5_count.cls ≠ "java/lang/invoke/MethodHandle" ∧ yX5_count.cls ≠ "java/lang/invoke/VarHandle" ∧ (parseMethodDescriptor yX5_count.desc).map (fun d => d.parameters.length) = some 1 := by decide +kernel
theorem dd_J6_bitCount_0f7a4 : yJ6_bitCount_0f7a4.cls = RJ6 ∧ yJ6_bitCount_0f7a4.cls ≠ "java/lang/invoke/MethodHandle" ∧ yJ6_bitCount_0f7a4.cls ≠ "java/lang/invoke/VarHandle" ∧ (parseMethodDescriptor yJ6_bitCount_0f7a4.desc).map (fun d => d.parameters.length) = some 1 := by decide +kernel
theorem dd_J0_length_8abf5 : yJ0_length_8abf5.cls = RJ0 ∧ yJ0_length_8abf5.cls ≠ "java/lang/invoke/MethodHandle" ∧ yJ0_length_8abf5.cls ≠ "java/lang/invoke/VarHandle" ∧ (parseMethodDescriptor yJ0_length_8abf5.desc).map (fun d => d.parameters.length) = some 0 := by decide +kernel
theorem dd_J0_charAt_5068e : yJ0_charAt_5068e.cls = RJ0 ∧ yJ0_charAt_5068e.cls ≠ "java/lang/invoke/MethodHandle" ∧ yJ0_charAt_5068e.cls ≠ "java/lang/invoke/VarHandle" ∧ (parseMethodDescriptor yJ0_charAt_5068e.desc).map (fun d => d.parameters.length) = some 1 := by decide +kernel
def mX1_owedTo : MB := (cX1_owedTo, 4, RX1, (some .int), wsX1_owedTo, { frames := 0, cells := 0, slots := 0, locals := 0 })
theorem i_X1_owedTo_X1 : ∀ x ∈ u_ws RX1 TX1 10, x ∈ wsX1_owedTo := by decide +kernel
theorem f_X1_owedTo_37 : Cond.fieldLink RX1 37 (TX1 3).1 (TX1 3).2.1 (TX1 3).2.2.1 ∈ wsX1_owedTo := List.mem_of_getElem? (i := 1) rfl
theorem f_X1_owedTo_18 : Cond.fieldLink RX1 18 (TX1 4).1 (TX1 4).2.1 (TX1 4).2.2.1 ∈ wsX1_owedTo := List.mem_of_getElem? (i := 2) rfl
theorem f_X1_owedTo_24 : Cond.fieldLink RX1 24 (TX1 6).1 (TX1 6).2.1 (TX1 6).2.2.1 ∈ wsX1_owedTo := List.mem_of_getElem? (i := 3) rfl
def mX1_isCross : MB := (cX1_isCross, 5, RX1, (some .boolean), wsX1_isCross, { frames := 1, cells := 0, slots := 0, locals := 23 })
theorem i_X1_isCross_X3 : ∀ x ∈ u_ws RX3 TX3 10, x ∈ wsX1_isCross := by decide +kernel
theorem f_X1_isCross_56 : Cond.fieldLink RX1 56 (TX3 6).1 (TX3 6).2.1 (TX3 6).2.2.1 ∈ wsX1_isCross := List.mem_of_getElem? (i := 1) rfl
theorem f_X1_isCross_59 : Cond.fieldLink RX1 59 (TX3 7).1 (TX3 7).2.1 (TX3 7).2.2.1 ∈ wsX1_isCross := List.mem_of_getElem? (i := 2) rfl
theorem f_X1_isCross_62 : Cond.fieldLink RX1 62 (TX3 8).1 (TX3 8).2.1 (TX3 8).2.2.1 ∈ wsX1_isCross := List.mem_of_getElem? (i := 3) rfl
theorem o_X1_isCross_52 : OkV mX1_isCross mX1_owedTo yX1_owedTo 52 1 RX1 := ⟨gX1_isCross_X1_owedTo, ⟨_, rfl⟩, ⟨rfl, rfl⟩, dd_X1_owedTo, ⟨Nat.le_of_ble_eq_true rfl, Nat.le_of_ble_eq_true rfl⟩⟩
def mX1_lends : MB := (cX1_lends, 3, RX1, (some .boolean), wsX1_lends, { frames := 2, cells := 0, slots := 0, locals := 47 })
theorem i_X1_lends_X1 : ∀ x ∈ u_ws RX1 TX1 10, x ∈ wsX1_lends := by decide +kernel
theorem f_X1_lends_15 : Cond.fieldLink RX1 15 (TX1 2).1 (TX1 2).2.1 (TX1 2).2.2.1 ∈ wsX1_lends := List.mem_of_getElem? (i := 1) rfl
theorem o_X1_lends_65 : OkV mX1_lends mX1_isCross yX1_isCross 65 2 RX1 := ⟨gX1_lends_X1_isCross, ⟨_, rfl⟩, ⟨rfl, rfl⟩, dd_X1_isCross, ⟨Nat.le_of_ble_eq_true rfl, Nat.le_of_ble_eq_true rfl⟩⟩
def mX3_grownOnce : MB := (cX3_grownOnce, 6, RX3, (some .int), wsX3_grownOnce, { frames := 1, cells := 0, slots := 0, locals := 26 })
theorem i_X3_grownOnce_X3 : ∀ x ∈ u_ws RX3 TX3 10, x ∈ wsX3_grownOnce := by decide +kernel
theorem f_X3_grownOnce_18 : Cond.fieldLink RX3 18 (TX3 3).1 (TX3 3).2.1 (TX3 3).2.2.1 ∈ wsX3_grownOnce := List.mem_of_getElem? (i := 1) rfl
theorem f_X3_grownOnce_9 : Cond.fieldLink RX3 9 (TX3 1).1 (TX3 1).2.1 (TX3 1).2.2.1 ∈ wsX3_grownOnce := List.mem_of_getElem? (i := 2) rfl
def mX3_grownIn : MB := (cX3_grownIn, 6, RX3, (some .int), wsX3_grownIn, { frames := 2, cells := 0, slots := 0, locals := 51 })
theorem o_X3_grownIn_59 : OkV mX3_grownIn mX3_grownOnce yX3_grownOnce 59 3 RX3 := ⟨gX3_grownIn_X3_grownOnce, ⟨_, rfl⟩, ⟨rfl, rfl⟩, dd_X3_grownOnce, ⟨Nat.le_of_ble_eq_true rfl, Nat.le_of_ble_eq_true rfl⟩⟩
def mX0_chooseFrom : MB := (cX0_chooseFrom, 8, RX0, none, wsX0_chooseFrom, { frames := 0, cells := 0, slots := 0, locals := 0 })
theorem i_X0_chooseFrom_X0 : ∀ x ∈ u_ws RX0 TX0 5, x ∈ wsX0_chooseFrom := by decide +kernel
theorem f_X0_chooseFrom_19 : Cond.fieldLink RX0 19 (TX0 2).1 (TX0 2).2.1 (TX0 2).2.2.1 ∈ wsX0_chooseFrom := List.mem_of_getElem? (i := 2) rfl
theorem f_X0_chooseFrom_11 : Cond.fieldLink RX0 11 (TX0 0).1 (TX0 0).2.1 (TX0 0).2.2.1 ∈ wsX0_chooseFrom := List.mem_of_getElem? (i := 3) rfl
theorem f_X0_chooseFrom_16 : Cond.fieldLink RX0 16 (TX0 1).1 (TX0 1).2.1 (TX0 1).2.2.1 ∈ wsX0_chooseFrom := List.mem_of_getElem? (i := 4) rfl
def mX0_owedTogether : MB := (cX0_owedTogether, 1, RX0, (some .int), wsX0_owedTogether, { frames := 0, cells := 0, slots := 0, locals := 0 })
theorem i_X0_owedTogether_X0 : ∀ x ∈ u_ws RX0 TX0 5, x ∈ wsX0_owedTogether := by decide +kernel
theorem f_X0_owedTogether_11 : Cond.fieldLink RX0 11 (TX0 0).1 (TX0 0).2.1 (TX0 0).2.2.1 ∈ wsX0_owedTogether := List.mem_of_getElem? (i := 1) rfl
theorem f_X0_owedTogether_26 : Cond.fieldLink RX0 26 (TX0 4).1 (TX0 4).2.1 (TX0 4).2.2.1 ∈ wsX0_owedTogether := List.mem_of_getElem? (i := 2) rfl
def mX0_followChoices : MB := (cX0_followChoices, 4, RX0, none, wsX0_followChoices, { frames := 0, cells := 0, slots := 0, locals := 0 })
theorem i_X0_followChoices_X0 : ∀ x ∈ u_ws RX0 TX0 5, x ∈ wsX0_followChoices := by decide +kernel
theorem f_X0_followChoices_26 : Cond.fieldLink RX0 26 (TX0 4).1 (TX0 4).2.1 (TX0 4).2.2.1 ∈ wsX0_followChoices := List.mem_of_getElem? (i := 1) rfl
theorem f_X0_followChoices_23 : Cond.fieldLink RX0 23 (TX0 3).1 (TX0 3).2.1 (TX0 3).2.2.1 ∈ wsX0_followChoices := List.mem_of_getElem? (i := 2) rfl
theorem f_X0_followChoices_16 : Cond.fieldLink RX0 16 (TX0 1).1 (TX0 1).2.1 (TX0 1).2.2.1 ∈ wsX0_followChoices := List.mem_of_getElem? (i := 3) rfl
def mX0_find : MB := (cX0_find, 8, RX0, (some .boolean), wsX0_find, { frames := 3, cells := 0, slots := 0, locals := 76 })
theorem i_X0_find_X0 : ∀ x ∈ u_ws RX0 TX0 5, x ∈ wsX0_find := by decide +kernel
theorem i_X0_find_X1 : ∀ x ∈ u_ws RX1 TX1 10, x ∈ wsX0_find := by decide +kernel
theorem i_X0_find_X3 : ∀ x ∈ u_ws RX3 TX3 10, x ∈ wsX0_find := by decide +kernel
theorem f_X0_find_26 : Cond.fieldLink RX0 26 (TX0 4).1 (TX0 4).2.1 (TX0 4).2.2.1 ∈ wsX0_find := List.mem_of_getElem? (i := 1) rfl
theorem f_X0_find_11 : Cond.fieldLink RX0 11 (TX0 0).1 (TX0 0).2.1 (TX0 0).2.2.1 ∈ wsX0_find := List.mem_of_getElem? (i := 2) rfl
theorem f_X0_find_30 : Cond.fieldLink RX0 30 (TX3 0).1 (TX3 0).2.1 (TX3 0).2.2.1 ∈ wsX0_find := List.mem_of_getElem? (i := 3) rfl
theorem f_X0_find_42 : Cond.fieldLink RX0 42 (TX1 1).1 (TX1 1).2.1 (TX1 1).2.2.1 ∈ wsX0_find := List.mem_of_getElem? (i := 5) rfl
theorem f_X0_find_19 : Cond.fieldLink RX0 19 (TX0 2).1 (TX0 2).2.1 (TX0 2).2.2.1 ∈ wsX0_find := List.mem_of_getElem? (i := 10) rfl
theorem o_X0_find_36 : OkV mX0_find mX1_lends yX1_lends 36 2 RX1 := ⟨gX0_find_X1_lends, ⟨_, rfl⟩, ⟨rfl, rfl⟩, dd_X1_lends, ⟨Nat.le_of_ble_eq_true rfl, Nat.le_of_ble_eq_true rfl⟩⟩
theorem o_X0_find_51 : OkV mX0_find mX3_grownIn yX3_grownIn 51 3 RX3 := ⟨gX0_find_X3_grownIn, ⟨_, rfl⟩, ⟨rfl, rfl⟩, dd_X3_grownIn, ⟨Nat.le_of_ble_eq_true rfl, Nat.le_of_ble_eq_true rfl⟩⟩
theorem o_X0_find_55 : OkV mX0_find mX0_chooseFrom yX0_chooseFrom 55 3 RX0 := ⟨gX0_find_X0_chooseFrom, ⟨_, rfl⟩, ⟨rfl, rfl⟩, dd_X0_chooseFrom, ⟨Nat.le_of_ble_eq_true rfl, Nat.le_of_ble_eq_true rfl⟩⟩
theorem o_X0_find_59 : OkV mX0_find mX0_owedTogether yX0_owedTogether 59 0 RX0 := ⟨gX0_find_X0_owedTogether, ⟨_, rfl⟩, ⟨rfl, rfl⟩, dd_X0_owedTogether, ⟨Nat.le_of_ble_eq_true rfl, Nat.le_of_ble_eq_true rfl⟩⟩
theorem o_X0_find_63 : OkV mX0_find mX0_followChoices yX0_followChoices 63 1 RX0 := ⟨gX0_find_X0_followChoices, ⟨_, rfl⟩, ⟨rfl, rfl⟩, dd_X0_followChoices, ⟨Nat.le_of_ble_eq_true rfl, Nat.le_of_ble_eq_true rfl⟩⟩
def mX1_begin : MB := (cX1_begin, 3, RX1, none, wsX1_begin, { frames := 0, cells := 0, slots := 0, locals := 0 })
theorem i_X1_begin_X1 : ∀ x ∈ u_ws RX1 TX1 10, x ∈ wsX1_begin := by decide +kernel
theorem i_X1_begin_X3 : ∀ x ∈ u_ws RX3 TX3 10, x ∈ wsX1_begin := by decide +kernel
theorem f_X1_begin_33 : Cond.fieldLink RX1 33 (TX1 0).1 (TX1 0).2.1 (TX1 0).2.2.1 ∈ wsX1_begin := List.mem_of_getElem? (i := 1) rfl
theorem f_X1_begin_37 : Cond.fieldLink RX1 37 (TX1 3).1 (TX1 3).2.1 (TX1 3).2.2.1 ∈ wsX1_begin := List.mem_of_getElem? (i := 2) rfl
theorem f_X1_begin_40 : Cond.fieldLink RX1 40 (TX1 9).1 (TX1 9).2.1 (TX1 9).2.2.1 ∈ wsX1_begin := List.mem_of_getElem? (i := 3) rfl
theorem f_X1_begin_9 : Cond.fieldLink RX1 9 (TX1 1).1 (TX1 1).2.1 (TX1 1).2.2.1 ∈ wsX1_begin := List.mem_of_getElem? (i := 4) rfl
theorem f_X1_begin_43 : Cond.fieldLink RX1 43 (TX3 2).1 (TX3 2).2.1 (TX3 2).2.2.1 ∈ wsX1_begin := List.mem_of_getElem? (i := 5) rfl
theorem f_X1_begin_15 : Cond.fieldLink RX1 15 (TX1 2).1 (TX1 2).2.1 (TX1 2).2.2.1 ∈ wsX1_begin := List.mem_of_getElem? (i := 6) rfl
def mX1_copyFrom : MB := (cX1_copyFrom, 2, RX1, none, wsX1_copyFrom, { frames := 1, cells := 0, slots := 0, locals := 26 })
theorem i_X1_copyFrom_X1 : ∀ x ∈ u_ws RX1 TX1 10, x ∈ wsX1_copyFrom := by decide +kernel
theorem f_X1_copyFrom_33 : Cond.fieldLink RX1 33 (TX1 0).1 (TX1 0).2.1 (TX1 0).2.2.1 ∈ wsX1_copyFrom := List.mem_of_getElem? (i := 1) rfl
theorem f_X1_copyFrom_9 : Cond.fieldLink RX1 9 (TX1 1).1 (TX1 1).2.1 (TX1 1).2.2.1 ∈ wsX1_copyFrom := List.mem_of_getElem? (i := 2) rfl
theorem f_X1_copyFrom_15 : Cond.fieldLink RX1 15 (TX1 2).1 (TX1 2).2.1 (TX1 2).2.2.1 ∈ wsX1_copyFrom := List.mem_of_getElem? (i := 7) rfl
theorem f_X1_copyFrom_37 : Cond.fieldLink RX1 37 (TX1 3).1 (TX1 3).2.1 (TX1 3).2.2.1 ∈ wsX1_copyFrom := List.mem_of_getElem? (i := 8) rfl
theorem f_X1_copyFrom_18 : Cond.fieldLink RX1 18 (TX1 4).1 (TX1 4).2.1 (TX1 4).2.2.1 ∈ wsX1_copyFrom := List.mem_of_getElem? (i := 9) rfl
theorem f_X1_copyFrom_21 : Cond.fieldLink RX1 21 (TX1 5).1 (TX1 5).2.1 (TX1 5).2.2.1 ∈ wsX1_copyFrom := List.mem_of_getElem? (i := 10) rfl
theorem f_X1_copyFrom_24 : Cond.fieldLink RX1 24 (TX1 6).1 (TX1 6).2.1 (TX1 6).2.2.1 ∈ wsX1_copyFrom := List.mem_of_getElem? (i := 11) rfl
theorem f_X1_copyFrom_27 : Cond.fieldLink RX1 27 (TX1 7).1 (TX1 7).2.1 (TX1 7).2.2.1 ∈ wsX1_copyFrom := List.mem_of_getElem? (i := 12) rfl
theorem f_X1_copyFrom_30 : Cond.fieldLink RX1 30 (TX1 8).1 (TX1 8).2.1 (TX1 8).2.2.1 ∈ wsX1_copyFrom := List.mem_of_getElem? (i := 13) rfl
theorem f_X1_copyFrom_40 : Cond.fieldLink RX1 40 (TX1 9).1 (TX1 9).2.1 (TX1 9).2.2.1 ∈ wsX1_copyFrom := List.mem_of_getElem? (i := 14) rfl
def mX1_owedInAll : MB := (cX1_owedInAll, 3, RX1, (some .int), wsX1_owedInAll, { frames := 0, cells := 0, slots := 0, locals := 0 })
theorem i_X1_owedInAll_X1 : ∀ x ∈ u_ws RX1 TX1 10, x ∈ wsX1_owedInAll := by decide +kernel
theorem f_X1_owedInAll_37 : Cond.fieldLink RX1 37 (TX1 3).1 (TX1 3).2.1 (TX1 3).2.2.1 ∈ wsX1_owedInAll := List.mem_of_getElem? (i := 1) rfl
theorem f_X1_owedInAll_24 : Cond.fieldLink RX1 24 (TX1 6).1 (TX1 6).2.1 (TX1 6).2.2.1 ∈ wsX1_owedInAll := List.mem_of_getElem? (i := 2) rfl
def mX3_dueOf : MB := (cX3_dueOf, 3, RX3, (some .int), wsX3_dueOf, { frames := 0, cells := 0, slots := 0, locals := 0 })
theorem i_X3_dueOf_X3 : ∀ x ∈ u_ws RX3 TX3 10, x ∈ wsX3_dueOf := by decide +kernel
theorem f_X3_dueOf_9 : Cond.fieldLink RX3 9 (TX3 1).1 (TX3 1).2.1 (TX3 1).2.2.1 ∈ wsX3_dueOf := List.mem_of_getElem? (i := 1) rfl
theorem f_X3_dueOf_21 : Cond.fieldLink RX3 21 (TX3 4).1 (TX3 4).2.1 (TX3 4).2.2.1 ∈ wsX3_dueOf := List.mem_of_getElem? (i := 2) rfl
def mX1_lend : MB := (cX1_lend, 5, RX1, (some .int), wsX1_lend, { frames := 1, cells := 0, slots := 0, locals := 22 })
theorem i_X1_lend_X1 : ∀ x ∈ u_ws RX1 TX1 10, x ∈ wsX1_lend := by decide +kernel
theorem f_X1_lend_37 : Cond.fieldLink RX1 37 (TX1 3).1 (TX1 3).2.1 (TX1 3).2.2.1 ∈ wsX1_lend := List.mem_of_getElem? (i := 1) rfl
theorem f_X1_lend_18 : Cond.fieldLink RX1 18 (TX1 4).1 (TX1 4).2.1 (TX1 4).2.2.1 ∈ wsX1_lend := List.mem_of_getElem? (i := 2) rfl
theorem f_X1_lend_21 : Cond.fieldLink RX1 21 (TX1 5).1 (TX1 5).2.1 (TX1 5).2.2.1 ∈ wsX1_lend := List.mem_of_getElem? (i := 3) rfl
theorem f_X1_lend_24 : Cond.fieldLink RX1 24 (TX1 6).1 (TX1 6).2.1 (TX1 6).2.2.1 ∈ wsX1_lend := List.mem_of_getElem? (i := 4) rfl
theorem f_X1_lend_27 : Cond.fieldLink RX1 27 (TX1 7).1 (TX1 7).2.1 (TX1 7).2.2.1 ∈ wsX1_lend := List.mem_of_getElem? (i := 5) rfl
theorem f_X1_lend_33 : Cond.fieldLink RX1 33 (TX1 0).1 (TX1 0).2.1 (TX1 0).2.2.1 ∈ wsX1_lend := List.mem_of_getElem? (i := 6) rfl
theorem f_X1_lend_30 : Cond.fieldLink RX1 30 (TX1 8).1 (TX1 8).2.1 (TX1 8).2.2.1 ∈ wsX1_lend := List.mem_of_getElem? (i := 7) rfl
theorem f_X1_lend_9 : Cond.fieldLink RX1 9 (TX1 1).1 (TX1 1).2.1 (TX1 1).2.2.1 ∈ wsX1_lend := List.mem_of_getElem? (i := 8) rfl
theorem o_X1_lend_69 : OkV mX1_lend mX3_dueOf yX3_dueOf 69 2 RX3 := ⟨gX1_lend_X3_dueOf, ⟨_, rfl⟩, ⟨rfl, rfl⟩, dd_X3_dueOf, ⟨Nat.le_of_ble_eq_true rfl, Nat.le_of_ble_eq_true rfl⟩⟩
def mX1_addBranches : MB := (cX1_addBranches, 3, RX1, none, wsX1_addBranches, { frames := 1, cells := 0, slots := 0, locals := 26 })
theorem i_X1_addBranches_X1 : ∀ x ∈ u_ws RX1 TX1 10, x ∈ wsX1_addBranches := by decide +kernel
theorem f_X1_addBranches_9 : Cond.fieldLink RX1 9 (TX1 1).1 (TX1 1).2.1 (TX1 1).2.2.1 ∈ wsX1_addBranches := List.mem_of_getElem? (i := 1) rfl
def mX1_growLoans : MB := (cX1_growLoans, 3, RX1, none, wsX1_growLoans, { frames := 2, cells := 0, slots := 0, locals := 51 })
theorem i_X1_growLoans_X1 : ∀ x ∈ u_ws RX1 TX1 10, x ∈ wsX1_growLoans := by decide +kernel
theorem f_X1_growLoans_37 : Cond.fieldLink RX1 37 (TX1 3).1 (TX1 3).2.1 (TX1 3).2.2.1 ∈ wsX1_growLoans := List.mem_of_getElem? (i := 1) rfl
theorem f_X1_growLoans_24 : Cond.fieldLink RX1 24 (TX1 6).1 (TX1 6).2.1 (TX1 6).2.2.1 ∈ wsX1_growLoans := List.mem_of_getElem? (i := 2) rfl
theorem f_X1_growLoans_18 : Cond.fieldLink RX1 18 (TX1 4).1 (TX1 4).2.1 (TX1 4).2.2.1 ∈ wsX1_growLoans := List.mem_of_getElem? (i := 3) rfl
theorem f_X1_growLoans_21 : Cond.fieldLink RX1 21 (TX1 5).1 (TX1 5).2.1 (TX1 5).2.2.1 ∈ wsX1_growLoans := List.mem_of_getElem? (i := 4) rfl
theorem o_X1_growLoans_89 : OkV mX1_growLoans mX3_grownOnce yX3_grownOnce 89 3 RX3 := ⟨gX1_growLoans_X3_grownOnce, ⟨_, rfl⟩, ⟨rfl, rfl⟩, dd_X3_grownOnce, ⟨Nat.le_of_ble_eq_true rfl, Nat.le_of_ble_eq_true rfl⟩⟩
def mX1_firstDue : MB := (cX1_firstDue, 3, RX1, (some .int), wsX1_firstDue, { frames := 0, cells := 0, slots := 0, locals := 0 })
theorem i_X1_firstDue_X1 : ∀ x ∈ u_ws RX1 TX1 10, x ∈ wsX1_firstDue := by decide +kernel
theorem f_X1_firstDue_37 : Cond.fieldLink RX1 37 (TX1 3).1 (TX1 3).2.1 (TX1 3).2.2.1 ∈ wsX1_firstDue := List.mem_of_getElem? (i := 1) rfl
theorem f_X1_firstDue_27 : Cond.fieldLink RX1 27 (TX1 7).1 (TX1 7).2.1 (TX1 7).2.2.1 ∈ wsX1_firstDue := List.mem_of_getElem? (i := 2) rfl
def mX1_removeLoan : MB := (cX1_removeLoan, 3, RX1, none, wsX1_removeLoan, { frames := 0, cells := 0, slots := 0, locals := 0 })
theorem i_X1_removeLoan_X1 : ∀ x ∈ u_ws RX1 TX1 10, x ∈ wsX1_removeLoan := by decide +kernel
theorem f_X1_removeLoan_37 : Cond.fieldLink RX1 37 (TX1 3).1 (TX1 3).2.1 (TX1 3).2.2.1 ∈ wsX1_removeLoan := List.mem_of_getElem? (i := 1) rfl
theorem f_X1_removeLoan_18 : Cond.fieldLink RX1 18 (TX1 4).1 (TX1 4).2.1 (TX1 4).2.2.1 ∈ wsX1_removeLoan := List.mem_of_getElem? (i := 2) rfl
theorem f_X1_removeLoan_21 : Cond.fieldLink RX1 21 (TX1 5).1 (TX1 5).2.1 (TX1 5).2.2.1 ∈ wsX1_removeLoan := List.mem_of_getElem? (i := 3) rfl
theorem f_X1_removeLoan_24 : Cond.fieldLink RX1 24 (TX1 6).1 (TX1 6).2.1 (TX1 6).2.2.1 ∈ wsX1_removeLoan := List.mem_of_getElem? (i := 4) rfl
theorem f_X1_removeLoan_27 : Cond.fieldLink RX1 27 (TX1 7).1 (TX1 7).2.1 (TX1 7).2.2.1 ∈ wsX1_removeLoan := List.mem_of_getElem? (i := 5) rfl
theorem f_X1_removeLoan_30 : Cond.fieldLink RX1 30 (TX1 8).1 (TX1 8).2.1 (TX1 8).2.2.1 ∈ wsX1_removeLoan := List.mem_of_getElem? (i := 6) rfl
def mX1_workOff : MB := (cX1_workOff, 6, RX1, none, wsX1_workOff, { frames := 2, cells := 0, slots := 0, locals := 48 })
theorem i_X1_workOff_X1 : ∀ x ∈ u_ws RX1 TX1 10, x ∈ wsX1_workOff := by decide +kernel
theorem f_X1_workOff_37 : Cond.fieldLink RX1 37 (TX1 3).1 (TX1 3).2.1 (TX1 3).2.2.1 ∈ wsX1_workOff := List.mem_of_getElem? (i := 1) rfl
theorem f_X1_workOff_24 : Cond.fieldLink RX1 24 (TX1 6).1 (TX1 6).2.1 (TX1 6).2.2.1 ∈ wsX1_workOff := List.mem_of_getElem? (i := 2) rfl
theorem f_X1_workOff_18 : Cond.fieldLink RX1 18 (TX1 4).1 (TX1 4).2.1 (TX1 4).2.2.1 ∈ wsX1_workOff := List.mem_of_getElem? (i := 7) rfl
theorem f_X1_workOff_21 : Cond.fieldLink RX1 21 (TX1 5).1 (TX1 5).2.1 (TX1 5).2.2.1 ∈ wsX1_workOff := List.mem_of_getElem? (i := 8) rfl
theorem o_X1_workOff_93 : OkV mX1_workOff mX1_firstDue yX1_firstDue 93 0 RX1 := ⟨gX1_workOff_X1_firstDue, ⟨_, rfl⟩, ⟨rfl, rfl⟩, dd_X1_firstDue, ⟨Nat.le_of_ble_eq_true rfl, Nat.le_of_ble_eq_true rfl⟩⟩
theorem o_X1_workOff_97 : OkV mX1_workOff mX1_addBranches yX1_addBranches 97 2 RX1 := ⟨gX1_workOff_X1_addBranches, ⟨_, rfl⟩, ⟨rfl, rfl⟩, dd_X1_addBranches, ⟨Nat.le_of_ble_eq_true rfl, Nat.le_of_ble_eq_true rfl⟩⟩
theorem o_X1_workOff_101 : OkV mX1_workOff mX1_removeLoan yX1_removeLoan 101 1 RX1 := ⟨gX1_workOff_X1_removeLoan, ⟨_, rfl⟩, ⟨rfl, rfl⟩, dd_X1_removeLoan, ⟨Nat.le_of_ble_eq_true rfl, Nat.le_of_ble_eq_true rfl⟩⟩
def mX1_failDueLoans : MB := (cX1_failDueLoans, 2, RX1, none, wsX1_failDueLoans, { frames := 0, cells := 0, slots := 0, locals := 0 })
theorem i_X1_failDueLoans_X1 : ∀ x ∈ u_ws RX1 TX1 10, x ∈ wsX1_failDueLoans := by decide +kernel
theorem f_X1_failDueLoans_37 : Cond.fieldLink RX1 37 (TX1 3).1 (TX1 3).2.1 (TX1 3).2.2.1 ∈ wsX1_failDueLoans := List.mem_of_getElem? (i := 1) rfl
theorem f_X1_failDueLoans_27 : Cond.fieldLink RX1 27 (TX1 7).1 (TX1 7).2.1 (TX1 7).2.2.1 ∈ wsX1_failDueLoans := List.mem_of_getElem? (i := 2) rfl
theorem f_X1_failDueLoans_33 : Cond.fieldLink RX1 33 (TX1 0).1 (TX1 0).2.1 (TX1 0).2.2.1 ∈ wsX1_failDueLoans := List.mem_of_getElem? (i := 3) rfl
theorem f_X1_failDueLoans_30 : Cond.fieldLink RX1 30 (TX1 8).1 (TX1 8).2.1 (TX1 8).2.2.1 ∈ wsX1_failDueLoans := List.mem_of_getElem? (i := 4) rfl
theorem f_X1_failDueLoans_40 : Cond.fieldLink RX1 40 (TX1 9).1 (TX1 9).2.1 (TX1 9).2.2.1 ∈ wsX1_failDueLoans := List.mem_of_getElem? (i := 5) rfl
def mX1_passDays : MB := (cX1_passDays, 5, RX1, none, wsX1_passDays, { frames := 3, cells := 0, slots := 0, locals := 73 })
theorem i_X1_passDays_X1 : ∀ x ∈ u_ws RX1 TX1 10, x ∈ wsX1_passDays := by decide +kernel
theorem f_X1_passDays_33 : Cond.fieldLink RX1 33 (TX1 0).1 (TX1 0).2.1 (TX1 0).2.2.1 ∈ wsX1_passDays := List.mem_of_getElem? (i := 1) rfl
theorem o_X1_passDays_78 : OkV mX1_passDays mX1_growLoans yX1_growLoans 78 1 RX1 := ⟨gX1_passDays_X1_growLoans, ⟨_, rfl⟩, ⟨rfl, rfl⟩, dd_X1_growLoans, ⟨Nat.le_of_ble_eq_true rfl, Nat.le_of_ble_eq_true rfl⟩⟩
theorem o_X1_passDays_82 : OkV mX1_passDays mX1_workOff yX1_workOff 82 1 RX1 := ⟨gX1_passDays_X1_workOff, ⟨_, rfl⟩, ⟨rfl, rfl⟩, dd_X1_workOff, ⟨Nat.le_of_ble_eq_true rfl, Nat.le_of_ble_eq_true rfl⟩⟩
theorem o_X1_passDays_86 : OkV mX1_passDays mX1_failDueLoans yX1_failDueLoans 86 0 RX1 := ⟨gX1_passDays_X1_failDueLoans, ⟨_, rfl⟩, ⟨rfl, rfl⟩, dd_X1_failDueLoans, ⟨Nat.le_of_ble_eq_true rfl, Nat.le_of_ble_eq_true rfl⟩⟩
def mX1_removeLoansOf : MB := (cX1_removeLoansOf, 3, RX1, none, wsX1_removeLoansOf, { frames := 1, cells := 0, slots := 0, locals := 22 })
theorem i_X1_removeLoansOf_X1 : ∀ x ∈ u_ws RX1 TX1 10, x ∈ wsX1_removeLoansOf := by decide +kernel
theorem f_X1_removeLoansOf_37 : Cond.fieldLink RX1 37 (TX1 3).1 (TX1 3).2.1 (TX1 3).2.2.1 ∈ wsX1_removeLoansOf := List.mem_of_getElem? (i := 1) rfl
theorem f_X1_removeLoansOf_18 : Cond.fieldLink RX1 18 (TX1 4).1 (TX1 4).2.1 (TX1 4).2.2.1 ∈ wsX1_removeLoansOf := List.mem_of_getElem? (i := 2) rfl
theorem o_X1_removeLoansOf_101 : OkV mX1_removeLoansOf mX1_removeLoan yX1_removeLoan 101 1 RX1 := ⟨gX1_removeLoansOf_X1_removeLoan, ⟨_, rfl⟩, ⟨rfl, rfl⟩, dd_X1_removeLoan, ⟨Nat.le_of_ble_eq_true rfl, Nat.le_of_ble_eq_true rfl⟩⟩
def mX1_burn : MB := (cX1_burn, 5, RX1, (some .int), wsX1_burn, { frames := 2, cells := 0, slots := 0, locals := 44 })
theorem i_X1_burn_X1 : ∀ x ∈ u_ws RX1 TX1 10, x ∈ wsX1_burn := by decide +kernel
theorem i_X1_burn_X3 : ∀ x ∈ u_ws RX3 TX3 10, x ∈ wsX1_burn := by decide +kernel
theorem f_X1_burn_104 : Cond.fieldLink RX1 104 (TX3 0).1 (TX3 0).2.1 (TX3 0).2.2.1 ∈ wsX1_burn := List.mem_of_getElem? (i := 1) rfl
theorem f_X1_burn_107 : Cond.fieldLink RX1 107 (TX3 5).1 (TX3 5).2.1 (TX3 5).2.2.1 ∈ wsX1_burn := List.mem_of_getElem? (i := 2) rfl
theorem f_X1_burn_15 : Cond.fieldLink RX1 15 (TX1 2).1 (TX1 2).2.1 (TX1 2).2.2.1 ∈ wsX1_burn := List.mem_of_getElem? (i := 3) rfl
theorem o_X1_burn_110 : OkV mX1_burn mX1_removeLoansOf yX1_removeLoansOf 110 1 RX1 := ⟨gX1_burn_X1_removeLoansOf, ⟨_, rfl⟩, ⟨rfl, rfl⟩, dd_X1_removeLoansOf, ⟨Nat.le_of_ble_eq_true rfl, Nat.le_of_ble_eq_true rfl⟩⟩
def mX1_handOver : MB := (cX1_handOver, 5, RX1, (some .int), wsX1_handOver, { frames := 2, cells := 0, slots := 0, locals := 48 })
theorem i_X1_handOver_X1 : ∀ x ∈ u_ws RX1 TX1 10, x ∈ wsX1_handOver := by decide +kernel
theorem f_X1_handOver_37 : Cond.fieldLink RX1 37 (TX1 3).1 (TX1 3).2.1 (TX1 3).2.2.1 ∈ wsX1_handOver := List.mem_of_getElem? (i := 1) rfl
theorem f_X1_handOver_18 : Cond.fieldLink RX1 18 (TX1 4).1 (TX1 4).2.1 (TX1 4).2.2.1 ∈ wsX1_handOver := List.mem_of_getElem? (i := 2) rfl
theorem f_X1_handOver_9 : Cond.fieldLink RX1 9 (TX1 1).1 (TX1 1).2.1 (TX1 1).2.2.1 ∈ wsX1_handOver := List.mem_of_getElem? (i := 3) rfl
theorem f_X1_handOver_15 : Cond.fieldLink RX1 15 (TX1 2).1 (TX1 2).2.1 (TX1 2).2.2.1 ∈ wsX1_handOver := List.mem_of_getElem? (i := 4) rfl
theorem o_X1_handOver_97 : OkV mX1_handOver mX1_addBranches yX1_addBranches 97 2 RX1 := ⟨gX1_handOver_X1_addBranches, ⟨_, rfl⟩, ⟨rfl, rfl⟩, dd_X1_addBranches, ⟨Nat.le_of_ble_eq_true rfl, Nat.le_of_ble_eq_true rfl⟩⟩
def mJ6_bitCount_0f7a4 : MB := (cJ6_bitCount_0f7a4, 1, RJ6, (some .int), wsJ6_bitCount_0f7a4, { frames := 0, cells := 0, slots := 0, locals := 0 })
def mX1_partsWithLoans : MB := (cX1_partsWithLoans, 4, RX1, (some .int), wsX1_partsWithLoans, { frames := 1, cells := 0, slots := 0, locals := 20 })
theorem i_X1_partsWithLoans_X1 : ∀ x ∈ u_ws RX1 TX1 10, x ∈ wsX1_partsWithLoans := by decide +kernel
theorem i_X1_partsWithLoans_X3 : ∀ x ∈ u_ws RX3 TX3 10, x ∈ wsX1_partsWithLoans := by decide +kernel
theorem f_X1_partsWithLoans_37 : Cond.fieldLink RX1 37 (TX1 3).1 (TX1 3).2.1 (TX1 3).2.2.1 ∈ wsX1_partsWithLoans := List.mem_of_getElem? (i := 1) rfl
theorem f_X1_partsWithLoans_107 : Cond.fieldLink RX1 107 (TX3 5).1 (TX3 5).2.1 (TX3 5).2.2.1 ∈ wsX1_partsWithLoans := List.mem_of_getElem? (i := 2) rfl
theorem f_X1_partsWithLoans_18 : Cond.fieldLink RX1 18 (TX1 4).1 (TX1 4).2.1 (TX1 4).2.2.1 ∈ wsX1_partsWithLoans := List.mem_of_getElem? (i := 3) rfl
theorem o_X1_partsWithLoans_113 : OkS mX1_partsWithLoans mJ6_bitCount_0f7a4 yJ6_bitCount_0f7a4 113 1 := ⟨gX1_partsWithLoans_J6_bitCount_0f7a4, ⟨_, rfl⟩, ⟨rfl, rfl⟩, dd_J6_bitCount_0f7a4.2, ⟨Nat.le_of_ble_eq_true rfl, Nat.le_of_ble_eq_true rfl⟩⟩
def mX2_add : MB := (cX2_add, 2, RX2, none, wsX2_add, { frames := 0, cells := 0, slots := 0, locals := 0 })
theorem i_X2_add_X2 : ∀ x ∈ u_ws RX2 TX2 8, x ∈ wsX2_add := by decide +kernel
theorem f_X2_add_22 : Cond.fieldLink RX2 22 (TX2 1).1 (TX2 1).2.1 (TX2 1).2.2.1 ∈ wsX2_add := List.mem_of_getElem? (i := 1) rfl
theorem f_X2_add_9 : Cond.fieldLink RX2 9 (TX2 0).1 (TX2 0).2.1 (TX2 0).2.2.1 ∈ wsX2_add := List.mem_of_getElem? (i := 2) rfl
def mX3_copyFrom : MB := (cX3_copyFrom, 2, RX3, none, wsX3_copyFrom, { frames := 1, cells := 0, slots := 0, locals := 26 })
theorem i_X3_copyFrom_X3 : ∀ x ∈ u_ws RX3 TX3 10, x ∈ wsX3_copyFrom := by decide +kernel
theorem f_X3_copyFrom_37 : Cond.fieldLink RX3 37 (TX3 0).1 (TX3 0).2.1 (TX3 0).2.2.1 ∈ wsX3_copyFrom := List.mem_of_getElem? (i := 1) rfl
theorem f_X3_copyFrom_9 : Cond.fieldLink RX3 9 (TX3 1).1 (TX3 1).2.1 (TX3 1).2.2.1 ∈ wsX3_copyFrom := List.mem_of_getElem? (i := 2) rfl
theorem f_X3_copyFrom_15 : Cond.fieldLink RX3 15 (TX3 2).1 (TX3 2).2.1 (TX3 2).2.2.1 ∈ wsX3_copyFrom := List.mem_of_getElem? (i := 7) rfl
theorem f_X3_copyFrom_18 : Cond.fieldLink RX3 18 (TX3 3).1 (TX3 3).2.1 (TX3 3).2.2.1 ∈ wsX3_copyFrom := List.mem_of_getElem? (i := 8) rfl
theorem f_X3_copyFrom_21 : Cond.fieldLink RX3 21 (TX3 4).1 (TX3 4).2.1 (TX3 4).2.2.1 ∈ wsX3_copyFrom := List.mem_of_getElem? (i := 9) rfl
theorem f_X3_copyFrom_24 : Cond.fieldLink RX3 24 (TX3 5).1 (TX3 5).2.1 (TX3 5).2.2.1 ∈ wsX3_copyFrom := List.mem_of_getElem? (i := 10) rfl
theorem f_X3_copyFrom_40 : Cond.fieldLink RX3 40 (TX3 6).1 (TX3 6).2.1 (TX3 6).2.2.1 ∈ wsX3_copyFrom := List.mem_of_getElem? (i := 11) rfl
theorem f_X3_copyFrom_27 : Cond.fieldLink RX3 27 (TX3 7).1 (TX3 7).2.1 (TX3 7).2.2.1 ∈ wsX3_copyFrom := List.mem_of_getElem? (i := 12) rfl
theorem f_X3_copyFrom_30 : Cond.fieldLink RX3 30 (TX3 8).1 (TX3 8).2.1 (TX3 8).2.2.1 ∈ wsX3_copyFrom := List.mem_of_getElem? (i := 13) rfl
theorem f_X3_copyFrom_33 : Cond.fieldLink RX3 33 (TX3 9).1 (TX3 9).2.1 (TX3 9).2.2.1 ∈ wsX3_copyFrom := List.mem_of_getElem? (i := 14) rfl
def mX2_isLetter : MB := (cX2_isLetter, 1, RX2, (some .boolean), wsX2_isLetter, { frames := 0, cells := 0, slots := 0, locals := 0 })
def mX2_isDigit : MB := (cX2_isDigit, 1, RX2, (some .boolean), wsX2_isDigit, { frames := 0, cells := 0, slots := 0, locals := 0 })
def mX2_readDigits : MB := (cX2_readDigits, 1, RX2, none, wsX2_readDigits, { frames := 1, cells := 0, slots := 0, locals := 20 })
theorem i_X2_readDigits_X2 : ∀ x ∈ u_ws RX2 TX2 8, x ∈ wsX2_readDigits := by decide +kernel
theorem f_X2_readDigits_108 : Cond.fieldLink RX2 108 (TX2 7).1 (TX2 7).2.1 (TX2 7).2.2.1 ∈ wsX2_readDigits := List.mem_of_getElem? (i := 1) rfl
theorem f_X2_readDigits_33 : Cond.fieldLink RX2 33 (TX2 5).1 (TX2 5).2.1 (TX2 5).2.2.1 ∈ wsX2_readDigits := List.mem_of_getElem? (i := 2) rfl
theorem f_X2_readDigits_22 : Cond.fieldLink RX2 22 (TX2 1).1 (TX2 1).2.1 (TX2 1).2.2.1 ∈ wsX2_readDigits := List.mem_of_getElem? (i := 3) rfl
theorem f_X2_readDigits_9 : Cond.fieldLink RX2 9 (TX2 0).1 (TX2 0).2.1 (TX2 0).2.2.1 ∈ wsX2_readDigits := List.mem_of_getElem? (i := 4) rfl
theorem o_X2_readDigits_120 : OkS mX2_readDigits mX2_isDigit yX2_isDigit 120 1 := ⟨gX2_readDigits_X2_isDigit, ⟨_, rfl⟩, ⟨rfl, rfl⟩, dd_X2_isDigit.2, ⟨Nat.le_of_ble_eq_true rfl, Nat.le_of_ble_eq_true rfl⟩⟩
def mX2_nextToken : MB := (cX2_nextToken, 1, RX2, none, wsX2_nextToken, { frames := 2, cells := 0, slots := 0, locals := 40 })
theorem i_X2_nextToken_X2 : ∀ x ∈ u_ws RX2 TX2 8, x ∈ wsX2_nextToken := by decide +kernel
theorem f_X2_nextToken_33 : Cond.fieldLink RX2 33 (TX2 5).1 (TX2 5).2.1 (TX2 5).2.2.1 ∈ wsX2_nextToken := List.mem_of_getElem? (i := 1) rfl
theorem f_X2_nextToken_43 : Cond.fieldLink RX2 43 (TX2 4).1 (TX2 4).2.1 (TX2 4).2.2.1 ∈ wsX2_nextToken := List.mem_of_getElem? (i := 2) rfl
theorem f_X2_nextToken_22 : Cond.fieldLink RX2 22 (TX2 1).1 (TX2 1).2.1 (TX2 1).2.2.1 ∈ wsX2_nextToken := List.mem_of_getElem? (i := 3) rfl
theorem f_X2_nextToken_9 : Cond.fieldLink RX2 9 (TX2 0).1 (TX2 0).2.1 (TX2 0).2.2.1 ∈ wsX2_nextToken := List.mem_of_getElem? (i := 4) rfl
theorem f_X2_nextToken_46 : Cond.fieldLink RX2 46 (TX2 6).1 (TX2 6).2.1 (TX2 6).2.2.1 ∈ wsX2_nextToken := List.mem_of_getElem? (i := 5) rfl
theorem o_X2_nextToken_117 : OkS mX2_nextToken mX2_isLetter yX2_isLetter 117 1 := ⟨gX2_nextToken_X2_isLetter, ⟨_, rfl⟩, ⟨rfl, rfl⟩, dd_X2_isLetter.2, ⟨Nat.le_of_ble_eq_true rfl, Nat.le_of_ble_eq_true rfl⟩⟩
theorem o_X2_nextToken_120 : OkS mX2_nextToken mX2_isDigit yX2_isDigit 120 1 := ⟨gX2_nextToken_X2_isDigit, ⟨_, rfl⟩, ⟨rfl, rfl⟩, dd_X2_isDigit.2, ⟨Nat.le_of_ble_eq_true rfl, Nat.le_of_ble_eq_true rfl⟩⟩
theorem o_X2_nextToken_123 : OkV mX2_nextToken mX2_readDigits yX2_readDigits 123 0 RX2 := ⟨gX2_nextToken_X2_readDigits, ⟨_, rfl⟩, ⟨rfl, rfl⟩, dd_X2_readDigits, ⟨Nat.le_of_ble_eq_true rfl, Nat.le_of_ble_eq_true rfl⟩⟩
def mX2_isWord : MB := (cX2_isWord, 3, RX2, (some .boolean), wsX2_isWord, { frames := 6, cells := 0, slots := 0, locals := 132 })
theorem i_X2_isWord_X2 : ∀ x ∈ u_ws RX2 TX2 8, x ∈ wsX2_isWord := by decide +kernel
theorem f_X2_isWord_33 : Cond.fieldLink RX2 33 (TX2 5).1 (TX2 5).2.1 (TX2 5).2.2.1 ∈ wsX2_isWord := List.mem_of_getElem? (i := 1) rfl
theorem f_X2_isWord_43 : Cond.fieldLink RX2 43 (TX2 4).1 (TX2 4).2.1 (TX2 4).2.2.1 ∈ wsX2_isWord := List.mem_of_getElem? (i := 2) rfl
theorem f_X2_isWord_9 : Cond.fieldLink RX2 9 (TX2 0).1 (TX2 0).2.1 (TX2 0).2.2.1 ∈ wsX2_isWord := List.mem_of_getElem? (i := 3) rfl
def mX3_forget : MB := (cX3_forget, 1, RX3, none, wsX3_forget, { frames := 0, cells := 0, slots := 0, locals := 0 })
theorem i_X3_forget_X3 : ∀ x ∈ u_ws RX3 TX3 10, x ∈ wsX3_forget := by decide +kernel
theorem f_X3_forget_37 : Cond.fieldLink RX3 37 (TX3 0).1 (TX3 0).2.1 (TX3 0).2.2.1 ∈ wsX3_forget := List.mem_of_getElem? (i := 1) rfl
theorem f_X3_forget_40 : Cond.fieldLink RX3 40 (TX3 6).1 (TX3 6).2.1 (TX3 6).2.2.1 ∈ wsX3_forget := List.mem_of_getElem? (i := 2) rfl
theorem f_X3_forget_33 : Cond.fieldLink RX3 33 (TX3 9).1 (TX3 9).2.1 (TX3 9).2.2.1 ∈ wsX3_forget := List.mem_of_getElem? (i := 3) rfl
def mX2_readWood : MB := (cX2_readWood, 1, RX2, (some .boolean), wsX2_readWood, { frames := 3, cells := 0, slots := 0, locals := 60 })
theorem i_X2_readWood_X2 : ∀ x ∈ u_ws RX2 TX2 8, x ∈ wsX2_readWood := by decide +kernel
theorem f_X2_readWood_18 : Cond.fieldLink RX2 18 (TX2 2).1 (TX2 2).2.1 (TX2 2).2.2.1 ∈ wsX2_readWood := List.mem_of_getElem? (i := 1) rfl
theorem o_X2_readWood_88 : OkV mX2_readWood mX3_forget yX3_forget 88 0 RX3 := ⟨gX2_readWood_X3_forget, ⟨_, rfl⟩, ⟨rfl, rfl⟩, dd_X3_forget, ⟨Nat.le_of_ble_eq_true rfl, Nat.le_of_ble_eq_true rfl⟩⟩
theorem o_X2_readWood_36 : OkV mX2_readWood mX2_nextToken yX2_nextToken 36 0 RX2 := ⟨gX2_readWood_X2_nextToken, ⟨_, rfl⟩, ⟨rfl, rfl⟩, dd_X2_nextToken, ⟨Nat.le_of_ble_eq_true rfl, Nat.le_of_ble_eq_true rfl⟩⟩
def mX2_readNumber : MB := (cX2_readNumber, 4, RX2, (some .int), wsX2_readNumber, { frames := 3, cells := 0, slots := 0, locals := 60 })
theorem i_X2_readNumber_X2 : ∀ x ∈ u_ws RX2 TX2 8, x ∈ wsX2_readNumber := by decide +kernel
theorem f_X2_readNumber_46 : Cond.fieldLink RX2 46 (TX2 6).1 (TX2 6).2.1 (TX2 6).2.2.1 ∈ wsX2_readNumber := List.mem_of_getElem? (i := 1) rfl
theorem f_X2_readNumber_33 : Cond.fieldLink RX2 33 (TX2 5).1 (TX2 5).2.1 (TX2 5).2.2.1 ∈ wsX2_readNumber := List.mem_of_getElem? (i := 2) rfl
theorem f_X2_readNumber_43 : Cond.fieldLink RX2 43 (TX2 4).1 (TX2 4).2.1 (TX2 4).2.2.1 ∈ wsX2_readNumber := List.mem_of_getElem? (i := 3) rfl
theorem f_X2_readNumber_108 : Cond.fieldLink RX2 108 (TX2 7).1 (TX2 7).2.1 (TX2 7).2.2.1 ∈ wsX2_readNumber := List.mem_of_getElem? (i := 4) rfl
theorem o_X2_readNumber_36 : OkV mX2_readNumber mX2_nextToken yX2_nextToken 36 0 RX2 := ⟨gX2_readNumber_X2_nextToken, ⟨_, rfl⟩, ⟨rfl, rfl⟩, dd_X2_nextToken, ⟨Nat.le_of_ble_eq_true rfl, Nat.le_of_ble_eq_true rfl⟩⟩
def mX3_addTree : MB := (cX3_addTree, 5, RX3, none, wsX3_addTree, { frames := 0, cells := 0, slots := 0, locals := 0 })
theorem i_X3_addTree_X3 : ∀ x ∈ u_ws RX3 TX3 10, x ∈ wsX3_addTree := by decide +kernel
theorem f_X3_addTree_37 : Cond.fieldLink RX3 37 (TX3 0).1 (TX3 0).2.1 (TX3 0).2.2.1 ∈ wsX3_addTree := List.mem_of_getElem? (i := 1) rfl
theorem f_X3_addTree_9 : Cond.fieldLink RX3 9 (TX3 1).1 (TX3 1).2.1 (TX3 1).2.2.1 ∈ wsX3_addTree := List.mem_of_getElem? (i := 2) rfl
theorem f_X3_addTree_15 : Cond.fieldLink RX3 15 (TX3 2).1 (TX3 2).2.1 (TX3 2).2.2.1 ∈ wsX3_addTree := List.mem_of_getElem? (i := 3) rfl
theorem f_X3_addTree_18 : Cond.fieldLink RX3 18 (TX3 3).1 (TX3 3).2.1 (TX3 3).2.2.1 ∈ wsX3_addTree := List.mem_of_getElem? (i := 4) rfl
theorem f_X3_addTree_21 : Cond.fieldLink RX3 21 (TX3 4).1 (TX3 4).2.1 (TX3 4).2.2.1 ∈ wsX3_addTree := List.mem_of_getElem? (i := 5) rfl
theorem f_X3_addTree_24 : Cond.fieldLink RX3 24 (TX3 5).1 (TX3 5).2.1 (TX3 5).2.2.1 ∈ wsX3_addTree := List.mem_of_getElem? (i := 6) rfl
def mX2_readTree : MB := (cX2_readTree, 5, RX2, (some .boolean), wsX2_readTree, { frames := 4, cells := 0, slots := 0, locals := 83 })
theorem i_X2_readTree_X2 : ∀ x ∈ u_ws RX2 TX2 8, x ∈ wsX2_readTree := by decide +kernel
theorem i_X2_readTree_X3 : ∀ x ∈ u_ws RX3 TX3 10, x ∈ wsX2_readTree := by decide +kernel
theorem f_X2_readTree_18 : Cond.fieldLink RX2 18 (TX2 2).1 (TX2 2).2.1 (TX2 2).2.2.1 ∈ wsX2_readTree := List.mem_of_getElem? (i := 1) rfl
theorem f_X2_readTree_91 : Cond.fieldLink RX2 91 (TX3 0).1 (TX3 0).2.1 (TX3 0).2.2.1 ∈ wsX2_readTree := List.mem_of_getElem? (i := 2) rfl
theorem o_X2_readTree_36 : OkV mX2_readTree mX2_nextToken yX2_nextToken 36 0 RX2 := ⟨gX2_readTree_X2_nextToken, ⟨_, rfl⟩, ⟨rfl, rfl⟩, dd_X2_nextToken, ⟨Nat.le_of_ble_eq_true rfl, Nat.le_of_ble_eq_true rfl⟩⟩
theorem o_X2_readTree_94 : OkV mX2_readTree mX2_readNumber yX2_readNumber 94 2 RX2 := ⟨gX2_readTree_X2_readNumber, ⟨_, rfl⟩, ⟨rfl, rfl⟩, dd_X2_readNumber, ⟨Nat.le_of_ble_eq_true rfl, Nat.le_of_ble_eq_true rfl⟩⟩
theorem o_X2_readTree_98 : OkV mX2_readTree mX3_addTree yX3_addTree 98 4 RX3 := ⟨gX2_readTree_X3_addTree, ⟨_, rfl⟩, ⟨rfl, rfl⟩, dd_X3_addTree, ⟨Nat.le_of_ble_eq_true rfl, Nat.le_of_ble_eq_true rfl⟩⟩
def mX2_readPart : MB := (cX2_readPart, 3, RX2, (some .boolean), wsX2_readPart, { frames := 4, cells := 0, slots := 0, locals := 83 })
theorem i_X2_readPart_X2 : ∀ x ∈ u_ws RX2 TX2 8, x ∈ wsX2_readPart := by decide +kernel
theorem i_X2_readPart_X3 : ∀ x ∈ u_ws RX3 TX3 10, x ∈ wsX2_readPart := by decide +kernel
theorem f_X2_readPart_18 : Cond.fieldLink RX2 18 (TX2 2).1 (TX2 2).2.1 (TX2 2).2.2.1 ∈ wsX2_readPart := List.mem_of_getElem? (i := 1) rfl
theorem f_X2_readPart_91 : Cond.fieldLink RX2 91 (TX3 0).1 (TX3 0).2.1 (TX3 0).2.2.1 ∈ wsX2_readPart := List.mem_of_getElem? (i := 2) rfl
theorem f_X2_readPart_102 : Cond.fieldLink RX2 102 (TX3 5).1 (TX3 5).2.1 (TX3 5).2.2.1 ∈ wsX2_readPart := List.mem_of_getElem? (i := 3) rfl
theorem o_X2_readPart_36 : OkV mX2_readPart mX2_nextToken yX2_nextToken 36 0 RX2 := ⟨gX2_readPart_X2_nextToken, ⟨_, rfl⟩, ⟨rfl, rfl⟩, dd_X2_nextToken, ⟨Nat.le_of_ble_eq_true rfl, Nat.le_of_ble_eq_true rfl⟩⟩
theorem o_X2_readPart_94 : OkV mX2_readPart mX2_readNumber yX2_readNumber 94 2 RX2 := ⟨gX2_readPart_X2_readNumber, ⟨_, rfl⟩, ⟨rfl, rfl⟩, dd_X2_readNumber, ⟨Nat.le_of_ble_eq_true rfl, Nat.le_of_ble_eq_true rfl⟩⟩
def mX3_addQuarrel : MB := (cX3_addQuarrel, 3, RX3, none, wsX3_addQuarrel, { frames := 0, cells := 0, slots := 0, locals := 0 })
theorem i_X3_addQuarrel_X3 : ∀ x ∈ u_ws RX3 TX3 10, x ∈ wsX3_addQuarrel := by decide +kernel
theorem f_X3_addQuarrel_40 : Cond.fieldLink RX3 40 (TX3 6).1 (TX3 6).2.1 (TX3 6).2.2.1 ∈ wsX3_addQuarrel := List.mem_of_getElem? (i := 1) rfl
theorem f_X3_addQuarrel_27 : Cond.fieldLink RX3 27 (TX3 7).1 (TX3 7).2.1 (TX3 7).2.2.1 ∈ wsX3_addQuarrel := List.mem_of_getElem? (i := 2) rfl
theorem f_X3_addQuarrel_30 : Cond.fieldLink RX3 30 (TX3 8).1 (TX3 8).2.1 (TX3 8).2.2.1 ∈ wsX3_addQuarrel := List.mem_of_getElem? (i := 3) rfl
def mX2_readQuarrel : MB := (cX2_readQuarrel, 3, RX2, (some .boolean), wsX2_readQuarrel, { frames := 4, cells := 0, slots := 0, locals := 83 })
theorem i_X2_readQuarrel_X2 : ∀ x ∈ u_ws RX2 TX2 8, x ∈ wsX2_readQuarrel := by decide +kernel
theorem i_X2_readQuarrel_X3 : ∀ x ∈ u_ws RX3 TX3 10, x ∈ wsX2_readQuarrel := by decide +kernel
theorem f_X2_readQuarrel_18 : Cond.fieldLink RX2 18 (TX2 2).1 (TX2 2).2.1 (TX2 2).2.2.1 ∈ wsX2_readQuarrel := List.mem_of_getElem? (i := 1) rfl
theorem f_X2_readQuarrel_105 : Cond.fieldLink RX2 105 (TX3 6).1 (TX3 6).2.1 (TX3 6).2.2.1 ∈ wsX2_readQuarrel := List.mem_of_getElem? (i := 2) rfl
theorem f_X2_readQuarrel_91 : Cond.fieldLink RX2 91 (TX3 0).1 (TX3 0).2.1 (TX3 0).2.2.1 ∈ wsX2_readQuarrel := List.mem_of_getElem? (i := 3) rfl
theorem f_X2_readQuarrel_46 : Cond.fieldLink RX2 46 (TX2 6).1 (TX2 6).2.1 (TX2 6).2.2.1 ∈ wsX2_readQuarrel := List.mem_of_getElem? (i := 4) rfl
theorem f_X2_readQuarrel_108 : Cond.fieldLink RX2 108 (TX2 7).1 (TX2 7).2.1 (TX2 7).2.2.1 ∈ wsX2_readQuarrel := List.mem_of_getElem? (i := 5) rfl
theorem o_X2_readQuarrel_36 : OkV mX2_readQuarrel mX2_nextToken yX2_nextToken 36 0 RX2 := ⟨gX2_readQuarrel_X2_nextToken, ⟨_, rfl⟩, ⟨rfl, rfl⟩, dd_X2_nextToken, ⟨Nat.le_of_ble_eq_true rfl, Nat.le_of_ble_eq_true rfl⟩⟩
theorem o_X2_readQuarrel_94 : OkV mX2_readQuarrel mX2_readNumber yX2_readNumber 94 2 RX2 := ⟨gX2_readQuarrel_X2_readNumber, ⟨_, rfl⟩, ⟨rfl, rfl⟩, dd_X2_readNumber, ⟨Nat.le_of_ble_eq_true rfl, Nat.le_of_ble_eq_true rfl⟩⟩
theorem o_X2_readQuarrel_111 : OkV mX2_readQuarrel mX3_addQuarrel yX3_addQuarrel 111 2 RX3 := ⟨gX2_readQuarrel_X3_addQuarrel, ⟨_, rfl⟩, ⟨rfl, rfl⟩, dd_X3_addQuarrel, ⟨Nat.le_of_ble_eq_true rfl, Nat.le_of_ble_eq_true rfl⟩⟩
def mX2_readHands : MB := (cX2_readHands, 2, RX2, (some .boolean), wsX2_readHands, { frames := 4, cells := 0, slots := 0, locals := 83 })
theorem i_X2_readHands_X2 : ∀ x ∈ u_ws RX2 TX2 8, x ∈ wsX2_readHands := by decide +kernel
theorem i_X2_readHands_X3 : ∀ x ∈ u_ws RX3 TX3 10, x ∈ wsX2_readHands := by decide +kernel
theorem f_X2_readHands_18 : Cond.fieldLink RX2 18 (TX2 2).1 (TX2 2).2.1 (TX2 2).2.2.1 ∈ wsX2_readHands := List.mem_of_getElem? (i := 1) rfl
theorem f_X2_readHands_115 : Cond.fieldLink RX2 115 (TX3 9).1 (TX3 9).2.1 (TX3 9).2.2.1 ∈ wsX2_readHands := List.mem_of_getElem? (i := 2) rfl
theorem o_X2_readHands_36 : OkV mX2_readHands mX2_nextToken yX2_nextToken 36 0 RX2 := ⟨gX2_readHands_X2_nextToken, ⟨_, rfl⟩, ⟨rfl, rfl⟩, dd_X2_nextToken, ⟨Nat.le_of_ble_eq_true rfl, Nat.le_of_ble_eq_true rfl⟩⟩
theorem o_X2_readHands_94 : OkV mX2_readHands mX2_readNumber yX2_readNumber 94 2 RX2 := ⟨gX2_readHands_X2_readNumber, ⟨_, rfl⟩, ⟨rfl, rfl⟩, dd_X2_readNumber, ⟨Nat.le_of_ble_eq_true rfl, Nat.le_of_ble_eq_true rfl⟩⟩
def mX2_readLine : MB := (cX2_readLine, 1, RX2, (some .boolean), wsX2_readLine, { frames := 7, cells := 0, slots := 0, locals := 154 })
theorem i_X2_readLine_X2 : ∀ x ∈ u_ws RX2 TX2 8, x ∈ wsX2_readLine := by decide +kernel
theorem f_X2_readLine_46 : Cond.fieldLink RX2 46 (TX2 6).1 (TX2 6).2.1 (TX2 6).2.2.1 ∈ wsX2_readLine := List.mem_of_getElem? (i := 1) rfl
theorem o_X2_readLine_54 : OkV mX2_readLine mX2_isWord yX2_isWord 54 1 RX2 := ⟨gX2_readLine_X2_isWord, ⟨_, rfl⟩, ⟨rfl, rfl⟩, dd_X2_isWord, ⟨Nat.le_of_ble_eq_true rfl, Nat.le_of_ble_eq_true rfl⟩⟩
theorem o_X2_readLine_58 : OkV mX2_readLine mX2_readWood yX2_readWood 58 0 RX2 := ⟨gX2_readLine_X2_readWood, ⟨_, rfl⟩, ⟨rfl, rfl⟩, dd_X2_readWood, ⟨Nat.le_of_ble_eq_true rfl, Nat.le_of_ble_eq_true rfl⟩⟩
theorem o_X2_readLine_63 : OkV mX2_readLine mX2_readTree yX2_readTree 63 1 RX2 := ⟨gX2_readLine_X2_readTree, ⟨_, rfl⟩, ⟨rfl, rfl⟩, dd_X2_readTree, ⟨Nat.le_of_ble_eq_true rfl, Nat.le_of_ble_eq_true rfl⟩⟩
theorem o_X2_readLine_75 : OkV mX2_readLine mX2_readPart yX2_readPart 75 0 RX2 := ⟨gX2_readLine_X2_readPart, ⟨_, rfl⟩, ⟨rfl, rfl⟩, dd_X2_readPart, ⟨Nat.le_of_ble_eq_true rfl, Nat.le_of_ble_eq_true rfl⟩⟩
theorem o_X2_readLine_80 : OkV mX2_readLine mX2_readQuarrel yX2_readQuarrel 80 0 RX2 := ⟨gX2_readLine_X2_readQuarrel, ⟨_, rfl⟩, ⟨rfl, rfl⟩, dd_X2_readQuarrel, ⟨Nat.le_of_ble_eq_true rfl, Nat.le_of_ble_eq_true rfl⟩⟩
theorem o_X2_readLine_85 : OkV mX2_readLine mX2_readHands yX2_readHands 85 0 RX2 := ⟨gX2_readLine_X2_readHands, ⟨_, rfl⟩, ⟨rfl, rfl⟩, dd_X2_readHands, ⟨Nat.le_of_ble_eq_true rfl, Nat.le_of_ble_eq_true rfl⟩⟩
def mX2_isAtSemicolon : MB := (cX2_isAtSemicolon, 1, RX2, (some .boolean), wsX2_isAtSemicolon, { frames := 0, cells := 0, slots := 0, locals := 0 })
theorem i_X2_isAtSemicolon_X2 : ∀ x ∈ u_ws RX2 TX2 8, x ∈ wsX2_isAtSemicolon := by decide +kernel
theorem f_X2_isAtSemicolon_46 : Cond.fieldLink RX2 46 (TX2 6).1 (TX2 6).2.1 (TX2 6).2.2.1 ∈ wsX2_isAtSemicolon := List.mem_of_getElem? (i := 1) rfl
theorem f_X2_isAtSemicolon_9 : Cond.fieldLink RX2 9 (TX2 0).1 (TX2 0).2.1 (TX2 0).2.2.1 ∈ wsX2_isAtSemicolon := List.mem_of_getElem? (i := 2) rfl
theorem f_X2_isAtSemicolon_43 : Cond.fieldLink RX2 43 (TX2 4).1 (TX2 4).2.1 (TX2 4).2.2.1 ∈ wsX2_isAtSemicolon := List.mem_of_getElem? (i := 3) rfl
def mX2_read : MB := (cX2_read, 3, RX2, (some .int), wsX2_read, { frames := 8, cells := 0, slots := 0, locals := 174 })
theorem i_X2_read_X2 : ∀ x ∈ u_ws RX2 TX2 8, x ∈ wsX2_read := by decide +kernel
theorem f_X2_read_18 : Cond.fieldLink RX2 18 (TX2 2).1 (TX2 2).2.1 (TX2 2).2.2.1 ∈ wsX2_read := List.mem_of_getElem? (i := 1) rfl
theorem f_X2_read_30 : Cond.fieldLink RX2 30 (TX2 3).1 (TX2 3).2.1 (TX2 3).2.2.1 ∈ wsX2_read := List.mem_of_getElem? (i := 2) rfl
theorem f_X2_read_33 : Cond.fieldLink RX2 33 (TX2 5).1 (TX2 5).2.1 (TX2 5).2.2.1 ∈ wsX2_read := List.mem_of_getElem? (i := 3) rfl
theorem f_X2_read_43 : Cond.fieldLink RX2 43 (TX2 4).1 (TX2 4).2.1 (TX2 4).2.2.1 ∈ wsX2_read := List.mem_of_getElem? (i := 4) rfl
theorem f_X2_read_46 : Cond.fieldLink RX2 46 (TX2 6).1 (TX2 6).2.1 (TX2 6).2.2.1 ∈ wsX2_read := List.mem_of_getElem? (i := 5) rfl
theorem o_X2_read_26 : OkV mX2_read mX3_copyFrom yX3_copyFrom 26 1 RX3 := ⟨gX2_read_X3_copyFrom, ⟨_, rfl⟩, ⟨rfl, rfl⟩, dd_X3_copyFrom, ⟨Nat.le_of_ble_eq_true rfl, Nat.le_of_ble_eq_true rfl⟩⟩
theorem o_X2_read_36 : OkV mX2_read mX2_nextToken yX2_nextToken 36 0 RX2 := ⟨gX2_read_X2_nextToken, ⟨_, rfl⟩, ⟨rfl, rfl⟩, dd_X2_nextToken, ⟨Nat.le_of_ble_eq_true rfl, Nat.le_of_ble_eq_true rfl⟩⟩
theorem o_X2_read_39 : OkV mX2_read mX2_readLine yX2_readLine 39 0 RX2 := ⟨gX2_read_X2_readLine, ⟨_, rfl⟩, ⟨rfl, rfl⟩, dd_X2_readLine, ⟨Nat.le_of_ble_eq_true rfl, Nat.le_of_ble_eq_true rfl⟩⟩
theorem o_X2_read_49 : OkV mX2_read mX2_isAtSemicolon yX2_isAtSemicolon 49 0 RX2 := ⟨gX2_read_X2_isAtSemicolon, ⟨_, rfl⟩, ⟨rfl, rfl⟩, dd_X2_isAtSemicolon, ⟨Nat.le_of_ble_eq_true rfl, Nat.le_of_ble_eq_true rfl⟩⟩
def mX3_has : MB := (cX3_has, 2, RX3, (some .boolean), wsX3_has, { frames := 0, cells := 0, slots := 0, locals := 0 })
theorem i_X3_has_X3 : ∀ x ∈ u_ws RX3 TX3 10, x ∈ wsX3_has := by decide +kernel
theorem f_X3_has_37 : Cond.fieldLink RX3 37 (TX3 0).1 (TX3 0).2.1 (TX3 0).2.2.1 ∈ wsX3_has := List.mem_of_getElem? (i := 1) rfl
def mX3_isOfKind : MB := (cX3_isOfKind, 5, RX3, (some .boolean), wsX3_isOfKind, { frames := 0, cells := 0, slots := 0, locals := 0 })
theorem i_X3_isOfKind_X3 : ∀ x ∈ u_ws RX3 TX3 10, x ∈ wsX3_isOfKind := by decide +kernel
theorem f_X3_isOfKind_9 : Cond.fieldLink RX3 9 (TX3 1).1 (TX3 1).2.1 (TX3 1).2.2.1 ∈ wsX3_isOfKind := List.mem_of_getElem? (i := 1) rfl
def mX4_write : MB := (cX4_write, 5, RX4, (some .int), wsX4_write, { frames := 1, cells := 0, slots := 0, locals := 21 })
theorem i_X4_write_X2 : ∀ x ∈ u_ws RX2 TX2 8, x ∈ wsX4_write := by decide +kernel
theorem i_X4_write_X4 : ∀ x ∈ u_ws RX4 TX4 7, x ∈ wsX4_write := by decide +kernel
theorem f_X4_write_10 : Cond.fieldLink RX4 10 (TX4 0).1 (TX4 0).2.1 (TX4 0).2.2.1 ∈ wsX4_write := List.mem_of_getElem? (i := 1) rfl
theorem f_X4_write_48 : Cond.fieldLink RX4 48 (TX2 1).1 (TX2 1).2.1 (TX2 1).2.2.1 ∈ wsX4_write := List.mem_of_getElem? (i := 2) rfl
theorem o_X4_write_54 : OkV mX4_write mX2_add yX2_add 54 1 RX2 := ⟨gX4_write_X2_add, ⟨_, rfl⟩, ⟨rfl, rfl⟩, dd_X2_add, ⟨Nat.le_of_ble_eq_true rfl, Nat.le_of_ble_eq_true rfl⟩⟩
def mX4_erase : MB := (cX4_erase, 2, RX4, (some .int), wsX4_erase, { frames := 0, cells := 0, slots := 0, locals := 0 })
theorem i_X4_erase_X2 : ∀ x ∈ u_ws RX2 TX2 8, x ∈ wsX4_erase := by decide +kernel
theorem i_X4_erase_X4 : ∀ x ∈ u_ws RX4 TX4 7, x ∈ wsX4_erase := by decide +kernel
theorem f_X4_erase_10 : Cond.fieldLink RX4 10 (TX4 0).1 (TX4 0).2.1 (TX4 0).2.2.1 ∈ wsX4_erase := List.mem_of_getElem? (i := 1) rfl
theorem f_X4_erase_48 : Cond.fieldLink RX4 48 (TX2 1).1 (TX2 1).2.1 (TX2 1).2.2.1 ∈ wsX4_erase := List.mem_of_getElem? (i := 2) rfl
def mX4_fault : MB := (cX4_fault, 1, RX4, (some .int), wsX4_fault, { frames := 9, cells := 0, slots := 0, locals := 196 })
theorem i_X4_fault_X4 : ∀ x ∈ u_ws RX4 TX4 7, x ∈ wsX4_fault := by decide +kernel
theorem f_X4_fault_10 : Cond.fieldLink RX4 10 (TX4 0).1 (TX4 0).2.1 (TX4 0).2.2.1 ∈ wsX4_fault := List.mem_of_getElem? (i := 1) rfl
theorem f_X4_fault_19 : Cond.fieldLink RX4 19 (TX4 1).1 (TX4 1).2.1 (TX4 1).2.2.1 ∈ wsX4_fault := List.mem_of_getElem? (i := 2) rfl
theorem o_X4_fault_58 : OkV mX4_fault mX2_read yX2_read 58 1 RX2 := ⟨gX4_fault_X2_read, ⟨_, rfl⟩, ⟨rfl, rfl⟩, dd_X2_read, ⟨Nat.le_of_ble_eq_true rfl, Nat.le_of_ble_eq_true rfl⟩⟩
def mX4_wood : MB := (cX4_wood, 2, RX4, (some .int), wsX4_wood, { frames := 9, cells := 0, slots := 0, locals := 196 })
theorem i_X4_wood_X2 : ∀ x ∈ u_ws RX2 TX2 8, x ∈ wsX4_wood := by decide +kernel
theorem i_X4_wood_X4 : ∀ x ∈ u_ws RX4 TX4 7, x ∈ wsX4_wood := by decide +kernel
theorem f_X4_wood_10 : Cond.fieldLink RX4 10 (TX4 0).1 (TX4 0).2.1 (TX4 0).2.2.1 ∈ wsX4_wood := List.mem_of_getElem? (i := 1) rfl
theorem f_X4_wood_19 : Cond.fieldLink RX4 19 (TX4 1).1 (TX4 1).2.1 (TX4 1).2.2.1 ∈ wsX4_wood := List.mem_of_getElem? (i := 2) rfl
theorem f_X4_wood_62 : Cond.fieldLink RX4 62 (TX2 2).1 (TX2 2).2.1 (TX2 2).2.2.1 ∈ wsX4_wood := List.mem_of_getElem? (i := 3) rfl
theorem f_X4_wood_48 : Cond.fieldLink RX4 48 (TX2 1).1 (TX2 1).2.1 (TX2 1).2.2.1 ∈ wsX4_wood := List.mem_of_getElem? (i := 4) rfl
theorem f_X4_wood_26 : Cond.fieldLink RX4 26 (TX4 2).1 (TX4 2).2.1 (TX4 2).2.2.1 ∈ wsX4_wood := List.mem_of_getElem? (i := 5) rfl
theorem f_X4_wood_37 : Cond.fieldLink RX4 37 (TX4 5).1 (TX4 5).2.1 (TX4 5).2.2.1 ∈ wsX4_wood := List.mem_of_getElem? (i := 6) rfl
theorem f_X4_wood_72 : Cond.fieldLink RX4 72 (TX2 3).1 (TX2 3).2.1 (TX2 3).2.2.1 ∈ wsX4_wood := List.mem_of_getElem? (i := 7) rfl
theorem o_X4_wood_58 : OkV mX4_wood mX2_read yX2_read 58 1 RX2 := ⟨gX4_wood_X2_read, ⟨_, rfl⟩, ⟨rfl, rfl⟩, dd_X2_read, ⟨Nat.le_of_ble_eq_true rfl, Nat.le_of_ble_eq_true rfl⟩⟩
theorem o_X4_wood_65 : OkV mX4_wood mX3_copyFrom yX3_copyFrom 65 1 RX3 := ⟨gX4_wood_X3_copyFrom, ⟨_, rfl⟩, ⟨rfl, rfl⟩, dd_X3_copyFrom, ⟨Nat.le_of_ble_eq_true rfl, Nat.le_of_ble_eq_true rfl⟩⟩
theorem o_X4_wood_69 : OkV mX4_wood mX1_begin yX1_begin 69 1 RX1 := ⟨gX4_wood_X1_begin, ⟨_, rfl⟩, ⟨rfl, rfl⟩, dd_X1_begin, ⟨Nat.le_of_ble_eq_true rfl, Nat.le_of_ble_eq_true rfl⟩⟩
def mX4_tree : MB := (cX4_tree, 3, RX4, (some .int), wsX4_tree, { frames := 2, cells := 0, slots := 0, locals := 47 })
theorem i_X4_tree_X1 : ∀ x ∈ u_ws RX1 TX1 10, x ∈ wsX4_tree := by decide +kernel
theorem i_X4_tree_X3 : ∀ x ∈ u_ws RX3 TX3 10, x ∈ wsX4_tree := by decide +kernel
theorem i_X4_tree_X4 : ∀ x ∈ u_ws RX4 TX4 7, x ∈ wsX4_tree := by decide +kernel
theorem f_X4_tree_19 : Cond.fieldLink RX4 19 (TX4 1).1 (TX4 1).2.1 (TX4 1).2.2.1 ∈ wsX4_tree := List.mem_of_getElem? (i := 1) rfl
theorem f_X4_tree_79 : Cond.fieldLink RX4 79 (TX3 1).1 (TX3 1).2.1 (TX3 1).2.2.1 ∈ wsX4_tree := List.mem_of_getElem? (i := 2) rfl
theorem f_X4_tree_26 : Cond.fieldLink RX4 26 (TX4 2).1 (TX4 2).2.1 (TX4 2).2.2.1 ∈ wsX4_tree := List.mem_of_getElem? (i := 3) rfl
theorem f_X4_tree_83 : Cond.fieldLink RX4 83 (TX1 1).1 (TX1 1).2.1 (TX1 1).2.2.1 ∈ wsX4_tree := List.mem_of_getElem? (i := 4) rfl
theorem f_X4_tree_86 : Cond.fieldLink RX4 86 (TX3 3).1 (TX3 3).2.1 (TX3 3).2.2.1 ∈ wsX4_tree := List.mem_of_getElem? (i := 5) rfl
theorem f_X4_tree_89 : Cond.fieldLink RX4 89 (TX3 4).1 (TX3 4).2.1 (TX3 4).2.2.1 ∈ wsX4_tree := List.mem_of_getElem? (i := 6) rfl
theorem f_X4_tree_92 : Cond.fieldLink RX4 92 (TX3 5).1 (TX3 5).2.1 (TX3 5).2.2.1 ∈ wsX4_tree := List.mem_of_getElem? (i := 7) rfl
theorem f_X4_tree_99 : Cond.fieldLink RX4 99 (TX1 2).1 (TX1 2).2.1 (TX1 2).2.2.1 ∈ wsX4_tree := List.mem_of_getElem? (i := 8) rfl
theorem o_X4_tree_75 : OkV mX4_tree mX3_has yX3_has 75 1 RX3 := ⟨gX4_tree_X3_has, ⟨_, rfl⟩, ⟨rfl, rfl⟩, dd_X3_has, ⟨Nat.le_of_ble_eq_true rfl, Nat.le_of_ble_eq_true rfl⟩⟩
theorem o_X4_tree_95 : OkV mX4_tree mX1_owedTo yX1_owedTo 95 1 RX1 := ⟨gX4_tree_X1_owedTo, ⟨_, rfl⟩, ⟨rfl, rfl⟩, dd_X1_owedTo, ⟨Nat.le_of_ble_eq_true rfl, Nat.le_of_ble_eq_true rfl⟩⟩
theorem o_X4_tree_102 : OkV mX4_tree mX1_isCross yX1_isCross 102 2 RX1 := ⟨gX4_tree_X1_isCross, ⟨_, rfl⟩, ⟨rfl, rfl⟩, dd_X1_isCross, ⟨Nat.le_of_ble_eq_true rfl, Nat.le_of_ble_eq_true rfl⟩⟩
def mX4_loan : MB := (cX4_loan, 3, RX4, (some .int), wsX4_loan, { frames := 0, cells := 0, slots := 0, locals := 0 })
theorem i_X4_loan_X1 : ∀ x ∈ u_ws RX1 TX1 10, x ∈ wsX4_loan := by decide +kernel
theorem i_X4_loan_X4 : ∀ x ∈ u_ws RX4 TX4 7, x ∈ wsX4_loan := by decide +kernel
theorem f_X4_loan_26 : Cond.fieldLink RX4 26 (TX4 2).1 (TX4 2).2.1 (TX4 2).2.2.1 ∈ wsX4_loan := List.mem_of_getElem? (i := 1) rfl
theorem f_X4_loan_106 : Cond.fieldLink RX4 106 (TX1 3).1 (TX1 3).2.1 (TX1 3).2.2.1 ∈ wsX4_loan := List.mem_of_getElem? (i := 2) rfl
theorem f_X4_loan_109 : Cond.fieldLink RX4 109 (TX1 4).1 (TX1 4).2.1 (TX1 4).2.2.1 ∈ wsX4_loan := List.mem_of_getElem? (i := 3) rfl
theorem f_X4_loan_112 : Cond.fieldLink RX4 112 (TX1 5).1 (TX1 5).2.1 (TX1 5).2.2.1 ∈ wsX4_loan := List.mem_of_getElem? (i := 4) rfl
theorem f_X4_loan_115 : Cond.fieldLink RX4 115 (TX1 6).1 (TX1 6).2.1 (TX1 6).2.2.1 ∈ wsX4_loan := List.mem_of_getElem? (i := 5) rfl
theorem f_X4_loan_118 : Cond.fieldLink RX4 118 (TX1 7).1 (TX1 7).2.1 (TX1 7).2.2.1 ∈ wsX4_loan := List.mem_of_getElem? (i := 6) rfl
theorem f_X4_loan_121 : Cond.fieldLink RX4 121 (TX1 8).1 (TX1 8).2.1 (TX1 8).2.2.1 ∈ wsX4_loan := List.mem_of_getElem? (i := 7) rfl
def mX4_as : MB := (cX4_as, 3, RX4, (some .int), wsX4_as, { frames := 3, cells := 0, slots := 0, locals := 76 })
theorem i_X4_as_X4 : ∀ x ∈ u_ws RX4 TX4 7, x ∈ wsX4_as := by decide +kernel
theorem f_X4_as_19 : Cond.fieldLink RX4 19 (TX4 1).1 (TX4 1).2.1 (TX4 1).2.2.1 ∈ wsX4_as := List.mem_of_getElem? (i := 1) rfl
theorem o_X4_as_75 : OkV mX4_as mX3_has yX3_has 75 1 RX3 := ⟨gX4_as_X3_has, ⟨_, rfl⟩, ⟨rfl, rfl⟩, dd_X3_has, ⟨Nat.le_of_ble_eq_true rfl, Nat.le_of_ble_eq_true rfl⟩⟩
theorem o_X4_as_127 : OkV mX4_as mX3_isOfKind yX3_isOfKind 127 2 RX3 := ⟨gX4_as_X3_isOfKind, ⟨_, rfl⟩, ⟨rfl, rfl⟩, dd_X3_isOfKind, ⟨Nat.le_of_ble_eq_true rfl, Nat.le_of_ble_eq_true rfl⟩⟩
theorem o_X4_as_131 : OkV mX4_as mX3_grownIn yX3_grownIn 131 3 RX3 := ⟨gX4_as_X3_grownIn, ⟨_, rfl⟩, ⟨rfl, rfl⟩, dd_X3_grownIn, ⟨Nat.le_of_ble_eq_true rfl, Nat.le_of_ble_eq_true rfl⟩⟩
def mX4_borrow : MB := (cX4_borrow, 3, RX4, (some .int), wsX4_borrow, { frames := 3, cells := 0, slots := 0, locals := 69 })
theorem i_X4_borrow_X1 : ∀ x ∈ u_ws RX1 TX1 10, x ∈ wsX4_borrow := by decide +kernel
theorem i_X4_borrow_X4 : ∀ x ∈ u_ws RX4 TX4 7, x ∈ wsX4_borrow := by decide +kernel
theorem f_X4_borrow_19 : Cond.fieldLink RX4 19 (TX4 1).1 (TX4 1).2.1 (TX4 1).2.2.1 ∈ wsX4_borrow := List.mem_of_getElem? (i := 1) rfl
theorem f_X4_borrow_26 : Cond.fieldLink RX4 26 (TX4 2).1 (TX4 2).2.1 (TX4 2).2.2.1 ∈ wsX4_borrow := List.mem_of_getElem? (i := 2) rfl
theorem f_X4_borrow_83 : Cond.fieldLink RX4 83 (TX1 1).1 (TX1 1).2.1 (TX1 1).2.2.1 ∈ wsX4_borrow := List.mem_of_getElem? (i := 3) rfl
theorem f_X4_borrow_106 : Cond.fieldLink RX4 106 (TX1 3).1 (TX1 3).2.1 (TX1 3).2.2.1 ∈ wsX4_borrow := List.mem_of_getElem? (i := 4) rfl
theorem o_X4_borrow_75 : OkV mX4_borrow mX3_has yX3_has 75 1 RX3 := ⟨gX4_borrow_X3_has, ⟨_, rfl⟩, ⟨rfl, rfl⟩, dd_X3_has, ⟨Nat.le_of_ble_eq_true rfl, Nat.le_of_ble_eq_true rfl⟩⟩
theorem o_X4_borrow_135 : OkV mX4_borrow mX1_lends yX1_lends 135 2 RX1 := ⟨gX4_borrow_X1_lends, ⟨_, rfl⟩, ⟨rfl, rfl⟩, dd_X1_lends, ⟨Nat.le_of_ble_eq_true rfl, Nat.le_of_ble_eq_true rfl⟩⟩
theorem o_X4_borrow_138 : OkV mX4_borrow mX1_lend yX1_lend 138 3 RX1 := ⟨gX4_borrow_X1_lend, ⟨_, rfl⟩, ⟨rfl, rfl⟩, dd_X1_lend, ⟨Nat.le_of_ble_eq_true rfl, Nat.le_of_ble_eq_true rfl⟩⟩
def mX4_days : MB := (cX4_days, 2, RX4, (some .int), wsX4_days, { frames := 4, cells := 0, slots := 0, locals := 97 })
theorem i_X4_days_X1 : ∀ x ∈ u_ws RX1 TX1 10, x ∈ wsX4_days := by decide +kernel
theorem i_X4_days_X3 : ∀ x ∈ u_ws RX3 TX3 10, x ∈ wsX4_days := by decide +kernel
theorem i_X4_days_X4 : ∀ x ∈ u_ws RX4 TX4 7, x ∈ wsX4_days := by decide +kernel
theorem f_X4_days_26 : Cond.fieldLink RX4 26 (TX4 2).1 (TX4 2).2.1 (TX4 2).2.2.1 ∈ wsX4_days := List.mem_of_getElem? (i := 1) rfl
theorem f_X4_days_142 : Cond.fieldLink RX4 142 (TX1 0).1 (TX1 0).2.1 (TX1 0).2.2.1 ∈ wsX4_days := List.mem_of_getElem? (i := 2) rfl
theorem f_X4_days_19 : Cond.fieldLink RX4 19 (TX4 1).1 (TX4 1).2.1 (TX4 1).2.2.1 ∈ wsX4_days := List.mem_of_getElem? (i := 3) rfl
theorem f_X4_days_145 : Cond.fieldLink RX4 145 (TX3 9).1 (TX3 9).2.1 (TX3 9).2.2.1 ∈ wsX4_days := List.mem_of_getElem? (i := 4) rfl
theorem o_X4_days_148 : OkV mX4_days mX1_passDays yX1_passDays 148 3 RX1 := ⟨gX4_days_X1_passDays, ⟨_, rfl⟩, ⟨rfl, rfl⟩, dd_X1_passDays, ⟨Nat.le_of_ble_eq_true rfl, Nat.le_of_ble_eq_true rfl⟩⟩
def mX4_fire : MB := (cX4_fire, 2, RX4, (some .int), wsX4_fire, { frames := 3, cells := 0, slots := 0, locals := 68 })
theorem i_X4_fire_X4 : ∀ x ∈ u_ws RX4 TX4 7, x ∈ wsX4_fire := by decide +kernel
theorem f_X4_fire_26 : Cond.fieldLink RX4 26 (TX4 2).1 (TX4 2).2.1 (TX4 2).2.2.1 ∈ wsX4_fire := List.mem_of_getElem? (i := 1) rfl
theorem f_X4_fire_19 : Cond.fieldLink RX4 19 (TX4 1).1 (TX4 1).2.1 (TX4 1).2.2.1 ∈ wsX4_fire := List.mem_of_getElem? (i := 2) rfl
theorem o_X4_fire_152 : OkV mX4_fire mX1_burn yX1_burn 152 2 RX1 := ⟨gX4_fire_X1_burn, ⟨_, rfl⟩, ⟨rfl, rfl⟩, dd_X1_burn, ⟨Nat.le_of_ble_eq_true rfl, Nat.le_of_ble_eq_true rfl⟩⟩
def mX4_sell : MB := (cX4_sell, 3, RX4, (some .int), wsX4_sell, { frames := 3, cells := 0, slots := 0, locals := 72 })
theorem i_X4_sell_X1 : ∀ x ∈ u_ws RX1 TX1 10, x ∈ wsX4_sell := by decide +kernel
theorem i_X4_sell_X4 : ∀ x ∈ u_ws RX4 TX4 7, x ∈ wsX4_sell := by decide +kernel
theorem f_X4_sell_19 : Cond.fieldLink RX4 19 (TX4 1).1 (TX4 1).2.1 (TX4 1).2.2.1 ∈ wsX4_sell := List.mem_of_getElem? (i := 1) rfl
theorem f_X4_sell_26 : Cond.fieldLink RX4 26 (TX4 2).1 (TX4 2).2.1 (TX4 2).2.2.1 ∈ wsX4_sell := List.mem_of_getElem? (i := 2) rfl
theorem f_X4_sell_99 : Cond.fieldLink RX4 99 (TX1 2).1 (TX1 2).2.1 (TX1 2).2.2.1 ∈ wsX4_sell := List.mem_of_getElem? (i := 3) rfl
theorem o_X4_sell_75 : OkV mX4_sell mX3_has yX3_has 75 1 RX3 := ⟨gX4_sell_X3_has, ⟨_, rfl⟩, ⟨rfl, rfl⟩, dd_X3_has, ⟨Nat.le_of_ble_eq_true rfl, Nat.le_of_ble_eq_true rfl⟩⟩
theorem o_X4_sell_156 : OkV mX4_sell mX1_handOver yX1_handOver 156 2 RX1 := ⟨gX4_sell_X1_handOver, ⟨_, rfl⟩, ⟨rfl, rfl⟩, dd_X1_handOver, ⟨Nat.le_of_ble_eq_true rfl, Nat.le_of_ble_eq_true rfl⟩⟩
def mX4_keep : MB := (cX4_keep, 2, RX4, (some .int), wsX4_keep, { frames := 2, cells := 0, slots := 0, locals := 47 })
theorem i_X4_keep_X1 : ∀ x ∈ u_ws RX1 TX1 10, x ∈ wsX4_keep := by decide +kernel
theorem i_X4_keep_X4 : ∀ x ∈ u_ws RX4 TX4 7, x ∈ wsX4_keep := by decide +kernel
theorem f_X4_keep_33 : Cond.fieldLink RX4 33 (TX4 4).1 (TX4 4).2.1 (TX4 4).2.2.1 ∈ wsX4_keep := List.mem_of_getElem? (i := 1) rfl
theorem f_X4_keep_26 : Cond.fieldLink RX4 26 (TX4 2).1 (TX4 2).2.1 (TX4 2).2.2.1 ∈ wsX4_keep := List.mem_of_getElem? (i := 2) rfl
theorem f_X4_keep_37 : Cond.fieldLink RX4 37 (TX4 5).1 (TX4 5).2.1 (TX4 5).2.2.1 ∈ wsX4_keep := List.mem_of_getElem? (i := 3) rfl
theorem f_X4_keep_142 : Cond.fieldLink RX4 142 (TX1 0).1 (TX1 0).2.1 (TX1 0).2.2.1 ∈ wsX4_keep := List.mem_of_getElem? (i := 4) rfl
theorem o_X4_keep_160 : OkV mX4_keep mX1_copyFrom yX1_copyFrom 160 1 RX1 := ⟨gX4_keep_X1_copyFrom, ⟨_, rfl⟩, ⟨rfl, rfl⟩, dd_X1_copyFrom, ⟨Nat.le_of_ble_eq_true rfl, Nat.le_of_ble_eq_true rfl⟩⟩
def mX4_back : MB := (cX4_back, 2, RX4, (some .int), wsX4_back, { frames := 2, cells := 0, slots := 0, locals := 47 })
theorem i_X4_back_X1 : ∀ x ∈ u_ws RX1 TX1 10, x ∈ wsX4_back := by decide +kernel
theorem i_X4_back_X4 : ∀ x ∈ u_ws RX4 TX4 7, x ∈ wsX4_back := by decide +kernel
theorem f_X4_back_33 : Cond.fieldLink RX4 33 (TX4 4).1 (TX4 4).2.1 (TX4 4).2.2.1 ∈ wsX4_back := List.mem_of_getElem? (i := 1) rfl
theorem f_X4_back_37 : Cond.fieldLink RX4 37 (TX4 5).1 (TX4 5).2.1 (TX4 5).2.2.1 ∈ wsX4_back := List.mem_of_getElem? (i := 2) rfl
theorem f_X4_back_26 : Cond.fieldLink RX4 26 (TX4 2).1 (TX4 2).2.1 (TX4 2).2.2.1 ∈ wsX4_back := List.mem_of_getElem? (i := 3) rfl
theorem f_X4_back_142 : Cond.fieldLink RX4 142 (TX1 0).1 (TX1 0).2.1 (TX1 0).2.2.1 ∈ wsX4_back := List.mem_of_getElem? (i := 4) rfl
theorem o_X4_back_160 : OkV mX4_back mX1_copyFrom yX1_copyFrom 160 1 RX1 := ⟨gX4_back_X1_copyFrom, ⟨_, rfl⟩, ⟨rfl, rfl⟩, dd_X1_copyFrom, ⟨Nat.le_of_ble_eq_true rfl, Nat.le_of_ble_eq_true rfl⟩⟩
def mX4_foretell : MB := (cX4_foretell, 2, RX4, none, wsX4_foretell, { frames := 4, cells := 0, slots := 0, locals := 97 })
theorem i_X4_foretell_X3 : ∀ x ∈ u_ws RX3 TX3 10, x ∈ wsX4_foretell := by decide +kernel
theorem i_X4_foretell_X4 : ∀ x ∈ u_ws RX4 TX4 7, x ∈ wsX4_foretell := by decide +kernel
theorem f_X4_foretell_30 : Cond.fieldLink RX4 30 (TX4 3).1 (TX4 3).2.1 (TX4 3).2.2.1 ∈ wsX4_foretell := List.mem_of_getElem? (i := 1) rfl
theorem f_X4_foretell_26 : Cond.fieldLink RX4 26 (TX4 2).1 (TX4 2).2.1 (TX4 2).2.2.1 ∈ wsX4_foretell := List.mem_of_getElem? (i := 2) rfl
theorem f_X4_foretell_19 : Cond.fieldLink RX4 19 (TX4 1).1 (TX4 1).2.1 (TX4 1).2.2.1 ∈ wsX4_foretell := List.mem_of_getElem? (i := 3) rfl
theorem f_X4_foretell_145 : Cond.fieldLink RX4 145 (TX3 9).1 (TX3 9).2.1 (TX3 9).2.2.1 ∈ wsX4_foretell := List.mem_of_getElem? (i := 4) rfl
theorem o_X4_foretell_160 : OkV mX4_foretell mX1_copyFrom yX1_copyFrom 160 1 RX1 := ⟨gX4_foretell_X1_copyFrom, ⟨_, rfl⟩, ⟨rfl, rfl⟩, dd_X1_copyFrom, ⟨Nat.le_of_ble_eq_true rfl, Nat.le_of_ble_eq_true rfl⟩⟩
theorem o_X4_foretell_148 : OkV mX4_foretell mX1_passDays yX1_passDays 148 3 RX1 := ⟨gX4_foretell_X1_passDays, ⟨_, rfl⟩, ⟨rfl, rfl⟩, dd_X1_passDays, ⟨Nat.le_of_ble_eq_true rfl, Nat.le_of_ble_eq_true rfl⟩⟩
def mX4_later : MB := (cX4_later, 3, RX4, (some .int), wsX4_later, { frames := 5, cells := 0, slots := 0, locals := 118 })
theorem i_X4_later_X4 : ∀ x ∈ u_ws RX4 TX4 7, x ∈ wsX4_later := by decide +kernel
theorem f_X4_later_19 : Cond.fieldLink RX4 19 (TX4 1).1 (TX4 1).2.1 (TX4 1).2.2.1 ∈ wsX4_later := List.mem_of_getElem? (i := 1) rfl
theorem f_X4_later_30 : Cond.fieldLink RX4 30 (TX4 3).1 (TX4 3).2.1 (TX4 3).2.2.1 ∈ wsX4_later := List.mem_of_getElem? (i := 2) rfl
theorem o_X4_later_75 : OkV mX4_later mX3_has yX3_has 75 1 RX3 := ⟨gX4_later_X3_has, ⟨_, rfl⟩, ⟨rfl, rfl⟩, dd_X3_has, ⟨Nat.le_of_ble_eq_true rfl, Nat.le_of_ble_eq_true rfl⟩⟩
theorem o_X4_later_163 : OkV mX4_later mX4_foretell yX4_foretell 163 1 RX4 := ⟨gX4_later_X4_foretell, ⟨_, rfl⟩, ⟨rfl, rfl⟩, dd_X4_foretell, ⟨Nat.le_of_ble_eq_true rfl, Nat.le_of_ble_eq_true rfl⟩⟩
theorem o_X4_later_95 : OkV mX4_later mX1_owedTo yX1_owedTo 95 1 RX1 := ⟨gX4_later_X1_owedTo, ⟨_, rfl⟩, ⟨rfl, rfl⟩, dd_X1_owedTo, ⟨Nat.le_of_ble_eq_true rfl, Nat.le_of_ble_eq_true rfl⟩⟩
def mX4_all : MB := (cX4_all, 3, RX4, (some .int), wsX4_all, { frames := 5, cells := 0, slots := 0, locals := 118 })
theorem i_X4_all_X1 : ∀ x ∈ u_ws RX1 TX1 10, x ∈ wsX4_all := by decide +kernel
theorem i_X4_all_X4 : ∀ x ∈ u_ws RX4 TX4 7, x ∈ wsX4_all := by decide +kernel
theorem f_X4_all_30 : Cond.fieldLink RX4 30 (TX4 3).1 (TX4 3).2.1 (TX4 3).2.2.1 ∈ wsX4_all := List.mem_of_getElem? (i := 1) rfl
theorem f_X4_all_170 : Cond.fieldLink RX4 170 (TX1 9).1 (TX1 9).2.1 (TX1 9).2.2.1 ∈ wsX4_all := List.mem_of_getElem? (i := 2) rfl
theorem o_X4_all_163 : OkV mX4_all mX4_foretell yX4_foretell 163 1 RX4 := ⟨gX4_all_X4_foretell, ⟨_, rfl⟩, ⟨rfl, rfl⟩, dd_X4_foretell, ⟨Nat.le_of_ble_eq_true rfl, Nat.le_of_ble_eq_true rfl⟩⟩
theorem o_X4_all_166 : OkV mX4_all mX1_owedInAll yX1_owedInAll 166 0 RX1 := ⟨gX4_all_X1_owedInAll, ⟨_, rfl⟩, ⟨rfl, rfl⟩, dd_X1_owedInAll, ⟨Nat.le_of_ble_eq_true rfl, Nat.le_of_ble_eq_true rfl⟩⟩
def mX4_clear : MB := (cX4_clear, 2, RX4, (some .int), wsX4_clear, { frames := 5, cells := 0, slots := 0, locals := 118 })
theorem i_X4_clear_X1 : ∀ x ∈ u_ws RX1 TX1 10, x ∈ wsX4_clear := by decide +kernel
theorem i_X4_clear_X3 : ∀ x ∈ u_ws RX3 TX3 10, x ∈ wsX4_clear := by decide +kernel
theorem i_X4_clear_X4 : ∀ x ∈ u_ws RX4 TX4 7, x ∈ wsX4_clear := by decide +kernel
theorem f_X4_clear_30 : Cond.fieldLink RX4 30 (TX4 3).1 (TX4 3).2.1 (TX4 3).2.2.1 ∈ wsX4_clear := List.mem_of_getElem? (i := 1) rfl
theorem f_X4_clear_106 : Cond.fieldLink RX4 106 (TX1 3).1 (TX1 3).2.1 (TX1 3).2.2.1 ∈ wsX4_clear := List.mem_of_getElem? (i := 2) rfl
theorem f_X4_clear_19 : Cond.fieldLink RX4 19 (TX4 1).1 (TX4 1).2.1 (TX4 1).2.2.1 ∈ wsX4_clear := List.mem_of_getElem? (i := 3) rfl
theorem f_X4_clear_145 : Cond.fieldLink RX4 145 (TX3 9).1 (TX3 9).2.1 (TX3 9).2.2.1 ∈ wsX4_clear := List.mem_of_getElem? (i := 4) rfl
theorem o_X4_clear_163 : OkV mX4_clear mX4_foretell yX4_foretell 163 1 RX4 := ⟨gX4_clear_X4_foretell, ⟨_, rfl⟩, ⟨rfl, rfl⟩, dd_X4_foretell, ⟨Nat.le_of_ble_eq_true rfl, Nat.le_of_ble_eq_true rfl⟩⟩
theorem o_X4_clear_148 : OkV mX4_clear mX1_passDays yX1_passDays 148 3 RX1 := ⟨gX4_clear_X1_passDays, ⟨_, rfl⟩, ⟨rfl, rfl⟩, dd_X1_passDays, ⟨Nat.le_of_ble_eq_true rfl, Nat.le_of_ble_eq_true rfl⟩⟩
def mX4_hut : MB := (cX4_hut, 4, RX4, (some .int), wsX4_hut, { frames := 4, cells := 0, slots := 0, locals := 103 })
theorem i_X4_hut_X0 : ∀ x ∈ u_ws RX0 TX0 5, x ∈ wsX4_hut := by decide +kernel
theorem i_X4_hut_X4 : ∀ x ∈ u_ws RX4 TX4 7, x ∈ wsX4_hut := by decide +kernel
theorem f_X4_hut_19 : Cond.fieldLink RX4 19 (TX4 1).1 (TX4 1).2.1 (TX4 1).2.2.1 ∈ wsX4_hut := List.mem_of_getElem? (i := 1) rfl
theorem f_X4_hut_44 : Cond.fieldLink RX4 44 (TX4 6).1 (TX4 6).2.1 (TX4 6).2.2.1 ∈ wsX4_hut := List.mem_of_getElem? (i := 2) rfl
theorem f_X4_hut_26 : Cond.fieldLink RX4 26 (TX4 2).1 (TX4 2).2.1 (TX4 2).2.2.1 ∈ wsX4_hut := List.mem_of_getElem? (i := 3) rfl
theorem f_X4_hut_180 : Cond.fieldLink RX4 180 (TX0 3).1 (TX0 3).2.1 (TX0 3).2.2.1 ∈ wsX4_hut := List.mem_of_getElem? (i := 4) rfl
theorem o_X4_hut_75 : OkV mX4_hut mX3_has yX3_has 75 1 RX3 := ⟨gX4_hut_X3_has, ⟨_, rfl⟩, ⟨rfl, rfl⟩, dd_X3_has, ⟨Nat.le_of_ble_eq_true rfl, Nat.le_of_ble_eq_true rfl⟩⟩
theorem o_X4_hut_173 : OkV mX4_hut mX0_find yX0_find 173 4 RX0 := ⟨gX4_hut_X0_find, ⟨_, rfl⟩, ⟨rfl, rfl⟩, dd_X0_find, ⟨Nat.le_of_ble_eq_true rfl, Nat.le_of_ble_eq_true rfl⟩⟩
theorem o_X4_hut_177 : OkV mX4_hut mX0_owedTogether yX0_owedTogether 177 0 RX0 := ⟨gX4_hut_X0_owedTogether, ⟨_, rfl⟩, ⟨rfl, rfl⟩, dd_X0_owedTogether, ⟨Nat.le_of_ble_eq_true rfl, Nat.le_of_ble_eq_true rfl⟩⟩
def mX4_anyFails : MB := (cX4_anyFails, 4, RX4, (some .boolean), wsX4_anyFails, { frames := 4, cells := 0, slots := 0, locals := 97 })
theorem i_X4_anyFails_X1 : ∀ x ∈ u_ws RX1 TX1 10, x ∈ wsX4_anyFails := by decide +kernel
theorem i_X4_anyFails_X4 : ∀ x ∈ u_ws RX4 TX4 7, x ∈ wsX4_anyFails := by decide +kernel
theorem f_X4_anyFails_30 : Cond.fieldLink RX4 30 (TX4 3).1 (TX4 3).2.1 (TX4 3).2.2.1 ∈ wsX4_anyFails := List.mem_of_getElem? (i := 1) rfl
theorem f_X4_anyFails_26 : Cond.fieldLink RX4 26 (TX4 2).1 (TX4 2).2.1 (TX4 2).2.2.1 ∈ wsX4_anyFails := List.mem_of_getElem? (i := 2) rfl
theorem f_X4_anyFails_19 : Cond.fieldLink RX4 19 (TX4 1).1 (TX4 1).2.1 (TX4 1).2.2.1 ∈ wsX4_anyFails := List.mem_of_getElem? (i := 3) rfl
theorem f_X4_anyFails_170 : Cond.fieldLink RX4 170 (TX1 9).1 (TX1 9).2.1 (TX1 9).2.2.1 ∈ wsX4_anyFails := List.mem_of_getElem? (i := 4) rfl
theorem o_X4_anyFails_160 : OkV mX4_anyFails mX1_copyFrom yX1_copyFrom 160 1 RX1 := ⟨gX4_anyFails_X1_copyFrom, ⟨_, rfl⟩, ⟨rfl, rfl⟩, dd_X1_copyFrom, ⟨Nat.le_of_ble_eq_true rfl, Nat.le_of_ble_eq_true rfl⟩⟩
theorem o_X4_anyFails_148 : OkV mX4_anyFails mX1_passDays yX1_passDays 148 3 RX1 := ⟨gX4_anyFails_X1_passDays, ⟨_, rfl⟩, ⟨rfl, rfl⟩, dd_X1_passDays, ⟨Nat.le_of_ble_eq_true rfl, Nat.le_of_ble_eq_true rfl⟩⟩
def mX4_enough : MB := (cX4_enough, 6, RX4, (some .int), wsX4_enough, { frames := 5, cells := 0, slots := 0, locals := 120 })
theorem o_X4_enough_183 : OkV mX4_enough mX4_anyFails yX4_anyFails 183 2 RX4 := ⟨gX4_enough_X4_anyFails, ⟨_, rfl⟩, ⟨rfl, rfl⟩, dd_X4_anyFails, ⟨Nat.le_of_ble_eq_true rfl, Nat.le_of_ble_eq_true rfl⟩⟩
def mX4_commonWithTen : MB := (cX4_commonWithTen, 1, RX4, (some .int), wsX4_commonWithTen, { frames := 0, cells := 0, slots := 0, locals := 0 })
def mX4_rid : MB := (cX4_rid, 7, RX4, (some .int), wsX4_rid, { frames := 2, cells := 0, slots := 0, locals := 43 })
theorem i_X4_rid_X4 : ∀ x ∈ u_ws RX4 TX4 7, x ∈ wsX4_rid := by decide +kernel
theorem f_X4_rid_26 : Cond.fieldLink RX4 26 (TX4 2).1 (TX4 2).2.1 (TX4 2).2.2.1 ∈ wsX4_rid := List.mem_of_getElem? (i := 1) rfl
theorem f_X4_rid_19 : Cond.fieldLink RX4 19 (TX4 1).1 (TX4 1).2.1 (TX4 1).2.2.1 ∈ wsX4_rid := List.mem_of_getElem? (i := 2) rfl
theorem o_X4_rid_186 : OkS mX4_rid mX4_commonWithTen yX4_commonWithTen 186 1 := ⟨gX4_rid_X4_commonWithTen, ⟨_, rfl⟩, ⟨rfl, rfl⟩, dd_X4_commonWithTen.2, ⟨Nat.le_of_ble_eq_true rfl, Nat.le_of_ble_eq_true rfl⟩⟩
theorem o_X4_rid_189 : OkV mX4_rid mX1_partsWithLoans yX1_partsWithLoans 189 1 RX1 := ⟨gX4_rid_X1_partsWithLoans, ⟨_, rfl⟩, ⟨rfl, rfl⟩, dd_X1_partsWithLoans, ⟨Nat.le_of_ble_eq_true rfl, Nat.le_of_ble_eq_true rfl⟩⟩
def mX4_grandson : MB := (cX4_grandson, 4, RX4, (some .int), wsX4_grandson, { frames := 5, cells := 0, slots := 0, locals := 118 })
theorem i_X4_grandson_X1 : ∀ x ∈ u_ws RX1 TX1 10, x ∈ wsX4_grandson := by decide +kernel
theorem i_X4_grandson_X3 : ∀ x ∈ u_ws RX3 TX3 10, x ∈ wsX4_grandson := by decide +kernel
theorem i_X4_grandson_X4 : ∀ x ∈ u_ws RX4 TX4 7, x ∈ wsX4_grandson := by decide +kernel
theorem f_X4_grandson_19 : Cond.fieldLink RX4 19 (TX4 1).1 (TX4 1).2.1 (TX4 1).2.2.1 ∈ wsX4_grandson := List.mem_of_getElem? (i := 1) rfl
theorem f_X4_grandson_192 : Cond.fieldLink RX4 192 (TX3 0).1 (TX3 0).2.1 (TX3 0).2.2.1 ∈ wsX4_grandson := List.mem_of_getElem? (i := 2) rfl
theorem f_X4_grandson_30 : Cond.fieldLink RX4 30 (TX4 3).1 (TX4 3).2.1 (TX4 3).2.2.1 ∈ wsX4_grandson := List.mem_of_getElem? (i := 3) rfl
theorem f_X4_grandson_99 : Cond.fieldLink RX4 99 (TX1 2).1 (TX1 2).2.1 (TX1 2).2.2.1 ∈ wsX4_grandson := List.mem_of_getElem? (i := 4) rfl
theorem f_X4_grandson_83 : Cond.fieldLink RX4 83 (TX1 1).1 (TX1 1).2.1 (TX1 1).2.2.1 ∈ wsX4_grandson := List.mem_of_getElem? (i := 5) rfl
theorem o_X4_grandson_163 : OkV mX4_grandson mX4_foretell yX4_foretell 163 1 RX4 := ⟨gX4_grandson_X4_foretell, ⟨_, rfl⟩, ⟨rfl, rfl⟩, dd_X4_foretell, ⟨Nat.le_of_ble_eq_true rfl, Nat.le_of_ble_eq_true rfl⟩⟩
def mX4_toWhom : MB := (cX4_toWhom, 6, RX4, (some .int), wsX4_toWhom, { frames := 3, cells := 0, slots := 0, locals := 76 })
theorem i_X4_toWhom_X1 : ∀ x ∈ u_ws RX1 TX1 10, x ∈ wsX4_toWhom := by decide +kernel
theorem i_X4_toWhom_X3 : ∀ x ∈ u_ws RX3 TX3 10, x ∈ wsX4_toWhom := by decide +kernel
theorem i_X4_toWhom_X4 : ∀ x ∈ u_ws RX4 TX4 7, x ∈ wsX4_toWhom := by decide +kernel
theorem f_X4_toWhom_19 : Cond.fieldLink RX4 19 (TX4 1).1 (TX4 1).2.1 (TX4 1).2.2.1 ∈ wsX4_toWhom := List.mem_of_getElem? (i := 2) rfl
theorem f_X4_toWhom_192 : Cond.fieldLink RX4 192 (TX3 0).1 (TX3 0).2.1 (TX3 0).2.2.1 ∈ wsX4_toWhom := List.mem_of_getElem? (i := 3) rfl
theorem f_X4_toWhom_26 : Cond.fieldLink RX4 26 (TX4 2).1 (TX4 2).2.1 (TX4 2).2.2.1 ∈ wsX4_toWhom := List.mem_of_getElem? (i := 4) rfl
theorem f_X4_toWhom_99 : Cond.fieldLink RX4 99 (TX1 2).1 (TX1 2).2.1 (TX1 2).2.2.1 ∈ wsX4_toWhom := List.mem_of_getElem? (i := 5) rfl
theorem o_X4_toWhom_131 : OkV mX4_toWhom mX3_grownIn yX3_grownIn 131 3 RX3 := ⟨gX4_toWhom_X3_grownIn, ⟨_, rfl⟩, ⟨rfl, rfl⟩, dd_X3_grownIn, ⟨Nat.le_of_ble_eq_true rfl, Nat.le_of_ble_eq_true rfl⟩⟩
def mX4_count : MB := (cX4_count, 2, RX4, (some .int), wsX4_count, { frames := 1, cells := 0, slots := 0, locals := 22 })
theorem i_X4_count_X1 : ∀ x ∈ u_ws RX1 TX1 10, x ∈ wsX4_count := by decide +kernel
theorem i_X4_count_X2 : ∀ x ∈ u_ws RX2 TX2 8, x ∈ wsX4_count := by decide +kernel
theorem i_X4_count_X3 : ∀ x ∈ u_ws RX3 TX3 10, x ∈ wsX4_count := by decide +kernel
theorem i_X4_count_X4 : ∀ x ∈ u_ws RX4 TX4 7, x ∈ wsX4_count := by decide +kernel
theorem f_X4_count_19 : Cond.fieldLink RX4 19 (TX4 1).1 (TX4 1).2.1 (TX4 1).2.2.1 ∈ wsX4_count := List.mem_of_getElem? (i := 1) rfl
theorem f_X4_count_192 : Cond.fieldLink RX4 192 (TX3 0).1 (TX3 0).2.1 (TX3 0).2.2.1 ∈ wsX4_count := List.mem_of_getElem? (i := 2) rfl
theorem f_X4_count_196 : Cond.fieldLink RX4 196 (TX3 6).1 (TX3 6).2.1 (TX3 6).2.2.1 ∈ wsX4_count := List.mem_of_getElem? (i := 3) rfl
theorem f_X4_count_145 : Cond.fieldLink RX4 145 (TX3 9).1 (TX3 9).2.1 (TX3 9).2.2.1 ∈ wsX4_count := List.mem_of_getElem? (i := 4) rfl
theorem f_X4_count_26 : Cond.fieldLink RX4 26 (TX4 2).1 (TX4 2).2.1 (TX4 2).2.2.1 ∈ wsX4_count := List.mem_of_getElem? (i := 5) rfl
theorem f_X4_count_106 : Cond.fieldLink RX4 106 (TX1 3).1 (TX1 3).2.1 (TX1 3).2.2.1 ∈ wsX4_count := List.mem_of_getElem? (i := 6) rfl
theorem f_X4_count_142 : Cond.fieldLink RX4 142 (TX1 0).1 (TX1 0).2.1 (TX1 0).2.2.1 ∈ wsX4_count := List.mem_of_getElem? (i := 7) rfl
theorem f_X4_count_170 : Cond.fieldLink RX4 170 (TX1 9).1 (TX1 9).2.1 (TX1 9).2.2.1 ∈ wsX4_count := List.mem_of_getElem? (i := 8) rfl
theorem f_X4_count_10 : Cond.fieldLink RX4 10 (TX4 0).1 (TX4 0).2.1 (TX4 0).2.2.1 ∈ wsX4_count := List.mem_of_getElem? (i := 9) rfl
theorem f_X4_count_48 : Cond.fieldLink RX4 48 (TX2 1).1 (TX2 1).2.1 (TX2 1).2.2.1 ∈ wsX4_count := List.mem_of_getElem? (i := 10) rfl
theorem o_X4_count_166 : OkV mX4_count mX1_owedInAll yX1_owedInAll 166 0 RX1 := ⟨gX4_count_X1_owedInAll, ⟨_, rfl⟩, ⟨rfl, rfl⟩, dd_X1_owedInAll, ⟨Nat.le_of_ble_eq_true rfl, Nat.le_of_ble_eq_true rfl⟩⟩
def mX5_in : MB := (cX5_in, 6, RX5, (some .boolean), wsX5_in, { frames := 0, cells := 0, slots := 0, locals := 0 })
def mX5_copy : MB := (cX5_copy, 4, RX5, none, wsX5_copy, { frames := 0, cells := 0, slots := 0, locals := 0 })
theorem i_X5_copy_X5 : ∀ x ∈ u_ws RX5 TX5 21, x ∈ wsX5_copy := by decide +kernel
theorem f_X5_copy_7 : Cond.fieldLink RX5 7 (TX5 0).1 (TX5 0).2.1 (TX5 0).2.2.1 ∈ wsX5_copy := List.mem_of_getElem? (i := 1) rfl
def mX5_write : MB := (cX5_write, 5, RX5, (some .int), wsX5_write, { frames := 1, cells := 0, slots := 0, locals := 25 })
theorem i_X5_write_X5 : ∀ x ∈ u_ws RX5 TX5 21, x ∈ wsX5_write := by decide +kernel
theorem f_X5_write_54 : Cond.fieldLink RX5 54 (TX5 3).1 (TX5 3).2.1 (TX5 3).2.2.1 ∈ wsX5_write := List.mem_of_getElem? (i := 2) rfl
theorem f_X5_write_17 : Cond.fieldLink RX5 17 (TX5 2).1 (TX5 2).2.1 (TX5 2).2.2.1 ∈ wsX5_write := List.mem_of_getElem? (i := 3) rfl
theorem o_X5_write_50 : OkS mX5_write mX5_in yX5_in 50 3 := ⟨gX5_write_X5_in, ⟨_, rfl⟩, ⟨rfl, rfl⟩, dd_X5_in.2, ⟨Nat.le_of_ble_eq_true rfl, Nat.le_of_ble_eq_true rfl⟩⟩
def mX5_erase : MB := (cX5_erase, 2, RX5, (some .int), wsX5_erase, { frames := 0, cells := 0, slots := 0, locals := 0 })
theorem i_X5_erase_X5 : ∀ x ∈ u_ws RX5 TX5 21, x ∈ wsX5_erase := by decide +kernel
theorem f_X5_erase_54 : Cond.fieldLink RX5 54 (TX5 3).1 (TX5 3).2.1 (TX5 3).2.2.1 ∈ wsX5_erase := List.mem_of_getElem? (i := 1) rfl
def mX5_sort : MB := (cX5_sort, 1, RX5, (some .int), wsX5_sort, { frames := 0, cells := 0, slots := 0, locals := 0 })
def mX5_token : MB := (cX5_token, 1, RX5, none, wsX5_token, { frames := 1, cells := 0, slots := 0, locals := 20 })
theorem i_X5_token_X5 : ∀ x ∈ u_ws RX5 TX5 21, x ∈ wsX5_token := by decide +kernel
theorem f_X5_token_59 : Cond.fieldLink RX5 59 (TX5 14).1 (TX5 14).2.1 (TX5 14).2.2.1 ∈ wsX5_token := List.mem_of_getElem? (i := 1) rfl
theorem f_X5_token_54 : Cond.fieldLink RX5 54 (TX5 3).1 (TX5 3).2.1 (TX5 3).2.2.1 ∈ wsX5_token := List.mem_of_getElem? (i := 2) rfl
theorem f_X5_token_17 : Cond.fieldLink RX5 17 (TX5 2).1 (TX5 2).2.1 (TX5 2).2.2.1 ∈ wsX5_token := List.mem_of_getElem? (i := 3) rfl
theorem f_X5_token_62 : Cond.fieldLink RX5 62 (TX5 15).1 (TX5 15).2.1 (TX5 15).2.2.1 ∈ wsX5_token := List.mem_of_getElem? (i := 4) rfl
theorem f_X5_token_69 : Cond.fieldLink RX5 69 (TX5 16).1 (TX5 16).2.1 (TX5 16).2.2.1 ∈ wsX5_token := List.mem_of_getElem? (i := 5) rfl
theorem o_X5_token_65 : OkS mX5_token mX5_sort yX5_sort 65 1 := ⟨gX5_token_X5_sort, ⟨_, rfl⟩, ⟨rfl, rfl⟩, dd_X5_sort.2, ⟨Nat.le_of_ble_eq_true rfl, Nat.le_of_ble_eq_true rfl⟩⟩
def mX5_isWord : MB := (cX5_isWord, 6, RX5, (some .boolean), wsX5_isWord, { frames := 0, cells := 0, slots := 0, locals := 0 })
theorem i_X5_isWord_X5 : ∀ x ∈ u_ws RX5 TX5 21, x ∈ wsX5_isWord := by decide +kernel
theorem f_X5_isWord_69 : Cond.fieldLink RX5 69 (TX5 16).1 (TX5 16).2.1 (TX5 16).2.2.1 ∈ wsX5_isWord := List.mem_of_getElem? (i := 1) rfl
theorem f_X5_isWord_62 : Cond.fieldLink RX5 62 (TX5 15).1 (TX5 15).2.1 (TX5 15).2.2.1 ∈ wsX5_isWord := List.mem_of_getElem? (i := 2) rfl
theorem f_X5_isWord_17 : Cond.fieldLink RX5 17 (TX5 2).1 (TX5 2).2.1 (TX5 2).2.2.1 ∈ wsX5_isWord := List.mem_of_getElem? (i := 3) rfl
def mX5_treeWord : MB := (cX5_treeWord, 1, RX5, (some .int), wsX5_treeWord, { frames := 1, cells := 0, slots := 0, locals := 25 })
theorem o_X5_treeWord_72 : OkV mX5_treeWord mX5_isWord yX5_isWord 72 3 RX5 := ⟨gX5_treeWord_X5_isWord, ⟨_, rfl⟩, ⟨rfl, rfl⟩, dd_X5_isWord, ⟨Nat.le_of_ble_eq_true rfl, Nat.le_of_ble_eq_true rfl⟩⟩
def mX5_wordOf : MB := (cX5_wordOf, 2, RX5, (some .int), wsX5_wordOf, { frames := 2, cells := 0, slots := 0, locals := 45 })
theorem o_X5_wordOf_79 : OkV mX5_wordOf mX5_treeWord yX5_treeWord 79 0 RX5 := ⟨gX5_wordOf_X5_treeWord, ⟨_, rfl⟩, ⟨rfl, rfl⟩, dd_X5_treeWord, ⟨Nat.le_of_ble_eq_true rfl, Nat.le_of_ble_eq_true rfl⟩⟩
theorem o_X5_wordOf_72 : OkV mX5_wordOf mX5_isWord yX5_isWord 72 3 RX5 := ⟨gX5_wordOf_X5_isWord, ⟨_, rfl⟩, ⟨rfl, rfl⟩, dd_X5_isWord, ⟨Nat.le_of_ble_eq_true rfl, Nat.le_of_ble_eq_true rfl⟩⟩
def mX5_reads : MB := (cX5_reads, 7, RX5, (some .boolean), wsX5_reads, { frames := 2, cells := 0, slots := 0, locals := 40 })
theorem i_X5_reads_X5 : ∀ x ∈ u_ws RX5 TX5 21, x ∈ wsX5_reads := by decide +kernel
theorem f_X5_reads_62 : Cond.fieldLink RX5 62 (TX5 15).1 (TX5 15).2.1 (TX5 15).2.2.1 ∈ wsX5_reads := List.mem_of_getElem? (i := 1) rfl
theorem f_X5_reads_54 : Cond.fieldLink RX5 54 (TX5 3).1 (TX5 3).2.1 (TX5 3).2.2.1 ∈ wsX5_reads := List.mem_of_getElem? (i := 2) rfl
theorem f_X5_reads_17 : Cond.fieldLink RX5 17 (TX5 2).1 (TX5 2).2.1 (TX5 2).2.2.1 ∈ wsX5_reads := List.mem_of_getElem? (i := 3) rfl
theorem f_X5_reads_69 : Cond.fieldLink RX5 69 (TX5 16).1 (TX5 16).2.1 (TX5 16).2.2.1 ∈ wsX5_reads := List.mem_of_getElem? (i := 4) rfl
theorem f_X5_reads_20 : Cond.fieldLink RX5 20 (TX5 4).1 (TX5 4).2.1 (TX5 4).2.2.1 ∈ wsX5_reads := List.mem_of_getElem? (i := 5) rfl
theorem f_X5_reads_87 : Cond.fieldLink RX5 87 (TX5 5).1 (TX5 5).2.1 (TX5 5).2.2.1 ∈ wsX5_reads := List.mem_of_getElem? (i := 6) rfl
theorem o_X5_reads_65 : OkS mX5_reads mX5_sort yX5_sort 65 1 := ⟨gX5_reads_X5_sort, ⟨_, rfl⟩, ⟨rfl, rfl⟩, dd_X5_sort.2, ⟨Nat.le_of_ble_eq_true rfl, Nat.le_of_ble_eq_true rfl⟩⟩
theorem o_X5_reads_50 : OkS mX5_reads mX5_in yX5_in 50 3 := ⟨gX5_reads_X5_in, ⟨_, rfl⟩, ⟨rfl, rfl⟩, dd_X5_in.2, ⟨Nat.le_of_ble_eq_true rfl, Nat.le_of_ble_eq_true rfl⟩⟩
theorem o_X5_reads_90 : OkV mX5_reads mX5_token yX5_token 90 0 RX5 := ⟨gX5_reads_X5_token, ⟨_, rfl⟩, ⟨rfl, rfl⟩, dd_X5_token, ⟨Nat.le_of_ble_eq_true rfl, Nat.le_of_ble_eq_true rfl⟩⟩
def mX5_readsRest : MB := (cX5_readsRest, 3, RX5, (some .boolean), wsX5_readsRest, { frames := 3, cells := 0, slots := 0, locals := 66 })
theorem i_X5_readsRest_X5 : ∀ x ∈ u_ws RX5 TX5 21, x ∈ wsX5_readsRest := by decide +kernel
theorem f_X5_readsRest_93 : Cond.fieldLink RX5 93 (TX5 17).1 (TX5 17).2.1 (TX5 17).2.2.1 ∈ wsX5_readsRest := List.mem_of_getElem? (i := 1) rfl
theorem f_X5_readsRest_20 : Cond.fieldLink RX5 20 (TX5 4).1 (TX5 4).2.1 (TX5 4).2.2.1 ∈ wsX5_readsRest := List.mem_of_getElem? (i := 2) rfl
theorem f_X5_readsRest_87 : Cond.fieldLink RX5 87 (TX5 5).1 (TX5 5).2.1 (TX5 5).2.2.1 ∈ wsX5_readsRest := List.mem_of_getElem? (i := 3) rfl
theorem o_X5_readsRest_96 : OkV mX5_readsRest mX5_reads yX5_reads 96 4 RX5 := ⟨gX5_readsRest_X5_reads, ⟨_, rfl⟩, ⟨rfl, rfl⟩, dd_X5_reads, ⟨Nat.le_of_ble_eq_true rfl, Nat.le_of_ble_eq_true rfl⟩⟩
def mX5_isTreeWord : MB := (cX5_isTreeWord, 1, RX5, (some .boolean), wsX5_isTreeWord, { frames := 1, cells := 0, slots := 0, locals := 25 })
theorem o_X5_isTreeWord_50 : OkS mX5_isTreeWord mX5_in yX5_in 50 3 := ⟨gX5_isTreeWord_X5_in, ⟨_, rfl⟩, ⟨rfl, rfl⟩, dd_X5_in.2, ⟨Nat.le_of_ble_eq_true rfl, Nat.le_of_ble_eq_true rfl⟩⟩
def mX5_readsLine : MB := (cX5_readsLine, 2, RX5, (some .boolean), wsX5_readsLine, { frames := 4, cells := 0, slots := 0, locals := 88 })
theorem i_X5_readsLine_X5 : ∀ x ∈ u_ws RX5 TX5 21, x ∈ wsX5_readsLine := by decide +kernel
theorem f_X5_readsLine_93 : Cond.fieldLink RX5 93 (TX5 17).1 (TX5 17).2.1 (TX5 17).2.2.1 ∈ wsX5_readsLine := List.mem_of_getElem? (i := 1) rfl
theorem f_X5_readsLine_109 : Cond.fieldLink RX5 109 (TX5 18).1 (TX5 18).2.1 (TX5 18).2.2.1 ∈ wsX5_readsLine := List.mem_of_getElem? (i := 2) rfl
theorem f_X5_readsLine_20 : Cond.fieldLink RX5 20 (TX5 4).1 (TX5 4).2.1 (TX5 4).2.2.1 ∈ wsX5_readsLine := List.mem_of_getElem? (i := 3) rfl
theorem f_X5_readsLine_87 : Cond.fieldLink RX5 87 (TX5 5).1 (TX5 5).2.1 (TX5 5).2.2.1 ∈ wsX5_readsLine := List.mem_of_getElem? (i := 4) rfl
theorem o_X5_readsLine_102 : OkV mX5_readsLine mX5_wordOf yX5_wordOf 102 0 RX5 := ⟨gX5_readsLine_X5_wordOf, ⟨_, rfl⟩, ⟨rfl, rfl⟩, dd_X5_wordOf, ⟨Nat.le_of_ble_eq_true rfl, Nat.le_of_ble_eq_true rfl⟩⟩
theorem o_X5_readsLine_105 : OkS mX5_readsLine mX5_isTreeWord yX5_isTreeWord 105 1 := ⟨gX5_readsLine_X5_isTreeWord, ⟨_, rfl⟩, ⟨rfl, rfl⟩, dd_X5_isTreeWord.2, ⟨Nat.le_of_ble_eq_true rfl, Nat.le_of_ble_eq_true rfl⟩⟩
theorem o_X5_readsLine_90 : OkV mX5_readsLine mX5_token yX5_token 90 0 RX5 := ⟨gX5_readsLine_X5_token, ⟨_, rfl⟩, ⟨rfl, rfl⟩, dd_X5_token, ⟨Nat.le_of_ble_eq_true rfl, Nat.le_of_ble_eq_true rfl⟩⟩
theorem o_X5_readsLine_112 : OkV mX5_readsLine mX5_readsRest yX5_readsRest 112 1 RX5 := ⟨gX5_readsLine_X5_readsRest, ⟨_, rfl⟩, ⟨rfl, rfl⟩, dd_X5_readsRest, ⟨Nat.le_of_ble_eq_true rfl, Nat.le_of_ble_eq_true rfl⟩⟩
def mX5_fault : MB := (cX5_fault, 2, RX5, (some .int), wsX5_fault, { frames := 5, cells := 0, slots := 0, locals := 109 })
theorem i_X5_fault_X5 : ∀ x ∈ u_ws RX5 TX5 21, x ∈ wsX5_fault := by decide +kernel
theorem f_X5_fault_59 : Cond.fieldLink RX5 59 (TX5 14).1 (TX5 14).2.1 (TX5 14).2.2.1 ∈ wsX5_fault := List.mem_of_getElem? (i := 1) rfl
theorem f_X5_fault_87 : Cond.fieldLink RX5 87 (TX5 5).1 (TX5 5).2.1 (TX5 5).2.2.1 ∈ wsX5_fault := List.mem_of_getElem? (i := 2) rfl
theorem f_X5_fault_115 : Cond.fieldLink RX5 115 (TX5 10).1 (TX5 10).2.1 (TX5 10).2.2.1 ∈ wsX5_fault := List.mem_of_getElem? (i := 3) rfl
theorem f_X5_fault_93 : Cond.fieldLink RX5 93 (TX5 17).1 (TX5 17).2.1 (TX5 17).2.2.1 ∈ wsX5_fault := List.mem_of_getElem? (i := 4) rfl
theorem f_X5_fault_118 : Cond.fieldLink RX5 118 (TX5 12).1 (TX5 12).2.1 (TX5 12).2.2.1 ∈ wsX5_fault := List.mem_of_getElem? (i := 5) rfl
theorem f_X5_fault_109 : Cond.fieldLink RX5 109 (TX5 18).1 (TX5 18).2.1 (TX5 18).2.2.1 ∈ wsX5_fault := List.mem_of_getElem? (i := 6) rfl
theorem f_X5_fault_62 : Cond.fieldLink RX5 62 (TX5 15).1 (TX5 15).2.1 (TX5 15).2.2.1 ∈ wsX5_fault := List.mem_of_getElem? (i := 7) rfl
theorem f_X5_fault_54 : Cond.fieldLink RX5 54 (TX5 3).1 (TX5 3).2.1 (TX5 3).2.2.1 ∈ wsX5_fault := List.mem_of_getElem? (i := 8) rfl
theorem f_X5_fault_69 : Cond.fieldLink RX5 69 (TX5 16).1 (TX5 16).2.1 (TX5 16).2.2.1 ∈ wsX5_fault := List.mem_of_getElem? (i := 9) rfl
theorem f_X5_fault_17 : Cond.fieldLink RX5 17 (TX5 2).1 (TX5 2).2.1 (TX5 2).2.2.1 ∈ wsX5_fault := List.mem_of_getElem? (i := 10) rfl
theorem o_X5_fault_90 : OkV mX5_fault mX5_token yX5_token 90 0 RX5 := ⟨gX5_fault_X5_token, ⟨_, rfl⟩, ⟨rfl, rfl⟩, dd_X5_token, ⟨Nat.le_of_ble_eq_true rfl, Nat.le_of_ble_eq_true rfl⟩⟩
theorem o_X5_fault_121 : OkV mX5_fault mX5_readsLine yX5_readsLine 121 0 RX5 := ⟨gX5_fault_X5_readsLine, ⟨_, rfl⟩, ⟨rfl, rfl⟩, dd_X5_readsLine, ⟨Nat.le_of_ble_eq_true rfl, Nat.le_of_ble_eq_true rfl⟩⟩
def mX5_tell : MB := (cX5_tell, 3, RX5, none, wsX5_tell, { frames := 0, cells := 0, slots := 0, locals := 0 })
theorem i_X5_tell_X5 : ∀ x ∈ u_ws RX5 TX5 21, x ∈ wsX5_tell := by decide +kernel
theorem f_X5_tell_20 : Cond.fieldLink RX5 20 (TX5 4).1 (TX5 4).2.1 (TX5 4).2.2.1 ∈ wsX5_tell := List.mem_of_getElem? (i := 1) rfl
theorem f_X5_tell_115 : Cond.fieldLink RX5 115 (TX5 10).1 (TX5 10).2.1 (TX5 10).2.2.1 ∈ wsX5_tell := List.mem_of_getElem? (i := 2) rfl
theorem f_X5_tell_118 : Cond.fieldLink RX5 118 (TX5 12).1 (TX5 12).2.1 (TX5 12).2.2.1 ∈ wsX5_tell := List.mem_of_getElem? (i := 3) rfl
theorem f_X5_tell_38 : Cond.fieldLink RX5 38 (TX5 13).1 (TX5 13).2.1 (TX5 13).2.2.1 ∈ wsX5_tell := List.mem_of_getElem? (i := 4) rfl
theorem f_X5_tell_32 : Cond.fieldLink RX5 32 (TX5 9).1 (TX5 9).2.1 (TX5 9).2.2.1 ∈ wsX5_tell := List.mem_of_getElem? (i := 5) rfl
theorem f_X5_tell_35 : Cond.fieldLink RX5 35 (TX5 11).1 (TX5 11).2.1 (TX5 11).2.2.1 ∈ wsX5_tell := List.mem_of_getElem? (i := 6) rfl
theorem f_X5_tell_23 : Cond.fieldLink RX5 23 (TX5 6).1 (TX5 6).2.1 (TX5 6).2.2.1 ∈ wsX5_tell := List.mem_of_getElem? (i := 7) rfl
theorem f_X5_tell_7 : Cond.fieldLink RX5 7 (TX5 0).1 (TX5 0).2.1 (TX5 0).2.2.1 ∈ wsX5_tell := List.mem_of_getElem? (i := 8) rfl
theorem f_X5_tell_26 : Cond.fieldLink RX5 26 (TX5 7).1 (TX5 7).2.1 (TX5 7).2.2.1 ∈ wsX5_tell := List.mem_of_getElem? (i := 9) rfl
theorem f_X5_tell_29 : Cond.fieldLink RX5 29 (TX5 8).1 (TX5 8).2.1 (TX5 8).2.2.1 ∈ wsX5_tell := List.mem_of_getElem? (i := 10) rfl
def mX5_wood : MB := (cX5_wood, 2, RX5, (some .int), wsX5_wood, { frames := 6, cells := 0, slots := 0, locals := 130 })
theorem i_X5_wood_X5 : ∀ x ∈ u_ws RX5 TX5 21, x ∈ wsX5_wood := by decide +kernel
theorem f_X5_wood_87 : Cond.fieldLink RX5 87 (TX5 5).1 (TX5 5).2.1 (TX5 5).2.2.1 ∈ wsX5_wood := List.mem_of_getElem? (i := 1) rfl
theorem f_X5_wood_13 : Cond.fieldLink RX5 13 (TX5 1).1 (TX5 1).2.1 (TX5 1).2.2.1 ∈ wsX5_wood := List.mem_of_getElem? (i := 2) rfl
theorem f_X5_wood_54 : Cond.fieldLink RX5 54 (TX5 3).1 (TX5 3).2.1 (TX5 3).2.2.1 ∈ wsX5_wood := List.mem_of_getElem? (i := 3) rfl
theorem o_X5_wood_125 : OkV mX5_wood mX5_fault yX5_fault 125 0 RX5 := ⟨gX5_wood_X5_fault, ⟨_, rfl⟩, ⟨rfl, rfl⟩, dd_X5_fault, ⟨Nat.le_of_ble_eq_true rfl, Nat.le_of_ble_eq_true rfl⟩⟩
theorem o_X5_wood_128 : OkV mX5_wood mX5_tell yX5_tell 128 1 RX5 := ⟨gX5_wood_X5_tell, ⟨_, rfl⟩, ⟨rfl, rfl⟩, dd_X5_tell, ⟨Nat.le_of_ble_eq_true rfl, Nat.le_of_ble_eq_true rfl⟩⟩
theorem o_X5_wood_132 : OkV mX5_wood mX5_copy yX5_copy 132 2 RX5 := ⟨gX5_wood_X5_copy, ⟨_, rfl⟩, ⟨rfl, rfl⟩, dd_X5_copy, ⟨Nat.le_of_ble_eq_true rfl, Nat.le_of_ble_eq_true rfl⟩⟩
def mX5_isTree : MB := (cX5_isTree, 2, RX5, (some .boolean), wsX5_isTree, { frames := 1, cells := 0, slots := 0, locals := 25 })
theorem i_X5_isTree_X5 : ∀ x ∈ u_ws RX5 TX5 21, x ∈ wsX5_isTree := by decide +kernel
theorem f_X5_isTree_115 : Cond.fieldLink RX5 115 (TX5 10).1 (TX5 10).2.1 (TX5 10).2.2.1 ∈ wsX5_isTree := List.mem_of_getElem? (i := 1) rfl
theorem o_X5_isTree_50 : OkS mX5_isTree mX5_in yX5_in 50 3 := ⟨gX5_isTree_X5_in, ⟨_, rfl⟩, ⟨rfl, rfl⟩, dd_X5_in.2, ⟨Nat.le_of_ble_eq_true rfl, Nat.le_of_ble_eq_true rfl⟩⟩
def mX5_lives : MB := (cX5_lives, 2, RX5, (some .boolean), wsX5_lives, { frames := 0, cells := 0, slots := 0, locals := 0 })
theorem i_X5_lives_X5 : ∀ x ∈ u_ws RX5 TX5 21, x ∈ wsX5_lives := by decide +kernel
theorem f_X5_lives_7 : Cond.fieldLink RX5 7 (TX5 0).1 (TX5 0).2.1 (TX5 0).2.2.1 ∈ wsX5_lives := List.mem_of_getElem? (i := 1) rfl
def mX5_placeOf : MB := (cX5_placeOf, 3, RX5, (some .int), wsX5_placeOf, { frames := 0, cells := 0, slots := 0, locals := 0 })
def mX5_owedTo : MB := (cX5_owedTo, 5, RX5, (some .int), wsX5_owedTo, { frames := 1, cells := 0, slots := 0, locals := 22 })
theorem i_X5_owedTo_X5 : ∀ x ∈ u_ws RX5 TX5 21, x ∈ wsX5_owedTo := by decide +kernel
theorem f_X5_owedTo_7 : Cond.fieldLink RX5 7 (TX5 0).1 (TX5 0).2.1 (TX5 0).2.2.1 ∈ wsX5_owedTo := List.mem_of_getElem? (i := 1) rfl
theorem o_X5_owedTo_136 : OkS mX5_owedTo mX5_placeOf yX5_placeOf 136 3 := ⟨gX5_owedTo_X5_placeOf, ⟨_, rfl⟩, ⟨rfl, rfl⟩, dd_X5_placeOf.2, ⟨Nat.le_of_ble_eq_true rfl, Nat.le_of_ble_eq_true rfl⟩⟩
def mX5_owedAll : MB := (cX5_owedAll, 4, RX5, (some .int), wsX5_owedAll, { frames := 1, cells := 0, slots := 0, locals := 22 })
theorem i_X5_owedAll_X5 : ∀ x ∈ u_ws RX5 TX5 21, x ∈ wsX5_owedAll := by decide +kernel
theorem f_X5_owedAll_7 : Cond.fieldLink RX5 7 (TX5 0).1 (TX5 0).2.1 (TX5 0).2.2.1 ∈ wsX5_owedAll := List.mem_of_getElem? (i := 1) rfl
theorem o_X5_owedAll_136 : OkS mX5_owedAll mX5_placeOf yX5_placeOf 136 3 := ⟨gX5_owedAll_X5_placeOf, ⟨_, rfl⟩, ⟨rfl, rfl⟩, dd_X5_placeOf.2, ⟨Nat.le_of_ble_eq_true rfl, Nat.le_of_ble_eq_true rfl⟩⟩
def mX5_isCross : MB := (cX5_isCross, 5, RX5, (some .boolean), wsX5_isCross, { frames := 2, cells := 0, slots := 0, locals := 46 })
theorem i_X5_isCross_X5 : ∀ x ∈ u_ws RX5 TX5 21, x ∈ wsX5_isCross := by decide +kernel
theorem f_X5_isCross_118 : Cond.fieldLink RX5 118 (TX5 12).1 (TX5 12).2.1 (TX5 12).2.2.1 ∈ wsX5_isCross := List.mem_of_getElem? (i := 1) rfl
theorem f_X5_isCross_35 : Cond.fieldLink RX5 35 (TX5 11).1 (TX5 11).2.1 (TX5 11).2.2.1 ∈ wsX5_isCross := List.mem_of_getElem? (i := 2) rfl
theorem o_X5_isCross_140 : OkV mX5_isCross mX5_owedTo yX5_owedTo 140 2 RX5 := ⟨gX5_isCross_X5_owedTo, ⟨_, rfl⟩, ⟨rfl, rfl⟩, dd_X5_owedTo, ⟨Nat.le_of_ble_eq_true rfl, Nat.le_of_ble_eq_true rfl⟩⟩
def mX5_lends : MB := (cX5_lends, 2, RX5, (some .boolean), wsX5_lends, { frames := 3, cells := 0, slots := 0, locals := 70 })
theorem o_X5_lends_144 : OkV mX5_lends mX5_lives yX5_lives 144 1 RX5 := ⟨gX5_lends_X5_lives, ⟨_, rfl⟩, ⟨rfl, rfl⟩, dd_X5_lives, ⟨Nat.le_of_ble_eq_true rfl, Nat.le_of_ble_eq_true rfl⟩⟩
theorem o_X5_lends_147 : OkV mX5_lends mX5_isCross yX5_isCross 147 1 RX5 := ⟨gX5_lends_X5_isCross, ⟨_, rfl⟩, ⟨rfl, rfl⟩, dd_X5_isCross, ⟨Nat.le_of_ble_eq_true rfl, Nat.le_of_ble_eq_true rfl⟩⟩
def mX5_grown : MB := (cX5_grown, 6, RX5, (some .int), wsX5_grown, { frames := 0, cells := 0, slots := 0, locals := 0 })
theorem i_X5_grown_X5 : ∀ x ∈ u_ws RX5 TX5 21, x ∈ wsX5_grown := by decide +kernel
theorem f_X5_grown_23 : Cond.fieldLink RX5 23 (TX5 6).1 (TX5 6).2.1 (TX5 6).2.2.1 ∈ wsX5_grown := List.mem_of_getElem? (i := 1) rfl
theorem f_X5_grown_26 : Cond.fieldLink RX5 26 (TX5 7).1 (TX5 7).2.1 (TX5 7).2.2.1 ∈ wsX5_grown := List.mem_of_getElem? (i := 2) rfl
def mX5_remove : MB := (cX5_remove, 4, RX5, none, wsX5_remove, { frames := 1, cells := 0, slots := 0, locals := 22 })
theorem i_X5_remove_X5 : ∀ x ∈ u_ws RX5 TX5 21, x ∈ wsX5_remove := by decide +kernel
theorem f_X5_remove_7 : Cond.fieldLink RX5 7 (TX5 0).1 (TX5 0).2.1 (TX5 0).2.2.1 ∈ wsX5_remove := List.mem_of_getElem? (i := 1) rfl
theorem o_X5_remove_136 : OkS mX5_remove mX5_placeOf yX5_placeOf 136 3 := ⟨gX5_remove_X5_placeOf, ⟨_, rfl⟩, ⟨rfl, rfl⟩, dd_X5_placeOf.2, ⟨Nat.le_of_ble_eq_true rfl, Nat.le_of_ble_eq_true rfl⟩⟩
def mX5_few : MB := (cX5_few, 1, RX5, (some .int), wsX5_few, { frames := 0, cells := 0, slots := 0, locals := 0 })
def mX5_firstDue : MB := (cX5_firstDue, 4, RX5, (some .int), wsX5_firstDue, { frames := 1, cells := 0, slots := 0, locals := 22 })
theorem i_X5_firstDue_X5 : ∀ x ∈ u_ws RX5 TX5 21, x ∈ wsX5_firstDue := by decide +kernel
theorem f_X5_firstDue_7 : Cond.fieldLink RX5 7 (TX5 0).1 (TX5 0).2.1 (TX5 0).2.2.1 ∈ wsX5_firstDue := List.mem_of_getElem? (i := 1) rfl
theorem o_X5_firstDue_136 : OkS mX5_firstDue mX5_placeOf yX5_placeOf 136 3 := ⟨gX5_firstDue_X5_placeOf, ⟨_, rfl⟩, ⟨rfl, rfl⟩, dd_X5_placeOf.2, ⟨Nat.le_of_ble_eq_true rfl, Nat.le_of_ble_eq_true rfl⟩⟩
def mX5_work : MB := (cX5_work, 8, RX5, none, wsX5_work, { frames := 2, cells := 0, slots := 0, locals := 45 })
theorem i_X5_work_X5 : ∀ x ∈ u_ws RX5 TX5 21, x ∈ wsX5_work := by decide +kernel
theorem f_X5_work_7 : Cond.fieldLink RX5 7 (TX5 0).1 (TX5 0).2.1 (TX5 0).2.2.1 ∈ wsX5_work := List.mem_of_getElem? (i := 1) rfl
theorem o_X5_work_151 : OkV mX5_work mX5_firstDue yX5_firstDue 151 1 RX5 := ⟨gX5_work_X5_firstDue, ⟨_, rfl⟩, ⟨rfl, rfl⟩, dd_X5_firstDue, ⟨Nat.le_of_ble_eq_true rfl, Nat.le_of_ble_eq_true rfl⟩⟩
theorem o_X5_work_136 : OkS mX5_work mX5_placeOf yX5_placeOf 136 3 := ⟨gX5_work_X5_placeOf, ⟨_, rfl⟩, ⟨rfl, rfl⟩, dd_X5_placeOf.2, ⟨Nat.le_of_ble_eq_true rfl, Nat.le_of_ble_eq_true rfl⟩⟩
theorem o_X5_work_154 : OkS mX5_work mX5_few yX5_few 154 1 := ⟨gX5_work_X5_few, ⟨_, rfl⟩, ⟨rfl, rfl⟩, dd_X5_few.2, ⟨Nat.le_of_ble_eq_true rfl, Nat.le_of_ble_eq_true rfl⟩⟩
theorem o_X5_work_157 : OkV mX5_work mX5_remove yX5_remove 157 2 RX5 := ⟨gX5_work_X5_remove, ⟨_, rfl⟩, ⟨rfl, rfl⟩, dd_X5_remove, ⟨Nat.le_of_ble_eq_true rfl, Nat.le_of_ble_eq_true rfl⟩⟩
def mX5_day : MB := (cX5_day, 5, RX5, none, wsX5_day, { frames := 3, cells := 0, slots := 0, locals := 72 })
theorem i_X5_day_X5 : ∀ x ∈ u_ws RX5 TX5 21, x ∈ wsX5_day := by decide +kernel
theorem f_X5_day_7 : Cond.fieldLink RX5 7 (TX5 0).1 (TX5 0).2.1 (TX5 0).2.2.1 ∈ wsX5_day := List.mem_of_getElem? (i := 1) rfl
theorem o_X5_day_136 : OkS mX5_day mX5_placeOf yX5_placeOf 136 3 := ⟨gX5_day_X5_placeOf, ⟨_, rfl⟩, ⟨rfl, rfl⟩, dd_X5_placeOf.2, ⟨Nat.le_of_ble_eq_true rfl, Nat.le_of_ble_eq_true rfl⟩⟩
theorem o_X5_day_160 : OkV mX5_day mX5_grown yX5_grown 160 3 RX5 := ⟨gX5_day_X5_grown, ⟨_, rfl⟩, ⟨rfl, rfl⟩, dd_X5_grown, ⟨Nat.le_of_ble_eq_true rfl, Nat.le_of_ble_eq_true rfl⟩⟩
theorem o_X5_day_163 : OkV mX5_day mX5_work yX5_work 163 2 RX5 := ⟨gX5_day_X5_work, ⟨_, rfl⟩, ⟨rfl, rfl⟩, dd_X5_work, ⟨Nat.le_of_ble_eq_true rfl, Nat.le_of_ble_eq_true rfl⟩⟩
def mX5_tree : MB := (cX5_tree, 3, RX5, (some .int), wsX5_tree, { frames := 3, cells := 0, slots := 0, locals := 70 })
theorem i_X5_tree_X5 : ∀ x ∈ u_ws RX5 TX5 21, x ∈ wsX5_tree := by decide +kernel
theorem f_X5_tree_23 : Cond.fieldLink RX5 23 (TX5 6).1 (TX5 6).2.1 (TX5 6).2.2.1 ∈ wsX5_tree := List.mem_of_getElem? (i := 1) rfl
theorem f_X5_tree_7 : Cond.fieldLink RX5 7 (TX5 0).1 (TX5 0).2.1 (TX5 0).2.2.1 ∈ wsX5_tree := List.mem_of_getElem? (i := 2) rfl
theorem f_X5_tree_26 : Cond.fieldLink RX5 26 (TX5 7).1 (TX5 7).2.1 (TX5 7).2.2.1 ∈ wsX5_tree := List.mem_of_getElem? (i := 3) rfl
theorem f_X5_tree_29 : Cond.fieldLink RX5 29 (TX5 8).1 (TX5 8).2.1 (TX5 8).2.2.1 ∈ wsX5_tree := List.mem_of_getElem? (i := 4) rfl
theorem f_X5_tree_32 : Cond.fieldLink RX5 32 (TX5 9).1 (TX5 9).2.1 (TX5 9).2.2.1 ∈ wsX5_tree := List.mem_of_getElem? (i := 5) rfl
theorem o_X5_tree_166 : OkV mX5_tree mX5_isTree yX5_isTree 166 1 RX5 := ⟨gX5_tree_X5_isTree, ⟨_, rfl⟩, ⟨rfl, rfl⟩, dd_X5_isTree, ⟨Nat.le_of_ble_eq_true rfl, Nat.le_of_ble_eq_true rfl⟩⟩
theorem o_X5_tree_140 : OkV mX5_tree mX5_owedTo yX5_owedTo 140 2 RX5 := ⟨gX5_tree_X5_owedTo, ⟨_, rfl⟩, ⟨rfl, rfl⟩, dd_X5_owedTo, ⟨Nat.le_of_ble_eq_true rfl, Nat.le_of_ble_eq_true rfl⟩⟩
theorem o_X5_tree_147 : OkV mX5_tree mX5_isCross yX5_isCross 147 1 RX5 := ⟨gX5_tree_X5_isCross, ⟨_, rfl⟩, ⟨rfl, rfl⟩, dd_X5_isCross, ⟨Nat.le_of_ble_eq_true rfl, Nat.le_of_ble_eq_true rfl⟩⟩
def mX5_loan : MB := (cX5_loan, 3, RX5, (some .int), wsX5_loan, { frames := 1, cells := 0, slots := 0, locals := 25 })
theorem i_X5_loan_X5 : ∀ x ∈ u_ws RX5 TX5 21, x ∈ wsX5_loan := by decide +kernel
theorem f_X5_loan_7 : Cond.fieldLink RX5 7 (TX5 0).1 (TX5 0).2.1 (TX5 0).2.2.1 ∈ wsX5_loan := List.mem_of_getElem? (i := 1) rfl
theorem o_X5_loan_50 : OkS mX5_loan mX5_in yX5_in 50 3 := ⟨gX5_loan_X5_in, ⟨_, rfl⟩, ⟨rfl, rfl⟩, dd_X5_in.2, ⟨Nat.le_of_ble_eq_true rfl, Nat.le_of_ble_eq_true rfl⟩⟩
theorem o_X5_loan_136 : OkS mX5_loan mX5_placeOf yX5_placeOf 136 3 := ⟨gX5_loan_X5_placeOf, ⟨_, rfl⟩, ⟨rfl, rfl⟩, dd_X5_placeOf.2, ⟨Nat.le_of_ble_eq_true rfl, Nat.le_of_ble_eq_true rfl⟩⟩
def mX5_as : MB := (cX5_as, 5, RX5, (some .int), wsX5_as, { frames := 2, cells := 0, slots := 0, locals := 46 })
theorem i_X5_as_X5 : ∀ x ∈ u_ws RX5 TX5 21, x ∈ wsX5_as := by decide +kernel
theorem f_X5_as_23 : Cond.fieldLink RX5 23 (TX5 6).1 (TX5 6).2.1 (TX5 6).2.2.1 ∈ wsX5_as := List.mem_of_getElem? (i := 2) rfl
theorem o_X5_as_166 : OkV mX5_as mX5_isTree yX5_isTree 166 1 RX5 := ⟨gX5_as_X5_isTree, ⟨_, rfl⟩, ⟨rfl, rfl⟩, dd_X5_isTree, ⟨Nat.le_of_ble_eq_true rfl, Nat.le_of_ble_eq_true rfl⟩⟩
theorem o_X5_as_50 : OkS mX5_as mX5_in yX5_in 50 3 := ⟨gX5_as_X5_in, ⟨_, rfl⟩, ⟨rfl, rfl⟩, dd_X5_in.2, ⟨Nat.le_of_ble_eq_true rfl, Nat.le_of_ble_eq_true rfl⟩⟩
theorem o_X5_as_160 : OkV mX5_as mX5_grown yX5_grown 160 3 RX5 := ⟨gX5_as_X5_grown, ⟨_, rfl⟩, ⟨rfl, rfl⟩, dd_X5_grown, ⟨Nat.le_of_ble_eq_true rfl, Nat.le_of_ble_eq_true rfl⟩⟩
def mX5_borrow : MB := (cX5_borrow, 4, RX5, (some .int), wsX5_borrow, { frames := 4, cells := 0, slots := 0, locals := 91 })
theorem i_X5_borrow_X5 : ∀ x ∈ u_ws RX5 TX5 21, x ∈ wsX5_borrow := by decide +kernel
theorem f_X5_borrow_7 : Cond.fieldLink RX5 7 (TX5 0).1 (TX5 0).2.1 (TX5 0).2.2.1 ∈ wsX5_borrow := List.mem_of_getElem? (i := 2) rfl
theorem f_X5_borrow_23 : Cond.fieldLink RX5 23 (TX5 6).1 (TX5 6).2.1 (TX5 6).2.2.1 ∈ wsX5_borrow := List.mem_of_getElem? (i := 3) rfl
theorem f_X5_borrow_29 : Cond.fieldLink RX5 29 (TX5 8).1 (TX5 8).2.1 (TX5 8).2.2.1 ∈ wsX5_borrow := List.mem_of_getElem? (i := 4) rfl
theorem o_X5_borrow_166 : OkV mX5_borrow mX5_isTree yX5_isTree 166 1 RX5 := ⟨gX5_borrow_X5_isTree, ⟨_, rfl⟩, ⟨rfl, rfl⟩, dd_X5_isTree, ⟨Nat.le_of_ble_eq_true rfl, Nat.le_of_ble_eq_true rfl⟩⟩
theorem o_X5_borrow_50 : OkS mX5_borrow mX5_in yX5_in 50 3 := ⟨gX5_borrow_X5_in, ⟨_, rfl⟩, ⟨rfl, rfl⟩, dd_X5_in.2, ⟨Nat.le_of_ble_eq_true rfl, Nat.le_of_ble_eq_true rfl⟩⟩
theorem o_X5_borrow_171 : OkV mX5_borrow mX5_lends yX5_lends 171 1 RX5 := ⟨gX5_borrow_X5_lends, ⟨_, rfl⟩, ⟨rfl, rfl⟩, dd_X5_lends, ⟨Nat.le_of_ble_eq_true rfl, Nat.le_of_ble_eq_true rfl⟩⟩
theorem o_X5_borrow_136 : OkS mX5_borrow mX5_placeOf yX5_placeOf 136 3 := ⟨gX5_borrow_X5_placeOf, ⟨_, rfl⟩, ⟨rfl, rfl⟩, dd_X5_placeOf.2, ⟨Nat.le_of_ble_eq_true rfl, Nat.le_of_ble_eq_true rfl⟩⟩
def mX5_days : MB := (cX5_days, 3, RX5, (some .int), wsX5_days, { frames := 4, cells := 0, slots := 0, locals := 96 })
theorem i_X5_days_X5 : ∀ x ∈ u_ws RX5 TX5 21, x ∈ wsX5_days := by decide +kernel
theorem f_X5_days_7 : Cond.fieldLink RX5 7 (TX5 0).1 (TX5 0).2.1 (TX5 0).2.2.1 ∈ wsX5_days := List.mem_of_getElem? (i := 2) rfl
theorem f_X5_days_38 : Cond.fieldLink RX5 38 (TX5 13).1 (TX5 13).2.1 (TX5 13).2.2.1 ∈ wsX5_days := List.mem_of_getElem? (i := 3) rfl
theorem o_X5_days_50 : OkS mX5_days mX5_in yX5_in 50 3 := ⟨gX5_days_X5_in, ⟨_, rfl⟩, ⟨rfl, rfl⟩, dd_X5_in.2, ⟨Nat.le_of_ble_eq_true rfl, Nat.le_of_ble_eq_true rfl⟩⟩
theorem o_X5_days_174 : OkV mX5_days mX5_day yX5_day 174 2 RX5 := ⟨gX5_days_X5_day, ⟨_, rfl⟩, ⟨rfl, rfl⟩, dd_X5_day, ⟨Nat.le_of_ble_eq_true rfl, Nat.le_of_ble_eq_true rfl⟩⟩
def mX5_burn : MB := (cX5_burn, 3, RX5, none, wsX5_burn, { frames := 2, cells := 0, slots := 0, locals := 45 })
theorem i_X5_burn_X5 : ∀ x ∈ u_ws RX5 TX5 21, x ∈ wsX5_burn := by decide +kernel
theorem f_X5_burn_7 : Cond.fieldLink RX5 7 (TX5 0).1 (TX5 0).2.1 (TX5 0).2.2.1 ∈ wsX5_burn := List.mem_of_getElem? (i := 1) rfl
theorem o_X5_burn_136 : OkS mX5_burn mX5_placeOf yX5_placeOf 136 3 := ⟨gX5_burn_X5_placeOf, ⟨_, rfl⟩, ⟨rfl, rfl⟩, dd_X5_placeOf.2, ⟨Nat.le_of_ble_eq_true rfl, Nat.le_of_ble_eq_true rfl⟩⟩
theorem o_X5_burn_157 : OkV mX5_burn mX5_remove yX5_remove 157 2 RX5 := ⟨gX5_burn_X5_remove, ⟨_, rfl⟩, ⟨rfl, rfl⟩, dd_X5_remove, ⟨Nat.le_of_ble_eq_true rfl, Nat.le_of_ble_eq_true rfl⟩⟩
def mX5_fire : MB := (cX5_fire, 4, RX5, (some .int), wsX5_fire, { frames := 3, cells := 0, slots := 0, locals := 67 })
theorem i_X5_fire_X5 : ∀ x ∈ u_ws RX5 TX5 21, x ∈ wsX5_fire := by decide +kernel
theorem f_X5_fire_115 : Cond.fieldLink RX5 115 (TX5 10).1 (TX5 10).2.1 (TX5 10).2.2.1 ∈ wsX5_fire := List.mem_of_getElem? (i := 2) rfl
theorem f_X5_fire_32 : Cond.fieldLink RX5 32 (TX5 9).1 (TX5 9).2.1 (TX5 9).2.2.1 ∈ wsX5_fire := List.mem_of_getElem? (i := 3) rfl
theorem o_X5_fire_50 : OkS mX5_fire mX5_in yX5_in 50 3 := ⟨gX5_fire_X5_in, ⟨_, rfl⟩, ⟨rfl, rfl⟩, dd_X5_in.2, ⟨Nat.le_of_ble_eq_true rfl, Nat.le_of_ble_eq_true rfl⟩⟩
theorem o_X5_fire_144 : OkV mX5_fire mX5_lives yX5_lives 144 1 RX5 := ⟨gX5_fire_X5_lives, ⟨_, rfl⟩, ⟨rfl, rfl⟩, dd_X5_lives, ⟨Nat.le_of_ble_eq_true rfl, Nat.le_of_ble_eq_true rfl⟩⟩
theorem o_X5_fire_179 : OkV mX5_fire mX5_burn yX5_burn 179 1 RX5 := ⟨gX5_fire_X5_burn, ⟨_, rfl⟩, ⟨rfl, rfl⟩, dd_X5_burn, ⟨Nat.le_of_ble_eq_true rfl, Nat.le_of_ble_eq_true rfl⟩⟩
def mX5_sell : MB := (cX5_sell, 6, RX5, (some .int), wsX5_sell, { frames := 2, cells := 0, slots := 0, locals := 46 })
theorem i_X5_sell_X5 : ∀ x ∈ u_ws RX5 TX5 21, x ∈ wsX5_sell := by decide +kernel
theorem f_X5_sell_7 : Cond.fieldLink RX5 7 (TX5 0).1 (TX5 0).2.1 (TX5 0).2.2.1 ∈ wsX5_sell := List.mem_of_getElem? (i := 1) rfl
theorem o_X5_sell_166 : OkV mX5_sell mX5_isTree yX5_isTree 166 1 RX5 := ⟨gX5_sell_X5_isTree, ⟨_, rfl⟩, ⟨rfl, rfl⟩, dd_X5_isTree, ⟨Nat.le_of_ble_eq_true rfl, Nat.le_of_ble_eq_true rfl⟩⟩
theorem o_X5_sell_144 : OkV mX5_sell mX5_lives yX5_lives 144 1 RX5 := ⟨gX5_sell_X5_lives, ⟨_, rfl⟩, ⟨rfl, rfl⟩, dd_X5_lives, ⟨Nat.le_of_ble_eq_true rfl, Nat.le_of_ble_eq_true rfl⟩⟩
theorem o_X5_sell_136 : OkS mX5_sell mX5_placeOf yX5_placeOf 136 3 := ⟨gX5_sell_X5_placeOf, ⟨_, rfl⟩, ⟨rfl, rfl⟩, dd_X5_placeOf.2, ⟨Nat.le_of_ble_eq_true rfl, Nat.le_of_ble_eq_true rfl⟩⟩
theorem o_X5_sell_154 : OkS mX5_sell mX5_few yX5_few 154 1 := ⟨gX5_sell_X5_few, ⟨_, rfl⟩, ⟨rfl, rfl⟩, dd_X5_few.2, ⟨Nat.le_of_ble_eq_true rfl, Nat.le_of_ble_eq_true rfl⟩⟩
def mX5_keep : MB := (cX5_keep, 2, RX5, (some .int), wsX5_keep, { frames := 1, cells := 0, slots := 0, locals := 25 })
theorem i_X5_keep_X5 : ∀ x ∈ u_ws RX5 TX5 21, x ∈ wsX5_keep := by decide +kernel
theorem f_X5_keep_13 : Cond.fieldLink RX5 13 (TX5 1).1 (TX5 1).2.1 (TX5 1).2.2.1 ∈ wsX5_keep := List.mem_of_getElem? (i := 1) rfl
theorem f_X5_keep_7 : Cond.fieldLink RX5 7 (TX5 0).1 (TX5 0).2.1 (TX5 0).2.2.1 ∈ wsX5_keep := List.mem_of_getElem? (i := 2) rfl
theorem o_X5_keep_50 : OkS mX5_keep mX5_in yX5_in 50 3 := ⟨gX5_keep_X5_in, ⟨_, rfl⟩, ⟨rfl, rfl⟩, dd_X5_in.2, ⟨Nat.le_of_ble_eq_true rfl, Nat.le_of_ble_eq_true rfl⟩⟩
theorem o_X5_keep_132 : OkV mX5_keep mX5_copy yX5_copy 132 2 RX5 := ⟨gX5_keep_X5_copy, ⟨_, rfl⟩, ⟨rfl, rfl⟩, dd_X5_copy, ⟨Nat.le_of_ble_eq_true rfl, Nat.le_of_ble_eq_true rfl⟩⟩
def mX5_back : MB := (cX5_back, 2, RX5, (some .int), wsX5_back, { frames := 1, cells := 0, slots := 0, locals := 25 })
theorem i_X5_back_X5 : ∀ x ∈ u_ws RX5 TX5 21, x ∈ wsX5_back := by decide +kernel
theorem f_X5_back_13 : Cond.fieldLink RX5 13 (TX5 1).1 (TX5 1).2.1 (TX5 1).2.2.1 ∈ wsX5_back := List.mem_of_getElem? (i := 1) rfl
theorem f_X5_back_7 : Cond.fieldLink RX5 7 (TX5 0).1 (TX5 0).2.1 (TX5 0).2.2.1 ∈ wsX5_back := List.mem_of_getElem? (i := 2) rfl
theorem o_X5_back_50 : OkS mX5_back mX5_in yX5_in 50 3 := ⟨gX5_back_X5_in, ⟨_, rfl⟩, ⟨rfl, rfl⟩, dd_X5_in.2, ⟨Nat.le_of_ble_eq_true rfl, Nat.le_of_ble_eq_true rfl⟩⟩
theorem o_X5_back_132 : OkV mX5_back mX5_copy yX5_copy 132 2 RX5 := ⟨gX5_back_X5_copy, ⟨_, rfl⟩, ⟨rfl, rfl⟩, dd_X5_copy, ⟨Nat.le_of_ble_eq_true rfl, Nat.le_of_ble_eq_true rfl⟩⟩
def mX5_tryDays : MB := (cX5_tryDays, 4, RX5, none, wsX5_tryDays, { frames := 4, cells := 0, slots := 0, locals := 96 })
theorem o_X5_tryDays_132 : OkV mX5_tryDays mX5_copy yX5_copy 132 2 RX5 := ⟨gX5_tryDays_X5_copy, ⟨_, rfl⟩, ⟨rfl, rfl⟩, dd_X5_copy, ⟨Nat.le_of_ble_eq_true rfl, Nat.le_of_ble_eq_true rfl⟩⟩
theorem o_X5_tryDays_174 : OkV mX5_tryDays mX5_day yX5_day 174 2 RX5 := ⟨gX5_tryDays_X5_day, ⟨_, rfl⟩, ⟨rfl, rfl⟩, dd_X5_day, ⟨Nat.le_of_ble_eq_true rfl, Nat.le_of_ble_eq_true rfl⟩⟩
def mX5_later : MB := (cX5_later, 3, RX5, (some .int), wsX5_later, { frames := 5, cells := 0, slots := 0, locals := 119 })
theorem i_X5_later_X5 : ∀ x ∈ u_ws RX5 TX5 21, x ∈ wsX5_later := by decide +kernel
theorem f_X5_later_38 : Cond.fieldLink RX5 38 (TX5 13).1 (TX5 13).2.1 (TX5 13).2.2.1 ∈ wsX5_later := List.mem_of_getElem? (i := 2) rfl
theorem o_X5_later_166 : OkV mX5_later mX5_isTree yX5_isTree 166 1 RX5 := ⟨gX5_later_X5_isTree, ⟨_, rfl⟩, ⟨rfl, rfl⟩, dd_X5_isTree, ⟨Nat.le_of_ble_eq_true rfl, Nat.le_of_ble_eq_true rfl⟩⟩
theorem o_X5_later_50 : OkS mX5_later mX5_in yX5_in 50 3 := ⟨gX5_later_X5_in, ⟨_, rfl⟩, ⟨rfl, rfl⟩, dd_X5_in.2, ⟨Nat.le_of_ble_eq_true rfl, Nat.le_of_ble_eq_true rfl⟩⟩
theorem o_X5_later_182 : OkV mX5_later mX5_tryDays yX5_tryDays 182 2 RX5 := ⟨gX5_later_X5_tryDays, ⟨_, rfl⟩, ⟨rfl, rfl⟩, dd_X5_tryDays, ⟨Nat.le_of_ble_eq_true rfl, Nat.le_of_ble_eq_true rfl⟩⟩
theorem o_X5_later_140 : OkV mX5_later mX5_owedTo yX5_owedTo 140 2 RX5 := ⟨gX5_later_X5_owedTo, ⟨_, rfl⟩, ⟨rfl, rfl⟩, dd_X5_owedTo, ⟨Nat.le_of_ble_eq_true rfl, Nat.le_of_ble_eq_true rfl⟩⟩
def mX5_all : MB := (cX5_all, 3, RX5, (some .int), wsX5_all, { frames := 5, cells := 0, slots := 0, locals := 119 })
theorem i_X5_all_X5 : ∀ x ∈ u_ws RX5 TX5 21, x ∈ wsX5_all := by decide +kernel
theorem f_X5_all_38 : Cond.fieldLink RX5 38 (TX5 13).1 (TX5 13).2.1 (TX5 13).2.2.1 ∈ wsX5_all := List.mem_of_getElem? (i := 2) rfl
theorem f_X5_all_7 : Cond.fieldLink RX5 7 (TX5 0).1 (TX5 0).2.1 (TX5 0).2.2.1 ∈ wsX5_all := List.mem_of_getElem? (i := 3) rfl
theorem o_X5_all_50 : OkS mX5_all mX5_in yX5_in 50 3 := ⟨gX5_all_X5_in, ⟨_, rfl⟩, ⟨rfl, rfl⟩, dd_X5_in.2, ⟨Nat.le_of_ble_eq_true rfl, Nat.le_of_ble_eq_true rfl⟩⟩
theorem o_X5_all_182 : OkV mX5_all mX5_tryDays yX5_tryDays 182 2 RX5 := ⟨gX5_all_X5_tryDays, ⟨_, rfl⟩, ⟨rfl, rfl⟩, dd_X5_tryDays, ⟨Nat.le_of_ble_eq_true rfl, Nat.le_of_ble_eq_true rfl⟩⟩
theorem o_X5_all_185 : OkV mX5_all mX5_owedAll yX5_owedAll 185 1 RX5 := ⟨gX5_all_X5_owedAll, ⟨_, rfl⟩, ⟨rfl, rfl⟩, dd_X5_owedAll, ⟨Nat.le_of_ble_eq_true rfl, Nat.le_of_ble_eq_true rfl⟩⟩
def mX5_clear : MB := (cX5_clear, 2, RX5, (some .int), wsX5_clear, { frames := 4, cells := 0, slots := 0, locals := 96 })
theorem i_X5_clear_X5 : ∀ x ∈ u_ws RX5 TX5 21, x ∈ wsX5_clear := by decide +kernel
theorem f_X5_clear_7 : Cond.fieldLink RX5 7 (TX5 0).1 (TX5 0).2.1 (TX5 0).2.2.1 ∈ wsX5_clear := List.mem_of_getElem? (i := 1) rfl
theorem f_X5_clear_38 : Cond.fieldLink RX5 38 (TX5 13).1 (TX5 13).2.1 (TX5 13).2.2.1 ∈ wsX5_clear := List.mem_of_getElem? (i := 2) rfl
theorem o_X5_clear_132 : OkV mX5_clear mX5_copy yX5_copy 132 2 RX5 := ⟨gX5_clear_X5_copy, ⟨_, rfl⟩, ⟨rfl, rfl⟩, dd_X5_copy, ⟨Nat.le_of_ble_eq_true rfl, Nat.le_of_ble_eq_true rfl⟩⟩
theorem o_X5_clear_174 : OkV mX5_clear mX5_day yX5_day 174 2 RX5 := ⟨gX5_clear_X5_day, ⟨_, rfl⟩, ⟨rfl, rfl⟩, dd_X5_day, ⟨Nat.le_of_ble_eq_true rfl, Nat.le_of_ble_eq_true rfl⟩⟩
def mX5_owedFor : MB := (cX5_owedFor, 6, RX5, (some .int), wsX5_owedFor, { frames := 1, cells := 0, slots := 0, locals := 25 })
theorem o_X5_owedFor_160 : OkV mX5_owedFor mX5_grown yX5_grown 160 3 RX5 := ⟨gX5_owedFor_X5_grown, ⟨_, rfl⟩, ⟨rfl, rfl⟩, dd_X5_grown, ⟨Nat.le_of_ble_eq_true rfl, Nat.le_of_ble_eq_true rfl⟩⟩
def mX5_layPrices : MB := (cX5_layPrices, 5, RX5, none, wsX5_layPrices, { frames := 4, cells := 0, slots := 0, locals := 91 })
theorem i_X5_layPrices_X5 : ∀ x ∈ u_ws RX5 TX5 21, x ∈ wsX5_layPrices := by decide +kernel
theorem f_X5_layPrices_115 : Cond.fieldLink RX5 115 (TX5 10).1 (TX5 10).2.1 (TX5 10).2.2.1 ∈ wsX5_layPrices := List.mem_of_getElem? (i := 1) rfl
theorem f_X5_layPrices_7 : Cond.fieldLink RX5 7 (TX5 0).1 (TX5 0).2.1 (TX5 0).2.2.1 ∈ wsX5_layPrices := List.mem_of_getElem? (i := 2) rfl
theorem f_X5_layPrices_42 : Cond.fieldLink RX5 42 (TX5 19).1 (TX5 19).2.1 (TX5 19).2.2.1 ∈ wsX5_layPrices := List.mem_of_getElem? (i := 3) rfl
theorem o_X5_layPrices_171 : OkV mX5_layPrices mX5_lends yX5_lends 171 1 RX5 := ⟨gX5_layPrices_X5_lends, ⟨_, rfl⟩, ⟨rfl, rfl⟩, dd_X5_lends, ⟨Nat.le_of_ble_eq_true rfl, Nat.le_of_ble_eq_true rfl⟩⟩
theorem o_X5_layPrices_188 : OkV mX5_layPrices mX5_owedFor yX5_owedFor 188 3 RX5 := ⟨gX5_layPrices_X5_owedFor, ⟨_, rfl⟩, ⟨rfl, rfl⟩, dd_X5_owedFor, ⟨Nat.le_of_ble_eq_true rfl, Nat.le_of_ble_eq_true rfl⟩⟩
def mX5_by : MB := (cX5_by, 6, RX5, (some .int), wsX5_by, { frames := 0, cells := 0, slots := 0, locals := 0 })
theorem i_X5_by_X5 : ∀ x ∈ u_ws RX5 TX5 21, x ∈ wsX5_by := by decide +kernel
theorem f_X5_by_42 : Cond.fieldLink RX5 42 (TX5 19).1 (TX5 19).2.1 (TX5 19).2.2.1 ∈ wsX5_by := List.mem_of_getElem? (i := 1) rfl
theorem f_X5_by_45 : Cond.fieldLink RX5 45 (TX5 20).1 (TX5 20).2.1 (TX5 20).2.2.1 ∈ wsX5_by := List.mem_of_getElem? (i := 2) rfl
def mX5_layLeasts : MB := (cX5_layLeasts, 6, RX5, none, wsX5_layLeasts, { frames := 1, cells := 0, slots := 0, locals := 25 })
theorem i_X5_layLeasts_X5 : ∀ x ∈ u_ws RX5 TX5 21, x ∈ wsX5_layLeasts := by decide +kernel
theorem f_X5_layLeasts_45 : Cond.fieldLink RX5 45 (TX5 20).1 (TX5 20).2.1 (TX5 20).2.2.1 ∈ wsX5_layLeasts := List.mem_of_getElem? (i := 1) rfl
theorem f_X5_layLeasts_115 : Cond.fieldLink RX5 115 (TX5 10).1 (TX5 10).2.1 (TX5 10).2.2.1 ∈ wsX5_layLeasts := List.mem_of_getElem? (i := 2) rfl
theorem o_X5_layLeasts_191 : OkV mX5_layLeasts mX5_by yX5_by 191 3 RX5 := ⟨gX5_layLeasts_X5_by, ⟨_, rfl⟩, ⟨rfl, rfl⟩, dd_X5_by, ⟨Nat.le_of_ble_eq_true rfl, Nat.le_of_ble_eq_true rfl⟩⟩
def mX5_hut : MB := (cX5_hut, 7, RX5, (some .int), wsX5_hut, { frames := 5, cells := 0, slots := 0, locals := 115 })
theorem i_X5_hut_X5 : ∀ x ∈ u_ws RX5 TX5 21, x ∈ wsX5_hut := by decide +kernel
theorem f_X5_hut_45 : Cond.fieldLink RX5 45 (TX5 20).1 (TX5 20).2.1 (TX5 20).2.2.1 ∈ wsX5_hut := List.mem_of_getElem? (i := 3) rfl
theorem o_X5_hut_50 : OkS mX5_hut mX5_in yX5_in 50 3 := ⟨gX5_hut_X5_in, ⟨_, rfl⟩, ⟨rfl, rfl⟩, dd_X5_in.2, ⟨Nat.le_of_ble_eq_true rfl, Nat.le_of_ble_eq_true rfl⟩⟩
theorem o_X5_hut_166 : OkV mX5_hut mX5_isTree yX5_isTree 166 1 RX5 := ⟨gX5_hut_X5_isTree, ⟨_, rfl⟩, ⟨rfl, rfl⟩, dd_X5_isTree, ⟨Nat.le_of_ble_eq_true rfl, Nat.le_of_ble_eq_true rfl⟩⟩
theorem o_X5_hut_196 : OkV mX5_hut mX5_layPrices yX5_layPrices 196 1 RX5 := ⟨gX5_hut_X5_layPrices, ⟨_, rfl⟩, ⟨rfl, rfl⟩, dd_X5_layPrices, ⟨Nat.le_of_ble_eq_true rfl, Nat.le_of_ble_eq_true rfl⟩⟩
theorem o_X5_hut_199 : OkV mX5_hut mX5_layLeasts yX5_layLeasts 199 0 RX5 := ⟨gX5_hut_X5_layLeasts, ⟨_, rfl⟩, ⟨rfl, rfl⟩, dd_X5_layLeasts, ⟨Nat.le_of_ble_eq_true rfl, Nat.le_of_ble_eq_true rfl⟩⟩
theorem o_X5_hut_191 : OkV mX5_hut mX5_by yX5_by 191 3 RX5 := ⟨gX5_hut_X5_by, ⟨_, rfl⟩, ⟨rfl, rfl⟩, dd_X5_by, ⟨Nat.le_of_ble_eq_true rfl, Nat.le_of_ble_eq_true rfl⟩⟩
def mX5_enough : MB := (cX5_enough, 3, RX5, (some .int), wsX5_enough, { frames := 5, cells := 0, slots := 0, locals := 119 })
theorem i_X5_enough_X5 : ∀ x ∈ u_ws RX5 TX5 21, x ∈ wsX5_enough := by decide +kernel
theorem f_X5_enough_7 : Cond.fieldLink RX5 7 (TX5 0).1 (TX5 0).2.1 (TX5 0).2.2.1 ∈ wsX5_enough := List.mem_of_getElem? (i := 2) rfl
theorem o_X5_enough_50 : OkS mX5_enough mX5_in yX5_in 50 3 := ⟨gX5_enough_X5_in, ⟨_, rfl⟩, ⟨rfl, rfl⟩, dd_X5_in.2, ⟨Nat.le_of_ble_eq_true rfl, Nat.le_of_ble_eq_true rfl⟩⟩
theorem o_X5_enough_182 : OkV mX5_enough mX5_tryDays yX5_tryDays 182 2 RX5 := ⟨gX5_enough_X5_tryDays, ⟨_, rfl⟩, ⟨rfl, rfl⟩, dd_X5_tryDays, ⟨Nat.le_of_ble_eq_true rfl, Nat.le_of_ble_eq_true rfl⟩⟩
def mX5_rid : MB := (cX5_rid, 9, RX5, (some .int), wsX5_rid, { frames := 1, cells := 0, slots := 0, locals := 25 })
theorem i_X5_rid_X5 : ∀ x ∈ u_ws RX5 TX5 21, x ∈ wsX5_rid := by decide +kernel
theorem f_X5_rid_7 : Cond.fieldLink RX5 7 (TX5 0).1 (TX5 0).2.1 (TX5 0).2.2.1 ∈ wsX5_rid := List.mem_of_getElem? (i := 2) rfl
theorem f_X5_rid_32 : Cond.fieldLink RX5 32 (TX5 9).1 (TX5 9).2.1 (TX5 9).2.2.1 ∈ wsX5_rid := List.mem_of_getElem? (i := 3) rfl
theorem o_X5_rid_50 : OkS mX5_rid mX5_in yX5_in 50 3 := ⟨gX5_rid_X5_in, ⟨_, rfl⟩, ⟨rfl, rfl⟩, dd_X5_in.2, ⟨Nat.le_of_ble_eq_true rfl, Nat.le_of_ble_eq_true rfl⟩⟩
theorem o_X5_rid_136 : OkS mX5_rid mX5_placeOf yX5_placeOf 136 3 := ⟨gX5_rid_X5_placeOf, ⟨_, rfl⟩, ⟨rfl, rfl⟩, dd_X5_placeOf.2, ⟨Nat.le_of_ble_eq_true rfl, Nat.le_of_ble_eq_true rfl⟩⟩
def mX5_grandson : MB := (cX5_grandson, 4, RX5, (some .int), wsX5_grandson, { frames := 5, cells := 0, slots := 0, locals := 119 })
theorem i_X5_grandson_X5 : ∀ x ∈ u_ws RX5 TX5 21, x ∈ wsX5_grandson := by decide +kernel
theorem f_X5_grandson_38 : Cond.fieldLink RX5 38 (TX5 13).1 (TX5 13).2.1 (TX5 13).2.2.1 ∈ wsX5_grandson := List.mem_of_getElem? (i := 2) rfl
theorem f_X5_grandson_115 : Cond.fieldLink RX5 115 (TX5 10).1 (TX5 10).2.1 (TX5 10).2.2.1 ∈ wsX5_grandson := List.mem_of_getElem? (i := 3) rfl
theorem f_X5_grandson_7 : Cond.fieldLink RX5 7 (TX5 0).1 (TX5 0).2.1 (TX5 0).2.2.1 ∈ wsX5_grandson := List.mem_of_getElem? (i := 4) rfl
theorem o_X5_grandson_50 : OkS mX5_grandson mX5_in yX5_in 50 3 := ⟨gX5_grandson_X5_in, ⟨_, rfl⟩, ⟨rfl, rfl⟩, dd_X5_in.2, ⟨Nat.le_of_ble_eq_true rfl, Nat.le_of_ble_eq_true rfl⟩⟩
theorem o_X5_grandson_182 : OkV mX5_grandson mX5_tryDays yX5_tryDays 182 2 RX5 := ⟨gX5_grandson_X5_tryDays, ⟨_, rfl⟩, ⟨rfl, rfl⟩, dd_X5_tryDays, ⟨Nat.le_of_ble_eq_true rfl, Nat.le_of_ble_eq_true rfl⟩⟩
theorem o_X5_grandson_144 : OkV mX5_grandson mX5_lives yX5_lives 144 1 RX5 := ⟨gX5_grandson_X5_lives, ⟨_, rfl⟩, ⟨rfl, rfl⟩, dd_X5_lives, ⟨Nat.le_of_ble_eq_true rfl, Nat.le_of_ble_eq_true rfl⟩⟩
def mX5_toWhom : MB := (cX5_toWhom, 6, RX5, (some .int), wsX5_toWhom, { frames := 2, cells := 0, slots := 0, locals := 50 })
theorem i_X5_toWhom_X5 : ∀ x ∈ u_ws RX5 TX5 21, x ∈ wsX5_toWhom := by decide +kernel
theorem f_X5_toWhom_115 : Cond.fieldLink RX5 115 (TX5 10).1 (TX5 10).2.1 (TX5 10).2.2.1 ∈ wsX5_toWhom := List.mem_of_getElem? (i := 4) rfl
theorem o_X5_toWhom_50 : OkS mX5_toWhom mX5_in yX5_in 50 3 := ⟨gX5_toWhom_X5_in, ⟨_, rfl⟩, ⟨rfl, rfl⟩, dd_X5_in.2, ⟨Nat.le_of_ble_eq_true rfl, Nat.le_of_ble_eq_true rfl⟩⟩
theorem o_X5_toWhom_144 : OkV mX5_toWhom mX5_lives yX5_lives 144 1 RX5 := ⟨gX5_toWhom_X5_lives, ⟨_, rfl⟩, ⟨rfl, rfl⟩, dd_X5_lives, ⟨Nat.le_of_ble_eq_true rfl, Nat.le_of_ble_eq_true rfl⟩⟩
theorem o_X5_toWhom_188 : OkV mX5_toWhom mX5_owedFor yX5_owedFor 188 3 RX5 := ⟨gX5_toWhom_X5_owedFor, ⟨_, rfl⟩, ⟨rfl, rfl⟩, dd_X5_owedFor, ⟨Nat.le_of_ble_eq_true rfl, Nat.le_of_ble_eq_true rfl⟩⟩
def mX5_count : MB := (cX5_count, 2, RX5, (some .int), wsX5_count, { frames := 2, cells := 0, slots := 0, locals := 45 })
theorem i_X5_count_X5 : ∀ x ∈ u_ws RX5 TX5 21, x ∈ wsX5_count := by decide +kernel
theorem f_X5_count_115 : Cond.fieldLink RX5 115 (TX5 10).1 (TX5 10).2.1 (TX5 10).2.2.1 ∈ wsX5_count := List.mem_of_getElem? (i := 1) rfl
theorem f_X5_count_118 : Cond.fieldLink RX5 118 (TX5 12).1 (TX5 12).2.1 (TX5 12).2.2.1 ∈ wsX5_count := List.mem_of_getElem? (i := 2) rfl
theorem f_X5_count_38 : Cond.fieldLink RX5 38 (TX5 13).1 (TX5 13).2.1 (TX5 13).2.2.1 ∈ wsX5_count := List.mem_of_getElem? (i := 3) rfl
theorem f_X5_count_7 : Cond.fieldLink RX5 7 (TX5 0).1 (TX5 0).2.1 (TX5 0).2.2.1 ∈ wsX5_count := List.mem_of_getElem? (i := 4) rfl
theorem f_X5_count_54 : Cond.fieldLink RX5 54 (TX5 3).1 (TX5 3).2.1 (TX5 3).2.2.1 ∈ wsX5_count := List.mem_of_getElem? (i := 5) rfl
theorem o_X5_count_185 : OkV mX5_count mX5_owedAll yX5_owedAll 185 1 RX5 := ⟨gX5_count_X5_owedAll, ⟨_, rfl⟩, ⟨rfl, rfl⟩, dd_X5_owedAll, ⟨Nat.le_of_ble_eq_true rfl, Nat.le_of_ble_eq_true rfl⟩⟩

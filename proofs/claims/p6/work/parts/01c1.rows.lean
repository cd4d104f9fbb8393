theorem dX2_add_16 : decode cX2_add 16 = .ok (.getfield 22, 3) := by decide +kernel
theorem dX2_add_19 : decode cX2_add 19 = .ok (.iload_n 1, 1) := by decide +kernel
theorem dX2_add_20 : decode cX2_add 20 = .ok (.iastore, 1) := by decide +kernel
theorem dX2_add_21 : decode cX2_add 21 = .ok (.aload_n 0, 1) := by decide +kernel
theorem dX2_add_22 : decode cX2_add 22 = .ok (.dup, 1) := by decide +kernel
theorem dX2_add_23 : decode cX2_add 23 = .ok (.getfield 22, 3) := by decide +kernel
theorem dX2_add_26 : decode cX2_add 26 = .ok (.iconst 1, 1) := by decide +kernel
theorem dX2_add_27 : decode cX2_add 27 = .ok (.iadd, 1) := by decide +kernel
theorem dX2_add_28 : decode cX2_add 28 = .ok (.putfield 22, 3) := by decide +kernel
theorem dX2_add_31 : decode cX2_add 31 = .ok (.return_, 1) := by decide +kernel
set_option maxRecDepth 20000 in
theorem ggX2_read_X3_copyFrom : GoodIn wsX2_read wsX3_copyFrom := goodIn_r _ [10, 11, 12, 13, 14, 15, 16, 17, 18, 19, 20, 21, 22, 23, 24, 152, 153, 154, 155, 156, 157, 158, 159, 160, 161] (by decide +kernel) (by decide +kernel)
set_option maxRecDepth 20000 in
theorem gX2_read_X3_copyFrom : GoodIn wsX2_read (wsV RX2 26 RX3 yX3_copyFrom wsX3_copyFrom) := goodIn_app (goodIn_of _ (by decide +kernel)) ggX2_read_X3_copyFrom
set_option maxRecDepth 20000 in
theorem ggX2_read_X2_nextToken : GoodIn wsX2_read wsX2_nextToken := goodIn_r _ [29, 3, 4, 30, 31, 5, 32, 33, 28, 34, 35, 36, 37, 38, 39, 40, 41, 42, 144, 145, 146, 147, 148, 149, 150, 151] (by decide +kernel) (by decide +kernel)
set_option maxRecDepth 20000 in
theorem gX2_read_X2_nextToken : GoodIn wsX2_read (wsV RX2 36 RX2 yX2_nextToken wsX2_nextToken) := goodIn_app (goodIn_of _ (by decide +kernel)) ggX2_read_X2_nextToken
set_option maxRecDepth 20000 in
theorem ggX2_read_X2_readLine : GoodIn wsX2_read wsX2_readLine := goodIn_r _ [46, 5, 47, 48, 49, 28, 50, 3, 4, 31, 51, 52, 53, 54, 55, 56, 57, 58, 59, 60, 61, 62, 63, 64, 65, 66, 67, 68, 69, 70, 71, 72, 73, 74, 75, 76, 77, 78, 79, 80, 81, 82, 83, 84, 85, 86, 87, 88, 89, 90, 91, 92, 93, 94, 95, 96, 97, 98, 99, 100, 101, 102, 103, 1, 104, 105, 106, 9, 107, 11, 21, 24, 25, 26, 27, 29, 30, 32, 33, 34, 35, 36, 37, 38, 39, 40, 41, 42, 108, 109, 110, 111, 112, 113, 114, 115, 116, 117, 118, 119, 120, 12, 17, 18, 19, 20, 121, 122, 123, 124, 125, 126, 127, 128, 129, 130, 131, 132, 133, 134, 22, 23, 135, 136, 137, 138, 139, 144, 145, 146, 147, 148, 149, 150, 151, 152, 153, 154, 155, 156, 157, 158, 159, 160, 161] (by decide +kernel) (by decide +kernel)
set_option maxRecDepth 20000 in
theorem gX2_read_X2_readLine : GoodIn wsX2_read (wsV RX2 39 RX2 yX2_readLine wsX2_readLine) := goodIn_app (goodIn_of _ (by decide +kernel)) ggX2_read_X2_readLine
set_option maxRecDepth 20000 in
theorem ggX2_read_X2_isAtSemicolon : GoodIn wsX2_read wsX2_isAtSemicolon := goodIn_r _ [143, 5, 31, 4, 144, 145, 146, 147, 148, 149, 150, 151] (by decide +kernel) (by decide +kernel)
set_option maxRecDepth 20000 in
theorem gX2_read_X2_isAtSemicolon : GoodIn wsX2_read (wsV RX2 49 RX2 yX2_isAtSemicolon wsX2_isAtSemicolon) := goodIn_app (goodIn_of _ (by decide +kernel)) ggX2_read_X2_isAtSemicolon
theorem dX2_read_0 : decode cX2_read 0 = .ok (.aload_n 0, 1) := by decide +kernel
theorem dX2_read_1 : decode cX2_read 1 = .ok (.getfield 18, 3) := by decide +kernel
theorem dX2_read_4 : decode cX2_read 4 = .ok (.aload_n 1, 1) := by decide +kernel
theorem dX2_read_5 : decode cX2_read 5 = .ok (.invokevirtual 26, 3) := by decide +kernel
theorem dX2_read_8 : decode cX2_read 8 = .ok (.aload_n 0, 1) := by decide +kernel
theorem dX2_read_9 : decode cX2_read 9 = .ok (.iconst 0, 1) := by decide +kernel
theorem dX2_read_10 : decode cX2_read 10 = .ok (.putfield 30, 3) := by decide +kernel
theorem dX2_read_13 : decode cX2_read 13 = .ok (.aload_n 0, 1) := by decide +kernel
theorem dX2_read_14 : decode cX2_read 14 = .ok (.iconst 0, 1) := by decide +kernel
theorem dX2_read_15 : decode cX2_read 15 = .ok (.putfield 33, 3) := by decide +kernel
theorem dX2_read_18 : decode cX2_read 18 = .ok (.aload_n 0, 1) := by decide +kernel
theorem dX2_read_19 : decode cX2_read 19 = .ok (.invokevirtual 36, 3) := by decide +kernel
theorem dX2_read_22 : decode cX2_read 22 = .ok (.iconst 0, 1) := by decide +kernel
theorem dX2_read_23 : decode cX2_read 23 = .ok (.istore_n 2, 1) := by decide +kernel
theorem dX2_read_24 : decode cX2_read 24 = .ok (.iload_n 2, 1) := by decide +kernel
theorem dX2_read_25 : decode cX2_read 25 = .ok (.bipush 12, 2) := by decide +kernel
theorem dX2_read_27 : decode cX2_read 27 = .ok (.if_icmp .ge 65, 3) := by decide +kernel
theorem dX2_read_30 : decode cX2_read 30 = .ok (.aload_n 0, 1) := by decide +kernel
theorem dX2_read_31 : decode cX2_read 31 = .ok (.invokevirtual 39, 3) := by decide +kernel
theorem dX2_read_34 : decode cX2_read 34 = .ok (.ifCond .ne 8, 3) := by decide +kernel
theorem dX2_read_37 : decode cX2_read 37 = .ok (.aload_n 0, 1) := by decide +kernel
theorem dX2_read_38 : decode cX2_read 38 = .ok (.getfield 43, 3) := by decide +kernel
theorem dX2_read_41 : decode cX2_read 41 = .ok (.ireturn, 1) := by decide +kernel
theorem dX2_read_42 : decode cX2_read 42 = .ok (.aload_n 0, 1) := by decide +kernel
theorem dX2_read_43 : decode cX2_read 43 = .ok (.dup, 1) := by decide +kernel
theorem dX2_read_44 : decode cX2_read 44 = .ok (.getfield 30, 3) := by decide +kernel
theorem dX2_read_47 : decode cX2_read 47 = .ok (.iconst 1, 1) := by decide +kernel
theorem dX2_read_48 : decode cX2_read 48 = .ok (.iadd, 1) := by decide +kernel
theorem dX2_read_49 : decode cX2_read 49 = .ok (.putfield 30, 3) := by decide +kernel
theorem dX2_read_52 : decode cX2_read 52 = .ok (.aload_n 0, 1) := by decide +kernel
theorem dX2_read_53 : decode cX2_read 53 = .ok (.getfield 46, 3) := by decide +kernel
theorem dX2_read_56 : decode cX2_read 56 = .ok (.ifCond .ne 5, 3) := by decide +kernel
theorem dX2_read_59 : decode cX2_read 59 = .ok (.iconst (-1), 1) := by decide +kernel
theorem dX2_read_60 : decode cX2_read 60 = .ok (.ireturn, 1) := by decide +kernel
theorem dX2_read_61 : decode cX2_read 61 = .ok (.aload_n 0, 1) := by decide +kernel
theorem dX2_read_62 : decode cX2_read 62 = .ok (.invokevirtual 49, 3) := by decide +kernel
theorem dX2_read_65 : decode cX2_read 65 = .ok (.ifCond .eq 12, 3) := by decide +kernel
theorem dX2_read_68 : decode cX2_read 68 = .ok (.aload_n 0, 1) := by decide +kernel
theorem dX2_read_69 : decode cX2_read 69 = .ok (.getfield 30, 3) := by decide +kernel
theorem dX2_read_72 : decode cX2_read 72 = .ok (.bipush 12, 2) := by decide +kernel
theorem dX2_read_74 : decode cX2_read 74 = .ok (.if_icmp .ne 8, 3) := by decide +kernel
theorem dX2_read_77 : decode cX2_read 77 = .ok (.aload_n 0, 1) := by decide +kernel
theorem dX2_read_78 : decode cX2_read 78 = .ok (.getfield 43, 3) := by decide +kernel
theorem dX2_read_81 : decode cX2_read 81 = .ok (.ireturn, 1) := by decide +kernel
theorem dX2_read_82 : decode cX2_read 82 = .ok (.aload_n 0, 1) := by decide +kernel
theorem dX2_read_83 : decode cX2_read 83 = .ok (.invokevirtual 36, 3) := by decide +kernel
theorem dX2_read_86 : decode cX2_read 86 = .ok (.iinc 2 1, 3) := by decide +kernel
theorem dX2_read_89 : decode cX2_read 89 = .ok (.goto (-65), 3) := by decide +kernel
theorem dX2_read_92 : decode cX2_read 92 = .ok (.aload_n 0, 1) := by decide +kernel
theorem dX2_read_93 : decode cX2_read 93 = .ok (.getfield 43, 3) := by decide +kernel
theorem dX2_read_96 : decode cX2_read 96 = .ok (.ireturn, 1) := by decide +kernel
theorem dX2_isAtSemicolon_0 : decode cX2_isAtSemicolon 0 = .ok (.aload_n 0, 1) := by decide +kernel
theorem dX2_isAtSemicolon_1 : decode cX2_isAtSemicolon 1 = .ok (.getfield 46, 3) := by decide +kernel
theorem dX2_isAtSemicolon_4 : decode cX2_isAtSemicolon 4 = .ok (.iconst 3, 1) := by decide +kernel
theorem dX2_isAtSemicolon_5 : decode cX2_isAtSemicolon 5 = .ok (.if_icmp .ne 21, 3) := by decide +kernel
theorem dX2_isAtSemicolon_8 : decode cX2_isAtSemicolon 8 = .ok (.aload_n 0, 1) := by decide +kernel
theorem dX2_isAtSemicolon_9 : decode cX2_isAtSemicolon 9 = .ok (.getfield 9, 3) := by decide +kernel
theorem dX2_isAtSemicolon_12 : decode cX2_isAtSemicolon 12 = .ok (.aload_n 0, 1) := by decide +kernel
theorem dX2_isAtSemicolon_13 : decode cX2_isAtSemicolon 13 = .ok (.getfield 43, 3) := by decide +kernel
theorem dX2_isAtSemicolon_16 : decode cX2_isAtSemicolon 16 = .ok (.iaload, 1) := by decide +kernel
theorem dX2_isAtSemicolon_17 : decode cX2_isAtSemicolon 17 = .ok (.bipush 59, 2) := by decide +kernel
theorem dX2_isAtSemicolon_19 : decode cX2_isAtSemicolon 19 = .ok (.if_icmp .ne 7, 3) := by decide +kernel
theorem dX2_isAtSemicolon_22 : decode cX2_isAtSemicolon 22 = .ok (.iconst 1, 1) := by decide +kernel
theorem dX2_isAtSemicolon_23 : decode cX2_isAtSemicolon 23 = .ok (.goto 4, 3) := by decide +kernel
theorem dX2_isAtSemicolon_26 : decode cX2_isAtSemicolon 26 = .ok (.iconst 0, 1) := by decide +kernel
theorem dX2_isAtSemicolon_27 : decode cX2_isAtSemicolon 27 = .ok (.ireturn, 1) := by decide +kernel
set_option maxRecDepth 20000 in
theorem ggX2_readLine_X2_isWord : GoodIn wsX2_readLine wsX2_isWord := goodIn_r _ [6, 7, 8, 9, 10, 11, 12, 13, 14, 15, 16, 17, 18, 19, 20, 21, 22, 23, 24, 25, 26, 27, 28, 29, 30, 31, 32, 33, 34, 35, 36, 37, 38, 39, 40, 41, 42, 43, 44, 45, 46, 47, 48, 49, 50, 51, 52, 53, 54, 55, 56, 57, 58, 127, 128, 129, 130, 131, 132, 133, 134] (by decide +kernel) (by decide +kernel)
set_option maxRecDepth 20000 in
theorem gX2_readLine_X2_isWord : GoodIn wsX2_readLine (wsV RX2 54 RX2 yX2_isWord wsX2_isWord) := goodIn_app (goodIn_of _ (by decide +kernel)) ggX2_readLine_X2_isWord
set_option maxRecDepth 20000 in
theorem ggX2_readLine_X2_readWood : GoodIn wsX2_readLine wsX2_readWood := goodIn_r _ [62, 63, 64, 65, 66, 67, 68, 69, 70, 71, 72, 73, 74, 5, 75, 7, 8, 76, 9, 1, 77, 78, 79, 80, 81, 82, 83, 84, 85, 86, 87, 127, 128, 129, 130, 131, 132, 133, 134, 135, 136, 137, 138, 139, 140, 141, 142, 143, 144] (by decide +kernel) (by decide +kernel)
set_option maxRecDepth 20000 in
theorem gX2_readLine_X2_readWood : GoodIn wsX2_readLine (wsV RX2 58 RX2 yX2_readWood wsX2_readWood) := goodIn_app (goodIn_of _ (by decide +kernel)) ggX2_readLine_X2_readWood
set_option maxRecDepth 20000 in
theorem ggX2_readLine_X2_readTree : GoodIn wsX2_readLine wsX2_readTree := goodIn_r _ [91, 63, 92, 72, 73, 74, 5, 75, 7, 8, 76, 9, 1, 77, 78, 79, 80, 81, 82, 83, 84, 85, 86, 87, 93, 94, 95, 96, 97, 98, 99, 67, 100, 69, 101, 102, 103, 104, 105, 127, 128, 129, 130, 131, 132, 133, 134, 135, 136, 137, 138, 139, 140, 141, 142, 143, 144] (by decide +kernel) (by decide +kernel)
set_option maxRecDepth 20000 in
theorem gX2_readLine_X2_readTree : GoodIn wsX2_readLine (wsV RX2 63 RX2 yX2_readTree wsX2_readTree) := goodIn_app (goodIn_of _ (by decide +kernel)) ggX2_readLine_X2_readTree
set_option maxRecDepth 20000 in
theorem ggX2_readLine_X2_readPart : GoodIn wsX2_readLine wsX2_readPart := goodIn_r _ [109, 63, 92, 110, 72, 73, 74, 5, 75, 7, 8, 76, 9, 1, 77, 78, 79, 80, 81, 82, 83, 84, 85, 86, 87, 93, 94, 95, 96, 127, 128, 129, 130, 131, 132, 133, 134, 135, 136, 137, 138, 139, 140, 141, 142, 143, 144] (by decide +kernel) (by decide +kernel)
set_option maxRecDepth 20000 in
theorem gX2_readLine_X2_readPart : GoodIn wsX2_readLine (wsV RX2 75 RX2 yX2_readPart wsX2_readPart) := goodIn_app (goodIn_of _ (by decide +kernel)) ggX2_readLine_X2_readPart
set_option maxRecDepth 20000 in
theorem ggX2_readLine_X2_readQuarrel : GoodIn wsX2_readLine wsX2_readQuarrel := goodIn_r _ [114, 63, 115, 92, 1, 87, 72, 73, 74, 5, 75, 7, 8, 76, 9, 77, 78, 79, 80, 81, 82, 83, 84, 85, 86, 93, 94, 95, 96, 116, 117, 118, 67, 119, 70, 120, 121, 127, 128, 129, 130, 131, 132, 133, 134, 135, 136, 137, 138, 139, 140, 141, 142, 143, 144] (by decide +kernel) (by decide +kernel)
set_option maxRecDepth 20000 in
theorem gX2_readLine_X2_readQuarrel : GoodIn wsX2_readLine (wsV RX2 80 RX2 yX2_readQuarrel wsX2_readQuarrel) := goodIn_app (goodIn_of _ (by decide +kernel)) ggX2_readLine_X2_readQuarrel
set_option maxRecDepth 20000 in
theorem ggX2_readLine_X2_readHands : GoodIn wsX2_readLine wsX2_readHands := goodIn_r _ [125, 63, 126, 72, 73, 74, 5, 75, 7, 8, 76, 9, 1, 77, 78, 79, 80, 81, 82, 83, 84, 85, 86, 87, 93, 94, 95, 96, 127, 128, 129, 130, 131, 132, 133, 134, 135, 136, 137, 138, 139, 140, 141, 142, 143, 144] (by decide +kernel) (by decide +kernel)
set_option maxRecDepth 20000 in
theorem gX2_readLine_X2_readHands : GoodIn wsX2_readLine (wsV RX2 85 RX2 yX2_readHands wsX2_readHands) := goodIn_app (goodIn_of _ (by decide +kernel)) ggX2_readLine_X2_readHands
theorem dX2_readLine_0 : decode cX2_readLine 0 = .ok (.aload_n 0, 1) := by decide +kernel
theorem dX2_readLine_1 : decode cX2_readLine 1 = .ok (.getfield 46, 3) := by decide +kernel
theorem dX2_readLine_4 : decode cX2_readLine 4 = .ok (.iconst 1, 1) := by decide +kernel
theorem dX2_readLine_5 : decode cX2_readLine 5 = .ok (.if_icmp .eq 5, 3) := by decide +kernel
theorem dX2_readLine_8 : decode cX2_readLine 8 = .ok (.iconst 0, 1) := by decide +kernel
theorem dX2_readLine_9 : decode cX2_readLine 9 = .ok (.ireturn, 1) := by decide +kernel
theorem dX2_readLine_10 : decode cX2_readLine 10 = .ok (.aload_n 0, 1) := by decide +kernel
theorem dX2_readLine_11 : decode cX2_readLine 11 = .ok (.ldc 52, 2) := by decide +kernel
theorem dX2_readLine_13 : decode cX2_readLine 13 = .ok (.invokevirtual 54, 3) := by decide +kernel
theorem dX2_readLine_16 : decode cX2_readLine 16 = .ok (.ifCond .eq 8, 3) := by decide +kernel
theorem dX2_readLine_19 : decode cX2_readLine 19 = .ok (.aload_n 0, 1) := by decide +kernel
theorem dX2_readLine_20 : decode cX2_readLine 20 = .ok (.invokevirtual 58, 3) := by decide +kernel
theorem dX2_readLine_23 : decode cX2_readLine 23 = .ok (.ireturn, 1) := by decide +kernel
theorem dX2_readLine_24 : decode cX2_readLine 24 = .ok (.aload_n 0, 1) := by decide +kernel
theorem dX2_readLine_25 : decode cX2_readLine 25 = .ok (.ldc 61, 2) := by decide +kernel
theorem dX2_readLine_27 : decode cX2_readLine 27 = .ok (.invokevirtual 54, 3) := by decide +kernel
theorem dX2_readLine_30 : decode cX2_readLine 30 = .ok (.ifCond .eq 9, 3) := by decide +kernel
theorem dX2_readLine_33 : decode cX2_readLine 33 = .ok (.aload_n 0, 1) := by decide +kernel
theorem dX2_readLine_34 : decode cX2_readLine 34 = .ok (.iconst 0, 1) := by decide +kernel
theorem dX2_readLine_35 : decode cX2_readLine 35 = .ok (.invokevirtual 63, 3) := by decide +kernel
theorem dX2_readLine_38 : decode cX2_readLine 38 = .ok (.ireturn, 1) := by decide +kernel
theorem dX2_readLine_39 : decode cX2_readLine 39 = .ok (.aload_n 0, 1) := by decide +kernel
theorem dX2_readLine_40 : decode cX2_readLine 40 = .ok (.ldc 67, 2) := by decide +kernel
theorem dX2_readLine_42 : decode cX2_readLine 42 = .ok (.invokevirtual 54, 3) := by decide +kernel
theorem dX2_readLine_45 : decode cX2_readLine 45 = .ok (.ifCond .eq 9, 3) := by decide +kernel
theorem dX2_readLine_48 : decode cX2_readLine 48 = .ok (.aload_n 0, 1) := by decide +kernel
theorem dX2_readLine_49 : decode cX2_readLine 49 = .ok (.iconst 1, 1) := by decide +kernel
theorem dX2_readLine_50 : decode cX2_readLine 50 = .ok (.invokevirtual 63, 3) := by decide +kernel
theorem dX2_readLine_53 : decode cX2_readLine 53 = .ok (.ireturn, 1) := by decide +kernel
theorem dX2_readLine_54 : decode cX2_readLine 54 = .ok (.aload_n 0, 1) := by decide +kernel
theorem dX2_readLine_55 : decode cX2_readLine 55 = .ok (.ldc 69, 2) := by decide +kernel
theorem dX2_readLine_57 : decode cX2_readLine 57 = .ok (.invokevirtual 54, 3) := by decide +kernel
theorem dX2_readLine_60 : decode cX2_readLine 60 = .ok (.ifCond .eq 9, 3) := by decide +kernel
theorem dX2_readLine_63 : decode cX2_readLine 63 = .ok (.aload_n 0, 1) := by decide +kernel
theorem dX2_readLine_64 : decode cX2_readLine 64 = .ok (.iconst 2, 1) := by decide +kernel
theorem dX2_readLine_65 : decode cX2_readLine 65 = .ok (.invokevirtual 63, 3) := by decide +kernel
theorem dX2_readLine_68 : decode cX2_readLine 68 = .ok (.ireturn, 1) := by decide +kernel
theorem dX2_readLine_69 : decode cX2_readLine 69 = .ok (.aload_n 0, 1) := by decide +kernel
theorem dX2_readLine_70 : decode cX2_readLine 70 = .ok (.ldc 71, 2) := by decide +kernel
theorem dX2_readLine_72 : decode cX2_readLine 72 = .ok (.invokevirtual 54, 3) := by decide +kernel
theorem dX2_readLine_75 : decode cX2_readLine 75 = .ok (.ifCond .eq 9, 3) := by decide +kernel
theorem dX2_readLine_78 : decode cX2_readLine 78 = .ok (.aload_n 0, 1) := by decide +kernel
theorem dX2_readLine_79 : decode cX2_readLine 79 = .ok (.iconst 3, 1) := by decide +kernel
theorem dX2_readLine_80 : decode cX2_readLine 80 = .ok (.invokevirtual 63, 3) := by decide +kernel
theorem dX2_readLine_83 : decode cX2_readLine 83 = .ok (.ireturn, 1) := by decide +kernel
theorem dX2_readLine_84 : decode cX2_readLine 84 = .ok (.aload_n 0, 1) := by decide +kernel
theorem dX2_readLine_85 : decode cX2_readLine 85 = .ok (.ldc 73, 2) := by decide +kernel
theorem dX2_readLine_87 : decode cX2_readLine 87 = .ok (.invokevirtual 54, 3) := by decide +kernel
theorem dX2_readLine_90 : decode cX2_readLine 90 = .ok (.ifCond .eq 8, 3) := by decide +kernel
theorem dX2_readLine_93 : decode cX2_readLine 93 = .ok (.aload_n 0, 1) := by decide +kernel
theorem dX2_readLine_94 : decode cX2_readLine 94 = .ok (.invokevirtual 75, 3) := by decide +kernel
theorem dX2_readLine_97 : decode cX2_readLine 97 = .ok (.ireturn, 1) := by decide +kernel
theorem dX2_readLine_98 : decode cX2_readLine 98 = .ok (.aload_n 0, 1) := by decide +kernel
theorem dX2_readLine_99 : decode cX2_readLine 99 = .ok (.ldc 78, 2) := by decide +kernel
theorem dX2_readLine_101 : decode cX2_readLine 101 = .ok (.invokevirtual 54, 3) := by decide +kernel
theorem dX2_readLine_104 : decode cX2_readLine 104 = .ok (.ifCond .eq 8, 3) := by decide +kernel
theorem dX2_readLine_107 : decode cX2_readLine 107 = .ok (.aload_n 0, 1) := by decide +kernel
theorem dX2_readLine_108 : decode cX2_readLine 108 = .ok (.invokevirtual 80, 3) := by decide +kernel
theorem dX2_readLine_111 : decode cX2_readLine 111 = .ok (.ireturn, 1) := by decide +kernel
theorem dX2_readLine_112 : decode cX2_readLine 112 = .ok (.aload_n 0, 1) := by decide +kernel
theorem dX2_readLine_113 : decode cX2_readLine 113 = .ok (.ldc 83, 2) := by decide +kernel
theorem dX2_readLine_115 : decode cX2_readLine 115 = .ok (.invokevirtual 54, 3) := by decide +kernel
theorem dX2_readLine_118 : decode cX2_readLine 118 = .ok (.ifCond .eq 8, 3) := by decide +kernel
theorem dX2_readLine_121 : decode cX2_readLine 121 = .ok (.aload_n 0, 1) := by decide +kernel
theorem dX2_readLine_122 : decode cX2_readLine 122 = .ok (.invokevirtual 85, 3) := by decide +kernel
theorem dX2_readLine_125 : decode cX2_readLine 125 = .ok (.ireturn, 1) := by decide +kernel
theorem dX2_readLine_126 : decode cX2_readLine 126 = .ok (.iconst 0, 1) := by decide +kernel
theorem dX2_readLine_127 : decode cX2_readLine 127 = .ok (.ireturn, 1) := by decide +kernel
set_option maxRecDepth 20000 in
theorem ggX2_readWood_X3_forget : GoodIn wsX2_readWood wsX3_forget := goodIn_r _ [6, 7, 8, 9, 39, 40, 41, 42, 43, 44, 45, 46, 47, 48] (by decide +kernel) (by decide +kernel)
set_option maxRecDepth 20000 in
theorem gX2_readWood_X3_forget : GoodIn wsX2_readWood (wsV RX2 88 RX3 yX3_forget wsX3_forget) := goodIn_app (goodIn_of _ (by decide +kernel)) ggX2_readWood_X3_forget
set_option maxRecDepth 20000 in
theorem ggX2_readWood_X2_nextToken : GoodIn wsX2_readWood wsX2_nextToken := goodIn_r _ [14, 15, 16, 17, 18, 19, 20, 21, 13, 22, 23, 24, 25, 26, 27, 28, 29, 30, 31, 32, 33, 34, 35, 36, 37, 38] (by decide +kernel) (by decide +kernel)
set_option maxRecDepth 20000 in
theorem gX2_readWood_X2_nextToken : GoodIn wsX2_readWood (wsV RX2 36 RX2 yX2_nextToken wsX2_nextToken) := goodIn_app (goodIn_of _ (by decide +kernel)) ggX2_readWood_X2_nextToken
theorem dX2_readWood_0 : decode cX2_readWood 0 = .ok (.aload_n 0, 1) := by decide +kernel
theorem dX2_readWood_1 : decode cX2_readWood 1 = .ok (.getfield 18, 3) := by decide +kernel
theorem dX2_readWood_4 : decode cX2_readWood 4 = .ok (.invokevirtual 88, 3) := by decide +kernel
theorem dX2_readWood_7 : decode cX2_readWood 7 = .ok (.aload_n 0, 1) := by decide +kernel
theorem dX2_readWood_8 : decode cX2_readWood 8 = .ok (.invokevirtual 36, 3) := by decide +kernel
theorem dX2_readWood_11 : decode cX2_readWood 11 = .ok (.iconst 1, 1) := by decide +kernel
theorem dX2_readWood_12 : decode cX2_readWood 12 = .ok (.ireturn, 1) := by decide +kernel
set_option maxRecDepth 20000 in
theorem ggX2_readTree_X2_nextToken : GoodIn wsX2_readTree wsX2_nextToken := goodIn_r _ [7, 8, 9, 10, 11, 12, 13, 14, 6, 15, 16, 17, 18, 19, 20, 21, 22, 23, 39, 40, 41, 42, 43, 44, 45, 46] (by decide +kernel) (by decide +kernel)
set_option maxRecDepth 20000 in
theorem gX2_readTree_X2_nextToken : GoodIn wsX2_readTree (wsV RX2 36 RX2 yX2_nextToken wsX2_nextToken) := goodIn_app (goodIn_of _ (by decide +kernel)) ggX2_readTree_X2_nextToken
set_option maxRecDepth 20000 in
theorem ggX2_readTree_X2_readNumber : GoodIn wsX2_readTree wsX2_readNumber := goodIn_r _ [27, 12, 8, 9, 23, 3, 4, 5, 6, 7, 10, 11, 13, 14, 15, 16, 17, 18, 19, 20, 21, 22, 39, 40, 41, 42, 43, 44, 45, 46] (by decide +kernel) (by decide +kernel)
set_option maxRecDepth 20000 in
theorem gX2_readTree_X2_readNumber : GoodIn wsX2_readTree (wsV RX2 94 RX2 yX2_readNumber wsX2_readNumber) := goodIn_app (goodIn_of _ (by decide +kernel)) ggX2_readTree_X2_readNumber
set_option maxRecDepth 20000 in
theorem ggX2_readTree_X3_addTree : GoodIn wsX2_readTree wsX3_addTree := goodIn_r _ [32, 33, 34, 35, 36, 37, 38, 47, 48, 49, 50, 51, 52, 53, 54, 55, 56] (by decide +kernel) (by decide +kernel)
set_option maxRecDepth 20000 in
theorem gX2_readTree_X3_addTree : GoodIn wsX2_readTree (wsV RX2 98 RX3 yX3_addTree wsX3_addTree) := goodIn_app (goodIn_of _ (by decide +kernel)) ggX2_readTree_X3_addTree
theorem dX2_readTree_0 : decode cX2_readTree 0 = .ok (.aload_n 0, 1) := by decide +kernel
theorem dX2_readTree_1 : decode cX2_readTree 1 = .ok (.getfield 18, 3) := by decide +kernel
theorem dX2_readTree_4 : decode cX2_readTree 4 = .ok (.getfield 91, 3) := by decide +kernel
theorem dX2_readTree_7 : decode cX2_readTree 7 = .ok (.bipush 6, 2) := by decide +kernel
theorem dX2_readTree_9 : decode cX2_readTree 9 = .ok (.if_icmp .lt 5, 3) := by decide +kernel
theorem dX2_readTree_12 : decode cX2_readTree 12 = .ok (.iconst 0, 1) := by decide +kernel
theorem dX2_readTree_13 : decode cX2_readTree 13 = .ok (.ireturn, 1) := by decide +kernel
theorem dX2_readTree_14 : decode cX2_readTree 14 = .ok (.aload_n 0, 1) := by decide +kernel
theorem dX2_readTree_15 : decode cX2_readTree 15 = .ok (.invokevirtual 36, 3) := by decide +kernel
theorem dX2_readTree_18 : decode cX2_readTree 18 = .ok (.aload_n 0, 1) := by decide +kernel
theorem dX2_readTree_19 : decode cX2_readTree 19 = .ok (.iconst 0, 1) := by decide +kernel
theorem dX2_readTree_20 : decode cX2_readTree 20 = .ok (.bipush 99, 2) := by decide +kernel
theorem dX2_readTree_22 : decode cX2_readTree 22 = .ok (.invokevirtual 94, 3) := by decide +kernel
theorem dX2_readTree_25 : decode cX2_readTree 25 = .ok (.istore_n 2, 1) := by decide +kernel
theorem dX2_readTree_26 : decode cX2_readTree 26 = .ok (.iload_n 2, 1) := by decide +kernel
theorem dX2_readTree_27 : decode cX2_readTree 27 = .ok (.iconst (-1), 1) := by decide +kernel
theorem dX2_readTree_28 : decode cX2_readTree 28 = .ok (.if_icmp .ne 5, 3) := by decide +kernel
theorem dX2_readTree_31 : decode cX2_readTree 31 = .ok (.iconst 0, 1) := by decide +kernel
theorem dX2_readTree_32 : decode cX2_readTree 32 = .ok (.ireturn, 1) := by decide +kernel
theorem dX2_readTree_33 : decode cX2_readTree 33 = .ok (.aload_n 0, 1) := by decide +kernel
theorem dX2_readTree_34 : decode cX2_readTree 34 = .ok (.iconst 0, 1) := by decide +kernel
theorem dX2_readTree_35 : decode cX2_readTree 35 = .ok (.bipush 50, 2) := by decide +kernel
theorem dX2_readTree_37 : decode cX2_readTree 37 = .ok (.invokevirtual 94, 3) := by decide +kernel
theorem dX2_readTree_40 : decode cX2_readTree 40 = .ok (.istore_n 3, 1) := by decide +kernel
theorem dX2_readTree_41 : decode cX2_readTree 41 = .ok (.iload_n 3, 1) := by decide +kernel
theorem dX2_readTree_42 : decode cX2_readTree 42 = .ok (.iconst (-1), 1) := by decide +kernel
theorem dX2_readTree_43 : decode cX2_readTree 43 = .ok (.if_icmp .ne 5, 3) := by decide +kernel
theorem dX2_readTree_46 : decode cX2_readTree 46 = .ok (.iconst 0, 1) := by decide +kernel
theorem dX2_readTree_47 : decode cX2_readTree 47 = .ok (.ireturn, 1) := by decide +kernel
theorem dX2_readTree_48 : decode cX2_readTree 48 = .ok (.aload_n 0, 1) := by decide +kernel
theorem dX2_readTree_49 : decode cX2_readTree 49 = .ok (.iconst 1, 1) := by decide +kernel
theorem dX2_readTree_50 : decode cX2_readTree 50 = .ok (.bipush 99, 2) := by decide +kernel
theorem dX2_readTree_52 : decode cX2_readTree 52 = .ok (.invokevirtual 94, 3) := by decide +kernel
theorem dX2_readTree_55 : decode cX2_readTree 55 = .ok (.istore 4, 2) := by decide +kernel
theorem dX2_readTree_57 : decode cX2_readTree 57 = .ok (.iload 4, 2) := by decide +kernel
theorem dX2_readTree_59 : decode cX2_readTree 59 = .ok (.iconst (-1), 1) := by decide +kernel
theorem dX2_readTree_60 : decode cX2_readTree 60 = .ok (.if_icmp .ne 5, 3) := by decide +kernel
theorem dX2_readTree_63 : decode cX2_readTree 63 = .ok (.iconst 0, 1) := by decide +kernel
theorem dX2_readTree_64 : decode cX2_readTree 64 = .ok (.ireturn, 1) := by decide +kernel
theorem dX2_readTree_65 : decode cX2_readTree 65 = .ok (.aload_n 0, 1) := by decide +kernel
theorem dX2_readTree_66 : decode cX2_readTree 66 = .ok (.getfield 18, 3) := by decide +kernel
theorem dX2_readTree_69 : decode cX2_readTree 69 = .ok (.iload_n 1, 1) := by decide +kernel
theorem dX2_readTree_70 : decode cX2_readTree 70 = .ok (.iload_n 2, 1) := by decide +kernel
theorem dX2_readTree_71 : decode cX2_readTree 71 = .ok (.iload_n 3, 1) := by decide +kernel
theorem dX2_readTree_72 : decode cX2_readTree 72 = .ok (.iload 4, 2) := by decide +kernel
theorem dX2_readTree_74 : decode cX2_readTree 74 = .ok (.invokevirtual 98, 3) := by decide +kernel
theorem dX2_readTree_77 : decode cX2_readTree 77 = .ok (.iconst 1, 1) := by decide +kernel
theorem dX2_readTree_78 : decode cX2_readTree 78 = .ok (.ireturn, 1) := by decide +kernel
set_option maxRecDepth 20000 in
theorem ggX2_readPart_X2_nextToken : GoodIn wsX2_readPart wsX2_nextToken := goodIn_r _ [8, 9, 10, 11, 12, 13, 14, 15, 7, 16, 17, 18, 19, 20, 21, 22, 23, 24, 29, 30, 31, 32, 33, 34, 35, 36] (by decide +kernel) (by decide +kernel)
set_option maxRecDepth 20000 in
theorem gX2_readPart_X2_nextToken : GoodIn wsX2_readPart (wsV RX2 36 RX2 yX2_nextToken wsX2_nextToken) := goodIn_app (goodIn_of _ (by decide +kernel)) ggX2_readPart_X2_nextToken
set_option maxRecDepth 20000 in
theorem ggX2_readPart_X2_readNumber : GoodIn wsX2_readPart wsX2_readNumber := goodIn_r _ [28, 13, 9, 10, 24, 4, 5, 6, 7, 8, 11, 12, 14, 15, 16, 17, 18, 19, 20, 21, 22, 23, 29, 30, 31, 32, 33, 34, 35, 36] (by decide +kernel) (by decide +kernel)
set_option maxRecDepth 20000 in
theorem gX2_readPart_X2_readNumber : GoodIn wsX2_readPart (wsV RX2 94 RX2 yX2_readNumber wsX2_readNumber) := goodIn_app (goodIn_of _ (by decide +kernel)) ggX2_readPart_X2_readNumber
theorem dX2_readPart_0 : decode cX2_readPart 0 = .ok (.aload_n 0, 1) := by decide +kernel
theorem dX2_readPart_1 : decode cX2_readPart 1 = .ok (.invokevirtual 36, 3) := by decide +kernel
theorem dX2_readPart_4 : decode cX2_readPart 4 = .ok (.aload_n 0, 1) := by decide +kernel
theorem dX2_readPart_5 : decode cX2_readPart 5 = .ok (.iconst 0, 1) := by decide +kernel
theorem dX2_readPart_6 : decode cX2_readPart 6 = .ok (.aload_n 0, 1) := by decide +kernel
theorem dX2_readPart_7 : decode cX2_readPart 7 = .ok (.getfield 18, 3) := by decide +kernel
theorem dX2_readPart_10 : decode cX2_readPart 10 = .ok (.getfield 91, 3) := by decide +kernel
theorem dX2_readPart_13 : decode cX2_readPart 13 = .ok (.iconst 1, 1) := by decide +kernel
theorem dX2_readPart_14 : decode cX2_readPart 14 = .ok (.isub, 1) := by decide +kernel
theorem dX2_readPart_15 : decode cX2_readPart 15 = .ok (.invokevirtual 94, 3) := by decide +kernel
theorem dX2_readPart_18 : decode cX2_readPart 18 = .ok (.istore_n 1, 1) := by decide +kernel
theorem dX2_readPart_19 : decode cX2_readPart 19 = .ok (.iload_n 1, 1) := by decide +kernel
theorem dX2_readPart_20 : decode cX2_readPart 20 = .ok (.iconst (-1), 1) := by decide +kernel
theorem dX2_readPart_21 : decode cX2_readPart 21 = .ok (.if_icmp .ne 5, 3) := by decide +kernel
theorem dX2_readPart_24 : decode cX2_readPart 24 = .ok (.iconst 0, 1) := by decide +kernel
theorem dX2_readPart_25 : decode cX2_readPart 25 = .ok (.ireturn, 1) := by decide +kernel
theorem dX2_readPart_26 : decode cX2_readPart 26 = .ok (.aload_n 0, 1) := by decide +kernel
theorem dX2_readPart_27 : decode cX2_readPart 27 = .ok (.iconst 0, 1) := by decide +kernel
theorem dX2_readPart_28 : decode cX2_readPart 28 = .ok (.bipush 9, 2) := by decide +kernel
theorem dX2_readPart_30 : decode cX2_readPart 30 = .ok (.invokevirtual 94, 3) := by decide +kernel
theorem dX2_readPart_33 : decode cX2_readPart 33 = .ok (.istore_n 2, 1) := by decide +kernel
theorem dX2_readPart_34 : decode cX2_readPart 34 = .ok (.iload_n 2, 1) := by decide +kernel
theorem dX2_readPart_35 : decode cX2_readPart 35 = .ok (.iconst (-1), 1) := by decide +kernel
theorem dX2_readPart_36 : decode cX2_readPart 36 = .ok (.if_icmp .ne 5, 3) := by decide +kernel
theorem dX2_readPart_39 : decode cX2_readPart 39 = .ok (.iconst 0, 1) := by decide +kernel
theorem dX2_readPart_40 : decode cX2_readPart 40 = .ok (.ireturn, 1) := by decide +kernel
theorem dX2_readPart_41 : decode cX2_readPart 41 = .ok (.aload_n 0, 1) := by decide +kernel
theorem dX2_readPart_42 : decode cX2_readPart 42 = .ok (.getfield 18, 3) := by decide +kernel
theorem dX2_readPart_45 : decode cX2_readPart 45 = .ok (.getfield 102, 3) := by decide +kernel
theorem dX2_readPart_48 : decode cX2_readPart 48 = .ok (.iload_n 1, 1) := by decide +kernel
theorem dX2_readPart_49 : decode cX2_readPart 49 = .ok (.iload_n 2, 1) := by decide +kernel
theorem dX2_readPart_50 : decode cX2_readPart 50 = .ok (.iastore, 1) := by decide +kernel
theorem dX2_readPart_51 : decode cX2_readPart 51 = .ok (.iconst 1, 1) := by decide +kernel
theorem dX2_readPart_52 : decode cX2_readPart 52 = .ok (.ireturn, 1) := by decide +kernel
set_option maxRecDepth 20000 in
theorem ggX2_readQuarrel_X2_nextToken : GoodIn wsX2_readQuarrel wsX2_nextToken := goodIn_r _ [10, 11, 12, 13, 14, 4, 15, 16, 9, 17, 18, 19, 20, 21, 22, 23, 24, 5, 37, 38, 39, 40, 41, 42, 43, 44] (by decide +kernel) (by decide +kernel)
set_option maxRecDepth 20000 in
theorem gX2_readQuarrel_X2_nextToken : GoodIn wsX2_readQuarrel (wsV RX2 36 RX2 yX2_nextToken wsX2_nextToken) := goodIn_app (goodIn_of _ (by decide +kernel)) ggX2_readQuarrel_X2_nextToken
set_option maxRecDepth 20000 in
theorem ggX2_readQuarrel_X2_readNumber : GoodIn wsX2_readQuarrel wsX2_readNumber := goodIn_r _ [28, 4, 11, 12, 5, 6, 7, 8, 9, 10, 13, 14, 15, 16, 17, 18, 19, 20, 21, 22, 23, 24, 37, 38, 39, 40, 41, 42, 43, 44] (by decide +kernel) (by decide +kernel)
set_option maxRecDepth 20000 in
theorem gX2_readQuarrel_X2_readNumber : GoodIn wsX2_readQuarrel (wsV RX2 94 RX2 yX2_readNumber wsX2_readNumber) := goodIn_app (goodIn_of _ (by decide +kernel)) ggX2_readQuarrel_X2_readNumber
set_option maxRecDepth 20000 in
theorem ggX2_readQuarrel_X3_addQuarrel : GoodIn wsX2_readQuarrel wsX3_addQuarrel := goodIn_r _ [33, 34, 35, 36, 45, 46, 47, 48, 49, 50, 51, 52, 53, 54] (by decide +kernel) (by decide +kernel)
set_option maxRecDepth 20000 in
theorem gX2_readQuarrel_X3_addQuarrel : GoodIn wsX2_readQuarrel (wsV RX2 111 RX3 yX3_addQuarrel wsX3_addQuarrel) := goodIn_app (goodIn_of _ (by decide +kernel)) ggX2_readQuarrel_X3_addQuarrel
theorem dX2_readQuarrel_0 : decode cX2_readQuarrel 0 = .ok (.aload_n 0, 1) := by decide +kernel
theorem dX2_readQuarrel_1 : decode cX2_readQuarrel 1 = .ok (.getfield 18, 3) := by decide +kernel
theorem dX2_readQuarrel_4 : decode cX2_readQuarrel 4 = .ok (.getfield 105, 3) := by decide +kernel
theorem dX2_readQuarrel_7 : decode cX2_readQuarrel 7 = .ok (.bipush 6, 2) := by decide +kernel
theorem dX2_readQuarrel_9 : decode cX2_readQuarrel 9 = .ok (.if_icmp .lt 5, 3) := by decide +kernel
theorem dX2_readQuarrel_12 : decode cX2_readQuarrel 12 = .ok (.iconst 0, 1) := by decide +kernel
theorem dX2_readQuarrel_13 : decode cX2_readQuarrel 13 = .ok (.ireturn, 1) := by decide +kernel
theorem dX2_readQuarrel_14 : decode cX2_readQuarrel 14 = .ok (.aload_n 0, 1) := by decide +kernel
theorem dX2_readQuarrel_15 : decode cX2_readQuarrel 15 = .ok (.invokevirtual 36, 3) := by decide +kernel
theorem dX2_readQuarrel_18 : decode cX2_readQuarrel 18 = .ok (.aload_n 0, 1) := by decide +kernel
theorem dX2_readQuarrel_19 : decode cX2_readQuarrel 19 = .ok (.iconst 0, 1) := by decide +kernel
theorem dX2_readQuarrel_20 : decode cX2_readQuarrel 20 = .ok (.aload_n 0, 1) := by decide +kernel
theorem dX2_readQuarrel_21 : decode cX2_readQuarrel 21 = .ok (.getfield 18, 3) := by decide +kernel
theorem dX2_readQuarrel_24 : decode cX2_readQuarrel 24 = .ok (.getfield 91, 3) := by decide +kernel
theorem dX2_readQuarrel_27 : decode cX2_readQuarrel 27 = .ok (.iconst 1, 1) := by decide +kernel
theorem dX2_readQuarrel_28 : decode cX2_readQuarrel 28 = .ok (.isub, 1) := by decide +kernel
theorem dX2_readQuarrel_29 : decode cX2_readQuarrel 29 = .ok (.invokevirtual 94, 3) := by decide +kernel
theorem dX2_readQuarrel_32 : decode cX2_readQuarrel 32 = .ok (.istore_n 1, 1) := by decide +kernel
theorem dX2_readQuarrel_33 : decode cX2_readQuarrel 33 = .ok (.iload_n 1, 1) := by decide +kernel
theorem dX2_readQuarrel_34 : decode cX2_readQuarrel 34 = .ok (.iconst (-1), 1) := by decide +kernel
theorem dX2_readQuarrel_35 : decode cX2_readQuarrel 35 = .ok (.if_icmp .ne 5, 3) := by decide +kernel
theorem dX2_readQuarrel_38 : decode cX2_readQuarrel 38 = .ok (.iconst 0, 1) := by decide +kernel
theorem dX2_readQuarrel_39 : decode cX2_readQuarrel 39 = .ok (.ireturn, 1) := by decide +kernel
theorem dX2_readQuarrel_40 : decode cX2_readQuarrel 40 = .ok (.aload_n 0, 1) := by decide +kernel
theorem dX2_readQuarrel_41 : decode cX2_readQuarrel 41 = .ok (.getfield 46, 3) := by decide +kernel
theorem dX2_readQuarrel_44 : decode cX2_readQuarrel 44 = .ok (.iconst 2, 1) := by decide +kernel
theorem dX2_readQuarrel_45 : decode cX2_readQuarrel 45 = .ok (.if_icmp .ne 13, 3) := by decide +kernel
theorem dX2_readQuarrel_48 : decode cX2_readQuarrel 48 = .ok (.aload_n 0, 1) := by decide +kernel
theorem dX2_readQuarrel_49 : decode cX2_readQuarrel 49 = .ok (.getfield 108, 3) := by decide +kernel
theorem dX2_readQuarrel_52 : decode cX2_readQuarrel 52 = .ok (.iload_n 1, 1) := by decide +kernel
theorem dX2_readQuarrel_53 : decode cX2_readQuarrel 53 = .ok (.if_icmp .ne 5, 3) := by decide +kernel
theorem dX2_readQuarrel_56 : decode cX2_readQuarrel 56 = .ok (.iconst 0, 1) := by decide +kernel
theorem dX2_readQuarrel_57 : decode cX2_readQuarrel 57 = .ok (.ireturn, 1) := by decide +kernel
theorem dX2_readQuarrel_58 : decode cX2_readQuarrel 58 = .ok (.aload_n 0, 1) := by decide +kernel
theorem dX2_readQuarrel_59 : decode cX2_readQuarrel 59 = .ok (.iconst 0, 1) := by decide +kernel
theorem dX2_readQuarrel_60 : decode cX2_readQuarrel 60 = .ok (.aload_n 0, 1) := by decide +kernel
theorem dX2_readQuarrel_61 : decode cX2_readQuarrel 61 = .ok (.getfield 18, 3) := by decide +kernel
theorem dX2_readQuarrel_64 : decode cX2_readQuarrel 64 = .ok (.getfield 91, 3) := by decide +kernel
theorem dX2_readQuarrel_67 : decode cX2_readQuarrel 67 = .ok (.iconst 1, 1) := by decide +kernel
theorem dX2_readQuarrel_68 : decode cX2_readQuarrel 68 = .ok (.isub, 1) := by decide +kernel
theorem dX2_readQuarrel_69 : decode cX2_readQuarrel 69 = .ok (.invokevirtual 94, 3) := by decide +kernel
theorem dX2_readQuarrel_72 : decode cX2_readQuarrel 72 = .ok (.istore_n 2, 1) := by decide +kernel
theorem dX2_readQuarrel_73 : decode cX2_readQuarrel 73 = .ok (.iload_n 2, 1) := by decide +kernel
theorem dX2_readQuarrel_74 : decode cX2_readQuarrel 74 = .ok (.iconst (-1), 1) := by decide +kernel
theorem dX2_readQuarrel_75 : decode cX2_readQuarrel 75 = .ok (.if_icmp .ne 5, 3) := by decide +kernel
theorem dX2_readQuarrel_78 : decode cX2_readQuarrel 78 = .ok (.iconst 0, 1) := by decide +kernel
theorem dX2_readQuarrel_79 : decode cX2_readQuarrel 79 = .ok (.ireturn, 1) := by decide +kernel
theorem dX2_readQuarrel_80 : decode cX2_readQuarrel 80 = .ok (.aload_n 0, 1) := by decide +kernel
theorem dX2_readQuarrel_81 : decode cX2_readQuarrel 81 = .ok (.getfield 18, 3) := by decide +kernel
theorem dX2_readQuarrel_84 : decode cX2_readQuarrel 84 = .ok (.iload_n 1, 1) := by decide +kernel
theorem dX2_readQuarrel_85 : decode cX2_readQuarrel 85 = .ok (.iload_n 2, 1) := by decide +kernel
theorem dX2_readQuarrel_86 : decode cX2_readQuarrel 86 = .ok (.invokevirtual 111, 3) := by decide +kernel
theorem dX2_readQuarrel_89 : decode cX2_readQuarrel 89 = .ok (.iconst 1, 1) := by decide +kernel
theorem dX2_readQuarrel_90 : decode cX2_readQuarrel 90 = .ok (.ireturn, 1) := by decide +kernel
set_option maxRecDepth 20000 in
theorem ggX2_readHands_X2_nextToken : GoodIn wsX2_readHands wsX2_nextToken := goodIn_r _ [7, 8, 9, 10, 11, 12, 13, 14, 6, 15, 16, 17, 18, 19, 20, 21, 22, 23, 28, 29, 30, 31, 32, 33, 34, 35] (by decide +kernel) (by decide +kernel)
set_option maxRecDepth 20000 in
theorem gX2_readHands_X2_nextToken : GoodIn wsX2_readHands (wsV RX2 36 RX2 yX2_nextToken wsX2_nextToken) := goodIn_app (goodIn_of _ (by decide +kernel)) ggX2_readHands_X2_nextToken
set_option maxRecDepth 20000 in
theorem ggX2_readHands_X2_readNumber : GoodIn wsX2_readHands wsX2_readNumber := goodIn_r _ [27, 12, 8, 9, 23, 3, 4, 5, 6, 7, 10, 11, 13, 14, 15, 16, 17, 18, 19, 20, 21, 22, 28, 29, 30, 31, 32, 33, 34, 35] (by decide +kernel) (by decide +kernel)
set_option maxRecDepth 20000 in
theorem gX2_readHands_X2_readNumber : GoodIn wsX2_readHands (wsV RX2 94 RX2 yX2_readNumber wsX2_readNumber) := goodIn_app (goodIn_of _ (by decide +kernel)) ggX2_readHands_X2_readNumber
theorem dX2_readHands_0 : decode cX2_readHands 0 = .ok (.aload_n 0, 1) := by decide +kernel
theorem dX2_readHands_1 : decode cX2_readHands 1 = .ok (.invokevirtual 36, 3) := by decide +kernel
theorem dX2_readHands_4 : decode cX2_readHands 4 = .ok (.aload_n 0, 1) := by decide +kernel
theorem dX2_readHands_5 : decode cX2_readHands 5 = .ok (.iconst 0, 1) := by decide +kernel
theorem dX2_readHands_6 : decode cX2_readHands 6 = .ok (.bipush 99, 2) := by decide +kernel
theorem dX2_readHands_8 : decode cX2_readHands 8 = .ok (.invokevirtual 94, 3) := by decide +kernel
theorem dX2_readHands_11 : decode cX2_readHands 11 = .ok (.istore_n 1, 1) := by decide +kernel
theorem dX2_readHands_12 : decode cX2_readHands 12 = .ok (.iload_n 1, 1) := by decide +kernel
theorem dX2_readHands_13 : decode cX2_readHands 13 = .ok (.iconst (-1), 1) := by decide +kernel
theorem dX2_readHands_14 : decode cX2_readHands 14 = .ok (.if_icmp .ne 5, 3) := by decide +kernel
theorem dX2_readHands_17 : decode cX2_readHands 17 = .ok (.iconst 0, 1) := by decide +kernel
theorem dX2_readHands_18 : decode cX2_readHands 18 = .ok (.ireturn, 1) := by decide +kernel
theorem dX2_readHands_19 : decode cX2_readHands 19 = .ok (.aload_n 0, 1) := by decide +kernel
theorem dX2_readHands_20 : decode cX2_readHands 20 = .ok (.getfield 18, 3) := by decide +kernel
theorem dX2_readHands_23 : decode cX2_readHands 23 = .ok (.iload_n 1, 1) := by decide +kernel
theorem dX2_readHands_24 : decode cX2_readHands 24 = .ok (.putfield 115, 3) := by decide +kernel
theorem dX2_readHands_27 : decode cX2_readHands 27 = .ok (.iconst 1, 1) := by decide +kernel
theorem dX2_readHands_28 : decode cX2_readHands 28 = .ok (.ireturn, 1) := by decide +kernel
set_option maxRecDepth 20000 in
theorem ggX2_readNumber_X2_nextToken : GoodIn wsX2_readNumber wsX2_nextToken := goodIn_r _ [9, 2, 3, 10, 11, 1, 12, 13, 8, 14, 15, 16, 17, 18, 19, 20, 21, 4, 22, 23, 24, 25, 26, 27, 28, 29] (by decide +kernel) (by decide +kernel)
set_option maxRecDepth 20000 in
theorem gX2_readNumber_X2_nextToken : GoodIn wsX2_readNumber (wsV RX2 36 RX2 yX2_nextToken wsX2_nextToken) := goodIn_app (goodIn_of _ (by decide +kernel)) ggX2_readNumber_X2_nextToken
theorem dX2_readNumber_0 : decode cX2_readNumber 0 = .ok (.aload_n 0, 1) := by decide +kernel
theorem dX2_readNumber_1 : decode cX2_readNumber 1 = .ok (.getfield 46, 3) := by decide +kernel
theorem dX2_readNumber_4 : decode cX2_readNumber 4 = .ok (.iconst 2, 1) := by decide +kernel
theorem dX2_readNumber_5 : decode cX2_readNumber 5 = .ok (.if_icmp .ne 32, 3) := by decide +kernel
theorem dX2_readNumber_8 : decode cX2_readNumber 8 = .ok (.aload_n 0, 1) := by decide +kernel
theorem dX2_readNumber_9 : decode cX2_readNumber 9 = .ok (.getfield 33, 3) := by decide +kernel
theorem dX2_readNumber_12 : decode cX2_readNumber 12 = .ok (.aload_n 0, 1) := by decide +kernel
theorem dX2_readNumber_13 : decode cX2_readNumber 13 = .ok (.getfield 43, 3) := by decide +kernel
theorem dX2_readNumber_16 : decode cX2_readNumber 16 = .ok (.isub, 1) := by decide +kernel
theorem dX2_readNumber_17 : decode cX2_readNumber 17 = .ok (.iconst 2, 1) := by decide +kernel
theorem dX2_readNumber_18 : decode cX2_readNumber 18 = .ok (.if_icmp .gt 19, 3) := by decide +kernel
theorem dX2_readNumber_21 : decode cX2_readNumber 21 = .ok (.aload_n 0, 1) := by decide +kernel
theorem dX2_readNumber_22 : decode cX2_readNumber 22 = .ok (.getfield 108, 3) := by decide +kernel
theorem dX2_readNumber_25 : decode cX2_readNumber 25 = .ok (.iload_n 1, 1) := by decide +kernel
theorem dX2_readNumber_26 : decode cX2_readNumber 26 = .ok (.if_icmp .lt 11, 3) := by decide +kernel
theorem dX2_readNumber_29 : decode cX2_readNumber 29 = .ok (.aload_n 0, 1) := by decide +kernel
theorem dX2_readNumber_30 : decode cX2_readNumber 30 = .ok (.getfield 108, 3) := by decide +kernel
theorem dX2_readNumber_33 : decode cX2_readNumber 33 = .ok (.iload_n 2, 1) := by decide +kernel
theorem dX2_readNumber_34 : decode cX2_readNumber 34 = .ok (.if_icmp .le 5, 3) := by decide +kernel
theorem dX2_readNumber_37 : decode cX2_readNumber 37 = .ok (.iconst (-1), 1) := by decide +kernel
theorem dX2_readNumber_38 : decode cX2_readNumber 38 = .ok (.ireturn, 1) := by decide +kernel
theorem dX2_readNumber_39 : decode cX2_readNumber 39 = .ok (.aload_n 0, 1) := by decide +kernel
theorem dX2_readNumber_40 : decode cX2_readNumber 40 = .ok (.getfield 108, 3) := by decide +kernel
theorem dX2_readNumber_43 : decode cX2_readNumber 43 = .ok (.istore_n 3, 1) := by decide +kernel
theorem dX2_readNumber_44 : decode cX2_readNumber 44 = .ok (.aload_n 0, 1) := by decide +kernel
theorem dX2_readNumber_45 : decode cX2_readNumber 45 = .ok (.invokevirtual 36, 3) := by decide +kernel
theorem dX2_readNumber_48 : decode cX2_readNumber 48 = .ok (.iload_n 3, 1) := by decide +kernel
theorem dX2_readNumber_49 : decode cX2_readNumber 49 = .ok (.ireturn, 1) := by decide +kernel
set_option maxRecDepth 20000 in
theorem ggX2_nextToken_X2_isLetter : GoodIn wsX2_nextToken wsX2_isLetter := goodIn_r _ [9] (by decide +kernel) (by decide +kernel)
set_option maxRecDepth 20000 in
theorem gX2_nextToken_X2_isLetter : GoodIn wsX2_nextToken (va_wsS RX2 117 yX2_isLetter wsX2_isLetter) := goodIn_app (goodIn_of _ (by decide +kernel)) ggX2_nextToken_X2_isLetter
set_option maxRecDepth 20000 in
theorem ggX2_nextToken_X2_isDigit : GoodIn wsX2_nextToken wsX2_isDigit := goodIn_r _ [12] (by decide +kernel) (by decide +kernel)
set_option maxRecDepth 20000 in
theorem gX2_nextToken_X2_isDigit : GoodIn wsX2_nextToken (va_wsS RX2 120 yX2_isDigit wsX2_isDigit) := goodIn_app (goodIn_of _ (by decide +kernel)) ggX2_nextToken_X2_isDigit
set_option maxRecDepth 20000 in
theorem ggX2_nextToken_X2_readDigits : GoodIn wsX2_nextToken wsX2_readDigits := goodIn_r _ [16, 17, 1, 3, 4, 10, 11, 8, 12, 18, 19, 20, 21, 22, 23, 24, 25] (by decide +kernel) (by decide +kernel)
set_option maxRecDepth 20000 in
theorem gX2_nextToken_X2_readDigits : GoodIn wsX2_nextToken (wsV RX2 123 RX2 yX2_readDigits wsX2_readDigits) := goodIn_app (goodIn_of _ (by decide +kernel)) ggX2_nextToken_X2_readDigits
theorem dX2_nextToken_0 : decode cX2_nextToken 0 = .ok (.aload_n 0, 1) := by decide +kernel
theorem dX2_nextToken_1 : decode cX2_nextToken 1 = .ok (.aload_n 0, 1) := by decide +kernel
theorem dX2_nextToken_2 : decode cX2_nextToken 2 = .ok (.getfield 33, 3) := by decide +kernel
theorem dX2_nextToken_5 : decode cX2_nextToken 5 = .ok (.putfield 43, 3) := by decide +kernel
theorem dX2_nextToken_8 : decode cX2_nextToken 8 = .ok (.aload_n 0, 1) := by decide +kernel
theorem dX2_nextToken_9 : decode cX2_nextToken 9 = .ok (.getfield 43, 3) := by decide +kernel
theorem dX2_nextToken_12 : decode cX2_nextToken 12 = .ok (.aload_n 0, 1) := by decide +kernel
theorem dX2_nextToken_13 : decode cX2_nextToken 13 = .ok (.getfield 22, 3) := by decide +kernel
theorem dX2_nextToken_16 : decode cX2_nextToken 16 = .ok (.if_icmp .ge 30, 3) := by decide +kernel
theorem dX2_nextToken_19 : decode cX2_nextToken 19 = .ok (.aload_n 0, 1) := by decide +kernel
theorem dX2_nextToken_20 : decode cX2_nextToken 20 = .ok (.getfield 9, 3) := by decide +kernel
theorem dX2_nextToken_23 : decode cX2_nextToken 23 = .ok (.aload_n 0, 1) := by decide +kernel
theorem dX2_nextToken_24 : decode cX2_nextToken 24 = .ok (.getfield 43, 3) := by decide +kernel
theorem dX2_nextToken_27 : decode cX2_nextToken 27 = .ok (.iaload, 1) := by decide +kernel
theorem dX2_nextToken_28 : decode cX2_nextToken 28 = .ok (.bipush 32, 2) := by decide +kernel
theorem dX2_nextToken_30 : decode cX2_nextToken 30 = .ok (.if_icmp .ne 16, 3) := by decide +kernel
theorem dX2_nextToken_33 : decode cX2_nextToken 33 = .ok (.aload_n 0, 1) := by decide +kernel
theorem dX2_nextToken_34 : decode cX2_nextToken 34 = .ok (.dup, 1) := by decide +kernel
theorem dX2_nextToken_35 : decode cX2_nextToken 35 = .ok (.getfield 43, 3) := by decide +kernel
theorem dX2_nextToken_38 : decode cX2_nextToken 38 = .ok (.iconst 1, 1) := by decide +kernel
theorem dX2_nextToken_39 : decode cX2_nextToken 39 = .ok (.iadd, 1) := by decide +kernel
theorem dX2_nextToken_40 : decode cX2_nextToken 40 = .ok (.putfield 43, 3) := by decide +kernel
theorem dX2_nextToken_43 : decode cX2_nextToken 43 = .ok (.goto (-35), 3) := by decide +kernel
theorem dX2_nextToken_46 : decode cX2_nextToken 46 = .ok (.aload_n 0, 1) := by decide +kernel
theorem dX2_nextToken_47 : decode cX2_nextToken 47 = .ok (.aload_n 0, 1) := by decide +kernel
theorem dX2_nextToken_48 : decode cX2_nextToken 48 = .ok (.getfield 43, 3) := by decide +kernel
theorem dX2_nextToken_51 : decode cX2_nextToken 51 = .ok (.putfield 33, 3) := by decide +kernel
theorem dX2_nextToken_54 : decode cX2_nextToken 54 = .ok (.aload_n 0, 1) := by decide +kernel
theorem dX2_nextToken_55 : decode cX2_nextToken 55 = .ok (.getfield 43, 3) := by decide +kernel
theorem dX2_nextToken_58 : decode cX2_nextToken 58 = .ok (.aload_n 0, 1) := by decide +kernel
theorem dX2_nextToken_59 : decode cX2_nextToken 59 = .ok (.getfield 22, 3) := by decide +kernel
theorem dX2_nextToken_62 : decode cX2_nextToken 62 = .ok (.if_icmp .lt 11, 3) := by decide +kernel
theorem dX2_nextToken_65 : decode cX2_nextToken 65 = .ok (.aload_n 0, 1) := by decide +kernel
theorem dX2_nextToken_66 : decode cX2_nextToken 66 = .ok (.iconst 0, 1) := by decide +kernel
theorem dX2_nextToken_67 : decode cX2_nextToken 67 = .ok (.putfield 46, 3) := by decide +kernel
theorem dX2_nextToken_70 : decode cX2_nextToken 70 = .ok (.goto 104, 3) := by decide +kernel
theorem dX2_nextToken_73 : decode cX2_nextToken 73 = .ok (.aload_n 0, 1) := by decide +kernel
theorem dX2_nextToken_74 : decode cX2_nextToken 74 = .ok (.getfield 9, 3) := by decide +kernel
theorem dX2_nextToken_77 : decode cX2_nextToken 77 = .ok (.aload_n 0, 1) := by decide +kernel
theorem dX2_nextToken_78 : decode cX2_nextToken 78 = .ok (.getfield 43, 3) := by decide +kernel
theorem dX2_nextToken_81 : decode cX2_nextToken 81 = .ok (.iaload, 1) := by decide +kernel
theorem dX2_nextToken_82 : decode cX2_nextToken 82 = .ok (.invokestatic 117, 3) := by decide +kernel
theorem dX2_nextToken_85 : decode cX2_nextToken 85 = .ok (.ifCond .eq 47, 3) := by decide +kernel
theorem dX2_nextToken_88 : decode cX2_nextToken 88 = .ok (.aload_n 0, 1) := by decide +kernel
theorem dX2_nextToken_89 : decode cX2_nextToken 89 = .ok (.iconst 1, 1) := by decide +kernel
theorem dX2_nextToken_90 : decode cX2_nextToken 90 = .ok (.putfield 46, 3) := by decide +kernel
theorem dX2_nextToken_93 : decode cX2_nextToken 93 = .ok (.aload_n 0, 1) := by decide +kernel
theorem dX2_nextToken_94 : decode cX2_nextToken 94 = .ok (.getfield 33, 3) := by decide +kernel
theorem dX2_nextToken_97 : decode cX2_nextToken 97 = .ok (.aload_n 0, 1) := by decide +kernel
theorem dX2_nextToken_98 : decode cX2_nextToken 98 = .ok (.getfield 22, 3) := by decide +kernel
theorem dX2_nextToken_101 : decode cX2_nextToken 101 = .ok (.if_icmp .ge 73, 3) := by decide +kernel
theorem dX2_nextToken_104 : decode cX2_nextToken 104 = .ok (.aload_n 0, 1) := by decide +kernel
theorem dX2_nextToken_105 : decode cX2_nextToken 105 = .ok (.getfield 9, 3) := by decide +kernel
theorem dX2_nextToken_108 : decode cX2_nextToken 108 = .ok (.aload_n 0, 1) := by decide +kernel
theorem dX2_nextToken_109 : decode cX2_nextToken 109 = .ok (.getfield 33, 3) := by decide +kernel
theorem dX2_nextToken_112 : decode cX2_nextToken 112 = .ok (.iaload, 1) := by decide +kernel
theorem dX2_nextToken_113 : decode cX2_nextToken 113 = .ok (.invokestatic 117, 3) := by decide +kernel
theorem dX2_nextToken_116 : decode cX2_nextToken 116 = .ok (.ifCond .eq 58, 3) := by decide +kernel
theorem dX2_nextToken_119 : decode cX2_nextToken 119 = .ok (.aload_n 0, 1) := by decide +kernel
theorem dX2_nextToken_120 : decode cX2_nextToken 120 = .ok (.dup, 1) := by decide +kernel
theorem dX2_nextToken_121 : decode cX2_nextToken 121 = .ok (.getfield 33, 3) := by decide +kernel
theorem dX2_nextToken_124 : decode cX2_nextToken 124 = .ok (.iconst 1, 1) := by decide +kernel
theorem dX2_nextToken_125 : decode cX2_nextToken 125 = .ok (.iadd, 1) := by decide +kernel
theorem dX2_nextToken_126 : decode cX2_nextToken 126 = .ok (.putfield 33, 3) := by decide +kernel
theorem dX2_nextToken_129 : decode cX2_nextToken 129 = .ok (.goto (-36), 3) := by decide +kernel
theorem dX2_nextToken_132 : decode cX2_nextToken 132 = .ok (.aload_n 0, 1) := by decide +kernel
theorem dX2_nextToken_133 : decode cX2_nextToken 133 = .ok (.getfield 9, 3) := by decide +kernel
theorem dX2_nextToken_136 : decode cX2_nextToken 136 = .ok (.aload_n 0, 1) := by decide +kernel
theorem dX2_nextToken_137 : decode cX2_nextToken 137 = .ok (.getfield 43, 3) := by decide +kernel
theorem dX2_nextToken_140 : decode cX2_nextToken 140 = .ok (.iaload, 1) := by decide +kernel
theorem dX2_nextToken_141 : decode cX2_nextToken 141 = .ok (.invokestatic 120, 3) := by decide +kernel
theorem dX2_nextToken_144 : decode cX2_nextToken 144 = .ok (.ifCond .eq 15, 3) := by decide +kernel
theorem dX2_nextToken_147 : decode cX2_nextToken 147 = .ok (.aload_n 0, 1) := by decide +kernel
theorem dX2_nextToken_148 : decode cX2_nextToken 148 = .ok (.iconst 2, 1) := by decide +kernel
theorem dX2_nextToken_149 : decode cX2_nextToken 149 = .ok (.putfield 46, 3) := by decide +kernel
theorem dX2_nextToken_152 : decode cX2_nextToken 152 = .ok (.aload_n 0, 1) := by decide +kernel
theorem dX2_nextToken_153 : decode cX2_nextToken 153 = .ok (.invokevirtual 123, 3) := by decide +kernel
theorem dX2_nextToken_156 : decode cX2_nextToken 156 = .ok (.goto 18, 3) := by decide +kernel
theorem dX2_nextToken_159 : decode cX2_nextToken 159 = .ok (.aload_n 0, 1) := by decide +kernel
theorem dX2_nextToken_160 : decode cX2_nextToken 160 = .ok (.iconst 3, 1) := by decide +kernel
theorem dX2_nextToken_161 : decode cX2_nextToken 161 = .ok (.putfield 46, 3) := by decide +kernel
theorem dX2_nextToken_164 : decode cX2_nextToken 164 = .ok (.aload_n 0, 1) := by decide +kernel
theorem dX2_nextToken_165 : decode cX2_nextToken 165 = .ok (.dup, 1) := by decide +kernel
theorem dX2_nextToken_166 : decode cX2_nextToken 166 = .ok (.getfield 33, 3) := by decide +kernel
theorem dX2_nextToken_169 : decode cX2_nextToken 169 = .ok (.iconst 1, 1) := by decide +kernel
theorem dX2_nextToken_170 : decode cX2_nextToken 170 = .ok (.iadd, 1) := by decide +kernel
theorem dX2_nextToken_171 : decode cX2_nextToken 171 = .ok (.putfield 33, 3) := by decide +kernel
theorem dX2_nextToken_174 : decode cX2_nextToken 174 = .ok (.return_, 1) := by decide +kernel
set_option maxRecDepth 20000 in
theorem ggX2_readDigits_X2_isDigit : GoodIn wsX2_readDigits wsX2_isDigit := goodIn_r _ [8] (by decide +kernel) (by decide +kernel)
set_option maxRecDepth 20000 in
theorem gX2_readDigits_X2_isDigit : GoodIn wsX2_readDigits (va_wsS RX2 120 yX2_isDigit wsX2_isDigit) := goodIn_app (goodIn_of _ (by decide +kernel)) ggX2_readDigits_X2_isDigit
theorem dX2_readDigits_0 : decode cX2_readDigits 0 = .ok (.aload_n 0, 1) := by decide +kernel
theorem dX2_readDigits_1 : decode cX2_readDigits 1 = .ok (.iconst 0, 1) := by decide +kernel
theorem dX2_readDigits_2 : decode cX2_readDigits 2 = .ok (.putfield 108, 3) := by decide +kernel
theorem dX2_readDigits_5 : decode cX2_readDigits 5 = .ok (.aload_n 0, 1) := by decide +kernel
theorem dX2_readDigits_6 : decode cX2_readDigits 6 = .ok (.getfield 33, 3) := by decide +kernel
theorem dX2_readDigits_9 : decode cX2_readDigits 9 = .ok (.aload_n 0, 1) := by decide +kernel
theorem dX2_readDigits_10 : decode cX2_readDigits 10 = .ok (.getfield 22, 3) := by decide +kernel
theorem dX2_readDigits_13 : decode cX2_readDigits 13 = .ok (.if_icmp .ge 55, 3) := by decide +kernel
theorem dX2_readDigits_16 : decode cX2_readDigits 16 = .ok (.aload_n 0, 1) := by decide +kernel
theorem dX2_readDigits_17 : decode cX2_readDigits 17 = .ok (.getfield 9, 3) := by decide +kernel
theorem dX2_readDigits_20 : decode cX2_readDigits 20 = .ok (.aload_n 0, 1) := by decide +kernel
theorem dX2_readDigits_21 : decode cX2_readDigits 21 = .ok (.getfield 33, 3) := by decide +kernel
theorem dX2_readDigits_24 : decode cX2_readDigits 24 = .ok (.iaload, 1) := by decide +kernel
theorem dX2_readDigits_25 : decode cX2_readDigits 25 = .ok (.invokestatic 120, 3) := by decide +kernel
theorem dX2_readDigits_28 : decode cX2_readDigits 28 = .ok (.ifCond .eq 40, 3) := by decide +kernel
theorem dX2_readDigits_31 : decode cX2_readDigits 31 = .ok (.aload_n 0, 1) := by decide +kernel
theorem dX2_readDigits_32 : decode cX2_readDigits 32 = .ok (.bipush 10, 2) := by decide +kernel
theorem dX2_readDigits_34 : decode cX2_readDigits 34 = .ok (.aload_n 0, 1) := by decide +kernel
theorem dX2_readDigits_35 : decode cX2_readDigits 35 = .ok (.getfield 108, 3) := by decide +kernel
theorem dX2_readDigits_38 : decode cX2_readDigits 38 = .ok (.imul, 1) := by decide +kernel
theorem dX2_readDigits_39 : decode cX2_readDigits 39 = .ok (.aload_n 0, 1) := by decide +kernel
theorem dX2_readDigits_40 : decode cX2_readDigits 40 = .ok (.getfield 9, 3) := by decide +kernel
theorem dX2_readDigits_43 : decode cX2_readDigits 43 = .ok (.aload_n 0, 1) := by decide +kernel
theorem dX2_readDigits_44 : decode cX2_readDigits 44 = .ok (.getfield 33, 3) := by decide +kernel
theorem dX2_readDigits_47 : decode cX2_readDigits 47 = .ok (.iaload, 1) := by decide +kernel
theorem dX2_readDigits_48 : decode cX2_readDigits 48 = .ok (.iadd, 1) := by decide +kernel
theorem dX2_readDigits_49 : decode cX2_readDigits 49 = .ok (.bipush 48, 2) := by decide +kernel
theorem dX2_readDigits_51 : decode cX2_readDigits 51 = .ok (.isub, 1) := by decide +kernel
theorem dX2_readDigits_52 : decode cX2_readDigits 52 = .ok (.putfield 108, 3) := by decide +kernel
theorem dX2_readDigits_55 : decode cX2_readDigits 55 = .ok (.aload_n 0, 1) := by decide +kernel
theorem dX2_readDigits_56 : decode cX2_readDigits 56 = .ok (.dup, 1) := by decide +kernel
theorem dX2_readDigits_57 : decode cX2_readDigits 57 = .ok (.getfield 33, 3) := by decide +kernel
theorem dX2_readDigits_60 : decode cX2_readDigits 60 = .ok (.iconst 1, 1) := by decide +kernel
theorem dX2_readDigits_61 : decode cX2_readDigits 61 = .ok (.iadd, 1) := by decide +kernel
theorem dX2_readDigits_62 : decode cX2_readDigits 62 = .ok (.putfield 33, 3) := by decide +kernel
theorem dX2_readDigits_65 : decode cX2_readDigits 65 = .ok (.goto (-60), 3) := by decide +kernel
theorem dX2_readDigits_68 : decode cX2_readDigits 68 = .ok (.return_, 1) := by decide +kernel
set_option maxRecDepth 20000 in
theorem ggX2_isWord_J0_length_8abf5 : GoodIn wsX2_isWord wsJ0_length_8abf5 := goodIn_r _ [8, 9, 10, 11, 12, 7, 13, 14, 15] (by decide +kernel) (by decide +kernel)
set_option maxRecDepth 20000 in
theorem gX2_isWord_J0_length_8abf5 : GoodIn wsX2_isWord (wsV RX2 126 RJ0 yJ0_length_8abf5 wsJ0_length_8abf5) := goodIn_app (goodIn_of _ (by decide +kernel)) ggX2_isWord_J0_length_8abf5
set_option maxRecDepth 20000 in
theorem ggX2_isWord_J0_charAt_5068e : GoodIn wsX2_isWord wsJ0_charAt_5068e := goodIn_r _ [19, 9, 20, 21, 22, 7, 23, 14, 15, 24, 25, 26, 27, 28, 29, 30, 31, 32, 33, 34, 35, 36, 37, 38, 39, 40, 41, 42, 43, 44, 45, 46, 47, 48, 49, 50, 51, 52] (by decide +kernel) (by decide +kernel)
set_option maxRecDepth 20000 in
theorem gX2_isWord_J0_charAt_5068e : GoodIn wsX2_isWord (wsV RX2 131 RJ0 yJ0_charAt_5068e wsJ0_charAt_5068e) := goodIn_app (goodIn_of _ (by decide +kernel)) ggX2_isWord_J0_charAt_5068e
theorem dX2_isWord_0 : decode cX2_isWord 0 = .ok (.aload_n 0, 1) := by decide +kernel
theorem dX2_isWord_1 : decode cX2_isWord 1 = .ok (.getfield 33, 3) := by decide +kernel
theorem dX2_isWord_4 : decode cX2_isWord 4 = .ok (.aload_n 0, 1) := by decide +kernel
theorem dX2_isWord_5 : decode cX2_isWord 5 = .ok (.getfield 43, 3) := by decide +kernel
theorem dX2_isWord_8 : decode cX2_isWord 8 = .ok (.isub, 1) := by decide +kernel
theorem dX2_isWord_9 : decode cX2_isWord 9 = .ok (.aload_n 1, 1) := by decide +kernel
theorem dX2_isWord_10 : decode cX2_isWord 10 = .ok (.invokevirtual 126, 3) := by decide +kernel
theorem dX2_isWord_13 : decode cX2_isWord 13 = .ok (.if_icmp .eq 5, 3) := by decide +kernel
theorem dX2_isWord_16 : decode cX2_isWord 16 = .ok (.iconst 0, 1) := by decide +kernel
theorem dX2_isWord_17 : decode cX2_isWord 17 = .ok (.ireturn, 1) := by decide +kernel
theorem dX2_isWord_18 : decode cX2_isWord 18 = .ok (.iconst 0, 1) := by decide +kernel
theorem dX2_isWord_19 : decode cX2_isWord 19 = .ok (.istore_n 2, 1) := by decide +kernel
theorem dX2_isWord_20 : decode cX2_isWord 20 = .ok (.iload_n 2, 1) := by decide +kernel
theorem dX2_isWord_21 : decode cX2_isWord 21 = .ok (.aload_n 1, 1) := by decide +kernel
theorem dX2_isWord_22 : decode cX2_isWord 22 = .ok (.invokevirtual 126, 3) := by decide +kernel
theorem dX2_isWord_25 : decode cX2_isWord 25 = .ok (.if_icmp .ge 30, 3) := by decide +kernel
theorem dX2_isWord_28 : decode cX2_isWord 28 = .ok (.aload_n 0, 1) := by decide +kernel
theorem dX2_isWord_29 : decode cX2_isWord 29 = .ok (.getfield 9, 3) := by decide +kernel
theorem dX2_isWord_32 : decode cX2_isWord 32 = .ok (.aload_n 0, 1) := by decide +kernel
theorem dX2_isWord_33 : decode cX2_isWord 33 = .ok (.getfield 43, 3) := by decide +kernel
theorem dX2_isWord_36 : decode cX2_isWord 36 = .ok (.iload_n 2, 1) := by decide +kernel
theorem dX2_isWord_37 : decode cX2_isWord 37 = .ok (.iadd, 1) := by decide +kernel
theorem dX2_isWord_38 : decode cX2_isWord 38 = .ok (.iaload, 1) := by decide +kernel
theorem dX2_isWord_39 : decode cX2_isWord 39 = .ok (.aload_n 1, 1) := by decide +kernel
theorem dX2_isWord_40 : decode cX2_isWord 40 = .ok (.iload_n 2, 1) := by decide +kernel
theorem dX2_isWord_41 : decode cX2_isWord 41 = .ok (.invokevirtual 131, 3) := by decide +kernel
theorem dX2_isWord_44 : decode cX2_isWord 44 = .ok (.if_icmp .eq 5, 3) := by decide +kernel
theorem dX2_isWord_47 : decode cX2_isWord 47 = .ok (.iconst 0, 1) := by decide +kernel
theorem dX2_isWord_48 : decode cX2_isWord 48 = .ok (.ireturn, 1) := by decide +kernel
theorem dX2_isWord_49 : decode cX2_isWord 49 = .ok (.iinc 2 1, 3) := by decide +kernel
theorem dX2_isWord_52 : decode cX2_isWord 52 = .ok (.goto (-32), 3) := by decide +kernel
theorem dX2_isWord_55 : decode cX2_isWord 55 = .ok (.iconst 1, 1) := by decide +kernel
theorem dX2_isWord_56 : decode cX2_isWord 56 = .ok (.ireturn, 1) := by decide +kernel
theorem dX2_isLetter_0 : decode cX2_isLetter 0 = .ok (.iload_n 0, 1) := by decide +kernel
theorem dX2_isLetter_1 : decode cX2_isLetter 1 = .ok (.bipush 97, 2) := by decide +kernel
theorem dX2_isLetter_3 : decode cX2_isLetter 3 = .ok (.if_icmp .lt 13, 3) := by decide +kernel
theorem dX2_isLetter_6 : decode cX2_isLetter 6 = .ok (.iload_n 0, 1) := by decide +kernel
theorem dX2_isLetter_7 : decode cX2_isLetter 7 = .ok (.bipush 122, 2) := by decide +kernel
theorem dX2_isLetter_9 : decode cX2_isLetter 9 = .ok (.if_icmp .gt 7, 3) := by decide +kernel
theorem dX2_isLetter_12 : decode cX2_isLetter 12 = .ok (.iconst 1, 1) := by decide +kernel
theorem dX2_isLetter_13 : decode cX2_isLetter 13 = .ok (.goto 4, 3) := by decide +kernel
theorem dX2_isLetter_16 : decode cX2_isLetter 16 = .ok (.iconst 0, 1) := by decide +kernel
theorem dX2_isLetter_17 : decode cX2_isLetter 17 = .ok (.ireturn, 1) := by decide +kernel
theorem dX2_isDigit_0 : decode cX2_isDigit 0 = .ok (.iload_n 0, 1) := by decide +kernel
theorem dX2_isDigit_1 : decode cX2_isDigit 1 = .ok (.bipush 48, 2) := by decide +kernel
theorem dX2_isDigit_3 : decode cX2_isDigit 3 = .ok (.if_icmp .lt 13, 3) := by decide +kernel
theorem dX2_isDigit_6 : decode cX2_isDigit 6 = .ok (.iload_n 0, 1) := by decide +kernel
theorem dX2_isDigit_7 : decode cX2_isDigit 7 = .ok (.bipush 57, 2) := by decide +kernel
theorem dX2_isDigit_9 : decode cX2_isDigit 9 = .ok (.if_icmp .gt 7, 3) := by decide +kernel
theorem dX2_isDigit_12 : decode cX2_isDigit 12 = .ok (.iconst 1, 1) := by decide +kernel
theorem dX2_isDigit_13 : decode cX2_isDigit 13 = .ok (.goto 4, 3) := by decide +kernel
theorem dX2_isDigit_16 : decode cX2_isDigit 16 = .ok (.iconst 0, 1) := by decide +kernel
theorem dX2_isDigit_17 : decode cX2_isDigit 17 = .ok (.ireturn, 1) := by decide +kernel
theorem dX3_init_0 : decode cX3_init 0 = .ok (.aload_n 0, 1) := by decide +kernel
theorem dX3_init_1 : decode cX3_init 1 = .ok (.invokespecial 3, 3) := by decide +kernel
theorem dX3_init_4 : decode cX3_init 4 = .ok (.aload_n 0, 1) := by decide +kernel
theorem dX3_init_5 : decode cX3_init 5 = .ok (.bipush 6, 2) := by decide +kernel
theorem dX3_init_7 : decode cX3_init 7 = .ok (.newarray .int, 2) := by decide +kernel
theorem dX3_init_9 : decode cX3_init 9 = .ok (.putfield 9, 3) := by decide +kernel
theorem dX3_init_12 : decode cX3_init 12 = .ok (.aload_n 0, 1) := by decide +kernel
theorem dX3_init_13 : decode cX3_init 13 = .ok (.bipush 6, 2) := by decide +kernel
theorem dX3_init_15 : decode cX3_init 15 = .ok (.newarray .int, 2) := by decide +kernel
theorem dX3_init_17 : decode cX3_init 17 = .ok (.putfield 15, 3) := by decide +kernel
theorem dX3_init_20 : decode cX3_init 20 = .ok (.aload_n 0, 1) := by decide +kernel
theorem dX3_init_21 : decode cX3_init 21 = .ok (.bipush 6, 2) := by decide +kernel
theorem dX3_init_23 : decode cX3_init 23 = .ok (.newarray .int, 2) := by decide +kernel
theorem dX3_init_25 : decode cX3_init 25 = .ok (.putfield 18, 3) := by decide +kernel
theorem dX3_init_28 : decode cX3_init 28 = .ok (.aload_n 0, 1) := by decide +kernel
theorem dX3_init_29 : decode cX3_init 29 = .ok (.bipush 6, 2) := by decide +kernel
theorem dX3_init_31 : decode cX3_init 31 = .ok (.newarray .int, 2) := by decide +kernel
theorem dX3_init_33 : decode cX3_init 33 = .ok (.putfield 21, 3) := by decide +kernel
theorem dX3_init_36 : decode cX3_init 36 = .ok (.aload_n 0, 1) := by decide +kernel
theorem dX3_init_37 : decode cX3_init 37 = .ok (.bipush 6, 2) := by decide +kernel
theorem dX3_init_39 : decode cX3_init 39 = .ok (.newarray .int, 2) := by decide +kernel
theorem dX3_init_41 : decode cX3_init 41 = .ok (.putfield 24, 3) := by decide +kernel
theorem dX3_init_44 : decode cX3_init 44 = .ok (.aload_n 0, 1) := by decide +kernel
theorem dX3_init_45 : decode cX3_init 45 = .ok (.bipush 6, 2) := by decide +kernel
theorem dX3_init_47 : decode cX3_init 47 = .ok (.newarray .int, 2) := by decide +kernel
theorem dX3_init_49 : decode cX3_init 49 = .ok (.putfield 27, 3) := by decide +kernel
theorem dX3_init_52 : decode cX3_init 52 = .ok (.aload_n 0, 1) := by decide +kernel
theorem dX3_init_53 : decode cX3_init 53 = .ok (.bipush 6, 2) := by decide +kernel
theorem dX3_init_55 : decode cX3_init 55 = .ok (.newarray .int, 2) := by decide +kernel
theorem dX3_init_57 : decode cX3_init 57 = .ok (.putfield 30, 3) := by decide +kernel
theorem dX3_init_60 : decode cX3_init 60 = .ok (.aload_n 0, 1) := by decide +kernel
theorem dX3_init_61 : decode cX3_init 61 = .ok (.iconst 5, 1) := by decide +kernel
theorem dX3_init_62 : decode cX3_init 62 = .ok (.putfield 33, 3) := by decide +kernel
theorem dX3_init_65 : decode cX3_init 65 = .ok (.return_, 1) := by decide +kernel
theorem dX3_has_0 : decode cX3_has 0 = .ok (.iload_n 1, 1) := by decide +kernel
theorem dX3_has_1 : decode cX3_has 1 = .ok (.ifCond .lt 15, 3) := by decide +kernel
theorem dX3_has_4 : decode cX3_has 4 = .ok (.iload_n 1, 1) := by decide +kernel
theorem dX3_has_5 : decode cX3_has 5 = .ok (.aload_n 0, 1) := by decide +kernel
theorem dX3_has_6 : decode cX3_has 6 = .ok (.getfield 37, 3) := by decide +kernel
theorem dX3_has_9 : decode cX3_has 9 = .ok (.if_icmp .ge 7, 3) := by decide +kernel
theorem dX3_has_12 : decode cX3_has 12 = .ok (.iconst 1, 1) := by decide +kernel
theorem dX3_has_13 : decode cX3_has 13 = .ok (.goto 4, 3) := by decide +kernel
theorem dX3_has_16 : decode cX3_has 16 = .ok (.iconst 0, 1) := by decide +kernel
theorem dX3_has_17 : decode cX3_has 17 = .ok (.ireturn, 1) := by decide +kernel
theorem dX3_forget_0 : decode cX3_forget 0 = .ok (.aload_n 0, 1) := by decide +kernel
theorem dX3_forget_1 : decode cX3_forget 1 = .ok (.iconst 0, 1) := by decide +kernel
theorem dX3_forget_2 : decode cX3_forget 2 = .ok (.putfield 37, 3) := by decide +kernel
theorem dX3_forget_5 : decode cX3_forget 5 = .ok (.aload_n 0, 1) := by decide +kernel
theorem dX3_forget_6 : decode cX3_forget 6 = .ok (.iconst 0, 1) := by decide +kernel
theorem dX3_forget_7 : decode cX3_forget 7 = .ok (.putfield 40, 3) := by decide +kernel
theorem dX3_forget_10 : decode cX3_forget 10 = .ok (.aload_n 0, 1) := by decide +kernel
theorem dX3_forget_11 : decode cX3_forget 11 = .ok (.iconst 5, 1) := by decide +kernel
theorem dX3_forget_12 : decode cX3_forget 12 = .ok (.putfield 33, 3) := by decide +kernel
theorem dX3_forget_15 : decode cX3_forget 15 = .ok (.return_, 1) := by decide +kernel
theorem dX3_copyFrom_0 : decode cX3_copyFrom 0 = .ok (.aload_n 0, 1) := by decide +kernel
theorem dX3_copyFrom_1 : decode cX3_copyFrom 1 = .ok (.aload_n 1, 1) := by decide +kernel
theorem dX3_copyFrom_2 : decode cX3_copyFrom 2 = .ok (.getfield 37, 3) := by decide +kernel
theorem dX3_copyFrom_5 : decode cX3_copyFrom 5 = .ok (.putfield 37, 3) := by decide +kernel
theorem dX3_copyFrom_8 : decode cX3_copyFrom 8 = .ok (.aload_n 1, 1) := by decide +kernel
theorem dX3_copyFrom_9 : decode cX3_copyFrom 9 = .ok (.getfield 9, 3) := by decide +kernel
theorem dX3_copyFrom_12 : decode cX3_copyFrom 12 = .ok (.iconst 0, 1) := by decide +kernel
theorem dX3_copyFrom_13 : decode cX3_copyFrom 13 = .ok (.aload_n 0, 1) := by decide +kernel
theorem dX3_copyFrom_14 : decode cX3_copyFrom 14 = .ok (.getfield 9, 3) := by decide +kernel
theorem dX3_copyFrom_17 : decode cX3_copyFrom 17 = .ok (.iconst 0, 1) := by decide +kernel
theorem dX3_copyFrom_18 : decode cX3_copyFrom 18 = .ok (.bipush 6, 2) := by decide +kernel
theorem dX3_copyFrom_20 : decode cX3_copyFrom 20 = .ok (.invokestatic 43, 3) := by decide +kernel
theorem dX3_copyFrom_23 : decode cX3_copyFrom 23 = .ok (.aload_n 1, 1) := by decide +kernel
theorem dX3_copyFrom_24 : decode cX3_copyFrom 24 = .ok (.getfield 15, 3) := by decide +kernel
theorem dX3_copyFrom_27 : decode cX3_copyFrom 27 = .ok (.iconst 0, 1) := by decide +kernel
theorem dX3_copyFrom_28 : decode cX3_copyFrom 28 = .ok (.aload_n 0, 1) := by decide +kernel
theorem dX3_copyFrom_29 : decode cX3_copyFrom 29 = .ok (.getfield 15, 3) := by decide +kernel
theorem dX3_copyFrom_32 : decode cX3_copyFrom 32 = .ok (.iconst 0, 1) := by decide +kernel
theorem dX3_copyFrom_33 : decode cX3_copyFrom 33 = .ok (.bipush 6, 2) := by decide +kernel
theorem dX3_copyFrom_35 : decode cX3_copyFrom 35 = .ok (.invokestatic 43, 3) := by decide +kernel
theorem dX3_copyFrom_38 : decode cX3_copyFrom 38 = .ok (.aload_n 1, 1) := by decide +kernel
theorem dX3_copyFrom_39 : decode cX3_copyFrom 39 = .ok (.getfield 18, 3) := by decide +kernel
theorem dX3_copyFrom_42 : decode cX3_copyFrom 42 = .ok (.iconst 0, 1) := by decide +kernel
theorem dX3_copyFrom_43 : decode cX3_copyFrom 43 = .ok (.aload_n 0, 1) := by decide +kernel
theorem dX3_copyFrom_44 : decode cX3_copyFrom 44 = .ok (.getfield 18, 3) := by decide +kernel
theorem dX3_copyFrom_47 : decode cX3_copyFrom 47 = .ok (.iconst 0, 1) := by decide +kernel
theorem dX3_copyFrom_48 : decode cX3_copyFrom 48 = .ok (.bipush 6, 2) := by decide +kernel
theorem dX3_copyFrom_50 : decode cX3_copyFrom 50 = .ok (.invokestatic 43, 3) := by decide +kernel
theorem dX3_copyFrom_53 : decode cX3_copyFrom 53 = .ok (.aload_n 1, 1) := by decide +kernel
theorem dX3_copyFrom_54 : decode cX3_copyFrom 54 = .ok (.getfield 21, 3) := by decide +kernel
theorem dX3_copyFrom_57 : decode cX3_copyFrom 57 = .ok (.iconst 0, 1) := by decide +kernel
theorem dX3_copyFrom_58 : decode cX3_copyFrom 58 = .ok (.aload_n 0, 1) := by decide +kernel
theorem dX3_copyFrom_59 : decode cX3_copyFrom 59 = .ok (.getfield 21, 3) := by decide +kernel
theorem dX3_copyFrom_62 : decode cX3_copyFrom 62 = .ok (.iconst 0, 1) := by decide +kernel
theorem dX3_copyFrom_63 : decode cX3_copyFrom 63 = .ok (.bipush 6, 2) := by decide +kernel
theorem dX3_copyFrom_65 : decode cX3_copyFrom 65 = .ok (.invokestatic 43, 3) := by decide +kernel
theorem dX3_copyFrom_68 : decode cX3_copyFrom 68 = .ok (.aload_n 1, 1) := by decide +kernel
theorem dX3_copyFrom_69 : decode cX3_copyFrom 69 = .ok (.getfield 24, 3) := by decide +kernel
theorem dX3_copyFrom_72 : decode cX3_copyFrom 72 = .ok (.iconst 0, 1) := by decide +kernel
theorem dX3_copyFrom_73 : decode cX3_copyFrom 73 = .ok (.aload_n 0, 1) := by decide +kernel
theorem dX3_copyFrom_74 : decode cX3_copyFrom 74 = .ok (.getfield 24, 3) := by decide +kernel
theorem dX3_copyFrom_77 : decode cX3_copyFrom 77 = .ok (.iconst 0, 1) := by decide +kernel
theorem dX3_copyFrom_78 : decode cX3_copyFrom 78 = .ok (.bipush 6, 2) := by decide +kernel
theorem dX3_copyFrom_80 : decode cX3_copyFrom 80 = .ok (.invokestatic 43, 3) := by decide +kernel
theorem dX3_copyFrom_83 : decode cX3_copyFrom 83 = .ok (.aload_n 0, 1) := by decide +kernel
theorem dX3_copyFrom_84 : decode cX3_copyFrom 84 = .ok (.aload_n 1, 1) := by decide +kernel
theorem dX3_copyFrom_85 : decode cX3_copyFrom 85 = .ok (.getfield 40, 3) := by decide +kernel
theorem dX3_copyFrom_88 : decode cX3_copyFrom 88 = .ok (.putfield 40, 3) := by decide +kernel
theorem dX3_copyFrom_91 : decode cX3_copyFrom 91 = .ok (.aload_n 1, 1) := by decide +kernel
theorem dX3_copyFrom_92 : decode cX3_copyFrom 92 = .ok (.getfield 27, 3) := by decide +kernel
theorem dX3_copyFrom_95 : decode cX3_copyFrom 95 = .ok (.iconst 0, 1) := by decide +kernel
theorem dX3_copyFrom_96 : decode cX3_copyFrom 96 = .ok (.aload_n 0, 1) := by decide +kernel
theorem dX3_copyFrom_97 : decode cX3_copyFrom 97 = .ok (.getfield 27, 3) := by decide +kernel
theorem dX3_copyFrom_100 : decode cX3_copyFrom 100 = .ok (.iconst 0, 1) := by decide +kernel
theorem dX3_copyFrom_101 : decode cX3_copyFrom 101 = .ok (.bipush 6, 2) := by decide +kernel
theorem dX3_copyFrom_103 : decode cX3_copyFrom 103 = .ok (.invokestatic 43, 3) := by decide +kernel
theorem dX3_copyFrom_106 : decode cX3_copyFrom 106 = .ok (.aload_n 1, 1) := by decide +kernel
theorem dX3_copyFrom_107 : decode cX3_copyFrom 107 = .ok (.getfield 30, 3) := by decide +kernel
theorem dX3_copyFrom_110 : decode cX3_copyFrom 110 = .ok (.iconst 0, 1) := by decide +kernel
theorem dX3_copyFrom_111 : decode cX3_copyFrom 111 = .ok (.aload_n 0, 1) := by decide +kernel
theorem dX3_copyFrom_112 : decode cX3_copyFrom 112 = .ok (.getfield 30, 3) := by decide +kernel
theorem dX3_copyFrom_115 : decode cX3_copyFrom 115 = .ok (.iconst 0, 1) := by decide +kernel
theorem dX3_copyFrom_116 : decode cX3_copyFrom 116 = .ok (.bipush 6, 2) := by decide +kernel
theorem dX3_copyFrom_118 : decode cX3_copyFrom 118 = .ok (.invokestatic 43, 3) := by decide +kernel
theorem dX3_copyFrom_121 : decode cX3_copyFrom 121 = .ok (.aload_n 0, 1) := by decide +kernel
theorem dX3_copyFrom_122 : decode cX3_copyFrom 122 = .ok (.aload_n 1, 1) := by decide +kernel
theorem dX3_copyFrom_123 : decode cX3_copyFrom 123 = .ok (.getfield 33, 3) := by decide +kernel
theorem dX3_copyFrom_126 : decode cX3_copyFrom 126 = .ok (.putfield 33, 3) := by decide +kernel
theorem dX3_copyFrom_129 : decode cX3_copyFrom 129 = .ok (.return_, 1) := by decide +kernel
theorem dX3_addTree_0 : decode cX3_addTree 0 = .ok (.aload_n 0, 1) := by decide +kernel
theorem dX3_addTree_1 : decode cX3_addTree 1 = .ok (.getfield 37, 3) := by decide +kernel
theorem dX3_addTree_4 : decode cX3_addTree 4 = .ok (.bipush 6, 2) := by decide +kernel
theorem dX3_addTree_6 : decode cX3_addTree 6 = .ok (.if_icmp .lt 4, 3) := by decide +kernel
theorem dX3_addTree_9 : decode cX3_addTree 9 = .ok (.return_, 1) := by decide +kernel
theorem dX3_addTree_10 : decode cX3_addTree 10 = .ok (.aload_n 0, 1) := by decide +kernel
theorem dX3_addTree_11 : decode cX3_addTree 11 = .ok (.getfield 9, 3) := by decide +kernel
theorem dX3_addTree_14 : decode cX3_addTree 14 = .ok (.aload_n 0, 1) := by decide +kernel
theorem dX3_addTree_15 : decode cX3_addTree 15 = .ok (.getfield 37, 3) := by decide +kernel
theorem dX3_addTree_18 : decode cX3_addTree 18 = .ok (.iload_n 1, 1) := by decide +kernel
theorem dX3_addTree_19 : decode cX3_addTree 19 = .ok (.iastore, 1) := by decide +kernel
theorem dX3_addTree_20 : decode cX3_addTree 20 = .ok (.aload_n 0, 1) := by decide +kernel
theorem dX3_addTree_21 : decode cX3_addTree 21 = .ok (.getfield 15, 3) := by decide +kernel
theorem dX3_addTree_24 : decode cX3_addTree 24 = .ok (.aload_n 0, 1) := by decide +kernel
theorem dX3_addTree_25 : decode cX3_addTree 25 = .ok (.getfield 37, 3) := by decide +kernel
theorem dX3_addTree_28 : decode cX3_addTree 28 = .ok (.iload_n 2, 1) := by decide +kernel
theorem dX3_addTree_29 : decode cX3_addTree 29 = .ok (.iastore, 1) := by decide +kernel
theorem dX3_addTree_30 : decode cX3_addTree 30 = .ok (.aload_n 0, 1) := by decide +kernel
theorem dX3_addTree_31 : decode cX3_addTree 31 = .ok (.getfield 18, 3) := by decide +kernel
theorem dX3_addTree_34 : decode cX3_addTree 34 = .ok (.aload_n 0, 1) := by decide +kernel
theorem dX3_addTree_35 : decode cX3_addTree 35 = .ok (.getfield 37, 3) := by decide +kernel
theorem dX3_addTree_38 : decode cX3_addTree 38 = .ok (.iload_n 3, 1) := by decide +kernel
theorem dX3_addTree_39 : decode cX3_addTree 39 = .ok (.iastore, 1) := by decide +kernel
theorem dX3_addTree_40 : decode cX3_addTree 40 = .ok (.aload_n 0, 1) := by decide +kernel
theorem dX3_addTree_41 : decode cX3_addTree 41 = .ok (.getfield 21, 3) := by decide +kernel
theorem dX3_addTree_44 : decode cX3_addTree 44 = .ok (.aload_n 0, 1) := by decide +kernel
theorem dX3_addTree_45 : decode cX3_addTree 45 = .ok (.getfield 37, 3) := by decide +kernel
theorem dX3_addTree_48 : decode cX3_addTree 48 = .ok (.iload 4, 2) := by decide +kernel
theorem dX3_addTree_50 : decode cX3_addTree 50 = .ok (.iastore, 1) := by decide +kernel
theorem dX3_addTree_51 : decode cX3_addTree 51 = .ok (.aload_n 0, 1) := by decide +kernel
theorem dX3_addTree_52 : decode cX3_addTree 52 = .ok (.getfield 24, 3) := by decide +kernel
theorem dX3_addTree_55 : decode cX3_addTree 55 = .ok (.aload_n 0, 1) := by decide +kernel
theorem dX3_addTree_56 : decode cX3_addTree 56 = .ok (.getfield 37, 3) := by decide +kernel
theorem dX3_addTree_59 : decode cX3_addTree 59 = .ok (.iconst 0, 1) := by decide +kernel
theorem dX3_addTree_60 : decode cX3_addTree 60 = .ok (.iastore, 1) := by decide +kernel
theorem dX3_addTree_61 : decode cX3_addTree 61 = .ok (.aload_n 0, 1) := by decide +kernel
theorem dX3_addTree_62 : decode cX3_addTree 62 = .ok (.dup, 1) := by decide +kernel
theorem dX3_addTree_63 : decode cX3_addTree 63 = .ok (.getfield 37, 3) := by decide +kernel
theorem dX3_addTree_66 : decode cX3_addTree 66 = .ok (.iconst 1, 1) := by decide +kernel
theorem dX3_addTree_67 : decode cX3_addTree 67 = .ok (.iadd, 1) := by decide +kernel
theorem dX3_addTree_68 : decode cX3_addTree 68 = .ok (.putfield 37, 3) := by decide +kernel
theorem dX3_addTree_71 : decode cX3_addTree 71 = .ok (.return_, 1) := by decide +kernel
theorem dX3_addQuarrel_0 : decode cX3_addQuarrel 0 = .ok (.aload_n 0, 1) := by decide +kernel
theorem dX3_addQuarrel_1 : decode cX3_addQuarrel 1 = .ok (.getfield 40, 3) := by decide +kernel
theorem dX3_addQuarrel_4 : decode cX3_addQuarrel 4 = .ok (.bipush 6, 2) := by decide +kernel
theorem dX3_addQuarrel_6 : decode cX3_addQuarrel 6 = .ok (.if_icmp .lt 4, 3) := by decide +kernel
theorem dX3_addQuarrel_9 : decode cX3_addQuarrel 9 = .ok (.return_, 1) := by decide +kernel
theorem dX3_addQuarrel_10 : decode cX3_addQuarrel 10 = .ok (.aload_n 0, 1) := by decide +kernel
theorem dX3_addQuarrel_11 : decode cX3_addQuarrel 11 = .ok (.getfield 27, 3) := by decide +kernel
theorem dX3_addQuarrel_14 : decode cX3_addQuarrel 14 = .ok (.aload_n 0, 1) := by decide +kernel
theorem dX3_addQuarrel_15 : decode cX3_addQuarrel 15 = .ok (.getfield 40, 3) := by decide +kernel
theorem dX3_addQuarrel_18 : decode cX3_addQuarrel 18 = .ok (.iload_n 1, 1) := by decide +kernel
theorem dX3_addQuarrel_19 : decode cX3_addQuarrel 19 = .ok (.iastore, 1) := by decide +kernel
theorem dX3_addQuarrel_20 : decode cX3_addQuarrel 20 = .ok (.aload_n 0, 1) := by decide +kernel
theorem dX3_addQuarrel_21 : decode cX3_addQuarrel 21 = .ok (.getfield 30, 3) := by decide +kernel
theorem dX3_addQuarrel_24 : decode cX3_addQuarrel 24 = .ok (.aload_n 0, 1) := by decide +kernel
theorem dX3_addQuarrel_25 : decode cX3_addQuarrel 25 = .ok (.getfield 40, 3) := by decide +kernel
theorem dX3_addQuarrel_28 : decode cX3_addQuarrel 28 = .ok (.iload_n 2, 1) := by decide +kernel
theorem dX3_addQuarrel_29 : decode cX3_addQuarrel 29 = .ok (.iastore, 1) := by decide +kernel
theorem dX3_addQuarrel_30 : decode cX3_addQuarrel 30 = .ok (.aload_n 0, 1) := by decide +kernel
theorem dX3_addQuarrel_31 : decode cX3_addQuarrel 31 = .ok (.dup, 1) := by decide +kernel
theorem dX3_addQuarrel_32 : decode cX3_addQuarrel 32 = .ok (.getfield 40, 3) := by decide +kernel
theorem dX3_addQuarrel_35 : decode cX3_addQuarrel 35 = .ok (.iconst 1, 1) := by decide +kernel
theorem dX3_addQuarrel_36 : decode cX3_addQuarrel 36 = .ok (.iadd, 1) := by decide +kernel
theorem dX3_addQuarrel_37 : decode cX3_addQuarrel 37 = .ok (.putfield 40, 3) := by decide +kernel
theorem dX3_addQuarrel_40 : decode cX3_addQuarrel 40 = .ok (.return_, 1) := by decide +kernel
theorem dX3_isOfKind_0 : decode cX3_isOfKind 0 = .ok (.aload_n 0, 1) := by decide +kernel
theorem dX3_isOfKind_1 : decode cX3_isOfKind 1 = .ok (.getfield 9, 3) := by decide +kernel
theorem dX3_isOfKind_4 : decode cX3_isOfKind 4 = .ok (.iload_n 1, 1) := by decide +kernel
theorem dX3_isOfKind_5 : decode cX3_isOfKind 5 = .ok (.iaload, 1) := by decide +kernel
theorem dX3_isOfKind_6 : decode cX3_isOfKind 6 = .ok (.iconst 1, 1) := by decide +kernel
theorem dX3_isOfKind_7 : decode cX3_isOfKind 7 = .ok (.iadd, 1) := by decide +kernel
theorem dX3_isOfKind_8 : decode cX3_isOfKind 8 = .ok (.istore_n 3, 1) := by decide +kernel
theorem dX3_isOfKind_9 : decode cX3_isOfKind 9 = .ok (.iconst 0, 1) := by decide +kernel
theorem dX3_isOfKind_10 : decode cX3_isOfKind 10 = .ok (.istore 4, 2) := by decide +kernel
theorem dX3_isOfKind_12 : decode cX3_isOfKind 12 = .ok (.iload 4, 2) := by decide +kernel
theorem dX3_isOfKind_14 : decode cX3_isOfKind 14 = .ok (.iconst 3, 1) := by decide +kernel
theorem dX3_isOfKind_15 : decode cX3_isOfKind 15 = .ok (.if_icmp .ge 22, 3) := by decide +kernel
theorem dX3_isOfKind_18 : decode cX3_isOfKind 18 = .ok (.iload_n 3, 1) := by decide +kernel
theorem dX3_isOfKind_19 : decode cX3_isOfKind 19 = .ok (.iload_n 2, 1) := by decide +kernel
theorem dX3_isOfKind_20 : decode cX3_isOfKind 20 = .ok (.if_icmp .ne 5, 3) := by decide +kernel
theorem dX3_isOfKind_23 : decode cX3_isOfKind 23 = .ok (.iconst 1, 1) := by decide +kernel
theorem dX3_isOfKind_24 : decode cX3_isOfKind 24 = .ok (.ireturn, 1) := by decide +kernel
theorem dX3_isOfKind_25 : decode cX3_isOfKind 25 = .ok (.getstatic 49, 3) := by decide +kernel
theorem dX3_isOfKind_28 : decode cX3_isOfKind 28 = .ok (.iload_n 3, 1) := by decide +kernel
theorem dX3_isOfKind_29 : decode cX3_isOfKind 29 = .ok (.iaload, 1) := by decide +kernel
theorem dX3_isOfKind_30 : decode cX3_isOfKind 30 = .ok (.istore_n 3, 1) := by decide +kernel
theorem dX3_isOfKind_31 : decode cX3_isOfKind 31 = .ok (.iinc 4 1, 3) := by decide +kernel
theorem dX3_isOfKind_34 : decode cX3_isOfKind 34 = .ok (.goto (-22), 3) := by decide +kernel
theorem dX3_isOfKind_37 : decode cX3_isOfKind 37 = .ok (.iconst 0, 1) := by decide +kernel
theorem dX3_isOfKind_38 : decode cX3_isOfKind 38 = .ok (.ireturn, 1) := by decide +kernel
theorem dX3_dueOf_0 : decode cX3_dueOf 0 = .ok (.aload_n 0, 1) := by decide +kernel
theorem dX3_dueOf_1 : decode cX3_dueOf 1 = .ok (.getfield 9, 3) := by decide +kernel
theorem dX3_dueOf_4 : decode cX3_dueOf 4 = .ok (.iload_n 1, 1) := by decide +kernel
theorem dX3_dueOf_5 : decode cX3_dueOf 5 = .ok (.iaload, 1) := by decide +kernel
theorem dX3_dueOf_6 : decode cX3_dueOf 6 = .ok (.iconst 1, 1) := by decide +kernel
theorem dX3_dueOf_7 : decode cX3_dueOf 7 = .ok (.if_icmp .ne 9, 3) := by decide +kernel
theorem dX3_dueOf_10 : decode cX3_dueOf 10 = .ok (.iload_n 2, 1) := by decide +kernel
theorem dX3_dueOf_11 : decode cX3_dueOf 11 = .ok (.iconst 1, 1) := by decide +kernel
theorem dX3_dueOf_12 : decode cX3_dueOf 12 = .ok (.iadd, 1) := by decide +kernel
theorem dX3_dueOf_13 : decode cX3_dueOf 13 = .ok (.goto 11, 3) := by decide +kernel
theorem dX3_dueOf_16 : decode cX3_dueOf 16 = .ok (.iload_n 2, 1) := by decide +kernel
theorem dX3_dueOf_17 : decode cX3_dueOf 17 = .ok (.aload_n 0, 1) := by decide +kernel
theorem dX3_dueOf_18 : decode cX3_dueOf 18 = .ok (.getfield 21, 3) := by decide +kernel
theorem dX3_dueOf_21 : decode cX3_dueOf 21 = .ok (.iload_n 1, 1) := by decide +kernel
theorem dX3_dueOf_22 : decode cX3_dueOf 22 = .ok (.iaload, 1) := by decide +kernel
theorem dX3_dueOf_23 : decode cX3_dueOf 23 = .ok (.iadd, 1) := by decide +kernel
theorem dX3_dueOf_24 : decode cX3_dueOf 24 = .ok (.ireturn, 1) := by decide +kernel
theorem dX3_grownOnce_0 : decode cX3_grownOnce 0 = .ok (.aload_n 0, 1) := by decide +kernel
theorem dX3_grownOnce_1 : decode cX3_grownOnce 1 = .ok (.getfield 18, 3) := by decide +kernel
theorem dX3_grownOnce_4 : decode cX3_grownOnce 4 = .ok (.iload_n 1, 1) := by decide +kernel
theorem dX3_grownOnce_5 : decode cX3_grownOnce 5 = .ok (.iaload, 1) := by decide +kernel
theorem dX3_grownOnce_6 : decode cX3_grownOnce 6 = .ok (.istore 4, 2) := by decide +kernel
theorem dX3_grownOnce_8 : decode cX3_grownOnce 8 = .ok (.aload_n 0, 1) := by decide +kernel
theorem dX3_grownOnce_9 : decode cX3_grownOnce 9 = .ok (.getfield 9, 3) := by decide +kernel
theorem dX3_grownOnce_12 : decode cX3_grownOnce 12 = .ok (.iload_n 1, 1) := by decide +kernel
theorem dX3_grownOnce_13 : decode cX3_grownOnce 13 = .ok (.iaload, 1) := by decide +kernel
theorem dX3_grownOnce_14 : decode cX3_grownOnce 14 = .ok (.lookupswitch 49 #[(2, 26), (3, 40)], 26) := by decide +kernel
theorem dX3_grownOnce_40 : decode cX3_grownOnce 40 = .ok (.iload_n 2, 1) := by decide +kernel
theorem dX3_grownOnce_41 : decode cX3_grownOnce 41 = .ok (.iload 4, 2) := by decide +kernel
theorem dX3_grownOnce_43 : decode cX3_grownOnce 43 = .ok (.iconst 2, 1) := by decide +kernel
theorem dX3_grownOnce_44 : decode cX3_grownOnce 44 = .ok (.idiv, 1) := by decide +kernel
theorem dX3_grownOnce_45 : decode cX3_grownOnce 45 = .ok (.imul, 1) := by decide +kernel
theorem dX3_grownOnce_46 : decode cX3_grownOnce 46 = .ok (.bipush 100, 2) := by decide +kernel
theorem dX3_grownOnce_48 : decode cX3_grownOnce 48 = .ok (.idiv, 1) := by decide +kernel
theorem dX3_grownOnce_49 : decode cX3_grownOnce 49 = .ok (.istore 5, 2) := by decide +kernel
theorem dX3_grownOnce_51 : decode cX3_grownOnce 51 = .ok (.goto 21, 3) := by decide +kernel
theorem dX3_grownOnce_54 : decode cX3_grownOnce 54 = .ok (.iload 4, 2) := by decide +kernel
theorem dX3_grownOnce_56 : decode cX3_grownOnce 56 = .ok (.iload_n 3, 1) := by decide +kernel
theorem dX3_grownOnce_57 : decode cX3_grownOnce 57 = .ok (.imul, 1) := by decide +kernel
theorem dX3_grownOnce_58 : decode cX3_grownOnce 58 = .ok (.istore 5, 2) := by decide +kernel
theorem dX3_grownOnce_60 : decode cX3_grownOnce 60 = .ok (.goto 12, 3) := by decide +kernel
theorem dX3_grownOnce_63 : decode cX3_grownOnce 63 = .ok (.iload_n 2, 1) := by decide +kernel
theorem dX3_grownOnce_64 : decode cX3_grownOnce 64 = .ok (.iload 4, 2) := by decide +kernel
theorem dX3_grownOnce_66 : decode cX3_grownOnce 66 = .ok (.imul, 1) := by decide +kernel
theorem dX3_grownOnce_67 : decode cX3_grownOnce 67 = .ok (.bipush 100, 2) := by decide +kernel
theorem dX3_grownOnce_69 : decode cX3_grownOnce 69 = .ok (.idiv, 1) := by decide +kernel
theorem dX3_grownOnce_70 : decode cX3_grownOnce 70 = .ok (.istore 5, 2) := by decide +kernel
theorem dX3_grownOnce_72 : decode cX3_grownOnce 72 = .ok (.iload_n 2, 1) := by decide +kernel
theorem dX3_grownOnce_73 : decode cX3_grownOnce 73 = .ok (.iload 5, 2) := by decide +kernel
theorem dX3_grownOnce_75 : decode cX3_grownOnce 75 = .ok (.iadd, 1) := by decide +kernel
theorem dX3_grownOnce_76 : decode cX3_grownOnce 76 = .ok (.ldc 52, 2) := by decide +kernel
theorem dX3_grownOnce_78 : decode cX3_grownOnce 78 = .ok (.invokestatic 53, 3) := by decide +kernel
theorem dX3_grownOnce_81 : decode cX3_grownOnce 81 = .ok (.ireturn, 1) := by decide +kernel
set_option maxRecDepth 20000 in
theorem ggX3_grownIn_X3_grownOnce : GoodIn wsX3_grownIn wsX3_grownOnce := goodIn_r _ [5, 6, 7, 8, 9, 10, 11, 12, 13, 14, 15, 16, 17, 18, 19, 20, 21, 22] (by decide +kernel) (by decide +kernel)
set_option maxRecDepth 20000 in
theorem gX3_grownIn_X3_grownOnce : GoodIn wsX3_grownIn (wsV RX3 59 RX3 yX3_grownOnce wsX3_grownOnce) := goodIn_app (goodIn_of _ (by decide +kernel)) ggX3_grownIn_X3_grownOnce
theorem dX3_grownIn_0 : decode cX3_grownIn 0 = .ok (.bipush 100, 2) := by decide +kernel
theorem dX3_grownIn_2 : decode cX3_grownIn 2 = .ok (.iload_n 2, 1) := by decide +kernel
theorem dX3_grownIn_3 : decode cX3_grownIn 3 = .ok (.imul, 1) := by decide +kernel
theorem dX3_grownIn_4 : decode cX3_grownIn 4 = .ok (.istore 4, 2) := by decide +kernel
theorem dX3_grownIn_6 : decode cX3_grownIn 6 = .ok (.iconst 0, 1) := by decide +kernel
theorem dX3_grownIn_7 : decode cX3_grownIn 7 = .ok (.istore 5, 2) := by decide +kernel
theorem dX3_grownIn_9 : decode cX3_grownIn 9 = .ok (.iload 5, 2) := by decide +kernel
theorem dX3_grownIn_11 : decode cX3_grownIn 11 = .ok (.iload_n 3, 1) := by decide +kernel
theorem dX3_grownIn_12 : decode cX3_grownIn 12 = .ok (.if_icmp .ge 19, 3) := by decide +kernel
theorem dX3_grownIn_15 : decode cX3_grownIn 15 = .ok (.aload_n 0, 1) := by decide +kernel
theorem dX3_grownIn_16 : decode cX3_grownIn 16 = .ok (.iload_n 1, 1) := by decide +kernel
theorem dX3_grownIn_17 : decode cX3_grownIn 17 = .ok (.iload 4, 2) := by decide +kernel
theorem dX3_grownIn_19 : decode cX3_grownIn 19 = .ok (.iload_n 2, 1) := by decide +kernel
theorem dX3_grownIn_20 : decode cX3_grownIn 20 = .ok (.invokevirtual 59, 3) := by decide +kernel
theorem dX3_grownIn_23 : decode cX3_grownIn 23 = .ok (.istore 4, 2) := by decide +kernel
theorem dX3_grownIn_25 : decode cX3_grownIn 25 = .ok (.iinc 5 1, 3) := by decide +kernel
theorem dX3_grownIn_28 : decode cX3_grownIn 28 = .ok (.goto (-19), 3) := by decide +kernel
theorem dX3_grownIn_31 : decode cX3_grownIn 31 = .ok (.iload 4, 2) := by decide +kernel
theorem dX3_grownIn_33 : decode cX3_grownIn 33 = .ok (.ireturn, 1) := by decide +kernel
set_option maxRecDepth 20000 in
theorem ggX4_init_X2_init : GoodIn wsX4_init wsX2_init := goodIn_r _ [25, 26, 2, 3, 27, 28, 29, 9, 10, 30, 31, 32, 33, 34, 35, 36, 37, 38, 39, 40, 41, 60, 61, 62, 63, 64, 65, 66, 67, 75, 76, 77, 78, 79, 80, 81, 82, 83, 84] (by decide +kernel) (by decide +kernel)
set_option maxRecDepth 20000 in
theorem gX4_init_X2_init_n9 : GoodIn wsX4_init (wsX2_init) := ggX4_init_X2_init
set_option maxRecDepth 20000 in
theorem ggX4_init_X3_init : GoodIn wsX4_init wsX3_init := goodIn_r _ [32, 33, 2, 3, 27, 34, 35, 36, 37, 38, 39, 40, 41, 75, 76, 77, 78, 79, 80, 81, 82, 83, 84] (by decide +kernel) (by decide +kernel)
set_option maxRecDepth 20000 in
theorem gX4_init_X3_init_n18 : GoodIn wsX4_init (wsX3_init) := ggX4_init_X3_init
set_option maxRecDepth 20000 in
theorem ggX4_init_X1_init : GoodIn wsX4_init wsX1_init := goodIn_r _ [43, 44, 2, 3, 27, 45, 46, 47, 48, 49, 50, 51, 85, 86, 87, 88, 89, 90, 91, 92, 93, 94] (by decide +kernel) (by decide +kernel)
set_option maxRecDepth 20000 in
theorem gX4_init_X1_init_n25 : GoodIn wsX4_init (wsX1_init) := ggX4_init_X1_init
set_option maxRecDepth 20000 in
theorem ggX4_init_X0_init : GoodIn wsX4_init wsX0_init := goodIn_r _ [53, 54, 2, 3, 55, 27, 56, 57, 58, 59, 95, 96, 97, 98, 99] (by decide +kernel) (by decide +kernel)
set_option maxRecDepth 20000 in
theorem gX4_init_X0_init_n43 : GoodIn wsX4_init (wsX0_init) := ggX4_init_X0_init
theorem dX4_init_0 : decode cX4_init 0 = .ok (.aload_n 0, 1) := by decide +kernel
theorem dX4_init_1 : decode cX4_init 1 = .ok (.invokespecial 1, 3) := by decide +kernel
theorem dX4_init_4 : decode cX4_init 4 = .ok (.aload_n 0, 1) := by decide +kernel
theorem dX4_init_5 : decode cX4_init 5 = .ok (.new 7, 3) := by decide +kernel
theorem dX4_init_8 : decode cX4_init 8 = .ok (.dup, 1) := by decide +kernel
theorem dX4_init_9 : decode cX4_init 9 = .ok (.invokespecial 9, 3) := by decide +kernel
theorem dX4_init_12 : decode cX4_init 12 = .ok (.putfield 10, 3) := by decide +kernel
theorem dX4_init_15 : decode cX4_init 15 = .ok (.aload_n 0, 1) := by decide +kernel
theorem dX4_init_16 : decode cX4_init 16 = .ok (.new 16, 3) := by decide +kernel
theorem dX4_init_19 : decode cX4_init 19 = .ok (.dup, 1) := by decide +kernel
theorem dX4_init_20 : decode cX4_init 20 = .ok (.invokespecial 18, 3) := by decide +kernel
theorem dX4_init_23 : decode cX4_init 23 = .ok (.putfield 19, 3) := by decide +kernel
theorem dX4_init_26 : decode cX4_init 26 = .ok (.aload_n 0, 1) := by decide +kernel
theorem dX4_init_27 : decode cX4_init 27 = .ok (.new 23, 3) := by decide +kernel
theorem dX4_init_30 : decode cX4_init 30 = .ok (.dup, 1) := by decide +kernel
theorem dX4_init_31 : decode cX4_init 31 = .ok (.invokespecial 25, 3) := by decide +kernel
theorem dX4_init_34 : decode cX4_init 34 = .ok (.putfield 26, 3) := by decide +kernel
theorem dX4_init_37 : decode cX4_init 37 = .ok (.aload_n 0, 1) := by decide +kernel

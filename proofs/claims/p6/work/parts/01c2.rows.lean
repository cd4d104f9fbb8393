theorem dX4_init_38 : decode cX4_init 38 = .ok (.new 23, 3) := by decide +kernel
theorem dX4_init_41 : decode cX4_init 41 = .ok (.dup, 1) := by decide +kernel
theorem dX4_init_42 : decode cX4_init 42 = .ok (.invokespecial 25, 3) := by decide +kernel
theorem dX4_init_45 : decode cX4_init 45 = .ok (.putfield 30, 3) := by decide +kernel
theorem dX4_init_48 : decode cX4_init 48 = .ok (.aload_n 0, 1) := by decide +kernel
theorem dX4_init_49 : decode cX4_init 49 = .ok (.iconst 2, 1) := by decide +kernel
theorem dX4_init_50 : decode cX4_init 50 = .ok (.anewarray 23, 3) := by decide +kernel
theorem dX4_init_53 : decode cX4_init 53 = .ok (.dup, 1) := by decide +kernel
theorem dX4_init_54 : decode cX4_init 54 = .ok (.iconst 0, 1) := by decide +kernel
theorem dX4_init_55 : decode cX4_init 55 = .ok (.new 23, 3) := by decide +kernel
theorem dX4_init_58 : decode cX4_init 58 = .ok (.dup, 1) := by decide +kernel
theorem dX4_init_59 : decode cX4_init 59 = .ok (.invokespecial 25, 3) := by decide +kernel
theorem dX4_init_62 : decode cX4_init 62 = .ok (.aastore, 1) := by decide +kernel
theorem dX4_init_63 : decode cX4_init 63 = .ok (.dup, 1) := by decide +kernel
theorem dX4_init_64 : decode cX4_init 64 = .ok (.iconst 1, 1) := by decide +kernel
theorem dX4_init_65 : decode cX4_init 65 = .ok (.new 23, 3) := by decide +kernel
theorem dX4_init_68 : decode cX4_init 68 = .ok (.dup, 1) := by decide +kernel
theorem dX4_init_69 : decode cX4_init 69 = .ok (.invokespecial 25, 3) := by decide +kernel
theorem dX4_init_72 : decode cX4_init 72 = .ok (.aastore, 1) := by decide +kernel
theorem dX4_init_73 : decode cX4_init 73 = .ok (.putfield 33, 3) := by decide +kernel
theorem dX4_init_76 : decode cX4_init 76 = .ok (.aload_n 0, 1) := by decide +kernel
theorem dX4_init_77 : decode cX4_init 77 = .ok (.aload_n 0, 1) := by decide +kernel
theorem dX4_init_78 : decode cX4_init 78 = .ok (.getfield 33, 3) := by decide +kernel
theorem dX4_init_81 : decode cX4_init 81 = .ok (.arraylength, 1) := by decide +kernel
theorem dX4_init_82 : decode cX4_init 82 = .ok (.newarray .boolean, 2) := by decide +kernel
theorem dX4_init_84 : decode cX4_init 84 = .ok (.putfield 37, 3) := by decide +kernel
theorem dX4_init_87 : decode cX4_init 87 = .ok (.aload_n 0, 1) := by decide +kernel
theorem dX4_init_88 : decode cX4_init 88 = .ok (.new 41, 3) := by decide +kernel
theorem dX4_init_91 : decode cX4_init 91 = .ok (.dup, 1) := by decide +kernel
theorem dX4_init_92 : decode cX4_init 92 = .ok (.invokespecial 43, 3) := by decide +kernel
theorem dX4_init_95 : decode cX4_init 95 = .ok (.putfield 44, 3) := by decide +kernel
theorem dX4_init_98 : decode cX4_init 98 = .ok (.return_, 1) := by decide +kernel
set_option maxRecDepth 20000 in
theorem ggX4_write_X2_add : GoodIn wsX4_write wsX2_add := goodIn_r _ [8, 9, 10, 18, 19, 20, 21, 22, 23, 24, 25] (by decide +kernel) (by decide +kernel)
set_option maxRecDepth 20000 in
theorem gX4_write_X2_add : GoodIn wsX4_write (wsV RX4 54 RX2 yX2_add wsX2_add) := goodIn_app (goodIn_of _ (by decide +kernel)) ggX4_write_X2_add
theorem dX4_write_0 : decode cX4_write 0 = .ok (.iload_n 3, 1) := by decide +kernel
theorem dX4_write_1 : decode cX4_write 1 = .ok (.iconst 1, 1) := by decide +kernel
theorem dX4_write_2 : decode cX4_write 2 = .ok (.if_icmp .lt 9, 3) := by decide +kernel
theorem dX4_write_5 : decode cX4_write 5 = .ok (.iload_n 3, 1) := by decide +kernel
theorem dX4_write_6 : decode cX4_write 6 = .ok (.bipush 8, 2) := by decide +kernel
theorem dX4_write_8 : decode cX4_write 8 = .ok (.if_icmp .le 6, 3) := by decide +kernel
theorem dX4_write_11 : decode cX4_write 11 = .ok (.bipush (-3), 2) := by decide +kernel
theorem dX4_write_13 : decode cX4_write 13 = .ok (.ireturn, 1) := by decide +kernel
theorem dX4_write_14 : decode cX4_write 14 = .ok (.aload_n 0, 1) := by decide +kernel
theorem dX4_write_15 : decode cX4_write 15 = .ok (.getfield 10, 3) := by decide +kernel
theorem dX4_write_18 : decode cX4_write 18 = .ok (.getfield 48, 3) := by decide +kernel
theorem dX4_write_21 : decode cX4_write 21 = .ok (.iload_n 3, 1) := by decide +kernel
theorem dX4_write_22 : decode cX4_write 22 = .ok (.iadd, 1) := by decide +kernel
theorem dX4_write_23 : decode cX4_write 23 = .ok (.sipush 200, 3) := by decide +kernel
theorem dX4_write_26 : decode cX4_write 26 = .ok (.if_icmp .le 6, 3) := by decide +kernel
theorem dX4_write_29 : decode cX4_write 29 = .ok (.bipush (-5), 2) := by decide +kernel
theorem dX4_write_31 : decode cX4_write 31 = .ok (.ireturn, 1) := by decide +kernel
theorem dX4_write_32 : decode cX4_write 32 = .ok (.iconst 0, 1) := by decide +kernel
theorem dX4_write_33 : decode cX4_write 33 = .ok (.istore 4, 2) := by decide +kernel
theorem dX4_write_35 : decode cX4_write 35 = .ok (.iload 4, 2) := by decide +kernel
theorem dX4_write_37 : decode cX4_write 37 = .ok (.iload_n 3, 1) := by decide +kernel
theorem dX4_write_38 : decode cX4_write 38 = .ok (.if_icmp .ge 28, 3) := by decide +kernel
theorem dX4_write_41 : decode cX4_write 41 = .ok (.aload_n 0, 1) := by decide +kernel
theorem dX4_write_42 : decode cX4_write 42 = .ok (.getfield 10, 3) := by decide +kernel
theorem dX4_write_45 : decode cX4_write 45 = .ok (.lload_n 1, 1) := by decide +kernel
theorem dX4_write_46 : decode cX4_write 46 = .ok (.bipush 8, 2) := by decide +kernel
theorem dX4_write_48 : decode cX4_write 48 = .ok (.iload 4, 2) := by decide +kernel
theorem dX4_write_50 : decode cX4_write 50 = .ok (.imul, 1) := by decide +kernel
theorem dX4_write_51 : decode cX4_write 51 = .ok (.lshr, 1) := by decide +kernel
theorem dX4_write_52 : decode cX4_write 52 = .ok (.ldc2_w 52, 3) := by decide +kernel
theorem dX4_write_55 : decode cX4_write 55 = .ok (.land, 1) := by decide +kernel
theorem dX4_write_56 : decode cX4_write 56 = .ok (.l2i, 1) := by decide +kernel
theorem dX4_write_57 : decode cX4_write 57 = .ok (.invokevirtual 54, 3) := by decide +kernel
theorem dX4_write_60 : decode cX4_write 60 = .ok (.iinc 4 1, 3) := by decide +kernel
theorem dX4_write_63 : decode cX4_write 63 = .ok (.goto (-28), 3) := by decide +kernel
theorem dX4_write_66 : decode cX4_write 66 = .ok (.aload_n 0, 1) := by decide +kernel
theorem dX4_write_67 : decode cX4_write 67 = .ok (.getfield 10, 3) := by decide +kernel
theorem dX4_write_70 : decode cX4_write 70 = .ok (.getfield 48, 3) := by decide +kernel
theorem dX4_write_73 : decode cX4_write 73 = .ok (.ireturn, 1) := by decide +kernel
theorem dX4_erase_0 : decode cX4_erase 0 = .ok (.aload_n 0, 1) := by decide +kernel
theorem dX4_erase_1 : decode cX4_erase 1 = .ok (.getfield 10, 3) := by decide +kernel
theorem dX4_erase_4 : decode cX4_erase 4 = .ok (.getfield 48, 3) := by decide +kernel
theorem dX4_erase_7 : decode cX4_erase 7 = .ok (.istore_n 1, 1) := by decide +kernel
theorem dX4_erase_8 : decode cX4_erase 8 = .ok (.aload_n 0, 1) := by decide +kernel
theorem dX4_erase_9 : decode cX4_erase 9 = .ok (.getfield 10, 3) := by decide +kernel
theorem dX4_erase_12 : decode cX4_erase 12 = .ok (.iconst 0, 1) := by decide +kernel
theorem dX4_erase_13 : decode cX4_erase 13 = .ok (.putfield 48, 3) := by decide +kernel
theorem dX4_erase_16 : decode cX4_erase 16 = .ok (.iload_n 1, 1) := by decide +kernel
theorem dX4_erase_17 : decode cX4_erase 17 = .ok (.ireturn, 1) := by decide +kernel
set_option maxRecDepth 20000 in
theorem ggX4_fault_X2_read : GoodIn wsX4_fault wsX2_read := goodIn_r _ [7, 8, 9, 10, 11, 12, 13, 14, 15, 16, 17, 18, 19, 20, 21, 22, 23, 24, 25, 26, 27, 28, 29, 30, 31, 32, 33, 34, 6, 35, 36, 37, 38, 39, 40, 41, 42, 43, 44, 45, 46, 47, 48, 49, 50, 51, 52, 53, 54, 55, 56, 57, 58, 59, 60, 61, 62, 63, 64, 65, 66, 67, 68, 69, 70, 71, 72, 73, 74, 75, 76, 77, 78, 79, 80, 81, 82, 83, 84, 85, 86, 87, 88, 89, 90, 91, 92, 93, 94, 95, 96, 97, 98, 99, 100, 101, 102, 103, 104, 105, 106, 107, 108, 109, 110, 111, 112, 113, 114, 115, 116, 117, 118, 119, 120, 121, 122, 123, 124, 125, 126, 127, 128, 129, 130, 131, 132, 133, 134, 135, 136, 137, 138, 139, 140, 141, 142, 143, 144, 145, 146, 147, 148, 149, 157, 158, 159, 160, 161, 162, 163, 164, 165, 166, 167, 168, 169, 170, 171, 172, 173, 174] (by decide +kernel) (by decide +kernel)
set_option maxRecDepth 20000 in
theorem gX4_fault_X2_read : GoodIn wsX4_fault (wsV RX4 58 RX2 yX2_read wsX2_read) := goodIn_app (goodIn_of _ (by decide +kernel)) ggX4_fault_X2_read
theorem dX4_fault_0 : decode cX4_fault 0 = .ok (.aload_n 0, 1) := by decide +kernel
theorem dX4_fault_1 : decode cX4_fault 1 = .ok (.getfield 10, 3) := by decide +kernel
theorem dX4_fault_4 : decode cX4_fault 4 = .ok (.aload_n 0, 1) := by decide +kernel
theorem dX4_fault_5 : decode cX4_fault 5 = .ok (.getfield 19, 3) := by decide +kernel
theorem dX4_fault_8 : decode cX4_fault 8 = .ok (.invokevirtual 58, 3) := by decide +kernel
theorem dX4_fault_11 : decode cX4_fault 11 = .ok (.ireturn, 1) := by decide +kernel
set_option maxRecDepth 20000 in
theorem ggX4_wood_X2_read : GoodIn wsX4_wood wsX2_read := goodIn_r _ [12, 13, 14, 15, 16, 17, 18, 19, 20, 21, 22, 23, 24, 25, 26, 27, 28, 29, 30, 31, 32, 33, 34, 35, 36, 37, 38, 39, 11, 40, 41, 42, 43, 44, 45, 46, 47, 48, 49, 50, 51, 52, 53, 54, 55, 56, 57, 58, 59, 60, 61, 62, 63, 64, 65, 66, 67, 68, 69, 70, 71, 72, 73, 74, 75, 76, 77, 78, 79, 80, 81, 82, 83, 84, 85, 86, 87, 88, 89, 90, 91, 92, 93, 94, 95, 96, 97, 98, 99, 100, 101, 102, 103, 104, 105, 106, 107, 108, 109, 110, 111, 112, 113, 114, 115, 116, 117, 118, 119, 120, 121, 122, 123, 124, 125, 126, 127, 128, 129, 130, 131, 132, 133, 134, 135, 136, 137, 138, 139, 140, 141, 142, 143, 144, 145, 146, 147, 148, 149, 150, 151, 152, 153, 154, 174, 175, 176, 177, 178, 179, 180, 181, 182, 183, 184, 185, 186, 187, 188, 189, 190, 191] (by decide +kernel) (by decide +kernel)
set_option maxRecDepth 20000 in
theorem gX4_wood_X2_read : GoodIn wsX4_wood (wsV RX4 58 RX2 yX2_read wsX2_read) := goodIn_app (goodIn_of _ (by decide +kernel)) ggX4_wood_X2_read
set_option maxRecDepth 20000 in
theorem ggX4_wood_X3_copyFrom : GoodIn wsX4_wood wsX3_copyFrom := goodIn_r _ [22, 23, 24, 25, 26, 27, 28, 29, 30, 31, 32, 33, 34, 35, 36, 182, 183, 184, 185, 186, 187, 188, 189, 190, 191] (by decide +kernel) (by decide +kernel)
set_option maxRecDepth 20000 in
theorem gX4_wood_X3_copyFrom : GoodIn wsX4_wood (wsV RX4 65 RX3 yX3_copyFrom wsX3_copyFrom) := goodIn_app (goodIn_of _ (by decide +kernel)) ggX4_wood_X3_copyFrom
set_option maxRecDepth 20000 in
theorem ggX4_wood_X1_begin : GoodIn wsX4_wood wsX1_begin := goodIn_r _ [160, 161, 162, 163, 164, 165, 166, 192, 193, 194, 195, 196, 197, 198, 199, 200, 201, 182, 183, 184, 185, 186, 187, 188, 189, 190, 191] (by decide +kernel) (by decide +kernel)
set_option maxRecDepth 20000 in
theorem gX4_wood_X1_begin : GoodIn wsX4_wood (wsV RX4 69 RX1 yX1_begin wsX1_begin) := goodIn_app (goodIn_of _ (by decide +kernel)) ggX4_wood_X1_begin
theorem dX4_wood_0 : decode cX4_wood 0 = .ok (.aload_n 0, 1) := by decide +kernel
theorem dX4_wood_1 : decode cX4_wood 1 = .ok (.getfield 10, 3) := by decide +kernel
theorem dX4_wood_4 : decode cX4_wood 4 = .ok (.aload_n 0, 1) := by decide +kernel
theorem dX4_wood_5 : decode cX4_wood 5 = .ok (.getfield 19, 3) := by decide +kernel
theorem dX4_wood_8 : decode cX4_wood 8 = .ok (.invokevirtual 58, 3) := by decide +kernel
theorem dX4_wood_11 : decode cX4_wood 11 = .ok (.iconst (-1), 1) := by decide +kernel
theorem dX4_wood_12 : decode cX4_wood 12 = .ok (.if_icmp .eq 6, 3) := by decide +kernel
theorem dX4_wood_15 : decode cX4_wood 15 = .ok (.bipush (-4), 2) := by decide +kernel
theorem dX4_wood_17 : decode cX4_wood 17 = .ok (.ireturn, 1) := by decide +kernel
theorem dX4_wood_18 : decode cX4_wood 18 = .ok (.aload_n 0, 1) := by decide +kernel
theorem dX4_wood_19 : decode cX4_wood 19 = .ok (.getfield 19, 3) := by decide +kernel
theorem dX4_wood_22 : decode cX4_wood 22 = .ok (.aload_n 0, 1) := by decide +kernel
theorem dX4_wood_23 : decode cX4_wood 23 = .ok (.getfield 10, 3) := by decide +kernel
theorem dX4_wood_26 : decode cX4_wood 26 = .ok (.getfield 62, 3) := by decide +kernel
theorem dX4_wood_29 : decode cX4_wood 29 = .ok (.invokevirtual 65, 3) := by decide +kernel
theorem dX4_wood_32 : decode cX4_wood 32 = .ok (.aload_n 0, 1) := by decide +kernel
theorem dX4_wood_33 : decode cX4_wood 33 = .ok (.getfield 10, 3) := by decide +kernel
theorem dX4_wood_36 : decode cX4_wood 36 = .ok (.iconst 0, 1) := by decide +kernel
theorem dX4_wood_37 : decode cX4_wood 37 = .ok (.putfield 48, 3) := by decide +kernel
theorem dX4_wood_40 : decode cX4_wood 40 = .ok (.aload_n 0, 1) := by decide +kernel
theorem dX4_wood_41 : decode cX4_wood 41 = .ok (.getfield 26, 3) := by decide +kernel
theorem dX4_wood_44 : decode cX4_wood 44 = .ok (.aload_n 0, 1) := by decide +kernel
theorem dX4_wood_45 : decode cX4_wood 45 = .ok (.getfield 19, 3) := by decide +kernel
theorem dX4_wood_48 : decode cX4_wood 48 = .ok (.invokevirtual 69, 3) := by decide +kernel
theorem dX4_wood_51 : decode cX4_wood 51 = .ok (.iconst 0, 1) := by decide +kernel
theorem dX4_wood_52 : decode cX4_wood 52 = .ok (.istore_n 1, 1) := by decide +kernel
theorem dX4_wood_53 : decode cX4_wood 53 = .ok (.iload_n 1, 1) := by decide +kernel
theorem dX4_wood_54 : decode cX4_wood 54 = .ok (.aload_n 0, 1) := by decide +kernel
theorem dX4_wood_55 : decode cX4_wood 55 = .ok (.getfield 37, 3) := by decide +kernel
theorem dX4_wood_58 : decode cX4_wood 58 = .ok (.arraylength, 1) := by decide +kernel
theorem dX4_wood_59 : decode cX4_wood 59 = .ok (.if_icmp .ge 16, 3) := by decide +kernel
theorem dX4_wood_62 : decode cX4_wood 62 = .ok (.aload_n 0, 1) := by decide +kernel
theorem dX4_wood_63 : decode cX4_wood 63 = .ok (.getfield 37, 3) := by decide +kernel
theorem dX4_wood_66 : decode cX4_wood 66 = .ok (.iload_n 1, 1) := by decide +kernel
theorem dX4_wood_67 : decode cX4_wood 67 = .ok (.iconst 0, 1) := by decide +kernel
theorem dX4_wood_68 : decode cX4_wood 68 = .ok (.bastore, 1) := by decide +kernel
theorem dX4_wood_69 : decode cX4_wood 69 = .ok (.iinc 1 1, 3) := by decide +kernel
theorem dX4_wood_72 : decode cX4_wood 72 = .ok (.goto (-19), 3) := by decide +kernel
theorem dX4_wood_75 : decode cX4_wood 75 = .ok (.aload_n 0, 1) := by decide +kernel
theorem dX4_wood_76 : decode cX4_wood 76 = .ok (.getfield 10, 3) := by decide +kernel
theorem dX4_wood_79 : decode cX4_wood 79 = .ok (.getfield 72, 3) := by decide +kernel
theorem dX4_wood_82 : decode cX4_wood 82 = .ok (.ireturn, 1) := by decide +kernel
set_option maxRecDepth 20000 in
theorem ggX4_tree_X3_has : GoodIn wsX4_tree wsX3_has := goodIn_r _ [13, 14, 38, 39, 40, 41, 42, 43, 44, 45, 46, 47] (by decide +kernel) (by decide +kernel)
set_option maxRecDepth 20000 in
theorem gX4_tree_X3_has : GoodIn wsX4_tree (wsV RX4 75 RX3 yX3_has wsX3_has) := goodIn_app (goodIn_of _ (by decide +kernel)) ggX4_tree_X3_has
set_option maxRecDepth 20000 in
theorem ggX4_tree_X1_owedTo : GoodIn wsX4_tree wsX1_owedTo := goodIn_r _ [19, 20, 21, 22, 48, 49, 50, 51, 52, 53, 54, 55, 56, 57] (by decide +kernel) (by decide +kernel)
set_option maxRecDepth 20000 in
theorem gX4_tree_X1_owedTo : GoodIn wsX4_tree (wsV RX4 95 RX1 yX1_owedTo wsX1_owedTo) := goodIn_app (goodIn_of _ (by decide +kernel)) ggX4_tree_X1_owedTo
set_option maxRecDepth 20000 in
theorem ggX4_tree_X1_isCross : GoodIn wsX4_tree wsX1_isCross := goodIn_r _ [26, 27, 28, 29, 30, 16, 17, 18, 19, 20, 21, 22, 38, 39, 40, 41, 42, 43, 44, 45, 46, 47, 48, 49, 50, 51, 52, 53, 54, 55, 56, 57] (by decide +kernel) (by decide +kernel)
set_option maxRecDepth 20000 in
theorem gX4_tree_X1_isCross : GoodIn wsX4_tree (wsV RX4 102 RX1 yX1_isCross wsX1_isCross) := goodIn_app (goodIn_of _ (by decide +kernel)) ggX4_tree_X1_isCross
theorem dX4_tree_0 : decode cX4_tree 0 = .ok (.aload_n 0, 1) := by decide +kernel
theorem dX4_tree_1 : decode cX4_tree 1 = .ok (.getfield 19, 3) := by decide +kernel
theorem dX4_tree_4 : decode cX4_tree 4 = .ok (.iload_n 1, 1) := by decide +kernel
theorem dX4_tree_5 : decode cX4_tree 5 = .ok (.invokevirtual 75, 3) := by decide +kernel
theorem dX4_tree_8 : decode cX4_tree 8 = .ok (.ifCond .ne 6, 3) := by decide +kernel
theorem dX4_tree_11 : decode cX4_tree 11 = .ok (.bipush (-2), 2) := by decide +kernel
theorem dX4_tree_13 : decode cX4_tree 13 = .ok (.ireturn, 1) := by decide +kernel
theorem dX4_tree_14 : decode cX4_tree 14 = .ok (.iload_n 2, 1) := by decide +kernel
theorem dX4_tree_15 : decode cX4_tree 15 = .ok (.tableswitch 135 0 7 #[45, 55, 65, 75, 85, 95, 104, 114], 45) := by decide +kernel
theorem dX4_tree_60 : decode cX4_tree 60 = .ok (.aload_n 0, 1) := by decide +kernel
theorem dX4_tree_61 : decode cX4_tree 61 = .ok (.getfield 19, 3) := by decide +kernel
theorem dX4_tree_64 : decode cX4_tree 64 = .ok (.getfield 79, 3) := by decide +kernel
theorem dX4_tree_67 : decode cX4_tree 67 = .ok (.iload_n 1, 1) := by decide +kernel
theorem dX4_tree_68 : decode cX4_tree 68 = .ok (.iaload, 1) := by decide +kernel
theorem dX4_tree_69 : decode cX4_tree 69 = .ok (.ireturn, 1) := by decide +kernel
theorem dX4_tree_70 : decode cX4_tree 70 = .ok (.aload_n 0, 1) := by decide +kernel
theorem dX4_tree_71 : decode cX4_tree 71 = .ok (.getfield 26, 3) := by decide +kernel
theorem dX4_tree_74 : decode cX4_tree 74 = .ok (.getfield 83, 3) := by decide +kernel
theorem dX4_tree_77 : decode cX4_tree 77 = .ok (.iload_n 1, 1) := by decide +kernel
theorem dX4_tree_78 : decode cX4_tree 78 = .ok (.iaload, 1) := by decide +kernel
theorem dX4_tree_79 : decode cX4_tree 79 = .ok (.ireturn, 1) := by decide +kernel
theorem dX4_tree_80 : decode cX4_tree 80 = .ok (.aload_n 0, 1) := by decide +kernel
theorem dX4_tree_81 : decode cX4_tree 81 = .ok (.getfield 19, 3) := by decide +kernel
theorem dX4_tree_84 : decode cX4_tree 84 = .ok (.getfield 86, 3) := by decide +kernel
theorem dX4_tree_87 : decode cX4_tree 87 = .ok (.iload_n 1, 1) := by decide +kernel
theorem dX4_tree_88 : decode cX4_tree 88 = .ok (.iaload, 1) := by decide +kernel
theorem dX4_tree_89 : decode cX4_tree 89 = .ok (.ireturn, 1) := by decide +kernel
theorem dX4_tree_90 : decode cX4_tree 90 = .ok (.aload_n 0, 1) := by decide +kernel
theorem dX4_tree_91 : decode cX4_tree 91 = .ok (.getfield 19, 3) := by decide +kernel
theorem dX4_tree_94 : decode cX4_tree 94 = .ok (.getfield 89, 3) := by decide +kernel
theorem dX4_tree_97 : decode cX4_tree 97 = .ok (.iload_n 1, 1) := by decide +kernel
theorem dX4_tree_98 : decode cX4_tree 98 = .ok (.iaload, 1) := by decide +kernel
theorem dX4_tree_99 : decode cX4_tree 99 = .ok (.ireturn, 1) := by decide +kernel
theorem dX4_tree_100 : decode cX4_tree 100 = .ok (.aload_n 0, 1) := by decide +kernel
theorem dX4_tree_101 : decode cX4_tree 101 = .ok (.getfield 19, 3) := by decide +kernel
theorem dX4_tree_104 : decode cX4_tree 104 = .ok (.getfield 92, 3) := by decide +kernel
theorem dX4_tree_107 : decode cX4_tree 107 = .ok (.iload_n 1, 1) := by decide +kernel
theorem dX4_tree_108 : decode cX4_tree 108 = .ok (.iaload, 1) := by decide +kernel
theorem dX4_tree_109 : decode cX4_tree 109 = .ok (.ireturn, 1) := by decide +kernel
theorem dX4_tree_110 : decode cX4_tree 110 = .ok (.aload_n 0, 1) := by decide +kernel
theorem dX4_tree_111 : decode cX4_tree 111 = .ok (.getfield 26, 3) := by decide +kernel
theorem dX4_tree_114 : decode cX4_tree 114 = .ok (.iload_n 1, 1) := by decide +kernel
theorem dX4_tree_115 : decode cX4_tree 115 = .ok (.invokevirtual 95, 3) := by decide +kernel
theorem dX4_tree_118 : decode cX4_tree 118 = .ok (.ireturn, 1) := by decide +kernel
theorem dX4_tree_119 : decode cX4_tree 119 = .ok (.aload_n 0, 1) := by decide +kernel
theorem dX4_tree_120 : decode cX4_tree 120 = .ok (.getfield 26, 3) := by decide +kernel
theorem dX4_tree_123 : decode cX4_tree 123 = .ok (.getfield 99, 3) := by decide +kernel
theorem dX4_tree_126 : decode cX4_tree 126 = .ok (.iload_n 1, 1) := by decide +kernel
theorem dX4_tree_127 : decode cX4_tree 127 = .ok (.iaload, 1) := by decide +kernel
theorem dX4_tree_128 : decode cX4_tree 128 = .ok (.ireturn, 1) := by decide +kernel
theorem dX4_tree_129 : decode cX4_tree 129 = .ok (.aload_n 0, 1) := by decide +kernel
theorem dX4_tree_130 : decode cX4_tree 130 = .ok (.getfield 26, 3) := by decide +kernel
theorem dX4_tree_133 : decode cX4_tree 133 = .ok (.aload_n 0, 1) := by decide +kernel
theorem dX4_tree_134 : decode cX4_tree 134 = .ok (.getfield 19, 3) := by decide +kernel
theorem dX4_tree_137 : decode cX4_tree 137 = .ok (.iload_n 1, 1) := by decide +kernel
theorem dX4_tree_138 : decode cX4_tree 138 = .ok (.invokevirtual 102, 3) := by decide +kernel
theorem dX4_tree_141 : decode cX4_tree 141 = .ok (.ifCond .eq 7, 3) := by decide +kernel
theorem dX4_tree_144 : decode cX4_tree 144 = .ok (.iconst 1, 1) := by decide +kernel
theorem dX4_tree_145 : decode cX4_tree 145 = .ok (.goto 4, 3) := by decide +kernel
theorem dX4_tree_148 : decode cX4_tree 148 = .ok (.iconst 0, 1) := by decide +kernel
theorem dX4_tree_149 : decode cX4_tree 149 = .ok (.ireturn, 1) := by decide +kernel
theorem dX4_tree_150 : decode cX4_tree 150 = .ok (.bipush (-3), 2) := by decide +kernel
theorem dX4_tree_152 : decode cX4_tree 152 = .ok (.ireturn, 1) := by decide +kernel
theorem dX4_loan_0 : decode cX4_loan 0 = .ok (.iload_n 1, 1) := by decide +kernel
theorem dX4_loan_1 : decode cX4_loan 1 = .ok (.ifCond .lt 14, 3) := by decide +kernel
theorem dX4_loan_4 : decode cX4_loan 4 = .ok (.iload_n 1, 1) := by decide +kernel
theorem dX4_loan_5 : decode cX4_loan 5 = .ok (.aload_n 0, 1) := by decide +kernel
theorem dX4_loan_6 : decode cX4_loan 6 = .ok (.getfield 26, 3) := by decide +kernel
theorem dX4_loan_9 : decode cX4_loan 9 = .ok (.getfield 106, 3) := by decide +kernel
theorem dX4_loan_12 : decode cX4_loan 12 = .ok (.if_icmp .lt 6, 3) := by decide +kernel
theorem dX4_loan_15 : decode cX4_loan 15 = .ok (.bipush (-2), 2) := by decide +kernel
theorem dX4_loan_17 : decode cX4_loan 17 = .ok (.ireturn, 1) := by decide +kernel
theorem dX4_loan_18 : decode cX4_loan 18 = .ok (.iload_n 2, 1) := by decide +kernel
theorem dX4_loan_19 : decode cX4_loan 19 = .ok (.tableswitch 83 0 4 #[33, 43, 53, 63, 73], 33) := by decide +kernel
theorem dX4_loan_52 : decode cX4_loan 52 = .ok (.aload_n 0, 1) := by decide +kernel
theorem dX4_loan_53 : decode cX4_loan 53 = .ok (.getfield 26, 3) := by decide +kernel
theorem dX4_loan_56 : decode cX4_loan 56 = .ok (.getfield 109, 3) := by decide +kernel
theorem dX4_loan_59 : decode cX4_loan 59 = .ok (.iload_n 1, 1) := by decide +kernel
theorem dX4_loan_60 : decode cX4_loan 60 = .ok (.iaload, 1) := by decide +kernel
theorem dX4_loan_61 : decode cX4_loan 61 = .ok (.ireturn, 1) := by decide +kernel
theorem dX4_loan_62 : decode cX4_loan 62 = .ok (.aload_n 0, 1) := by decide +kernel
theorem dX4_loan_63 : decode cX4_loan 63 = .ok (.getfield 26, 3) := by decide +kernel
theorem dX4_loan_66 : decode cX4_loan 66 = .ok (.getfield 112, 3) := by decide +kernel
theorem dX4_loan_69 : decode cX4_loan 69 = .ok (.iload_n 1, 1) := by decide +kernel
theorem dX4_loan_70 : decode cX4_loan 70 = .ok (.iaload, 1) := by decide +kernel
theorem dX4_loan_71 : decode cX4_loan 71 = .ok (.ireturn, 1) := by decide +kernel
theorem dX4_loan_72 : decode cX4_loan 72 = .ok (.aload_n 0, 1) := by decide +kernel
theorem dX4_loan_73 : decode cX4_loan 73 = .ok (.getfield 26, 3) := by decide +kernel
theorem dX4_loan_76 : decode cX4_loan 76 = .ok (.getfield 115, 3) := by decide +kernel
theorem dX4_loan_79 : decode cX4_loan 79 = .ok (.iload_n 1, 1) := by decide +kernel
theorem dX4_loan_80 : decode cX4_loan 80 = .ok (.iaload, 1) := by decide +kernel
theorem dX4_loan_81 : decode cX4_loan 81 = .ok (.ireturn, 1) := by decide +kernel
theorem dX4_loan_82 : decode cX4_loan 82 = .ok (.aload_n 0, 1) := by decide +kernel
theorem dX4_loan_83 : decode cX4_loan 83 = .ok (.getfield 26, 3) := by decide +kernel
theorem dX4_loan_86 : decode cX4_loan 86 = .ok (.getfield 118, 3) := by decide +kernel
theorem dX4_loan_89 : decode cX4_loan 89 = .ok (.iload_n 1, 1) := by decide +kernel
theorem dX4_loan_90 : decode cX4_loan 90 = .ok (.iaload, 1) := by decide +kernel
theorem dX4_loan_91 : decode cX4_loan 91 = .ok (.ireturn, 1) := by decide +kernel
theorem dX4_loan_92 : decode cX4_loan 92 = .ok (.aload_n 0, 1) := by decide +kernel
theorem dX4_loan_93 : decode cX4_loan 93 = .ok (.getfield 26, 3) := by decide +kernel
theorem dX4_loan_96 : decode cX4_loan 96 = .ok (.getfield 121, 3) := by decide +kernel
theorem dX4_loan_99 : decode cX4_loan 99 = .ok (.iload_n 1, 1) := by decide +kernel
theorem dX4_loan_100 : decode cX4_loan 100 = .ok (.iaload, 1) := by decide +kernel
theorem dX4_loan_101 : decode cX4_loan 101 = .ok (.ireturn, 1) := by decide +kernel
theorem dX4_loan_102 : decode cX4_loan 102 = .ok (.bipush (-3), 2) := by decide +kernel
theorem dX4_loan_104 : decode cX4_loan 104 = .ok (.ireturn, 1) := by decide +kernel
set_option maxRecDepth 20000 in
theorem ggX4_as_X3_has : GoodIn wsX4_as wsX3_has := goodIn_r _ [7, 8, 35, 36, 37, 38, 39, 40, 41, 42, 43, 44] (by decide +kernel) (by decide +kernel)
set_option maxRecDepth 20000 in
theorem gX4_as_X3_has : GoodIn wsX4_as (wsV RX4 75 RX3 yX3_has wsX3_has) := goodIn_app (goodIn_of _ (by decide +kernel)) ggX4_as_X3_has
set_option maxRecDepth 20000 in
theorem ggX4_as_X3_isOfKind : GoodIn wsX4_as wsX3_isOfKind := goodIn_r _ [12, 13, 35, 36, 37, 38, 39, 40, 41, 42, 43, 44] (by decide +kernel) (by decide +kernel)
set_option maxRecDepth 20000 in
theorem gX4_as_X3_isOfKind : GoodIn wsX4_as (wsV RX4 127 RX3 yX3_isOfKind wsX3_isOfKind) := goodIn_app (goodIn_of _ (by decide +kernel)) ggX4_as_X3_isOfKind
set_option maxRecDepth 20000 in
theorem ggX4_as_X3_grownIn : GoodIn wsX4_as wsX3_grownIn := goodIn_r _ [17, 18, 19, 20, 6, 21, 22, 13, 23, 24, 25, 26, 27, 35, 36, 37, 38, 39, 40, 41, 42, 43, 44] (by decide +kernel) (by decide +kernel)
set_option maxRecDepth 20000 in
theorem gX4_as_X3_grownIn : GoodIn wsX4_as (wsV RX4 131 RX3 yX3_grownIn wsX3_grownIn) := goodIn_app (goodIn_of _ (by decide +kernel)) ggX4_as_X3_grownIn
theorem dX4_as_0 : decode cX4_as 0 = .ok (.aload_n 0, 1) := by decide +kernel
theorem dX4_as_1 : decode cX4_as 1 = .ok (.getfield 19, 3) := by decide +kernel
theorem dX4_as_4 : decode cX4_as 4 = .ok (.iload_n 1, 1) := by decide +kernel
theorem dX4_as_5 : decode cX4_as 5 = .ok (.invokevirtual 75, 3) := by decide +kernel
theorem dX4_as_8 : decode cX4_as 8 = .ok (.ifCond .ne 6, 3) := by decide +kernel
theorem dX4_as_11 : decode cX4_as 11 = .ok (.bipush (-2), 2) := by decide +kernel
theorem dX4_as_13 : decode cX4_as 13 = .ok (.ireturn, 1) := by decide +kernel
theorem dX4_as_14 : decode cX4_as 14 = .ok (.iload_n 2, 1) := by decide +kernel
theorem dX4_as_15 : decode cX4_as 15 = .ok (.ifCond .lt 11, 3) := by decide +kernel
theorem dX4_as_18 : decode cX4_as 18 = .ok (.iload_n 2, 1) := by decide +kernel
theorem dX4_as_19 : decode cX4_as 19 = .ok (.getstatic 124, 3) := by decide +kernel
theorem dX4_as_22 : decode cX4_as 22 = .ok (.arraylength, 1) := by decide +kernel
theorem dX4_as_23 : decode cX4_as 23 = .ok (.if_icmp .lt 6, 3) := by decide +kernel
theorem dX4_as_26 : decode cX4_as 26 = .ok (.bipush (-3), 2) := by decide +kernel
theorem dX4_as_28 : decode cX4_as 28 = .ok (.ireturn, 1) := by decide +kernel
theorem dX4_as_29 : decode cX4_as 29 = .ok (.aload_n 0, 1) := by decide +kernel
theorem dX4_as_30 : decode cX4_as 30 = .ok (.getfield 19, 3) := by decide +kernel
theorem dX4_as_33 : decode cX4_as 33 = .ok (.iload_n 1, 1) := by decide +kernel
theorem dX4_as_34 : decode cX4_as 34 = .ok (.iload_n 2, 1) := by decide +kernel
theorem dX4_as_35 : decode cX4_as 35 = .ok (.invokevirtual 127, 3) := by decide +kernel
theorem dX4_as_38 : decode cX4_as 38 = .ok (.ifCond .ne 6, 3) := by decide +kernel
theorem dX4_as_41 : decode cX4_as 41 = .ok (.bipush (-4), 2) := by decide +kernel
theorem dX4_as_43 : decode cX4_as 43 = .ok (.ireturn, 1) := by decide +kernel
theorem dX4_as_44 : decode cX4_as 44 = .ok (.aload_n 0, 1) := by decide +kernel
theorem dX4_as_45 : decode cX4_as 45 = .ok (.getfield 19, 3) := by decide +kernel
theorem dX4_as_48 : decode cX4_as 48 = .ok (.iload_n 1, 1) := by decide +kernel
theorem dX4_as_49 : decode cX4_as 49 = .ok (.iconst 1, 1) := by decide +kernel
theorem dX4_as_50 : decode cX4_as 50 = .ok (.iconst 1, 1) := by decide +kernel
theorem dX4_as_51 : decode cX4_as 51 = .ok (.invokevirtual 131, 3) := by decide +kernel
theorem dX4_as_54 : decode cX4_as 54 = .ok (.ireturn, 1) := by decide +kernel
set_option maxRecDepth 20000 in
theorem ggX4_borrow_X3_has : GoodIn wsX4_borrow wsX3_has := goodIn_r _ [9, 10, 63, 64, 65, 66, 67, 68, 69, 70, 71, 72] (by decide +kernel) (by decide +kernel)
set_option maxRecDepth 20000 in
theorem gX4_borrow_X3_has : GoodIn wsX4_borrow (wsV RX4 75 RX3 yX3_has wsX3_has) := goodIn_app (goodIn_of _ (by decide +kernel)) ggX4_borrow_X3_has
set_option maxRecDepth 20000 in
theorem ggX4_borrow_X1_lends : GoodIn wsX4_borrow wsX1_lends := goodIn_r _ [15, 16, 17, 18, 19, 14, 20, 21, 22, 23, 24, 25, 26, 27, 28, 29, 30, 53, 54, 55, 56, 57, 58, 59, 60, 61, 62, 63, 64, 65, 66, 67, 68, 69, 70, 71, 72] (by decide +kernel) (by decide +kernel)
set_option maxRecDepth 20000 in
theorem gX4_borrow_X1_lends : GoodIn wsX4_borrow (wsV RX4 135 RX1 yX1_lends wsX1_lends) := goodIn_app (goodIn_of _ (by decide +kernel)) ggX4_borrow_X1_lends
set_option maxRecDepth 20000 in
theorem ggX4_borrow_X1_lend : GoodIn wsX4_borrow wsX1_lend := goodIn_r _ [34, 28, 29, 35, 30, 36, 37, 38, 39, 40, 41, 42, 8, 43, 44, 45, 53, 54, 55, 56, 57, 58, 59, 60, 61, 62, 63, 64, 65, 66, 67, 68, 69, 70, 71, 72] (by decide +kernel) (by decide +kernel)
set_option maxRecDepth 20000 in
theorem gX4_borrow_X1_lend : GoodIn wsX4_borrow (wsV RX4 138 RX1 yX1_lend wsX1_lend) := goodIn_app (goodIn_of _ (by decide +kernel)) ggX4_borrow_X1_lend
theorem dX4_borrow_0 : decode cX4_borrow 0 = .ok (.aload_n 0, 1) := by decide +kernel
theorem dX4_borrow_1 : decode cX4_borrow 1 = .ok (.getfield 19, 3) := by decide +kernel
theorem dX4_borrow_4 : decode cX4_borrow 4 = .ok (.iload_n 1, 1) := by decide +kernel
theorem dX4_borrow_5 : decode cX4_borrow 5 = .ok (.invokevirtual 75, 3) := by decide +kernel
theorem dX4_borrow_8 : decode cX4_borrow 8 = .ok (.ifCond .ne 6, 3) := by decide +kernel
theorem dX4_borrow_11 : decode cX4_borrow 11 = .ok (.bipush (-2), 2) := by decide +kernel
theorem dX4_borrow_13 : decode cX4_borrow 13 = .ok (.ireturn, 1) := by decide +kernel
theorem dX4_borrow_14 : decode cX4_borrow 14 = .ok (.iload_n 2, 1) := by decide +kernel
theorem dX4_borrow_15 : decode cX4_borrow 15 = .ok (.iconst 1, 1) := by decide +kernel
theorem dX4_borrow_16 : decode cX4_borrow 16 = .ok (.if_icmp .lt 9, 3) := by decide +kernel
theorem dX4_borrow_19 : decode cX4_borrow 19 = .ok (.iload_n 2, 1) := by decide +kernel
theorem dX4_borrow_20 : decode cX4_borrow 20 = .ok (.bipush 99, 2) := by decide +kernel
theorem dX4_borrow_22 : decode cX4_borrow 22 = .ok (.if_icmp .le 6, 3) := by decide +kernel
theorem dX4_borrow_25 : decode cX4_borrow 25 = .ok (.bipush (-3), 2) := by decide +kernel
theorem dX4_borrow_27 : decode cX4_borrow 27 = .ok (.ireturn, 1) := by decide +kernel
theorem dX4_borrow_28 : decode cX4_borrow 28 = .ok (.aload_n 0, 1) := by decide +kernel
theorem dX4_borrow_29 : decode cX4_borrow 29 = .ok (.getfield 26, 3) := by decide +kernel
theorem dX4_borrow_32 : decode cX4_borrow 32 = .ok (.aload_n 0, 1) := by decide +kernel
theorem dX4_borrow_33 : decode cX4_borrow 33 = .ok (.getfield 19, 3) := by decide +kernel
theorem dX4_borrow_36 : decode cX4_borrow 36 = .ok (.iload_n 1, 1) := by decide +kernel
theorem dX4_borrow_37 : decode cX4_borrow 37 = .ok (.invokevirtual 135, 3) := by decide +kernel
theorem dX4_borrow_40 : decode cX4_borrow 40 = .ok (.ifCond .eq 16, 3) := by decide +kernel
theorem dX4_borrow_43 : decode cX4_borrow 43 = .ok (.iload_n 2, 1) := by decide +kernel
theorem dX4_borrow_44 : decode cX4_borrow 44 = .ok (.aload_n 0, 1) := by decide +kernel
theorem dX4_borrow_45 : decode cX4_borrow 45 = .ok (.getfield 26, 3) := by decide +kernel
theorem dX4_borrow_48 : decode cX4_borrow 48 = .ok (.getfield 83, 3) := by decide +kernel
theorem dX4_borrow_51 : decode cX4_borrow 51 = .ok (.iload_n 1, 1) := by decide +kernel
theorem dX4_borrow_52 : decode cX4_borrow 52 = .ok (.iaload, 1) := by decide +kernel
theorem dX4_borrow_53 : decode cX4_borrow 53 = .ok (.if_icmp .le 6, 3) := by decide +kernel
theorem dX4_borrow_56 : decode cX4_borrow 56 = .ok (.bipush (-4), 2) := by decide +kernel
theorem dX4_borrow_58 : decode cX4_borrow 58 = .ok (.ireturn, 1) := by decide +kernel
theorem dX4_borrow_59 : decode cX4_borrow 59 = .ok (.aload_n 0, 1) := by decide +kernel
theorem dX4_borrow_60 : decode cX4_borrow 60 = .ok (.getfield 26, 3) := by decide +kernel
theorem dX4_borrow_63 : decode cX4_borrow 63 = .ok (.getfield 106, 3) := by decide +kernel
theorem dX4_borrow_66 : decode cX4_borrow 66 = .ok (.bipush 12, 2) := by decide +kernel
theorem dX4_borrow_68 : decode cX4_borrow 68 = .ok (.if_icmp .lt 6, 3) := by decide +kernel
theorem dX4_borrow_71 : decode cX4_borrow 71 = .ok (.bipush (-5), 2) := by decide +kernel
theorem dX4_borrow_73 : decode cX4_borrow 73 = .ok (.ireturn, 1) := by decide +kernel
theorem dX4_borrow_74 : decode cX4_borrow 74 = .ok (.aload_n 0, 1) := by decide +kernel
theorem dX4_borrow_75 : decode cX4_borrow 75 = .ok (.getfield 26, 3) := by decide +kernel
theorem dX4_borrow_78 : decode cX4_borrow 78 = .ok (.aload_n 0, 1) := by decide +kernel
theorem dX4_borrow_79 : decode cX4_borrow 79 = .ok (.getfield 19, 3) := by decide +kernel
theorem dX4_borrow_82 : decode cX4_borrow 82 = .ok (.iload_n 1, 1) := by decide +kernel
theorem dX4_borrow_83 : decode cX4_borrow 83 = .ok (.iload_n 2, 1) := by decide +kernel
theorem dX4_borrow_84 : decode cX4_borrow 84 = .ok (.invokevirtual 138, 3) := by decide +kernel
theorem dX4_borrow_87 : decode cX4_borrow 87 = .ok (.ireturn, 1) := by decide +kernel
set_option maxRecDepth 20000 in
theorem ggX4_days_X1_passDays : GoodIn wsX4_days wsX1_passDays := goodIn_r _ [9, 10, 11, 12, 13, 8, 14, 15, 16, 17, 18, 19, 20, 21, 22, 23, 24, 25, 26, 27, 28, 29, 30, 31, 32, 33, 34, 35, 36, 37, 38, 39, 40, 41, 42, 43, 44, 45, 46, 47, 48, 49, 50, 51, 52, 53, 54, 55, 63, 64, 65, 66, 67, 68, 69, 70, 71, 72, 73, 74, 75, 76, 77, 78, 79, 80, 81, 82] (by decide +kernel) (by decide +kernel)
set_option maxRecDepth 20000 in
theorem gX4_days_X1_passDays : GoodIn wsX4_days (wsV RX4 148 RX1 yX1_passDays wsX1_passDays) := goodIn_app (goodIn_of _ (by decide +kernel)) ggX4_days_X1_passDays
theorem dX4_days_0 : decode cX4_days 0 = .ok (.iload_n 1, 1) := by decide +kernel
theorem dX4_days_1 : decode cX4_days 1 = .ok (.iconst 1, 1) := by decide +kernel
theorem dX4_days_2 : decode cX4_days 2 = .ok (.if_icmp .lt 9, 3) := by decide +kernel
theorem dX4_days_5 : decode cX4_days 5 = .ok (.iload_n 1, 1) := by decide +kernel
theorem dX4_days_6 : decode cX4_days 6 = .ok (.bipush 99, 2) := by decide +kernel
theorem dX4_days_8 : decode cX4_days 8 = .ok (.if_icmp .le 6, 3) := by decide +kernel
theorem dX4_days_11 : decode cX4_days 11 = .ok (.bipush (-3), 2) := by decide +kernel
theorem dX4_days_13 : decode cX4_days 13 = .ok (.ireturn, 1) := by decide +kernel
theorem dX4_days_14 : decode cX4_days 14 = .ok (.aload_n 0, 1) := by decide +kernel
theorem dX4_days_15 : decode cX4_days 15 = .ok (.getfield 26, 3) := by decide +kernel
theorem dX4_days_18 : decode cX4_days 18 = .ok (.getfield 142, 3) := by decide +kernel
theorem dX4_days_21 : decode cX4_days 21 = .ok (.iload_n 1, 1) := by decide +kernel
theorem dX4_days_22 : decode cX4_days 22 = .ok (.iadd, 1) := by decide +kernel
theorem dX4_days_23 : decode cX4_days 23 = .ok (.sipush 9999, 3) := by decide +kernel
theorem dX4_days_26 : decode cX4_days 26 = .ok (.if_icmp .le 6, 3) := by decide +kernel
theorem dX4_days_29 : decode cX4_days 29 = .ok (.bipush (-5), 2) := by decide +kernel
theorem dX4_days_31 : decode cX4_days 31 = .ok (.ireturn, 1) := by decide +kernel
theorem dX4_days_32 : decode cX4_days 32 = .ok (.aload_n 0, 1) := by decide +kernel
theorem dX4_days_33 : decode cX4_days 33 = .ok (.getfield 26, 3) := by decide +kernel
theorem dX4_days_36 : decode cX4_days 36 = .ok (.aload_n 0, 1) := by decide +kernel
theorem dX4_days_37 : decode cX4_days 37 = .ok (.getfield 19, 3) := by decide +kernel
theorem dX4_days_40 : decode cX4_days 40 = .ok (.aload_n 0, 1) := by decide +kernel
theorem dX4_days_41 : decode cX4_days 41 = .ok (.getfield 19, 3) := by decide +kernel
theorem dX4_days_44 : decode cX4_days 44 = .ok (.getfield 145, 3) := by decide +kernel
theorem dX4_days_47 : decode cX4_days 47 = .ok (.iload_n 1, 1) := by decide +kernel
theorem dX4_days_48 : decode cX4_days 48 = .ok (.invokevirtual 148, 3) := by decide +kernel
theorem dX4_days_51 : decode cX4_days 51 = .ok (.aload_n 0, 1) := by decide +kernel
theorem dX4_days_52 : decode cX4_days 52 = .ok (.getfield 26, 3) := by decide +kernel
theorem dX4_days_55 : decode cX4_days 55 = .ok (.getfield 142, 3) := by decide +kernel
theorem dX4_days_58 : decode cX4_days 58 = .ok (.ireturn, 1) := by decide +kernel
set_option maxRecDepth 20000 in
theorem ggX4_fire_X1_burn : GoodIn wsX4_fire wsX1_burn := goodIn_r _ [7, 8, 9, 10, 11, 12, 13, 6, 14, 15, 16, 17, 18, 19, 20, 21, 22, 23, 24, 32, 33, 34, 35, 36, 37, 38, 39, 40, 41, 42, 43, 44, 45, 46, 47, 48, 49, 50, 51] (by decide +kernel) (by decide +kernel)
set_option maxRecDepth 20000 in
theorem gX4_fire_X1_burn : GoodIn wsX4_fire (wsV RX4 152 RX1 yX1_burn wsX1_burn) := goodIn_app (goodIn_of _ (by decide +kernel)) ggX4_fire_X1_burn
theorem dX4_fire_0 : decode cX4_fire 0 = .ok (.iload_n 1, 1) := by decide +kernel
theorem dX4_fire_1 : decode cX4_fire 1 = .ok (.ifCond .lt 9, 3) := by decide +kernel
theorem dX4_fire_4 : decode cX4_fire 4 = .ok (.iload_n 1, 1) := by decide +kernel
theorem dX4_fire_5 : decode cX4_fire 5 = .ok (.bipush 9, 2) := by decide +kernel
theorem dX4_fire_7 : decode cX4_fire 7 = .ok (.if_icmp .le 6, 3) := by decide +kernel
theorem dX4_fire_10 : decode cX4_fire 10 = .ok (.bipush (-3), 2) := by decide +kernel
theorem dX4_fire_12 : decode cX4_fire 12 = .ok (.ireturn, 1) := by decide +kernel
theorem dX4_fire_13 : decode cX4_fire 13 = .ok (.aload_n 0, 1) := by decide +kernel
theorem dX4_fire_14 : decode cX4_fire 14 = .ok (.getfield 26, 3) := by decide +kernel
theorem dX4_fire_17 : decode cX4_fire 17 = .ok (.aload_n 0, 1) := by decide +kernel
theorem dX4_fire_18 : decode cX4_fire 18 = .ok (.getfield 19, 3) := by decide +kernel
theorem dX4_fire_21 : decode cX4_fire 21 = .ok (.iload_n 1, 1) := by decide +kernel
theorem dX4_fire_22 : decode cX4_fire 22 = .ok (.invokevirtual 152, 3) := by decide +kernel
theorem dX4_fire_25 : decode cX4_fire 25 = .ok (.ireturn, 1) := by decide +kernel
set_option maxRecDepth 20000 in
theorem ggX4_sell_X3_has : GoodIn wsX4_sell wsX3_has := goodIn_r _ [8, 9, 44, 45, 46, 47, 48, 49, 50, 51, 52, 53] (by decide +kernel) (by decide +kernel)
set_option maxRecDepth 20000 in
theorem gX4_sell_X3_has : GoodIn wsX4_sell (wsV RX4 75 RX3 yX3_has wsX3_has) := goodIn_app (goodIn_of _ (by decide +kernel)) ggX4_sell_X3_has
set_option maxRecDepth 20000 in
theorem ggX4_sell_X1_handOver : GoodIn wsX4_sell wsX1_handOver := goodIn_r _ [14, 15, 16, 17, 18, 19, 20, 21, 13, 22, 23, 24, 25, 26, 34, 35, 36, 37, 38, 39, 40, 41, 42, 43] (by decide +kernel) (by decide +kernel)
set_option maxRecDepth 20000 in
theorem gX4_sell_X1_handOver : GoodIn wsX4_sell (wsV RX4 156 RX1 yX1_handOver wsX1_handOver) := goodIn_app (goodIn_of _ (by decide +kernel)) ggX4_sell_X1_handOver
theorem dX4_sell_0 : decode cX4_sell 0 = .ok (.aload_n 0, 1) := by decide +kernel
theorem dX4_sell_1 : decode cX4_sell 1 = .ok (.getfield 19, 3) := by decide +kernel
theorem dX4_sell_4 : decode cX4_sell 4 = .ok (.iload_n 1, 1) := by decide +kernel
theorem dX4_sell_5 : decode cX4_sell 5 = .ok (.invokevirtual 75, 3) := by decide +kernel
theorem dX4_sell_8 : decode cX4_sell 8 = .ok (.ifCond .eq 14, 3) := by decide +kernel
theorem dX4_sell_11 : decode cX4_sell 11 = .ok (.aload_n 0, 1) := by decide +kernel
theorem dX4_sell_12 : decode cX4_sell 12 = .ok (.getfield 19, 3) := by decide +kernel
theorem dX4_sell_15 : decode cX4_sell 15 = .ok (.iload_n 2, 1) := by decide +kernel
theorem dX4_sell_16 : decode cX4_sell 16 = .ok (.invokevirtual 75, 3) := by decide +kernel
theorem dX4_sell_19 : decode cX4_sell 19 = .ok (.ifCond .ne 6, 3) := by decide +kernel
theorem dX4_sell_22 : decode cX4_sell 22 = .ok (.bipush (-2), 2) := by decide +kernel
theorem dX4_sell_24 : decode cX4_sell 24 = .ok (.ireturn, 1) := by decide +kernel
theorem dX4_sell_25 : decode cX4_sell 25 = .ok (.iload_n 1, 1) := by decide +kernel
theorem dX4_sell_26 : decode cX4_sell 26 = .ok (.iload_n 2, 1) := by decide +kernel
theorem dX4_sell_27 : decode cX4_sell 27 = .ok (.if_icmp .ne 6, 3) := by decide +kernel
theorem dX4_sell_30 : decode cX4_sell 30 = .ok (.bipush (-3), 2) := by decide +kernel
theorem dX4_sell_32 : decode cX4_sell 32 = .ok (.ireturn, 1) := by decide +kernel
theorem dX4_sell_33 : decode cX4_sell 33 = .ok (.aload_n 0, 1) := by decide +kernel
theorem dX4_sell_34 : decode cX4_sell 34 = .ok (.getfield 26, 3) := by decide +kernel
theorem dX4_sell_37 : decode cX4_sell 37 = .ok (.getfield 99, 3) := by decide +kernel
theorem dX4_sell_40 : decode cX4_sell 40 = .ok (.iload_n 1, 1) := by decide +kernel
theorem dX4_sell_41 : decode cX4_sell 41 = .ok (.iaload, 1) := by decide +kernel
theorem dX4_sell_42 : decode cX4_sell 42 = .ok (.ifCond .ne 15, 3) := by decide +kernel
theorem dX4_sell_45 : decode cX4_sell 45 = .ok (.aload_n 0, 1) := by decide +kernel
theorem dX4_sell_46 : decode cX4_sell 46 = .ok (.getfield 26, 3) := by decide +kernel
theorem dX4_sell_49 : decode cX4_sell 49 = .ok (.getfield 99, 3) := by decide +kernel
theorem dX4_sell_52 : decode cX4_sell 52 = .ok (.iload_n 2, 1) := by decide +kernel
theorem dX4_sell_53 : decode cX4_sell 53 = .ok (.iaload, 1) := by decide +kernel
theorem dX4_sell_54 : decode cX4_sell 54 = .ok (.ifCond .eq 6, 3) := by decide +kernel
theorem dX4_sell_57 : decode cX4_sell 57 = .ok (.bipush (-4), 2) := by decide +kernel
theorem dX4_sell_59 : decode cX4_sell 59 = .ok (.ireturn, 1) := by decide +kernel
theorem dX4_sell_60 : decode cX4_sell 60 = .ok (.aload_n 0, 1) := by decide +kernel
theorem dX4_sell_61 : decode cX4_sell 61 = .ok (.getfield 26, 3) := by decide +kernel
theorem dX4_sell_64 : decode cX4_sell 64 = .ok (.iload_n 1, 1) := by decide +kernel
theorem dX4_sell_65 : decode cX4_sell 65 = .ok (.iload_n 2, 1) := by decide +kernel
theorem dX4_sell_66 : decode cX4_sell 66 = .ok (.invokevirtual 156, 3) := by decide +kernel
theorem dX4_sell_69 : decode cX4_sell 69 = .ok (.ireturn, 1) := by decide +kernel
set_option maxRecDepth 20000 in
theorem ggX4_keep_X1_copyFrom : GoodIn wsX4_keep wsX1_copyFrom := goodIn_r _ [9, 10, 11, 12, 13, 14, 15, 16, 17, 18, 19, 20, 21, 22, 23, 31, 32, 33, 34, 35, 36, 37, 38, 39, 40] (by decide +kernel) (by decide +kernel)
set_option maxRecDepth 20000 in
theorem gX4_keep_X1_copyFrom : GoodIn wsX4_keep (wsV RX4 160 RX1 yX1_copyFrom wsX1_copyFrom) := goodIn_app (goodIn_of _ (by decide +kernel)) ggX4_keep_X1_copyFrom
theorem dX4_keep_0 : decode cX4_keep 0 = .ok (.iload_n 1, 1) := by decide +kernel
theorem dX4_keep_1 : decode cX4_keep 1 = .ok (.ifCond .lt 12, 3) := by decide +kernel
theorem dX4_keep_4 : decode cX4_keep 4 = .ok (.iload_n 1, 1) := by decide +kernel
theorem dX4_keep_5 : decode cX4_keep 5 = .ok (.aload_n 0, 1) := by decide +kernel
theorem dX4_keep_6 : decode cX4_keep 6 = .ok (.getfield 33, 3) := by decide +kernel
theorem dX4_keep_9 : decode cX4_keep 9 = .ok (.arraylength, 1) := by decide +kernel
theorem dX4_keep_10 : decode cX4_keep 10 = .ok (.if_icmp .lt 6, 3) := by decide +kernel
theorem dX4_keep_13 : decode cX4_keep 13 = .ok (.bipush (-2), 2) := by decide +kernel
theorem dX4_keep_15 : decode cX4_keep 15 = .ok (.ireturn, 1) := by decide +kernel
theorem dX4_keep_16 : decode cX4_keep 16 = .ok (.aload_n 0, 1) := by decide +kernel
theorem dX4_keep_17 : decode cX4_keep 17 = .ok (.getfield 33, 3) := by decide +kernel
theorem dX4_keep_20 : decode cX4_keep 20 = .ok (.iload_n 1, 1) := by decide +kernel
theorem dX4_keep_21 : decode cX4_keep 21 = .ok (.aaload, 1) := by decide +kernel
theorem dX4_keep_22 : decode cX4_keep 22 = .ok (.aload_n 0, 1) := by decide +kernel
theorem dX4_keep_23 : decode cX4_keep 23 = .ok (.getfield 26, 3) := by decide +kernel
theorem dX4_keep_26 : decode cX4_keep 26 = .ok (.invokevirtual 160, 3) := by decide +kernel
theorem dX4_keep_29 : decode cX4_keep 29 = .ok (.aload_n 0, 1) := by decide +kernel
theorem dX4_keep_30 : decode cX4_keep 30 = .ok (.getfield 37, 3) := by decide +kernel
theorem dX4_keep_33 : decode cX4_keep 33 = .ok (.iload_n 1, 1) := by decide +kernel
theorem dX4_keep_34 : decode cX4_keep 34 = .ok (.iconst 1, 1) := by decide +kernel
theorem dX4_keep_35 : decode cX4_keep 35 = .ok (.bastore, 1) := by decide +kernel
theorem dX4_keep_36 : decode cX4_keep 36 = .ok (.aload_n 0, 1) := by decide +kernel
theorem dX4_keep_37 : decode cX4_keep 37 = .ok (.getfield 26, 3) := by decide +kernel
theorem dX4_keep_40 : decode cX4_keep 40 = .ok (.getfield 142, 3) := by decide +kernel
theorem dX4_keep_43 : decode cX4_keep 43 = .ok (.ireturn, 1) := by decide +kernel
set_option maxRecDepth 20000 in
theorem ggX4_back_X1_copyFrom : GoodIn wsX4_back wsX1_copyFrom := goodIn_r _ [9, 10, 11, 12, 13, 14, 15, 16, 17, 18, 19, 20, 21, 22, 23, 31, 32, 33, 34, 35, 36, 37, 38, 39, 40] (by decide +kernel) (by decide +kernel)
set_option maxRecDepth 20000 in
theorem gX4_back_X1_copyFrom : GoodIn wsX4_back (wsV RX4 160 RX1 yX1_copyFrom wsX1_copyFrom) := goodIn_app (goodIn_of _ (by decide +kernel)) ggX4_back_X1_copyFrom
theorem dX4_back_0 : decode cX4_back 0 = .ok (.iload_n 1, 1) := by decide +kernel
theorem dX4_back_1 : decode cX4_back 1 = .ok (.ifCond .lt 12, 3) := by decide +kernel
theorem dX4_back_4 : decode cX4_back 4 = .ok (.iload_n 1, 1) := by decide +kernel
theorem dX4_back_5 : decode cX4_back 5 = .ok (.aload_n 0, 1) := by decide +kernel
theorem dX4_back_6 : decode cX4_back 6 = .ok (.getfield 33, 3) := by decide +kernel
theorem dX4_back_9 : decode cX4_back 9 = .ok (.arraylength, 1) := by decide +kernel
theorem dX4_back_10 : decode cX4_back 10 = .ok (.if_icmp .lt 6, 3) := by decide +kernel
theorem dX4_back_13 : decode cX4_back 13 = .ok (.bipush (-2), 2) := by decide +kernel
theorem dX4_back_15 : decode cX4_back 15 = .ok (.ireturn, 1) := by decide +kernel
theorem dX4_back_16 : decode cX4_back 16 = .ok (.aload_n 0, 1) := by decide +kernel
theorem dX4_back_17 : decode cX4_back 17 = .ok (.getfield 37, 3) := by decide +kernel
theorem dX4_back_20 : decode cX4_back 20 = .ok (.iload_n 1, 1) := by decide +kernel
theorem dX4_back_21 : decode cX4_back 21 = .ok (.baload, 1) := by decide +kernel
theorem dX4_back_22 : decode cX4_back 22 = .ok (.ifCond .ne 6, 3) := by decide +kernel
theorem dX4_back_25 : decode cX4_back 25 = .ok (.bipush (-4), 2) := by decide +kernel
theorem dX4_back_27 : decode cX4_back 27 = .ok (.ireturn, 1) := by decide +kernel
theorem dX4_back_28 : decode cX4_back 28 = .ok (.aload_n 0, 1) := by decide +kernel
theorem dX4_back_29 : decode cX4_back 29 = .ok (.getfield 26, 3) := by decide +kernel
theorem dX4_back_32 : decode cX4_back 32 = .ok (.aload_n 0, 1) := by decide +kernel
theorem dX4_back_33 : decode cX4_back 33 = .ok (.getfield 33, 3) := by decide +kernel
theorem dX4_back_36 : decode cX4_back 36 = .ok (.iload_n 1, 1) := by decide +kernel
theorem dX4_back_37 : decode cX4_back 37 = .ok (.aaload, 1) := by decide +kernel
theorem dX4_back_38 : decode cX4_back 38 = .ok (.invokevirtual 160, 3) := by decide +kernel
theorem dX4_back_41 : decode cX4_back 41 = .ok (.aload_n 0, 1) := by decide +kernel
theorem dX4_back_42 : decode cX4_back 42 = .ok (.getfield 26, 3) := by decide +kernel
theorem dX4_back_45 : decode cX4_back 45 = .ok (.getfield 142, 3) := by decide +kernel
theorem dX4_back_48 : decode cX4_back 48 = .ok (.ireturn, 1) := by decide +kernel
set_option maxRecDepth 20000 in
theorem ggX4_later_X3_has : GoodIn wsX4_later wsX3_has := goodIn_r _ [7, 8, 86, 87, 88, 89, 90, 91, 92, 93, 94, 95] (by decide +kernel) (by decide +kernel)
set_option maxRecDepth 20000 in
theorem gX4_later_X3_has : GoodIn wsX4_later (wsV RX4 75 RX3 yX3_has wsX3_has) := goodIn_app (goodIn_of _ (by decide +kernel)) ggX4_later_X3_has
set_option maxRecDepth 20000 in
theorem ggX4_later_X4_foretell : GoodIn wsX4_later wsX4_foretell := goodIn_r _ [13, 2, 14, 1, 15, 16, 17, 18, 19, 20, 21, 22, 23, 24, 25, 26, 27, 28, 29, 30, 31, 32, 33, 34, 35, 36, 37, 38, 39, 40, 41, 42, 43, 44, 45, 6, 46, 47, 48, 49, 50, 51, 52, 53, 54, 55, 56, 57, 58, 59, 60, 61, 62, 63, 64, 65, 66, 67, 68, 69, 70, 71, 72, 73, 74, 79, 80, 81, 82, 83, 84, 85, 86, 87, 88, 89, 90, 91, 92, 93, 94, 95, 96, 97, 98, 99, 100, 101, 102, 103, 104, 105] (by decide +kernel) (by decide +kernel)
set_option maxRecDepth 20000 in
theorem gX4_later_X4_foretell : GoodIn wsX4_later (wsV RX4 163 RX4 yX4_foretell wsX4_foretell) := goodIn_app (goodIn_of _ (by decide +kernel)) ggX4_later_X4_foretell
set_option maxRecDepth 20000 in
theorem ggX4_later_X1_owedTo : GoodIn wsX4_later wsX1_owedTo := goodIn_r _ [78, 28, 29, 31, 96, 97, 98, 99, 100, 101, 102, 103, 104, 105] (by decide +kernel) (by decide +kernel)
set_option maxRecDepth 20000 in
theorem gX4_later_X1_owedTo : GoodIn wsX4_later (wsV RX4 95 RX1 yX1_owedTo wsX1_owedTo) := goodIn_app (goodIn_of _ (by decide +kernel)) ggX4_later_X1_owedTo
theorem dX4_later_0 : decode cX4_later 0 = .ok (.aload_n 0, 1) := by decide +kernel
theorem dX4_later_1 : decode cX4_later 1 = .ok (.getfield 19, 3) := by decide +kernel
theorem dX4_later_4 : decode cX4_later 4 = .ok (.iload_n 1, 1) := by decide +kernel
theorem dX4_later_5 : decode cX4_later 5 = .ok (.invokevirtual 75, 3) := by decide +kernel
theorem dX4_later_8 : decode cX4_later 8 = .ok (.ifCond .ne 6, 3) := by decide +kernel
theorem dX4_later_11 : decode cX4_later 11 = .ok (.bipush (-2), 2) := by decide +kernel
theorem dX4_later_13 : decode cX4_later 13 = .ok (.ireturn, 1) := by decide +kernel
theorem dX4_later_14 : decode cX4_later 14 = .ok (.iload_n 2, 1) := by decide +kernel
theorem dX4_later_15 : decode cX4_later 15 = .ok (.ifCond .lt 9, 3) := by decide +kernel
theorem dX4_later_18 : decode cX4_later 18 = .ok (.iload_n 2, 1) := by decide +kernel
theorem dX4_later_19 : decode cX4_later 19 = .ok (.bipush 99, 2) := by decide +kernel
theorem dX4_later_21 : decode cX4_later 21 = .ok (.if_icmp .le 6, 3) := by decide +kernel
theorem dX4_later_24 : decode cX4_later 24 = .ok (.bipush (-3), 2) := by decide +kernel
theorem dX4_later_26 : decode cX4_later 26 = .ok (.ireturn, 1) := by decide +kernel
theorem dX4_later_27 : decode cX4_later 27 = .ok (.aload_n 0, 1) := by decide +kernel
theorem dX4_later_28 : decode cX4_later 28 = .ok (.iload_n 2, 1) := by decide +kernel
theorem dX4_later_29 : decode cX4_later 29 = .ok (.invokevirtual 163, 3) := by decide +kernel
theorem dX4_later_32 : decode cX4_later 32 = .ok (.aload_n 0, 1) := by decide +kernel
theorem dX4_later_33 : decode cX4_later 33 = .ok (.getfield 30, 3) := by decide +kernel
theorem dX4_later_36 : decode cX4_later 36 = .ok (.iload_n 1, 1) := by decide +kernel
theorem dX4_later_37 : decode cX4_later 37 = .ok (.invokevirtual 95, 3) := by decide +kernel
theorem dX4_later_40 : decode cX4_later 40 = .ok (.ireturn, 1) := by decide +kernel
set_option maxRecDepth 20000 in
theorem ggX4_all_X4_foretell : GoodIn wsX4_all wsX4_foretell := goodIn_r _ [7, 1, 8, 9, 10, 11, 12, 13, 14, 15, 16, 17, 18, 19, 20, 21, 22, 23, 24, 25, 26, 27, 28, 29, 30, 31, 32, 33, 34, 35, 36, 37, 38, 39, 40, 41, 42, 43, 44, 45, 46, 47, 48, 49, 50, 51, 52, 53, 54, 55, 56, 57, 58, 59, 60, 61, 62, 63, 64, 65, 66, 67, 68, 69, 70, 75, 76, 77, 78, 79, 80, 81, 92, 93, 94, 95, 96, 97, 98, 99, 100, 101, 82, 83, 84, 85, 86, 87, 88, 89, 90, 91] (by decide +kernel) (by decide +kernel)
set_option maxRecDepth 20000 in
theorem gX4_all_X4_foretell : GoodIn wsX4_all (wsV RX4 163 RX4 yX4_foretell wsX4_foretell) := goodIn_app (goodIn_of _ (by decide +kernel)) ggX4_all_X4_foretell
set_option maxRecDepth 20000 in
theorem ggX4_all_X1_owedInAll : GoodIn wsX4_all wsX1_owedInAll := goodIn_r _ [74, 23, 26, 82, 83, 84, 85, 86, 87, 88, 89, 90, 91] (by decide +kernel) (by decide +kernel)
set_option maxRecDepth 20000 in
theorem gX4_all_X1_owedInAll : GoodIn wsX4_all (wsV RX4 166 RX1 yX1_owedInAll wsX1_owedInAll) := goodIn_app (goodIn_of _ (by decide +kernel)) ggX4_all_X1_owedInAll
theorem dX4_all_0 : decode cX4_all 0 = .ok (.iload_n 1, 1) := by decide +kernel
theorem dX4_all_1 : decode cX4_all 1 = .ok (.ifCond .lt 18, 3) := by decide +kernel
theorem dX4_all_4 : decode cX4_all 4 = .ok (.iload_n 1, 1) := by decide +kernel
theorem dX4_all_5 : decode cX4_all 5 = .ok (.bipush 99, 2) := by decide +kernel
theorem dX4_all_7 : decode cX4_all 7 = .ok (.if_icmp .gt 12, 3) := by decide +kernel
theorem dX4_all_10 : decode cX4_all 10 = .ok (.iload_n 2, 1) := by decide +kernel
theorem dX4_all_11 : decode cX4_all 11 = .ok (.ifCond .lt 8, 3) := by decide +kernel
theorem dX4_all_14 : decode cX4_all 14 = .ok (.iload_n 2, 1) := by decide +kernel
theorem dX4_all_15 : decode cX4_all 15 = .ok (.iconst 1, 1) := by decide +kernel
theorem dX4_all_16 : decode cX4_all 16 = .ok (.if_icmp .le 6, 3) := by decide +kernel
theorem dX4_all_19 : decode cX4_all 19 = .ok (.bipush (-3), 2) := by decide +kernel
theorem dX4_all_21 : decode cX4_all 21 = .ok (.ireturn, 1) := by decide +kernel
theorem dX4_all_22 : decode cX4_all 22 = .ok (.aload_n 0, 1) := by decide +kernel
theorem dX4_all_23 : decode cX4_all 23 = .ok (.iload_n 1, 1) := by decide +kernel
theorem dX4_all_24 : decode cX4_all 24 = .ok (.invokevirtual 163, 3) := by decide +kernel
theorem dX4_all_27 : decode cX4_all 27 = .ok (.iload_n 2, 1) := by decide +kernel
theorem dX4_all_28 : decode cX4_all 28 = .ok (.ifCond .ne 13, 3) := by decide +kernel
theorem dX4_all_31 : decode cX4_all 31 = .ok (.aload_n 0, 1) := by decide +kernel
theorem dX4_all_32 : decode cX4_all 32 = .ok (.getfield 30, 3) := by decide +kernel
theorem dX4_all_35 : decode cX4_all 35 = .ok (.invokevirtual 166, 3) := by decide +kernel
theorem dX4_all_38 : decode cX4_all 38 = .ok (.goto 10, 3) := by decide +kernel
theorem dX4_all_41 : decode cX4_all 41 = .ok (.aload_n 0, 1) := by decide +kernel
theorem dX4_all_42 : decode cX4_all 42 = .ok (.getfield 30, 3) := by decide +kernel
theorem dX4_all_45 : decode cX4_all 45 = .ok (.getfield 170, 3) := by decide +kernel
theorem dX4_all_48 : decode cX4_all 48 = .ok (.ireturn, 1) := by decide +kernel
set_option maxRecDepth 20000 in
theorem ggX4_clear_X4_foretell : GoodIn wsX4_clear wsX4_foretell := goodIn_r _ [9, 1, 10, 3, 4, 11, 12, 13, 14, 15, 16, 17, 18, 19, 20, 21, 22, 23, 24, 25, 26, 27, 28, 29, 30, 31, 32, 33, 34, 35, 36, 37, 38, 39, 40, 41, 42, 43, 44, 45, 46, 47, 48, 49, 50, 51, 52, 53, 54, 55, 56, 57, 58, 59, 60, 61, 62, 63, 64, 65, 66, 67, 68, 69, 70, 71, 72, 73, 74, 75, 76, 77, 88, 89, 90, 91, 92, 93, 94, 95, 96, 97, 78, 79, 80, 81, 82, 83, 84, 85, 86, 87] (by decide +kernel) (by decide +kernel)
set_option maxRecDepth 20000 in
theorem gX4_clear_X4_foretell : GoodIn wsX4_clear (wsV RX4 163 RX4 yX4_foretell wsX4_foretell) := goodIn_app (goodIn_of _ (by decide +kernel)) ggX4_clear_X4_foretell
set_option maxRecDepth 20000 in
theorem ggX4_clear_X1_passDays : GoodIn wsX4_clear wsX1_passDays := goodIn_r _ [33, 16, 34, 35, 36, 14, 37, 23, 26, 24, 25, 38, 39, 40, 41, 42, 43, 44, 45, 46, 47, 48, 49, 50, 51, 52, 53, 54, 55, 56, 57, 58, 27, 59, 60, 61, 62, 17, 63, 64, 65, 66, 28, 67, 68, 69, 70, 29, 78, 79, 80, 81, 82, 83, 84, 85, 86, 87, 88, 89, 90, 91, 92, 93, 94, 95, 96, 97] (by decide +kernel) (by decide +kernel)
set_option maxRecDepth 20000 in
theorem gX4_clear_X1_passDays : GoodIn wsX4_clear (wsV RX4 148 RX1 yX1_passDays wsX1_passDays) := goodIn_app (goodIn_of _ (by decide +kernel)) ggX4_clear_X1_passDays
theorem dX4_clear_0 : decode cX4_clear 0 = .ok (.aload_n 0, 1) := by decide +kernel
theorem dX4_clear_1 : decode cX4_clear 1 = .ok (.iconst 0, 1) := by decide +kernel
theorem dX4_clear_2 : decode cX4_clear 2 = .ok (.invokevirtual 163, 3) := by decide +kernel
theorem dX4_clear_5 : decode cX4_clear 5 = .ok (.iconst 0, 1) := by decide +kernel
theorem dX4_clear_6 : decode cX4_clear 6 = .ok (.istore_n 1, 1) := by decide +kernel
theorem dX4_clear_7 : decode cX4_clear 7 = .ok (.iload_n 1, 1) := by decide +kernel
theorem dX4_clear_8 : decode cX4_clear 8 = .ok (.sipush 999, 3) := by decide +kernel
theorem dX4_clear_11 : decode cX4_clear 11 = .ok (.if_icmp .gt 40, 3) := by decide +kernel
theorem dX4_clear_14 : decode cX4_clear 14 = .ok (.aload_n 0, 1) := by decide +kernel
theorem dX4_clear_15 : decode cX4_clear 15 = .ok (.getfield 30, 3) := by decide +kernel
theorem dX4_clear_18 : decode cX4_clear 18 = .ok (.getfield 106, 3) := by decide +kernel
theorem dX4_clear_21 : decode cX4_clear 21 = .ok (.ifCond .ne 5, 3) := by decide +kernel
theorem dX4_clear_24 : decode cX4_clear 24 = .ok (.iload_n 1, 1) := by decide +kernel
theorem dX4_clear_25 : decode cX4_clear 25 = .ok (.ireturn, 1) := by decide +kernel
theorem dX4_clear_26 : decode cX4_clear 26 = .ok (.aload_n 0, 1) := by decide +kernel
theorem dX4_clear_27 : decode cX4_clear 27 = .ok (.getfield 30, 3) := by decide +kernel
theorem dX4_clear_30 : decode cX4_clear 30 = .ok (.aload_n 0, 1) := by decide +kernel
theorem dX4_clear_31 : decode cX4_clear 31 = .ok (.getfield 19, 3) := by decide +kernel
theorem dX4_clear_34 : decode cX4_clear 34 = .ok (.aload_n 0, 1) := by decide +kernel
theorem dX4_clear_35 : decode cX4_clear 35 = .ok (.getfield 19, 3) := by decide +kernel
theorem dX4_clear_38 : decode cX4_clear 38 = .ok (.getfield 145, 3) := by decide +kernel
theorem dX4_clear_41 : decode cX4_clear 41 = .ok (.iconst 1, 1) := by decide +kernel
theorem dX4_clear_42 : decode cX4_clear 42 = .ok (.invokevirtual 148, 3) := by decide +kernel
theorem dX4_clear_45 : decode cX4_clear 45 = .ok (.iinc 1 1, 3) := by decide +kernel
theorem dX4_clear_48 : decode cX4_clear 48 = .ok (.goto (-41), 3) := by decide +kernel
theorem dX4_clear_51 : decode cX4_clear 51 = .ok (.iconst (-1), 1) := by decide +kernel
theorem dX4_clear_52 : decode cX4_clear 52 = .ok (.ireturn, 1) := by decide +kernel
set_option maxRecDepth 20000 in
theorem ggX4_hut_X3_has : GoodIn wsX4_hut wsX3_has := goodIn_r _ [9, 10, 85, 86, 87, 88, 89, 90, 91, 92, 93, 94] (by decide +kernel) (by decide +kernel)
set_option maxRecDepth 20000 in
theorem gX4_hut_X3_has : GoodIn wsX4_hut (wsV RX4 75 RX3 yX3_has wsX3_has) := goodIn_app (goodIn_of _ (by decide +kernel)) ggX4_hut_X3_has
set_option maxRecDepth 20000 in
theorem ggX4_hut_X0_find : GoodIn wsX4_hut wsX0_find := goodIn_r _ [15, 16, 17, 18, 19, 20, 21, 22, 23, 24, 25, 26, 27, 28, 29, 30, 31, 32, 33, 34, 35, 36, 37, 38, 39, 40, 41, 42, 43, 44, 45, 46, 47, 48, 8, 49, 50, 51, 52, 53, 54, 55, 56, 57, 58, 59, 60, 14, 61, 62, 63, 64, 65, 66, 67, 68, 69, 70, 71, 80, 81, 82, 83, 84, 85, 86, 87, 88, 89, 90, 91, 92, 93, 94, 95, 96, 97, 98, 99, 100, 101, 102, 103, 104] (by decide +kernel) (by decide +kernel)
set_option maxRecDepth 20000 in
theorem gX4_hut_X0_find : GoodIn wsX4_hut (wsV RX4 173 RX0 yX0_find wsX0_find) := goodIn_app (goodIn_of _ (by decide +kernel)) ggX4_hut_X0_find
set_option maxRecDepth 20000 in
theorem ggX4_hut_X0_owedTogether : GoodIn wsX4_hut wsX0_owedTogether := goodIn_r _ [66, 17, 16, 80, 81, 82, 83, 84] (by decide +kernel) (by decide +kernel)
set_option maxRecDepth 20000 in
theorem gX4_hut_X0_owedTogether : GoodIn wsX4_hut (wsV RX4 177 RX0 yX0_owedTogether wsX0_owedTogether) := goodIn_app (goodIn_of _ (by decide +kernel)) ggX4_hut_X0_owedTogether
theorem dX4_hut_0 : decode cX4_hut 0 = .ok (.iload_n 3, 1) := by decide +kernel
theorem dX4_hut_1 : decode cX4_hut 1 = .ok (.iconst (-1), 1) := by decide +kernel
theorem dX4_hut_2 : decode cX4_hut 2 = .ok (.if_icmp .eq 17, 3) := by decide +kernel
theorem dX4_hut_5 : decode cX4_hut 5 = .ok (.aload_n 0, 1) := by decide +kernel
theorem dX4_hut_6 : decode cX4_hut 6 = .ok (.getfield 19, 3) := by decide +kernel
theorem dX4_hut_9 : decode cX4_hut 9 = .ok (.iload_n 3, 1) := by decide +kernel
theorem dX4_hut_10 : decode cX4_hut 10 = .ok (.invokevirtual 75, 3) := by decide +kernel
theorem dX4_hut_13 : decode cX4_hut 13 = .ok (.ifCond .ne 6, 3) := by decide +kernel
theorem dX4_hut_16 : decode cX4_hut 16 = .ok (.bipush (-2), 2) := by decide +kernel
theorem dX4_hut_18 : decode cX4_hut 18 = .ok (.ireturn, 1) := by decide +kernel
theorem dX4_hut_19 : decode cX4_hut 19 = .ok (.iload_n 1, 1) := by decide +kernel
theorem dX4_hut_20 : decode cX4_hut 20 = .ok (.iconst 1, 1) := by decide +kernel
theorem dX4_hut_21 : decode cX4_hut 21 = .ok (.if_icmp .lt 19, 3) := by decide +kernel
theorem dX4_hut_24 : decode cX4_hut 24 = .ok (.iload_n 1, 1) := by decide +kernel
theorem dX4_hut_25 : decode cX4_hut 25 = .ok (.bipush 99, 2) := by decide +kernel
theorem dX4_hut_27 : decode cX4_hut 27 = .ok (.if_icmp .gt 13, 3) := by decide +kernel
theorem dX4_hut_30 : decode cX4_hut 30 = .ok (.iload_n 2, 1) := by decide +kernel
theorem dX4_hut_31 : decode cX4_hut 31 = .ok (.ifCond .lt 9, 3) := by decide +kernel
theorem dX4_hut_34 : decode cX4_hut 34 = .ok (.iload_n 2, 1) := by decide +kernel
theorem dX4_hut_35 : decode cX4_hut 35 = .ok (.bipush 30, 2) := by decide +kernel
theorem dX4_hut_37 : decode cX4_hut 37 = .ok (.if_icmp .le 6, 3) := by decide +kernel
theorem dX4_hut_40 : decode cX4_hut 40 = .ok (.bipush (-3), 2) := by decide +kernel
theorem dX4_hut_42 : decode cX4_hut 42 = .ok (.ireturn, 1) := by decide +kernel
theorem dX4_hut_43 : decode cX4_hut 43 = .ok (.aload_n 0, 1) := by decide +kernel
theorem dX4_hut_44 : decode cX4_hut 44 = .ok (.getfield 44, 3) := by decide +kernel
theorem dX4_hut_47 : decode cX4_hut 47 = .ok (.aload_n 0, 1) := by decide +kernel
theorem dX4_hut_48 : decode cX4_hut 48 = .ok (.getfield 19, 3) := by decide +kernel
theorem dX4_hut_51 : decode cX4_hut 51 = .ok (.aload_n 0, 1) := by decide +kernel
theorem dX4_hut_52 : decode cX4_hut 52 = .ok (.getfield 26, 3) := by decide +kernel
theorem dX4_hut_55 : decode cX4_hut 55 = .ok (.iload_n 1, 1) := by decide +kernel
theorem dX4_hut_56 : decode cX4_hut 56 = .ok (.iload_n 2, 1) := by decide +kernel
theorem dX4_hut_57 : decode cX4_hut 57 = .ok (.invokevirtual 173, 3) := by decide +kernel
theorem dX4_hut_60 : decode cX4_hut 60 = .ok (.ifCond .ne 5, 3) := by decide +kernel
theorem dX4_hut_63 : decode cX4_hut 63 = .ok (.iconst (-1), 1) := by decide +kernel
theorem dX4_hut_64 : decode cX4_hut 64 = .ok (.ireturn, 1) := by decide +kernel
theorem dX4_hut_65 : decode cX4_hut 65 = .ok (.iload_n 3, 1) := by decide +kernel
theorem dX4_hut_66 : decode cX4_hut 66 = .ok (.iconst (-1), 1) := by decide +kernel
theorem dX4_hut_67 : decode cX4_hut 67 = .ok (.if_icmp .ne 13, 3) := by decide +kernel
theorem dX4_hut_70 : decode cX4_hut 70 = .ok (.aload_n 0, 1) := by decide +kernel
theorem dX4_hut_71 : decode cX4_hut 71 = .ok (.getfield 44, 3) := by decide +kernel
theorem dX4_hut_74 : decode cX4_hut 74 = .ok (.invokevirtual 177, 3) := by decide +kernel
theorem dX4_hut_77 : decode cX4_hut 77 = .ok (.goto 12, 3) := by decide +kernel
theorem dX4_hut_80 : decode cX4_hut 80 = .ok (.aload_n 0, 1) := by decide +kernel
theorem dX4_hut_81 : decode cX4_hut 81 = .ok (.getfield 44, 3) := by decide +kernel
theorem dX4_hut_84 : decode cX4_hut 84 = .ok (.getfield 180, 3) := by decide +kernel
theorem dX4_hut_87 : decode cX4_hut 87 = .ok (.iload_n 3, 1) := by decide +kernel
theorem dX4_hut_88 : decode cX4_hut 88 = .ok (.iaload, 1) := by decide +kernel
theorem dX4_hut_89 : decode cX4_hut 89 = .ok (.ireturn, 1) := by decide +kernel
set_option maxRecDepth 20000 in
theorem ggX4_enough_X4_anyFails : GoodIn wsX4_enough wsX4_anyFails := goodIn_r _ [5, 6, 7, 8, 9, 10, 11, 12, 13, 14, 15, 16, 17, 18, 19, 20, 21, 22, 23, 24, 25, 26, 27, 28, 29, 30, 31, 32, 33, 34, 35, 36, 37, 38, 39, 40, 41, 42, 43, 44, 45, 46, 47, 48, 49, 50, 51, 52, 53, 54, 55, 56, 57, 58, 59, 60, 61, 62, 63, 64, 65, 66, 67, 68, 69, 70, 71, 72, 73, 74, 75, 76, 77, 78, 79, 80, 81, 82, 83, 84, 85, 86, 87, 88, 89, 90, 91, 92, 93, 94, 95, 96] (by decide +kernel) (by decide +kernel)
set_option maxRecDepth 20000 in
theorem gX4_enough_X4_anyFails : GoodIn wsX4_enough (wsV RX4 183 RX4 yX4_anyFails wsX4_anyFails) := goodIn_app (goodIn_of _ (by decide +kernel)) ggX4_enough_X4_anyFails
theorem dX4_enough_0 : decode cX4_enough 0 = .ok (.iload_n 1, 1) := by decide +kernel
theorem dX4_enough_1 : decode cX4_enough 1 = .ok (.iconst 1, 1) := by decide +kernel
theorem dX4_enough_2 : decode cX4_enough 2 = .ok (.if_icmp .lt 9, 3) := by decide +kernel
theorem dX4_enough_5 : decode cX4_enough 5 = .ok (.iload_n 1, 1) := by decide +kernel
theorem dX4_enough_6 : decode cX4_enough 6 = .ok (.bipush 99, 2) := by decide +kernel
theorem dX4_enough_8 : decode cX4_enough 8 = .ok (.if_icmp .le 6, 3) := by decide +kernel
theorem dX4_enough_11 : decode cX4_enough 11 = .ok (.bipush (-3), 2) := by decide +kernel
theorem dX4_enough_13 : decode cX4_enough 13 = .ok (.ireturn, 1) := by decide +kernel
theorem dX4_enough_14 : decode cX4_enough 14 = .ok (.aload_n 0, 1) := by decide +kernel
theorem dX4_enough_15 : decode cX4_enough 15 = .ok (.bipush 99, 2) := by decide +kernel
theorem dX4_enough_17 : decode cX4_enough 17 = .ok (.iload_n 1, 1) := by decide +kernel
theorem dX4_enough_18 : decode cX4_enough 18 = .ok (.invokevirtual 183, 3) := by decide +kernel
theorem dX4_enough_21 : decode cX4_enough 21 = .ok (.ifCond .eq 5, 3) := by decide +kernel
theorem dX4_enough_24 : decode cX4_enough 24 = .ok (.iconst (-1), 1) := by decide +kernel
theorem dX4_enough_25 : decode cX4_enough 25 = .ok (.ireturn, 1) := by decide +kernel
theorem dX4_enough_26 : decode cX4_enough 26 = .ok (.iconst 0, 1) := by decide +kernel
theorem dX4_enough_27 : decode cX4_enough 27 = .ok (.istore_n 2, 1) := by decide +kernel
theorem dX4_enough_28 : decode cX4_enough 28 = .ok (.bipush 99, 2) := by decide +kernel
theorem dX4_enough_30 : decode cX4_enough 30 = .ok (.istore_n 3, 1) := by decide +kernel
theorem dX4_enough_31 : decode cX4_enough 31 = .ok (.iconst 0, 1) := by decide +kernel
theorem dX4_enough_32 : decode cX4_enough 32 = .ok (.istore 4, 2) := by decide +kernel
theorem dX4_enough_34 : decode cX4_enough 34 = .ok (.iload 4, 2) := by decide +kernel
theorem dX4_enough_36 : decode cX4_enough 36 = .ok (.bipush 99, 2) := by decide +kernel
theorem dX4_enough_38 : decode cX4_enough 38 = .ok (.if_icmp .ge 42, 3) := by decide +kernel
theorem dX4_enough_41 : decode cX4_enough 41 = .ok (.iload_n 2, 1) := by decide +kernel
theorem dX4_enough_42 : decode cX4_enough 42 = .ok (.iload_n 3, 1) := by decide +kernel
theorem dX4_enough_43 : decode cX4_enough 43 = .ok (.if_icmp .ge 37, 3) := by decide +kernel
theorem dX4_enough_46 : decode cX4_enough 46 = .ok (.iload_n 2, 1) := by decide +kernel
theorem dX4_enough_47 : decode cX4_enough 47 = .ok (.iload_n 3, 1) := by decide +kernel
theorem dX4_enough_48 : decode cX4_enough 48 = .ok (.iadd, 1) := by decide +kernel
theorem dX4_enough_49 : decode cX4_enough 49 = .ok (.iconst 2, 1) := by decide +kernel
theorem dX4_enough_50 : decode cX4_enough 50 = .ok (.idiv, 1) := by decide +kernel
theorem dX4_enough_51 : decode cX4_enough 51 = .ok (.istore 5, 2) := by decide +kernel
theorem dX4_enough_53 : decode cX4_enough 53 = .ok (.aload_n 0, 1) := by decide +kernel
theorem dX4_enough_54 : decode cX4_enough 54 = .ok (.iload 5, 2) := by decide +kernel
theorem dX4_enough_56 : decode cX4_enough 56 = .ok (.iload_n 1, 1) := by decide +kernel
theorem dX4_enough_57 : decode cX4_enough 57 = .ok (.invokevirtual 183, 3) := by decide +kernel
theorem dX4_enough_60 : decode cX4_enough 60 = .ok (.ifCond .eq 11, 3) := by decide +kernel
theorem dX4_enough_63 : decode cX4_enough 63 = .ok (.iload 5, 2) := by decide +kernel
theorem dX4_enough_65 : decode cX4_enough 65 = .ok (.iconst 1, 1) := by decide +kernel
theorem dX4_enough_66 : decode cX4_enough 66 = .ok (.iadd, 1) := by decide +kernel
theorem dX4_enough_67 : decode cX4_enough 67 = .ok (.istore_n 2, 1) := by decide +kernel
theorem dX4_enough_68 : decode cX4_enough 68 = .ok (.goto 6, 3) := by decide +kernel
theorem dX4_enough_71 : decode cX4_enough 71 = .ok (.iload 5, 2) := by decide +kernel
theorem dX4_enough_73 : decode cX4_enough 73 = .ok (.istore_n 3, 1) := by decide +kernel
theorem dX4_enough_74 : decode cX4_enough 74 = .ok (.iinc 4 1, 3) := by decide +kernel
theorem dX4_enough_77 : decode cX4_enough 77 = .ok (.goto (-43), 3) := by decide +kernel
theorem dX4_enough_80 : decode cX4_enough 80 = .ok (.iload_n 3, 1) := by decide +kernel
theorem dX4_enough_81 : decode cX4_enough 81 = .ok (.ireturn, 1) := by decide +kernel
set_option maxRecDepth 20000 in
theorem ggX4_rid_X4_commonWithTen : GoodIn wsX4_rid wsX4_commonWithTen := goodIn_r _ [6] (by decide +kernel) (by decide +kernel)
set_option maxRecDepth 20000 in
theorem gX4_rid_X4_commonWithTen : GoodIn wsX4_rid (va_wsS RX4 186 yX4_commonWithTen wsX4_commonWithTen) := goodIn_app (goodIn_of _ (by decide +kernel)) ggX4_rid_X4_commonWithTen
set_option maxRecDepth 20000 in
theorem ggX4_rid_X1_partsWithLoans : GoodIn wsX4_rid wsX1_partsWithLoans := goodIn_r _ [11, 12, 13, 14, 15, 16, 17, 18, 19, 20, 21, 29, 30, 31, 32, 33, 34, 35, 36, 37, 38, 39, 40, 41, 42, 43, 44, 45, 46, 47, 48] (by decide +kernel) (by decide +kernel)
set_option maxRecDepth 20000 in
theorem gX4_rid_X1_partsWithLoans : GoodIn wsX4_rid (wsV RX4 189 RX1 yX1_partsWithLoans wsX1_partsWithLoans) := goodIn_app (goodIn_of _ (by decide +kernel)) ggX4_rid_X1_partsWithLoans
theorem dX4_rid_0 : decode cX4_rid 0 = .ok (.iload_n 1, 1) := by decide +kernel
theorem dX4_rid_1 : decode cX4_rid 1 = .ok (.ifCond .lt 18, 3) := by decide +kernel
theorem dX4_rid_4 : decode cX4_rid 4 = .ok (.iload_n 1, 1) := by decide +kernel
theorem dX4_rid_5 : decode cX4_rid 5 = .ok (.bipush 10, 2) := by decide +kernel
theorem dX4_rid_7 : decode cX4_rid 7 = .ok (.if_icmp .gt 12, 3) := by decide +kernel
theorem dX4_rid_10 : decode cX4_rid 10 = .ok (.iload_n 2, 1) := by decide +kernel
theorem dX4_rid_11 : decode cX4_rid 11 = .ok (.ifCond .lt 8, 3) := by decide +kernel
theorem dX4_rid_14 : decode cX4_rid 14 = .ok (.iload_n 2, 1) := by decide +kernel
theorem dX4_rid_15 : decode cX4_rid 15 = .ok (.iconst 1, 1) := by decide +kernel
theorem dX4_rid_16 : decode cX4_rid 16 = .ok (.if_icmp .le 6, 3) := by decide +kernel
theorem dX4_rid_19 : decode cX4_rid 19 = .ok (.bipush (-3), 2) := by decide +kernel
theorem dX4_rid_21 : decode cX4_rid 21 = .ok (.ireturn, 1) := by decide +kernel
theorem dX4_rid_22 : decode cX4_rid 22 = .ok (.iload_n 2, 1) := by decide +kernel
theorem dX4_rid_23 : decode cX4_rid 23 = .ok (.ifCond .ne 7, 3) := by decide +kernel
theorem dX4_rid_26 : decode cX4_rid 26 = .ok (.iload_n 1, 1) := by decide +kernel
theorem dX4_rid_27 : decode cX4_rid 27 = .ok (.goto 5, 3) := by decide +kernel
theorem dX4_rid_30 : decode cX4_rid 30 = .ok (.bipush 10, 2) := by decide +kernel
theorem dX4_rid_32 : decode cX4_rid 32 = .ok (.iload_n 1, 1) := by decide +kernel
theorem dX4_rid_33 : decode cX4_rid 33 = .ok (.invokestatic 186, 3) := by decide +kernel
theorem dX4_rid_36 : decode cX4_rid 36 = .ok (.idiv, 1) := by decide +kernel
theorem dX4_rid_37 : decode cX4_rid 37 = .ok (.istore_n 3, 1) := by decide +kernel
theorem dX4_rid_38 : decode cX4_rid 38 = .ok (.aload_n 0, 1) := by decide +kernel
theorem dX4_rid_39 : decode cX4_rid 39 = .ok (.getfield 26, 3) := by decide +kernel
theorem dX4_rid_42 : decode cX4_rid 42 = .ok (.aload_n 0, 1) := by decide +kernel
theorem dX4_rid_43 : decode cX4_rid 43 = .ok (.getfield 19, 3) := by decide +kernel
theorem dX4_rid_46 : decode cX4_rid 46 = .ok (.invokevirtual 189, 3) := by decide +kernel
theorem dX4_rid_49 : decode cX4_rid 49 = .ok (.istore 4, 2) := by decide +kernel
theorem dX4_rid_51 : decode cX4_rid 51 = .ok (.iconst 1, 1) := by decide +kernel
theorem dX4_rid_52 : decode cX4_rid 52 = .ok (.istore 5, 2) := by decide +kernel
theorem dX4_rid_54 : decode cX4_rid 54 = .ok (.iconst 0, 1) := by decide +kernel
theorem dX4_rid_55 : decode cX4_rid 55 = .ok (.istore 6, 2) := by decide +kernel
theorem dX4_rid_57 : decode cX4_rid 57 = .ok (.iload 6, 2) := by decide +kernel
theorem dX4_rid_59 : decode cX4_rid 59 = .ok (.iload 4, 2) := by decide +kernel
theorem dX4_rid_61 : decode cX4_rid 61 = .ok (.if_icmp .ge 15, 3) := by decide +kernel
theorem dX4_rid_64 : decode cX4_rid 64 = .ok (.iload 5, 2) := by decide +kernel
theorem dX4_rid_66 : decode cX4_rid 66 = .ok (.iload_n 3, 1) := by decide +kernel
theorem dX4_rid_67 : decode cX4_rid 67 = .ok (.imul, 1) := by decide +kernel
theorem dX4_rid_68 : decode cX4_rid 68 = .ok (.istore 5, 2) := by decide +kernel
theorem dX4_rid_70 : decode cX4_rid 70 = .ok (.iinc 6 1, 3) := by decide +kernel
theorem dX4_rid_73 : decode cX4_rid 73 = .ok (.goto (-16), 3) := by decide +kernel
theorem dX4_rid_76 : decode cX4_rid 76 = .ok (.iload 5, 2) := by decide +kernel
theorem dX4_rid_78 : decode cX4_rid 78 = .ok (.ireturn, 1) := by decide +kernel
set_option maxRecDepth 20000 in
theorem ggX4_grandson_X4_foretell : GoodIn wsX4_grandson wsX4_foretell := goodIn_r _ [10, 3, 11, 1, 12, 13, 14, 15, 16, 17, 18, 19, 20, 21, 22, 23, 24, 25, 26, 27, 28, 29, 30, 31, 32, 33, 34, 35, 36, 37, 38, 39, 40, 41, 42, 43, 44, 45, 46, 47, 48, 49, 50, 51, 52, 53, 54, 55, 56, 57, 58, 59, 60, 61, 62, 63, 64, 65, 66, 67, 68, 69, 70, 71, 72, 73, 74, 75, 76, 77, 78, 79, 80, 81, 82, 83, 84, 85, 86, 87, 88, 89, 90, 91, 92, 93, 94, 95, 96, 97, 98, 99] (by decide +kernel) (by decide +kernel)
set_option maxRecDepth 20000 in
theorem gX4_grandson_X4_foretell : GoodIn wsX4_grandson (wsV RX4 163 RX4 yX4_foretell wsX4_foretell) := goodIn_app (goodIn_of _ (by decide +kernel)) ggX4_grandson_X4_foretell
theorem dX4_grandson_0 : decode cX4_grandson 0 = .ok (.iload_n 1, 1) := by decide +kernel
theorem dX4_grandson_1 : decode cX4_grandson 1 = .ok (.ifCond .lt 9, 3) := by decide +kernel
theorem dX4_grandson_4 : decode cX4_grandson 4 = .ok (.iload_n 1, 1) := by decide +kernel
theorem dX4_grandson_5 : decode cX4_grandson 5 = .ok (.bipush 99, 2) := by decide +kernel
theorem dX4_grandson_7 : decode cX4_grandson 7 = .ok (.if_icmp .le 6, 3) := by decide +kernel
theorem dX4_grandson_10 : decode cX4_grandson 10 = .ok (.bipush (-3), 2) := by decide +kernel
theorem dX4_grandson_12 : decode cX4_grandson 12 = .ok (.ireturn, 1) := by decide +kernel
theorem dX4_grandson_13 : decode cX4_grandson 13 = .ok (.aload_n 0, 1) := by decide +kernel
theorem dX4_grandson_14 : decode cX4_grandson 14 = .ok (.iload_n 1, 1) := by decide +kernel
theorem dX4_grandson_15 : decode cX4_grandson 15 = .ok (.invokevirtual 163, 3) := by decide +kernel
theorem dX4_grandson_18 : decode cX4_grandson 18 = .ok (.iconst 0, 1) := by decide +kernel
theorem dX4_grandson_19 : decode cX4_grandson 19 = .ok (.istore_n 2, 1) := by decide +kernel
theorem dX4_grandson_20 : decode cX4_grandson 20 = .ok (.iconst 0, 1) := by decide +kernel
theorem dX4_grandson_21 : decode cX4_grandson 21 = .ok (.istore_n 3, 1) := by decide +kernel
theorem dX4_grandson_22 : decode cX4_grandson 22 = .ok (.iload_n 3, 1) := by decide +kernel
theorem dX4_grandson_23 : decode cX4_grandson 23 = .ok (.aload_n 0, 1) := by decide +kernel
theorem dX4_grandson_24 : decode cX4_grandson 24 = .ok (.getfield 19, 3) := by decide +kernel
theorem dX4_grandson_27 : decode cX4_grandson 27 = .ok (.getfield 192, 3) := by decide +kernel
theorem dX4_grandson_30 : decode cX4_grandson 30 = .ok (.if_icmp .ge 33, 3) := by decide +kernel
theorem dX4_grandson_33 : decode cX4_grandson 33 = .ok (.aload_n 0, 1) := by decide +kernel
theorem dX4_grandson_34 : decode cX4_grandson 34 = .ok (.getfield 30, 3) := by decide +kernel
theorem dX4_grandson_37 : decode cX4_grandson 37 = .ok (.getfield 99, 3) := by decide +kernel
theorem dX4_grandson_40 : decode cX4_grandson 40 = .ok (.iload_n 3, 1) := by decide +kernel
theorem dX4_grandson_41 : decode cX4_grandson 41 = .ok (.iaload, 1) := by decide +kernel
theorem dX4_grandson_42 : decode cX4_grandson 42 = .ok (.ifCond .ne 15, 3) := by decide +kernel
theorem dX4_grandson_45 : decode cX4_grandson 45 = .ok (.iload_n 2, 1) := by decide +kernel
theorem dX4_grandson_46 : decode cX4_grandson 46 = .ok (.aload_n 0, 1) := by decide +kernel
theorem dX4_grandson_47 : decode cX4_grandson 47 = .ok (.getfield 30, 3) := by decide +kernel
theorem dX4_grandson_50 : decode cX4_grandson 50 = .ok (.getfield 83, 3) := by decide +kernel
theorem dX4_grandson_53 : decode cX4_grandson 53 = .ok (.iload_n 3, 1) := by decide +kernel
theorem dX4_grandson_54 : decode cX4_grandson 54 = .ok (.iaload, 1) := by decide +kernel
theorem dX4_grandson_55 : decode cX4_grandson 55 = .ok (.iadd, 1) := by decide +kernel
theorem dX4_grandson_56 : decode cX4_grandson 56 = .ok (.istore_n 2, 1) := by decide +kernel
theorem dX4_grandson_57 : decode cX4_grandson 57 = .ok (.iinc 3 1, 3) := by decide +kernel
theorem dX4_grandson_60 : decode cX4_grandson 60 = .ok (.goto (-38), 3) := by decide +kernel
theorem dX4_grandson_63 : decode cX4_grandson 63 = .ok (.iload_n 2, 1) := by decide +kernel
theorem dX4_grandson_64 : decode cX4_grandson 64 = .ok (.ireturn, 1) := by decide +kernel
set_option maxRecDepth 20000 in
theorem ggX4_toWhom_X3_grownIn : GoodIn wsX4_toWhom wsX3_grownIn := goodIn_r _ [10, 11, 12, 13, 9, 14, 15, 16, 17, 18, 19, 20, 21, 29, 30, 31, 32, 33, 34, 35, 36, 37, 38] (by decide +kernel) (by decide +kernel)
set_option maxRecDepth 20000 in
theorem gX4_toWhom_X3_grownIn : GoodIn wsX4_toWhom (wsV RX4 131 RX3 yX3_grownIn wsX3_grownIn) := goodIn_app (goodIn_of _ (by decide +kernel)) ggX4_toWhom_X3_grownIn
theorem dX4_toWhom_0 : decode cX4_toWhom 0 = .ok (.iload_n 1, 1) := by decide +kernel
theorem dX4_toWhom_1 : decode cX4_toWhom 1 = .ok (.iconst 1, 1) := by decide +kernel
theorem dX4_toWhom_2 : decode cX4_toWhom 2 = .ok (.if_icmp .lt 29, 3) := by decide +kernel
theorem dX4_toWhom_5 : decode cX4_toWhom 5 = .ok (.iload_n 1, 1) := by decide +kernel
theorem dX4_toWhom_6 : decode cX4_toWhom 6 = .ok (.bipush 99, 2) := by decide +kernel
theorem dX4_toWhom_8 : decode cX4_toWhom 8 = .ok (.if_icmp .gt 23, 3) := by decide +kernel
theorem dX4_toWhom_11 : decode cX4_toWhom 11 = .ok (.iload_n 2, 1) := by decide +kernel
theorem dX4_toWhom_12 : decode cX4_toWhom 12 = .ok (.ifCond .lt 19, 3) := by decide +kernel
theorem dX4_toWhom_15 : decode cX4_toWhom 15 = .ok (.iload_n 2, 1) := by decide +kernel
theorem dX4_toWhom_16 : decode cX4_toWhom 16 = .ok (.bipush 30, 2) := by decide +kernel
theorem dX4_toWhom_18 : decode cX4_toWhom 18 = .ok (.if_icmp .gt 13, 3) := by decide +kernel
theorem dX4_toWhom_21 : decode cX4_toWhom 21 = .ok (.iload_n 3, 1) := by decide +kernel
theorem dX4_toWhom_22 : decode cX4_toWhom 22 = .ok (.ifCond .lt 9, 3) := by decide +kernel
theorem dX4_toWhom_25 : decode cX4_toWhom 25 = .ok (.iload_n 3, 1) := by decide +kernel
theorem dX4_toWhom_26 : decode cX4_toWhom 26 = .ok (.ldc 195, 2) := by decide +kernel
theorem dX4_toWhom_28 : decode cX4_toWhom 28 = .ok (.if_icmp .le 6, 3) := by decide +kernel
theorem dX4_toWhom_31 : decode cX4_toWhom 31 = .ok (.bipush (-3), 2) := by decide +kernel
theorem dX4_toWhom_33 : decode cX4_toWhom 33 = .ok (.ireturn, 1) := by decide +kernel
theorem dX4_toWhom_34 : decode cX4_toWhom 34 = .ok (.iconst 0, 1) := by decide +kernel
theorem dX4_toWhom_35 : decode cX4_toWhom 35 = .ok (.istore 4, 2) := by decide +kernel
theorem dX4_toWhom_37 : decode cX4_toWhom 37 = .ok (.iconst 0, 1) := by decide +kernel
theorem dX4_toWhom_38 : decode cX4_toWhom 38 = .ok (.istore 5, 2) := by decide +kernel
theorem dX4_toWhom_40 : decode cX4_toWhom 40 = .ok (.iload 5, 2) := by decide +kernel
theorem dX4_toWhom_42 : decode cX4_toWhom 42 = .ok (.aload_n 0, 1) := by decide +kernel
theorem dX4_toWhom_43 : decode cX4_toWhom 43 = .ok (.getfield 19, 3) := by decide +kernel
theorem dX4_toWhom_46 : decode cX4_toWhom 46 = .ok (.getfield 192, 3) := by decide +kernel
theorem dX4_toWhom_49 : decode cX4_toWhom 49 = .ok (.if_icmp .ge 46, 3) := by decide +kernel
theorem dX4_toWhom_52 : decode cX4_toWhom 52 = .ok (.aload_n 0, 1) := by decide +kernel
theorem dX4_toWhom_53 : decode cX4_toWhom 53 = .ok (.getfield 26, 3) := by decide +kernel
theorem dX4_toWhom_56 : decode cX4_toWhom 56 = .ok (.getfield 99, 3) := by decide +kernel
theorem dX4_toWhom_59 : decode cX4_toWhom 59 = .ok (.iload 5, 2) := by decide +kernel
theorem dX4_toWhom_61 : decode cX4_toWhom 61 = .ok (.iaload, 1) := by decide +kernel
theorem dX4_toWhom_62 : decode cX4_toWhom 62 = .ok (.ifCond .ne 27, 3) := by decide +kernel
theorem dX4_toWhom_65 : decode cX4_toWhom 65 = .ok (.aload_n 0, 1) := by decide +kernel
theorem dX4_toWhom_66 : decode cX4_toWhom 66 = .ok (.getfield 19, 3) := by decide +kernel
theorem dX4_toWhom_69 : decode cX4_toWhom 69 = .ok (.iload 5, 2) := by decide +kernel
theorem dX4_toWhom_71 : decode cX4_toWhom 71 = .ok (.iload_n 1, 1) := by decide +kernel
theorem dX4_toWhom_72 : decode cX4_toWhom 72 = .ok (.iload_n 2, 1) := by decide +kernel
theorem dX4_toWhom_73 : decode cX4_toWhom 73 = .ok (.invokevirtual 131, 3) := by decide +kernel
theorem dX4_toWhom_76 : decode cX4_toWhom 76 = .ok (.iload_n 3, 1) := by decide +kernel
theorem dX4_toWhom_77 : decode cX4_toWhom 77 = .ok (.if_icmp .ne 12, 3) := by decide +kernel
theorem dX4_toWhom_80 : decode cX4_toWhom 80 = .ok (.iload 4, 2) := by decide +kernel
theorem dX4_toWhom_82 : decode cX4_toWhom 82 = .ok (.iconst 1, 1) := by decide +kernel
theorem dX4_toWhom_83 : decode cX4_toWhom 83 = .ok (.iload 5, 2) := by decide +kernel
theorem dX4_toWhom_85 : decode cX4_toWhom 85 = .ok (.ishl, 1) := by decide +kernel
theorem dX4_toWhom_86 : decode cX4_toWhom 86 = .ok (.ior, 1) := by decide +kernel
theorem dX4_toWhom_87 : decode cX4_toWhom 87 = .ok (.istore 4, 2) := by decide +kernel
theorem dX4_toWhom_89 : decode cX4_toWhom 89 = .ok (.iinc 5 1, 3) := by decide +kernel
theorem dX4_toWhom_92 : decode cX4_toWhom 92 = .ok (.goto (-52), 3) := by decide +kernel
theorem dX4_toWhom_95 : decode cX4_toWhom 95 = .ok (.iload 4, 2) := by decide +kernel
theorem dX4_toWhom_97 : decode cX4_toWhom 97 = .ok (.ireturn, 1) := by decide +kernel
set_option maxRecDepth 20000 in
theorem ggX4_count_X1_owedInAll : GoodIn wsX4_count wsX1_owedInAll := goodIn_r _ [15, 16, 17, 35, 36, 37, 38, 39, 40, 41, 42, 43, 44] (by decide +kernel) (by decide +kernel)
set_option maxRecDepth 20000 in
theorem gX4_count_X1_owedInAll : GoodIn wsX4_count (wsV RX4 166 RX1 yX1_owedInAll wsX1_owedInAll) := goodIn_app (goodIn_of _ (by decide +kernel)) ggX4_count_X1_owedInAll
theorem dX4_count_0 : decode cX4_count 0 = .ok (.iload_n 1, 1) := by decide +kernel
theorem dX4_count_1 : decode cX4_count 1 = .ok (.tableswitch 111 0 7 #[47, 55, 63, 71, 79, 87, 95, 103], 47) := by decide +kernel
theorem dX4_count_48 : decode cX4_count 48 = .ok (.aload_n 0, 1) := by decide +kernel
theorem dX4_count_49 : decode cX4_count 49 = .ok (.getfield 19, 3) := by decide +kernel
theorem dX4_count_52 : decode cX4_count 52 = .ok (.getfield 192, 3) := by decide +kernel
theorem dX4_count_55 : decode cX4_count 55 = .ok (.ireturn, 1) := by decide +kernel
theorem dX4_count_56 : decode cX4_count 56 = .ok (.aload_n 0, 1) := by decide +kernel
theorem dX4_count_57 : decode cX4_count 57 = .ok (.getfield 19, 3) := by decide +kernel
theorem dX4_count_60 : decode cX4_count 60 = .ok (.getfield 196, 3) := by decide +kernel
theorem dX4_count_63 : decode cX4_count 63 = .ok (.ireturn, 1) := by decide +kernel
theorem dX4_count_64 : decode cX4_count 64 = .ok (.aload_n 0, 1) := by decide +kernel
theorem dX4_count_65 : decode cX4_count 65 = .ok (.getfield 19, 3) := by decide +kernel
theorem dX4_count_68 : decode cX4_count 68 = .ok (.getfield 145, 3) := by decide +kernel
theorem dX4_count_71 : decode cX4_count 71 = .ok (.ireturn, 1) := by decide +kernel
theorem dX4_count_72 : decode cX4_count 72 = .ok (.aload_n 0, 1) := by decide +kernel
theorem dX4_count_73 : decode cX4_count 73 = .ok (.getfield 26, 3) := by decide +kernel
theorem dX4_count_76 : decode cX4_count 76 = .ok (.getfield 106, 3) := by decide +kernel
theorem dX4_count_79 : decode cX4_count 79 = .ok (.ireturn, 1) := by decide +kernel
theorem dX4_count_80 : decode cX4_count 80 = .ok (.aload_n 0, 1) := by decide +kernel
theorem dX4_count_81 : decode cX4_count 81 = .ok (.getfield 26, 3) := by decide +kernel
theorem dX4_count_84 : decode cX4_count 84 = .ok (.getfield 142, 3) := by decide +kernel
theorem dX4_count_87 : decode cX4_count 87 = .ok (.ireturn, 1) := by decide +kernel
theorem dX4_count_88 : decode cX4_count 88 = .ok (.aload_n 0, 1) := by decide +kernel
theorem dX4_count_89 : decode cX4_count 89 = .ok (.getfield 26, 3) := by decide +kernel
theorem dX4_count_92 : decode cX4_count 92 = .ok (.getfield 170, 3) := by decide +kernel
theorem dX4_count_95 : decode cX4_count 95 = .ok (.ireturn, 1) := by decide +kernel
theorem dX4_count_96 : decode cX4_count 96 = .ok (.aload_n 0, 1) := by decide +kernel
theorem dX4_count_97 : decode cX4_count 97 = .ok (.getfield 26, 3) := by decide +kernel
theorem dX4_count_100 : decode cX4_count 100 = .ok (.invokevirtual 166, 3) := by decide +kernel
theorem dX4_count_103 : decode cX4_count 103 = .ok (.ireturn, 1) := by decide +kernel
theorem dX4_count_104 : decode cX4_count 104 = .ok (.aload_n 0, 1) := by decide +kernel
theorem dX4_count_105 : decode cX4_count 105 = .ok (.getfield 10, 3) := by decide +kernel
theorem dX4_count_108 : decode cX4_count 108 = .ok (.getfield 48, 3) := by decide +kernel
theorem dX4_count_111 : decode cX4_count 111 = .ok (.ireturn, 1) := by decide +kernel
theorem dX4_count_112 : decode cX4_count 112 = .ok (.bipush (-3), 2) := by decide +kernel
theorem dX4_count_114 : decode cX4_count 114 = .ok (.ireturn, 1) := by decide +kernel
set_option maxRecDepth 20000 in
theorem ggX4_foretell_X1_copyFrom : GoodIn wsX4_foretell wsX1_copyFrom := goodIn_r _ [9, 10, 11, 12, 13, 14, 15, 16, 17, 18, 19, 20, 21, 22, 23, 82, 83, 84, 85, 86, 87, 88, 89, 90, 91] (by decide +kernel) (by decide +kernel)
set_option maxRecDepth 20000 in
theorem gX4_foretell_X1_copyFrom : GoodIn wsX4_foretell (wsV RX4 160 RX1 yX1_copyFrom wsX1_copyFrom) := goodIn_app (goodIn_of _ (by decide +kernel)) ggX4_foretell_X1_copyFrom
set_option maxRecDepth 20000 in
theorem ggX4_foretell_X1_passDays : GoodIn wsX4_foretell wsX1_passDays := goodIn_r _ [27, 10, 28, 29, 30, 8, 31, 17, 20, 18, 19, 32, 33, 34, 35, 36, 37, 38, 39, 40, 41, 42, 43, 44, 45, 46, 47, 48, 49, 50, 51, 52, 21, 53, 54, 55, 56, 11, 57, 58, 59, 60, 22, 61, 62, 63, 64, 23, 82, 83, 84, 85, 86, 87, 88, 89, 90, 91, 72, 73, 74, 75, 76, 77, 78, 79, 80, 81] (by decide +kernel) (by decide +kernel)
set_option maxRecDepth 20000 in
theorem gX4_foretell_X1_passDays : GoodIn wsX4_foretell (wsV RX4 148 RX1 yX1_passDays wsX1_passDays) := goodIn_app (goodIn_of _ (by decide +kernel)) ggX4_foretell_X1_passDays
theorem dX4_foretell_0 : decode cX4_foretell 0 = .ok (.aload_n 0, 1) := by decide +kernel
theorem dX4_foretell_1 : decode cX4_foretell 1 = .ok (.getfield 30, 3) := by decide +kernel
theorem dX4_foretell_4 : decode cX4_foretell 4 = .ok (.aload_n 0, 1) := by decide +kernel
theorem dX4_foretell_5 : decode cX4_foretell 5 = .ok (.getfield 26, 3) := by decide +kernel
theorem dX4_foretell_8 : decode cX4_foretell 8 = .ok (.invokevirtual 160, 3) := by decide +kernel
theorem dX4_foretell_11 : decode cX4_foretell 11 = .ok (.aload_n 0, 1) := by decide +kernel
theorem dX4_foretell_12 : decode cX4_foretell 12 = .ok (.getfield 30, 3) := by decide +kernel
theorem dX4_foretell_15 : decode cX4_foretell 15 = .ok (.aload_n 0, 1) := by decide +kernel
theorem dX4_foretell_16 : decode cX4_foretell 16 = .ok (.getfield 19, 3) := by decide +kernel
theorem dX4_foretell_19 : decode cX4_foretell 19 = .ok (.aload_n 0, 1) := by decide +kernel
theorem dX4_foretell_20 : decode cX4_foretell 20 = .ok (.getfield 19, 3) := by decide +kernel
theorem dX4_foretell_23 : decode cX4_foretell 23 = .ok (.getfield 145, 3) := by decide +kernel
theorem dX4_foretell_26 : decode cX4_foretell 26 = .ok (.iload_n 1, 1) := by decide +kernel
theorem dX4_foretell_27 : decode cX4_foretell 27 = .ok (.invokevirtual 148, 3) := by decide +kernel
theorem dX4_foretell_30 : decode cX4_foretell 30 = .ok (.return_, 1) := by decide +kernel
set_option maxRecDepth 20000 in
theorem ggX4_anyFails_X1_copyFrom : GoodIn wsX4_anyFails wsX1_copyFrom := goodIn_r _ [9, 10, 11, 12, 13, 14, 15, 16, 17, 18, 19, 20, 21, 22, 23, 72, 73, 74, 75, 76, 77, 78, 79, 80, 81] (by decide +kernel) (by decide +kernel)
set_option maxRecDepth 20000 in
theorem gX4_anyFails_X1_copyFrom : GoodIn wsX4_anyFails (wsV RX4 160 RX1 yX1_copyFrom wsX1_copyFrom) := goodIn_app (goodIn_of _ (by decide +kernel)) ggX4_anyFails_X1_copyFrom

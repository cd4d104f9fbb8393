set_option maxRecDepth 20000 in
theorem gX5_isTree_X5_in : GoodIn wsX5_isTree (va_wsS RX5 50 yX5_in wsX5_in) := goodIn_app (goodIn_sub (List.forall_mem_cons.mpr ⟨List.mem_cons_of_mem _ (List.mem_append_left _ (List.mem_of_getElem? (i := 1) rfl)), List.forall_mem_cons.mpr ⟨List.mem_cons_of_mem _ (List.mem_append_left _ (List.mem_of_getElem? (i := 2) rfl)), List.forall_mem_cons.mpr ⟨List.mem_cons_of_mem _ (List.mem_append_left _ (List.mem_of_getElem? (i := 3) rfl)), (fun _ h => absurd h List.not_mem_nil)⟩⟩⟩) (by decide +kernel)) ggX5_isTree_X5_in
theorem dX5_isTree_0 : decode cX5_isTree 0 = .ok (.iload_n 1, 1) := by decide +kernel
theorem dX5_isTree_1 : decode cX5_isTree 1 = .ok (.i2l, 1) := by decide +kernel
theorem dX5_isTree_2 : decode cX5_isTree 2 = .ok (.lconst 0, 1) := by decide +kernel
theorem dX5_isTree_3 : decode cX5_isTree 3 = .ok (.aload_n 0, 1) := by decide +kernel
theorem dX5_isTree_4 : decode cX5_isTree 4 = .ok (.getfield 115, 3) := by decide +kernel
theorem dX5_isTree_7 : decode cX5_isTree 7 = .ok (.iconst 1, 1) := by decide +kernel
theorem dX5_isTree_8 : decode cX5_isTree 8 = .ok (.isub, 1) := by decide +kernel
theorem dX5_isTree_9 : decode cX5_isTree 9 = .ok (.i2l, 1) := by decide +kernel
theorem dX5_isTree_10 : decode cX5_isTree 10 = .ok (.invokestatic 50, 3) := by decide +kernel
theorem dX5_isTree_13 : decode cX5_isTree 13 = .ok (.ireturn, 1) := by decide +kernel
theorem dX5_lives_0 : decode cX5_lives 0 = .ok (.aload_n 0, 1) := by decide +kernel
theorem dX5_lives_1 : decode cX5_lives 1 = .ok (.getfield 7, 3) := by decide +kernel
theorem dX5_lives_4 : decode cX5_lives 4 = .ok (.bipush 8, 2) := by decide +kernel
theorem dX5_lives_6 : decode cX5_lives 6 = .ok (.iload_n 1, 1) := by decide +kernel
theorem dX5_lives_7 : decode cX5_lives 7 = .ok (.iadd, 1) := by decide +kernel
theorem dX5_lives_8 : decode cX5_lives 8 = .ok (.iaload, 1) := by decide +kernel
theorem dX5_lives_9 : decode cX5_lives 9 = .ok (.ifCond .ne 7, 3) := by decide +kernel
theorem dX5_lives_12 : decode cX5_lives 12 = .ok (.iconst 1, 1) := by decide +kernel
theorem dX5_lives_13 : decode cX5_lives 13 = .ok (.goto 4, 3) := by decide +kernel
theorem dX5_lives_16 : decode cX5_lives 16 = .ok (.iconst 0, 1) := by decide +kernel
theorem dX5_lives_17 : decode cX5_lives 17 = .ok (.ireturn, 1) := by decide +kernel
theorem dX5_placeOf_0 : decode cX5_placeOf 0 = .ok (.iload_n 0, 1) := by decide +kernel
theorem dX5_placeOf_1 : decode cX5_placeOf 1 = .ok (.bipush 15, 2) := by decide +kernel
theorem dX5_placeOf_3 : decode cX5_placeOf 3 = .ok (.iadd, 1) := by decide +kernel
theorem dX5_placeOf_4 : decode cX5_placeOf 4 = .ok (.iconst 5, 1) := by decide +kernel
theorem dX5_placeOf_5 : decode cX5_placeOf 5 = .ok (.iload_n 1, 1) := by decide +kernel
theorem dX5_placeOf_6 : decode cX5_placeOf 6 = .ok (.imul, 1) := by decide +kernel
theorem dX5_placeOf_7 : decode cX5_placeOf 7 = .ok (.iadd, 1) := by decide +kernel
theorem dX5_placeOf_8 : decode cX5_placeOf 8 = .ok (.iload_n 2, 1) := by decide +kernel
theorem dX5_placeOf_9 : decode cX5_placeOf 9 = .ok (.iadd, 1) := by decide +kernel
theorem dX5_placeOf_10 : decode cX5_placeOf 10 = .ok (.ireturn, 1) := by decide +kernel
set_option maxRecDepth 20000 in
theorem ggX5_owedTo_X5_placeOf : GoodIn wsX5_owedTo wsX5_placeOf := goodIn_sub (List.forall_mem_cons.mpr ⟨List.mem_cons_of_mem _ (List.mem_append_left _ (List.mem_of_getElem? (i := 4) rfl)), (fun _ h => absurd h List.not_mem_nil)⟩) (by decide +kernel)
set_option maxRecDepth 20000 in
theorem gX5_owedTo_X5_placeOf : GoodIn wsX5_owedTo (va_wsS RX5 136 yX5_placeOf wsX5_placeOf) := goodIn_app (goodIn_sub (List.forall_mem_cons.mpr ⟨List.mem_cons_of_mem _ (List.mem_append_left _ (List.mem_of_getElem? (i := 1) rfl)), List.forall_mem_cons.mpr ⟨List.mem_cons_of_mem _ (List.mem_append_left _ (List.mem_of_getElem? (i := 2) rfl)), List.forall_mem_cons.mpr ⟨List.mem_cons_of_mem _ (List.mem_append_left _ (List.mem_of_getElem? (i := 3) rfl)), (fun _ h => absurd h List.not_mem_nil)⟩⟩⟩) (by decide +kernel)) ggX5_owedTo_X5_placeOf
theorem dX5_owedTo_0 : decode cX5_owedTo 0 = .ok (.iconst 0, 1) := by decide +kernel
theorem dX5_owedTo_1 : decode cX5_owedTo 1 = .ok (.istore_n 3, 1) := by decide +kernel
theorem dX5_owedTo_2 : decode cX5_owedTo 2 = .ok (.iconst 0, 1) := by decide +kernel
theorem dX5_owedTo_3 : decode cX5_owedTo 3 = .ok (.istore 4, 2) := by decide +kernel
theorem dX5_owedTo_5 : decode cX5_owedTo 5 = .ok (.iload 4, 2) := by decide +kernel
theorem dX5_owedTo_7 : decode cX5_owedTo 7 = .ok (.aload_n 0, 1) := by decide +kernel
theorem dX5_owedTo_8 : decode cX5_owedTo 8 = .ok (.getfield 7, 3) := by decide +kernel
theorem dX5_owedTo_11 : decode cX5_owedTo 11 = .ok (.iload_n 1, 1) := by decide +kernel
theorem dX5_owedTo_12 : decode cX5_owedTo 12 = .ok (.bipush 14, 2) := by decide +kernel
theorem dX5_owedTo_14 : decode cX5_owedTo 14 = .ok (.iadd, 1) := by decide +kernel
theorem dX5_owedTo_15 : decode cX5_owedTo 15 = .ok (.iaload, 1) := by decide +kernel
theorem dX5_owedTo_16 : decode cX5_owedTo 16 = .ok (.if_icmp .ge 44, 3) := by decide +kernel
theorem dX5_owedTo_19 : decode cX5_owedTo 19 = .ok (.iload_n 3, 1) := by decide +kernel
theorem dX5_owedTo_20 : decode cX5_owedTo 20 = .ok (.aload_n 0, 1) := by decide +kernel
theorem dX5_owedTo_21 : decode cX5_owedTo 21 = .ok (.getfield 7, 3) := by decide +kernel
theorem dX5_owedTo_24 : decode cX5_owedTo 24 = .ok (.iload_n 1, 1) := by decide +kernel
theorem dX5_owedTo_25 : decode cX5_owedTo 25 = .ok (.iload 4, 2) := by decide +kernel
theorem dX5_owedTo_27 : decode cX5_owedTo 27 = .ok (.iconst 0, 1) := by decide +kernel
theorem dX5_owedTo_28 : decode cX5_owedTo 28 = .ok (.invokestatic 136, 3) := by decide +kernel
theorem dX5_owedTo_31 : decode cX5_owedTo 31 = .ok (.iaload, 1) := by decide +kernel
theorem dX5_owedTo_32 : decode cX5_owedTo 32 = .ok (.iload_n 2, 1) := by decide +kernel
theorem dX5_owedTo_33 : decode cX5_owedTo 33 = .ok (.if_icmp .ne 18, 3) := by decide +kernel
theorem dX5_owedTo_36 : decode cX5_owedTo 36 = .ok (.aload_n 0, 1) := by decide +kernel
theorem dX5_owedTo_37 : decode cX5_owedTo 37 = .ok (.getfield 7, 3) := by decide +kernel
theorem dX5_owedTo_40 : decode cX5_owedTo 40 = .ok (.iload_n 1, 1) := by decide +kernel
theorem dX5_owedTo_41 : decode cX5_owedTo 41 = .ok (.iload 4, 2) := by decide +kernel
theorem dX5_owedTo_43 : decode cX5_owedTo 43 = .ok (.iconst 2, 1) := by decide +kernel
theorem dX5_owedTo_44 : decode cX5_owedTo 44 = .ok (.invokestatic 136, 3) := by decide +kernel
theorem dX5_owedTo_47 : decode cX5_owedTo 47 = .ok (.iaload, 1) := by decide +kernel
theorem dX5_owedTo_48 : decode cX5_owedTo 48 = .ok (.goto 4, 3) := by decide +kernel
theorem dX5_owedTo_51 : decode cX5_owedTo 51 = .ok (.iconst 0, 1) := by decide +kernel
theorem dX5_owedTo_52 : decode cX5_owedTo 52 = .ok (.iadd, 1) := by decide +kernel
theorem dX5_owedTo_53 : decode cX5_owedTo 53 = .ok (.istore_n 3, 1) := by decide +kernel
theorem dX5_owedTo_54 : decode cX5_owedTo 54 = .ok (.iinc 4 1, 3) := by decide +kernel
theorem dX5_owedTo_57 : decode cX5_owedTo 57 = .ok (.goto (-52), 3) := by decide +kernel
theorem dX5_owedTo_60 : decode cX5_owedTo 60 = .ok (.iload_n 3, 1) := by decide +kernel
theorem dX5_owedTo_61 : decode cX5_owedTo 61 = .ok (.ireturn, 1) := by decide +kernel
set_option maxRecDepth 20000 in
theorem ggX5_owedAll_X5_placeOf : GoodIn wsX5_owedAll wsX5_placeOf := goodIn_sub (List.forall_mem_cons.mpr ⟨List.mem_cons_of_mem _ (List.mem_append_left _ (List.mem_of_getElem? (i := 4) rfl)), (fun _ h => absurd h List.not_mem_nil)⟩) (by decide +kernel)
set_option maxRecDepth 20000 in
theorem gX5_owedAll_X5_placeOf : GoodIn wsX5_owedAll (va_wsS RX5 136 yX5_placeOf wsX5_placeOf) := goodIn_app (goodIn_sub (List.forall_mem_cons.mpr ⟨List.mem_cons_of_mem _ (List.mem_append_left _ (List.mem_of_getElem? (i := 1) rfl)), List.forall_mem_cons.mpr ⟨List.mem_cons_of_mem _ (List.mem_append_left _ (List.mem_of_getElem? (i := 2) rfl)), List.forall_mem_cons.mpr ⟨List.mem_cons_of_mem _ (List.mem_append_left _ (List.mem_of_getElem? (i := 3) rfl)), (fun _ h => absurd h List.not_mem_nil)⟩⟩⟩) (by decide +kernel)) ggX5_owedAll_X5_placeOf
theorem dX5_owedAll_0 : decode cX5_owedAll 0 = .ok (.iconst 0, 1) := by decide +kernel
theorem dX5_owedAll_1 : decode cX5_owedAll 1 = .ok (.istore_n 2, 1) := by decide +kernel
theorem dX5_owedAll_2 : decode cX5_owedAll 2 = .ok (.iconst 0, 1) := by decide +kernel
theorem dX5_owedAll_3 : decode cX5_owedAll 3 = .ok (.istore_n 3, 1) := by decide +kernel
theorem dX5_owedAll_4 : decode cX5_owedAll 4 = .ok (.iload_n 3, 1) := by decide +kernel
theorem dX5_owedAll_5 : decode cX5_owedAll 5 = .ok (.aload_n 0, 1) := by decide +kernel
theorem dX5_owedAll_6 : decode cX5_owedAll 6 = .ok (.getfield 7, 3) := by decide +kernel
theorem dX5_owedAll_9 : decode cX5_owedAll 9 = .ok (.iload_n 1, 1) := by decide +kernel
theorem dX5_owedAll_10 : decode cX5_owedAll 10 = .ok (.bipush 14, 2) := by decide +kernel
theorem dX5_owedAll_12 : decode cX5_owedAll 12 = .ok (.iadd, 1) := by decide +kernel
theorem dX5_owedAll_13 : decode cX5_owedAll 13 = .ok (.iaload, 1) := by decide +kernel
theorem dX5_owedAll_14 : decode cX5_owedAll 14 = .ok (.if_icmp .ge 23, 3) := by decide +kernel
theorem dX5_owedAll_17 : decode cX5_owedAll 17 = .ok (.iload_n 2, 1) := by decide +kernel
theorem dX5_owedAll_18 : decode cX5_owedAll 18 = .ok (.aload_n 0, 1) := by decide +kernel
theorem dX5_owedAll_19 : decode cX5_owedAll 19 = .ok (.getfield 7, 3) := by decide +kernel
theorem dX5_owedAll_22 : decode cX5_owedAll 22 = .ok (.iload_n 1, 1) := by decide +kernel
theorem dX5_owedAll_23 : decode cX5_owedAll 23 = .ok (.iload_n 3, 1) := by decide +kernel
theorem dX5_owedAll_24 : decode cX5_owedAll 24 = .ok (.iconst 2, 1) := by decide +kernel
theorem dX5_owedAll_25 : decode cX5_owedAll 25 = .ok (.invokestatic 136, 3) := by decide +kernel
theorem dX5_owedAll_28 : decode cX5_owedAll 28 = .ok (.iaload, 1) := by decide +kernel
theorem dX5_owedAll_29 : decode cX5_owedAll 29 = .ok (.iadd, 1) := by decide +kernel
theorem dX5_owedAll_30 : decode cX5_owedAll 30 = .ok (.istore_n 2, 1) := by decide +kernel
theorem dX5_owedAll_31 : decode cX5_owedAll 31 = .ok (.iinc 3 1, 3) := by decide +kernel
theorem dX5_owedAll_34 : decode cX5_owedAll 34 = .ok (.goto (-30), 3) := by decide +kernel
theorem dX5_owedAll_37 : decode cX5_owedAll 37 = .ok (.iload_n 2, 1) := by decide +kernel
theorem dX5_owedAll_38 : decode cX5_owedAll 38 = .ok (.ireturn, 1) := by decide +kernel
set_option maxRecDepth 20000 in
theorem ggX5_isCross_X5_owedTo : GoodIn wsX5_isCross wsX5_owedTo := goodIn_sub (List.forall_mem_cons.mpr ⟨List.mem_cons_of_mem _ (List.mem_append_left _ (List.mem_of_getElem? (i := 6) rfl)), List.forall_mem_append.mpr ⟨List.forall_mem_cons.mpr ⟨List.mem_cons_of_mem _ (List.mem_append_left _ (List.mem_of_getElem? (i := 7) rfl)), List.forall_mem_cons.mpr ⟨List.mem_cons_of_mem _ (List.mem_append_left _ (List.mem_of_getElem? (i := 8) rfl)), List.forall_mem_cons.mpr ⟨List.mem_cons_of_mem _ (List.mem_append_left _ (List.mem_of_getElem? (i := 9) rfl)), List.forall_mem_cons.mpr ⟨List.mem_cons_of_mem _ (List.mem_append_left _ (List.mem_of_getElem? (i := 5) rfl)), List.forall_mem_cons.mpr ⟨List.mem_cons_of_mem _ (List.mem_append_left _ (List.mem_of_getElem? (i := 10) rfl)), (fun _ h => absurd h List.not_mem_nil)⟩⟩⟩⟩⟩, (fun _ h => List.mem_cons_of_mem _ (List.mem_append_right _ (h)))⟩⟩) (by decide +kernel)
set_option maxRecDepth 20000 in
theorem gX5_isCross_X5_owedTo : GoodIn wsX5_isCross (wsV RX5 140 RX5 yX5_owedTo wsX5_owedTo) := goodIn_app (goodIn_sub (List.forall_mem_cons.mpr ⟨List.mem_cons_of_mem _ (List.mem_append_left _ (List.mem_of_getElem? (i := 2) rfl)), List.forall_mem_cons.mpr ⟨List.mem_cons_of_mem _ (List.mem_append_left _ (List.mem_of_getElem? (i := 3) rfl)), List.forall_mem_cons.mpr ⟨List.mem_cons_of_mem _ (List.mem_append_left _ (List.mem_of_getElem? (i := 4) rfl)), List.forall_mem_cons.mpr ⟨List.mem_cons_of_mem _ (List.mem_append_left _ (List.mem_of_getElem? (i := 5) rfl)), (fun _ h => absurd h List.not_mem_nil)⟩⟩⟩⟩) (by decide +kernel)) ggX5_isCross_X5_owedTo
theorem dX5_isCross_0 : decode cX5_isCross 0 = .ok (.iconst 0, 1) := by decide +kernel
theorem dX5_isCross_1 : decode cX5_isCross 1 = .ok (.istore_n 2, 1) := by decide +kernel
theorem dX5_isCross_2 : decode cX5_isCross 2 = .ok (.iconst 0, 1) := by decide +kernel
theorem dX5_isCross_3 : decode cX5_isCross 3 = .ok (.istore_n 3, 1) := by decide +kernel
theorem dX5_isCross_4 : decode cX5_isCross 4 = .ok (.iload_n 3, 1) := by decide +kernel
theorem dX5_isCross_5 : decode cX5_isCross 5 = .ok (.iconst 2, 1) := by decide +kernel
theorem dX5_isCross_6 : decode cX5_isCross 6 = .ok (.aload_n 0, 1) := by decide +kernel
theorem dX5_isCross_7 : decode cX5_isCross 7 = .ok (.getfield 118, 3) := by decide +kernel
theorem dX5_isCross_10 : decode cX5_isCross 10 = .ok (.imul, 1) := by decide +kernel
theorem dX5_isCross_11 : decode cX5_isCross 11 = .ok (.if_icmp .ge 67, 3) := by decide +kernel
theorem dX5_isCross_14 : decode cX5_isCross 14 = .ok (.aload_n 0, 1) := by decide +kernel
theorem dX5_isCross_15 : decode cX5_isCross 15 = .ok (.getfield 35, 3) := by decide +kernel
theorem dX5_isCross_18 : decode cX5_isCross 18 = .ok (.iload_n 3, 1) := by decide +kernel
theorem dX5_isCross_19 : decode cX5_isCross 19 = .ok (.iconst 2, 1) := by decide +kernel
theorem dX5_isCross_20 : decode cX5_isCross 20 = .ok (.irem, 1) := by decide +kernel
theorem dX5_isCross_21 : decode cX5_isCross 21 = .ok (.ifCond .ne 9, 3) := by decide +kernel
theorem dX5_isCross_24 : decode cX5_isCross 24 = .ok (.iload_n 3, 1) := by decide +kernel
theorem dX5_isCross_25 : decode cX5_isCross 25 = .ok (.iconst 1, 1) := by decide +kernel
theorem dX5_isCross_26 : decode cX5_isCross 26 = .ok (.iadd, 1) := by decide +kernel
theorem dX5_isCross_27 : decode cX5_isCross 27 = .ok (.goto 6, 3) := by decide +kernel
theorem dX5_isCross_30 : decode cX5_isCross 30 = .ok (.iload_n 3, 1) := by decide +kernel
theorem dX5_isCross_31 : decode cX5_isCross 31 = .ok (.iconst 1, 1) := by decide +kernel
theorem dX5_isCross_32 : decode cX5_isCross 32 = .ok (.isub, 1) := by decide +kernel
theorem dX5_isCross_33 : decode cX5_isCross 33 = .ok (.iaload, 1) := by decide +kernel
theorem dX5_isCross_34 : decode cX5_isCross 34 = .ok (.istore 4, 2) := by decide +kernel
theorem dX5_isCross_36 : decode cX5_isCross 36 = .ok (.iload_n 2, 1) := by decide +kernel
theorem dX5_isCross_37 : decode cX5_isCross 37 = .ok (.ifCond .ne 29, 3) := by decide +kernel
theorem dX5_isCross_40 : decode cX5_isCross 40 = .ok (.aload_n 0, 1) := by decide +kernel
theorem dX5_isCross_41 : decode cX5_isCross 41 = .ok (.getfield 35, 3) := by decide +kernel
theorem dX5_isCross_44 : decode cX5_isCross 44 = .ok (.iload_n 3, 1) := by decide +kernel
theorem dX5_isCross_45 : decode cX5_isCross 45 = .ok (.iaload, 1) := by decide +kernel
theorem dX5_isCross_46 : decode cX5_isCross 46 = .ok (.iload_n 1, 1) := by decide +kernel
theorem dX5_isCross_47 : decode cX5_isCross 47 = .ok (.if_icmp .ne 23, 3) := by decide +kernel
theorem dX5_isCross_50 : decode cX5_isCross 50 = .ok (.aload_n 0, 1) := by decide +kernel
theorem dX5_isCross_51 : decode cX5_isCross 51 = .ok (.iconst 0, 1) := by decide +kernel
theorem dX5_isCross_52 : decode cX5_isCross 52 = .ok (.iload 4, 2) := by decide +kernel
theorem dX5_isCross_54 : decode cX5_isCross 54 = .ok (.invokevirtual 140, 3) := by decide +kernel
theorem dX5_isCross_57 : decode cX5_isCross 57 = .ok (.aload_n 0, 1) := by decide +kernel
theorem dX5_isCross_58 : decode cX5_isCross 58 = .ok (.iconst 0, 1) := by decide +kernel
theorem dX5_isCross_59 : decode cX5_isCross 59 = .ok (.iload_n 1, 1) := by decide +kernel
theorem dX5_isCross_60 : decode cX5_isCross 60 = .ok (.invokevirtual 140, 3) := by decide +kernel
theorem dX5_isCross_63 : decode cX5_isCross 63 = .ok (.if_icmp .le 7, 3) := by decide +kernel
theorem dX5_isCross_66 : decode cX5_isCross 66 = .ok (.iconst 1, 1) := by decide +kernel
theorem dX5_isCross_67 : decode cX5_isCross 67 = .ok (.goto 4, 3) := by decide +kernel
theorem dX5_isCross_70 : decode cX5_isCross 70 = .ok (.iconst 0, 1) := by decide +kernel
theorem dX5_isCross_71 : decode cX5_isCross 71 = .ok (.istore_n 2, 1) := by decide +kernel
theorem dX5_isCross_72 : decode cX5_isCross 72 = .ok (.iinc 3 1, 3) := by decide +kernel
theorem dX5_isCross_75 : decode cX5_isCross 75 = .ok (.goto (-71), 3) := by decide +kernel
theorem dX5_isCross_78 : decode cX5_isCross 78 = .ok (.iload_n 2, 1) := by decide +kernel
theorem dX5_isCross_79 : decode cX5_isCross 79 = .ok (.ireturn, 1) := by decide +kernel
set_option maxRecDepth 20000 in
theorem ggX5_lends_X5_lives : GoodIn wsX5_lends wsX5_lives := goodIn_sub (List.forall_mem_cons.mpr ⟨List.mem_cons_of_mem _ (List.mem_append_left _ (List.mem_of_getElem? (i := 4) rfl)), List.forall_mem_append.mpr ⟨List.forall_mem_cons.mpr ⟨List.mem_cons_of_mem _ (List.mem_append_left _ (List.mem_of_getElem? (i := 5) rfl)), (fun _ h => absurd h List.not_mem_nil)⟩, (fun _ h => List.mem_cons_of_mem _ (List.mem_append_right _ (h)))⟩⟩) (by decide +kernel)
set_option maxRecDepth 20000 in
theorem gX5_lends_X5_lives : GoodIn wsX5_lends (wsV RX5 144 RX5 yX5_lives wsX5_lives) := goodIn_app (goodIn_sub (List.forall_mem_cons.mpr ⟨List.mem_cons_of_mem _ (List.mem_append_left _ (List.mem_of_getElem? (i := 0) rfl)), List.forall_mem_cons.mpr ⟨List.mem_cons_of_mem _ (List.mem_append_left _ (List.mem_of_getElem? (i := 1) rfl)), List.forall_mem_cons.mpr ⟨List.mem_cons_of_mem _ (List.mem_append_left _ (List.mem_of_getElem? (i := 2) rfl)), List.forall_mem_cons.mpr ⟨List.mem_cons_of_mem _ (List.mem_append_left _ (List.mem_of_getElem? (i := 3) rfl)), (fun _ h => absurd h List.not_mem_nil)⟩⟩⟩⟩) (by decide +kernel)) ggX5_lends_X5_lives
set_option maxRecDepth 20000 in
theorem ggX5_lends_X5_isCross : GoodIn wsX5_lends wsX5_isCross := goodIn_sub (List.forall_mem_cons.mpr ⟨List.mem_cons_of_mem _ (List.mem_append_left _ (List.mem_of_getElem? (i := 9) rfl)), List.forall_mem_append.mpr ⟨List.forall_mem_cons.mpr ⟨List.mem_cons_of_mem _ (List.mem_append_left _ (List.mem_of_getElem? (i := 10) rfl)), List.forall_mem_cons.mpr ⟨List.mem_cons_of_mem _ (List.mem_append_left _ (List.mem_of_getElem? (i := 11) rfl)), List.forall_mem_cons.mpr ⟨List.mem_cons_of_mem _ (List.mem_append_left _ (List.mem_of_getElem? (i := 12) rfl)), List.forall_mem_cons.mpr ⟨List.mem_cons_of_mem _ (List.mem_append_left _ (List.mem_of_getElem? (i := 13) rfl)), List.forall_mem_cons.mpr ⟨List.mem_cons_of_mem _ (List.mem_append_left _ (List.mem_of_getElem? (i := 14) rfl)), List.forall_mem_cons.mpr ⟨List.mem_cons_of_mem _ (List.mem_append_left _ (List.mem_of_getElem? (i := 3) rfl)), List.forall_mem_cons.mpr ⟨List.mem_cons_of_mem _ (List.mem_append_left _ (List.mem_of_getElem? (i := 15) rfl)), List.forall_mem_cons.mpr ⟨List.mem_cons_of_mem _ (List.mem_append_left _ (List.mem_of_getElem? (i := 5) rfl)), List.forall_mem_cons.mpr ⟨List.mem_cons_of_mem _ (List.mem_append_left _ (List.mem_of_getElem? (i := 16) rfl)), List.forall_mem_cons.mpr ⟨List.mem_cons_of_mem _ (List.mem_append_left _ (List.mem_of_getElem? (i := 17) rfl)), List.forall_mem_cons.mpr ⟨List.mem_cons_of_mem _ (List.mem_append_left _ (List.mem_of_getElem? (i := 18) rfl)), (fun _ h => absurd h List.not_mem_nil)⟩⟩⟩⟩⟩⟩⟩⟩⟩⟩⟩, (fun _ h => List.mem_cons_of_mem _ (List.mem_append_right _ (h)))⟩⟩) (by decide +kernel)
set_option maxRecDepth 20000 in
theorem gX5_lends_X5_isCross : GoodIn wsX5_lends (wsV RX5 147 RX5 yX5_isCross wsX5_isCross) := goodIn_app (goodIn_sub (List.forall_mem_cons.mpr ⟨List.mem_cons_of_mem _ (List.mem_append_left _ (List.mem_of_getElem? (i := 6) rfl)), List.forall_mem_cons.mpr ⟨List.mem_cons_of_mem _ (List.mem_append_left _ (List.mem_of_getElem? (i := 7) rfl)), List.forall_mem_cons.mpr ⟨List.mem_cons_of_mem _ (List.mem_append_left _ (List.mem_of_getElem? (i := 8) rfl)), List.forall_mem_cons.mpr ⟨List.mem_cons_of_mem _ (List.mem_append_left _ (List.mem_of_getElem? (i := 3) rfl)), (fun _ h => absurd h List.not_mem_nil)⟩⟩⟩⟩) (by decide +kernel)) ggX5_lends_X5_isCross
theorem dX5_lends_0 : decode cX5_lends 0 = .ok (.aload_n 0, 1) := by decide +kernel
theorem dX5_lends_1 : decode cX5_lends 1 = .ok (.iload_n 1, 1) := by decide +kernel
theorem dX5_lends_2 : decode cX5_lends 2 = .ok (.invokevirtual 144, 3) := by decide +kernel
theorem dX5_lends_5 : decode cX5_lends 5 = .ok (.ifCond .eq 15, 3) := by decide +kernel
theorem dX5_lends_8 : decode cX5_lends 8 = .ok (.aload_n 0, 1) := by decide +kernel
theorem dX5_lends_9 : decode cX5_lends 9 = .ok (.iload_n 1, 1) := by decide +kernel
theorem dX5_lends_10 : decode cX5_lends 10 = .ok (.invokevirtual 147, 3) := by decide +kernel
theorem dX5_lends_13 : decode cX5_lends 13 = .ok (.ifCond .ne 7, 3) := by decide +kernel
theorem dX5_lends_16 : decode cX5_lends 16 = .ok (.iconst 1, 1) := by decide +kernel
theorem dX5_lends_17 : decode cX5_lends 17 = .ok (.goto 4, 3) := by decide +kernel
theorem dX5_lends_20 : decode cX5_lends 20 = .ok (.iconst 0, 1) := by decide +kernel
theorem dX5_lends_21 : decode cX5_lends 21 = .ok (.ireturn, 1) := by decide +kernel
theorem dX5_grown_0 : decode cX5_grown 0 = .ok (.aload_n 0, 1) := by decide +kernel
theorem dX5_grown_1 : decode cX5_grown 1 = .ok (.getfield 23, 3) := by decide +kernel
theorem dX5_grown_4 : decode cX5_grown 4 = .ok (.iload_n 1, 1) := by decide +kernel
theorem dX5_grown_5 : decode cX5_grown 5 = .ok (.iaload, 1) := by decide +kernel
theorem dX5_grown_6 : decode cX5_grown 6 = .ok (.iconst 2, 1) := by decide +kernel
theorem dX5_grown_7 : decode cX5_grown 7 = .ok (.if_icmp .ne 14, 3) := by decide +kernel
theorem dX5_grown_10 : decode cX5_grown 10 = .ok (.aload_n 0, 1) := by decide +kernel
theorem dX5_grown_11 : decode cX5_grown 11 = .ok (.getfield 26, 3) := by decide +kernel
theorem dX5_grown_14 : decode cX5_grown 14 = .ok (.iload_n 1, 1) := by decide +kernel
theorem dX5_grown_15 : decode cX5_grown 15 = .ok (.iaload, 1) := by decide +kernel
theorem dX5_grown_16 : decode cX5_grown 16 = .ok (.iconst 2, 1) := by decide +kernel
theorem dX5_grown_17 : decode cX5_grown 17 = .ok (.idiv, 1) := by decide +kernel
theorem dX5_grown_18 : decode cX5_grown 18 = .ok (.goto 9, 3) := by decide +kernel
theorem dX5_grown_21 : decode cX5_grown 21 = .ok (.aload_n 0, 1) := by decide +kernel
theorem dX5_grown_22 : decode cX5_grown 22 = .ok (.getfield 26, 3) := by decide +kernel
theorem dX5_grown_25 : decode cX5_grown 25 = .ok (.iload_n 1, 1) := by decide +kernel
theorem dX5_grown_26 : decode cX5_grown 26 = .ok (.iaload, 1) := by decide +kernel
theorem dX5_grown_27 : decode cX5_grown 27 = .ok (.istore 4, 2) := by decide +kernel
theorem dX5_grown_29 : decode cX5_grown 29 = .ok (.aload_n 0, 1) := by decide +kernel
theorem dX5_grown_30 : decode cX5_grown 30 = .ok (.getfield 23, 3) := by decide +kernel
theorem dX5_grown_33 : decode cX5_grown 33 = .ok (.iload_n 1, 1) := by decide +kernel
theorem dX5_grown_34 : decode cX5_grown 34 = .ok (.iaload, 1) := by decide +kernel
theorem dX5_grown_35 : decode cX5_grown 35 = .ok (.iconst 3, 1) := by decide +kernel
theorem dX5_grown_36 : decode cX5_grown 36 = .ok (.if_icmp .ne 12, 3) := by decide +kernel
theorem dX5_grown_39 : decode cX5_grown 39 = .ok (.iload_n 2, 1) := by decide +kernel
theorem dX5_grown_40 : decode cX5_grown 40 = .ok (.iload 4, 2) := by decide +kernel
theorem dX5_grown_42 : decode cX5_grown 42 = .ok (.iload_n 3, 1) := by decide +kernel
theorem dX5_grown_43 : decode cX5_grown 43 = .ok (.imul, 1) := by decide +kernel
theorem dX5_grown_44 : decode cX5_grown 44 = .ok (.iadd, 1) := by decide +kernel
theorem dX5_grown_45 : decode cX5_grown 45 = .ok (.goto 12, 3) := by decide +kernel
theorem dX5_grown_48 : decode cX5_grown 48 = .ok (.iload_n 2, 1) := by decide +kernel
theorem dX5_grown_49 : decode cX5_grown 49 = .ok (.iload_n 2, 1) := by decide +kernel
theorem dX5_grown_50 : decode cX5_grown 50 = .ok (.iload 4, 2) := by decide +kernel
theorem dX5_grown_52 : decode cX5_grown 52 = .ok (.imul, 1) := by decide +kernel
theorem dX5_grown_53 : decode cX5_grown 53 = .ok (.bipush 100, 2) := by decide +kernel
theorem dX5_grown_55 : decode cX5_grown 55 = .ok (.idiv, 1) := by decide +kernel
theorem dX5_grown_56 : decode cX5_grown 56 = .ok (.iadd, 1) := by decide +kernel
theorem dX5_grown_57 : decode cX5_grown 57 = .ok (.istore 5, 2) := by decide +kernel
theorem dX5_grown_59 : decode cX5_grown 59 = .ok (.iload 5, 2) := by decide +kernel
theorem dX5_grown_61 : decode cX5_grown 61 = .ok (.ldc 150, 2) := by decide +kernel
theorem dX5_grown_63 : decode cX5_grown 63 = .ok (.if_icmp .le 8, 3) := by decide +kernel
theorem dX5_grown_66 : decode cX5_grown 66 = .ok (.ldc 150, 2) := by decide +kernel
theorem dX5_grown_68 : decode cX5_grown 68 = .ok (.goto 5, 3) := by decide +kernel
theorem dX5_grown_71 : decode cX5_grown 71 = .ok (.iload 5, 2) := by decide +kernel
theorem dX5_grown_73 : decode cX5_grown 73 = .ok (.ireturn, 1) := by decide +kernel
set_option maxRecDepth 20000 in
theorem ggX5_remove_X5_placeOf : GoodIn wsX5_remove wsX5_placeOf := goodIn_sub (List.forall_mem_cons.mpr ⟨List.mem_cons_of_mem _ (List.mem_append_left _ (List.mem_of_getElem? (i := 4) rfl)), (fun _ h => absurd h List.not_mem_nil)⟩) (by decide +kernel)
set_option maxRecDepth 20000 in
theorem gX5_remove_X5_placeOf : GoodIn wsX5_remove (va_wsS RX5 136 yX5_placeOf wsX5_placeOf) := goodIn_app (goodIn_sub (List.forall_mem_cons.mpr ⟨List.mem_cons_of_mem _ (List.mem_append_left _ (List.mem_of_getElem? (i := 1) rfl)), List.forall_mem_cons.mpr ⟨List.mem_cons_of_mem _ (List.mem_append_left _ (List.mem_of_getElem? (i := 2) rfl)), List.forall_mem_cons.mpr ⟨List.mem_cons_of_mem _ (List.mem_append_left _ (List.mem_of_getElem? (i := 3) rfl)), (fun _ h => absurd h List.not_mem_nil)⟩⟩⟩) (by decide +kernel)) ggX5_remove_X5_placeOf
theorem dX5_remove_0 : decode cX5_remove 0 = .ok (.aload_n 0, 1) := by decide +kernel
theorem dX5_remove_1 : decode cX5_remove 1 = .ok (.getfield 7, 3) := by decide +kernel
theorem dX5_remove_4 : decode cX5_remove 4 = .ok (.iload_n 1, 1) := by decide +kernel
theorem dX5_remove_5 : decode cX5_remove 5 = .ok (.bipush 14, 2) := by decide +kernel
theorem dX5_remove_7 : decode cX5_remove 7 = .ok (.iadd, 1) := by decide +kernel
theorem dX5_remove_8 : decode cX5_remove 8 = .ok (.dup2, 1) := by decide +kernel
theorem dX5_remove_9 : decode cX5_remove 9 = .ok (.iaload, 1) := by decide +kernel
theorem dX5_remove_10 : decode cX5_remove 10 = .ok (.iconst 1, 1) := by decide +kernel
theorem dX5_remove_11 : decode cX5_remove 11 = .ok (.isub, 1) := by decide +kernel
theorem dX5_remove_12 : decode cX5_remove 12 = .ok (.iastore, 1) := by decide +kernel
theorem dX5_remove_13 : decode cX5_remove 13 = .ok (.iload_n 1, 1) := by decide +kernel
theorem dX5_remove_14 : decode cX5_remove 14 = .ok (.iload_n 2, 1) := by decide +kernel
theorem dX5_remove_15 : decode cX5_remove 15 = .ok (.iconst 0, 1) := by decide +kernel
theorem dX5_remove_16 : decode cX5_remove 16 = .ok (.invokestatic 136, 3) := by decide +kernel
theorem dX5_remove_19 : decode cX5_remove 19 = .ok (.istore_n 3, 1) := by decide +kernel
theorem dX5_remove_20 : decode cX5_remove 20 = .ok (.iload_n 3, 1) := by decide +kernel
theorem dX5_remove_21 : decode cX5_remove 21 = .ok (.iload_n 1, 1) := by decide +kernel
theorem dX5_remove_22 : decode cX5_remove 22 = .ok (.aload_n 0, 1) := by decide +kernel
theorem dX5_remove_23 : decode cX5_remove 23 = .ok (.getfield 7, 3) := by decide +kernel
theorem dX5_remove_26 : decode cX5_remove 26 = .ok (.iload_n 1, 1) := by decide +kernel
theorem dX5_remove_27 : decode cX5_remove 27 = .ok (.bipush 14, 2) := by decide +kernel
theorem dX5_remove_29 : decode cX5_remove 29 = .ok (.iadd, 1) := by decide +kernel
theorem dX5_remove_30 : decode cX5_remove 30 = .ok (.iaload, 1) := by decide +kernel
theorem dX5_remove_31 : decode cX5_remove 31 = .ok (.iconst 0, 1) := by decide +kernel
theorem dX5_remove_32 : decode cX5_remove 32 = .ok (.invokestatic 136, 3) := by decide +kernel
theorem dX5_remove_35 : decode cX5_remove 35 = .ok (.if_icmp .ge 23, 3) := by decide +kernel
theorem dX5_remove_38 : decode cX5_remove 38 = .ok (.aload_n 0, 1) := by decide +kernel
theorem dX5_remove_39 : decode cX5_remove 39 = .ok (.getfield 7, 3) := by decide +kernel
theorem dX5_remove_42 : decode cX5_remove 42 = .ok (.iload_n 3, 1) := by decide +kernel
theorem dX5_remove_43 : decode cX5_remove 43 = .ok (.aload_n 0, 1) := by decide +kernel
theorem dX5_remove_44 : decode cX5_remove 44 = .ok (.getfield 7, 3) := by decide +kernel
theorem dX5_remove_47 : decode cX5_remove 47 = .ok (.iload_n 3, 1) := by decide +kernel
theorem dX5_remove_48 : decode cX5_remove 48 = .ok (.iconst 5, 1) := by decide +kernel
theorem dX5_remove_49 : decode cX5_remove 49 = .ok (.iadd, 1) := by decide +kernel
theorem dX5_remove_50 : decode cX5_remove 50 = .ok (.iaload, 1) := by decide +kernel
theorem dX5_remove_51 : decode cX5_remove 51 = .ok (.iastore, 1) := by decide +kernel
theorem dX5_remove_52 : decode cX5_remove 52 = .ok (.iinc 3 1, 3) := by decide +kernel
theorem dX5_remove_55 : decode cX5_remove 55 = .ok (.goto (-35), 3) := by decide +kernel
theorem dX5_remove_58 : decode cX5_remove 58 = .ok (.return_, 1) := by decide +kernel
theorem dX5_few_0 : decode cX5_few 0 = .ok (.iload_n 0, 1) := by decide +kernel
theorem dX5_few_1 : decode cX5_few 1 = .ok (.bipush 99, 2) := by decide +kernel
theorem dX5_few_3 : decode cX5_few 3 = .ok (.if_icmp .le 8, 3) := by decide +kernel
theorem dX5_few_6 : decode cX5_few 6 = .ok (.bipush 99, 2) := by decide +kernel
theorem dX5_few_8 : decode cX5_few 8 = .ok (.goto 4, 3) := by decide +kernel
theorem dX5_few_11 : decode cX5_few 11 = .ok (.iload_n 0, 1) := by decide +kernel
theorem dX5_few_12 : decode cX5_few 12 = .ok (.ireturn, 1) := by decide +kernel
set_option maxRecDepth 20000 in
theorem ggX5_firstDue_X5_placeOf : GoodIn wsX5_firstDue wsX5_placeOf := goodIn_sub (List.forall_mem_cons.mpr ⟨List.mem_cons_of_mem _ (List.mem_append_left _ (List.mem_of_getElem? (i := 4) rfl)), (fun _ h => absurd h List.not_mem_nil)⟩) (by decide +kernel)
set_option maxRecDepth 20000 in
theorem gX5_firstDue_X5_placeOf : GoodIn wsX5_firstDue (va_wsS RX5 136 yX5_placeOf wsX5_placeOf) := goodIn_app (goodIn_sub (List.forall_mem_cons.mpr ⟨List.mem_cons_of_mem _ (List.mem_append_left _ (List.mem_of_getElem? (i := 1) rfl)), List.forall_mem_cons.mpr ⟨List.mem_cons_of_mem _ (List.mem_append_left _ (List.mem_of_getElem? (i := 2) rfl)), List.forall_mem_cons.mpr ⟨List.mem_cons_of_mem _ (List.mem_append_left _ (List.mem_of_getElem? (i := 3) rfl)), (fun _ h => absurd h List.not_mem_nil)⟩⟩⟩) (by decide +kernel)) ggX5_firstDue_X5_placeOf
theorem dX5_firstDue_0 : decode cX5_firstDue 0 = .ok (.iconst (-1), 1) := by decide +kernel
theorem dX5_firstDue_1 : decode cX5_firstDue 1 = .ok (.istore_n 2, 1) := by decide +kernel
theorem dX5_firstDue_2 : decode cX5_firstDue 2 = .ok (.iconst 0, 1) := by decide +kernel
theorem dX5_firstDue_3 : decode cX5_firstDue 3 = .ok (.istore_n 3, 1) := by decide +kernel
theorem dX5_firstDue_4 : decode cX5_firstDue 4 = .ok (.iload_n 3, 1) := by decide +kernel
theorem dX5_firstDue_5 : decode cX5_firstDue 5 = .ok (.aload_n 0, 1) := by decide +kernel
theorem dX5_firstDue_6 : decode cX5_firstDue 6 = .ok (.getfield 7, 3) := by decide +kernel
theorem dX5_firstDue_9 : decode cX5_firstDue 9 = .ok (.iload_n 1, 1) := by decide +kernel
theorem dX5_firstDue_10 : decode cX5_firstDue 10 = .ok (.bipush 14, 2) := by decide +kernel
theorem dX5_firstDue_12 : decode cX5_firstDue 12 = .ok (.iadd, 1) := by decide +kernel
theorem dX5_firstDue_13 : decode cX5_firstDue 13 = .ok (.iaload, 1) := by decide +kernel
theorem dX5_firstDue_14 : decode cX5_firstDue 14 = .ok (.if_icmp .ge 45, 3) := by decide +kernel
theorem dX5_firstDue_17 : decode cX5_firstDue 17 = .ok (.iload_n 2, 1) := by decide +kernel
theorem dX5_firstDue_18 : decode cX5_firstDue 18 = .ok (.iconst (-1), 1) := by decide +kernel
theorem dX5_firstDue_19 : decode cX5_firstDue 19 = .ok (.if_icmp .eq 28, 3) := by decide +kernel
theorem dX5_firstDue_22 : decode cX5_firstDue 22 = .ok (.aload_n 0, 1) := by decide +kernel
theorem dX5_firstDue_23 : decode cX5_firstDue 23 = .ok (.getfield 7, 3) := by decide +kernel
theorem dX5_firstDue_26 : decode cX5_firstDue 26 = .ok (.iload_n 1, 1) := by decide +kernel
theorem dX5_firstDue_27 : decode cX5_firstDue 27 = .ok (.iload_n 3, 1) := by decide +kernel
theorem dX5_firstDue_28 : decode cX5_firstDue 28 = .ok (.iconst 3, 1) := by decide +kernel
theorem dX5_firstDue_29 : decode cX5_firstDue 29 = .ok (.invokestatic 136, 3) := by decide +kernel
theorem dX5_firstDue_32 : decode cX5_firstDue 32 = .ok (.iaload, 1) := by decide +kernel
theorem dX5_firstDue_33 : decode cX5_firstDue 33 = .ok (.aload_n 0, 1) := by decide +kernel
theorem dX5_firstDue_34 : decode cX5_firstDue 34 = .ok (.getfield 7, 3) := by decide +kernel
theorem dX5_firstDue_37 : decode cX5_firstDue 37 = .ok (.iload_n 1, 1) := by decide +kernel
theorem dX5_firstDue_38 : decode cX5_firstDue 38 = .ok (.iload_n 2, 1) := by decide +kernel
theorem dX5_firstDue_39 : decode cX5_firstDue 39 = .ok (.iconst 3, 1) := by decide +kernel
theorem dX5_firstDue_40 : decode cX5_firstDue 40 = .ok (.invokestatic 136, 3) := by decide +kernel
theorem dX5_firstDue_43 : decode cX5_firstDue 43 = .ok (.iaload, 1) := by decide +kernel
theorem dX5_firstDue_44 : decode cX5_firstDue 44 = .ok (.if_icmp .ge 7, 3) := by decide +kernel
theorem dX5_firstDue_47 : decode cX5_firstDue 47 = .ok (.iload_n 3, 1) := by decide +kernel
theorem dX5_firstDue_48 : decode cX5_firstDue 48 = .ok (.goto 4, 3) := by decide +kernel
theorem dX5_firstDue_51 : decode cX5_firstDue 51 = .ok (.iload_n 2, 1) := by decide +kernel
theorem dX5_firstDue_52 : decode cX5_firstDue 52 = .ok (.istore_n 2, 1) := by decide +kernel
theorem dX5_firstDue_53 : decode cX5_firstDue 53 = .ok (.iinc 3 1, 3) := by decide +kernel
theorem dX5_firstDue_56 : decode cX5_firstDue 56 = .ok (.goto (-52), 3) := by decide +kernel
theorem dX5_firstDue_59 : decode cX5_firstDue 59 = .ok (.iload_n 2, 1) := by decide +kernel
theorem dX5_firstDue_60 : decode cX5_firstDue 60 = .ok (.ireturn, 1) := by decide +kernel
set_option maxRecDepth 20000 in
theorem ggX5_work_X5_firstDue : GoodIn wsX5_work wsX5_firstDue := goodIn_sub (List.forall_mem_cons.mpr ⟨List.mem_cons_of_mem _ (List.mem_append_left _ (List.mem_of_getElem? (i := 5) rfl)), List.forall_mem_append.mpr ⟨List.forall_mem_cons.mpr ⟨List.mem_cons_of_mem _ (List.mem_append_left _ (List.mem_of_getElem? (i := 0) rfl)), List.forall_mem_cons.mpr ⟨List.mem_cons_of_mem _ (List.mem_append_left _ (List.mem_of_getElem? (i := 6) rfl)), List.forall_mem_cons.mpr ⟨List.mem_cons_of_mem _ (List.mem_append_left _ (List.mem_of_getElem? (i := 7) rfl)), List.forall_mem_cons.mpr ⟨List.mem_cons_of_mem _ (List.mem_append_left _ (List.mem_of_getElem? (i := 4) rfl)), List.forall_mem_cons.mpr ⟨List.mem_cons_of_mem _ (List.mem_append_left _ (List.mem_of_getElem? (i := 8) rfl)), (fun _ h => absurd h List.not_mem_nil)⟩⟩⟩⟩⟩, (fun _ h => List.mem_cons_of_mem _ (List.mem_append_right _ (h)))⟩⟩) (by decide +kernel)
set_option maxRecDepth 20000 in
theorem gX5_work_X5_firstDue : GoodIn wsX5_work (wsV RX5 151 RX5 yX5_firstDue wsX5_firstDue) := goodIn_app (goodIn_sub (List.forall_mem_cons.mpr ⟨List.mem_cons_of_mem _ (List.mem_append_left _ (List.mem_of_getElem? (i := 1) rfl)), List.forall_mem_cons.mpr ⟨List.mem_cons_of_mem _ (List.mem_append_left _ (List.mem_of_getElem? (i := 2) rfl)), List.forall_mem_cons.mpr ⟨List.mem_cons_of_mem _ (List.mem_append_left _ (List.mem_of_getElem? (i := 3) rfl)), List.forall_mem_cons.mpr ⟨List.mem_cons_of_mem _ (List.mem_append_left _ (List.mem_of_getElem? (i := 4) rfl)), (fun _ h => absurd h List.not_mem_nil)⟩⟩⟩⟩) (by decide +kernel)) ggX5_work_X5_firstDue
set_option maxRecDepth 20000 in
theorem ggX5_work_X5_placeOf : GoodIn wsX5_work wsX5_placeOf := goodIn_sub (List.forall_mem_cons.mpr ⟨List.mem_cons_of_mem _ (List.mem_append_left _ (List.mem_of_getElem? (i := 8) rfl)), (fun _ h => absurd h List.not_mem_nil)⟩) (by decide +kernel)
set_option maxRecDepth 20000 in
theorem gX5_work_X5_placeOf : GoodIn wsX5_work (va_wsS RX5 136 yX5_placeOf wsX5_placeOf) := goodIn_app (goodIn_sub (List.forall_mem_cons.mpr ⟨List.mem_cons_of_mem _ (List.mem_append_left _ (List.mem_of_getElem? (i := 6) rfl)), List.forall_mem_cons.mpr ⟨List.mem_cons_of_mem _ (List.mem_append_left _ (List.mem_of_getElem? (i := 7) rfl)), List.forall_mem_cons.mpr ⟨List.mem_cons_of_mem _ (List.mem_append_left _ (List.mem_of_getElem? (i := 4) rfl)), (fun _ h => absurd h List.not_mem_nil)⟩⟩⟩) (by decide +kernel)) ggX5_work_X5_placeOf
set_option maxRecDepth 20000 in
theorem ggX5_work_X5_few : GoodIn wsX5_work wsX5_few := goodIn_sub (List.forall_mem_cons.mpr ⟨List.mem_cons_of_mem _ (List.mem_append_left _ (List.mem_of_getElem? (i := 11) rfl)), (fun _ h => absurd h List.not_mem_nil)⟩) (by decide +kernel)
set_option maxRecDepth 20000 in
theorem gX5_work_X5_few : GoodIn wsX5_work (va_wsS RX5 154 yX5_few wsX5_few) := goodIn_app (goodIn_sub (List.forall_mem_cons.mpr ⟨List.mem_cons_of_mem _ (List.mem_append_left _ (List.mem_of_getElem? (i := 9) rfl)), List.forall_mem_cons.mpr ⟨List.mem_cons_of_mem _ (List.mem_append_left _ (List.mem_of_getElem? (i := 10) rfl)), List.forall_mem_cons.mpr ⟨List.mem_cons_of_mem _ (List.mem_append_left _ (List.mem_of_getElem? (i := 4) rfl)), (fun _ h => absurd h List.not_mem_nil)⟩⟩⟩) (by decide +kernel)) ggX5_work_X5_few
set_option maxRecDepth 20000 in
theorem ggX5_work_X5_remove : GoodIn wsX5_work wsX5_remove := goodIn_sub (List.forall_mem_cons.mpr ⟨List.mem_cons_of_mem _ (List.mem_append_left _ (List.mem_of_getElem? (i := 15) rfl)), List.forall_mem_append.mpr ⟨List.forall_mem_cons.mpr ⟨List.mem_cons_of_mem _ (List.mem_append_left _ (List.mem_of_getElem? (i := 0) rfl)), List.forall_mem_cons.mpr ⟨List.mem_cons_of_mem _ (List.mem_append_left _ (List.mem_of_getElem? (i := 6) rfl)), List.forall_mem_cons.mpr ⟨List.mem_cons_of_mem _ (List.mem_append_left _ (List.mem_of_getElem? (i := 7) rfl)), List.forall_mem_cons.mpr ⟨List.mem_cons_of_mem _ (List.mem_append_left _ (List.mem_of_getElem? (i := 4) rfl)), List.forall_mem_cons.mpr ⟨List.mem_cons_of_mem _ (List.mem_append_left _ (List.mem_of_getElem? (i := 8) rfl)), (fun _ h => absurd h List.not_mem_nil)⟩⟩⟩⟩⟩, (fun _ h => List.mem_cons_of_mem _ (List.mem_append_right _ (h)))⟩⟩) (by decide +kernel)
set_option maxRecDepth 20000 in
theorem gX5_work_X5_remove : GoodIn wsX5_work (wsV RX5 157 RX5 yX5_remove wsX5_remove) := goodIn_app (goodIn_sub (List.forall_mem_cons.mpr ⟨List.mem_cons_of_mem _ (List.mem_append_left _ (List.mem_of_getElem? (i := 12) rfl)), List.forall_mem_cons.mpr ⟨List.mem_cons_of_mem _ (List.mem_append_left _ (List.mem_of_getElem? (i := 13) rfl)), List.forall_mem_cons.mpr ⟨List.mem_cons_of_mem _ (List.mem_append_left _ (List.mem_of_getElem? (i := 14) rfl)), List.forall_mem_cons.mpr ⟨List.mem_cons_of_mem _ (List.mem_append_left _ (List.mem_of_getElem? (i := 4) rfl)), (fun _ h => absurd h List.not_mem_nil)⟩⟩⟩⟩) (by decide +kernel)) ggX5_work_X5_remove
theorem dX5_work_0 : decode cX5_work 0 = .ok (.bipush 100, 2) := by decide +kernel
theorem dX5_work_2 : decode cX5_work 2 = .ok (.iload_n 2, 1) := by decide +kernel
theorem dX5_work_3 : decode cX5_work 3 = .ok (.imul, 1) := by decide +kernel
theorem dX5_work_4 : decode cX5_work 4 = .ok (.istore_n 3, 1) := by decide +kernel
theorem dX5_work_5 : decode cX5_work 5 = .ok (.aload_n 0, 1) := by decide +kernel
theorem dX5_work_6 : decode cX5_work 6 = .ok (.iload_n 1, 1) := by decide +kernel
theorem dX5_work_7 : decode cX5_work 7 = .ok (.invokevirtual 151, 3) := by decide +kernel
theorem dX5_work_10 : decode cX5_work 10 = .ok (.istore 4, 2) := by decide +kernel
theorem dX5_work_12 : decode cX5_work 12 = .ok (.iload 4, 2) := by decide +kernel
theorem dX5_work_14 : decode cX5_work 14 = .ok (.iconst (-1), 1) := by decide +kernel
theorem dX5_work_15 : decode cX5_work 15 = .ok (.if_icmp .eq 133, 3) := by decide +kernel
theorem dX5_work_18 : decode cX5_work 18 = .ok (.iload_n 3, 1) := by decide +kernel
theorem dX5_work_19 : decode cX5_work 19 = .ok (.ifCond .le 129, 3) := by decide +kernel
theorem dX5_work_22 : decode cX5_work 22 = .ok (.aload_n 0, 1) := by decide +kernel
theorem dX5_work_23 : decode cX5_work 23 = .ok (.getfield 7, 3) := by decide +kernel
theorem dX5_work_26 : decode cX5_work 26 = .ok (.iload_n 1, 1) := by decide +kernel
theorem dX5_work_27 : decode cX5_work 27 = .ok (.iload 4, 2) := by decide +kernel
theorem dX5_work_29 : decode cX5_work 29 = .ok (.iconst 2, 1) := by decide +kernel
theorem dX5_work_30 : decode cX5_work 30 = .ok (.invokestatic 136, 3) := by decide +kernel
theorem dX5_work_33 : decode cX5_work 33 = .ok (.iaload, 1) := by decide +kernel
theorem dX5_work_34 : decode cX5_work 34 = .ok (.istore 5, 2) := by decide +kernel
theorem dX5_work_36 : decode cX5_work 36 = .ok (.iload 5, 2) := by decide +kernel
theorem dX5_work_38 : decode cX5_work 38 = .ok (.iload_n 3, 1) := by decide +kernel
theorem dX5_work_39 : decode cX5_work 39 = .ok (.if_icmp .ge 8, 3) := by decide +kernel
theorem dX5_work_42 : decode cX5_work 42 = .ok (.iload 5, 2) := by decide +kernel
theorem dX5_work_44 : decode cX5_work 44 = .ok (.goto 4, 3) := by decide +kernel
theorem dX5_work_47 : decode cX5_work 47 = .ok (.iload_n 3, 1) := by decide +kernel
theorem dX5_work_48 : decode cX5_work 48 = .ok (.istore 6, 2) := by decide +kernel
theorem dX5_work_50 : decode cX5_work 50 = .ok (.iload_n 3, 1) := by decide +kernel
theorem dX5_work_51 : decode cX5_work 51 = .ok (.iload 6, 2) := by decide +kernel
theorem dX5_work_53 : decode cX5_work 53 = .ok (.isub, 1) := by decide +kernel
theorem dX5_work_54 : decode cX5_work 54 = .ok (.istore_n 3, 1) := by decide +kernel
theorem dX5_work_55 : decode cX5_work 55 = .ok (.aload_n 0, 1) := by decide +kernel
theorem dX5_work_56 : decode cX5_work 56 = .ok (.getfield 7, 3) := by decide +kernel
theorem dX5_work_59 : decode cX5_work 59 = .ok (.iload_n 1, 1) := by decide +kernel
theorem dX5_work_60 : decode cX5_work 60 = .ok (.iload 4, 2) := by decide +kernel
theorem dX5_work_62 : decode cX5_work 62 = .ok (.iconst 2, 1) := by decide +kernel
theorem dX5_work_63 : decode cX5_work 63 = .ok (.invokestatic 136, 3) := by decide +kernel
theorem dX5_work_66 : decode cX5_work 66 = .ok (.dup2, 1) := by decide +kernel
theorem dX5_work_67 : decode cX5_work 67 = .ok (.iaload, 1) := by decide +kernel
theorem dX5_work_68 : decode cX5_work 68 = .ok (.iload 6, 2) := by decide +kernel
theorem dX5_work_70 : decode cX5_work 70 = .ok (.isub, 1) := by decide +kernel
theorem dX5_work_71 : decode cX5_work 71 = .ok (.iastore, 1) := by decide +kernel
theorem dX5_work_72 : decode cX5_work 72 = .ok (.iload 6, 2) := by decide +kernel
theorem dX5_work_74 : decode cX5_work 74 = .ok (.iload 5, 2) := by decide +kernel
theorem dX5_work_76 : decode cX5_work 76 = .ok (.if_icmp .ne 62, 3) := by decide +kernel
theorem dX5_work_79 : decode cX5_work 79 = .ok (.aload_n 0, 1) := by decide +kernel
theorem dX5_work_80 : decode cX5_work 80 = .ok (.getfield 7, 3) := by decide +kernel
theorem dX5_work_83 : decode cX5_work 83 = .ok (.iload_n 1, 1) := by decide +kernel
theorem dX5_work_84 : decode cX5_work 84 = .ok (.iload 4, 2) := by decide +kernel
theorem dX5_work_86 : decode cX5_work 86 = .ok (.iconst 0, 1) := by decide +kernel
theorem dX5_work_87 : decode cX5_work 87 = .ok (.invokestatic 136, 3) := by decide +kernel
theorem dX5_work_90 : decode cX5_work 90 = .ok (.iaload, 1) := by decide +kernel
theorem dX5_work_91 : decode cX5_work 91 = .ok (.istore 7, 2) := by decide +kernel
theorem dX5_work_93 : decode cX5_work 93 = .ok (.aload_n 0, 1) := by decide +kernel
theorem dX5_work_94 : decode cX5_work 94 = .ok (.getfield 7, 3) := by decide +kernel
theorem dX5_work_97 : decode cX5_work 97 = .ok (.iload_n 1, 1) := by decide +kernel
theorem dX5_work_98 : decode cX5_work 98 = .ok (.iconst 2, 1) := by decide +kernel
theorem dX5_work_99 : decode cX5_work 99 = .ok (.iadd, 1) := by decide +kernel
theorem dX5_work_100 : decode cX5_work 100 = .ok (.iload 7, 2) := by decide +kernel
theorem dX5_work_102 : decode cX5_work 102 = .ok (.iadd, 1) := by decide +kernel
theorem dX5_work_103 : decode cX5_work 103 = .ok (.aload_n 0, 1) := by decide +kernel
theorem dX5_work_104 : decode cX5_work 104 = .ok (.getfield 7, 3) := by decide +kernel
theorem dX5_work_107 : decode cX5_work 107 = .ok (.iload_n 1, 1) := by decide +kernel
theorem dX5_work_108 : decode cX5_work 108 = .ok (.iconst 2, 1) := by decide +kernel
theorem dX5_work_109 : decode cX5_work 109 = .ok (.iadd, 1) := by decide +kernel
theorem dX5_work_110 : decode cX5_work 110 = .ok (.iload 7, 2) := by decide +kernel
theorem dX5_work_112 : decode cX5_work 112 = .ok (.iadd, 1) := by decide +kernel
theorem dX5_work_113 : decode cX5_work 113 = .ok (.iaload, 1) := by decide +kernel
theorem dX5_work_114 : decode cX5_work 114 = .ok (.aload_n 0, 1) := by decide +kernel
theorem dX5_work_115 : decode cX5_work 115 = .ok (.getfield 7, 3) := by decide +kernel
theorem dX5_work_118 : decode cX5_work 118 = .ok (.iload_n 1, 1) := by decide +kernel
theorem dX5_work_119 : decode cX5_work 119 = .ok (.iload 4, 2) := by decide +kernel
theorem dX5_work_121 : decode cX5_work 121 = .ok (.iconst 1, 1) := by decide +kernel
theorem dX5_work_122 : decode cX5_work 122 = .ok (.invokestatic 136, 3) := by decide +kernel
theorem dX5_work_125 : decode cX5_work 125 = .ok (.iaload, 1) := by decide +kernel
theorem dX5_work_126 : decode cX5_work 126 = .ok (.iadd, 1) := by decide +kernel
theorem dX5_work_127 : decode cX5_work 127 = .ok (.invokestatic 154, 3) := by decide +kernel
theorem dX5_work_130 : decode cX5_work 130 = .ok (.iastore, 1) := by decide +kernel
theorem dX5_work_131 : decode cX5_work 131 = .ok (.aload_n 0, 1) := by decide +kernel
theorem dX5_work_132 : decode cX5_work 132 = .ok (.iload_n 1, 1) := by decide +kernel
theorem dX5_work_133 : decode cX5_work 133 = .ok (.iload 4, 2) := by decide +kernel
theorem dX5_work_135 : decode cX5_work 135 = .ok (.invokevirtual 157, 3) := by decide +kernel
theorem dX5_work_138 : decode cX5_work 138 = .ok (.aload_n 0, 1) := by decide +kernel
theorem dX5_work_139 : decode cX5_work 139 = .ok (.iload_n 1, 1) := by decide +kernel
theorem dX5_work_140 : decode cX5_work 140 = .ok (.invokevirtual 151, 3) := by decide +kernel
theorem dX5_work_143 : decode cX5_work 143 = .ok (.istore 4, 2) := by decide +kernel
theorem dX5_work_145 : decode cX5_work 145 = .ok (.goto (-133), 3) := by decide +kernel
theorem dX5_work_148 : decode cX5_work 148 = .ok (.return_, 1) := by decide +kernel
set_option maxRecDepth 20000 in
theorem ggX5_day_X5_placeOf : GoodIn wsX5_day wsX5_placeOf := goodIn_sub (List.forall_mem_cons.mpr ⟨List.mem_cons_of_mem _ (List.mem_append_left _ (List.mem_append_left _ (List.mem_of_getElem? (i := 4) rfl))), (fun _ h => absurd h List.not_mem_nil)⟩) (by decide +kernel)
set_option maxRecDepth 20000 in
theorem gX5_day_X5_placeOf : GoodIn wsX5_day (va_wsS RX5 136 yX5_placeOf wsX5_placeOf) := goodIn_app (goodIn_sub (List.forall_mem_cons.mpr ⟨List.mem_cons_of_mem _ (List.mem_append_left _ (List.mem_append_left _ (List.mem_of_getElem? (i := 1) rfl))), List.forall_mem_cons.mpr ⟨List.mem_cons_of_mem _ (List.mem_append_left _ (List.mem_append_left _ (List.mem_of_getElem? (i := 2) rfl))), List.forall_mem_cons.mpr ⟨List.mem_cons_of_mem _ (List.mem_append_left _ (List.mem_append_left _ (List.mem_of_getElem? (i := 3) rfl))), (fun _ h => absurd h List.not_mem_nil)⟩⟩⟩) (by decide +kernel)) ggX5_day_X5_placeOf
set_option maxRecDepth 20000 in
theorem ggX5_day_X5_grown : GoodIn wsX5_day wsX5_grown := goodIn_sub (List.forall_mem_cons.mpr ⟨List.mem_cons_of_mem _ (List.mem_append_left _ (List.mem_append_left _ (List.mem_of_getElem? (i := 8) rfl))), List.forall_mem_append.mpr ⟨List.forall_mem_cons.mpr ⟨List.mem_cons_of_mem _ (List.mem_append_left _ (List.mem_append_left _ (List.mem_of_getElem? (i := 9) rfl))), List.forall_mem_cons.mpr ⟨List.mem_cons_of_mem _ (List.mem_append_left _ (List.mem_append_left _ (List.mem_of_getElem? (i := 10) rfl))), List.forall_mem_cons.mpr ⟨List.mem_cons_of_mem _ (List.mem_append_left _ (List.mem_append_left _ (List.mem_of_getElem? (i := 11) rfl))), (fun _ h => absurd h List.not_mem_nil)⟩⟩⟩, (fun _ h => List.mem_cons_of_mem _ (List.mem_append_right _ (h)))⟩⟩) (by decide +kernel)
set_option maxRecDepth 20000 in
theorem gX5_day_X5_grown : GoodIn wsX5_day (wsV RX5 160 RX5 yX5_grown wsX5_grown) := goodIn_app (goodIn_sub (List.forall_mem_cons.mpr ⟨List.mem_cons_of_mem _ (List.mem_append_left _ (List.mem_append_left _ (List.mem_of_getElem? (i := 5) rfl))), List.forall_mem_cons.mpr ⟨List.mem_cons_of_mem _ (List.mem_append_left _ (List.mem_append_left _ (List.mem_of_getElem? (i := 6) rfl))), List.forall_mem_cons.mpr ⟨List.mem_cons_of_mem _ (List.mem_append_left _ (List.mem_append_left _ (List.mem_of_getElem? (i := 7) rfl))), List.forall_mem_cons.mpr ⟨List.mem_cons_of_mem _ (List.mem_append_left _ (List.mem_append_left _ (List.mem_of_getElem? (i := 3) rfl))), (fun _ h => absurd h List.not_mem_nil)⟩⟩⟩⟩) (by decide +kernel)) ggX5_day_X5_grown
set_option maxRecDepth 20000 in
theorem ggX5_day_X5_work : GoodIn wsX5_day wsX5_work := goodIn_sub (List.forall_mem_cons.mpr ⟨List.mem_cons_of_mem _ (List.mem_append_left _ (List.mem_append_left _ (List.mem_of_getElem? (i := 15) rfl))), List.forall_mem_append.mpr ⟨List.forall_mem_cons.mpr ⟨List.mem_cons_of_mem _ (List.mem_append_left _ (List.mem_append_left _ (List.mem_of_getElem? (i := 0) rfl))), List.forall_mem_cons.mpr ⟨List.mem_cons_of_mem _ (List.mem_append_left _ (List.mem_append_left _ (List.mem_of_getElem? (i := 16) rfl))), List.forall_mem_cons.mpr ⟨List.mem_cons_of_mem _ (List.mem_append_left _ (List.mem_append_left _ (List.mem_of_getElem? (i := 17) rfl))), List.forall_mem_cons.mpr ⟨List.mem_cons_of_mem _ (List.mem_append_left _ (List.mem_append_left _ (List.mem_of_getElem? (i := 18) rfl))), List.forall_mem_cons.mpr ⟨List.mem_cons_of_mem _ (List.mem_append_left _ (List.mem_append_left _ (List.mem_of_getElem? (i := 3) rfl))), List.forall_mem_cons.mpr ⟨List.mem_cons_of_mem _ (List.mem_append_left _ (List.mem_append_left _ (List.mem_of_getElem? (i := 19) rfl))), List.forall_mem_cons.mpr ⟨List.mem_cons_of_mem _ (List.mem_append_left _ (List.mem_append_left _ (List.mem_of_getElem? (i := 1) rfl))), List.forall_mem_cons.mpr ⟨List.mem_cons_of_mem _ (List.mem_append_left _ (List.mem_append_left _ (List.mem_of_getElem? (i := 2) rfl))), List.forall_mem_cons.mpr ⟨List.mem_cons_of_mem _ (List.mem_append_left _ (List.mem_append_left _ (List.mem_of_getElem? (i := 4) rfl))), List.forall_mem_cons.mpr ⟨List.mem_cons_of_mem _ (List.mem_append_left _ (List.mem_append_left _ (List.mem_of_getElem? (i := 20) rfl))), List.forall_mem_cons.mpr ⟨List.mem_cons_of_mem _ (List.mem_append_left _ (List.mem_append_left _ (List.mem_of_getElem? (i := 21) rfl))), List.forall_mem_cons.mpr ⟨List.mem_cons_of_mem _ (List.mem_append_left _ (List.mem_append_left _ (List.mem_of_getElem? (i := 22) rfl))), List.forall_mem_cons.mpr ⟨List.mem_cons_of_mem _ (List.mem_append_left _ (List.mem_append_left _ (List.mem_of_getElem? (i := 23) rfl))), List.forall_mem_cons.mpr ⟨List.mem_cons_of_mem _ (List.mem_append_left _ (List.mem_append_right _ (List.mem_of_getElem? (i := 0) rfl))), List.forall_mem_cons.mpr ⟨List.mem_cons_of_mem _ (List.mem_append_left _ (List.mem_append_right _ (List.mem_of_getElem? (i := 1) rfl))), List.forall_mem_cons.mpr ⟨List.mem_cons_of_mem _ (List.mem_append_left _ (List.mem_append_right _ (List.mem_of_getElem? (i := 2) rfl))), (fun _ h => absurd h List.not_mem_nil)⟩⟩⟩⟩⟩⟩⟩⟩⟩⟩⟩⟩⟩⟩⟩⟩, (fun _ h => List.mem_cons_of_mem _ (List.mem_append_right _ (h)))⟩⟩) (by decide +kernel)
set_option maxRecDepth 20000 in
theorem gX5_day_X5_work : GoodIn wsX5_day (wsV RX5 163 RX5 yX5_work wsX5_work) := goodIn_app (goodIn_sub (List.forall_mem_cons.mpr ⟨List.mem_cons_of_mem _ (List.mem_append_left _ (List.mem_append_left _ (List.mem_of_getElem? (i := 12) rfl))), List.forall_mem_cons.mpr ⟨List.mem_cons_of_mem _ (List.mem_append_left _ (List.mem_append_left _ (List.mem_of_getElem? (i := 13) rfl))), List.forall_mem_cons.mpr ⟨List.mem_cons_of_mem _ (List.mem_append_left _ (List.mem_append_left _ (List.mem_of_getElem? (i := 14) rfl))), List.forall_mem_cons.mpr ⟨List.mem_cons_of_mem _ (List.mem_append_left _ (List.mem_append_left _ (List.mem_of_getElem? (i := 3) rfl))), (fun _ h => absurd h List.not_mem_nil)⟩⟩⟩⟩) (by decide +kernel)) ggX5_day_X5_work
theorem dX5_day_0 : decode cX5_day 0 = .ok (.iconst 0, 1) := by decide +kernel
theorem dX5_day_1 : decode cX5_day 1 = .ok (.istore_n 3, 1) := by decide +kernel
theorem dX5_day_2 : decode cX5_day 2 = .ok (.iload_n 3, 1) := by decide +kernel
theorem dX5_day_3 : decode cX5_day 3 = .ok (.aload_n 0, 1) := by decide +kernel
theorem dX5_day_4 : decode cX5_day 4 = .ok (.getfield 7, 3) := by decide +kernel
theorem dX5_day_7 : decode cX5_day 7 = .ok (.iload_n 1, 1) := by decide +kernel
theorem dX5_day_8 : decode cX5_day 8 = .ok (.bipush 14, 2) := by decide +kernel
theorem dX5_day_10 : decode cX5_day 10 = .ok (.iadd, 1) := by decide +kernel
theorem dX5_day_11 : decode cX5_day 11 = .ok (.iaload, 1) := by decide +kernel
theorem dX5_day_12 : decode cX5_day 12 = .ok (.if_icmp .ge 57, 3) := by decide +kernel
theorem dX5_day_15 : decode cX5_day 15 = .ok (.aload_n 0, 1) := by decide +kernel
theorem dX5_day_16 : decode cX5_day 16 = .ok (.getfield 7, 3) := by decide +kernel
theorem dX5_day_19 : decode cX5_day 19 = .ok (.iload_n 1, 1) := by decide +kernel
theorem dX5_day_20 : decode cX5_day 20 = .ok (.iload_n 3, 1) := by decide +kernel
theorem dX5_day_21 : decode cX5_day 21 = .ok (.iconst 2, 1) := by decide +kernel
theorem dX5_day_22 : decode cX5_day 22 = .ok (.invokestatic 136, 3) := by decide +kernel
theorem dX5_day_25 : decode cX5_day 25 = .ok (.aload_n 0, 1) := by decide +kernel
theorem dX5_day_26 : decode cX5_day 26 = .ok (.aload_n 0, 1) := by decide +kernel
theorem dX5_day_27 : decode cX5_day 27 = .ok (.getfield 7, 3) := by decide +kernel
theorem dX5_day_30 : decode cX5_day 30 = .ok (.iload_n 1, 1) := by decide +kernel
theorem dX5_day_31 : decode cX5_day 31 = .ok (.iload_n 3, 1) := by decide +kernel
theorem dX5_day_32 : decode cX5_day 32 = .ok (.iconst 0, 1) := by decide +kernel
theorem dX5_day_33 : decode cX5_day 33 = .ok (.invokestatic 136, 3) := by decide +kernel
theorem dX5_day_36 : decode cX5_day 36 = .ok (.iaload, 1) := by decide +kernel
theorem dX5_day_37 : decode cX5_day 37 = .ok (.aload_n 0, 1) := by decide +kernel
theorem dX5_day_38 : decode cX5_day 38 = .ok (.getfield 7, 3) := by decide +kernel
theorem dX5_day_41 : decode cX5_day 41 = .ok (.iload_n 1, 1) := by decide +kernel
theorem dX5_day_42 : decode cX5_day 42 = .ok (.iload_n 3, 1) := by decide +kernel
theorem dX5_day_43 : decode cX5_day 43 = .ok (.iconst 2, 1) := by decide +kernel
theorem dX5_day_44 : decode cX5_day 44 = .ok (.invokestatic 136, 3) := by decide +kernel
theorem dX5_day_47 : decode cX5_day 47 = .ok (.iaload, 1) := by decide +kernel
theorem dX5_day_48 : decode cX5_day 48 = .ok (.aload_n 0, 1) := by decide +kernel
theorem dX5_day_49 : decode cX5_day 49 = .ok (.getfield 7, 3) := by decide +kernel
theorem dX5_day_52 : decode cX5_day 52 = .ok (.iload_n 1, 1) := by decide +kernel
theorem dX5_day_53 : decode cX5_day 53 = .ok (.iload_n 3, 1) := by decide +kernel
theorem dX5_day_54 : decode cX5_day 54 = .ok (.iconst 1, 1) := by decide +kernel
theorem dX5_day_55 : decode cX5_day 55 = .ok (.invokestatic 136, 3) := by decide +kernel
theorem dX5_day_58 : decode cX5_day 58 = .ok (.iaload, 1) := by decide +kernel
theorem dX5_day_59 : decode cX5_day 59 = .ok (.invokevirtual 160, 3) := by decide +kernel
theorem dX5_day_62 : decode cX5_day 62 = .ok (.iastore, 1) := by decide +kernel
theorem dX5_day_63 : decode cX5_day 63 = .ok (.iinc 3 1, 3) := by decide +kernel
theorem dX5_day_66 : decode cX5_day 66 = .ok (.goto (-64), 3) := by decide +kernel
theorem dX5_day_69 : decode cX5_day 69 = .ok (.aload_n 0, 1) := by decide +kernel
theorem dX5_day_70 : decode cX5_day 70 = .ok (.iload_n 1, 1) := by decide +kernel
theorem dX5_day_71 : decode cX5_day 71 = .ok (.iload_n 2, 1) := by decide +kernel
theorem dX5_day_72 : decode cX5_day 72 = .ok (.invokevirtual 163, 3) := by decide +kernel
theorem dX5_day_75 : decode cX5_day 75 = .ok (.iconst 0, 1) := by decide +kernel
theorem dX5_day_76 : decode cX5_day 76 = .ok (.istore_n 3, 1) := by decide +kernel
theorem dX5_day_77 : decode cX5_day 77 = .ok (.iload_n 3, 1) := by decide +kernel
theorem dX5_day_78 : decode cX5_day 78 = .ok (.aload_n 0, 1) := by decide +kernel
theorem dX5_day_79 : decode cX5_day 79 = .ok (.getfield 7, 3) := by decide +kernel
theorem dX5_day_82 : decode cX5_day 82 = .ok (.iload_n 1, 1) := by decide +kernel
theorem dX5_day_83 : decode cX5_day 83 = .ok (.bipush 14, 2) := by decide +kernel
theorem dX5_day_85 : decode cX5_day 85 = .ok (.iadd, 1) := by decide +kernel
theorem dX5_day_86 : decode cX5_day 86 = .ok (.iaload, 1) := by decide +kernel
theorem dX5_day_87 : decode cX5_day 87 = .ok (.if_icmp .ge 97, 3) := by decide +kernel
theorem dX5_day_90 : decode cX5_day 90 = .ok (.aload_n 0, 1) := by decide +kernel
theorem dX5_day_91 : decode cX5_day 91 = .ok (.getfield 7, 3) := by decide +kernel
theorem dX5_day_94 : decode cX5_day 94 = .ok (.iload_n 1, 1) := by decide +kernel
theorem dX5_day_95 : decode cX5_day 95 = .ok (.iload_n 3, 1) := by decide +kernel
theorem dX5_day_96 : decode cX5_day 96 = .ok (.iconst 4, 1) := by decide +kernel
theorem dX5_day_97 : decode cX5_day 97 = .ok (.invokestatic 136, 3) := by decide +kernel
theorem dX5_day_100 : decode cX5_day 100 = .ok (.iaload, 1) := by decide +kernel
theorem dX5_day_101 : decode cX5_day 101 = .ok (.ifCond .ne 29, 3) := by decide +kernel
theorem dX5_day_104 : decode cX5_day 104 = .ok (.aload_n 0, 1) := by decide +kernel
theorem dX5_day_105 : decode cX5_day 105 = .ok (.getfield 7, 3) := by decide +kernel
theorem dX5_day_108 : decode cX5_day 108 = .ok (.iload_n 1, 1) := by decide +kernel
theorem dX5_day_109 : decode cX5_day 109 = .ok (.iload_n 3, 1) := by decide +kernel
theorem dX5_day_110 : decode cX5_day 110 = .ok (.iconst 3, 1) := by decide +kernel
theorem dX5_day_111 : decode cX5_day 111 = .ok (.invokestatic 136, 3) := by decide +kernel
theorem dX5_day_114 : decode cX5_day 114 = .ok (.iaload, 1) := by decide +kernel
theorem dX5_day_115 : decode cX5_day 115 = .ok (.aload_n 0, 1) := by decide +kernel
theorem dX5_day_116 : decode cX5_day 116 = .ok (.getfield 7, 3) := by decide +kernel
theorem dX5_day_119 : decode cX5_day 119 = .ok (.iload_n 1, 1) := by decide +kernel
theorem dX5_day_120 : decode cX5_day 120 = .ok (.iconst 0, 1) := by decide +kernel
theorem dX5_day_121 : decode cX5_day 121 = .ok (.iadd, 1) := by decide +kernel
theorem dX5_day_122 : decode cX5_day 122 = .ok (.iaload, 1) := by decide +kernel
theorem dX5_day_123 : decode cX5_day 123 = .ok (.if_icmp .gt 7, 3) := by decide +kernel
theorem dX5_day_126 : decode cX5_day 126 = .ok (.iconst 1, 1) := by decide +kernel
theorem dX5_day_127 : decode cX5_day 127 = .ok (.goto 4, 3) := by decide +kernel
theorem dX5_day_130 : decode cX5_day 130 = .ok (.iconst 0, 1) := by decide +kernel
theorem dX5_day_131 : decode cX5_day 131 = .ok (.istore 4, 2) := by decide +kernel
theorem dX5_day_133 : decode cX5_day 133 = .ok (.aload_n 0, 1) := by decide +kernel
theorem dX5_day_134 : decode cX5_day 134 = .ok (.getfield 7, 3) := by decide +kernel
theorem dX5_day_137 : decode cX5_day 137 = .ok (.iload_n 1, 1) := by decide +kernel
theorem dX5_day_138 : decode cX5_day 138 = .ok (.iload_n 3, 1) := by decide +kernel
theorem dX5_day_139 : decode cX5_day 139 = .ok (.iconst 4, 1) := by decide +kernel
theorem dX5_day_140 : decode cX5_day 140 = .ok (.invokestatic 136, 3) := by decide +kernel
theorem dX5_day_143 : decode cX5_day 143 = .ok (.dup2, 1) := by decide +kernel
theorem dX5_day_144 : decode cX5_day 144 = .ok (.iaload, 1) := by decide +kernel
theorem dX5_day_145 : decode cX5_day 145 = .ok (.iload 4, 2) := by decide +kernel
theorem dX5_day_147 : decode cX5_day 147 = .ok (.ifCond .eq 7, 3) := by decide +kernel
theorem dX5_day_150 : decode cX5_day 150 = .ok (.iconst 1, 1) := by decide +kernel
theorem dX5_day_151 : decode cX5_day 151 = .ok (.goto 4, 3) := by decide +kernel
theorem dX5_day_154 : decode cX5_day 154 = .ok (.iconst 0, 1) := by decide +kernel
theorem dX5_day_155 : decode cX5_day 155 = .ok (.iadd, 1) := by decide +kernel
theorem dX5_day_156 : decode cX5_day 156 = .ok (.iastore, 1) := by decide +kernel
theorem dX5_day_157 : decode cX5_day 157 = .ok (.aload_n 0, 1) := by decide +kernel
theorem dX5_day_158 : decode cX5_day 158 = .ok (.getfield 7, 3) := by decide +kernel
theorem dX5_day_161 : decode cX5_day 161 = .ok (.iload_n 1, 1) := by decide +kernel
theorem dX5_day_162 : decode cX5_day 162 = .ok (.iconst 1, 1) := by decide +kernel
theorem dX5_day_163 : decode cX5_day 163 = .ok (.iadd, 1) := by decide +kernel
theorem dX5_day_164 : decode cX5_day 164 = .ok (.dup2, 1) := by decide +kernel
theorem dX5_day_165 : decode cX5_day 165 = .ok (.iaload, 1) := by decide +kernel
theorem dX5_day_166 : decode cX5_day 166 = .ok (.iload 4, 2) := by decide +kernel
theorem dX5_day_168 : decode cX5_day 168 = .ok (.ifCond .eq 7, 3) := by decide +kernel
theorem dX5_day_171 : decode cX5_day 171 = .ok (.iconst 1, 1) := by decide +kernel
theorem dX5_day_172 : decode cX5_day 172 = .ok (.goto 4, 3) := by decide +kernel
theorem dX5_day_175 : decode cX5_day 175 = .ok (.iconst 0, 1) := by decide +kernel
theorem dX5_day_176 : decode cX5_day 176 = .ok (.iadd, 1) := by decide +kernel
theorem dX5_day_177 : decode cX5_day 177 = .ok (.iastore, 1) := by decide +kernel
theorem dX5_day_178 : decode cX5_day 178 = .ok (.iinc 3 1, 3) := by decide +kernel
theorem dX5_day_181 : decode cX5_day 181 = .ok (.goto (-104), 3) := by decide +kernel
theorem dX5_day_184 : decode cX5_day 184 = .ok (.aload_n 0, 1) := by decide +kernel
theorem dX5_day_185 : decode cX5_day 185 = .ok (.getfield 7, 3) := by decide +kernel
theorem dX5_day_188 : decode cX5_day 188 = .ok (.iload_n 1, 1) := by decide +kernel
theorem dX5_day_189 : decode cX5_day 189 = .ok (.iconst 0, 1) := by decide +kernel
theorem dX5_day_190 : decode cX5_day 190 = .ok (.iadd, 1) := by decide +kernel
theorem dX5_day_191 : decode cX5_day 191 = .ok (.dup2, 1) := by decide +kernel
theorem dX5_day_192 : decode cX5_day 192 = .ok (.iaload, 1) := by decide +kernel
theorem dX5_day_193 : decode cX5_day 193 = .ok (.iconst 1, 1) := by decide +kernel
theorem dX5_day_194 : decode cX5_day 194 = .ok (.iadd, 1) := by decide +kernel
theorem dX5_day_195 : decode cX5_day 195 = .ok (.iastore, 1) := by decide +kernel
theorem dX5_day_196 : decode cX5_day 196 = .ok (.return_, 1) := by decide +kernel
set_option maxRecDepth 20000 in
theorem ggX5_tree_X5_isTree : GoodIn wsX5_tree wsX5_isTree := goodIn_sub (List.forall_mem_cons.mpr ⟨List.mem_cons_of_mem _ (List.mem_append_left _ (List.mem_append_left _ (List.mem_of_getElem? (i := 9) rfl))), List.forall_mem_append.mpr ⟨List.forall_mem_cons.mpr ⟨List.mem_cons_of_mem _ (List.mem_append_left _ (List.mem_append_left _ (List.mem_of_getElem? (i := 10) rfl))), List.forall_mem_cons.mpr ⟨List.mem_cons_of_mem _ (List.mem_append_left _ (List.mem_append_left _ (List.mem_of_getElem? (i := 11) rfl))), List.forall_mem_cons.mpr ⟨List.mem_cons_of_mem _ (List.mem_append_left _ (List.mem_append_left _ (List.mem_of_getElem? (i := 12) rfl))), List.forall_mem_cons.mpr ⟨List.mem_cons_of_mem _ (List.mem_append_left _ (List.mem_append_left _ (List.mem_of_getElem? (i := 8) rfl))), List.forall_mem_cons.mpr ⟨List.mem_cons_of_mem _ (List.mem_append_left _ (List.mem_append_left _ (List.mem_of_getElem? (i := 13) rfl))), (fun _ h => absurd h List.not_mem_nil)⟩⟩⟩⟩⟩, (fun _ h => List.mem_cons_of_mem _ (List.mem_append_right _ (h)))⟩⟩) (by decide +kernel)
set_option maxRecDepth 20000 in
theorem gX5_tree_X5_isTree : GoodIn wsX5_tree (wsV RX5 166 RX5 yX5_isTree wsX5_isTree) := goodIn_app (goodIn_sub (List.forall_mem_cons.mpr ⟨List.mem_cons_of_mem _ (List.mem_append_left _ (List.mem_append_left _ (List.mem_of_getElem? (i := 5) rfl))), List.forall_mem_cons.mpr ⟨List.mem_cons_of_mem _ (List.mem_append_left _ (List.mem_append_left _ (List.mem_of_getElem? (i := 6) rfl))), List.forall_mem_cons.mpr ⟨List.mem_cons_of_mem _ (List.mem_append_left _ (List.mem_append_left _ (List.mem_of_getElem? (i := 7) rfl))), List.forall_mem_cons.mpr ⟨List.mem_cons_of_mem _ (List.mem_append_left _ (List.mem_append_left _ (List.mem_of_getElem? (i := 8) rfl))), (fun _ h => absurd h List.not_mem_nil)⟩⟩⟩⟩) (by decide +kernel)) ggX5_tree_X5_isTree
set_option maxRecDepth 20000 in
theorem ggX5_tree_X5_owedTo : GoodIn wsX5_tree wsX5_owedTo := goodIn_sub (List.forall_mem_cons.mpr ⟨List.mem_cons_of_mem _ (List.mem_append_left _ (List.mem_append_left _ (List.mem_of_getElem? (i := 17) rfl))), List.forall_mem_append.mpr ⟨List.forall_mem_cons.mpr ⟨List.mem_cons_of_mem _ (List.mem_append_left _ (List.mem_append_left _ (List.mem_of_getElem? (i := 1) rfl))), List.forall_mem_cons.mpr ⟨List.mem_cons_of_mem _ (List.mem_append_left _ (List.mem_append_left _ (List.mem_of_getElem? (i := 18) rfl))), List.forall_mem_cons.mpr ⟨List.mem_cons_of_mem _ (List.mem_append_left _ (List.mem_append_left _ (List.mem_of_getElem? (i := 19) rfl))), List.forall_mem_cons.mpr ⟨List.mem_cons_of_mem _ (List.mem_append_left _ (List.mem_append_left _ (List.mem_of_getElem? (i := 8) rfl))), List.forall_mem_cons.mpr ⟨List.mem_cons_of_mem _ (List.mem_append_left _ (List.mem_append_left _ (List.mem_of_getElem? (i := 20) rfl))), (fun _ h => absurd h List.not_mem_nil)⟩⟩⟩⟩⟩, (fun _ h => List.mem_cons_of_mem _ (List.mem_append_right _ (h)))⟩⟩) (by decide +kernel)
set_option maxRecDepth 20000 in
theorem gX5_tree_X5_owedTo : GoodIn wsX5_tree (wsV RX5 140 RX5 yX5_owedTo wsX5_owedTo) := goodIn_app (goodIn_sub (List.forall_mem_cons.mpr ⟨List.mem_cons_of_mem _ (List.mem_append_left _ (List.mem_append_left _ (List.mem_of_getElem? (i := 14) rfl))), List.forall_mem_cons.mpr ⟨List.mem_cons_of_mem _ (List.mem_append_left _ (List.mem_append_left _ (List.mem_of_getElem? (i := 15) rfl))), List.forall_mem_cons.mpr ⟨List.mem_cons_of_mem _ (List.mem_append_left _ (List.mem_append_left _ (List.mem_of_getElem? (i := 16) rfl))), List.forall_mem_cons.mpr ⟨List.mem_cons_of_mem _ (List.mem_append_left _ (List.mem_append_left _ (List.mem_of_getElem? (i := 8) rfl))), (fun _ h => absurd h List.not_mem_nil)⟩⟩⟩⟩) (by decide +kernel)) ggX5_tree_X5_owedTo
set_option maxRecDepth 20000 in
theorem ggX5_tree_X5_isCross : GoodIn wsX5_tree wsX5_isCross := goodIn_sub (List.forall_mem_cons.mpr ⟨List.mem_cons_of_mem _ (List.mem_append_left _ (List.mem_append_right _ (List.mem_of_getElem? (i := 0) rfl))), List.forall_mem_append.mpr ⟨List.forall_mem_cons.mpr ⟨List.mem_cons_of_mem _ (List.mem_append_left _ (List.mem_append_right _ (List.mem_of_getElem? (i := 1) rfl))), List.forall_mem_cons.mpr ⟨List.mem_cons_of_mem _ (List.mem_append_left _ (List.mem_append_right _ (List.mem_of_getElem? (i := 2) rfl))), List.forall_mem_cons.mpr ⟨List.mem_cons_of_mem _ (List.mem_append_left _ (List.mem_append_left _ (List.mem_of_getElem? (i := 14) rfl))), List.forall_mem_cons.mpr ⟨List.mem_cons_of_mem _ (List.mem_append_left _ (List.mem_append_left _ (List.mem_of_getElem? (i := 15) rfl))), List.forall_mem_cons.mpr ⟨List.mem_cons_of_mem _ (List.mem_append_left _ (List.mem_append_left _ (List.mem_of_getElem? (i := 16) rfl))), List.forall_mem_cons.mpr ⟨List.mem_cons_of_mem _ (List.mem_append_left _ (List.mem_append_left _ (List.mem_of_getElem? (i := 8) rfl))), List.forall_mem_cons.mpr ⟨List.mem_cons_of_mem _ (List.mem_append_left _ (List.mem_append_left _ (List.mem_of_getElem? (i := 17) rfl))), List.forall_mem_cons.mpr ⟨List.mem_cons_of_mem _ (List.mem_append_left _ (List.mem_append_left _ (List.mem_of_getElem? (i := 1) rfl))), List.forall_mem_cons.mpr ⟨List.mem_cons_of_mem _ (List.mem_append_left _ (List.mem_append_left _ (List.mem_of_getElem? (i := 18) rfl))), List.forall_mem_cons.mpr ⟨List.mem_cons_of_mem _ (List.mem_append_left _ (List.mem_append_left _ (List.mem_of_getElem? (i := 19) rfl))), List.forall_mem_cons.mpr ⟨List.mem_cons_of_mem _ (List.mem_append_left _ (List.mem_append_left _ (List.mem_of_getElem? (i := 20) rfl))), (fun _ h => absurd h List.not_mem_nil)⟩⟩⟩⟩⟩⟩⟩⟩⟩⟩⟩, (fun _ h => List.mem_cons_of_mem _ (List.mem_append_right _ (h)))⟩⟩) (by decide +kernel)
set_option maxRecDepth 20000 in
theorem gX5_tree_X5_isCross : GoodIn wsX5_tree (wsV RX5 147 RX5 yX5_isCross wsX5_isCross) := goodIn_app (goodIn_sub (List.forall_mem_cons.mpr ⟨List.mem_cons_of_mem _ (List.mem_append_left _ (List.mem_append_left _ (List.mem_of_getElem? (i := 21) rfl))), List.forall_mem_cons.mpr ⟨List.mem_cons_of_mem _ (List.mem_append_left _ (List.mem_append_left _ (List.mem_of_getElem? (i := 22) rfl))), List.forall_mem_cons.mpr ⟨List.mem_cons_of_mem _ (List.mem_append_left _ (List.mem_append_left _ (List.mem_of_getElem? (i := 23) rfl))), List.forall_mem_cons.mpr ⟨List.mem_cons_of_mem _ (List.mem_append_left _ (List.mem_append_left _ (List.mem_of_getElem? (i := 8) rfl))), (fun _ h => absurd h List.not_mem_nil)⟩⟩⟩⟩) (by decide +kernel)) ggX5_tree_X5_isCross
theorem dX5_tree_0 : decode cX5_tree 0 = .ok (.aload_n 0, 1) := by decide +kernel
theorem dX5_tree_1 : decode cX5_tree 1 = .ok (.iload_n 1, 1) := by decide +kernel
theorem dX5_tree_2 : decode cX5_tree 2 = .ok (.invokevirtual 166, 3) := by decide +kernel
theorem dX5_tree_5 : decode cX5_tree 5 = .ok (.ifCond .ne 6, 3) := by decide +kernel
theorem dX5_tree_8 : decode cX5_tree 8 = .ok (.bipush (-2), 2) := by decide +kernel
theorem dX5_tree_10 : decode cX5_tree 10 = .ok (.ireturn, 1) := by decide +kernel
theorem dX5_tree_11 : decode cX5_tree 11 = .ok (.iload_n 2, 1) := by decide +kernel
theorem dX5_tree_12 : decode cX5_tree 12 = .ok (.tableswitch 116 0 7 #[48, 55, 64, 71, 78, 85, 92, 102], 48) := by decide +kernel
theorem dX5_tree_60 : decode cX5_tree 60 = .ok (.aload_n 0, 1) := by decide +kernel
theorem dX5_tree_61 : decode cX5_tree 61 = .ok (.getfield 23, 3) := by decide +kernel
theorem dX5_tree_64 : decode cX5_tree 64 = .ok (.iload_n 1, 1) := by decide +kernel
theorem dX5_tree_65 : decode cX5_tree 65 = .ok (.iaload, 1) := by decide +kernel
theorem dX5_tree_66 : decode cX5_tree 66 = .ok (.ireturn, 1) := by decide +kernel
theorem dX5_tree_67 : decode cX5_tree 67 = .ok (.aload_n 0, 1) := by decide +kernel
theorem dX5_tree_68 : decode cX5_tree 68 = .ok (.getfield 7, 3) := by decide +kernel
theorem dX5_tree_71 : decode cX5_tree 71 = .ok (.iconst 2, 1) := by decide +kernel
theorem dX5_tree_72 : decode cX5_tree 72 = .ok (.iload_n 1, 1) := by decide +kernel
theorem dX5_tree_73 : decode cX5_tree 73 = .ok (.iadd, 1) := by decide +kernel
theorem dX5_tree_74 : decode cX5_tree 74 = .ok (.iaload, 1) := by decide +kernel
theorem dX5_tree_75 : decode cX5_tree 75 = .ok (.ireturn, 1) := by decide +kernel
theorem dX5_tree_76 : decode cX5_tree 76 = .ok (.aload_n 0, 1) := by decide +kernel
theorem dX5_tree_77 : decode cX5_tree 77 = .ok (.getfield 26, 3) := by decide +kernel
theorem dX5_tree_80 : decode cX5_tree 80 = .ok (.iload_n 1, 1) := by decide +kernel
theorem dX5_tree_81 : decode cX5_tree 81 = .ok (.iaload, 1) := by decide +kernel
theorem dX5_tree_82 : decode cX5_tree 82 = .ok (.ireturn, 1) := by decide +kernel
theorem dX5_tree_83 : decode cX5_tree 83 = .ok (.aload_n 0, 1) := by decide +kernel
theorem dX5_tree_84 : decode cX5_tree 84 = .ok (.getfield 29, 3) := by decide +kernel
theorem dX5_tree_87 : decode cX5_tree 87 = .ok (.iload_n 1, 1) := by decide +kernel
theorem dX5_tree_88 : decode cX5_tree 88 = .ok (.iaload, 1) := by decide +kernel
theorem dX5_tree_89 : decode cX5_tree 89 = .ok (.ireturn, 1) := by decide +kernel
theorem dX5_tree_90 : decode cX5_tree 90 = .ok (.aload_n 0, 1) := by decide +kernel
theorem dX5_tree_91 : decode cX5_tree 91 = .ok (.getfield 32, 3) := by decide +kernel
theorem dX5_tree_94 : decode cX5_tree 94 = .ok (.iload_n 1, 1) := by decide +kernel
theorem dX5_tree_95 : decode cX5_tree 95 = .ok (.iaload, 1) := by decide +kernel
theorem dX5_tree_96 : decode cX5_tree 96 = .ok (.ireturn, 1) := by decide +kernel
theorem dX5_tree_97 : decode cX5_tree 97 = .ok (.aload_n 0, 1) := by decide +kernel
theorem dX5_tree_98 : decode cX5_tree 98 = .ok (.iconst 0, 1) := by decide +kernel
theorem dX5_tree_99 : decode cX5_tree 99 = .ok (.iload_n 1, 1) := by decide +kernel
theorem dX5_tree_100 : decode cX5_tree 100 = .ok (.invokevirtual 140, 3) := by decide +kernel
theorem dX5_tree_103 : decode cX5_tree 103 = .ok (.ireturn, 1) := by decide +kernel
theorem dX5_tree_104 : decode cX5_tree 104 = .ok (.aload_n 0, 1) := by decide +kernel
theorem dX5_tree_105 : decode cX5_tree 105 = .ok (.getfield 7, 3) := by decide +kernel
theorem dX5_tree_108 : decode cX5_tree 108 = .ok (.bipush 8, 2) := by decide +kernel
theorem dX5_tree_110 : decode cX5_tree 110 = .ok (.iload_n 1, 1) := by decide +kernel
theorem dX5_tree_111 : decode cX5_tree 111 = .ok (.iadd, 1) := by decide +kernel
theorem dX5_tree_112 : decode cX5_tree 112 = .ok (.iaload, 1) := by decide +kernel
theorem dX5_tree_113 : decode cX5_tree 113 = .ok (.ireturn, 1) := by decide +kernel
theorem dX5_tree_114 : decode cX5_tree 114 = .ok (.aload_n 0, 1) := by decide +kernel
theorem dX5_tree_115 : decode cX5_tree 115 = .ok (.iload_n 1, 1) := by decide +kernel
theorem dX5_tree_116 : decode cX5_tree 116 = .ok (.invokevirtual 147, 3) := by decide +kernel
theorem dX5_tree_119 : decode cX5_tree 119 = .ok (.ifCond .eq 7, 3) := by decide +kernel
theorem dX5_tree_122 : decode cX5_tree 122 = .ok (.iconst 1, 1) := by decide +kernel
theorem dX5_tree_123 : decode cX5_tree 123 = .ok (.goto 4, 3) := by decide +kernel
theorem dX5_tree_126 : decode cX5_tree 126 = .ok (.iconst 0, 1) := by decide +kernel
theorem dX5_tree_127 : decode cX5_tree 127 = .ok (.ireturn, 1) := by decide +kernel
theorem dX5_tree_128 : decode cX5_tree 128 = .ok (.bipush (-3), 2) := by decide +kernel
theorem dX5_tree_130 : decode cX5_tree 130 = .ok (.ireturn, 1) := by decide +kernel
set_option maxRecDepth 20000 in
theorem ggX5_loan_X5_in : GoodIn wsX5_loan wsX5_in := goodIn_sub (List.forall_mem_cons.mpr ⟨List.mem_cons_of_mem _ (List.mem_append_left _ (List.mem_of_getElem? (i := 5) rfl)), (fun _ h => absurd h List.not_mem_nil)⟩) (by decide +kernel)
set_option maxRecDepth 20000 in
theorem gX5_loan_X5_in : GoodIn wsX5_loan (va_wsS RX5 50 yX5_in wsX5_in) := goodIn_app (goodIn_sub (List.forall_mem_cons.mpr ⟨List.mem_cons_of_mem _ (List.mem_append_left _ (List.mem_of_getElem? (i := 2) rfl)), List.forall_mem_cons.mpr ⟨List.mem_cons_of_mem _ (List.mem_append_left _ (List.mem_of_getElem? (i := 3) rfl)), List.forall_mem_cons.mpr ⟨List.mem_cons_of_mem _ (List.mem_append_left _ (List.mem_of_getElem? (i := 4) rfl)), (fun _ h => absurd h List.not_mem_nil)⟩⟩⟩) (by decide +kernel)) ggX5_loan_X5_in
set_option maxRecDepth 20000 in
theorem ggX5_loan_X5_placeOf : GoodIn wsX5_loan wsX5_placeOf := goodIn_sub (List.forall_mem_cons.mpr ⟨List.mem_cons_of_mem _ (List.mem_append_left _ (List.mem_of_getElem? (i := 8) rfl)), (fun _ h => absurd h List.not_mem_nil)⟩) (by decide +kernel)
set_option maxRecDepth 20000 in
theorem gX5_loan_X5_placeOf : GoodIn wsX5_loan (va_wsS RX5 136 yX5_placeOf wsX5_placeOf) := goodIn_app (goodIn_sub (List.forall_mem_cons.mpr ⟨List.mem_cons_of_mem _ (List.mem_append_left _ (List.mem_of_getElem? (i := 6) rfl)), List.forall_mem_cons.mpr ⟨List.mem_cons_of_mem _ (List.mem_append_left _ (List.mem_of_getElem? (i := 7) rfl)), List.forall_mem_cons.mpr ⟨List.mem_cons_of_mem _ (List.mem_append_left _ (List.mem_of_getElem? (i := 4) rfl)), (fun _ h => absurd h List.not_mem_nil)⟩⟩⟩) (by decide +kernel)) ggX5_loan_X5_placeOf
theorem dX5_loan_0 : decode cX5_loan 0 = .ok (.iload_n 1, 1) := by decide +kernel
theorem dX5_loan_1 : decode cX5_loan 1 = .ok (.i2l, 1) := by decide +kernel
theorem dX5_loan_2 : decode cX5_loan 2 = .ok (.lconst 0, 1) := by decide +kernel
theorem dX5_loan_3 : decode cX5_loan 3 = .ok (.aload_n 0, 1) := by decide +kernel
theorem dX5_loan_4 : decode cX5_loan 4 = .ok (.getfield 7, 3) := by decide +kernel
theorem dX5_loan_7 : decode cX5_loan 7 = .ok (.bipush 14, 2) := by decide +kernel
theorem dX5_loan_9 : decode cX5_loan 9 = .ok (.iaload, 1) := by decide +kernel
theorem dX5_loan_10 : decode cX5_loan 10 = .ok (.iconst 1, 1) := by decide +kernel
theorem dX5_loan_11 : decode cX5_loan 11 = .ok (.isub, 1) := by decide +kernel
theorem dX5_loan_12 : decode cX5_loan 12 = .ok (.i2l, 1) := by decide +kernel
theorem dX5_loan_13 : decode cX5_loan 13 = .ok (.invokestatic 50, 3) := by decide +kernel
theorem dX5_loan_16 : decode cX5_loan 16 = .ok (.ifCond .ne 6, 3) := by decide +kernel
theorem dX5_loan_19 : decode cX5_loan 19 = .ok (.bipush (-2), 2) := by decide +kernel
theorem dX5_loan_21 : decode cX5_loan 21 = .ok (.ireturn, 1) := by decide +kernel
theorem dX5_loan_22 : decode cX5_loan 22 = .ok (.iload_n 2, 1) := by decide +kernel
theorem dX5_loan_23 : decode cX5_loan 23 = .ok (.i2l, 1) := by decide +kernel
theorem dX5_loan_24 : decode cX5_loan 24 = .ok (.lconst 0, 1) := by decide +kernel
theorem dX5_loan_25 : decode cX5_loan 25 = .ok (.ldc2_w 100, 3) := by decide +kernel
theorem dX5_loan_28 : decode cX5_loan 28 = .ok (.invokestatic 50, 3) := by decide +kernel
theorem dX5_loan_31 : decode cX5_loan 31 = .ok (.ifCond .eq 17, 3) := by decide +kernel
theorem dX5_loan_34 : decode cX5_loan 34 = .ok (.aload_n 0, 1) := by decide +kernel
theorem dX5_loan_35 : decode cX5_loan 35 = .ok (.getfield 7, 3) := by decide +kernel
theorem dX5_loan_38 : decode cX5_loan 38 = .ok (.iconst 0, 1) := by decide +kernel
theorem dX5_loan_39 : decode cX5_loan 39 = .ok (.iload_n 1, 1) := by decide +kernel
theorem dX5_loan_40 : decode cX5_loan 40 = .ok (.iload_n 2, 1) := by decide +kernel
theorem dX5_loan_41 : decode cX5_loan 41 = .ok (.invokestatic 136, 3) := by decide +kernel
theorem dX5_loan_44 : decode cX5_loan 44 = .ok (.iaload, 1) := by decide +kernel
theorem dX5_loan_45 : decode cX5_loan 45 = .ok (.goto 5, 3) := by decide +kernel
theorem dX5_loan_48 : decode cX5_loan 48 = .ok (.bipush (-3), 2) := by decide +kernel
theorem dX5_loan_50 : decode cX5_loan 50 = .ok (.ireturn, 1) := by decide +kernel
set_option maxRecDepth 20000 in
theorem ggX5_as_X5_isTree : GoodIn wsX5_as wsX5_isTree := goodIn_sub (List.forall_mem_cons.mpr ⟨List.mem_cons_of_mem _ (List.mem_append_left _ (List.mem_of_getElem? (i := 6) rfl)), List.forall_mem_append.mpr ⟨List.forall_mem_cons.mpr ⟨List.mem_cons_of_mem _ (List.mem_append_left _ (List.mem_of_getElem? (i := 7) rfl)), List.forall_mem_cons.mpr ⟨List.mem_cons_of_mem _ (List.mem_append_left _ (List.mem_of_getElem? (i := 8) rfl)), List.forall_mem_cons.mpr ⟨List.mem_cons_of_mem _ (List.mem_append_left _ (List.mem_of_getElem? (i := 9) rfl)), List.forall_mem_cons.mpr ⟨List.mem_cons_of_mem _ (List.mem_append_left _ (List.mem_of_getElem? (i := 5) rfl)), List.forall_mem_cons.mpr ⟨List.mem_cons_of_mem _ (List.mem_append_left _ (List.mem_of_getElem? (i := 10) rfl)), (fun _ h => absurd h List.not_mem_nil)⟩⟩⟩⟩⟩, (fun _ h => List.mem_cons_of_mem _ (List.mem_append_right _ (h)))⟩⟩) (by decide +kernel)
set_option maxRecDepth 20000 in
theorem gX5_as_X5_isTree : GoodIn wsX5_as (wsV RX5 166 RX5 yX5_isTree wsX5_isTree) := goodIn_app (goodIn_sub (List.forall_mem_cons.mpr ⟨List.mem_cons_of_mem _ (List.mem_append_left _ (List.mem_of_getElem? (i := 2) rfl)), List.forall_mem_cons.mpr ⟨List.mem_cons_of_mem _ (List.mem_append_left _ (List.mem_of_getElem? (i := 3) rfl)), List.forall_mem_cons.mpr ⟨List.mem_cons_of_mem _ (List.mem_append_left _ (List.mem_of_getElem? (i := 4) rfl)), List.forall_mem_cons.mpr ⟨List.mem_cons_of_mem _ (List.mem_append_left _ (List.mem_of_getElem? (i := 5) rfl)), (fun _ h => absurd h List.not_mem_nil)⟩⟩⟩⟩) (by decide +kernel)) ggX5_as_X5_isTree
set_option maxRecDepth 20000 in
theorem ggX5_as_X5_in : GoodIn wsX5_as wsX5_in := goodIn_sub (List.forall_mem_cons.mpr ⟨List.mem_cons_of_mem _ (List.mem_append_left _ (List.mem_of_getElem? (i := 10) rfl)), (fun _ h => absurd h List.not_mem_nil)⟩) (by decide +kernel)
set_option maxRecDepth 20000 in
theorem gX5_as_X5_in : GoodIn wsX5_as (va_wsS RX5 50 yX5_in wsX5_in) := goodIn_app (goodIn_sub (List.forall_mem_cons.mpr ⟨List.mem_cons_of_mem _ (List.mem_append_left _ (List.mem_of_getElem? (i := 8) rfl)), List.forall_mem_cons.mpr ⟨List.mem_cons_of_mem _ (List.mem_append_left _ (List.mem_of_getElem? (i := 9) rfl)), List.forall_mem_cons.mpr ⟨List.mem_cons_of_mem _ (List.mem_append_left _ (List.mem_of_getElem? (i := 5) rfl)), (fun _ h => absurd h List.not_mem_nil)⟩⟩⟩) (by decide +kernel)) ggX5_as_X5_in
set_option maxRecDepth 20000 in
theorem ggX5_as_X5_grown : GoodIn wsX5_as wsX5_grown := goodIn_sub (List.forall_mem_cons.mpr ⟨List.mem_cons_of_mem _ (List.mem_append_left _ (List.mem_of_getElem? (i := 14) rfl)), List.forall_mem_append.mpr ⟨List.forall_mem_cons.mpr ⟨List.mem_cons_of_mem _ (List.mem_append_left _ (List.mem_of_getElem? (i := 1) rfl)), List.forall_mem_cons.mpr ⟨List.mem_cons_of_mem _ (List.mem_append_left _ (List.mem_of_getElem? (i := 15) rfl)), List.forall_mem_cons.mpr ⟨List.mem_cons_of_mem _ (List.mem_append_left _ (List.mem_of_getElem? (i := 16) rfl)), (fun _ h => absurd h List.not_mem_nil)⟩⟩⟩, (fun _ h => List.mem_cons_of_mem _ (List.mem_append_right _ (h)))⟩⟩) (by decide +kernel)
set_option maxRecDepth 20000 in
theorem gX5_as_X5_grown : GoodIn wsX5_as (wsV RX5 160 RX5 yX5_grown wsX5_grown) := goodIn_app (goodIn_sub (List.forall_mem_cons.mpr ⟨List.mem_cons_of_mem _ (List.mem_append_left _ (List.mem_of_getElem? (i := 11) rfl)), List.forall_mem_cons.mpr ⟨List.mem_cons_of_mem _ (List.mem_append_left _ (List.mem_of_getElem? (i := 12) rfl)), List.forall_mem_cons.mpr ⟨List.mem_cons_of_mem _ (List.mem_append_left _ (List.mem_of_getElem? (i := 13) rfl)), List.forall_mem_cons.mpr ⟨List.mem_cons_of_mem _ (List.mem_append_left _ (List.mem_of_getElem? (i := 5) rfl)), (fun _ h => absurd h List.not_mem_nil)⟩⟩⟩⟩) (by decide +kernel)) ggX5_as_X5_grown
theorem dX5_as_0 : decode cX5_as 0 = .ok (.aload_n 0, 1) := by decide +kernel
theorem dX5_as_1 : decode cX5_as 1 = .ok (.iload_n 1, 1) := by decide +kernel
theorem dX5_as_2 : decode cX5_as 2 = .ok (.invokevirtual 166, 3) := by decide +kernel
theorem dX5_as_5 : decode cX5_as 5 = .ok (.ifCond .ne 6, 3) := by decide +kernel
theorem dX5_as_8 : decode cX5_as 8 = .ok (.bipush (-2), 2) := by decide +kernel
theorem dX5_as_10 : decode cX5_as 10 = .ok (.ireturn, 1) := by decide +kernel
theorem dX5_as_11 : decode cX5_as 11 = .ok (.iload_n 2, 1) := by decide +kernel
theorem dX5_as_12 : decode cX5_as 12 = .ok (.i2l, 1) := by decide +kernel
theorem dX5_as_13 : decode cX5_as 13 = .ok (.lconst 0, 1) := by decide +kernel
theorem dX5_as_14 : decode cX5_as 14 = .ok (.ldc2_w 100, 3) := by decide +kernel
theorem dX5_as_17 : decode cX5_as 17 = .ok (.invokestatic 50, 3) := by decide +kernel
theorem dX5_as_20 : decode cX5_as 20 = .ok (.ifCond .ne 6, 3) := by decide +kernel
theorem dX5_as_23 : decode cX5_as 23 = .ok (.bipush (-3), 2) := by decide +kernel
theorem dX5_as_25 : decode cX5_as 25 = .ok (.ireturn, 1) := by decide +kernel
theorem dX5_as_26 : decode cX5_as 26 = .ok (.aload_n 0, 1) := by decide +kernel
theorem dX5_as_27 : decode cX5_as 27 = .ok (.getfield 23, 3) := by decide +kernel
theorem dX5_as_30 : decode cX5_as 30 = .ok (.iload_n 1, 1) := by decide +kernel
theorem dX5_as_31 : decode cX5_as 31 = .ok (.iaload, 1) := by decide +kernel
theorem dX5_as_32 : decode cX5_as 32 = .ok (.istore_n 3, 1) := by decide +kernel
theorem dX5_as_33 : decode cX5_as 33 = .ok (.iload_n 2, 1) := by decide +kernel
theorem dX5_as_34 : decode cX5_as 34 = .ok (.ifCond .eq 43, 3) := by decide +kernel
theorem dX5_as_37 : decode cX5_as 37 = .ok (.iload_n 2, 1) := by decide +kernel
theorem dX5_as_38 : decode cX5_as 38 = .ok (.iconst 1, 1) := by decide +kernel
theorem dX5_as_39 : decode cX5_as 39 = .ok (.if_icmp .ne 8, 3) := by decide +kernel
theorem dX5_as_42 : decode cX5_as 42 = .ok (.iload_n 3, 1) := by decide +kernel
theorem dX5_as_43 : decode cX5_as 43 = .ok (.iconst 3, 1) := by decide +kernel
theorem dX5_as_44 : decode cX5_as 44 = .ok (.if_icmp .ne 33, 3) := by decide +kernel
theorem dX5_as_47 : decode cX5_as 47 = .ok (.iload_n 2, 1) := by decide +kernel
theorem dX5_as_48 : decode cX5_as 48 = .ok (.iconst 2, 1) := by decide +kernel
theorem dX5_as_49 : decode cX5_as 49 = .ok (.if_icmp .ne 8, 3) := by decide +kernel
theorem dX5_as_52 : decode cX5_as 52 = .ok (.iload_n 3, 1) := by decide +kernel
theorem dX5_as_53 : decode cX5_as 53 = .ok (.iconst 1, 1) := by decide +kernel
theorem dX5_as_54 : decode cX5_as 54 = .ok (.if_icmp .eq 23, 3) := by decide +kernel
theorem dX5_as_57 : decode cX5_as 57 = .ok (.iload_n 2, 1) := by decide +kernel
theorem dX5_as_58 : decode cX5_as 58 = .ok (.iconst 3, 1) := by decide +kernel
theorem dX5_as_59 : decode cX5_as 59 = .ok (.if_icmp .ne 8, 3) := by decide +kernel
theorem dX5_as_62 : decode cX5_as 62 = .ok (.iload_n 3, 1) := by decide +kernel
theorem dX5_as_63 : decode cX5_as 63 = .ok (.iconst 2, 1) := by decide +kernel
theorem dX5_as_64 : decode cX5_as 64 = .ok (.if_icmp .eq 13, 3) := by decide +kernel
theorem dX5_as_67 : decode cX5_as 67 = .ok (.iload_n 2, 1) := by decide +kernel
theorem dX5_as_68 : decode cX5_as 68 = .ok (.iconst 4, 1) := by decide +kernel
theorem dX5_as_69 : decode cX5_as 69 = .ok (.if_icmp .ne 12, 3) := by decide +kernel
theorem dX5_as_72 : decode cX5_as 72 = .ok (.iload_n 3, 1) := by decide +kernel
theorem dX5_as_73 : decode cX5_as 73 = .ok (.iconst 3, 1) := by decide +kernel
theorem dX5_as_74 : decode cX5_as 74 = .ok (.if_icmp .ne 7, 3) := by decide +kernel
theorem dX5_as_77 : decode cX5_as 77 = .ok (.iconst 1, 1) := by decide +kernel
theorem dX5_as_78 : decode cX5_as 78 = .ok (.goto 4, 3) := by decide +kernel
theorem dX5_as_81 : decode cX5_as 81 = .ok (.iconst 0, 1) := by decide +kernel
theorem dX5_as_82 : decode cX5_as 82 = .ok (.istore 4, 2) := by decide +kernel
theorem dX5_as_84 : decode cX5_as 84 = .ok (.iload 4, 2) := by decide +kernel
theorem dX5_as_86 : decode cX5_as 86 = .ok (.ifCond .eq 14, 3) := by decide +kernel
theorem dX5_as_89 : decode cX5_as 89 = .ok (.aload_n 0, 1) := by decide +kernel
theorem dX5_as_90 : decode cX5_as 90 = .ok (.iload_n 1, 1) := by decide +kernel
theorem dX5_as_91 : decode cX5_as 91 = .ok (.bipush 100, 2) := by decide +kernel
theorem dX5_as_93 : decode cX5_as 93 = .ok (.iconst 1, 1) := by decide +kernel
theorem dX5_as_94 : decode cX5_as 94 = .ok (.invokevirtual 160, 3) := by decide +kernel
theorem dX5_as_97 : decode cX5_as 97 = .ok (.goto 5, 3) := by decide +kernel
theorem dX5_as_100 : decode cX5_as 100 = .ok (.bipush (-4), 2) := by decide +kernel
theorem dX5_as_102 : decode cX5_as 102 = .ok (.ireturn, 1) := by decide +kernel
set_option maxRecDepth 20000 in
theorem ggX5_borrow_X5_isTree : GoodIn wsX5_borrow wsX5_isTree := goodIn_sub (List.forall_mem_cons.mpr ⟨List.mem_cons_of_mem _ (List.mem_append_left _ (List.mem_append_left _ (List.mem_of_getElem? (i := 8) rfl))), List.forall_mem_append.mpr ⟨List.forall_mem_cons.mpr ⟨List.mem_cons_of_mem _ (List.mem_append_left _ (List.mem_append_left _ (List.mem_of_getElem? (i := 9) rfl))), List.forall_mem_cons.mpr ⟨List.mem_cons_of_mem _ (List.mem_append_left _ (List.mem_append_left _ (List.mem_of_getElem? (i := 10) rfl))), List.forall_mem_cons.mpr ⟨List.mem_cons_of_mem _ (List.mem_append_left _ (List.mem_append_left _ (List.mem_of_getElem? (i := 11) rfl))), List.forall_mem_cons.mpr ⟨List.mem_cons_of_mem _ (List.mem_append_left _ (List.mem_append_left _ (List.mem_of_getElem? (i := 7) rfl))), List.forall_mem_cons.mpr ⟨List.mem_cons_of_mem _ (List.mem_append_left _ (List.mem_append_left _ (List.mem_of_getElem? (i := 12) rfl))), (fun _ h => absurd h List.not_mem_nil)⟩⟩⟩⟩⟩, (fun _ h => List.mem_cons_of_mem _ (List.mem_append_right _ (h)))⟩⟩) (by decide +kernel)
set_option maxRecDepth 20000 in
theorem gX5_borrow_X5_isTree : GoodIn wsX5_borrow (wsV RX5 166 RX5 yX5_isTree wsX5_isTree) := goodIn_app (goodIn_sub (List.forall_mem_cons.mpr ⟨List.mem_cons_of_mem _ (List.mem_append_left _ (List.mem_append_left _ (List.mem_of_getElem? (i := 4) rfl))), List.forall_mem_cons.mpr ⟨List.mem_cons_of_mem _ (List.mem_append_left _ (List.mem_append_left _ (List.mem_of_getElem? (i := 5) rfl))), List.forall_mem_cons.mpr ⟨List.mem_cons_of_mem _ (List.mem_append_left _ (List.mem_append_left _ (List.mem_of_getElem? (i := 6) rfl))), List.forall_mem_cons.mpr ⟨List.mem_cons_of_mem _ (List.mem_append_left _ (List.mem_append_left _ (List.mem_of_getElem? (i := 7) rfl))), (fun _ h => absurd h List.not_mem_nil)⟩⟩⟩⟩) (by decide +kernel)) ggX5_borrow_X5_isTree
set_option maxRecDepth 20000 in
theorem ggX5_borrow_X5_in : GoodIn wsX5_borrow wsX5_in := goodIn_sub (List.forall_mem_cons.mpr ⟨List.mem_cons_of_mem _ (List.mem_append_left _ (List.mem_append_left _ (List.mem_of_getElem? (i := 12) rfl))), (fun _ h => absurd h List.not_mem_nil)⟩) (by decide +kernel)
set_option maxRecDepth 20000 in
theorem gX5_borrow_X5_in : GoodIn wsX5_borrow (va_wsS RX5 50 yX5_in wsX5_in) := goodIn_app (goodIn_sub (List.forall_mem_cons.mpr ⟨List.mem_cons_of_mem _ (List.mem_append_left _ (List.mem_append_left _ (List.mem_of_getElem? (i := 10) rfl))), List.forall_mem_cons.mpr ⟨List.mem_cons_of_mem _ (List.mem_append_left _ (List.mem_append_left _ (List.mem_of_getElem? (i := 11) rfl))), List.forall_mem_cons.mpr ⟨List.mem_cons_of_mem _ (List.mem_append_left _ (List.mem_append_left _ (List.mem_of_getElem? (i := 7) rfl))), (fun _ h => absurd h List.not_mem_nil)⟩⟩⟩) (by decide +kernel)) ggX5_borrow_X5_in
set_option maxRecDepth 20000 in
theorem ggX5_borrow_X5_lends : GoodIn wsX5_borrow wsX5_lends := goodIn_sub (List.forall_mem_cons.mpr ⟨List.mem_cons_of_mem _ (List.mem_append_left _ (List.mem_append_left _ (List.mem_of_getElem? (i := 16) rfl))), List.forall_mem_append.mpr ⟨List.forall_mem_cons.mpr ⟨List.mem_cons_of_mem _ (List.mem_append_left _ (List.mem_append_left _ (List.mem_of_getElem? (i := 17) rfl))), List.forall_mem_cons.mpr ⟨List.mem_cons_of_mem _ (List.mem_append_left _ (List.mem_append_left _ (List.mem_of_getElem? (i := 18) rfl))), List.forall_mem_cons.mpr ⟨List.mem_cons_of_mem _ (List.mem_append_left _ (List.mem_append_left _ (List.mem_of_getElem? (i := 19) rfl))), List.forall_mem_cons.mpr ⟨List.mem_cons_of_mem _ (List.mem_append_left _ (List.mem_append_left _ (List.mem_of_getElem? (i := 7) rfl))), List.forall_mem_cons.mpr ⟨List.mem_cons_of_mem _ (List.mem_append_left _ (List.mem_append_left _ (List.mem_of_getElem? (i := 20) rfl))), List.forall_mem_cons.mpr ⟨List.mem_cons_of_mem _ (List.mem_append_left _ (List.mem_append_left _ (List.mem_of_getElem? (i := 1) rfl))), List.forall_mem_cons.mpr ⟨List.mem_cons_of_mem _ (List.mem_append_left _ (List.mem_append_left _ (List.mem_of_getElem? (i := 21) rfl))), List.forall_mem_cons.mpr ⟨List.mem_cons_of_mem _ (List.mem_append_left _ (List.mem_append_left _ (List.mem_of_getElem? (i := 22) rfl))), List.forall_mem_cons.mpr ⟨List.mem_cons_of_mem _ (List.mem_append_left _ (List.mem_append_left _ (List.mem_of_getElem? (i := 23) rfl))), List.forall_mem_cons.mpr ⟨List.mem_cons_of_mem _ (List.mem_append_left _ (List.mem_append_right _ (List.mem_of_getElem? (i := 0) rfl))), List.forall_mem_cons.mpr ⟨List.mem_cons_of_mem _ (List.mem_append_left _ (List.mem_append_right _ (List.mem_of_getElem? (i := 1) rfl))), List.forall_mem_cons.mpr ⟨List.mem_cons_of_mem _ (List.mem_append_left _ (List.mem_append_right _ (List.mem_of_getElem? (i := 2) rfl))), List.forall_mem_cons.mpr ⟨List.mem_cons_of_mem _ (List.mem_append_left _ (List.mem_append_right _ (List.mem_of_getElem? (i := 3) rfl))), List.forall_mem_cons.mpr ⟨List.mem_cons_of_mem _ (List.mem_append_left _ (List.mem_append_right _ (List.mem_of_getElem? (i := 4) rfl))), List.forall_mem_cons.mpr ⟨List.mem_cons_of_mem _ (List.mem_append_left _ (List.mem_append_right _ (List.mem_of_getElem? (i := 5) rfl))), List.forall_mem_cons.mpr ⟨List.mem_cons_of_mem _ (List.mem_append_left _ (List.mem_append_right _ (List.mem_of_getElem? (i := 6) rfl))), List.forall_mem_cons.mpr ⟨List.mem_cons_of_mem _ (List.mem_append_left _ (List.mem_append_right _ (List.mem_of_getElem? (i := 7) rfl))), List.forall_mem_cons.mpr ⟨List.mem_cons_of_mem _ (List.mem_append_left _ (List.mem_append_right _ (List.mem_of_getElem? (i := 8) rfl))), List.forall_mem_cons.mpr ⟨List.mem_cons_of_mem _ (List.mem_append_left _ (List.mem_append_right _ (List.mem_of_getElem? (i := 9) rfl))), (fun _ h => absurd h List.not_mem_nil)⟩⟩⟩⟩⟩⟩⟩⟩⟩⟩⟩⟩⟩⟩⟩⟩⟩⟩⟩, (fun _ h => List.mem_cons_of_mem _ (List.mem_append_right _ (h)))⟩⟩) (by decide +kernel)
set_option maxRecDepth 20000 in
theorem gX5_borrow_X5_lends : GoodIn wsX5_borrow (wsV RX5 171 RX5 yX5_lends wsX5_lends) := goodIn_app (goodIn_sub (List.forall_mem_cons.mpr ⟨List.mem_cons_of_mem _ (List.mem_append_left _ (List.mem_append_left _ (List.mem_of_getElem? (i := 13) rfl))), List.forall_mem_cons.mpr ⟨List.mem_cons_of_mem _ (List.mem_append_left _ (List.mem_append_left _ (List.mem_of_getElem? (i := 14) rfl))), List.forall_mem_cons.mpr ⟨List.mem_cons_of_mem _ (List.mem_append_left _ (List.mem_append_left _ (List.mem_of_getElem? (i := 15) rfl))), List.forall_mem_cons.mpr ⟨List.mem_cons_of_mem _ (List.mem_append_left _ (List.mem_append_left _ (List.mem_of_getElem? (i := 7) rfl))), (fun _ h => absurd h List.not_mem_nil)⟩⟩⟩⟩) (by decide +kernel)) ggX5_borrow_X5_lends
set_option maxRecDepth 20000 in
theorem ggX5_borrow_X5_placeOf : GoodIn wsX5_borrow wsX5_placeOf := goodIn_sub (List.forall_mem_cons.mpr ⟨List.mem_cons_of_mem _ (List.mem_append_left _ (List.mem_append_right _ (List.mem_of_getElem? (i := 9) rfl))), (fun _ h => absurd h List.not_mem_nil)⟩) (by decide +kernel)
set_option maxRecDepth 20000 in
theorem gX5_borrow_X5_placeOf : GoodIn wsX5_borrow (va_wsS RX5 136 yX5_placeOf wsX5_placeOf) := goodIn_app (goodIn_sub (List.forall_mem_cons.mpr ⟨List.mem_cons_of_mem _ (List.mem_append_left _ (List.mem_append_right _ (List.mem_of_getElem? (i := 7) rfl))), List.forall_mem_cons.mpr ⟨List.mem_cons_of_mem _ (List.mem_append_left _ (List.mem_append_right _ (List.mem_of_getElem? (i := 8) rfl))), List.forall_mem_cons.mpr ⟨List.mem_cons_of_mem _ (List.mem_append_left _ (List.mem_append_left _ (List.mem_of_getElem? (i := 7) rfl))), (fun _ h => absurd h List.not_mem_nil)⟩⟩⟩) (by decide +kernel)) ggX5_borrow_X5_placeOf
theorem dX5_borrow_0 : decode cX5_borrow 0 = .ok (.aload_n 0, 1) := by decide +kernel
theorem dX5_borrow_1 : decode cX5_borrow 1 = .ok (.iload_n 1, 1) := by decide +kernel
theorem dX5_borrow_2 : decode cX5_borrow 2 = .ok (.invokevirtual 166, 3) := by decide +kernel
theorem dX5_borrow_5 : decode cX5_borrow 5 = .ok (.ifCond .ne 6, 3) := by decide +kernel
theorem dX5_borrow_8 : decode cX5_borrow 8 = .ok (.bipush (-2), 2) := by decide +kernel
theorem dX5_borrow_10 : decode cX5_borrow 10 = .ok (.ireturn, 1) := by decide +kernel
theorem dX5_borrow_11 : decode cX5_borrow 11 = .ok (.iload_n 2, 1) := by decide +kernel
theorem dX5_borrow_12 : decode cX5_borrow 12 = .ok (.i2l, 1) := by decide +kernel
theorem dX5_borrow_13 : decode cX5_borrow 13 = .ok (.lconst 1, 1) := by decide +kernel
theorem dX5_borrow_14 : decode cX5_borrow 14 = .ok (.ldc2_w 169, 3) := by decide +kernel
theorem dX5_borrow_17 : decode cX5_borrow 17 = .ok (.invokestatic 50, 3) := by decide +kernel
theorem dX5_borrow_20 : decode cX5_borrow 20 = .ok (.ifCond .ne 6, 3) := by decide +kernel
theorem dX5_borrow_23 : decode cX5_borrow 23 = .ok (.bipush (-3), 2) := by decide +kernel
theorem dX5_borrow_25 : decode cX5_borrow 25 = .ok (.ireturn, 1) := by decide +kernel
theorem dX5_borrow_26 : decode cX5_borrow 26 = .ok (.aload_n 0, 1) := by decide +kernel
theorem dX5_borrow_27 : decode cX5_borrow 27 = .ok (.iload_n 1, 1) := by decide +kernel
theorem dX5_borrow_28 : decode cX5_borrow 28 = .ok (.invokevirtual 171, 3) := by decide +kernel
theorem dX5_borrow_31 : decode cX5_borrow 31 = .ok (.ifCond .eq 15, 3) := by decide +kernel
theorem dX5_borrow_34 : decode cX5_borrow 34 = .ok (.aload_n 0, 1) := by decide +kernel
theorem dX5_borrow_35 : decode cX5_borrow 35 = .ok (.getfield 7, 3) := by decide +kernel
theorem dX5_borrow_38 : decode cX5_borrow 38 = .ok (.iconst 2, 1) := by decide +kernel
theorem dX5_borrow_39 : decode cX5_borrow 39 = .ok (.iload_n 1, 1) := by decide +kernel
theorem dX5_borrow_40 : decode cX5_borrow 40 = .ok (.iadd, 1) := by decide +kernel
theorem dX5_borrow_41 : decode cX5_borrow 41 = .ok (.iaload, 1) := by decide +kernel
theorem dX5_borrow_42 : decode cX5_borrow 42 = .ok (.iload_n 2, 1) := by decide +kernel
theorem dX5_borrow_43 : decode cX5_borrow 43 = .ok (.if_icmp .ge 6, 3) := by decide +kernel
theorem dX5_borrow_46 : decode cX5_borrow 46 = .ok (.bipush (-4), 2) := by decide +kernel
theorem dX5_borrow_48 : decode cX5_borrow 48 = .ok (.ireturn, 1) := by decide +kernel
theorem dX5_borrow_49 : decode cX5_borrow 49 = .ok (.aload_n 0, 1) := by decide +kernel
theorem dX5_borrow_50 : decode cX5_borrow 50 = .ok (.getfield 7, 3) := by decide +kernel
theorem dX5_borrow_53 : decode cX5_borrow 53 = .ok (.bipush 14, 2) := by decide +kernel
theorem dX5_borrow_55 : decode cX5_borrow 55 = .ok (.iaload, 1) := by decide +kernel
theorem dX5_borrow_56 : decode cX5_borrow 56 = .ok (.istore_n 3, 1) := by decide +kernel
theorem dX5_borrow_57 : decode cX5_borrow 57 = .ok (.iload_n 3, 1) := by decide +kernel
theorem dX5_borrow_58 : decode cX5_borrow 58 = .ok (.bipush 12, 2) := by decide +kernel
theorem dX5_borrow_60 : decode cX5_borrow 60 = .ok (.if_icmp .ne 6, 3) := by decide +kernel
theorem dX5_borrow_63 : decode cX5_borrow 63 = .ok (.bipush (-5), 2) := by decide +kernel
theorem dX5_borrow_65 : decode cX5_borrow 65 = .ok (.ireturn, 1) := by decide +kernel
theorem dX5_borrow_66 : decode cX5_borrow 66 = .ok (.aload_n 0, 1) := by decide +kernel
theorem dX5_borrow_67 : decode cX5_borrow 67 = .ok (.getfield 7, 3) := by decide +kernel
theorem dX5_borrow_70 : decode cX5_borrow 70 = .ok (.iconst 0, 1) := by decide +kernel
theorem dX5_borrow_71 : decode cX5_borrow 71 = .ok (.iload_n 3, 1) := by decide +kernel
theorem dX5_borrow_72 : decode cX5_borrow 72 = .ok (.iconst 0, 1) := by decide +kernel
theorem dX5_borrow_73 : decode cX5_borrow 73 = .ok (.invokestatic 136, 3) := by decide +kernel
theorem dX5_borrow_76 : decode cX5_borrow 76 = .ok (.iload_n 1, 1) := by decide +kernel
theorem dX5_borrow_77 : decode cX5_borrow 77 = .ok (.iastore, 1) := by decide +kernel
theorem dX5_borrow_78 : decode cX5_borrow 78 = .ok (.aload_n 0, 1) := by decide +kernel
theorem dX5_borrow_79 : decode cX5_borrow 79 = .ok (.getfield 7, 3) := by decide +kernel
theorem dX5_borrow_82 : decode cX5_borrow 82 = .ok (.iconst 0, 1) := by decide +kernel
theorem dX5_borrow_83 : decode cX5_borrow 83 = .ok (.iload_n 3, 1) := by decide +kernel
theorem dX5_borrow_84 : decode cX5_borrow 84 = .ok (.iconst 1, 1) := by decide +kernel
theorem dX5_borrow_85 : decode cX5_borrow 85 = .ok (.invokestatic 136, 3) := by decide +kernel
theorem dX5_borrow_88 : decode cX5_borrow 88 = .ok (.iload_n 2, 1) := by decide +kernel
theorem dX5_borrow_89 : decode cX5_borrow 89 = .ok (.iastore, 1) := by decide +kernel
theorem dX5_borrow_90 : decode cX5_borrow 90 = .ok (.aload_n 0, 1) := by decide +kernel
theorem dX5_borrow_91 : decode cX5_borrow 91 = .ok (.getfield 7, 3) := by decide +kernel
theorem dX5_borrow_94 : decode cX5_borrow 94 = .ok (.iconst 0, 1) := by decide +kernel
theorem dX5_borrow_95 : decode cX5_borrow 95 = .ok (.iload_n 3, 1) := by decide +kernel
theorem dX5_borrow_96 : decode cX5_borrow 96 = .ok (.iconst 2, 1) := by decide +kernel
theorem dX5_borrow_97 : decode cX5_borrow 97 = .ok (.invokestatic 136, 3) := by decide +kernel
theorem dX5_borrow_100 : decode cX5_borrow 100 = .ok (.bipush 100, 2) := by decide +kernel
theorem dX5_borrow_102 : decode cX5_borrow 102 = .ok (.iload_n 2, 1) := by decide +kernel
theorem dX5_borrow_103 : decode cX5_borrow 103 = .ok (.imul, 1) := by decide +kernel
theorem dX5_borrow_104 : decode cX5_borrow 104 = .ok (.iastore, 1) := by decide +kernel
theorem dX5_borrow_105 : decode cX5_borrow 105 = .ok (.aload_n 0, 1) := by decide +kernel
theorem dX5_borrow_106 : decode cX5_borrow 106 = .ok (.getfield 7, 3) := by decide +kernel
theorem dX5_borrow_109 : decode cX5_borrow 109 = .ok (.iconst 0, 1) := by decide +kernel
theorem dX5_borrow_110 : decode cX5_borrow 110 = .ok (.iload_n 3, 1) := by decide +kernel
theorem dX5_borrow_111 : decode cX5_borrow 111 = .ok (.iconst 3, 1) := by decide +kernel
theorem dX5_borrow_112 : decode cX5_borrow 112 = .ok (.invokestatic 136, 3) := by decide +kernel
theorem dX5_borrow_115 : decode cX5_borrow 115 = .ok (.aload_n 0, 1) := by decide +kernel
theorem dX5_borrow_116 : decode cX5_borrow 116 = .ok (.getfield 7, 3) := by decide +kernel
theorem dX5_borrow_119 : decode cX5_borrow 119 = .ok (.iconst 0, 1) := by decide +kernel
theorem dX5_borrow_120 : decode cX5_borrow 120 = .ok (.iaload, 1) := by decide +kernel
theorem dX5_borrow_121 : decode cX5_borrow 121 = .ok (.aload_n 0, 1) := by decide +kernel
theorem dX5_borrow_122 : decode cX5_borrow 122 = .ok (.getfield 23, 3) := by decide +kernel
theorem dX5_borrow_125 : decode cX5_borrow 125 = .ok (.iload_n 1, 1) := by decide +kernel
theorem dX5_borrow_126 : decode cX5_borrow 126 = .ok (.iaload, 1) := by decide +kernel
theorem dX5_borrow_127 : decode cX5_borrow 127 = .ok (.iconst 1, 1) := by decide +kernel
theorem dX5_borrow_128 : decode cX5_borrow 128 = .ok (.if_icmp .ne 7, 3) := by decide +kernel
theorem dX5_borrow_131 : decode cX5_borrow 131 = .ok (.iconst 1, 1) := by decide +kernel
theorem dX5_borrow_132 : decode cX5_borrow 132 = .ok (.goto 9, 3) := by decide +kernel
theorem dX5_borrow_135 : decode cX5_borrow 135 = .ok (.aload_n 0, 1) := by decide +kernel
theorem dX5_borrow_136 : decode cX5_borrow 136 = .ok (.getfield 29, 3) := by decide +kernel
theorem dX5_borrow_139 : decode cX5_borrow 139 = .ok (.iload_n 1, 1) := by decide +kernel
theorem dX5_borrow_140 : decode cX5_borrow 140 = .ok (.iaload, 1) := by decide +kernel
theorem dX5_borrow_141 : decode cX5_borrow 141 = .ok (.iadd, 1) := by decide +kernel
theorem dX5_borrow_142 : decode cX5_borrow 142 = .ok (.iastore, 1) := by decide +kernel
theorem dX5_borrow_143 : decode cX5_borrow 143 = .ok (.aload_n 0, 1) := by decide +kernel
theorem dX5_borrow_144 : decode cX5_borrow 144 = .ok (.getfield 7, 3) := by decide +kernel
theorem dX5_borrow_147 : decode cX5_borrow 147 = .ok (.iconst 0, 1) := by decide +kernel
theorem dX5_borrow_148 : decode cX5_borrow 148 = .ok (.iload_n 3, 1) := by decide +kernel
theorem dX5_borrow_149 : decode cX5_borrow 149 = .ok (.iconst 4, 1) := by decide +kernel
theorem dX5_borrow_150 : decode cX5_borrow 150 = .ok (.invokestatic 136, 3) := by decide +kernel
theorem dX5_borrow_153 : decode cX5_borrow 153 = .ok (.iconst 0, 1) := by decide +kernel
theorem dX5_borrow_154 : decode cX5_borrow 154 = .ok (.iastore, 1) := by decide +kernel
theorem dX5_borrow_155 : decode cX5_borrow 155 = .ok (.aload_n 0, 1) := by decide +kernel
theorem dX5_borrow_156 : decode cX5_borrow 156 = .ok (.getfield 7, 3) := by decide +kernel
theorem dX5_borrow_159 : decode cX5_borrow 159 = .ok (.iconst 2, 1) := by decide +kernel
theorem dX5_borrow_160 : decode cX5_borrow 160 = .ok (.iload_n 1, 1) := by decide +kernel
theorem dX5_borrow_161 : decode cX5_borrow 161 = .ok (.iadd, 1) := by decide +kernel
theorem dX5_borrow_162 : decode cX5_borrow 162 = .ok (.dup2, 1) := by decide +kernel
theorem dX5_borrow_163 : decode cX5_borrow 163 = .ok (.iaload, 1) := by decide +kernel
theorem dX5_borrow_164 : decode cX5_borrow 164 = .ok (.iload_n 2, 1) := by decide +kernel
theorem dX5_borrow_165 : decode cX5_borrow 165 = .ok (.isub, 1) := by decide +kernel
theorem dX5_borrow_166 : decode cX5_borrow 166 = .ok (.iastore, 1) := by decide +kernel
theorem dX5_borrow_167 : decode cX5_borrow 167 = .ok (.aload_n 0, 1) := by decide +kernel
theorem dX5_borrow_168 : decode cX5_borrow 168 = .ok (.getfield 7, 3) := by decide +kernel
theorem dX5_borrow_171 : decode cX5_borrow 171 = .ok (.bipush 14, 2) := by decide +kernel
theorem dX5_borrow_173 : decode cX5_borrow 173 = .ok (.dup2, 1) := by decide +kernel
theorem dX5_borrow_174 : decode cX5_borrow 174 = .ok (.iaload, 1) := by decide +kernel
theorem dX5_borrow_175 : decode cX5_borrow 175 = .ok (.iconst 1, 1) := by decide +kernel
theorem dX5_borrow_176 : decode cX5_borrow 176 = .ok (.iadd, 1) := by decide +kernel
theorem dX5_borrow_177 : decode cX5_borrow 177 = .ok (.iastore, 1) := by decide +kernel
theorem dX5_borrow_178 : decode cX5_borrow 178 = .ok (.iload_n 3, 1) := by decide +kernel
theorem dX5_borrow_179 : decode cX5_borrow 179 = .ok (.ireturn, 1) := by decide +kernel
set_option maxRecDepth 20000 in
theorem ggX5_days_X5_in : GoodIn wsX5_days wsX5_in := goodIn_sub (List.forall_mem_cons.mpr ⟨List.mem_cons_of_mem _ (List.mem_append_left _ (List.mem_append_left _ (List.mem_of_getElem? (i := 6) rfl))), (fun _ h => absurd h List.not_mem_nil)⟩) (by decide +kernel)
set_option maxRecDepth 20000 in
theorem gX5_days_X5_in : GoodIn wsX5_days (va_wsS RX5 50 yX5_in wsX5_in) := goodIn_app (goodIn_sub (List.forall_mem_cons.mpr ⟨List.mem_cons_of_mem _ (List.mem_append_left _ (List.mem_append_left _ (List.mem_of_getElem? (i := 3) rfl))), List.forall_mem_cons.mpr ⟨List.mem_cons_of_mem _ (List.mem_append_left _ (List.mem_append_left _ (List.mem_of_getElem? (i := 4) rfl))), List.forall_mem_cons.mpr ⟨List.mem_cons_of_mem _ (List.mem_append_left _ (List.mem_append_left _ (List.mem_of_getElem? (i := 5) rfl))), (fun _ h => absurd h List.not_mem_nil)⟩⟩⟩) (by decide +kernel)) ggX5_days_X5_in
set_option maxRecDepth 20000 in
theorem ggX5_days_X5_day : GoodIn wsX5_days wsX5_day := goodIn_sub (List.forall_mem_cons.mpr ⟨List.mem_cons_of_mem _ (List.mem_append_left _ (List.mem_append_left _ (List.mem_of_getElem? (i := 10) rfl))), List.forall_mem_append.mpr ⟨List.forall_mem_append.mpr ⟨List.forall_mem_cons.mpr ⟨List.mem_cons_of_mem _ (List.mem_append_left _ (List.mem_append_left _ (List.mem_of_getElem? (i := 1) rfl))), List.forall_mem_cons.mpr ⟨List.mem_cons_of_mem _ (List.mem_append_left _ (List.mem_append_left _ (List.mem_of_getElem? (i := 11) rfl))), List.forall_mem_cons.mpr ⟨List.mem_cons_of_mem _ (List.mem_append_left _ (List.mem_append_left _ (List.mem_of_getElem? (i := 12) rfl))), List.forall_mem_cons.mpr ⟨List.mem_cons_of_mem _ (List.mem_append_left _ (List.mem_append_left _ (List.mem_of_getElem? (i := 5) rfl))), List.forall_mem_cons.mpr ⟨List.mem_cons_of_mem _ (List.mem_append_left _ (List.mem_append_left _ (List.mem_of_getElem? (i := 13) rfl))), List.forall_mem_cons.mpr ⟨List.mem_cons_of_mem _ (List.mem_append_left _ (List.mem_append_left _ (List.mem_of_getElem? (i := 14) rfl))), List.forall_mem_cons.mpr ⟨List.mem_cons_of_mem _ (List.mem_append_left _ (List.mem_append_left _ (List.mem_of_getElem? (i := 15) rfl))), List.forall_mem_cons.mpr ⟨List.mem_cons_of_mem _ (List.mem_append_left _ (List.mem_append_left _ (List.mem_of_getElem? (i := 16) rfl))), List.forall_mem_cons.mpr ⟨List.mem_cons_of_mem _ (List.mem_append_left _ (List.mem_append_left _ (List.mem_of_getElem? (i := 17) rfl))), List.forall_mem_cons.mpr ⟨List.mem_cons_of_mem _ (List.mem_append_left _ (List.mem_append_left _ (List.mem_of_getElem? (i := 18) rfl))), List.forall_mem_cons.mpr ⟨List.mem_cons_of_mem _ (List.mem_append_left _ (List.mem_append_left _ (List.mem_of_getElem? (i := 19) rfl))), List.forall_mem_cons.mpr ⟨List.mem_cons_of_mem _ (List.mem_append_left _ (List.mem_append_left _ (List.mem_of_getElem? (i := 20) rfl))), List.forall_mem_cons.mpr ⟨List.mem_cons_of_mem _ (List.mem_append_left _ (List.mem_append_left _ (List.mem_of_getElem? (i := 21) rfl))), List.forall_mem_cons.mpr ⟨List.mem_cons_of_mem _ (List.mem_append_left _ (List.mem_append_left _ (List.mem_of_getElem? (i := 22) rfl))), List.forall_mem_cons.mpr ⟨List.mem_cons_of_mem _ (List.mem_append_left _ (List.mem_append_left _ (List.mem_of_getElem? (i := 23) rfl))), List.forall_mem_cons.mpr ⟨List.mem_cons_of_mem _ (List.mem_append_left _ (List.mem_append_right _ (List.mem_of_getElem? (i := 0) rfl))), List.forall_mem_cons.mpr ⟨List.mem_cons_of_mem _ (List.mem_append_left _ (List.mem_append_right _ (List.mem_of_getElem? (i := 1) rfl))), List.forall_mem_cons.mpr ⟨List.mem_cons_of_mem _ (List.mem_append_left _ (List.mem_append_right _ (List.mem_of_getElem? (i := 2) rfl))), List.forall_mem_cons.mpr ⟨List.mem_cons_of_mem _ (List.mem_append_left _ (List.mem_append_right _ (List.mem_of_getElem? (i := 3) rfl))), List.forall_mem_cons.mpr ⟨List.mem_cons_of_mem _ (List.mem_append_left _ (List.mem_append_right _ (List.mem_of_getElem? (i := 4) rfl))), List.forall_mem_cons.mpr ⟨List.mem_cons_of_mem _ (List.mem_append_left _ (List.mem_append_right _ (List.mem_of_getElem? (i := 5) rfl))), List.forall_mem_cons.mpr ⟨List.mem_cons_of_mem _ (List.mem_append_left _ (List.mem_append_right _ (List.mem_of_getElem? (i := 6) rfl))), List.forall_mem_cons.mpr ⟨List.mem_cons_of_mem _ (List.mem_append_left _ (List.mem_append_right _ (List.mem_of_getElem? (i := 7) rfl))), List.forall_mem_cons.mpr ⟨List.mem_cons_of_mem _ (List.mem_append_left _ (List.mem_append_right _ (List.mem_of_getElem? (i := 8) rfl))), (fun _ h => absurd h List.not_mem_nil)⟩⟩⟩⟩⟩⟩⟩⟩⟩⟩⟩⟩⟩⟩⟩⟩⟩⟩⟩⟩⟩⟩⟩⟩, List.forall_mem_cons.mpr ⟨List.mem_cons_of_mem _ (List.mem_append_left _ (List.mem_append_right _ (List.mem_of_getElem? (i := 9) rfl))), List.forall_mem_cons.mpr ⟨List.mem_cons_of_mem _ (List.mem_append_left _ (List.mem_append_right _ (List.mem_of_getElem? (i := 10) rfl))), List.forall_mem_cons.mpr ⟨List.mem_cons_of_mem _ (List.mem_append_left _ (List.mem_append_right _ (List.mem_of_getElem? (i := 11) rfl))), (fun _ h => absurd h List.not_mem_nil)⟩⟩⟩⟩, (fun _ h => List.mem_cons_of_mem _ (List.mem_append_right _ (h)))⟩⟩) (by decide +kernel)
set_option maxRecDepth 20000 in
theorem gX5_days_X5_day : GoodIn wsX5_days (wsV RX5 174 RX5 yX5_day wsX5_day) := goodIn_app (goodIn_sub (List.forall_mem_cons.mpr ⟨List.mem_cons_of_mem _ (List.mem_append_left _ (List.mem_append_left _ (List.mem_of_getElem? (i := 7) rfl))), List.forall_mem_cons.mpr ⟨List.mem_cons_of_mem _ (List.mem_append_left _ (List.mem_append_left _ (List.mem_of_getElem? (i := 8) rfl))), List.forall_mem_cons.mpr ⟨List.mem_cons_of_mem _ (List.mem_append_left _ (List.mem_append_left _ (List.mem_of_getElem? (i := 9) rfl))), List.forall_mem_cons.mpr ⟨List.mem_cons_of_mem _ (List.mem_append_left _ (List.mem_append_left _ (List.mem_of_getElem? (i := 5) rfl))), (fun _ h => absurd h List.not_mem_nil)⟩⟩⟩⟩) (by decide +kernel)) ggX5_days_X5_day
theorem dX5_days_0 : decode cX5_days 0 = .ok (.iload_n 1, 1) := by decide +kernel
theorem dX5_days_1 : decode cX5_days 1 = .ok (.i2l, 1) := by decide +kernel
theorem dX5_days_2 : decode cX5_days 2 = .ok (.lconst 1, 1) := by decide +kernel
theorem dX5_days_3 : decode cX5_days 3 = .ok (.ldc2_w 169, 3) := by decide +kernel
theorem dX5_days_6 : decode cX5_days 6 = .ok (.invokestatic 50, 3) := by decide +kernel
theorem dX5_days_9 : decode cX5_days 9 = .ok (.ifCond .ne 6, 3) := by decide +kernel
theorem dX5_days_12 : decode cX5_days 12 = .ok (.bipush (-3), 2) := by decide +kernel
theorem dX5_days_14 : decode cX5_days 14 = .ok (.ireturn, 1) := by decide +kernel
theorem dX5_days_15 : decode cX5_days 15 = .ok (.aload_n 0, 1) := by decide +kernel
theorem dX5_days_16 : decode cX5_days 16 = .ok (.getfield 7, 3) := by decide +kernel
theorem dX5_days_19 : decode cX5_days 19 = .ok (.iconst 0, 1) := by decide +kernel
theorem dX5_days_20 : decode cX5_days 20 = .ok (.iaload, 1) := by decide +kernel
theorem dX5_days_21 : decode cX5_days 21 = .ok (.iload_n 1, 1) := by decide +kernel
theorem dX5_days_22 : decode cX5_days 22 = .ok (.iadd, 1) := by decide +kernel
theorem dX5_days_23 : decode cX5_days 23 = .ok (.sipush 9999, 3) := by decide +kernel
theorem dX5_days_26 : decode cX5_days 26 = .ok (.if_icmp .le 6, 3) := by decide +kernel
theorem dX5_days_29 : decode cX5_days 29 = .ok (.bipush (-5), 2) := by decide +kernel
theorem dX5_days_31 : decode cX5_days 31 = .ok (.ireturn, 1) := by decide +kernel
theorem dX5_days_32 : decode cX5_days 32 = .ok (.iconst 0, 1) := by decide +kernel
theorem dX5_days_33 : decode cX5_days 33 = .ok (.istore_n 2, 1) := by decide +kernel
theorem dX5_days_34 : decode cX5_days 34 = .ok (.iload_n 2, 1) := by decide +kernel
theorem dX5_days_35 : decode cX5_days 35 = .ok (.iload_n 1, 1) := by decide +kernel
theorem dX5_days_36 : decode cX5_days 36 = .ok (.if_icmp .ge 18, 3) := by decide +kernel
theorem dX5_days_39 : decode cX5_days 39 = .ok (.aload_n 0, 1) := by decide +kernel
theorem dX5_days_40 : decode cX5_days 40 = .ok (.iconst 0, 1) := by decide +kernel
theorem dX5_days_41 : decode cX5_days 41 = .ok (.aload_n 0, 1) := by decide +kernel
theorem dX5_days_42 : decode cX5_days 42 = .ok (.getfield 38, 3) := by decide +kernel
theorem dX5_days_45 : decode cX5_days 45 = .ok (.invokevirtual 174, 3) := by decide +kernel
theorem dX5_days_48 : decode cX5_days 48 = .ok (.iinc 2 1, 3) := by decide +kernel
theorem dX5_days_51 : decode cX5_days 51 = .ok (.goto (-17), 3) := by decide +kernel
theorem dX5_days_54 : decode cX5_days 54 = .ok (.aload_n 0, 1) := by decide +kernel
theorem dX5_days_55 : decode cX5_days 55 = .ok (.getfield 7, 3) := by decide +kernel
theorem dX5_days_58 : decode cX5_days 58 = .ok (.iconst 0, 1) := by decide +kernel
theorem dX5_days_59 : decode cX5_days 59 = .ok (.iaload, 1) := by decide +kernel
theorem dX5_days_60 : decode cX5_days 60 = .ok (.ireturn, 1) := by decide +kernel
set_option maxRecDepth 20000 in
theorem ggX5_burn_X5_placeOf : GoodIn wsX5_burn wsX5_placeOf := goodIn_sub (List.forall_mem_cons.mpr ⟨List.mem_cons_of_mem _ (List.mem_append_left _ (List.mem_of_getElem? (i := 4) rfl)), (fun _ h => absurd h List.not_mem_nil)⟩) (by decide +kernel)
set_option maxRecDepth 20000 in
theorem gX5_burn_X5_placeOf : GoodIn wsX5_burn (va_wsS RX5 136 yX5_placeOf wsX5_placeOf) := goodIn_app (goodIn_sub (List.forall_mem_cons.mpr ⟨List.mem_cons_of_mem _ (List.mem_append_left _ (List.mem_of_getElem? (i := 1) rfl)), List.forall_mem_cons.mpr ⟨List.mem_cons_of_mem _ (List.mem_append_left _ (List.mem_of_getElem? (i := 2) rfl)), List.forall_mem_cons.mpr ⟨List.mem_cons_of_mem _ (List.mem_append_left _ (List.mem_of_getElem? (i := 3) rfl)), (fun _ h => absurd h List.not_mem_nil)⟩⟩⟩) (by decide +kernel)) ggX5_burn_X5_placeOf
set_option maxRecDepth 20000 in
theorem ggX5_burn_X5_remove : GoodIn wsX5_burn wsX5_remove := goodIn_sub (List.forall_mem_cons.mpr ⟨List.mem_cons_of_mem _ (List.mem_append_left _ (List.mem_of_getElem? (i := 8) rfl)), List.forall_mem_append.mpr ⟨List.forall_mem_cons.mpr ⟨List.mem_cons_of_mem _ (List.mem_append_left _ (List.mem_of_getElem? (i := 0) rfl)), List.forall_mem_cons.mpr ⟨List.mem_cons_of_mem _ (List.mem_append_left _ (List.mem_of_getElem? (i := 1) rfl)), List.forall_mem_cons.mpr ⟨List.mem_cons_of_mem _ (List.mem_append_left _ (List.mem_of_getElem? (i := 2) rfl)), List.forall_mem_cons.mpr ⟨List.mem_cons_of_mem _ (List.mem_append_left _ (List.mem_of_getElem? (i := 3) rfl)), List.forall_mem_cons.mpr ⟨List.mem_cons_of_mem _ (List.mem_append_left _ (List.mem_of_getElem? (i := 4) rfl)), (fun _ h => absurd h List.not_mem_nil)⟩⟩⟩⟩⟩, (fun _ h => List.mem_cons_of_mem _ (List.mem_append_right _ (h)))⟩⟩) (by decide +kernel)
set_option maxRecDepth 20000 in
theorem gX5_burn_X5_remove : GoodIn wsX5_burn (wsV RX5 157 RX5 yX5_remove wsX5_remove) := goodIn_app (goodIn_sub (List.forall_mem_cons.mpr ⟨List.mem_cons_of_mem _ (List.mem_append_left _ (List.mem_of_getElem? (i := 5) rfl)), List.forall_mem_cons.mpr ⟨List.mem_cons_of_mem _ (List.mem_append_left _ (List.mem_of_getElem? (i := 6) rfl)), List.forall_mem_cons.mpr ⟨List.mem_cons_of_mem _ (List.mem_append_left _ (List.mem_of_getElem? (i := 7) rfl)), List.forall_mem_cons.mpr ⟨List.mem_cons_of_mem _ (List.mem_append_left _ (List.mem_of_getElem? (i := 3) rfl)), (fun _ h => absurd h List.not_mem_nil)⟩⟩⟩⟩) (by decide +kernel)) ggX5_burn_X5_remove
theorem dX5_burn_0 : decode cX5_burn 0 = .ok (.aload_n 0, 1) := by decide +kernel
theorem dX5_burn_1 : decode cX5_burn 1 = .ok (.getfield 7, 3) := by decide +kernel
theorem dX5_burn_4 : decode cX5_burn 4 = .ok (.bipush 8, 2) := by decide +kernel
theorem dX5_burn_6 : decode cX5_burn 6 = .ok (.iload_n 1, 1) := by decide +kernel
theorem dX5_burn_7 : decode cX5_burn 7 = .ok (.iadd, 1) := by decide +kernel
theorem dX5_burn_8 : decode cX5_burn 8 = .ok (.iconst 1, 1) := by decide +kernel
theorem dX5_burn_9 : decode cX5_burn 9 = .ok (.iastore, 1) := by decide +kernel
theorem dX5_burn_10 : decode cX5_burn 10 = .ok (.aload_n 0, 1) := by decide +kernel
theorem dX5_burn_11 : decode cX5_burn 11 = .ok (.getfield 7, 3) := by decide +kernel
theorem dX5_burn_14 : decode cX5_burn 14 = .ok (.bipush 14, 2) := by decide +kernel
theorem dX5_burn_16 : decode cX5_burn 16 = .ok (.iaload, 1) := by decide +kernel
theorem dX5_burn_17 : decode cX5_burn 17 = .ok (.iconst 1, 1) := by decide +kernel
theorem dX5_burn_18 : decode cX5_burn 18 = .ok (.isub, 1) := by decide +kernel
theorem dX5_burn_19 : decode cX5_burn 19 = .ok (.istore_n 2, 1) := by decide +kernel
theorem dX5_burn_20 : decode cX5_burn 20 = .ok (.iload_n 2, 1) := by decide +kernel
theorem dX5_burn_21 : decode cX5_burn 21 = .ok (.ifCond .lt 30, 3) := by decide +kernel
theorem dX5_burn_24 : decode cX5_burn 24 = .ok (.aload_n 0, 1) := by decide +kernel
theorem dX5_burn_25 : decode cX5_burn 25 = .ok (.getfield 7, 3) := by decide +kernel
theorem dX5_burn_28 : decode cX5_burn 28 = .ok (.iconst 0, 1) := by decide +kernel
theorem dX5_burn_29 : decode cX5_burn 29 = .ok (.iload_n 2, 1) := by decide +kernel
theorem dX5_burn_30 : decode cX5_burn 30 = .ok (.iconst 0, 1) := by decide +kernel
theorem dX5_burn_31 : decode cX5_burn 31 = .ok (.invokestatic 136, 3) := by decide +kernel
theorem dX5_burn_34 : decode cX5_burn 34 = .ok (.iaload, 1) := by decide +kernel
theorem dX5_burn_35 : decode cX5_burn 35 = .ok (.iload_n 1, 1) := by decide +kernel
theorem dX5_burn_36 : decode cX5_burn 36 = .ok (.if_icmp .ne 9, 3) := by decide +kernel
theorem dX5_burn_39 : decode cX5_burn 39 = .ok (.aload_n 0, 1) := by decide +kernel
theorem dX5_burn_40 : decode cX5_burn 40 = .ok (.iconst 0, 1) := by decide +kernel
theorem dX5_burn_41 : decode cX5_burn 41 = .ok (.iload_n 2, 1) := by decide +kernel
theorem dX5_burn_42 : decode cX5_burn 42 = .ok (.invokevirtual 157, 3) := by decide +kernel
theorem dX5_burn_45 : decode cX5_burn 45 = .ok (.iinc 2 (-1), 3) := by decide +kernel
theorem dX5_burn_48 : decode cX5_burn 48 = .ok (.goto (-28), 3) := by decide +kernel
theorem dX5_burn_51 : decode cX5_burn 51 = .ok (.return_, 1) := by decide +kernel
set_option maxRecDepth 20000 in
theorem ggX5_fire_X5_in : GoodIn wsX5_fire wsX5_in := goodIn_sub (List.forall_mem_cons.mpr ⟨List.mem_cons_of_mem _ (List.mem_append_left _ (List.mem_of_getElem? (i := 6) rfl)), (fun _ h => absurd h List.not_mem_nil)⟩) (by decide +kernel)

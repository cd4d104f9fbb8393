set_option maxRecDepth 20000 in
theorem gX5_fire_X5_in : GoodIn wsX5_fire (va_wsS RX5 50 yX5_in wsX5_in) := goodIn_app (goodIn_sub (List.forall_mem_cons.mpr ⟨List.mem_cons_of_mem _ (List.mem_append_left _ (List.mem_of_getElem? (i := 3) rfl)), List.forall_mem_cons.mpr ⟨List.mem_cons_of_mem _ (List.mem_append_left _ (List.mem_of_getElem? (i := 4) rfl)), List.forall_mem_cons.mpr ⟨List.mem_cons_of_mem _ (List.mem_append_left _ (List.mem_of_getElem? (i := 5) rfl)), (fun _ h => absurd h List.not_mem_nil)⟩⟩⟩) (by decide +kernel)) ggX5_fire_X5_in
set_option maxRecDepth 20000 in
theorem ggX5_fire_X5_lives : GoodIn wsX5_fire wsX5_lives := goodIn_sub (List.forall_mem_cons.mpr ⟨List.mem_cons_of_mem _ (List.mem_append_left _ (List.mem_of_getElem? (i := 10) rfl)), List.forall_mem_append.mpr ⟨List.forall_mem_cons.mpr ⟨List.mem_cons_of_mem _ (List.mem_append_left _ (List.mem_of_getElem? (i := 11) rfl)), (fun _ h => absurd h List.not_mem_nil)⟩, (fun _ h => List.mem_cons_of_mem _ (List.mem_append_right _ (h)))⟩⟩) (by decide +kernel)
set_option maxRecDepth 20000 in
theorem gX5_fire_X5_lives : GoodIn wsX5_fire (wsV RX5 144 RX5 yX5_lives wsX5_lives) := goodIn_app (goodIn_sub (List.forall_mem_cons.mpr ⟨List.mem_cons_of_mem _ (List.mem_append_left _ (List.mem_of_getElem? (i := 7) rfl)), List.forall_mem_cons.mpr ⟨List.mem_cons_of_mem _ (List.mem_append_left _ (List.mem_of_getElem? (i := 8) rfl)), List.forall_mem_cons.mpr ⟨List.mem_cons_of_mem _ (List.mem_append_left _ (List.mem_of_getElem? (i := 9) rfl)), List.forall_mem_cons.mpr ⟨List.mem_cons_of_mem _ (List.mem_append_left _ (List.mem_of_getElem? (i := 5) rfl)), (fun _ h => absurd h List.not_mem_nil)⟩⟩⟩⟩) (by decide +kernel)) ggX5_fire_X5_lives
set_option maxRecDepth 20000 in
theorem ggX5_fire_X5_burn : GoodIn wsX5_fire wsX5_burn := goodIn_sub (List.forall_mem_cons.mpr ⟨List.mem_cons_of_mem _ (List.mem_append_left _ (List.mem_of_getElem? (i := 15) rfl)), List.forall_mem_append.mpr ⟨List.forall_mem_cons.mpr ⟨List.mem_cons_of_mem _ (List.mem_append_left _ (List.mem_of_getElem? (i := 11) rfl)), List.forall_mem_cons.mpr ⟨List.mem_cons_of_mem _ (List.mem_append_left _ (List.mem_of_getElem? (i := 16) rfl)), List.forall_mem_cons.mpr ⟨List.mem_cons_of_mem _ (List.mem_append_left _ (List.mem_of_getElem? (i := 17) rfl)), List.forall_mem_cons.mpr ⟨List.mem_cons_of_mem _ (List.mem_append_left _ (List.mem_of_getElem? (i := 5) rfl)), List.forall_mem_cons.mpr ⟨List.mem_cons_of_mem _ (List.mem_append_left _ (List.mem_of_getElem? (i := 18) rfl)), List.forall_mem_cons.mpr ⟨List.mem_cons_of_mem _ (List.mem_append_left _ (List.mem_of_getElem? (i := 19) rfl)), List.forall_mem_cons.mpr ⟨List.mem_cons_of_mem _ (List.mem_append_left _ (List.mem_of_getElem? (i := 20) rfl)), List.forall_mem_cons.mpr ⟨List.mem_cons_of_mem _ (List.mem_append_left _ (List.mem_of_getElem? (i := 21) rfl)), List.forall_mem_cons.mpr ⟨List.mem_cons_of_mem _ (List.mem_append_left _ (List.mem_of_getElem? (i := 22) rfl)), (fun _ h => absurd h List.not_mem_nil)⟩⟩⟩⟩⟩⟩⟩⟩⟩, (fun _ h => List.mem_cons_of_mem _ (List.mem_append_right _ (h)))⟩⟩) (by decide +kernel)
set_option maxRecDepth 20000 in
theorem gX5_fire_X5_burn : GoodIn wsX5_fire (wsV RX5 179 RX5 yX5_burn wsX5_burn) := goodIn_app (goodIn_sub (List.forall_mem_cons.mpr ⟨List.mem_cons_of_mem _ (List.mem_append_left _ (List.mem_of_getElem? (i := 12) rfl)), List.forall_mem_cons.mpr ⟨List.mem_cons_of_mem _ (List.mem_append_left _ (List.mem_of_getElem? (i := 13) rfl)), List.forall_mem_cons.mpr ⟨List.mem_cons_of_mem _ (List.mem_append_left _ (List.mem_of_getElem? (i := 14) rfl)), List.forall_mem_cons.mpr ⟨List.mem_cons_of_mem _ (List.mem_append_left _ (List.mem_of_getElem? (i := 5) rfl)), (fun _ h => absurd h List.not_mem_nil)⟩⟩⟩⟩) (by decide +kernel)) ggX5_fire_X5_burn
theorem dX5_fire_0 : decode cX5_fire 0 = .ok (.iload_n 1, 1) := by decide +kernel
theorem dX5_fire_1 : decode cX5_fire 1 = .ok (.i2l, 1) := by decide +kernel
theorem dX5_fire_2 : decode cX5_fire 2 = .ok (.lconst 0, 1) := by decide +kernel
theorem dX5_fire_3 : decode cX5_fire 3 = .ok (.ldc2_w 177, 3) := by decide +kernel
theorem dX5_fire_6 : decode cX5_fire 6 = .ok (.invokestatic 50, 3) := by decide +kernel
theorem dX5_fire_9 : decode cX5_fire 9 = .ok (.ifCond .ne 6, 3) := by decide +kernel
theorem dX5_fire_12 : decode cX5_fire 12 = .ok (.bipush (-3), 2) := by decide +kernel
theorem dX5_fire_14 : decode cX5_fire 14 = .ok (.ireturn, 1) := by decide +kernel
theorem dX5_fire_15 : decode cX5_fire 15 = .ok (.iconst 0, 1) := by decide +kernel
theorem dX5_fire_16 : decode cX5_fire 16 = .ok (.istore_n 2, 1) := by decide +kernel
theorem dX5_fire_17 : decode cX5_fire 17 = .ok (.iconst 0, 1) := by decide +kernel
theorem dX5_fire_18 : decode cX5_fire 18 = .ok (.istore_n 3, 1) := by decide +kernel
theorem dX5_fire_19 : decode cX5_fire 19 = .ok (.iload_n 3, 1) := by decide +kernel
theorem dX5_fire_20 : decode cX5_fire 20 = .ok (.aload_n 0, 1) := by decide +kernel
theorem dX5_fire_21 : decode cX5_fire 21 = .ok (.getfield 115, 3) := by decide +kernel
theorem dX5_fire_24 : decode cX5_fire 24 = .ok (.if_icmp .ge 35, 3) := by decide +kernel
theorem dX5_fire_27 : decode cX5_fire 27 = .ok (.aload_n 0, 1) := by decide +kernel
theorem dX5_fire_28 : decode cX5_fire 28 = .ok (.getfield 32, 3) := by decide +kernel
theorem dX5_fire_31 : decode cX5_fire 31 = .ok (.iload_n 3, 1) := by decide +kernel
theorem dX5_fire_32 : decode cX5_fire 32 = .ok (.iaload, 1) := by decide +kernel
theorem dX5_fire_33 : decode cX5_fire 33 = .ok (.iload_n 1, 1) := by decide +kernel
theorem dX5_fire_34 : decode cX5_fire 34 = .ok (.if_icmp .ne 19, 3) := by decide +kernel
theorem dX5_fire_37 : decode cX5_fire 37 = .ok (.aload_n 0, 1) := by decide +kernel
theorem dX5_fire_38 : decode cX5_fire 38 = .ok (.iload_n 3, 1) := by decide +kernel
theorem dX5_fire_39 : decode cX5_fire 39 = .ok (.invokevirtual 144, 3) := by decide +kernel
theorem dX5_fire_42 : decode cX5_fire 42 = .ok (.ifCond .eq 11, 3) := by decide +kernel
theorem dX5_fire_45 : decode cX5_fire 45 = .ok (.aload_n 0, 1) := by decide +kernel
theorem dX5_fire_46 : decode cX5_fire 46 = .ok (.iload_n 3, 1) := by decide +kernel
theorem dX5_fire_47 : decode cX5_fire 47 = .ok (.invokevirtual 179, 3) := by decide +kernel
theorem dX5_fire_50 : decode cX5_fire 50 = .ok (.iinc 2 1, 3) := by decide +kernel
theorem dX5_fire_53 : decode cX5_fire 53 = .ok (.iinc 3 1, 3) := by decide +kernel
theorem dX5_fire_56 : decode cX5_fire 56 = .ok (.goto (-37), 3) := by decide +kernel
theorem dX5_fire_59 : decode cX5_fire 59 = .ok (.iload_n 2, 1) := by decide +kernel
theorem dX5_fire_60 : decode cX5_fire 60 = .ok (.ireturn, 1) := by decide +kernel
set_option maxRecDepth 20000 in
theorem ggX5_sell_X5_isTree : GoodIn wsX5_sell wsX5_isTree := goodIn_sub (List.forall_mem_cons.mpr ⟨List.mem_cons_of_mem _ (List.mem_append_left _ (List.mem_of_getElem? (i := 5) rfl)), List.forall_mem_append.mpr ⟨List.forall_mem_cons.mpr ⟨List.mem_cons_of_mem _ (List.mem_append_left _ (List.mem_of_getElem? (i := 6) rfl)), List.forall_mem_cons.mpr ⟨List.mem_cons_of_mem _ (List.mem_append_left _ (List.mem_of_getElem? (i := 7) rfl)), List.forall_mem_cons.mpr ⟨List.mem_cons_of_mem _ (List.mem_append_left _ (List.mem_of_getElem? (i := 8) rfl)), List.forall_mem_cons.mpr ⟨List.mem_cons_of_mem _ (List.mem_append_left _ (List.mem_of_getElem? (i := 4) rfl)), List.forall_mem_cons.mpr ⟨List.mem_cons_of_mem _ (List.mem_append_left _ (List.mem_of_getElem? (i := 9) rfl)), (fun _ h => absurd h List.not_mem_nil)⟩⟩⟩⟩⟩, (fun _ h => List.mem_cons_of_mem _ (List.mem_append_right _ (h)))⟩⟩) (by decide +kernel)
set_option maxRecDepth 20000 in
theorem gX5_sell_X5_isTree : GoodIn wsX5_sell (wsV RX5 166 RX5 yX5_isTree wsX5_isTree) := goodIn_app (goodIn_sub (List.forall_mem_cons.mpr ⟨List.mem_cons_of_mem _ (List.mem_append_left _ (List.mem_of_getElem? (i := 1) rfl)), List.forall_mem_cons.mpr ⟨List.mem_cons_of_mem _ (List.mem_append_left _ (List.mem_of_getElem? (i := 2) rfl)), List.forall_mem_cons.mpr ⟨List.mem_cons_of_mem _ (List.mem_append_left _ (List.mem_of_getElem? (i := 3) rfl)), List.forall_mem_cons.mpr ⟨List.mem_cons_of_mem _ (List.mem_append_left _ (List.mem_of_getElem? (i := 4) rfl)), (fun _ h => absurd h List.not_mem_nil)⟩⟩⟩⟩) (by decide +kernel)) ggX5_sell_X5_isTree
set_option maxRecDepth 20000 in
theorem ggX5_sell_X5_lives : GoodIn wsX5_sell wsX5_lives := goodIn_sub (List.forall_mem_cons.mpr ⟨List.mem_cons_of_mem _ (List.mem_append_left _ (List.mem_of_getElem? (i := 13) rfl)), List.forall_mem_append.mpr ⟨List.forall_mem_cons.mpr ⟨List.mem_cons_of_mem _ (List.mem_append_left _ (List.mem_of_getElem? (i := 0) rfl)), (fun _ h => absurd h List.not_mem_nil)⟩, (fun _ h => List.mem_cons_of_mem _ (List.mem_append_right _ (h)))⟩⟩) (by decide +kernel)
set_option maxRecDepth 20000 in
theorem gX5_sell_X5_lives : GoodIn wsX5_sell (wsV RX5 144 RX5 yX5_lives wsX5_lives) := goodIn_app (goodIn_sub (List.forall_mem_cons.mpr ⟨List.mem_cons_of_mem _ (List.mem_append_left _ (List.mem_of_getElem? (i := 10) rfl)), List.forall_mem_cons.mpr ⟨List.mem_cons_of_mem _ (List.mem_append_left _ (List.mem_of_getElem? (i := 11) rfl)), List.forall_mem_cons.mpr ⟨List.mem_cons_of_mem _ (List.mem_append_left _ (List.mem_of_getElem? (i := 12) rfl)), List.forall_mem_cons.mpr ⟨List.mem_cons_of_mem _ (List.mem_append_left _ (List.mem_of_getElem? (i := 4) rfl)), (fun _ h => absurd h List.not_mem_nil)⟩⟩⟩⟩) (by decide +kernel)) ggX5_sell_X5_lives
set_option maxRecDepth 20000 in
theorem ggX5_sell_X5_placeOf : GoodIn wsX5_sell wsX5_placeOf := goodIn_sub (List.forall_mem_cons.mpr ⟨List.mem_cons_of_mem _ (List.mem_append_left _ (List.mem_of_getElem? (i := 16) rfl)), (fun _ h => absurd h List.not_mem_nil)⟩) (by decide +kernel)
set_option maxRecDepth 20000 in
theorem gX5_sell_X5_placeOf : GoodIn wsX5_sell (va_wsS RX5 136 yX5_placeOf wsX5_placeOf) := goodIn_app (goodIn_sub (List.forall_mem_cons.mpr ⟨List.mem_cons_of_mem _ (List.mem_append_left _ (List.mem_of_getElem? (i := 14) rfl)), List.forall_mem_cons.mpr ⟨List.mem_cons_of_mem _ (List.mem_append_left _ (List.mem_of_getElem? (i := 15) rfl)), List.forall_mem_cons.mpr ⟨List.mem_cons_of_mem _ (List.mem_append_left _ (List.mem_of_getElem? (i := 4) rfl)), (fun _ h => absurd h List.not_mem_nil)⟩⟩⟩) (by decide +kernel)) ggX5_sell_X5_placeOf
set_option maxRecDepth 20000 in
theorem ggX5_sell_X5_few : GoodIn wsX5_sell wsX5_few := goodIn_sub (List.forall_mem_cons.mpr ⟨List.mem_cons_of_mem _ (List.mem_append_left _ (List.mem_of_getElem? (i := 19) rfl)), (fun _ h => absurd h List.not_mem_nil)⟩) (by decide +kernel)
set_option maxRecDepth 20000 in
theorem gX5_sell_X5_few : GoodIn wsX5_sell (va_wsS RX5 154 yX5_few wsX5_few) := goodIn_app (goodIn_sub (List.forall_mem_cons.mpr ⟨List.mem_cons_of_mem _ (List.mem_append_left _ (List.mem_of_getElem? (i := 17) rfl)), List.forall_mem_cons.mpr ⟨List.mem_cons_of_mem _ (List.mem_append_left _ (List.mem_of_getElem? (i := 18) rfl)), List.forall_mem_cons.mpr ⟨List.mem_cons_of_mem _ (List.mem_append_left _ (List.mem_of_getElem? (i := 4) rfl)), (fun _ h => absurd h List.not_mem_nil)⟩⟩⟩) (by decide +kernel)) ggX5_sell_X5_few
theorem dX5_sell_0 : decode cX5_sell 0 = .ok (.aload_n 0, 1) := by decide +kernel
theorem dX5_sell_1 : decode cX5_sell 1 = .ok (.iload_n 1, 1) := by decide +kernel
theorem dX5_sell_2 : decode cX5_sell 2 = .ok (.invokevirtual 166, 3) := by decide +kernel
theorem dX5_sell_5 : decode cX5_sell 5 = .ok (.ifCond .eq 11, 3) := by decide +kernel
theorem dX5_sell_8 : decode cX5_sell 8 = .ok (.aload_n 0, 1) := by decide +kernel
theorem dX5_sell_9 : decode cX5_sell 9 = .ok (.iload_n 2, 1) := by decide +kernel
theorem dX5_sell_10 : decode cX5_sell 10 = .ok (.invokevirtual 166, 3) := by decide +kernel
theorem dX5_sell_13 : decode cX5_sell 13 = .ok (.ifCond .ne 6, 3) := by decide +kernel
theorem dX5_sell_16 : decode cX5_sell 16 = .ok (.bipush (-2), 2) := by decide +kernel
theorem dX5_sell_18 : decode cX5_sell 18 = .ok (.ireturn, 1) := by decide +kernel
theorem dX5_sell_19 : decode cX5_sell 19 = .ok (.iload_n 1, 1) := by decide +kernel
theorem dX5_sell_20 : decode cX5_sell 20 = .ok (.iload_n 2, 1) := by decide +kernel
theorem dX5_sell_21 : decode cX5_sell 21 = .ok (.if_icmp .ne 6, 3) := by decide +kernel
theorem dX5_sell_24 : decode cX5_sell 24 = .ok (.bipush (-3), 2) := by decide +kernel
theorem dX5_sell_26 : decode cX5_sell 26 = .ok (.ireturn, 1) := by decide +kernel
theorem dX5_sell_27 : decode cX5_sell 27 = .ok (.aload_n 0, 1) := by decide +kernel
theorem dX5_sell_28 : decode cX5_sell 28 = .ok (.iload_n 1, 1) := by decide +kernel
theorem dX5_sell_29 : decode cX5_sell 29 = .ok (.invokevirtual 144, 3) := by decide +kernel
theorem dX5_sell_32 : decode cX5_sell 32 = .ok (.ifCond .eq 11, 3) := by decide +kernel
theorem dX5_sell_35 : decode cX5_sell 35 = .ok (.aload_n 0, 1) := by decide +kernel
theorem dX5_sell_36 : decode cX5_sell 36 = .ok (.iload_n 2, 1) := by decide +kernel
theorem dX5_sell_37 : decode cX5_sell 37 = .ok (.invokevirtual 144, 3) := by decide +kernel
theorem dX5_sell_40 : decode cX5_sell 40 = .ok (.ifCond .ne 6, 3) := by decide +kernel
theorem dX5_sell_43 : decode cX5_sell 43 = .ok (.bipush (-4), 2) := by decide +kernel
theorem dX5_sell_45 : decode cX5_sell 45 = .ok (.ireturn, 1) := by decide +kernel
theorem dX5_sell_46 : decode cX5_sell 46 = .ok (.iconst 0, 1) := by decide +kernel
theorem dX5_sell_47 : decode cX5_sell 47 = .ok (.istore_n 3, 1) := by decide +kernel
theorem dX5_sell_48 : decode cX5_sell 48 = .ok (.iconst 0, 1) := by decide +kernel
theorem dX5_sell_49 : decode cX5_sell 49 = .ok (.istore 4, 2) := by decide +kernel
theorem dX5_sell_51 : decode cX5_sell 51 = .ok (.iload 4, 2) := by decide +kernel
theorem dX5_sell_53 : decode cX5_sell 53 = .ok (.aload_n 0, 1) := by decide +kernel
theorem dX5_sell_54 : decode cX5_sell 54 = .ok (.getfield 7, 3) := by decide +kernel
theorem dX5_sell_57 : decode cX5_sell 57 = .ok (.bipush 14, 2) := by decide +kernel
theorem dX5_sell_59 : decode cX5_sell 59 = .ok (.iaload, 1) := by decide +kernel
theorem dX5_sell_60 : decode cX5_sell 60 = .ok (.if_icmp .ge 78, 3) := by decide +kernel
theorem dX5_sell_63 : decode cX5_sell 63 = .ok (.aload_n 0, 1) := by decide +kernel
theorem dX5_sell_64 : decode cX5_sell 64 = .ok (.getfield 7, 3) := by decide +kernel
theorem dX5_sell_67 : decode cX5_sell 67 = .ok (.iconst 0, 1) := by decide +kernel
theorem dX5_sell_68 : decode cX5_sell 68 = .ok (.iload 4, 2) := by decide +kernel
theorem dX5_sell_70 : decode cX5_sell 70 = .ok (.iconst 0, 1) := by decide +kernel
theorem dX5_sell_71 : decode cX5_sell 71 = .ok (.invokestatic 136, 3) := by decide +kernel
theorem dX5_sell_74 : decode cX5_sell 74 = .ok (.iaload, 1) := by decide +kernel
theorem dX5_sell_75 : decode cX5_sell 75 = .ok (.iload_n 1, 1) := by decide +kernel
theorem dX5_sell_76 : decode cX5_sell 76 = .ok (.if_icmp .ne 7, 3) := by decide +kernel
theorem dX5_sell_79 : decode cX5_sell 79 = .ok (.iconst 1, 1) := by decide +kernel
theorem dX5_sell_80 : decode cX5_sell 80 = .ok (.goto 4, 3) := by decide +kernel
theorem dX5_sell_83 : decode cX5_sell 83 = .ok (.iconst 0, 1) := by decide +kernel
theorem dX5_sell_84 : decode cX5_sell 84 = .ok (.istore 5, 2) := by decide +kernel
theorem dX5_sell_86 : decode cX5_sell 86 = .ok (.aload_n 0, 1) := by decide +kernel
theorem dX5_sell_87 : decode cX5_sell 87 = .ok (.getfield 7, 3) := by decide +kernel
theorem dX5_sell_90 : decode cX5_sell 90 = .ok (.iconst 0, 1) := by decide +kernel
theorem dX5_sell_91 : decode cX5_sell 91 = .ok (.iload 4, 2) := by decide +kernel
theorem dX5_sell_93 : decode cX5_sell 93 = .ok (.iconst 0, 1) := by decide +kernel
theorem dX5_sell_94 : decode cX5_sell 94 = .ok (.invokestatic 136, 3) := by decide +kernel
theorem dX5_sell_97 : decode cX5_sell 97 = .ok (.iload 5, 2) := by decide +kernel
theorem dX5_sell_99 : decode cX5_sell 99 = .ok (.ifCond .eq 7, 3) := by decide +kernel
theorem dX5_sell_102 : decode cX5_sell 102 = .ok (.iload_n 2, 1) := by decide +kernel
theorem dX5_sell_103 : decode cX5_sell 103 = .ok (.goto 15, 3) := by decide +kernel
theorem dX5_sell_106 : decode cX5_sell 106 = .ok (.aload_n 0, 1) := by decide +kernel
theorem dX5_sell_107 : decode cX5_sell 107 = .ok (.getfield 7, 3) := by decide +kernel
theorem dX5_sell_110 : decode cX5_sell 110 = .ok (.iconst 0, 1) := by decide +kernel
theorem dX5_sell_111 : decode cX5_sell 111 = .ok (.iload 4, 2) := by decide +kernel
theorem dX5_sell_113 : decode cX5_sell 113 = .ok (.iconst 0, 1) := by decide +kernel
theorem dX5_sell_114 : decode cX5_sell 114 = .ok (.invokestatic 136, 3) := by decide +kernel
theorem dX5_sell_117 : decode cX5_sell 117 = .ok (.iaload, 1) := by decide +kernel
theorem dX5_sell_118 : decode cX5_sell 118 = .ok (.iastore, 1) := by decide +kernel
theorem dX5_sell_119 : decode cX5_sell 119 = .ok (.iload_n 3, 1) := by decide +kernel
theorem dX5_sell_120 : decode cX5_sell 120 = .ok (.iload 5, 2) := by decide +kernel
theorem dX5_sell_122 : decode cX5_sell 122 = .ok (.ifCond .eq 7, 3) := by decide +kernel
theorem dX5_sell_125 : decode cX5_sell 125 = .ok (.iconst 1, 1) := by decide +kernel
theorem dX5_sell_126 : decode cX5_sell 126 = .ok (.goto 4, 3) := by decide +kernel
theorem dX5_sell_129 : decode cX5_sell 129 = .ok (.iconst 0, 1) := by decide +kernel
theorem dX5_sell_130 : decode cX5_sell 130 = .ok (.iadd, 1) := by decide +kernel
theorem dX5_sell_131 : decode cX5_sell 131 = .ok (.istore_n 3, 1) := by decide +kernel
theorem dX5_sell_132 : decode cX5_sell 132 = .ok (.iinc 4 1, 3) := by decide +kernel
theorem dX5_sell_135 : decode cX5_sell 135 = .ok (.goto (-84), 3) := by decide +kernel
theorem dX5_sell_138 : decode cX5_sell 138 = .ok (.aload_n 0, 1) := by decide +kernel
theorem dX5_sell_139 : decode cX5_sell 139 = .ok (.getfield 7, 3) := by decide +kernel
theorem dX5_sell_142 : decode cX5_sell 142 = .ok (.iconst 2, 1) := by decide +kernel
theorem dX5_sell_143 : decode cX5_sell 143 = .ok (.iload_n 2, 1) := by decide +kernel
theorem dX5_sell_144 : decode cX5_sell 144 = .ok (.iadd, 1) := by decide +kernel
theorem dX5_sell_145 : decode cX5_sell 145 = .ok (.aload_n 0, 1) := by decide +kernel
theorem dX5_sell_146 : decode cX5_sell 146 = .ok (.getfield 7, 3) := by decide +kernel
theorem dX5_sell_149 : decode cX5_sell 149 = .ok (.iconst 2, 1) := by decide +kernel
theorem dX5_sell_150 : decode cX5_sell 150 = .ok (.iload_n 2, 1) := by decide +kernel
theorem dX5_sell_151 : decode cX5_sell 151 = .ok (.iadd, 1) := by decide +kernel
theorem dX5_sell_152 : decode cX5_sell 152 = .ok (.iaload, 1) := by decide +kernel
theorem dX5_sell_153 : decode cX5_sell 153 = .ok (.aload_n 0, 1) := by decide +kernel
theorem dX5_sell_154 : decode cX5_sell 154 = .ok (.getfield 7, 3) := by decide +kernel
theorem dX5_sell_157 : decode cX5_sell 157 = .ok (.iconst 2, 1) := by decide +kernel
theorem dX5_sell_158 : decode cX5_sell 158 = .ok (.iload_n 1, 1) := by decide +kernel
theorem dX5_sell_159 : decode cX5_sell 159 = .ok (.iadd, 1) := by decide +kernel
theorem dX5_sell_160 : decode cX5_sell 160 = .ok (.iaload, 1) := by decide +kernel
theorem dX5_sell_161 : decode cX5_sell 161 = .ok (.iadd, 1) := by decide +kernel
theorem dX5_sell_162 : decode cX5_sell 162 = .ok (.invokestatic 154, 3) := by decide +kernel
theorem dX5_sell_165 : decode cX5_sell 165 = .ok (.iastore, 1) := by decide +kernel
theorem dX5_sell_166 : decode cX5_sell 166 = .ok (.aload_n 0, 1) := by decide +kernel
theorem dX5_sell_167 : decode cX5_sell 167 = .ok (.getfield 7, 3) := by decide +kernel
theorem dX5_sell_170 : decode cX5_sell 170 = .ok (.iconst 2, 1) := by decide +kernel
theorem dX5_sell_171 : decode cX5_sell 171 = .ok (.iload_n 1, 1) := by decide +kernel
theorem dX5_sell_172 : decode cX5_sell 172 = .ok (.iadd, 1) := by decide +kernel
theorem dX5_sell_173 : decode cX5_sell 173 = .ok (.iconst 0, 1) := by decide +kernel
theorem dX5_sell_174 : decode cX5_sell 174 = .ok (.iastore, 1) := by decide +kernel
theorem dX5_sell_175 : decode cX5_sell 175 = .ok (.aload_n 0, 1) := by decide +kernel
theorem dX5_sell_176 : decode cX5_sell 176 = .ok (.getfield 7, 3) := by decide +kernel
theorem dX5_sell_179 : decode cX5_sell 179 = .ok (.bipush 8, 2) := by decide +kernel
theorem dX5_sell_181 : decode cX5_sell 181 = .ok (.iload_n 1, 1) := by decide +kernel
theorem dX5_sell_182 : decode cX5_sell 182 = .ok (.iadd, 1) := by decide +kernel
theorem dX5_sell_183 : decode cX5_sell 183 = .ok (.iconst 2, 1) := by decide +kernel
theorem dX5_sell_184 : decode cX5_sell 184 = .ok (.iastore, 1) := by decide +kernel
theorem dX5_sell_185 : decode cX5_sell 185 = .ok (.iload_n 3, 1) := by decide +kernel
theorem dX5_sell_186 : decode cX5_sell 186 = .ok (.ireturn, 1) := by decide +kernel
set_option maxRecDepth 20000 in
theorem ggX5_keep_X5_in : GoodIn wsX5_keep wsX5_in := goodIn_sub (List.forall_mem_cons.mpr ⟨List.mem_cons_of_mem _ (List.mem_append_left _ (List.mem_of_getElem? (i := 5) rfl)), (fun _ h => absurd h List.not_mem_nil)⟩) (by decide +kernel)
set_option maxRecDepth 20000 in
theorem gX5_keep_X5_in : GoodIn wsX5_keep (va_wsS RX5 50 yX5_in wsX5_in) := goodIn_app (goodIn_sub (List.forall_mem_cons.mpr ⟨List.mem_cons_of_mem _ (List.mem_append_left _ (List.mem_of_getElem? (i := 2) rfl)), List.forall_mem_cons.mpr ⟨List.mem_cons_of_mem _ (List.mem_append_left _ (List.mem_of_getElem? (i := 3) rfl)), List.forall_mem_cons.mpr ⟨List.mem_cons_of_mem _ (List.mem_append_left _ (List.mem_of_getElem? (i := 4) rfl)), (fun _ h => absurd h List.not_mem_nil)⟩⟩⟩) (by decide +kernel)) ggX5_keep_X5_in
set_option maxRecDepth 20000 in
theorem ggX5_keep_X5_copy : GoodIn wsX5_keep wsX5_copy := goodIn_sub (List.forall_mem_cons.mpr ⟨List.mem_cons_of_mem _ (List.mem_append_left _ (List.mem_of_getElem? (i := 9) rfl)), List.forall_mem_append.mpr ⟨List.forall_mem_cons.mpr ⟨List.mem_cons_of_mem _ (List.mem_append_left _ (List.mem_of_getElem? (i := 1) rfl)), (fun _ h => absurd h List.not_mem_nil)⟩, (fun _ h => List.mem_cons_of_mem _ (List.mem_append_right _ (h)))⟩⟩) (by decide +kernel)
set_option maxRecDepth 20000 in
theorem gX5_keep_X5_copy : GoodIn wsX5_keep (wsV RX5 132 RX5 yX5_copy wsX5_copy) := goodIn_app (goodIn_sub (List.forall_mem_cons.mpr ⟨List.mem_cons_of_mem _ (List.mem_append_left _ (List.mem_of_getElem? (i := 6) rfl)), List.forall_mem_cons.mpr ⟨List.mem_cons_of_mem _ (List.mem_append_left _ (List.mem_of_getElem? (i := 7) rfl)), List.forall_mem_cons.mpr ⟨List.mem_cons_of_mem _ (List.mem_append_left _ (List.mem_of_getElem? (i := 8) rfl)), List.forall_mem_cons.mpr ⟨List.mem_cons_of_mem _ (List.mem_append_left _ (List.mem_of_getElem? (i := 4) rfl)), (fun _ h => absurd h List.not_mem_nil)⟩⟩⟩⟩) (by decide +kernel)) ggX5_keep_X5_copy
theorem dX5_keep_0 : decode cX5_keep 0 = .ok (.iload_n 1, 1) := by decide +kernel
theorem dX5_keep_1 : decode cX5_keep 1 = .ok (.i2l, 1) := by decide +kernel
theorem dX5_keep_2 : decode cX5_keep 2 = .ok (.lconst 0, 1) := by decide +kernel
theorem dX5_keep_3 : decode cX5_keep 3 = .ok (.lconst 1, 1) := by decide +kernel
theorem dX5_keep_4 : decode cX5_keep 4 = .ok (.invokestatic 50, 3) := by decide +kernel
theorem dX5_keep_7 : decode cX5_keep 7 = .ok (.ifCond .ne 6, 3) := by decide +kernel
theorem dX5_keep_10 : decode cX5_keep 10 = .ok (.bipush (-2), 2) := by decide +kernel
theorem dX5_keep_12 : decode cX5_keep 12 = .ok (.ireturn, 1) := by decide +kernel
theorem dX5_keep_13 : decode cX5_keep 13 = .ok (.aload_n 0, 1) := by decide +kernel
theorem dX5_keep_14 : decode cX5_keep 14 = .ok (.iconst 0, 1) := by decide +kernel
theorem dX5_keep_15 : decode cX5_keep 15 = .ok (.bipush 75, 2) := by decide +kernel
theorem dX5_keep_17 : decode cX5_keep 17 = .ok (.iconst 1, 1) := by decide +kernel
theorem dX5_keep_18 : decode cX5_keep 18 = .ok (.iload_n 1, 1) := by decide +kernel
theorem dX5_keep_19 : decode cX5_keep 19 = .ok (.iadd, 1) := by decide +kernel
theorem dX5_keep_20 : decode cX5_keep 20 = .ok (.imul, 1) := by decide +kernel
theorem dX5_keep_21 : decode cX5_keep 21 = .ok (.invokevirtual 132, 3) := by decide +kernel
theorem dX5_keep_24 : decode cX5_keep 24 = .ok (.aload_n 0, 1) := by decide +kernel
theorem dX5_keep_25 : decode cX5_keep 25 = .ok (.getfield 13, 3) := by decide +kernel
theorem dX5_keep_28 : decode cX5_keep 28 = .ok (.iload_n 1, 1) := by decide +kernel
theorem dX5_keep_29 : decode cX5_keep 29 = .ok (.iconst 1, 1) := by decide +kernel
theorem dX5_keep_30 : decode cX5_keep 30 = .ok (.bastore, 1) := by decide +kernel
theorem dX5_keep_31 : decode cX5_keep 31 = .ok (.aload_n 0, 1) := by decide +kernel
theorem dX5_keep_32 : decode cX5_keep 32 = .ok (.getfield 7, 3) := by decide +kernel
theorem dX5_keep_35 : decode cX5_keep 35 = .ok (.iconst 0, 1) := by decide +kernel
theorem dX5_keep_36 : decode cX5_keep 36 = .ok (.iaload, 1) := by decide +kernel
theorem dX5_keep_37 : decode cX5_keep 37 = .ok (.ireturn, 1) := by decide +kernel
set_option maxRecDepth 20000 in
theorem ggX5_back_X5_in : GoodIn wsX5_back wsX5_in := goodIn_sub (List.forall_mem_cons.mpr ⟨List.mem_cons_of_mem _ (List.mem_append_left _ (List.mem_of_getElem? (i := 5) rfl)), (fun _ h => absurd h List.not_mem_nil)⟩) (by decide +kernel)
set_option maxRecDepth 20000 in
theorem gX5_back_X5_in : GoodIn wsX5_back (va_wsS RX5 50 yX5_in wsX5_in) := goodIn_app (goodIn_sub (List.forall_mem_cons.mpr ⟨List.mem_cons_of_mem _ (List.mem_append_left _ (List.mem_of_getElem? (i := 2) rfl)), List.forall_mem_cons.mpr ⟨List.mem_cons_of_mem _ (List.mem_append_left _ (List.mem_of_getElem? (i := 3) rfl)), List.forall_mem_cons.mpr ⟨List.mem_cons_of_mem _ (List.mem_append_left _ (List.mem_of_getElem? (i := 4) rfl)), (fun _ h => absurd h List.not_mem_nil)⟩⟩⟩) (by decide +kernel)) ggX5_back_X5_in
set_option maxRecDepth 20000 in
theorem ggX5_back_X5_copy : GoodIn wsX5_back wsX5_copy := goodIn_sub (List.forall_mem_cons.mpr ⟨List.mem_cons_of_mem _ (List.mem_append_left _ (List.mem_of_getElem? (i := 9) rfl)), List.forall_mem_append.mpr ⟨List.forall_mem_cons.mpr ⟨List.mem_cons_of_mem _ (List.mem_append_left _ (List.mem_of_getElem? (i := 1) rfl)), (fun _ h => absurd h List.not_mem_nil)⟩, (fun _ h => List.mem_cons_of_mem _ (List.mem_append_right _ (h)))⟩⟩) (by decide +kernel)
set_option maxRecDepth 20000 in
theorem gX5_back_X5_copy : GoodIn wsX5_back (wsV RX5 132 RX5 yX5_copy wsX5_copy) := goodIn_app (goodIn_sub (List.forall_mem_cons.mpr ⟨List.mem_cons_of_mem _ (List.mem_append_left _ (List.mem_of_getElem? (i := 6) rfl)), List.forall_mem_cons.mpr ⟨List.mem_cons_of_mem _ (List.mem_append_left _ (List.mem_of_getElem? (i := 7) rfl)), List.forall_mem_cons.mpr ⟨List.mem_cons_of_mem _ (List.mem_append_left _ (List.mem_of_getElem? (i := 8) rfl)), List.forall_mem_cons.mpr ⟨List.mem_cons_of_mem _ (List.mem_append_left _ (List.mem_of_getElem? (i := 4) rfl)), (fun _ h => absurd h List.not_mem_nil)⟩⟩⟩⟩) (by decide +kernel)) ggX5_back_X5_copy
theorem dX5_back_0 : decode cX5_back 0 = .ok (.iload_n 1, 1) := by decide +kernel
theorem dX5_back_1 : decode cX5_back 1 = .ok (.i2l, 1) := by decide +kernel
theorem dX5_back_2 : decode cX5_back 2 = .ok (.lconst 0, 1) := by decide +kernel
theorem dX5_back_3 : decode cX5_back 3 = .ok (.lconst 1, 1) := by decide +kernel
theorem dX5_back_4 : decode cX5_back 4 = .ok (.invokestatic 50, 3) := by decide +kernel
theorem dX5_back_7 : decode cX5_back 7 = .ok (.ifCond .ne 6, 3) := by decide +kernel
theorem dX5_back_10 : decode cX5_back 10 = .ok (.bipush (-2), 2) := by decide +kernel
theorem dX5_back_12 : decode cX5_back 12 = .ok (.ireturn, 1) := by decide +kernel
theorem dX5_back_13 : decode cX5_back 13 = .ok (.aload_n 0, 1) := by decide +kernel
theorem dX5_back_14 : decode cX5_back 14 = .ok (.getfield 13, 3) := by decide +kernel
theorem dX5_back_17 : decode cX5_back 17 = .ok (.iload_n 1, 1) := by decide +kernel
theorem dX5_back_18 : decode cX5_back 18 = .ok (.baload, 1) := by decide +kernel
theorem dX5_back_19 : decode cX5_back 19 = .ok (.ifCond .ne 6, 3) := by decide +kernel
theorem dX5_back_22 : decode cX5_back 22 = .ok (.bipush (-4), 2) := by decide +kernel
theorem dX5_back_24 : decode cX5_back 24 = .ok (.ireturn, 1) := by decide +kernel
theorem dX5_back_25 : decode cX5_back 25 = .ok (.aload_n 0, 1) := by decide +kernel
theorem dX5_back_26 : decode cX5_back 26 = .ok (.bipush 75, 2) := by decide +kernel
theorem dX5_back_28 : decode cX5_back 28 = .ok (.iconst 1, 1) := by decide +kernel
theorem dX5_back_29 : decode cX5_back 29 = .ok (.iload_n 1, 1) := by decide +kernel
theorem dX5_back_30 : decode cX5_back 30 = .ok (.iadd, 1) := by decide +kernel
theorem dX5_back_31 : decode cX5_back 31 = .ok (.imul, 1) := by decide +kernel
theorem dX5_back_32 : decode cX5_back 32 = .ok (.iconst 0, 1) := by decide +kernel
theorem dX5_back_33 : decode cX5_back 33 = .ok (.invokevirtual 132, 3) := by decide +kernel
theorem dX5_back_36 : decode cX5_back 36 = .ok (.aload_n 0, 1) := by decide +kernel
theorem dX5_back_37 : decode cX5_back 37 = .ok (.getfield 7, 3) := by decide +kernel
theorem dX5_back_40 : decode cX5_back 40 = .ok (.iconst 0, 1) := by decide +kernel
theorem dX5_back_41 : decode cX5_back 41 = .ok (.iaload, 1) := by decide +kernel
theorem dX5_back_42 : decode cX5_back 42 = .ok (.ireturn, 1) := by decide +kernel
set_option maxRecDepth 20000 in
theorem ggX5_tryDays_X5_copy : GoodIn wsX5_tryDays wsX5_copy := goodIn_sub (List.forall_mem_cons.mpr ⟨List.mem_cons_of_mem _ (List.mem_append_left _ (List.mem_append_left _ (List.mem_of_getElem? (i := 4) rfl))), List.forall_mem_append.mpr ⟨List.forall_mem_cons.mpr ⟨List.mem_cons_of_mem _ (List.mem_append_left _ (List.mem_append_left _ (List.mem_of_getElem? (i := 5) rfl))), (fun _ h => absurd h List.not_mem_nil)⟩, (fun _ h => List.mem_cons_of_mem _ (List.mem_append_right _ (h)))⟩⟩) (by decide +kernel)
set_option maxRecDepth 20000 in
theorem gX5_tryDays_X5_copy : GoodIn wsX5_tryDays (wsV RX5 132 RX5 yX5_copy wsX5_copy) := goodIn_app (goodIn_sub (List.forall_mem_cons.mpr ⟨List.mem_cons_of_mem _ (List.mem_append_left _ (List.mem_append_left _ (List.mem_of_getElem? (i := 0) rfl))), List.forall_mem_cons.mpr ⟨List.mem_cons_of_mem _ (List.mem_append_left _ (List.mem_append_left _ (List.mem_of_getElem? (i := 1) rfl))), List.forall_mem_cons.mpr ⟨List.mem_cons_of_mem _ (List.mem_append_left _ (List.mem_append_left _ (List.mem_of_getElem? (i := 2) rfl))), List.forall_mem_cons.mpr ⟨List.mem_cons_of_mem _ (List.mem_append_left _ (List.mem_append_left _ (List.mem_of_getElem? (i := 3) rfl))), (fun _ h => absurd h List.not_mem_nil)⟩⟩⟩⟩) (by decide +kernel)) ggX5_tryDays_X5_copy
set_option maxRecDepth 20000 in
theorem ggX5_tryDays_X5_day : GoodIn wsX5_tryDays wsX5_day := goodIn_sub (List.forall_mem_cons.mpr ⟨List.mem_cons_of_mem _ (List.mem_append_left _ (List.mem_append_left _ (List.mem_of_getElem? (i := 9) rfl))), List.forall_mem_append.mpr ⟨List.forall_mem_append.mpr ⟨List.forall_mem_cons.mpr ⟨List.mem_cons_of_mem _ (List.mem_append_left _ (List.mem_append_left _ (List.mem_of_getElem? (i := 5) rfl))), List.forall_mem_cons.mpr ⟨List.mem_cons_of_mem _ (List.mem_append_left _ (List.mem_append_left _ (List.mem_of_getElem? (i := 10) rfl))), List.forall_mem_cons.mpr ⟨List.mem_cons_of_mem _ (List.mem_append_left _ (List.mem_append_left _ (List.mem_of_getElem? (i := 11) rfl))), List.forall_mem_cons.mpr ⟨List.mem_cons_of_mem _ (List.mem_append_left _ (List.mem_append_left _ (List.mem_of_getElem? (i := 3) rfl))), List.forall_mem_cons.mpr ⟨List.mem_cons_of_mem _ (List.mem_append_left _ (List.mem_append_left _ (List.mem_of_getElem? (i := 12) rfl))), List.forall_mem_cons.mpr ⟨List.mem_cons_of_mem _ (List.mem_append_left _ (List.mem_append_left _ (List.mem_of_getElem? (i := 13) rfl))), List.forall_mem_cons.mpr ⟨List.mem_cons_of_mem _ (List.mem_append_left _ (List.mem_append_left _ (List.mem_of_getElem? (i := 14) rfl))), List.forall_mem_cons.mpr ⟨List.mem_cons_of_mem _ (List.mem_append_left _ (List.mem_append_left _ (List.mem_of_getElem? (i := 15) rfl))), List.forall_mem_cons.mpr ⟨List.mem_cons_of_mem _ (List.mem_append_left _ (List.mem_append_left _ (List.mem_of_getElem? (i := 16) rfl))), List.forall_mem_cons.mpr ⟨List.mem_cons_of_mem _ (List.mem_append_left _ (List.mem_append_left _ (List.mem_of_getElem? (i := 17) rfl))), List.forall_mem_cons.mpr ⟨List.mem_cons_of_mem _ (List.mem_append_left _ (List.mem_append_left _ (List.mem_of_getElem? (i := 18) rfl))), List.forall_mem_cons.mpr ⟨List.mem_cons_of_mem _ (List.mem_append_left _ (List.mem_append_left _ (List.mem_of_getElem? (i := 19) rfl))), List.forall_mem_cons.mpr ⟨List.mem_cons_of_mem _ (List.mem_append_left _ (List.mem_append_left _ (List.mem_of_getElem? (i := 20) rfl))), List.forall_mem_cons.mpr ⟨List.mem_cons_of_mem _ (List.mem_append_left _ (List.mem_append_left _ (List.mem_of_getElem? (i := 21) rfl))), List.forall_mem_cons.mpr ⟨List.mem_cons_of_mem _ (List.mem_append_left _ (List.mem_append_left _ (List.mem_of_getElem? (i := 22) rfl))), List.forall_mem_cons.mpr ⟨List.mem_cons_of_mem _ (List.mem_append_left _ (List.mem_append_left _ (List.mem_of_getElem? (i := 23) rfl))), List.forall_mem_cons.mpr ⟨List.mem_cons_of_mem _ (List.mem_append_left _ (List.mem_append_right _ (List.mem_of_getElem? (i := 0) rfl))), List.forall_mem_cons.mpr ⟨List.mem_cons_of_mem _ (List.mem_append_left _ (List.mem_append_right _ (List.mem_of_getElem? (i := 1) rfl))), List.forall_mem_cons.mpr ⟨List.mem_cons_of_mem _ (List.mem_append_left _ (List.mem_append_right _ (List.mem_of_getElem? (i := 2) rfl))), List.forall_mem_cons.mpr ⟨List.mem_cons_of_mem _ (List.mem_append_left _ (List.mem_append_right _ (List.mem_of_getElem? (i := 3) rfl))), List.forall_mem_cons.mpr ⟨List.mem_cons_of_mem _ (List.mem_append_left _ (List.mem_append_right _ (List.mem_of_getElem? (i := 4) rfl))), List.forall_mem_cons.mpr ⟨List.mem_cons_of_mem _ (List.mem_append_left _ (List.mem_append_right _ (List.mem_of_getElem? (i := 5) rfl))), List.forall_mem_cons.mpr ⟨List.mem_cons_of_mem _ (List.mem_append_left _ (List.mem_append_right _ (List.mem_of_getElem? (i := 6) rfl))), List.forall_mem_cons.mpr ⟨List.mem_cons_of_mem _ (List.mem_append_left _ (List.mem_append_right _ (List.mem_of_getElem? (i := 7) rfl))), (fun _ h => absurd h List.not_mem_nil)⟩⟩⟩⟩⟩⟩⟩⟩⟩⟩⟩⟩⟩⟩⟩⟩⟩⟩⟩⟩⟩⟩⟩⟩, List.forall_mem_cons.mpr ⟨List.mem_cons_of_mem _ (List.mem_append_left _ (List.mem_append_right _ (List.mem_of_getElem? (i := 8) rfl))), List.forall_mem_cons.mpr ⟨List.mem_cons_of_mem _ (List.mem_append_left _ (List.mem_append_right _ (List.mem_of_getElem? (i := 9) rfl))), List.forall_mem_cons.mpr ⟨List.mem_cons_of_mem _ (List.mem_append_left _ (List.mem_append_right _ (List.mem_of_getElem? (i := 10) rfl))), (fun _ h => absurd h List.not_mem_nil)⟩⟩⟩⟩, (fun _ h => List.mem_cons_of_mem _ (List.mem_append_right _ (h)))⟩⟩) (by decide +kernel)
set_option maxRecDepth 20000 in
theorem gX5_tryDays_X5_day : GoodIn wsX5_tryDays (wsV RX5 174 RX5 yX5_day wsX5_day) := goodIn_app (goodIn_sub (List.forall_mem_cons.mpr ⟨List.mem_cons_of_mem _ (List.mem_append_left _ (List.mem_append_left _ (List.mem_of_getElem? (i := 6) rfl))), List.forall_mem_cons.mpr ⟨List.mem_cons_of_mem _ (List.mem_append_left _ (List.mem_append_left _ (List.mem_of_getElem? (i := 7) rfl))), List.forall_mem_cons.mpr ⟨List.mem_cons_of_mem _ (List.mem_append_left _ (List.mem_append_left _ (List.mem_of_getElem? (i := 8) rfl))), List.forall_mem_cons.mpr ⟨List.mem_cons_of_mem _ (List.mem_append_left _ (List.mem_append_left _ (List.mem_of_getElem? (i := 3) rfl))), (fun _ h => absurd h List.not_mem_nil)⟩⟩⟩⟩) (by decide +kernel)) ggX5_tryDays_X5_day
theorem dX5_tryDays_0 : decode cX5_tryDays 0 = .ok (.aload_n 0, 1) := by decide +kernel
theorem dX5_tryDays_1 : decode cX5_tryDays 1 = .ok (.iconst 0, 1) := by decide +kernel
theorem dX5_tryDays_2 : decode cX5_tryDays 2 = .ok (.sipush 225, 3) := by decide +kernel
theorem dX5_tryDays_5 : decode cX5_tryDays 5 = .ok (.invokevirtual 132, 3) := by decide +kernel
theorem dX5_tryDays_8 : decode cX5_tryDays 8 = .ok (.iconst 0, 1) := by decide +kernel
theorem dX5_tryDays_9 : decode cX5_tryDays 9 = .ok (.istore_n 3, 1) := by decide +kernel
theorem dX5_tryDays_10 : decode cX5_tryDays 10 = .ok (.iload_n 3, 1) := by decide +kernel
theorem dX5_tryDays_11 : decode cX5_tryDays 11 = .ok (.iload_n 1, 1) := by decide +kernel
theorem dX5_tryDays_12 : decode cX5_tryDays 12 = .ok (.if_icmp .ge 17, 3) := by decide +kernel
theorem dX5_tryDays_15 : decode cX5_tryDays 15 = .ok (.aload_n 0, 1) := by decide +kernel
theorem dX5_tryDays_16 : decode cX5_tryDays 16 = .ok (.sipush 225, 3) := by decide +kernel
theorem dX5_tryDays_19 : decode cX5_tryDays 19 = .ok (.iload_n 2, 1) := by decide +kernel
theorem dX5_tryDays_20 : decode cX5_tryDays 20 = .ok (.invokevirtual 174, 3) := by decide +kernel
theorem dX5_tryDays_23 : decode cX5_tryDays 23 = .ok (.iinc 3 1, 3) := by decide +kernel
theorem dX5_tryDays_26 : decode cX5_tryDays 26 = .ok (.goto (-16), 3) := by decide +kernel
theorem dX5_tryDays_29 : decode cX5_tryDays 29 = .ok (.return_, 1) := by decide +kernel
set_option maxRecDepth 20000 in
theorem ggX5_later_X5_isTree : GoodIn wsX5_later wsX5_isTree := goodIn_sub (List.forall_mem_cons.mpr ⟨List.mem_cons_of_mem _ (List.mem_append_left _ (List.mem_append_left _ (List.mem_of_getElem? (i := 6) rfl))), List.forall_mem_append.mpr ⟨List.forall_mem_cons.mpr ⟨List.mem_cons_of_mem _ (List.mem_append_left _ (List.mem_append_left _ (List.mem_of_getElem? (i := 7) rfl))), List.forall_mem_cons.mpr ⟨List.mem_cons_of_mem _ (List.mem_append_left _ (List.mem_append_left _ (List.mem_of_getElem? (i := 8) rfl))), List.forall_mem_cons.mpr ⟨List.mem_cons_of_mem _ (List.mem_append_left _ (List.mem_append_left _ (List.mem_of_getElem? (i := 9) rfl))), List.forall_mem_cons.mpr ⟨List.mem_cons_of_mem _ (List.mem_append_left _ (List.mem_append_left _ (List.mem_of_getElem? (i := 5) rfl))), List.forall_mem_cons.mpr ⟨List.mem_cons_of_mem _ (List.mem_append_left _ (List.mem_append_left _ (List.mem_of_getElem? (i := 10) rfl))), (fun _ h => absurd h List.not_mem_nil)⟩⟩⟩⟩⟩, (fun _ h => List.mem_cons_of_mem _ (List.mem_append_right _ (h)))⟩⟩) (by decide +kernel)
set_option maxRecDepth 20000 in
theorem gX5_later_X5_isTree : GoodIn wsX5_later (wsV RX5 166 RX5 yX5_isTree wsX5_isTree) := goodIn_app (goodIn_sub (List.forall_mem_cons.mpr ⟨List.mem_cons_of_mem _ (List.mem_append_left _ (List.mem_append_left _ (List.mem_of_getElem? (i := 2) rfl))), List.forall_mem_cons.mpr ⟨List.mem_cons_of_mem _ (List.mem_append_left _ (List.mem_append_left _ (List.mem_of_getElem? (i := 3) rfl))), List.forall_mem_cons.mpr ⟨List.mem_cons_of_mem _ (List.mem_append_left _ (List.mem_append_left _ (List.mem_of_getElem? (i := 4) rfl))), List.forall_mem_cons.mpr ⟨List.mem_cons_of_mem _ (List.mem_append_left _ (List.mem_append_left _ (List.mem_of_getElem? (i := 5) rfl))), (fun _ h => absurd h List.not_mem_nil)⟩⟩⟩⟩) (by decide +kernel)) ggX5_later_X5_isTree
set_option maxRecDepth 20000 in
theorem ggX5_later_X5_in : GoodIn wsX5_later wsX5_in := goodIn_sub (List.forall_mem_cons.mpr ⟨List.mem_cons_of_mem _ (List.mem_append_left _ (List.mem_append_left _ (List.mem_of_getElem? (i := 10) rfl))), (fun _ h => absurd h List.not_mem_nil)⟩) (by decide +kernel)
set_option maxRecDepth 20000 in
theorem gX5_later_X5_in : GoodIn wsX5_later (va_wsS RX5 50 yX5_in wsX5_in) := goodIn_app (goodIn_sub (List.forall_mem_cons.mpr ⟨List.mem_cons_of_mem _ (List.mem_append_left _ (List.mem_append_left _ (List.mem_of_getElem? (i := 8) rfl))), List.forall_mem_cons.mpr ⟨List.mem_cons_of_mem _ (List.mem_append_left _ (List.mem_append_left _ (List.mem_of_getElem? (i := 9) rfl))), List.forall_mem_cons.mpr ⟨List.mem_cons_of_mem _ (List.mem_append_left _ (List.mem_append_left _ (List.mem_of_getElem? (i := 5) rfl))), (fun _ h => absurd h List.not_mem_nil)⟩⟩⟩) (by decide +kernel)) ggX5_later_X5_in
set_option maxRecDepth 20000 in
theorem ggX5_later_X5_tryDays : GoodIn wsX5_later wsX5_tryDays := goodIn_sub (List.forall_mem_cons.mpr ⟨List.mem_cons_of_mem _ (List.mem_append_left _ (List.mem_append_left _ (List.mem_of_getElem? (i := 14) rfl))), List.forall_mem_append.mpr ⟨List.forall_mem_append.mpr ⟨List.forall_mem_cons.mpr ⟨List.mem_cons_of_mem _ (List.mem_append_left _ (List.mem_append_left _ (List.mem_of_getElem? (i := 15) rfl))), List.forall_mem_cons.mpr ⟨List.mem_cons_of_mem _ (List.mem_append_left _ (List.mem_append_left _ (List.mem_of_getElem? (i := 16) rfl))), List.forall_mem_cons.mpr ⟨List.mem_cons_of_mem _ (List.mem_append_left _ (List.mem_append_left _ (List.mem_of_getElem? (i := 17) rfl))), List.forall_mem_cons.mpr ⟨List.mem_cons_of_mem _ (List.mem_append_left _ (List.mem_append_left _ (List.mem_of_getElem? (i := 5) rfl))), List.forall_mem_cons.mpr ⟨List.mem_cons_of_mem _ (List.mem_append_left _ (List.mem_append_left _ (List.mem_of_getElem? (i := 18) rfl))), List.forall_mem_cons.mpr ⟨List.mem_cons_of_mem _ (List.mem_append_left _ (List.mem_append_left _ (List.mem_of_getElem? (i := 19) rfl))), List.forall_mem_cons.mpr ⟨List.mem_cons_of_mem _ (List.mem_append_left _ (List.mem_append_left _ (List.mem_of_getElem? (i := 20) rfl))), List.forall_mem_cons.mpr ⟨List.mem_cons_of_mem _ (List.mem_append_left _ (List.mem_append_left _ (List.mem_of_getElem? (i := 21) rfl))), List.forall_mem_cons.mpr ⟨List.mem_cons_of_mem _ (List.mem_append_left _ (List.mem_append_left _ (List.mem_of_getElem? (i := 22) rfl))), List.forall_mem_cons.mpr ⟨List.mem_cons_of_mem _ (List.mem_append_left _ (List.mem_append_left _ (List.mem_of_getElem? (i := 23) rfl))), List.forall_mem_cons.mpr ⟨List.mem_cons_of_mem _ (List.mem_append_left _ (List.mem_append_right _ (List.mem_append_left _ (List.mem_of_getElem? (i := 0) rfl)))), List.forall_mem_cons.mpr ⟨List.mem_cons_of_mem _ (List.mem_append_left _ (List.mem_append_right _ (List.mem_append_left _ (List.mem_of_getElem? (i := 1) rfl)))), List.forall_mem_cons.mpr ⟨List.mem_cons_of_mem _ (List.mem_append_left _ (List.mem_append_right _ (List.mem_append_left _ (List.mem_of_getElem? (i := 2) rfl)))), List.forall_mem_cons.mpr ⟨List.mem_cons_of_mem _ (List.mem_append_left _ (List.mem_append_right _ (List.mem_append_left _ (List.mem_of_getElem? (i := 3) rfl)))), List.forall_mem_cons.mpr ⟨List.mem_cons_of_mem _ (List.mem_append_left _ (List.mem_append_right _ (List.mem_append_left _ (List.mem_of_getElem? (i := 4) rfl)))), List.forall_mem_cons.mpr ⟨List.mem_cons_of_mem _ (List.mem_append_left _ (List.mem_append_right _ (List.mem_append_left _ (List.mem_of_getElem? (i := 5) rfl)))), List.forall_mem_cons.mpr ⟨List.mem_cons_of_mem _ (List.mem_append_left _ (List.mem_append_right _ (List.mem_append_left _ (List.mem_of_getElem? (i := 6) rfl)))), List.forall_mem_cons.mpr ⟨List.mem_cons_of_mem _ (List.mem_append_left _ (List.mem_append_right _ (List.mem_append_left _ (List.mem_of_getElem? (i := 7) rfl)))), List.forall_mem_cons.mpr ⟨List.mem_cons_of_mem _ (List.mem_append_left _ (List.mem_append_right _ (List.mem_append_left _ (List.mem_of_getElem? (i := 8) rfl)))), List.forall_mem_cons.mpr ⟨List.mem_cons_of_mem _ (List.mem_append_left _ (List.mem_append_right _ (List.mem_append_left _ (List.mem_of_getElem? (i := 9) rfl)))), List.forall_mem_cons.mpr ⟨List.mem_cons_of_mem _ (List.mem_append_left _ (List.mem_append_right _ (List.mem_append_left _ (List.mem_of_getElem? (i := 10) rfl)))), List.forall_mem_cons.mpr ⟨List.mem_cons_of_mem _ (List.mem_append_left _ (List.mem_append_right _ (List.mem_append_left _ (List.mem_of_getElem? (i := 11) rfl)))), List.forall_mem_cons.mpr ⟨List.mem_cons_of_mem _ (List.mem_append_left _ (List.mem_append_right _ (List.mem_append_left _ (List.mem_of_getElem? (i := 12) rfl)))), List.forall_mem_cons.mpr ⟨List.mem_cons_of_mem _ (List.mem_append_left _ (List.mem_append_right _ (List.mem_append_left _ (List.mem_of_getElem? (i := 13) rfl)))), (fun _ h => absurd h List.not_mem_nil)⟩⟩⟩⟩⟩⟩⟩⟩⟩⟩⟩⟩⟩⟩⟩⟩⟩⟩⟩⟩⟩⟩⟩⟩, List.forall_mem_cons.mpr ⟨List.mem_cons_of_mem _ (List.mem_append_left _ (List.mem_append_right _ (List.mem_append_left _ (List.mem_of_getElem? (i := 14) rfl)))), List.forall_mem_cons.mpr ⟨List.mem_cons_of_mem _ (List.mem_append_left _ (List.mem_append_right _ (List.mem_append_left _ (List.mem_of_getElem? (i := 15) rfl)))), List.forall_mem_cons.mpr ⟨List.mem_cons_of_mem _ (List.mem_append_left _ (List.mem_append_right _ (List.mem_append_left _ (List.mem_of_getElem? (i := 16) rfl)))), List.forall_mem_cons.mpr ⟨List.mem_cons_of_mem _ (List.mem_append_left _ (List.mem_append_right _ (List.mem_append_left _ (List.mem_of_getElem? (i := 17) rfl)))), List.forall_mem_cons.mpr ⟨List.mem_cons_of_mem _ (List.mem_append_left _ (List.mem_append_right _ (List.mem_append_left _ (List.mem_of_getElem? (i := 18) rfl)))), List.forall_mem_cons.mpr ⟨List.mem_cons_of_mem _ (List.mem_append_left _ (List.mem_append_right _ (List.mem_append_left _ (List.mem_of_getElem? (i := 19) rfl)))), List.forall_mem_cons.mpr ⟨List.mem_cons_of_mem _ (List.mem_append_left _ (List.mem_append_right _ (List.mem_append_left _ (List.mem_of_getElem? (i := 20) rfl)))), List.forall_mem_cons.mpr ⟨List.mem_cons_of_mem _ (List.mem_append_left _ (List.mem_append_right _ (List.mem_append_left _ (List.mem_of_getElem? (i := 21) rfl)))), List.forall_mem_cons.mpr ⟨List.mem_cons_of_mem _ (List.mem_append_left _ (List.mem_append_right _ (List.mem_append_left _ (List.mem_of_getElem? (i := 22) rfl)))), List.forall_mem_cons.mpr ⟨List.mem_cons_of_mem _ (List.mem_append_left _ (List.mem_append_right _ (List.mem_append_left _ (List.mem_of_getElem? (i := 23) rfl)))), List.forall_mem_cons.mpr ⟨List.mem_cons_of_mem _ (List.mem_append_left _ (List.mem_append_right _ (List.mem_append_right _ (List.mem_of_getElem? (i := 0) rfl)))), (fun _ h => absurd h List.not_mem_nil)⟩⟩⟩⟩⟩⟩⟩⟩⟩⟩⟩⟩, (fun _ h => List.mem_cons_of_mem _ (List.mem_append_right _ (h)))⟩⟩) (by decide +kernel)
set_option maxRecDepth 20000 in
theorem gX5_later_X5_tryDays : GoodIn wsX5_later (wsV RX5 182 RX5 yX5_tryDays wsX5_tryDays) := goodIn_app (goodIn_sub (List.forall_mem_cons.mpr ⟨List.mem_cons_of_mem _ (List.mem_append_left _ (List.mem_append_left _ (List.mem_of_getElem? (i := 11) rfl))), List.forall_mem_cons.mpr ⟨List.mem_cons_of_mem _ (List.mem_append_left _ (List.mem_append_left _ (List.mem_of_getElem? (i := 12) rfl))), List.forall_mem_cons.mpr ⟨List.mem_cons_of_mem _ (List.mem_append_left _ (List.mem_append_left _ (List.mem_of_getElem? (i := 13) rfl))), List.forall_mem_cons.mpr ⟨List.mem_cons_of_mem _ (List.mem_append_left _ (List.mem_append_left _ (List.mem_of_getElem? (i := 5) rfl))), (fun _ h => absurd h List.not_mem_nil)⟩⟩⟩⟩) (by decide +kernel)) ggX5_later_X5_tryDays
set_option maxRecDepth 20000 in
theorem ggX5_later_X5_owedTo : GoodIn wsX5_later wsX5_owedTo := goodIn_sub (List.forall_mem_cons.mpr ⟨List.mem_cons_of_mem _ (List.mem_append_left _ (List.mem_append_right _ (List.mem_append_right _ (List.mem_of_getElem? (i := 4) rfl)))), List.forall_mem_append.mpr ⟨List.forall_mem_cons.mpr ⟨List.mem_cons_of_mem _ (List.mem_append_left _ (List.mem_append_left _ (List.mem_of_getElem? (i := 19) rfl))), List.forall_mem_cons.mpr ⟨List.mem_cons_of_mem _ (List.mem_append_left _ (List.mem_append_right _ (List.mem_append_left _ (List.mem_of_getElem? (i := 0) rfl)))), List.forall_mem_cons.mpr ⟨List.mem_cons_of_mem _ (List.mem_append_left _ (List.mem_append_right _ (List.mem_append_left _ (List.mem_of_getElem? (i := 1) rfl)))), List.forall_mem_cons.mpr ⟨List.mem_cons_of_mem _ (List.mem_append_left _ (List.mem_append_left _ (List.mem_of_getElem? (i := 5) rfl))), List.forall_mem_cons.mpr ⟨List.mem_cons_of_mem _ (List.mem_append_left _ (List.mem_append_right _ (List.mem_append_left _ (List.mem_of_getElem? (i := 2) rfl)))), (fun _ h => absurd h List.not_mem_nil)⟩⟩⟩⟩⟩, (fun _ h => List.mem_cons_of_mem _ (List.mem_append_right _ (h)))⟩⟩) (by decide +kernel)
set_option maxRecDepth 20000 in
theorem gX5_later_X5_owedTo : GoodIn wsX5_later (wsV RX5 140 RX5 yX5_owedTo wsX5_owedTo) := goodIn_app (goodIn_sub (List.forall_mem_cons.mpr ⟨List.mem_cons_of_mem _ (List.mem_append_left _ (List.mem_append_right _ (List.mem_append_right _ (List.mem_of_getElem? (i := 1) rfl)))), List.forall_mem_cons.mpr ⟨List.mem_cons_of_mem _ (List.mem_append_left _ (List.mem_append_right _ (List.mem_append_right _ (List.mem_of_getElem? (i := 2) rfl)))), List.forall_mem_cons.mpr ⟨List.mem_cons_of_mem _ (List.mem_append_left _ (List.mem_append_right _ (List.mem_append_right _ (List.mem_of_getElem? (i := 3) rfl)))), List.forall_mem_cons.mpr ⟨List.mem_cons_of_mem _ (List.mem_append_left _ (List.mem_append_left _ (List.mem_of_getElem? (i := 5) rfl))), (fun _ h => absurd h List.not_mem_nil)⟩⟩⟩⟩) (by decide +kernel)) ggX5_later_X5_owedTo
theorem dX5_later_0 : decode cX5_later 0 = .ok (.aload_n 0, 1) := by decide +kernel
theorem dX5_later_1 : decode cX5_later 1 = .ok (.iload_n 1, 1) := by decide +kernel
theorem dX5_later_2 : decode cX5_later 2 = .ok (.invokevirtual 166, 3) := by decide +kernel
theorem dX5_later_5 : decode cX5_later 5 = .ok (.ifCond .ne 6, 3) := by decide +kernel
theorem dX5_later_8 : decode cX5_later 8 = .ok (.bipush (-2), 2) := by decide +kernel
theorem dX5_later_10 : decode cX5_later 10 = .ok (.ireturn, 1) := by decide +kernel
theorem dX5_later_11 : decode cX5_later 11 = .ok (.iload_n 2, 1) := by decide +kernel
theorem dX5_later_12 : decode cX5_later 12 = .ok (.i2l, 1) := by decide +kernel
theorem dX5_later_13 : decode cX5_later 13 = .ok (.lconst 0, 1) := by decide +kernel
theorem dX5_later_14 : decode cX5_later 14 = .ok (.ldc2_w 169, 3) := by decide +kernel
theorem dX5_later_17 : decode cX5_later 17 = .ok (.invokestatic 50, 3) := by decide +kernel
theorem dX5_later_20 : decode cX5_later 20 = .ok (.ifCond .ne 6, 3) := by decide +kernel
theorem dX5_later_23 : decode cX5_later 23 = .ok (.bipush (-3), 2) := by decide +kernel
theorem dX5_later_25 : decode cX5_later 25 = .ok (.ireturn, 1) := by decide +kernel
theorem dX5_later_26 : decode cX5_later 26 = .ok (.aload_n 0, 1) := by decide +kernel
theorem dX5_later_27 : decode cX5_later 27 = .ok (.iload_n 2, 1) := by decide +kernel
theorem dX5_later_28 : decode cX5_later 28 = .ok (.aload_n 0, 1) := by decide +kernel
theorem dX5_later_29 : decode cX5_later 29 = .ok (.getfield 38, 3) := by decide +kernel
theorem dX5_later_32 : decode cX5_later 32 = .ok (.invokevirtual 182, 3) := by decide +kernel
theorem dX5_later_35 : decode cX5_later 35 = .ok (.aload_n 0, 1) := by decide +kernel
theorem dX5_later_36 : decode cX5_later 36 = .ok (.sipush 225, 3) := by decide +kernel
theorem dX5_later_39 : decode cX5_later 39 = .ok (.iload_n 1, 1) := by decide +kernel
theorem dX5_later_40 : decode cX5_later 40 = .ok (.invokevirtual 140, 3) := by decide +kernel
theorem dX5_later_43 : decode cX5_later 43 = .ok (.ireturn, 1) := by decide +kernel
set_option maxRecDepth 20000 in
theorem ggX5_all_X5_in : GoodIn wsX5_all wsX5_in := goodIn_sub (List.forall_mem_cons.mpr ⟨List.mem_cons_of_mem _ (List.mem_append_left _ (List.mem_append_left _ (List.mem_of_getElem? (i := 6) rfl))), (fun _ h => absurd h List.not_mem_nil)⟩) (by decide +kernel)
set_option maxRecDepth 20000 in
theorem gX5_all_X5_in : GoodIn wsX5_all (va_wsS RX5 50 yX5_in wsX5_in) := goodIn_app (goodIn_sub (List.forall_mem_cons.mpr ⟨List.mem_cons_of_mem _ (List.mem_append_left _ (List.mem_append_left _ (List.mem_of_getElem? (i := 3) rfl))), List.forall_mem_cons.mpr ⟨List.mem_cons_of_mem _ (List.mem_append_left _ (List.mem_append_left _ (List.mem_of_getElem? (i := 4) rfl))), List.forall_mem_cons.mpr ⟨List.mem_cons_of_mem _ (List.mem_append_left _ (List.mem_append_left _ (List.mem_of_getElem? (i := 5) rfl))), (fun _ h => absurd h List.not_mem_nil)⟩⟩⟩) (by decide +kernel)) ggX5_all_X5_in
set_option maxRecDepth 20000 in
theorem ggX5_all_X5_tryDays : GoodIn wsX5_all wsX5_tryDays := goodIn_sub (List.forall_mem_cons.mpr ⟨List.mem_cons_of_mem _ (List.mem_append_left _ (List.mem_append_left _ (List.mem_of_getElem? (i := 10) rfl))), List.forall_mem_append.mpr ⟨List.forall_mem_append.mpr ⟨List.forall_mem_cons.mpr ⟨List.mem_cons_of_mem _ (List.mem_append_left _ (List.mem_append_left _ (List.mem_of_getElem? (i := 11) rfl))), List.forall_mem_cons.mpr ⟨List.mem_cons_of_mem _ (List.mem_append_left _ (List.mem_append_left _ (List.mem_of_getElem? (i := 12) rfl))), List.forall_mem_cons.mpr ⟨List.mem_cons_of_mem _ (List.mem_append_left _ (List.mem_append_left _ (List.mem_of_getElem? (i := 13) rfl))), List.forall_mem_cons.mpr ⟨List.mem_cons_of_mem _ (List.mem_append_left _ (List.mem_append_left _ (List.mem_of_getElem? (i := 5) rfl))), List.forall_mem_cons.mpr ⟨List.mem_cons_of_mem _ (List.mem_append_left _ (List.mem_append_left _ (List.mem_of_getElem? (i := 14) rfl))), List.forall_mem_cons.mpr ⟨List.mem_cons_of_mem _ (List.mem_append_left _ (List.mem_append_left _ (List.mem_of_getElem? (i := 2) rfl))), List.forall_mem_cons.mpr ⟨List.mem_cons_of_mem _ (List.mem_append_left _ (List.mem_append_left _ (List.mem_of_getElem? (i := 15) rfl))), List.forall_mem_cons.mpr ⟨List.mem_cons_of_mem _ (List.mem_append_left _ (List.mem_append_left _ (List.mem_of_getElem? (i := 16) rfl))), List.forall_mem_cons.mpr ⟨List.mem_cons_of_mem _ (List.mem_append_left _ (List.mem_append_left _ (List.mem_of_getElem? (i := 17) rfl))), List.forall_mem_cons.mpr ⟨List.mem_cons_of_mem _ (List.mem_append_left _ (List.mem_append_left _ (List.mem_of_getElem? (i := 18) rfl))), List.forall_mem_cons.mpr ⟨List.mem_cons_of_mem _ (List.mem_append_left _ (List.mem_append_left _ (List.mem_of_getElem? (i := 19) rfl))), List.forall_mem_cons.mpr ⟨List.mem_cons_of_mem _ (List.mem_append_left _ (List.mem_append_left _ (List.mem_of_getElem? (i := 20) rfl))), List.forall_mem_cons.mpr ⟨List.mem_cons_of_mem _ (List.mem_append_left _ (List.mem_append_left _ (List.mem_of_getElem? (i := 21) rfl))), List.forall_mem_cons.mpr ⟨List.mem_cons_of_mem _ (List.mem_append_left _ (List.mem_append_left _ (List.mem_of_getElem? (i := 22) rfl))), List.forall_mem_cons.mpr ⟨List.mem_cons_of_mem _ (List.mem_append_left _ (List.mem_append_left _ (List.mem_of_getElem? (i := 23) rfl))), List.forall_mem_cons.mpr ⟨List.mem_cons_of_mem _ (List.mem_append_left _ (List.mem_append_right _ (List.mem_of_getElem? (i := 0) rfl))), List.forall_mem_cons.mpr ⟨List.mem_cons_of_mem _ (List.mem_append_left _ (List.mem_append_right _ (List.mem_of_getElem? (i := 1) rfl))), List.forall_mem_cons.mpr ⟨List.mem_cons_of_mem _ (List.mem_append_left _ (List.mem_append_right _ (List.mem_of_getElem? (i := 2) rfl))), List.forall_mem_cons.mpr ⟨List.mem_cons_of_mem _ (List.mem_append_left _ (List.mem_append_right _ (List.mem_of_getElem? (i := 3) rfl))), List.forall_mem_cons.mpr ⟨List.mem_cons_of_mem _ (List.mem_append_left _ (List.mem_append_right _ (List.mem_of_getElem? (i := 4) rfl))), List.forall_mem_cons.mpr ⟨List.mem_cons_of_mem _ (List.mem_append_left _ (List.mem_append_right _ (List.mem_of_getElem? (i := 5) rfl))), List.forall_mem_cons.mpr ⟨List.mem_cons_of_mem _ (List.mem_append_left _ (List.mem_append_right _ (List.mem_of_getElem? (i := 6) rfl))), List.forall_mem_cons.mpr ⟨List.mem_cons_of_mem _ (List.mem_append_left _ (List.mem_append_right _ (List.mem_of_getElem? (i := 7) rfl))), List.forall_mem_cons.mpr ⟨List.mem_cons_of_mem _ (List.mem_append_left _ (List.mem_append_right _ (List.mem_of_getElem? (i := 8) rfl))), (fun _ h => absurd h List.not_mem_nil)⟩⟩⟩⟩⟩⟩⟩⟩⟩⟩⟩⟩⟩⟩⟩⟩⟩⟩⟩⟩⟩⟩⟩⟩, List.forall_mem_cons.mpr ⟨List.mem_cons_of_mem _ (List.mem_append_left _ (List.mem_append_right _ (List.mem_of_getElem? (i := 9) rfl))), List.forall_mem_cons.mpr ⟨List.mem_cons_of_mem _ (List.mem_append_left _ (List.mem_append_right _ (List.mem_of_getElem? (i := 10) rfl))), List.forall_mem_cons.mpr ⟨List.mem_cons_of_mem _ (List.mem_append_left _ (List.mem_append_right _ (List.mem_of_getElem? (i := 11) rfl))), List.forall_mem_cons.mpr ⟨List.mem_cons_of_mem _ (List.mem_append_left _ (List.mem_append_right _ (List.mem_of_getElem? (i := 12) rfl))), List.forall_mem_cons.mpr ⟨List.mem_cons_of_mem _ (List.mem_append_left _ (List.mem_append_right _ (List.mem_of_getElem? (i := 13) rfl))), List.forall_mem_cons.mpr ⟨List.mem_cons_of_mem _ (List.mem_append_left _ (List.mem_append_right _ (List.mem_of_getElem? (i := 14) rfl))), List.forall_mem_cons.mpr ⟨List.mem_cons_of_mem _ (List.mem_append_left _ (List.mem_append_right _ (List.mem_of_getElem? (i := 15) rfl))), List.forall_mem_cons.mpr ⟨List.mem_cons_of_mem _ (List.mem_append_left _ (List.mem_append_right _ (List.mem_of_getElem? (i := 16) rfl))), List.forall_mem_cons.mpr ⟨List.mem_cons_of_mem _ (List.mem_append_left _ (List.mem_append_right _ (List.mem_of_getElem? (i := 17) rfl))), List.forall_mem_cons.mpr ⟨List.mem_cons_of_mem _ (List.mem_append_left _ (List.mem_append_right _ (List.mem_of_getElem? (i := 18) rfl))), List.forall_mem_cons.mpr ⟨List.mem_cons_of_mem _ (List.mem_append_left _ (List.mem_append_right _ (List.mem_of_getElem? (i := 19) rfl))), (fun _ h => absurd h List.not_mem_nil)⟩⟩⟩⟩⟩⟩⟩⟩⟩⟩⟩⟩, (fun _ h => List.mem_cons_of_mem _ (List.mem_append_right _ (h)))⟩⟩) (by decide +kernel)
set_option maxRecDepth 20000 in
theorem gX5_all_X5_tryDays : GoodIn wsX5_all (wsV RX5 182 RX5 yX5_tryDays wsX5_tryDays) := goodIn_app (goodIn_sub (List.forall_mem_cons.mpr ⟨List.mem_cons_of_mem _ (List.mem_append_left _ (List.mem_append_left _ (List.mem_of_getElem? (i := 7) rfl))), List.forall_mem_cons.mpr ⟨List.mem_cons_of_mem _ (List.mem_append_left _ (List.mem_append_left _ (List.mem_of_getElem? (i := 8) rfl))), List.forall_mem_cons.mpr ⟨List.mem_cons_of_mem _ (List.mem_append_left _ (List.mem_append_left _ (List.mem_of_getElem? (i := 9) rfl))), List.forall_mem_cons.mpr ⟨List.mem_cons_of_mem _ (List.mem_append_left _ (List.mem_append_left _ (List.mem_of_getElem? (i := 5) rfl))), (fun _ h => absurd h List.not_mem_nil)⟩⟩⟩⟩) (by decide +kernel)) ggX5_all_X5_tryDays
set_option maxRecDepth 20000 in
theorem ggX5_all_X5_owedAll : GoodIn wsX5_all wsX5_owedAll := goodIn_sub (List.forall_mem_cons.mpr ⟨List.mem_cons_of_mem _ (List.mem_append_left _ (List.mem_append_right _ (List.mem_of_getElem? (i := 23) rfl))), List.forall_mem_append.mpr ⟨List.forall_mem_cons.mpr ⟨List.mem_cons_of_mem _ (List.mem_append_left _ (List.mem_append_left _ (List.mem_of_getElem? (i := 2) rfl))), List.forall_mem_cons.mpr ⟨List.mem_cons_of_mem _ (List.mem_append_left _ (List.mem_append_left _ (List.mem_of_getElem? (i := 19) rfl))), List.forall_mem_cons.mpr ⟨List.mem_cons_of_mem _ (List.mem_append_left _ (List.mem_append_left _ (List.mem_of_getElem? (i := 20) rfl))), List.forall_mem_cons.mpr ⟨List.mem_cons_of_mem _ (List.mem_append_left _ (List.mem_append_left _ (List.mem_of_getElem? (i := 5) rfl))), List.forall_mem_cons.mpr ⟨List.mem_cons_of_mem _ (List.mem_append_left _ (List.mem_append_left _ (List.mem_of_getElem? (i := 21) rfl))), (fun _ h => absurd h List.not_mem_nil)⟩⟩⟩⟩⟩, (fun _ h => List.mem_cons_of_mem _ (List.mem_append_right _ (h)))⟩⟩) (by decide +kernel)
set_option maxRecDepth 20000 in
theorem gX5_all_X5_owedAll : GoodIn wsX5_all (wsV RX5 185 RX5 yX5_owedAll wsX5_owedAll) := goodIn_app (goodIn_sub (List.forall_mem_cons.mpr ⟨List.mem_cons_of_mem _ (List.mem_append_left _ (List.mem_append_right _ (List.mem_of_getElem? (i := 20) rfl))), List.forall_mem_cons.mpr ⟨List.mem_cons_of_mem _ (List.mem_append_left _ (List.mem_append_right _ (List.mem_of_getElem? (i := 21) rfl))), List.forall_mem_cons.mpr ⟨List.mem_cons_of_mem _ (List.mem_append_left _ (List.mem_append_right _ (List.mem_of_getElem? (i := 22) rfl))), List.forall_mem_cons.mpr ⟨List.mem_cons_of_mem _ (List.mem_append_left _ (List.mem_append_left _ (List.mem_of_getElem? (i := 5) rfl))), (fun _ h => absurd h List.not_mem_nil)⟩⟩⟩⟩) (by decide +kernel)) ggX5_all_X5_owedAll
theorem dX5_all_0 : decode cX5_all 0 = .ok (.iload_n 1, 1) := by decide +kernel
theorem dX5_all_1 : decode cX5_all 1 = .ok (.i2l, 1) := by decide +kernel
theorem dX5_all_2 : decode cX5_all 2 = .ok (.lconst 0, 1) := by decide +kernel
theorem dX5_all_3 : decode cX5_all 3 = .ok (.ldc2_w 169, 3) := by decide +kernel
theorem dX5_all_6 : decode cX5_all 6 = .ok (.invokestatic 50, 3) := by decide +kernel
theorem dX5_all_9 : decode cX5_all 9 = .ok (.ifCond .eq 13, 3) := by decide +kernel
theorem dX5_all_12 : decode cX5_all 12 = .ok (.iload_n 2, 1) := by decide +kernel
theorem dX5_all_13 : decode cX5_all 13 = .ok (.i2l, 1) := by decide +kernel
theorem dX5_all_14 : decode cX5_all 14 = .ok (.lconst 0, 1) := by decide +kernel
theorem dX5_all_15 : decode cX5_all 15 = .ok (.lconst 1, 1) := by decide +kernel
theorem dX5_all_16 : decode cX5_all 16 = .ok (.invokestatic 50, 3) := by decide +kernel
theorem dX5_all_19 : decode cX5_all 19 = .ok (.ifCond .ne 6, 3) := by decide +kernel
theorem dX5_all_22 : decode cX5_all 22 = .ok (.bipush (-3), 2) := by decide +kernel
theorem dX5_all_24 : decode cX5_all 24 = .ok (.ireturn, 1) := by decide +kernel
theorem dX5_all_25 : decode cX5_all 25 = .ok (.aload_n 0, 1) := by decide +kernel
theorem dX5_all_26 : decode cX5_all 26 = .ok (.iload_n 1, 1) := by decide +kernel
theorem dX5_all_27 : decode cX5_all 27 = .ok (.aload_n 0, 1) := by decide +kernel
theorem dX5_all_28 : decode cX5_all 28 = .ok (.getfield 38, 3) := by decide +kernel
theorem dX5_all_31 : decode cX5_all 31 = .ok (.invokevirtual 182, 3) := by decide +kernel
theorem dX5_all_34 : decode cX5_all 34 = .ok (.iload_n 2, 1) := by decide +kernel
theorem dX5_all_35 : decode cX5_all 35 = .ok (.ifCond .ne 13, 3) := by decide +kernel
theorem dX5_all_38 : decode cX5_all 38 = .ok (.aload_n 0, 1) := by decide +kernel
theorem dX5_all_39 : decode cX5_all 39 = .ok (.sipush 225, 3) := by decide +kernel
theorem dX5_all_42 : decode cX5_all 42 = .ok (.invokevirtual 185, 3) := by decide +kernel
theorem dX5_all_45 : decode cX5_all 45 = .ok (.goto 11, 3) := by decide +kernel
theorem dX5_all_48 : decode cX5_all 48 = .ok (.aload_n 0, 1) := by decide +kernel
theorem dX5_all_49 : decode cX5_all 49 = .ok (.getfield 7, 3) := by decide +kernel
theorem dX5_all_52 : decode cX5_all 52 = .ok (.sipush 226, 3) := by decide +kernel
theorem dX5_all_55 : decode cX5_all 55 = .ok (.iaload, 1) := by decide +kernel
theorem dX5_all_56 : decode cX5_all 56 = .ok (.ireturn, 1) := by decide +kernel
set_option maxRecDepth 20000 in
theorem ggX5_clear_X5_copy : GoodIn wsX5_clear wsX5_copy := goodIn_sub (List.forall_mem_cons.mpr ⟨List.mem_cons_of_mem _ (List.mem_append_left _ (List.mem_append_left _ (List.mem_of_getElem? (i := 6) rfl))), List.forall_mem_append.mpr ⟨List.forall_mem_cons.mpr ⟨List.mem_cons_of_mem _ (List.mem_append_left _ (List.mem_append_left _ (List.mem_of_getElem? (i := 0) rfl))), (fun _ h => absurd h List.not_mem_nil)⟩, (fun _ h => List.mem_cons_of_mem _ (List.mem_append_right _ (h)))⟩⟩) (by decide +kernel)
set_option maxRecDepth 20000 in
theorem gX5_clear_X5_copy : GoodIn wsX5_clear (wsV RX5 132 RX5 yX5_copy wsX5_copy) := goodIn_app (goodIn_sub (List.forall_mem_cons.mpr ⟨List.mem_cons_of_mem _ (List.mem_append_left _ (List.mem_append_left _ (List.mem_of_getElem? (i := 2) rfl))), List.forall_mem_cons.mpr ⟨List.mem_cons_of_mem _ (List.mem_append_left _ (List.mem_append_left _ (List.mem_of_getElem? (i := 3) rfl))), List.forall_mem_cons.mpr ⟨List.mem_cons_of_mem _ (List.mem_append_left _ (List.mem_append_left _ (List.mem_of_getElem? (i := 4) rfl))), List.forall_mem_cons.mpr ⟨List.mem_cons_of_mem _ (List.mem_append_left _ (List.mem_append_left _ (List.mem_of_getElem? (i := 5) rfl))), (fun _ h => absurd h List.not_mem_nil)⟩⟩⟩⟩) (by decide +kernel)) ggX5_clear_X5_copy
set_option maxRecDepth 20000 in
theorem ggX5_clear_X5_day : GoodIn wsX5_clear wsX5_day := goodIn_sub (List.forall_mem_cons.mpr ⟨List.mem_cons_of_mem _ (List.mem_append_left _ (List.mem_append_left _ (List.mem_of_getElem? (i := 10) rfl))), List.forall_mem_append.mpr ⟨List.forall_mem_append.mpr ⟨List.forall_mem_cons.mpr ⟨List.mem_cons_of_mem _ (List.mem_append_left _ (List.mem_append_left _ (List.mem_of_getElem? (i := 0) rfl))), List.forall_mem_cons.mpr ⟨List.mem_cons_of_mem _ (List.mem_append_left _ (List.mem_append_left _ (List.mem_of_getElem? (i := 11) rfl))), List.forall_mem_cons.mpr ⟨List.mem_cons_of_mem _ (List.mem_append_left _ (List.mem_append_left _ (List.mem_of_getElem? (i := 12) rfl))), List.forall_mem_cons.mpr ⟨List.mem_cons_of_mem _ (List.mem_append_left _ (List.mem_append_left _ (List.mem_of_getElem? (i := 5) rfl))), List.forall_mem_cons.mpr ⟨List.mem_cons_of_mem _ (List.mem_append_left _ (List.mem_append_left _ (List.mem_of_getElem? (i := 13) rfl))), List.forall_mem_cons.mpr ⟨List.mem_cons_of_mem _ (List.mem_append_left _ (List.mem_append_left _ (List.mem_of_getElem? (i := 14) rfl))), List.forall_mem_cons.mpr ⟨List.mem_cons_of_mem _ (List.mem_append_left _ (List.mem_append_left _ (List.mem_of_getElem? (i := 15) rfl))), List.forall_mem_cons.mpr ⟨List.mem_cons_of_mem _ (List.mem_append_left _ (List.mem_append_left _ (List.mem_of_getElem? (i := 16) rfl))), List.forall_mem_cons.mpr ⟨List.mem_cons_of_mem _ (List.mem_append_left _ (List.mem_append_left _ (List.mem_of_getElem? (i := 17) rfl))), List.forall_mem_cons.mpr ⟨List.mem_cons_of_mem _ (List.mem_append_left _ (List.mem_append_left _ (List.mem_of_getElem? (i := 18) rfl))), List.forall_mem_cons.mpr ⟨List.mem_cons_of_mem _ (List.mem_append_left _ (List.mem_append_left _ (List.mem_of_getElem? (i := 19) rfl))), List.forall_mem_cons.mpr ⟨List.mem_cons_of_mem _ (List.mem_append_left _ (List.mem_append_left _ (List.mem_of_getElem? (i := 20) rfl))), List.forall_mem_cons.mpr ⟨List.mem_cons_of_mem _ (List.mem_append_left _ (List.mem_append_left _ (List.mem_of_getElem? (i := 21) rfl))), List.forall_mem_cons.mpr ⟨List.mem_cons_of_mem _ (List.mem_append_left _ (List.mem_append_left _ (List.mem_of_getElem? (i := 22) rfl))), List.forall_mem_cons.mpr ⟨List.mem_cons_of_mem _ (List.mem_append_left _ (List.mem_append_left _ (List.mem_of_getElem? (i := 23) rfl))), List.forall_mem_cons.mpr ⟨List.mem_cons_of_mem _ (List.mem_append_left _ (List.mem_append_right _ (List.mem_of_getElem? (i := 0) rfl))), List.forall_mem_cons.mpr ⟨List.mem_cons_of_mem _ (List.mem_append_left _ (List.mem_append_right _ (List.mem_of_getElem? (i := 1) rfl))), List.forall_mem_cons.mpr ⟨List.mem_cons_of_mem _ (List.mem_append_left _ (List.mem_append_right _ (List.mem_of_getElem? (i := 2) rfl))), List.forall_mem_cons.mpr ⟨List.mem_cons_of_mem _ (List.mem_append_left _ (List.mem_append_right _ (List.mem_of_getElem? (i := 3) rfl))), List.forall_mem_cons.mpr ⟨List.mem_cons_of_mem _ (List.mem_append_left _ (List.mem_append_right _ (List.mem_of_getElem? (i := 4) rfl))), List.forall_mem_cons.mpr ⟨List.mem_cons_of_mem _ (List.mem_append_left _ (List.mem_append_right _ (List.mem_of_getElem? (i := 5) rfl))), List.forall_mem_cons.mpr ⟨List.mem_cons_of_mem _ (List.mem_append_left _ (List.mem_append_right _ (List.mem_of_getElem? (i := 6) rfl))), List.forall_mem_cons.mpr ⟨List.mem_cons_of_mem _ (List.mem_append_left _ (List.mem_append_right _ (List.mem_of_getElem? (i := 7) rfl))), List.forall_mem_cons.mpr ⟨List.mem_cons_of_mem _ (List.mem_append_left _ (List.mem_append_right _ (List.mem_of_getElem? (i := 8) rfl))), (fun _ h => absurd h List.not_mem_nil)⟩⟩⟩⟩⟩⟩⟩⟩⟩⟩⟩⟩⟩⟩⟩⟩⟩⟩⟩⟩⟩⟩⟩⟩, List.forall_mem_cons.mpr ⟨List.mem_cons_of_mem _ (List.mem_append_left _ (List.mem_append_right _ (List.mem_of_getElem? (i := 9) rfl))), List.forall_mem_cons.mpr ⟨List.mem_cons_of_mem _ (List.mem_append_left _ (List.mem_append_right _ (List.mem_of_getElem? (i := 10) rfl))), List.forall_mem_cons.mpr ⟨List.mem_cons_of_mem _ (List.mem_append_left _ (List.mem_append_right _ (List.mem_of_getElem? (i := 11) rfl))), (fun _ h => absurd h List.not_mem_nil)⟩⟩⟩⟩, (fun _ h => List.mem_cons_of_mem _ (List.mem_append_right _ (h)))⟩⟩) (by decide +kernel)
set_option maxRecDepth 20000 in
theorem gX5_clear_X5_day : GoodIn wsX5_clear (wsV RX5 174 RX5 yX5_day wsX5_day) := goodIn_app (goodIn_sub (List.forall_mem_cons.mpr ⟨List.mem_cons_of_mem _ (List.mem_append_left _ (List.mem_append_left _ (List.mem_of_getElem? (i := 7) rfl))), List.forall_mem_cons.mpr ⟨List.mem_cons_of_mem _ (List.mem_append_left _ (List.mem_append_left _ (List.mem_of_getElem? (i := 8) rfl))), List.forall_mem_cons.mpr ⟨List.mem_cons_of_mem _ (List.mem_append_left _ (List.mem_append_left _ (List.mem_of_getElem? (i := 9) rfl))), List.forall_mem_cons.mpr ⟨List.mem_cons_of_mem _ (List.mem_append_left _ (List.mem_append_left _ (List.mem_of_getElem? (i := 5) rfl))), (fun _ h => absurd h List.not_mem_nil)⟩⟩⟩⟩) (by decide +kernel)) ggX5_clear_X5_day
theorem dX5_clear_0 : decode cX5_clear 0 = .ok (.aload_n 0, 1) := by decide +kernel
theorem dX5_clear_1 : decode cX5_clear 1 = .ok (.iconst 0, 1) := by decide +kernel
theorem dX5_clear_2 : decode cX5_clear 2 = .ok (.sipush 225, 3) := by decide +kernel
theorem dX5_clear_5 : decode cX5_clear 5 = .ok (.invokevirtual 132, 3) := by decide +kernel
theorem dX5_clear_8 : decode cX5_clear 8 = .ok (.iconst 0, 1) := by decide +kernel
theorem dX5_clear_9 : decode cX5_clear 9 = .ok (.istore_n 1, 1) := by decide +kernel
theorem dX5_clear_10 : decode cX5_clear 10 = .ok (.iload_n 1, 1) := by decide +kernel
theorem dX5_clear_11 : decode cX5_clear 11 = .ok (.sipush 999, 3) := by decide +kernel
theorem dX5_clear_14 : decode cX5_clear 14 = .ok (.if_icmp .ge 31, 3) := by decide +kernel
theorem dX5_clear_17 : decode cX5_clear 17 = .ok (.aload_n 0, 1) := by decide +kernel
theorem dX5_clear_18 : decode cX5_clear 18 = .ok (.getfield 7, 3) := by decide +kernel
theorem dX5_clear_21 : decode cX5_clear 21 = .ok (.sipush 239, 3) := by decide +kernel
theorem dX5_clear_24 : decode cX5_clear 24 = .ok (.iaload, 1) := by decide +kernel
theorem dX5_clear_25 : decode cX5_clear 25 = .ok (.ifCond .le 20, 3) := by decide +kernel
theorem dX5_clear_28 : decode cX5_clear 28 = .ok (.aload_n 0, 1) := by decide +kernel
theorem dX5_clear_29 : decode cX5_clear 29 = .ok (.sipush 225, 3) := by decide +kernel
theorem dX5_clear_32 : decode cX5_clear 32 = .ok (.aload_n 0, 1) := by decide +kernel
theorem dX5_clear_33 : decode cX5_clear 33 = .ok (.getfield 38, 3) := by decide +kernel
theorem dX5_clear_36 : decode cX5_clear 36 = .ok (.invokevirtual 174, 3) := by decide +kernel
theorem dX5_clear_39 : decode cX5_clear 39 = .ok (.iinc 1 1, 3) := by decide +kernel
theorem dX5_clear_42 : decode cX5_clear 42 = .ok (.goto (-32), 3) := by decide +kernel
theorem dX5_clear_45 : decode cX5_clear 45 = .ok (.aload_n 0, 1) := by decide +kernel
theorem dX5_clear_46 : decode cX5_clear 46 = .ok (.getfield 7, 3) := by decide +kernel
theorem dX5_clear_49 : decode cX5_clear 49 = .ok (.sipush 239, 3) := by decide +kernel
theorem dX5_clear_52 : decode cX5_clear 52 = .ok (.iaload, 1) := by decide +kernel
theorem dX5_clear_53 : decode cX5_clear 53 = .ok (.ifCond .ne 7, 3) := by decide +kernel
theorem dX5_clear_56 : decode cX5_clear 56 = .ok (.iload_n 1, 1) := by decide +kernel
theorem dX5_clear_57 : decode cX5_clear 57 = .ok (.goto 4, 3) := by decide +kernel
theorem dX5_clear_60 : decode cX5_clear 60 = .ok (.iconst (-1), 1) := by decide +kernel
theorem dX5_clear_61 : decode cX5_clear 61 = .ok (.ireturn, 1) := by decide +kernel
set_option maxRecDepth 20000 in
theorem ggX5_owedFor_X5_grown : GoodIn wsX5_owedFor wsX5_grown := goodIn_sub (List.forall_mem_cons.mpr ⟨List.mem_cons_of_mem _ (List.mem_append_left _ (List.mem_of_getElem? (i := 4) rfl)), List.forall_mem_append.mpr ⟨List.forall_mem_cons.mpr ⟨List.mem_cons_of_mem _ (List.mem_append_left _ (List.mem_of_getElem? (i := 5) rfl)), List.forall_mem_cons.mpr ⟨List.mem_cons_of_mem _ (List.mem_append_left _ (List.mem_of_getElem? (i := 6) rfl)), List.forall_mem_cons.mpr ⟨List.mem_cons_of_mem _ (List.mem_append_left _ (List.mem_of_getElem? (i := 7) rfl)), (fun _ h => absurd h List.not_mem_nil)⟩⟩⟩, (fun _ h => List.mem_cons_of_mem _ (List.mem_append_right _ (h)))⟩⟩) (by decide +kernel)
set_option maxRecDepth 20000 in
theorem gX5_owedFor_X5_grown : GoodIn wsX5_owedFor (wsV RX5 160 RX5 yX5_grown wsX5_grown) := goodIn_app (goodIn_sub (List.forall_mem_cons.mpr ⟨List.mem_cons_of_mem _ (List.mem_append_left _ (List.mem_of_getElem? (i := 0) rfl)), List.forall_mem_cons.mpr ⟨List.mem_cons_of_mem _ (List.mem_append_left _ (List.mem_of_getElem? (i := 1) rfl)), List.forall_mem_cons.mpr ⟨List.mem_cons_of_mem _ (List.mem_append_left _ (List.mem_of_getElem? (i := 2) rfl)), List.forall_mem_cons.mpr ⟨List.mem_cons_of_mem _ (List.mem_append_left _ (List.mem_of_getElem? (i := 3) rfl)), (fun _ h => absurd h List.not_mem_nil)⟩⟩⟩⟩) (by decide +kernel)) ggX5_owedFor_X5_grown
theorem dX5_owedFor_0 : decode cX5_owedFor 0 = .ok (.bipush 100, 2) := by decide +kernel
theorem dX5_owedFor_2 : decode cX5_owedFor 2 = .ok (.iload_n 2, 1) := by decide +kernel
theorem dX5_owedFor_3 : decode cX5_owedFor 3 = .ok (.imul, 1) := by decide +kernel
theorem dX5_owedFor_4 : decode cX5_owedFor 4 = .ok (.istore 4, 2) := by decide +kernel
theorem dX5_owedFor_6 : decode cX5_owedFor 6 = .ok (.iconst 0, 1) := by decide +kernel
theorem dX5_owedFor_7 : decode cX5_owedFor 7 = .ok (.istore 5, 2) := by decide +kernel
theorem dX5_owedFor_9 : decode cX5_owedFor 9 = .ok (.iload 5, 2) := by decide +kernel
theorem dX5_owedFor_11 : decode cX5_owedFor 11 = .ok (.iload_n 3, 1) := by decide +kernel
theorem dX5_owedFor_12 : decode cX5_owedFor 12 = .ok (.if_icmp .ge 19, 3) := by decide +kernel
theorem dX5_owedFor_15 : decode cX5_owedFor 15 = .ok (.aload_n 0, 1) := by decide +kernel
theorem dX5_owedFor_16 : decode cX5_owedFor 16 = .ok (.iload_n 1, 1) := by decide +kernel
theorem dX5_owedFor_17 : decode cX5_owedFor 17 = .ok (.iload 4, 2) := by decide +kernel
theorem dX5_owedFor_19 : decode cX5_owedFor 19 = .ok (.iload_n 2, 1) := by decide +kernel
theorem dX5_owedFor_20 : decode cX5_owedFor 20 = .ok (.invokevirtual 160, 3) := by decide +kernel
theorem dX5_owedFor_23 : decode cX5_owedFor 23 = .ok (.istore 4, 2) := by decide +kernel
theorem dX5_owedFor_25 : decode cX5_owedFor 25 = .ok (.iinc 5 1, 3) := by decide +kernel
theorem dX5_owedFor_28 : decode cX5_owedFor 28 = .ok (.goto (-19), 3) := by decide +kernel
theorem dX5_owedFor_31 : decode cX5_owedFor 31 = .ok (.iload 4, 2) := by decide +kernel
theorem dX5_owedFor_33 : decode cX5_owedFor 33 = .ok (.ireturn, 1) := by decide +kernel
set_option maxRecDepth 20000 in
theorem ggX5_layPrices_X5_lends : GoodIn wsX5_layPrices wsX5_lends := goodIn_sub (List.forall_mem_cons.mpr ⟨List.mem_cons_of_mem _ (List.mem_append_left _ (List.mem_append_left _ (List.mem_of_getElem? (i := 7) rfl))), List.forall_mem_append.mpr ⟨List.forall_mem_cons.mpr ⟨List.mem_cons_of_mem _ (List.mem_append_left _ (List.mem_append_left _ (List.mem_of_getElem? (i := 8) rfl))), List.forall_mem_cons.mpr ⟨List.mem_cons_of_mem _ (List.mem_append_left _ (List.mem_append_left _ (List.mem_of_getElem? (i := 9) rfl))), List.forall_mem_cons.mpr ⟨List.mem_cons_of_mem _ (List.mem_append_left _ (List.mem_append_left _ (List.mem_of_getElem? (i := 10) rfl))), List.forall_mem_cons.mpr ⟨List.mem_cons_of_mem _ (List.mem_append_left _ (List.mem_append_left _ (List.mem_of_getElem? (i := 6) rfl))), List.forall_mem_cons.mpr ⟨List.mem_cons_of_mem _ (List.mem_append_left _ (List.mem_append_left _ (List.mem_of_getElem? (i := 11) rfl))), List.forall_mem_cons.mpr ⟨List.mem_cons_of_mem _ (List.mem_append_left _ (List.mem_append_left _ (List.mem_of_getElem? (i := 1) rfl))), List.forall_mem_cons.mpr ⟨List.mem_cons_of_mem _ (List.mem_append_left _ (List.mem_append_left _ (List.mem_of_getElem? (i := 12) rfl))), List.forall_mem_cons.mpr ⟨List.mem_cons_of_mem _ (List.mem_append_left _ (List.mem_append_left _ (List.mem_of_getElem? (i := 13) rfl))), List.forall_mem_cons.mpr ⟨List.mem_cons_of_mem _ (List.mem_append_left _ (List.mem_append_left _ (List.mem_of_getElem? (i := 14) rfl))), List.forall_mem_cons.mpr ⟨List.mem_cons_of_mem _ (List.mem_append_left _ (List.mem_append_left _ (List.mem_of_getElem? (i := 15) rfl))), List.forall_mem_cons.mpr ⟨List.mem_cons_of_mem _ (List.mem_append_left _ (List.mem_append_left _ (List.mem_of_getElem? (i := 16) rfl))), List.forall_mem_cons.mpr ⟨List.mem_cons_of_mem _ (List.mem_append_left _ (List.mem_append_left _ (List.mem_of_getElem? (i := 17) rfl))), List.forall_mem_cons.mpr ⟨List.mem_cons_of_mem _ (List.mem_append_left _ (List.mem_append_left _ (List.mem_of_getElem? (i := 18) rfl))), List.forall_mem_cons.mpr ⟨List.mem_cons_of_mem _ (List.mem_append_left _ (List.mem_append_left _ (List.mem_of_getElem? (i := 19) rfl))), List.forall_mem_cons.mpr ⟨List.mem_cons_of_mem _ (List.mem_append_left _ (List.mem_append_left _ (List.mem_of_getElem? (i := 20) rfl))), List.forall_mem_cons.mpr ⟨List.mem_cons_of_mem _ (List.mem_append_left _ (List.mem_append_left _ (List.mem_of_getElem? (i := 21) rfl))), List.forall_mem_cons.mpr ⟨List.mem_cons_of_mem _ (List.mem_append_left _ (List.mem_append_left _ (List.mem_of_getElem? (i := 22) rfl))), List.forall_mem_cons.mpr ⟨List.mem_cons_of_mem _ (List.mem_append_left _ (List.mem_append_left _ (List.mem_of_getElem? (i := 23) rfl))), List.forall_mem_cons.mpr ⟨List.mem_cons_of_mem _ (List.mem_append_left _ (List.mem_append_right _ (List.mem_of_getElem? (i := 0) rfl))), (fun _ h => absurd h List.not_mem_nil)⟩⟩⟩⟩⟩⟩⟩⟩⟩⟩⟩⟩⟩⟩⟩⟩⟩⟩⟩, (fun _ h => List.mem_cons_of_mem _ (List.mem_append_right _ (h)))⟩⟩) (by decide +kernel)
set_option maxRecDepth 20000 in
theorem gX5_layPrices_X5_lends : GoodIn wsX5_layPrices (wsV RX5 171 RX5 yX5_lends wsX5_lends) := goodIn_app (goodIn_sub (List.forall_mem_cons.mpr ⟨List.mem_cons_of_mem _ (List.mem_append_left _ (List.mem_append_left _ (List.mem_of_getElem? (i := 3) rfl))), List.forall_mem_cons.mpr ⟨List.mem_cons_of_mem _ (List.mem_append_left _ (List.mem_append_left _ (List.mem_of_getElem? (i := 4) rfl))), List.forall_mem_cons.mpr ⟨List.mem_cons_of_mem _ (List.mem_append_left _ (List.mem_append_left _ (List.mem_of_getElem? (i := 5) rfl))), List.forall_mem_cons.mpr ⟨List.mem_cons_of_mem _ (List.mem_append_left _ (List.mem_append_left _ (List.mem_of_getElem? (i := 6) rfl))), (fun _ h => absurd h List.not_mem_nil)⟩⟩⟩⟩) (by decide +kernel)) ggX5_layPrices_X5_lends
set_option maxRecDepth 20000 in
theorem ggX5_layPrices_X5_owedFor : GoodIn wsX5_layPrices wsX5_owedFor := goodIn_sub (List.forall_mem_cons.mpr ⟨List.mem_cons_of_mem _ (List.mem_append_left _ (List.mem_append_right _ (List.mem_of_getElem? (i := 4) rfl))), List.forall_mem_append.mpr ⟨List.forall_mem_cons.mpr ⟨List.mem_cons_of_mem _ (List.mem_append_left _ (List.mem_append_right _ (List.mem_of_getElem? (i := 5) rfl))), List.forall_mem_cons.mpr ⟨List.mem_cons_of_mem _ (List.mem_append_left _ (List.mem_append_right _ (List.mem_of_getElem? (i := 6) rfl))), List.forall_mem_cons.mpr ⟨List.mem_cons_of_mem _ (List.mem_append_left _ (List.mem_append_right _ (List.mem_of_getElem? (i := 7) rfl))), List.forall_mem_cons.mpr ⟨List.mem_cons_of_mem _ (List.mem_append_left _ (List.mem_append_left _ (List.mem_of_getElem? (i := 6) rfl))), List.forall_mem_cons.mpr ⟨List.mem_cons_of_mem _ (List.mem_append_left _ (List.mem_append_right _ (List.mem_of_getElem? (i := 8) rfl))), List.forall_mem_cons.mpr ⟨List.mem_cons_of_mem _ (List.mem_append_left _ (List.mem_append_right _ (List.mem_of_getElem? (i := 9) rfl))), List.forall_mem_cons.mpr ⟨List.mem_cons_of_mem _ (List.mem_append_left _ (List.mem_append_right _ (List.mem_of_getElem? (i := 10) rfl))), List.forall_mem_cons.mpr ⟨List.mem_cons_of_mem _ (List.mem_append_left _ (List.mem_append_right _ (List.mem_of_getElem? (i := 11) rfl))), (fun _ h => absurd h List.not_mem_nil)⟩⟩⟩⟩⟩⟩⟩⟩, (fun _ h => List.mem_cons_of_mem _ (List.mem_append_right _ (h)))⟩⟩) (by decide +kernel)
set_option maxRecDepth 20000 in
theorem gX5_layPrices_X5_owedFor : GoodIn wsX5_layPrices (wsV RX5 188 RX5 yX5_owedFor wsX5_owedFor) := goodIn_app (goodIn_sub (List.forall_mem_cons.mpr ⟨List.mem_cons_of_mem _ (List.mem_append_left _ (List.mem_append_right _ (List.mem_of_getElem? (i := 1) rfl))), List.forall_mem_cons.mpr ⟨List.mem_cons_of_mem _ (List.mem_append_left _ (List.mem_append_right _ (List.mem_of_getElem? (i := 2) rfl))), List.forall_mem_cons.mpr ⟨List.mem_cons_of_mem _ (List.mem_append_left _ (List.mem_append_right _ (List.mem_of_getElem? (i := 3) rfl))), List.forall_mem_cons.mpr ⟨List.mem_cons_of_mem _ (List.mem_append_left _ (List.mem_append_left _ (List.mem_of_getElem? (i := 6) rfl))), (fun _ h => absurd h List.not_mem_nil)⟩⟩⟩⟩) (by decide +kernel)) ggX5_layPrices_X5_owedFor
theorem dX5_layPrices_0 : decode cX5_layPrices 0 = .ok (.iconst 0, 1) := by decide +kernel
theorem dX5_layPrices_1 : decode cX5_layPrices 1 = .ok (.istore_n 2, 1) := by decide +kernel
theorem dX5_layPrices_2 : decode cX5_layPrices 2 = .ok (.iload_n 2, 1) := by decide +kernel
theorem dX5_layPrices_3 : decode cX5_layPrices 3 = .ok (.aload_n 0, 1) := by decide +kernel
theorem dX5_layPrices_4 : decode cX5_layPrices 4 = .ok (.getfield 115, 3) := by decide +kernel
theorem dX5_layPrices_7 : decode cX5_layPrices 7 = .ok (.if_icmp .ge 76, 3) := by decide +kernel
theorem dX5_layPrices_10 : decode cX5_layPrices 10 = .ok (.aload_n 0, 1) := by decide +kernel
theorem dX5_layPrices_11 : decode cX5_layPrices 11 = .ok (.iload_n 2, 1) := by decide +kernel
theorem dX5_layPrices_12 : decode cX5_layPrices 12 = .ok (.invokevirtual 171, 3) := by decide +kernel
theorem dX5_layPrices_15 : decode cX5_layPrices 15 = .ok (.ifCond .eq 14, 3) := by decide +kernel
theorem dX5_layPrices_18 : decode cX5_layPrices 18 = .ok (.aload_n 0, 1) := by decide +kernel
theorem dX5_layPrices_19 : decode cX5_layPrices 19 = .ok (.getfield 7, 3) := by decide +kernel
theorem dX5_layPrices_22 : decode cX5_layPrices 22 = .ok (.iconst 2, 1) := by decide +kernel
theorem dX5_layPrices_23 : decode cX5_layPrices 23 = .ok (.iload_n 2, 1) := by decide +kernel
theorem dX5_layPrices_24 : decode cX5_layPrices 24 = .ok (.iadd, 1) := by decide +kernel
theorem dX5_layPrices_25 : decode cX5_layPrices 25 = .ok (.iaload, 1) := by decide +kernel
theorem dX5_layPrices_26 : decode cX5_layPrices 26 = .ok (.goto 4, 3) := by decide +kernel
theorem dX5_layPrices_29 : decode cX5_layPrices 29 = .ok (.iconst 0, 1) := by decide +kernel
theorem dX5_layPrices_30 : decode cX5_layPrices 30 = .ok (.istore_n 3, 1) := by decide +kernel
theorem dX5_layPrices_31 : decode cX5_layPrices 31 = .ok (.iconst 0, 1) := by decide +kernel
theorem dX5_layPrices_32 : decode cX5_layPrices 32 = .ok (.istore 4, 2) := by decide +kernel
theorem dX5_layPrices_34 : decode cX5_layPrices 34 = .ok (.iload 4, 2) := by decide +kernel
theorem dX5_layPrices_36 : decode cX5_layPrices 36 = .ok (.bipush 100, 2) := by decide +kernel
theorem dX5_layPrices_38 : decode cX5_layPrices 38 = .ok (.if_icmp .ge 39, 3) := by decide +kernel
theorem dX5_layPrices_41 : decode cX5_layPrices 41 = .ok (.aload_n 0, 1) := by decide +kernel
theorem dX5_layPrices_42 : decode cX5_layPrices 42 = .ok (.getfield 42, 3) := by decide +kernel
theorem dX5_layPrices_45 : decode cX5_layPrices 45 = .ok (.bipush 100, 2) := by decide +kernel
theorem dX5_layPrices_47 : decode cX5_layPrices 47 = .ok (.iload_n 2, 1) := by decide +kernel
theorem dX5_layPrices_48 : decode cX5_layPrices 48 = .ok (.imul, 1) := by decide +kernel
theorem dX5_layPrices_49 : decode cX5_layPrices 49 = .ok (.iload 4, 2) := by decide +kernel
theorem dX5_layPrices_51 : decode cX5_layPrices 51 = .ok (.iadd, 1) := by decide +kernel
theorem dX5_layPrices_52 : decode cX5_layPrices 52 = .ok (.iload 4, 2) := by decide +kernel
theorem dX5_layPrices_54 : decode cX5_layPrices 54 = .ok (.iload_n 3, 1) := by decide +kernel
theorem dX5_layPrices_55 : decode cX5_layPrices 55 = .ok (.if_icmp .gt 14, 3) := by decide +kernel
theorem dX5_layPrices_58 : decode cX5_layPrices 58 = .ok (.aload_n 0, 1) := by decide +kernel
theorem dX5_layPrices_59 : decode cX5_layPrices 59 = .ok (.iload_n 2, 1) := by decide +kernel
theorem dX5_layPrices_60 : decode cX5_layPrices 60 = .ok (.iload 4, 2) := by decide +kernel
theorem dX5_layPrices_62 : decode cX5_layPrices 62 = .ok (.iload_n 1, 1) := by decide +kernel
theorem dX5_layPrices_63 : decode cX5_layPrices 63 = .ok (.invokevirtual 188, 3) := by decide +kernel
theorem dX5_layPrices_66 : decode cX5_layPrices 66 = .ok (.goto 4, 3) := by decide +kernel
theorem dX5_layPrices_69 : decode cX5_layPrices 69 = .ok (.iconst (-1), 1) := by decide +kernel
theorem dX5_layPrices_70 : decode cX5_layPrices 70 = .ok (.iastore, 1) := by decide +kernel
theorem dX5_layPrices_71 : decode cX5_layPrices 71 = .ok (.iinc 4 1, 3) := by decide +kernel
theorem dX5_layPrices_74 : decode cX5_layPrices 74 = .ok (.goto (-40), 3) := by decide +kernel
theorem dX5_layPrices_77 : decode cX5_layPrices 77 = .ok (.iinc 2 1, 3) := by decide +kernel
theorem dX5_layPrices_80 : decode cX5_layPrices 80 = .ok (.goto (-78), 3) := by decide +kernel
theorem dX5_layPrices_83 : decode cX5_layPrices 83 = .ok (.return_, 1) := by decide +kernel
theorem dX5_by_0 : decode cX5_by 0 = .ok (.iload_n 2, 1) := by decide +kernel
theorem dX5_by_1 : decode cX5_by 1 = .ok (.iload_n 3, 1) := by decide +kernel
theorem dX5_by_2 : decode cX5_by 2 = .ok (.if_icmp .gt 17, 3) := by decide +kernel
theorem dX5_by_5 : decode cX5_by 5 = .ok (.aload_n 0, 1) := by decide +kernel
theorem dX5_by_6 : decode cX5_by 6 = .ok (.getfield 42, 3) := by decide +kernel
theorem dX5_by_9 : decode cX5_by 9 = .ok (.bipush 100, 2) := by decide +kernel
theorem dX5_by_11 : decode cX5_by 11 = .ok (.iload_n 1, 1) := by decide +kernel
theorem dX5_by_12 : decode cX5_by 12 = .ok (.imul, 1) := by decide +kernel
theorem dX5_by_13 : decode cX5_by 13 = .ok (.iload_n 2, 1) := by decide +kernel
theorem dX5_by_14 : decode cX5_by 14 = .ok (.iadd, 1) := by decide +kernel
theorem dX5_by_15 : decode cX5_by 15 = .ok (.iaload, 1) := by decide +kernel
theorem dX5_by_16 : decode cX5_by 16 = .ok (.goto 4, 3) := by decide +kernel
theorem dX5_by_19 : decode cX5_by 19 = .ok (.iconst (-1), 1) := by decide +kernel
theorem dX5_by_20 : decode cX5_by 20 = .ok (.istore 4, 2) := by decide +kernel
theorem dX5_by_22 : decode cX5_by 22 = .ok (.iload 4, 2) := by decide +kernel
theorem dX5_by_24 : decode cX5_by 24 = .ok (.iconst (-1), 1) := by decide +kernel
theorem dX5_by_25 : decode cX5_by 25 = .ok (.if_icmp .ne 7, 3) := by decide +kernel
theorem dX5_by_28 : decode cX5_by 28 = .ok (.iconst (-1), 1) := by decide +kernel
theorem dX5_by_29 : decode cX5_by 29 = .ok (.goto 18, 3) := by decide +kernel
theorem dX5_by_32 : decode cX5_by 32 = .ok (.aload_n 0, 1) := by decide +kernel
theorem dX5_by_33 : decode cX5_by 33 = .ok (.getfield 45, 3) := by decide +kernel
theorem dX5_by_36 : decode cX5_by 36 = .ok (.bipush 100, 2) := by decide +kernel
theorem dX5_by_38 : decode cX5_by 38 = .ok (.iload_n 1, 1) := by decide +kernel
theorem dX5_by_39 : decode cX5_by 39 = .ok (.iconst 1, 1) := by decide +kernel
theorem dX5_by_40 : decode cX5_by 40 = .ok (.iadd, 1) := by decide +kernel
theorem dX5_by_41 : decode cX5_by 41 = .ok (.imul, 1) := by decide +kernel
theorem dX5_by_42 : decode cX5_by 42 = .ok (.iload_n 3, 1) := by decide +kernel
theorem dX5_by_43 : decode cX5_by 43 = .ok (.iadd, 1) := by decide +kernel
theorem dX5_by_44 : decode cX5_by 44 = .ok (.iload_n 2, 1) := by decide +kernel
theorem dX5_by_45 : decode cX5_by 45 = .ok (.isub, 1) := by decide +kernel
theorem dX5_by_46 : decode cX5_by 46 = .ok (.iaload, 1) := by decide +kernel
theorem dX5_by_47 : decode cX5_by 47 = .ok (.istore 5, 2) := by decide +kernel
theorem dX5_by_49 : decode cX5_by 49 = .ok (.iload 5, 2) := by decide +kernel
theorem dX5_by_51 : decode cX5_by 51 = .ok (.iconst (-1), 1) := by decide +kernel
theorem dX5_by_52 : decode cX5_by 52 = .ok (.if_icmp .ne 7, 3) := by decide +kernel
theorem dX5_by_55 : decode cX5_by 55 = .ok (.iconst (-1), 1) := by decide +kernel
theorem dX5_by_56 : decode cX5_by 56 = .ok (.goto 8, 3) := by decide +kernel
theorem dX5_by_59 : decode cX5_by 59 = .ok (.iload 4, 2) := by decide +kernel
theorem dX5_by_61 : decode cX5_by 61 = .ok (.iload 5, 2) := by decide +kernel
theorem dX5_by_63 : decode cX5_by 63 = .ok (.iadd, 1) := by decide +kernel
theorem dX5_by_64 : decode cX5_by 64 = .ok (.ireturn, 1) := by decide +kernel
set_option maxRecDepth 20000 in
theorem ggX5_layLeasts_X5_by : GoodIn wsX5_layLeasts wsX5_by := goodIn_sub (List.forall_mem_cons.mpr ⟨List.mem_cons_of_mem _ (List.mem_append_left _ (List.mem_of_getElem? (i := 6) rfl)), List.forall_mem_append.mpr ⟨List.forall_mem_cons.mpr ⟨List.mem_cons_of_mem _ (List.mem_append_left _ (List.mem_of_getElem? (i := 7) rfl)), List.forall_mem_cons.mpr ⟨List.mem_cons_of_mem _ (List.mem_append_left _ (List.mem_of_getElem? (i := 0) rfl)), (fun _ h => absurd h List.not_mem_nil)⟩⟩, (fun _ h => List.mem_cons_of_mem _ (List.mem_append_right _ (h)))⟩⟩) (by decide +kernel)
set_option maxRecDepth 20000 in
theorem gX5_layLeasts_X5_by : GoodIn wsX5_layLeasts (wsV RX5 191 RX5 yX5_by wsX5_by) := goodIn_app (goodIn_sub (List.forall_mem_cons.mpr ⟨List.mem_cons_of_mem _ (List.mem_append_left _ (List.mem_of_getElem? (i := 2) rfl)), List.forall_mem_cons.mpr ⟨List.mem_cons_of_mem _ (List.mem_append_left _ (List.mem_of_getElem? (i := 3) rfl)), List.forall_mem_cons.mpr ⟨List.mem_cons_of_mem _ (List.mem_append_left _ (List.mem_of_getElem? (i := 4) rfl)), List.forall_mem_cons.mpr ⟨List.mem_cons_of_mem _ (List.mem_append_left _ (List.mem_of_getElem? (i := 5) rfl)), (fun _ h => absurd h List.not_mem_nil)⟩⟩⟩⟩) (by decide +kernel)) ggX5_layLeasts_X5_by
theorem dX5_layLeasts_0 : decode cX5_layLeasts 0 = .ok (.iconst 0, 1) := by decide +kernel
theorem dX5_layLeasts_1 : decode cX5_layLeasts 1 = .ok (.istore_n 1, 1) := by decide +kernel
theorem dX5_layLeasts_2 : decode cX5_layLeasts 2 = .ok (.iload_n 1, 1) := by decide +kernel
theorem dX5_layLeasts_3 : decode cX5_layLeasts 3 = .ok (.bipush 100, 2) := by decide +kernel
theorem dX5_layLeasts_5 : decode cX5_layLeasts 5 = .ok (.if_icmp .ge 32, 3) := by decide +kernel
theorem dX5_layLeasts_8 : decode cX5_layLeasts 8 = .ok (.aload_n 0, 1) := by decide +kernel
theorem dX5_layLeasts_9 : decode cX5_layLeasts 9 = .ok (.getfield 45, 3) := by decide +kernel
theorem dX5_layLeasts_12 : decode cX5_layLeasts 12 = .ok (.bipush 100, 2) := by decide +kernel
theorem dX5_layLeasts_14 : decode cX5_layLeasts 14 = .ok (.aload_n 0, 1) := by decide +kernel
theorem dX5_layLeasts_15 : decode cX5_layLeasts 15 = .ok (.getfield 115, 3) := by decide +kernel
theorem dX5_layLeasts_18 : decode cX5_layLeasts 18 = .ok (.imul, 1) := by decide +kernel
theorem dX5_layLeasts_19 : decode cX5_layLeasts 19 = .ok (.iload_n 1, 1) := by decide +kernel
theorem dX5_layLeasts_20 : decode cX5_layLeasts 20 = .ok (.iadd, 1) := by decide +kernel
theorem dX5_layLeasts_21 : decode cX5_layLeasts 21 = .ok (.iload_n 1, 1) := by decide +kernel
theorem dX5_layLeasts_22 : decode cX5_layLeasts 22 = .ok (.ifCond .ne 7, 3) := by decide +kernel
theorem dX5_layLeasts_25 : decode cX5_layLeasts 25 = .ok (.iconst 0, 1) := by decide +kernel
theorem dX5_layLeasts_26 : decode cX5_layLeasts 26 = .ok (.goto 4, 3) := by decide +kernel
theorem dX5_layLeasts_29 : decode cX5_layLeasts 29 = .ok (.iconst (-1), 1) := by decide +kernel
theorem dX5_layLeasts_30 : decode cX5_layLeasts 30 = .ok (.iastore, 1) := by decide +kernel
theorem dX5_layLeasts_31 : decode cX5_layLeasts 31 = .ok (.iinc 1 1, 3) := by decide +kernel
theorem dX5_layLeasts_34 : decode cX5_layLeasts 34 = .ok (.goto (-32), 3) := by decide +kernel
theorem dX5_layLeasts_37 : decode cX5_layLeasts 37 = .ok (.aload_n 0, 1) := by decide +kernel
theorem dX5_layLeasts_38 : decode cX5_layLeasts 38 = .ok (.getfield 115, 3) := by decide +kernel
theorem dX5_layLeasts_41 : decode cX5_layLeasts 41 = .ok (.iconst 1, 1) := by decide +kernel
theorem dX5_layLeasts_42 : decode cX5_layLeasts 42 = .ok (.isub, 1) := by decide +kernel
theorem dX5_layLeasts_43 : decode cX5_layLeasts 43 = .ok (.istore_n 1, 1) := by decide +kernel
theorem dX5_layLeasts_44 : decode cX5_layLeasts 44 = .ok (.iload_n 1, 1) := by decide +kernel
theorem dX5_layLeasts_45 : decode cX5_layLeasts 45 = .ok (.ifCond .lt 86, 3) := by decide +kernel
theorem dX5_layLeasts_48 : decode cX5_layLeasts 48 = .ok (.iconst 0, 1) := by decide +kernel
theorem dX5_layLeasts_49 : decode cX5_layLeasts 49 = .ok (.istore_n 2, 1) := by decide +kernel
theorem dX5_layLeasts_50 : decode cX5_layLeasts 50 = .ok (.iload_n 2, 1) := by decide +kernel
theorem dX5_layLeasts_51 : decode cX5_layLeasts 51 = .ok (.bipush 100, 2) := by decide +kernel
theorem dX5_layLeasts_53 : decode cX5_layLeasts 53 = .ok (.if_icmp .ge 72, 3) := by decide +kernel
theorem dX5_layLeasts_56 : decode cX5_layLeasts 56 = .ok (.iconst (-1), 1) := by decide +kernel
theorem dX5_layLeasts_57 : decode cX5_layLeasts 57 = .ok (.istore_n 3, 1) := by decide +kernel
theorem dX5_layLeasts_58 : decode cX5_layLeasts 58 = .ok (.iconst 0, 1) := by decide +kernel
theorem dX5_layLeasts_59 : decode cX5_layLeasts 59 = .ok (.istore 4, 2) := by decide +kernel
theorem dX5_layLeasts_61 : decode cX5_layLeasts 61 = .ok (.iload 4, 2) := by decide +kernel
theorem dX5_layLeasts_63 : decode cX5_layLeasts 63 = .ok (.iload_n 2, 1) := by decide +kernel
theorem dX5_layLeasts_64 : decode cX5_layLeasts 64 = .ok (.if_icmp .gt 43, 3) := by decide +kernel
theorem dX5_layLeasts_67 : decode cX5_layLeasts 67 = .ok (.aload_n 0, 1) := by decide +kernel
theorem dX5_layLeasts_68 : decode cX5_layLeasts 68 = .ok (.iload_n 1, 1) := by decide +kernel
theorem dX5_layLeasts_69 : decode cX5_layLeasts 69 = .ok (.iload 4, 2) := by decide +kernel
theorem dX5_layLeasts_71 : decode cX5_layLeasts 71 = .ok (.iload_n 2, 1) := by decide +kernel
theorem dX5_layLeasts_72 : decode cX5_layLeasts 72 = .ok (.invokevirtual 191, 3) := by decide +kernel
theorem dX5_layLeasts_75 : decode cX5_layLeasts 75 = .ok (.istore 5, 2) := by decide +kernel
theorem dX5_layLeasts_77 : decode cX5_layLeasts 77 = .ok (.iload 5, 2) := by decide +kernel
theorem dX5_layLeasts_79 : decode cX5_layLeasts 79 = .ok (.iconst (-1), 1) := by decide +kernel
theorem dX5_layLeasts_80 : decode cX5_layLeasts 80 = .ok (.if_icmp .eq 19, 3) := by decide +kernel
theorem dX5_layLeasts_83 : decode cX5_layLeasts 83 = .ok (.iload_n 3, 1) := by decide +kernel
theorem dX5_layLeasts_84 : decode cX5_layLeasts 84 = .ok (.iconst (-1), 1) := by decide +kernel
theorem dX5_layLeasts_85 : decode cX5_layLeasts 85 = .ok (.if_icmp .eq 9, 3) := by decide +kernel
theorem dX5_layLeasts_88 : decode cX5_layLeasts 88 = .ok (.iload 5, 2) := by decide +kernel
theorem dX5_layLeasts_90 : decode cX5_layLeasts 90 = .ok (.iload_n 3, 1) := by decide +kernel
theorem dX5_layLeasts_91 : decode cX5_layLeasts 91 = .ok (.if_icmp .ge 8, 3) := by decide +kernel
theorem dX5_layLeasts_94 : decode cX5_layLeasts 94 = .ok (.iload 5, 2) := by decide +kernel
theorem dX5_layLeasts_96 : decode cX5_layLeasts 96 = .ok (.goto 4, 3) := by decide +kernel
theorem dX5_layLeasts_99 : decode cX5_layLeasts 99 = .ok (.iload_n 3, 1) := by decide +kernel
theorem dX5_layLeasts_100 : decode cX5_layLeasts 100 = .ok (.istore_n 3, 1) := by decide +kernel
theorem dX5_layLeasts_101 : decode cX5_layLeasts 101 = .ok (.iinc 4 1, 3) := by decide +kernel
theorem dX5_layLeasts_104 : decode cX5_layLeasts 104 = .ok (.goto (-43), 3) := by decide +kernel
theorem dX5_layLeasts_107 : decode cX5_layLeasts 107 = .ok (.aload_n 0, 1) := by decide +kernel
theorem dX5_layLeasts_108 : decode cX5_layLeasts 108 = .ok (.getfield 45, 3) := by decide +kernel
theorem dX5_layLeasts_111 : decode cX5_layLeasts 111 = .ok (.bipush 100, 2) := by decide +kernel
theorem dX5_layLeasts_113 : decode cX5_layLeasts 113 = .ok (.iload_n 1, 1) := by decide +kernel
theorem dX5_layLeasts_114 : decode cX5_layLeasts 114 = .ok (.imul, 1) := by decide +kernel
theorem dX5_layLeasts_115 : decode cX5_layLeasts 115 = .ok (.iload_n 2, 1) := by decide +kernel
theorem dX5_layLeasts_116 : decode cX5_layLeasts 116 = .ok (.iadd, 1) := by decide +kernel
theorem dX5_layLeasts_117 : decode cX5_layLeasts 117 = .ok (.iload_n 3, 1) := by decide +kernel
theorem dX5_layLeasts_118 : decode cX5_layLeasts 118 = .ok (.iastore, 1) := by decide +kernel
theorem dX5_layLeasts_119 : decode cX5_layLeasts 119 = .ok (.iinc 2 1, 3) := by decide +kernel
theorem dX5_layLeasts_122 : decode cX5_layLeasts 122 = .ok (.goto (-72), 3) := by decide +kernel
theorem dX5_layLeasts_125 : decode cX5_layLeasts 125 = .ok (.iinc 1 (-1), 3) := by decide +kernel
theorem dX5_layLeasts_128 : decode cX5_layLeasts 128 = .ok (.goto (-84), 3) := by decide +kernel
theorem dX5_layLeasts_131 : decode cX5_layLeasts 131 = .ok (.return_, 1) := by decide +kernel
set_option maxRecDepth 20000 in
theorem ggX5_hut_X5_in : GoodIn wsX5_hut wsX5_in := goodIn_sub (List.forall_mem_cons.mpr ⟨List.mem_cons_of_mem _ (List.mem_append_left _ (List.mem_append_left _ (List.mem_of_getElem? (i := 6) rfl))), (fun _ h => absurd h List.not_mem_nil)⟩) (by decide +kernel)
set_option maxRecDepth 20000 in
theorem gX5_hut_X5_in : GoodIn wsX5_hut (va_wsS RX5 50 yX5_in wsX5_in) := goodIn_app (goodIn_sub (List.forall_mem_cons.mpr ⟨List.mem_cons_of_mem _ (List.mem_append_left _ (List.mem_append_left _ (List.mem_of_getElem? (i := 3) rfl))), List.forall_mem_cons.mpr ⟨List.mem_cons_of_mem _ (List.mem_append_left _ (List.mem_append_left _ (List.mem_of_getElem? (i := 4) rfl))), List.forall_mem_cons.mpr ⟨List.mem_cons_of_mem _ (List.mem_append_left _ (List.mem_append_left _ (List.mem_of_getElem? (i := 5) rfl))), (fun _ h => absurd h List.not_mem_nil)⟩⟩⟩) (by decide +kernel)) ggX5_hut_X5_in
set_option maxRecDepth 20000 in
theorem ggX5_hut_X5_isTree : GoodIn wsX5_hut wsX5_isTree := goodIn_sub (List.forall_mem_cons.mpr ⟨List.mem_cons_of_mem _ (List.mem_append_left _ (List.mem_append_left _ (List.mem_of_getElem? (i := 10) rfl))), List.forall_mem_append.mpr ⟨List.forall_mem_cons.mpr ⟨List.mem_cons_of_mem _ (List.mem_append_left _ (List.mem_append_left _ (List.mem_of_getElem? (i := 11) rfl))), List.forall_mem_cons.mpr ⟨List.mem_cons_of_mem _ (List.mem_append_left _ (List.mem_append_left _ (List.mem_of_getElem? (i := 3) rfl))), List.forall_mem_cons.mpr ⟨List.mem_cons_of_mem _ (List.mem_append_left _ (List.mem_append_left _ (List.mem_of_getElem? (i := 4) rfl))), List.forall_mem_cons.mpr ⟨List.mem_cons_of_mem _ (List.mem_append_left _ (List.mem_append_left _ (List.mem_of_getElem? (i := 5) rfl))), List.forall_mem_cons.mpr ⟨List.mem_cons_of_mem _ (List.mem_append_left _ (List.mem_append_left _ (List.mem_of_getElem? (i := 6) rfl))), (fun _ h => absurd h List.not_mem_nil)⟩⟩⟩⟩⟩, (fun _ h => List.mem_cons_of_mem _ (List.mem_append_right _ (h)))⟩⟩) (by decide +kernel)
set_option maxRecDepth 20000 in
theorem gX5_hut_X5_isTree : GoodIn wsX5_hut (wsV RX5 166 RX5 yX5_isTree wsX5_isTree) := goodIn_app (goodIn_sub (List.forall_mem_cons.mpr ⟨List.mem_cons_of_mem _ (List.mem_append_left _ (List.mem_append_left _ (List.mem_of_getElem? (i := 7) rfl))), List.forall_mem_cons.mpr ⟨List.mem_cons_of_mem _ (List.mem_append_left _ (List.mem_append_left _ (List.mem_of_getElem? (i := 8) rfl))), List.forall_mem_cons.mpr ⟨List.mem_cons_of_mem _ (List.mem_append_left _ (List.mem_append_left _ (List.mem_of_getElem? (i := 9) rfl))), List.forall_mem_cons.mpr ⟨List.mem_cons_of_mem _ (List.mem_append_left _ (List.mem_append_left _ (List.mem_of_getElem? (i := 5) rfl))), (fun _ h => absurd h List.not_mem_nil)⟩⟩⟩⟩) (by decide +kernel)) ggX5_hut_X5_isTree
set_option maxRecDepth 20000 in
theorem ggX5_hut_X5_layPrices : GoodIn wsX5_hut wsX5_layPrices := goodIn_sub (List.forall_mem_cons.mpr ⟨List.mem_cons_of_mem _ (List.mem_append_left _ (List.mem_append_left _ (List.mem_of_getElem? (i := 15) rfl))), List.forall_mem_append.mpr ⟨List.forall_mem_append.mpr ⟨List.forall_mem_cons.mpr ⟨List.mem_cons_of_mem _ (List.mem_append_left _ (List.mem_append_left _ (List.mem_of_getElem? (i := 11) rfl))), List.forall_mem_cons.mpr ⟨List.mem_cons_of_mem _ (List.mem_append_left _ (List.mem_append_left _ (List.mem_of_getElem? (i := 16) rfl))), List.forall_mem_cons.mpr ⟨List.mem_cons_of_mem _ (List.mem_append_left _ (List.mem_append_left _ (List.mem_of_getElem? (i := 17) rfl))), List.forall_mem_cons.mpr ⟨List.mem_cons_of_mem _ (List.mem_append_left _ (List.mem_append_left _ (List.mem_of_getElem? (i := 18) rfl))), List.forall_mem_cons.mpr ⟨List.mem_cons_of_mem _ (List.mem_append_left _ (List.mem_append_left _ (List.mem_of_getElem? (i := 19) rfl))), List.forall_mem_cons.mpr ⟨List.mem_cons_of_mem _ (List.mem_append_left _ (List.mem_append_left _ (List.mem_of_getElem? (i := 20) rfl))), List.forall_mem_cons.mpr ⟨List.mem_cons_of_mem _ (List.mem_append_left _ (List.mem_append_left _ (List.mem_of_getElem? (i := 5) rfl))), List.forall_mem_cons.mpr ⟨List.mem_cons_of_mem _ (List.mem_append_left _ (List.mem_append_left _ (List.mem_of_getElem? (i := 21) rfl))), List.forall_mem_cons.mpr ⟨List.mem_cons_of_mem _ (List.mem_append_left _ (List.mem_append_left _ (List.mem_of_getElem? (i := 22) rfl))), List.forall_mem_cons.mpr ⟨List.mem_cons_of_mem _ (List.mem_append_left _ (List.mem_append_left _ (List.mem_of_getElem? (i := 23) rfl))), List.forall_mem_cons.mpr ⟨List.mem_cons_of_mem _ (List.mem_append_left _ (List.mem_append_right _ (List.mem_append_left _ (List.mem_of_getElem? (i := 0) rfl)))), List.forall_mem_cons.mpr ⟨List.mem_cons_of_mem _ (List.mem_append_left _ (List.mem_append_right _ (List.mem_append_left _ (List.mem_of_getElem? (i := 1) rfl)))), List.forall_mem_cons.mpr ⟨List.mem_cons_of_mem _ (List.mem_append_left _ (List.mem_append_right _ (List.mem_append_left _ (List.mem_of_getElem? (i := 2) rfl)))), List.forall_mem_cons.mpr ⟨List.mem_cons_of_mem _ (List.mem_append_left _ (List.mem_append_right _ (List.mem_append_left _ (List.mem_of_getElem? (i := 3) rfl)))), List.forall_mem_cons.mpr ⟨List.mem_cons_of_mem _ (List.mem_append_left _ (List.mem_append_right _ (List.mem_append_left _ (List.mem_of_getElem? (i := 4) rfl)))), List.forall_mem_cons.mpr ⟨List.mem_cons_of_mem _ (List.mem_append_left _ (List.mem_append_right _ (List.mem_append_left _ (List.mem_of_getElem? (i := 5) rfl)))), List.forall_mem_cons.mpr ⟨List.mem_cons_of_mem _ (List.mem_append_left _ (List.mem_append_right _ (List.mem_append_left _ (List.mem_of_getElem? (i := 6) rfl)))), List.forall_mem_cons.mpr ⟨List.mem_cons_of_mem _ (List.mem_append_left _ (List.mem_append_right _ (List.mem_append_left _ (List.mem_of_getElem? (i := 7) rfl)))), List.forall_mem_cons.mpr ⟨List.mem_cons_of_mem _ (List.mem_append_left _ (List.mem_append_right _ (List.mem_append_left _ (List.mem_of_getElem? (i := 8) rfl)))), List.forall_mem_cons.mpr ⟨List.mem_cons_of_mem _ (List.mem_append_left _ (List.mem_append_right _ (List.mem_append_left _ (List.mem_of_getElem? (i := 9) rfl)))), List.forall_mem_cons.mpr ⟨List.mem_cons_of_mem _ (List.mem_append_left _ (List.mem_append_right _ (List.mem_append_left _ (List.mem_of_getElem? (i := 10) rfl)))), List.forall_mem_cons.mpr ⟨List.mem_cons_of_mem _ (List.mem_append_left _ (List.mem_append_right _ (List.mem_append_left _ (List.mem_of_getElem? (i := 11) rfl)))), List.forall_mem_cons.mpr ⟨List.mem_cons_of_mem _ (List.mem_append_left _ (List.mem_append_right _ (List.mem_append_left _ (List.mem_of_getElem? (i := 12) rfl)))), List.forall_mem_cons.mpr ⟨List.mem_cons_of_mem _ (List.mem_append_left _ (List.mem_append_right _ (List.mem_append_left _ (List.mem_of_getElem? (i := 13) rfl)))), (fun _ h => absurd h List.not_mem_nil)⟩⟩⟩⟩⟩⟩⟩⟩⟩⟩⟩⟩⟩⟩⟩⟩⟩⟩⟩⟩⟩⟩⟩⟩, List.forall_mem_cons.mpr ⟨List.mem_cons_of_mem _ (List.mem_append_left _ (List.mem_append_right _ (List.mem_append_left _ (List.mem_of_getElem? (i := 14) rfl)))), List.forall_mem_cons.mpr ⟨List.mem_cons_of_mem _ (List.mem_append_left _ (List.mem_append_right _ (List.mem_append_left _ (List.mem_of_getElem? (i := 15) rfl)))), List.forall_mem_cons.mpr ⟨List.mem_cons_of_mem _ (List.mem_append_left _ (List.mem_append_right _ (List.mem_append_left _ (List.mem_of_getElem? (i := 16) rfl)))), List.forall_mem_cons.mpr ⟨List.mem_cons_of_mem _ (List.mem_append_left _ (List.mem_append_right _ (List.mem_append_left _ (List.mem_of_getElem? (i := 17) rfl)))), List.forall_mem_cons.mpr ⟨List.mem_cons_of_mem _ (List.mem_append_left _ (List.mem_append_right _ (List.mem_append_left _ (List.mem_of_getElem? (i := 18) rfl)))), List.forall_mem_cons.mpr ⟨List.mem_cons_of_mem _ (List.mem_append_left _ (List.mem_append_right _ (List.mem_append_left _ (List.mem_of_getElem? (i := 19) rfl)))), List.forall_mem_cons.mpr ⟨List.mem_cons_of_mem _ (List.mem_append_left _ (List.mem_append_right _ (List.mem_append_left _ (List.mem_of_getElem? (i := 20) rfl)))), List.forall_mem_cons.mpr ⟨List.mem_cons_of_mem _ (List.mem_append_left _ (List.mem_append_right _ (List.mem_append_left _ (List.mem_of_getElem? (i := 21) rfl)))), List.forall_mem_cons.mpr ⟨List.mem_cons_of_mem _ (List.mem_append_left _ (List.mem_append_right _ (List.mem_append_left _ (List.mem_of_getElem? (i := 22) rfl)))), List.forall_mem_cons.mpr ⟨List.mem_cons_of_mem _ (List.mem_append_left _ (List.mem_append_right _ (List.mem_append_left _ (List.mem_of_getElem? (i := 23) rfl)))), List.forall_mem_cons.mpr ⟨List.mem_cons_of_mem _ (List.mem_append_left _ (List.mem_append_right _ (List.mem_append_right _ (List.mem_of_getElem? (i := 0) rfl)))), List.forall_mem_cons.mpr ⟨List.mem_cons_of_mem _ (List.mem_append_left _ (List.mem_append_right _ (List.mem_append_right _ (List.mem_of_getElem? (i := 1) rfl)))), (fun _ h => absurd h List.not_mem_nil)⟩⟩⟩⟩⟩⟩⟩⟩⟩⟩⟩⟩⟩, (fun _ h => List.mem_cons_of_mem _ (List.mem_append_right _ (h)))⟩⟩) (by decide +kernel)
set_option maxRecDepth 20000 in
theorem gX5_hut_X5_layPrices : GoodIn wsX5_hut (wsV RX5 196 RX5 yX5_layPrices wsX5_layPrices) := goodIn_app (goodIn_sub (List.forall_mem_cons.mpr ⟨List.mem_cons_of_mem _ (List.mem_append_left _ (List.mem_append_left _ (List.mem_of_getElem? (i := 12) rfl))), List.forall_mem_cons.mpr ⟨List.mem_cons_of_mem _ (List.mem_append_left _ (List.mem_append_left _ (List.mem_of_getElem? (i := 13) rfl))), List.forall_mem_cons.mpr ⟨List.mem_cons_of_mem _ (List.mem_append_left _ (List.mem_append_left _ (List.mem_of_getElem? (i := 14) rfl))), List.forall_mem_cons.mpr ⟨List.mem_cons_of_mem _ (List.mem_append_left _ (List.mem_append_left _ (List.mem_of_getElem? (i := 5) rfl))), (fun _ h => absurd h List.not_mem_nil)⟩⟩⟩⟩) (by decide +kernel)) ggX5_hut_X5_layPrices
set_option maxRecDepth 20000 in
theorem ggX5_hut_X5_layLeasts : GoodIn wsX5_hut wsX5_layLeasts := goodIn_sub (List.forall_mem_cons.mpr ⟨List.mem_cons_of_mem _ (List.mem_append_left _ (List.mem_append_right _ (List.mem_append_right _ (List.mem_of_getElem? (i := 5) rfl)))), List.forall_mem_append.mpr ⟨List.forall_mem_cons.mpr ⟨List.mem_cons_of_mem _ (List.mem_append_left _ (List.mem_append_left _ (List.mem_of_getElem? (i := 2) rfl))), List.forall_mem_cons.mpr ⟨List.mem_cons_of_mem _ (List.mem_append_left _ (List.mem_append_left _ (List.mem_of_getElem? (i := 11) rfl))), List.forall_mem_cons.mpr ⟨List.mem_cons_of_mem _ (List.mem_append_left _ (List.mem_append_right _ (List.mem_append_right _ (List.mem_of_getElem? (i := 6) rfl)))), List.forall_mem_cons.mpr ⟨List.mem_cons_of_mem _ (List.mem_append_left _ (List.mem_append_right _ (List.mem_append_right _ (List.mem_of_getElem? (i := 7) rfl)))), List.forall_mem_cons.mpr ⟨List.mem_cons_of_mem _ (List.mem_append_left _ (List.mem_append_right _ (List.mem_append_right _ (List.mem_of_getElem? (i := 8) rfl)))), List.forall_mem_cons.mpr ⟨List.mem_cons_of_mem _ (List.mem_append_left _ (List.mem_append_left _ (List.mem_of_getElem? (i := 5) rfl))), List.forall_mem_cons.mpr ⟨List.mem_cons_of_mem _ (List.mem_append_left _ (List.mem_append_right _ (List.mem_append_right _ (List.mem_of_getElem? (i := 9) rfl)))), List.forall_mem_cons.mpr ⟨List.mem_cons_of_mem _ (List.mem_append_left _ (List.mem_append_left _ (List.mem_of_getElem? (i := 17) rfl))), (fun _ h => absurd h List.not_mem_nil)⟩⟩⟩⟩⟩⟩⟩⟩, (fun _ h => List.mem_cons_of_mem _ (List.mem_append_right _ (h)))⟩⟩) (by decide +kernel)
set_option maxRecDepth 20000 in
theorem gX5_hut_X5_layLeasts : GoodIn wsX5_hut (wsV RX5 199 RX5 yX5_layLeasts wsX5_layLeasts) := goodIn_app (goodIn_sub (List.forall_mem_cons.mpr ⟨List.mem_cons_of_mem _ (List.mem_append_left _ (List.mem_append_right _ (List.mem_append_right _ (List.mem_of_getElem? (i := 2) rfl)))), List.forall_mem_cons.mpr ⟨List.mem_cons_of_mem _ (List.mem_append_left _ (List.mem_append_right _ (List.mem_append_right _ (List.mem_of_getElem? (i := 3) rfl)))), List.forall_mem_cons.mpr ⟨List.mem_cons_of_mem _ (List.mem_append_left _ (List.mem_append_right _ (List.mem_append_right _ (List.mem_of_getElem? (i := 4) rfl)))), List.forall_mem_cons.mpr ⟨List.mem_cons_of_mem _ (List.mem_append_left _ (List.mem_append_left _ (List.mem_of_getElem? (i := 5) rfl))), (fun _ h => absurd h List.not_mem_nil)⟩⟩⟩⟩) (by decide +kernel)) ggX5_hut_X5_layLeasts
set_option maxRecDepth 20000 in
theorem ggX5_hut_X5_by : GoodIn wsX5_hut wsX5_by := goodIn_sub (List.forall_mem_cons.mpr ⟨List.mem_cons_of_mem _ (List.mem_append_left _ (List.mem_append_right _ (List.mem_append_right _ (List.mem_of_getElem? (i := 9) rfl)))), List.forall_mem_append.mpr ⟨List.forall_mem_cons.mpr ⟨List.mem_cons_of_mem _ (List.mem_append_left _ (List.mem_append_left _ (List.mem_of_getElem? (i := 17) rfl))), List.forall_mem_cons.mpr ⟨List.mem_cons_of_mem _ (List.mem_append_left _ (List.mem_append_left _ (List.mem_of_getElem? (i := 2) rfl))), (fun _ h => absurd h List.not_mem_nil)⟩⟩, (fun _ h => List.mem_cons_of_mem _ (List.mem_append_right _ (h)))⟩⟩) (by decide +kernel)
set_option maxRecDepth 20000 in
theorem gX5_hut_X5_by : GoodIn wsX5_hut (wsV RX5 191 RX5 yX5_by wsX5_by) := goodIn_app (goodIn_sub (List.forall_mem_cons.mpr ⟨List.mem_cons_of_mem _ (List.mem_append_left _ (List.mem_append_right _ (List.mem_append_right _ (List.mem_of_getElem? (i := 6) rfl)))), List.forall_mem_cons.mpr ⟨List.mem_cons_of_mem _ (List.mem_append_left _ (List.mem_append_right _ (List.mem_append_right _ (List.mem_of_getElem? (i := 7) rfl)))), List.forall_mem_cons.mpr ⟨List.mem_cons_of_mem _ (List.mem_append_left _ (List.mem_append_right _ (List.mem_append_right _ (List.mem_of_getElem? (i := 8) rfl)))), List.forall_mem_cons.mpr ⟨List.mem_cons_of_mem _ (List.mem_append_left _ (List.mem_append_left _ (List.mem_of_getElem? (i := 5) rfl))), (fun _ h => absurd h List.not_mem_nil)⟩⟩⟩⟩) (by decide +kernel)) ggX5_hut_X5_by
theorem dX5_hut_0 : decode cX5_hut 0 = .ok (.iload_n 1, 1) := by decide +kernel
theorem dX5_hut_1 : decode cX5_hut 1 = .ok (.i2l, 1) := by decide +kernel
theorem dX5_hut_2 : decode cX5_hut 2 = .ok (.lconst 1, 1) := by decide +kernel
theorem dX5_hut_3 : decode cX5_hut 3 = .ok (.ldc2_w 169, 3) := by decide +kernel
theorem dX5_hut_6 : decode cX5_hut 6 = .ok (.invokestatic 50, 3) := by decide +kernel
theorem dX5_hut_9 : decode cX5_hut 9 = .ok (.ifCond .eq 15, 3) := by decide +kernel
theorem dX5_hut_12 : decode cX5_hut 12 = .ok (.iload_n 2, 1) := by decide +kernel
theorem dX5_hut_13 : decode cX5_hut 13 = .ok (.i2l, 1) := by decide +kernel
theorem dX5_hut_14 : decode cX5_hut 14 = .ok (.lconst 0, 1) := by decide +kernel
theorem dX5_hut_15 : decode cX5_hut 15 = .ok (.ldc2_w 194, 3) := by decide +kernel
theorem dX5_hut_18 : decode cX5_hut 18 = .ok (.invokestatic 50, 3) := by decide +kernel
theorem dX5_hut_21 : decode cX5_hut 21 = .ok (.ifCond .ne 6, 3) := by decide +kernel
theorem dX5_hut_24 : decode cX5_hut 24 = .ok (.bipush (-3), 2) := by decide +kernel
theorem dX5_hut_26 : decode cX5_hut 26 = .ok (.ireturn, 1) := by decide +kernel
theorem dX5_hut_27 : decode cX5_hut 27 = .ok (.iload_n 3, 1) := by decide +kernel
theorem dX5_hut_28 : decode cX5_hut 28 = .ok (.iconst (-1), 1) := by decide +kernel
theorem dX5_hut_29 : decode cX5_hut 29 = .ok (.if_icmp .eq 14, 3) := by decide +kernel
theorem dX5_hut_32 : decode cX5_hut 32 = .ok (.aload_n 0, 1) := by decide +kernel
theorem dX5_hut_33 : decode cX5_hut 33 = .ok (.iload_n 3, 1) := by decide +kernel
theorem dX5_hut_34 : decode cX5_hut 34 = .ok (.invokevirtual 166, 3) := by decide +kernel
theorem dX5_hut_37 : decode cX5_hut 37 = .ok (.ifCond .ne 6, 3) := by decide +kernel
theorem dX5_hut_40 : decode cX5_hut 40 = .ok (.bipush (-2), 2) := by decide +kernel
theorem dX5_hut_42 : decode cX5_hut 42 = .ok (.ireturn, 1) := by decide +kernel
theorem dX5_hut_43 : decode cX5_hut 43 = .ok (.aload_n 0, 1) := by decide +kernel
theorem dX5_hut_44 : decode cX5_hut 44 = .ok (.iload_n 2, 1) := by decide +kernel
theorem dX5_hut_45 : decode cX5_hut 45 = .ok (.invokevirtual 196, 3) := by decide +kernel
theorem dX5_hut_48 : decode cX5_hut 48 = .ok (.aload_n 0, 1) := by decide +kernel
theorem dX5_hut_49 : decode cX5_hut 49 = .ok (.invokevirtual 199, 3) := by decide +kernel
theorem dX5_hut_52 : decode cX5_hut 52 = .ok (.iload_n 3, 1) := by decide +kernel
theorem dX5_hut_53 : decode cX5_hut 53 = .ok (.iconst (-1), 1) := by decide +kernel
theorem dX5_hut_54 : decode cX5_hut 54 = .ok (.if_icmp .eq 13, 3) := by decide +kernel
theorem dX5_hut_57 : decode cX5_hut 57 = .ok (.aload_n 0, 1) := by decide +kernel
theorem dX5_hut_58 : decode cX5_hut 58 = .ok (.getfield 45, 3) := by decide +kernel
theorem dX5_hut_61 : decode cX5_hut 61 = .ok (.iload_n 1, 1) := by decide +kernel
theorem dX5_hut_62 : decode cX5_hut 62 = .ok (.iaload, 1) := by decide +kernel
theorem dX5_hut_63 : decode cX5_hut 63 = .ok (.iconst (-1), 1) := by decide +kernel
theorem dX5_hut_64 : decode cX5_hut 64 = .ok (.if_icmp .ne 10, 3) := by decide +kernel
theorem dX5_hut_67 : decode cX5_hut 67 = .ok (.aload_n 0, 1) := by decide +kernel
theorem dX5_hut_68 : decode cX5_hut 68 = .ok (.getfield 45, 3) := by decide +kernel
theorem dX5_hut_71 : decode cX5_hut 71 = .ok (.iload_n 1, 1) := by decide +kernel
theorem dX5_hut_72 : decode cX5_hut 72 = .ok (.iaload, 1) := by decide +kernel
theorem dX5_hut_73 : decode cX5_hut 73 = .ok (.ireturn, 1) := by decide +kernel
theorem dX5_hut_74 : decode cX5_hut 74 = .ok (.iload_n 1, 1) := by decide +kernel
theorem dX5_hut_75 : decode cX5_hut 75 = .ok (.istore 4, 2) := by decide +kernel
theorem dX5_hut_77 : decode cX5_hut 77 = .ok (.iconst 0, 1) := by decide +kernel
theorem dX5_hut_78 : decode cX5_hut 78 = .ok (.istore 5, 2) := by decide +kernel
theorem dX5_hut_80 : decode cX5_hut 80 = .ok (.iconst 0, 1) := by decide +kernel
theorem dX5_hut_81 : decode cX5_hut 81 = .ok (.istore 6, 2) := by decide +kernel
theorem dX5_hut_83 : decode cX5_hut 83 = .ok (.iload 6, 2) := by decide +kernel
theorem dX5_hut_85 : decode cX5_hut 85 = .ok (.iload_n 3, 1) := by decide +kernel
theorem dX5_hut_86 : decode cX5_hut 86 = .ok (.if_icmp .gt 51, 3) := by decide +kernel
theorem dX5_hut_89 : decode cX5_hut 89 = .ok (.iconst 0, 1) := by decide +kernel
theorem dX5_hut_90 : decode cX5_hut 90 = .ok (.istore 5, 2) := by decide +kernel
theorem dX5_hut_92 : decode cX5_hut 92 = .ok (.aload_n 0, 1) := by decide +kernel
theorem dX5_hut_93 : decode cX5_hut 93 = .ok (.iload 6, 2) := by decide +kernel
theorem dX5_hut_95 : decode cX5_hut 95 = .ok (.iload 5, 2) := by decide +kernel
theorem dX5_hut_97 : decode cX5_hut 97 = .ok (.iload 4, 2) := by decide +kernel
theorem dX5_hut_99 : decode cX5_hut 99 = .ok (.invokevirtual 191, 3) := by decide +kernel
theorem dX5_hut_102 : decode cX5_hut 102 = .ok (.aload_n 0, 1) := by decide +kernel
theorem dX5_hut_103 : decode cX5_hut 103 = .ok (.getfield 45, 3) := by decide +kernel
theorem dX5_hut_106 : decode cX5_hut 106 = .ok (.bipush 100, 2) := by decide +kernel
theorem dX5_hut_108 : decode cX5_hut 108 = .ok (.iload 6, 2) := by decide +kernel
theorem dX5_hut_110 : decode cX5_hut 110 = .ok (.imul, 1) := by decide +kernel
theorem dX5_hut_111 : decode cX5_hut 111 = .ok (.iload 4, 2) := by decide +kernel
theorem dX5_hut_113 : decode cX5_hut 113 = .ok (.iadd, 1) := by decide +kernel
theorem dX5_hut_114 : decode cX5_hut 114 = .ok (.iaload, 1) := by decide +kernel
theorem dX5_hut_115 : decode cX5_hut 115 = .ok (.if_icmp .eq 9, 3) := by decide +kernel
theorem dX5_hut_118 : decode cX5_hut 118 = .ok (.iinc 5 1, 3) := by decide +kernel
theorem dX5_hut_121 : decode cX5_hut 121 = .ok (.goto (-29), 3) := by decide +kernel
theorem dX5_hut_124 : decode cX5_hut 124 = .ok (.iload 4, 2) := by decide +kernel
theorem dX5_hut_126 : decode cX5_hut 126 = .ok (.iload 5, 2) := by decide +kernel
theorem dX5_hut_128 : decode cX5_hut 128 = .ok (.isub, 1) := by decide +kernel
theorem dX5_hut_129 : decode cX5_hut 129 = .ok (.istore 4, 2) := by decide +kernel
theorem dX5_hut_131 : decode cX5_hut 131 = .ok (.iinc 6 1, 3) := by decide +kernel
theorem dX5_hut_134 : decode cX5_hut 134 = .ok (.goto (-51), 3) := by decide +kernel
theorem dX5_hut_137 : decode cX5_hut 137 = .ok (.iload 5, 2) := by decide +kernel
theorem dX5_hut_139 : decode cX5_hut 139 = .ok (.ireturn, 1) := by decide +kernel
set_option maxRecDepth 20000 in
theorem ggX5_enough_X5_in : GoodIn wsX5_enough wsX5_in := goodIn_sub (List.forall_mem_cons.mpr ⟨List.mem_cons_of_mem _ (List.mem_append_left _ (List.mem_append_left _ (List.mem_of_getElem? (i := 5) rfl))), (fun _ h => absurd h List.not_mem_nil)⟩) (by decide +kernel)
set_option maxRecDepth 20000 in
theorem gX5_enough_X5_in : GoodIn wsX5_enough (va_wsS RX5 50 yX5_in wsX5_in) := goodIn_app (goodIn_sub (List.forall_mem_cons.mpr ⟨List.mem_cons_of_mem _ (List.mem_append_left _ (List.mem_append_left _ (List.mem_of_getElem? (i := 2) rfl))), List.forall_mem_cons.mpr ⟨List.mem_cons_of_mem _ (List.mem_append_left _ (List.mem_append_left _ (List.mem_of_getElem? (i := 3) rfl))), List.forall_mem_cons.mpr ⟨List.mem_cons_of_mem _ (List.mem_append_left _ (List.mem_append_left _ (List.mem_of_getElem? (i := 4) rfl))), (fun _ h => absurd h List.not_mem_nil)⟩⟩⟩) (by decide +kernel)) ggX5_enough_X5_in
set_option maxRecDepth 20000 in
theorem ggX5_enough_X5_tryDays : GoodIn wsX5_enough wsX5_tryDays := goodIn_sub (List.forall_mem_cons.mpr ⟨List.mem_cons_of_mem _ (List.mem_append_left _ (List.mem_append_left _ (List.mem_of_getElem? (i := 9) rfl))), List.forall_mem_append.mpr ⟨List.forall_mem_append.mpr ⟨List.forall_mem_cons.mpr ⟨List.mem_cons_of_mem _ (List.mem_append_left _ (List.mem_append_left _ (List.mem_of_getElem? (i := 10) rfl))), List.forall_mem_cons.mpr ⟨List.mem_cons_of_mem _ (List.mem_append_left _ (List.mem_append_left _ (List.mem_of_getElem? (i := 11) rfl))), List.forall_mem_cons.mpr ⟨List.mem_cons_of_mem _ (List.mem_append_left _ (List.mem_append_left _ (List.mem_of_getElem? (i := 12) rfl))), List.forall_mem_cons.mpr ⟨List.mem_cons_of_mem _ (List.mem_append_left _ (List.mem_append_left _ (List.mem_of_getElem? (i := 4) rfl))), List.forall_mem_cons.mpr ⟨List.mem_cons_of_mem _ (List.mem_append_left _ (List.mem_append_left _ (List.mem_of_getElem? (i := 13) rfl))), List.forall_mem_cons.mpr ⟨List.mem_cons_of_mem _ (List.mem_append_left _ (List.mem_append_left _ (List.mem_of_getElem? (i := 1) rfl))), List.forall_mem_cons.mpr ⟨List.mem_cons_of_mem _ (List.mem_append_left _ (List.mem_append_left _ (List.mem_of_getElem? (i := 14) rfl))), List.forall_mem_cons.mpr ⟨List.mem_cons_of_mem _ (List.mem_append_left _ (List.mem_append_left _ (List.mem_of_getElem? (i := 15) rfl))), List.forall_mem_cons.mpr ⟨List.mem_cons_of_mem _ (List.mem_append_left _ (List.mem_append_left _ (List.mem_of_getElem? (i := 16) rfl))), List.forall_mem_cons.mpr ⟨List.mem_cons_of_mem _ (List.mem_append_left _ (List.mem_append_left _ (List.mem_of_getElem? (i := 17) rfl))), List.forall_mem_cons.mpr ⟨List.mem_cons_of_mem _ (List.mem_append_left _ (List.mem_append_left _ (List.mem_of_getElem? (i := 18) rfl))), List.forall_mem_cons.mpr ⟨List.mem_cons_of_mem _ (List.mem_append_left _ (List.mem_append_left _ (List.mem_of_getElem? (i := 19) rfl))), List.forall_mem_cons.mpr ⟨List.mem_cons_of_mem _ (List.mem_append_left _ (List.mem_append_left _ (List.mem_of_getElem? (i := 20) rfl))), List.forall_mem_cons.mpr ⟨List.mem_cons_of_mem _ (List.mem_append_left _ (List.mem_append_left _ (List.mem_of_getElem? (i := 21) rfl))), List.forall_mem_cons.mpr ⟨List.mem_cons_of_mem _ (List.mem_append_left _ (List.mem_append_left _ (List.mem_of_getElem? (i := 22) rfl))), List.forall_mem_cons.mpr ⟨List.mem_cons_of_mem _ (List.mem_append_left _ (List.mem_append_left _ (List.mem_of_getElem? (i := 23) rfl))), List.forall_mem_cons.mpr ⟨List.mem_cons_of_mem _ (List.mem_append_left _ (List.mem_append_right _ (List.mem_of_getElem? (i := 0) rfl))), List.forall_mem_cons.mpr ⟨List.mem_cons_of_mem _ (List.mem_append_left _ (List.mem_append_right _ (List.mem_of_getElem? (i := 1) rfl))), List.forall_mem_cons.mpr ⟨List.mem_cons_of_mem _ (List.mem_append_left _ (List.mem_append_right _ (List.mem_of_getElem? (i := 2) rfl))), List.forall_mem_cons.mpr ⟨List.mem_cons_of_mem _ (List.mem_append_left _ (List.mem_append_right _ (List.mem_of_getElem? (i := 3) rfl))), List.forall_mem_cons.mpr ⟨List.mem_cons_of_mem _ (List.mem_append_left _ (List.mem_append_right _ (List.mem_of_getElem? (i := 4) rfl))), List.forall_mem_cons.mpr ⟨List.mem_cons_of_mem _ (List.mem_append_left _ (List.mem_append_right _ (List.mem_of_getElem? (i := 5) rfl))), List.forall_mem_cons.mpr ⟨List.mem_cons_of_mem _ (List.mem_append_left _ (List.mem_append_right _ (List.mem_of_getElem? (i := 6) rfl))), List.forall_mem_cons.mpr ⟨List.mem_cons_of_mem _ (List.mem_append_left _ (List.mem_append_right _ (List.mem_of_getElem? (i := 7) rfl))), (fun _ h => absurd h List.not_mem_nil)⟩⟩⟩⟩⟩⟩⟩⟩⟩⟩⟩⟩⟩⟩⟩⟩⟩⟩⟩⟩⟩⟩⟩⟩, List.forall_mem_cons.mpr ⟨List.mem_cons_of_mem _ (List.mem_append_left _ (List.mem_append_right _ (List.mem_of_getElem? (i := 8) rfl))), List.forall_mem_cons.mpr ⟨List.mem_cons_of_mem _ (List.mem_append_left _ (List.mem_append_right _ (List.mem_of_getElem? (i := 9) rfl))), List.forall_mem_cons.mpr ⟨List.mem_cons_of_mem _ (List.mem_append_left _ (List.mem_append_right _ (List.mem_of_getElem? (i := 10) rfl))), List.forall_mem_cons.mpr ⟨List.mem_cons_of_mem _ (List.mem_append_left _ (List.mem_append_right _ (List.mem_of_getElem? (i := 11) rfl))), List.forall_mem_cons.mpr ⟨List.mem_cons_of_mem _ (List.mem_append_left _ (List.mem_append_right _ (List.mem_of_getElem? (i := 12) rfl))), List.forall_mem_cons.mpr ⟨List.mem_cons_of_mem _ (List.mem_append_left _ (List.mem_append_right _ (List.mem_of_getElem? (i := 13) rfl))), List.forall_mem_cons.mpr ⟨List.mem_cons_of_mem _ (List.mem_append_left _ (List.mem_append_right _ (List.mem_of_getElem? (i := 14) rfl))), List.forall_mem_cons.mpr ⟨List.mem_cons_of_mem _ (List.mem_append_left _ (List.mem_append_right _ (List.mem_of_getElem? (i := 15) rfl))), List.forall_mem_cons.mpr ⟨List.mem_cons_of_mem _ (List.mem_append_left _ (List.mem_append_right _ (List.mem_of_getElem? (i := 16) rfl))), List.forall_mem_cons.mpr ⟨List.mem_cons_of_mem _ (List.mem_append_left _ (List.mem_append_right _ (List.mem_of_getElem? (i := 17) rfl))), List.forall_mem_cons.mpr ⟨List.mem_cons_of_mem _ (List.mem_append_left _ (List.mem_append_right _ (List.mem_of_getElem? (i := 18) rfl))), (fun _ h => absurd h List.not_mem_nil)⟩⟩⟩⟩⟩⟩⟩⟩⟩⟩⟩⟩, (fun _ h => List.mem_cons_of_mem _ (List.mem_append_right _ (h)))⟩⟩) (by decide +kernel)
set_option maxRecDepth 20000 in
theorem gX5_enough_X5_tryDays : GoodIn wsX5_enough (wsV RX5 182 RX5 yX5_tryDays wsX5_tryDays) := goodIn_app (goodIn_sub (List.forall_mem_cons.mpr ⟨List.mem_cons_of_mem _ (List.mem_append_left _ (List.mem_append_left _ (List.mem_of_getElem? (i := 6) rfl))), List.forall_mem_cons.mpr ⟨List.mem_cons_of_mem _ (List.mem_append_left _ (List.mem_append_left _ (List.mem_of_getElem? (i := 7) rfl))), List.forall_mem_cons.mpr ⟨List.mem_cons_of_mem _ (List.mem_append_left _ (List.mem_append_left _ (List.mem_of_getElem? (i := 8) rfl))), List.forall_mem_cons.mpr ⟨List.mem_cons_of_mem _ (List.mem_append_left _ (List.mem_append_left _ (List.mem_of_getElem? (i := 4) rfl))), (fun _ h => absurd h List.not_mem_nil)⟩⟩⟩⟩) (by decide +kernel)) ggX5_enough_X5_tryDays
theorem dX5_enough_0 : decode cX5_enough 0 = .ok (.iload_n 1, 1) := by decide +kernel
theorem dX5_enough_1 : decode cX5_enough 1 = .ok (.i2l, 1) := by decide +kernel
theorem dX5_enough_2 : decode cX5_enough 2 = .ok (.lconst 1, 1) := by decide +kernel
theorem dX5_enough_3 : decode cX5_enough 3 = .ok (.ldc2_w 169, 3) := by decide +kernel
theorem dX5_enough_6 : decode cX5_enough 6 = .ok (.invokestatic 50, 3) := by decide +kernel
theorem dX5_enough_9 : decode cX5_enough 9 = .ok (.ifCond .ne 6, 3) := by decide +kernel
theorem dX5_enough_12 : decode cX5_enough 12 = .ok (.bipush (-3), 2) := by decide +kernel
theorem dX5_enough_14 : decode cX5_enough 14 = .ok (.ireturn, 1) := by decide +kernel
theorem dX5_enough_15 : decode cX5_enough 15 = .ok (.iconst 0, 1) := by decide +kernel
theorem dX5_enough_16 : decode cX5_enough 16 = .ok (.istore_n 2, 1) := by decide +kernel
theorem dX5_enough_17 : decode cX5_enough 17 = .ok (.iload_n 2, 1) := by decide +kernel
theorem dX5_enough_18 : decode cX5_enough 18 = .ok (.bipush 100, 2) := by decide +kernel
theorem dX5_enough_20 : decode cX5_enough 20 = .ok (.if_icmp .ge 34, 3) := by decide +kernel
theorem dX5_enough_23 : decode cX5_enough 23 = .ok (.aload_n 0, 1) := by decide +kernel
theorem dX5_enough_24 : decode cX5_enough 24 = .ok (.iload_n 1, 1) := by decide +kernel
theorem dX5_enough_25 : decode cX5_enough 25 = .ok (.iload_n 2, 1) := by decide +kernel
theorem dX5_enough_26 : decode cX5_enough 26 = .ok (.invokevirtual 182, 3) := by decide +kernel
theorem dX5_enough_29 : decode cX5_enough 29 = .ok (.aload_n 0, 1) := by decide +kernel
theorem dX5_enough_30 : decode cX5_enough 30 = .ok (.getfield 7, 3) := by decide +kernel
theorem dX5_enough_33 : decode cX5_enough 33 = .ok (.sipush 226, 3) := by decide +kernel
theorem dX5_enough_36 : decode cX5_enough 36 = .ok (.iaload, 1) := by decide +kernel
theorem dX5_enough_37 : decode cX5_enough 37 = .ok (.aload_n 0, 1) := by decide +kernel
theorem dX5_enough_38 : decode cX5_enough 38 = .ok (.getfield 7, 3) := by decide +kernel
theorem dX5_enough_41 : decode cX5_enough 41 = .ok (.iconst 1, 1) := by decide +kernel
theorem dX5_enough_42 : decode cX5_enough 42 = .ok (.iaload, 1) := by decide +kernel
theorem dX5_enough_43 : decode cX5_enough 43 = .ok (.if_icmp .ne 5, 3) := by decide +kernel
theorem dX5_enough_46 : decode cX5_enough 46 = .ok (.iload_n 2, 1) := by decide +kernel
theorem dX5_enough_47 : decode cX5_enough 47 = .ok (.ireturn, 1) := by decide +kernel
theorem dX5_enough_48 : decode cX5_enough 48 = .ok (.iinc 2 1, 3) := by decide +kernel
theorem dX5_enough_51 : decode cX5_enough 51 = .ok (.goto (-34), 3) := by decide +kernel
theorem dX5_enough_54 : decode cX5_enough 54 = .ok (.iconst (-1), 1) := by decide +kernel
theorem dX5_enough_55 : decode cX5_enough 55 = .ok (.ireturn, 1) := by decide +kernel
set_option maxRecDepth 20000 in
theorem ggX5_rid_X5_in : GoodIn wsX5_rid wsX5_in := goodIn_sub (List.forall_mem_cons.mpr ⟨List.mem_cons_of_mem _ (List.mem_append_left _ (List.mem_of_getElem? (i := 6) rfl)), (fun _ h => absurd h List.not_mem_nil)⟩) (by decide +kernel)
set_option maxRecDepth 20000 in
theorem gX5_rid_X5_in : GoodIn wsX5_rid (va_wsS RX5 50 yX5_in wsX5_in) := goodIn_app (goodIn_sub (List.forall_mem_cons.mpr ⟨List.mem_cons_of_mem _ (List.mem_append_left _ (List.mem_of_getElem? (i := 3) rfl)), List.forall_mem_cons.mpr ⟨List.mem_cons_of_mem _ (List.mem_append_left _ (List.mem_of_getElem? (i := 4) rfl)), List.forall_mem_cons.mpr ⟨List.mem_cons_of_mem _ (List.mem_append_left _ (List.mem_of_getElem? (i := 5) rfl)), (fun _ h => absurd h List.not_mem_nil)⟩⟩⟩) (by decide +kernel)) ggX5_rid_X5_in
set_option maxRecDepth 20000 in
theorem ggX5_rid_X5_placeOf : GoodIn wsX5_rid wsX5_placeOf := goodIn_sub (List.forall_mem_cons.mpr ⟨List.mem_cons_of_mem _ (List.mem_append_left _ (List.mem_of_getElem? (i := 9) rfl)), (fun _ h => absurd h List.not_mem_nil)⟩) (by decide +kernel)
set_option maxRecDepth 20000 in
theorem gX5_rid_X5_placeOf : GoodIn wsX5_rid (va_wsS RX5 136 yX5_placeOf wsX5_placeOf) := goodIn_app (goodIn_sub (List.forall_mem_cons.mpr ⟨List.mem_cons_of_mem _ (List.mem_append_left _ (List.mem_of_getElem? (i := 7) rfl)), List.forall_mem_cons.mpr ⟨List.mem_cons_of_mem _ (List.mem_append_left _ (List.mem_of_getElem? (i := 8) rfl)), List.forall_mem_cons.mpr ⟨List.mem_cons_of_mem _ (List.mem_append_left _ (List.mem_of_getElem? (i := 5) rfl)), (fun _ h => absurd h List.not_mem_nil)⟩⟩⟩) (by decide +kernel)) ggX5_rid_X5_placeOf
theorem dX5_rid_0 : decode cX5_rid 0 = .ok (.iload_n 1, 1) := by decide +kernel
theorem dX5_rid_1 : decode cX5_rid 1 = .ok (.i2l, 1) := by decide +kernel
theorem dX5_rid_2 : decode cX5_rid 2 = .ok (.lconst 0, 1) := by decide +kernel
theorem dX5_rid_3 : decode cX5_rid 3 = .ok (.ldc2_w 202, 3) := by decide +kernel
theorem dX5_rid_6 : decode cX5_rid 6 = .ok (.invokestatic 50, 3) := by decide +kernel
theorem dX5_rid_9 : decode cX5_rid 9 = .ok (.ifCond .eq 13, 3) := by decide +kernel
theorem dX5_rid_12 : decode cX5_rid 12 = .ok (.iload_n 2, 1) := by decide +kernel
theorem dX5_rid_13 : decode cX5_rid 13 = .ok (.i2l, 1) := by decide +kernel
theorem dX5_rid_14 : decode cX5_rid 14 = .ok (.lconst 0, 1) := by decide +kernel
theorem dX5_rid_15 : decode cX5_rid 15 = .ok (.lconst 1, 1) := by decide +kernel
theorem dX5_rid_16 : decode cX5_rid 16 = .ok (.invokestatic 50, 3) := by decide +kernel
theorem dX5_rid_19 : decode cX5_rid 19 = .ok (.ifCond .ne 6, 3) := by decide +kernel
theorem dX5_rid_22 : decode cX5_rid 22 = .ok (.bipush (-3), 2) := by decide +kernel
theorem dX5_rid_24 : decode cX5_rid 24 = .ok (.ireturn, 1) := by decide +kernel
theorem dX5_rid_25 : decode cX5_rid 25 = .ok (.iconst 0, 1) := by decide +kernel
theorem dX5_rid_26 : decode cX5_rid 26 = .ok (.istore_n 3, 1) := by decide +kernel
theorem dX5_rid_27 : decode cX5_rid 27 = .ok (.iconst 0, 1) := by decide +kernel
theorem dX5_rid_28 : decode cX5_rid 28 = .ok (.istore 4, 2) := by decide +kernel
theorem dX5_rid_30 : decode cX5_rid 30 = .ok (.iload 4, 2) := by decide +kernel
theorem dX5_rid_32 : decode cX5_rid 32 = .ok (.aload_n 0, 1) := by decide +kernel
theorem dX5_rid_33 : decode cX5_rid 33 = .ok (.getfield 7, 3) := by decide +kernel
theorem dX5_rid_36 : decode cX5_rid 36 = .ok (.bipush 14, 2) := by decide +kernel
theorem dX5_rid_38 : decode cX5_rid 38 = .ok (.iaload, 1) := by decide +kernel
theorem dX5_rid_39 : decode cX5_rid 39 = .ok (.if_icmp .ge 31, 3) := by decide +kernel
theorem dX5_rid_42 : decode cX5_rid 42 = .ok (.iload_n 3, 1) := by decide +kernel
theorem dX5_rid_43 : decode cX5_rid 43 = .ok (.iconst 1, 1) := by decide +kernel
theorem dX5_rid_44 : decode cX5_rid 44 = .ok (.aload_n 0, 1) := by decide +kernel
theorem dX5_rid_45 : decode cX5_rid 45 = .ok (.getfield 32, 3) := by decide +kernel
theorem dX5_rid_48 : decode cX5_rid 48 = .ok (.aload_n 0, 1) := by decide +kernel
theorem dX5_rid_49 : decode cX5_rid 49 = .ok (.getfield 7, 3) := by decide +kernel
theorem dX5_rid_52 : decode cX5_rid 52 = .ok (.iconst 0, 1) := by decide +kernel
theorem dX5_rid_53 : decode cX5_rid 53 = .ok (.iload 4, 2) := by decide +kernel
theorem dX5_rid_55 : decode cX5_rid 55 = .ok (.iconst 0, 1) := by decide +kernel
theorem dX5_rid_56 : decode cX5_rid 56 = .ok (.invokestatic 136, 3) := by decide +kernel
theorem dX5_rid_59 : decode cX5_rid 59 = .ok (.iaload, 1) := by decide +kernel
theorem dX5_rid_60 : decode cX5_rid 60 = .ok (.iaload, 1) := by decide +kernel
theorem dX5_rid_61 : decode cX5_rid 61 = .ok (.ishl, 1) := by decide +kernel
theorem dX5_rid_62 : decode cX5_rid 62 = .ok (.ior, 1) := by decide +kernel
theorem dX5_rid_63 : decode cX5_rid 63 = .ok (.istore_n 3, 1) := by decide +kernel
theorem dX5_rid_64 : decode cX5_rid 64 = .ok (.iinc 4 1, 3) := by decide +kernel
theorem dX5_rid_67 : decode cX5_rid 67 = .ok (.goto (-37), 3) := by decide +kernel
theorem dX5_rid_70 : decode cX5_rid 70 = .ok (.iconst 1, 1) := by decide +kernel
theorem dX5_rid_71 : decode cX5_rid 71 = .ok (.istore 4, 2) := by decide +kernel
theorem dX5_rid_73 : decode cX5_rid 73 = .ok (.iconst 1, 1) := by decide +kernel
theorem dX5_rid_74 : decode cX5_rid 74 = .ok (.istore 5, 2) := by decide +kernel
theorem dX5_rid_76 : decode cX5_rid 76 = .ok (.iconst 0, 1) := by decide +kernel
theorem dX5_rid_77 : decode cX5_rid 77 = .ok (.istore 6, 2) := by decide +kernel
theorem dX5_rid_79 : decode cX5_rid 79 = .ok (.iload 6, 2) := by decide +kernel
theorem dX5_rid_81 : decode cX5_rid 81 = .ok (.bipush 10, 2) := by decide +kernel
theorem dX5_rid_83 : decode cX5_rid 83 = .ok (.if_icmp .ge 50, 3) := by decide +kernel
theorem dX5_rid_86 : decode cX5_rid 86 = .ok (.iload 4, 2) := by decide +kernel
theorem dX5_rid_88 : decode cX5_rid 88 = .ok (.iload_n 3, 1) := by decide +kernel
theorem dX5_rid_89 : decode cX5_rid 89 = .ok (.iload 6, 2) := by decide +kernel
theorem dX5_rid_91 : decode cX5_rid 91 = .ok (.ishr, 1) := by decide +kernel
theorem dX5_rid_92 : decode cX5_rid 92 = .ok (.iconst 1, 1) := by decide +kernel
theorem dX5_rid_93 : decode cX5_rid 93 = .ok (.iand, 1) := by decide +kernel
theorem dX5_rid_94 : decode cX5_rid 94 = .ok (.iconst 1, 1) := by decide +kernel
theorem dX5_rid_95 : decode cX5_rid 95 = .ok (.if_icmp .ne 7, 3) := by decide +kernel
theorem dX5_rid_98 : decode cX5_rid 98 = .ok (.iload_n 1, 1) := by decide +kernel
theorem dX5_rid_99 : decode cX5_rid 99 = .ok (.goto 4, 3) := by decide +kernel
theorem dX5_rid_102 : decode cX5_rid 102 = .ok (.iconst 1, 1) := by decide +kernel
theorem dX5_rid_103 : decode cX5_rid 103 = .ok (.imul, 1) := by decide +kernel
theorem dX5_rid_104 : decode cX5_rid 104 = .ok (.istore 4, 2) := by decide +kernel
theorem dX5_rid_106 : decode cX5_rid 106 = .ok (.iload 5, 2) := by decide +kernel
theorem dX5_rid_108 : decode cX5_rid 108 = .ok (.iload_n 3, 1) := by decide +kernel
theorem dX5_rid_109 : decode cX5_rid 109 = .ok (.iload 6, 2) := by decide +kernel
theorem dX5_rid_111 : decode cX5_rid 111 = .ok (.ishr, 1) := by decide +kernel
theorem dX5_rid_112 : decode cX5_rid 112 = .ok (.iconst 1, 1) := by decide +kernel
theorem dX5_rid_113 : decode cX5_rid 113 = .ok (.iand, 1) := by decide +kernel
theorem dX5_rid_114 : decode cX5_rid 114 = .ok (.iconst 1, 1) := by decide +kernel
theorem dX5_rid_115 : decode cX5_rid 115 = .ok (.if_icmp .ne 8, 3) := by decide +kernel
theorem dX5_rid_118 : decode cX5_rid 118 = .ok (.bipush 10, 2) := by decide +kernel
theorem dX5_rid_120 : decode cX5_rid 120 = .ok (.goto 4, 3) := by decide +kernel
theorem dX5_rid_123 : decode cX5_rid 123 = .ok (.iconst 1, 1) := by decide +kernel
theorem dX5_rid_124 : decode cX5_rid 124 = .ok (.imul, 1) := by decide +kernel
theorem dX5_rid_125 : decode cX5_rid 125 = .ok (.istore 5, 2) := by decide +kernel
theorem dX5_rid_127 : decode cX5_rid 127 = .ok (.iinc 6 1, 3) := by decide +kernel
theorem dX5_rid_130 : decode cX5_rid 130 = .ok (.goto (-51), 3) := by decide +kernel
theorem dX5_rid_133 : decode cX5_rid 133 = .ok (.iload 4, 2) := by decide +kernel
theorem dX5_rid_135 : decode cX5_rid 135 = .ok (.istore 6, 2) := by decide +kernel
theorem dX5_rid_137 : decode cX5_rid 137 = .ok (.iload 5, 2) := by decide +kernel
theorem dX5_rid_139 : decode cX5_rid 139 = .ok (.istore 7, 2) := by decide +kernel
theorem dX5_rid_141 : decode cX5_rid 141 = .ok (.iload 7, 2) := by decide +kernel
theorem dX5_rid_143 : decode cX5_rid 143 = .ok (.ifCond .eq 21, 3) := by decide +kernel
theorem dX5_rid_146 : decode cX5_rid 146 = .ok (.iload 6, 2) := by decide +kernel
theorem dX5_rid_148 : decode cX5_rid 148 = .ok (.iload 7, 2) := by decide +kernel
theorem dX5_rid_150 : decode cX5_rid 150 = .ok (.irem, 1) := by decide +kernel
theorem dX5_rid_151 : decode cX5_rid 151 = .ok (.istore 8, 2) := by decide +kernel
theorem dX5_rid_153 : decode cX5_rid 153 = .ok (.iload 7, 2) := by decide +kernel
theorem dX5_rid_155 : decode cX5_rid 155 = .ok (.istore 6, 2) := by decide +kernel
theorem dX5_rid_157 : decode cX5_rid 157 = .ok (.iload 8, 2) := by decide +kernel
theorem dX5_rid_159 : decode cX5_rid 159 = .ok (.istore 7, 2) := by decide +kernel
theorem dX5_rid_161 : decode cX5_rid 161 = .ok (.goto (-20), 3) := by decide +kernel
theorem dX5_rid_164 : decode cX5_rid 164 = .ok (.iload_n 2, 1) := by decide +kernel
theorem dX5_rid_165 : decode cX5_rid 165 = .ok (.ifCond .ne 11, 3) := by decide +kernel
theorem dX5_rid_168 : decode cX5_rid 168 = .ok (.iload 4, 2) := by decide +kernel
theorem dX5_rid_170 : decode cX5_rid 170 = .ok (.iload 6, 2) := by decide +kernel
theorem dX5_rid_172 : decode cX5_rid 172 = .ok (.idiv, 1) := by decide +kernel
theorem dX5_rid_173 : decode cX5_rid 173 = .ok (.goto 8, 3) := by decide +kernel
theorem dX5_rid_176 : decode cX5_rid 176 = .ok (.iload 5, 2) := by decide +kernel
theorem dX5_rid_178 : decode cX5_rid 178 = .ok (.iload 6, 2) := by decide +kernel
theorem dX5_rid_180 : decode cX5_rid 180 = .ok (.idiv, 1) := by decide +kernel
theorem dX5_rid_181 : decode cX5_rid 181 = .ok (.ireturn, 1) := by decide +kernel
set_option maxRecDepth 20000 in
theorem ggX5_grandson_X5_in : GoodIn wsX5_grandson wsX5_in := goodIn_sub (List.forall_mem_cons.mpr ⟨List.mem_cons_of_mem _ (List.mem_append_left _ (List.mem_append_left _ (List.mem_of_getElem? (i := 7) rfl))), (fun _ h => absurd h List.not_mem_nil)⟩) (by decide +kernel)
set_option maxRecDepth 20000 in
theorem gX5_grandson_X5_in : GoodIn wsX5_grandson (va_wsS RX5 50 yX5_in wsX5_in) := goodIn_app (goodIn_sub (List.forall_mem_cons.mpr ⟨List.mem_cons_of_mem _ (List.mem_append_left _ (List.mem_append_left _ (List.mem_of_getElem? (i := 4) rfl))), List.forall_mem_cons.mpr ⟨List.mem_cons_of_mem _ (List.mem_append_left _ (List.mem_append_left _ (List.mem_of_getElem? (i := 5) rfl))), List.forall_mem_cons.mpr ⟨List.mem_cons_of_mem _ (List.mem_append_left _ (List.mem_append_left _ (List.mem_of_getElem? (i := 6) rfl))), (fun _ h => absurd h List.not_mem_nil)⟩⟩⟩) (by decide +kernel)) ggX5_grandson_X5_in
set_option maxRecDepth 20000 in
theorem ggX5_grandson_X5_tryDays : GoodIn wsX5_grandson wsX5_tryDays := goodIn_sub (List.forall_mem_cons.mpr ⟨List.mem_cons_of_mem _ (List.mem_append_left _ (List.mem_append_left _ (List.mem_of_getElem? (i := 11) rfl))), List.forall_mem_append.mpr ⟨List.forall_mem_append.mpr ⟨List.forall_mem_cons.mpr ⟨List.mem_cons_of_mem _ (List.mem_append_left _ (List.mem_append_left _ (List.mem_of_getElem? (i := 12) rfl))), List.forall_mem_cons.mpr ⟨List.mem_cons_of_mem _ (List.mem_append_left _ (List.mem_append_left _ (List.mem_of_getElem? (i := 13) rfl))), List.forall_mem_cons.mpr ⟨List.mem_cons_of_mem _ (List.mem_append_left _ (List.mem_append_left _ (List.mem_of_getElem? (i := 14) rfl))), List.forall_mem_cons.mpr ⟨List.mem_cons_of_mem _ (List.mem_append_left _ (List.mem_append_left _ (List.mem_of_getElem? (i := 6) rfl))), List.forall_mem_cons.mpr ⟨List.mem_cons_of_mem _ (List.mem_append_left _ (List.mem_append_left _ (List.mem_of_getElem? (i := 15) rfl))), List.forall_mem_cons.mpr ⟨List.mem_cons_of_mem _ (List.mem_append_left _ (List.mem_append_left _ (List.mem_of_getElem? (i := 3) rfl))), List.forall_mem_cons.mpr ⟨List.mem_cons_of_mem _ (List.mem_append_left _ (List.mem_append_left _ (List.mem_of_getElem? (i := 16) rfl))), List.forall_mem_cons.mpr ⟨List.mem_cons_of_mem _ (List.mem_append_left _ (List.mem_append_left _ (List.mem_of_getElem? (i := 17) rfl))), List.forall_mem_cons.mpr ⟨List.mem_cons_of_mem _ (List.mem_append_left _ (List.mem_append_left _ (List.mem_of_getElem? (i := 18) rfl))), List.forall_mem_cons.mpr ⟨List.mem_cons_of_mem _ (List.mem_append_left _ (List.mem_append_left _ (List.mem_of_getElem? (i := 19) rfl))), List.forall_mem_cons.mpr ⟨List.mem_cons_of_mem _ (List.mem_append_left _ (List.mem_append_left _ (List.mem_of_getElem? (i := 20) rfl))), List.forall_mem_cons.mpr ⟨List.mem_cons_of_mem _ (List.mem_append_left _ (List.mem_append_left _ (List.mem_of_getElem? (i := 21) rfl))), List.forall_mem_cons.mpr ⟨List.mem_cons_of_mem _ (List.mem_append_left _ (List.mem_append_left _ (List.mem_of_getElem? (i := 22) rfl))), List.forall_mem_cons.mpr ⟨List.mem_cons_of_mem _ (List.mem_append_left _ (List.mem_append_left _ (List.mem_of_getElem? (i := 23) rfl))), List.forall_mem_cons.mpr ⟨List.mem_cons_of_mem _ (List.mem_append_left _ (List.mem_append_right _ (List.mem_append_left _ (List.mem_of_getElem? (i := 0) rfl)))), List.forall_mem_cons.mpr ⟨List.mem_cons_of_mem _ (List.mem_append_left _ (List.mem_append_right _ (List.mem_append_left _ (List.mem_of_getElem? (i := 1) rfl)))), List.forall_mem_cons.mpr ⟨List.mem_cons_of_mem _ (List.mem_append_left _ (List.mem_append_right _ (List.mem_append_left _ (List.mem_of_getElem? (i := 2) rfl)))), List.forall_mem_cons.mpr ⟨List.mem_cons_of_mem _ (List.mem_append_left _ (List.mem_append_right _ (List.mem_append_left _ (List.mem_of_getElem? (i := 3) rfl)))), List.forall_mem_cons.mpr ⟨List.mem_cons_of_mem _ (List.mem_append_left _ (List.mem_append_right _ (List.mem_append_left _ (List.mem_of_getElem? (i := 4) rfl)))), List.forall_mem_cons.mpr ⟨List.mem_cons_of_mem _ (List.mem_append_left _ (List.mem_append_right _ (List.mem_append_left _ (List.mem_of_getElem? (i := 5) rfl)))), List.forall_mem_cons.mpr ⟨List.mem_cons_of_mem _ (List.mem_append_left _ (List.mem_append_right _ (List.mem_append_left _ (List.mem_of_getElem? (i := 6) rfl)))), List.forall_mem_cons.mpr ⟨List.mem_cons_of_mem _ (List.mem_append_left _ (List.mem_append_right _ (List.mem_append_left _ (List.mem_of_getElem? (i := 7) rfl)))), List.forall_mem_cons.mpr ⟨List.mem_cons_of_mem _ (List.mem_append_left _ (List.mem_append_right _ (List.mem_append_left _ (List.mem_of_getElem? (i := 8) rfl)))), List.forall_mem_cons.mpr ⟨List.mem_cons_of_mem _ (List.mem_append_left _ (List.mem_append_right _ (List.mem_append_left _ (List.mem_of_getElem? (i := 9) rfl)))), (fun _ h => absurd h List.not_mem_nil)⟩⟩⟩⟩⟩⟩⟩⟩⟩⟩⟩⟩⟩⟩⟩⟩⟩⟩⟩⟩⟩⟩⟩⟩, List.forall_mem_cons.mpr ⟨List.mem_cons_of_mem _ (List.mem_append_left _ (List.mem_append_right _ (List.mem_append_left _ (List.mem_of_getElem? (i := 10) rfl)))), List.forall_mem_cons.mpr ⟨List.mem_cons_of_mem _ (List.mem_append_left _ (List.mem_append_right _ (List.mem_append_left _ (List.mem_of_getElem? (i := 11) rfl)))), List.forall_mem_cons.mpr ⟨List.mem_cons_of_mem _ (List.mem_append_left _ (List.mem_append_right _ (List.mem_append_left _ (List.mem_of_getElem? (i := 12) rfl)))), List.forall_mem_cons.mpr ⟨List.mem_cons_of_mem _ (List.mem_append_left _ (List.mem_append_right _ (List.mem_append_left _ (List.mem_of_getElem? (i := 13) rfl)))), List.forall_mem_cons.mpr ⟨List.mem_cons_of_mem _ (List.mem_append_left _ (List.mem_append_right _ (List.mem_append_left _ (List.mem_of_getElem? (i := 14) rfl)))), List.forall_mem_cons.mpr ⟨List.mem_cons_of_mem _ (List.mem_append_left _ (List.mem_append_right _ (List.mem_append_left _ (List.mem_of_getElem? (i := 15) rfl)))), List.forall_mem_cons.mpr ⟨List.mem_cons_of_mem _ (List.mem_append_left _ (List.mem_append_right _ (List.mem_append_left _ (List.mem_of_getElem? (i := 16) rfl)))), List.forall_mem_cons.mpr ⟨List.mem_cons_of_mem _ (List.mem_append_left _ (List.mem_append_right _ (List.mem_append_left _ (List.mem_of_getElem? (i := 17) rfl)))), List.forall_mem_cons.mpr ⟨List.mem_cons_of_mem _ (List.mem_append_left _ (List.mem_append_right _ (List.mem_append_left _ (List.mem_of_getElem? (i := 18) rfl)))), List.forall_mem_cons.mpr ⟨List.mem_cons_of_mem _ (List.mem_append_left _ (List.mem_append_right _ (List.mem_append_left _ (List.mem_of_getElem? (i := 19) rfl)))), List.forall_mem_cons.mpr ⟨List.mem_cons_of_mem _ (List.mem_append_left _ (List.mem_append_right _ (List.mem_append_left _ (List.mem_of_getElem? (i := 20) rfl)))), (fun _ h => absurd h List.not_mem_nil)⟩⟩⟩⟩⟩⟩⟩⟩⟩⟩⟩⟩, (fun _ h => List.mem_cons_of_mem _ (List.mem_append_right _ (h)))⟩⟩) (by decide +kernel)
set_option maxRecDepth 20000 in
theorem gX5_grandson_X5_tryDays : GoodIn wsX5_grandson (wsV RX5 182 RX5 yX5_tryDays wsX5_tryDays) := goodIn_app (goodIn_sub (List.forall_mem_cons.mpr ⟨List.mem_cons_of_mem _ (List.mem_append_left _ (List.mem_append_left _ (List.mem_of_getElem? (i := 8) rfl))), List.forall_mem_cons.mpr ⟨List.mem_cons_of_mem _ (List.mem_append_left _ (List.mem_append_left _ (List.mem_of_getElem? (i := 9) rfl))), List.forall_mem_cons.mpr ⟨List.mem_cons_of_mem _ (List.mem_append_left _ (List.mem_append_left _ (List.mem_of_getElem? (i := 10) rfl))), List.forall_mem_cons.mpr ⟨List.mem_cons_of_mem _ (List.mem_append_left _ (List.mem_append_left _ (List.mem_of_getElem? (i := 6) rfl))), (fun _ h => absurd h List.not_mem_nil)⟩⟩⟩⟩) (by decide +kernel)) ggX5_grandson_X5_tryDays
set_option maxRecDepth 20000 in
theorem ggX5_grandson_X5_lives : GoodIn wsX5_grandson wsX5_lives := goodIn_sub (List.forall_mem_cons.mpr ⟨List.mem_cons_of_mem _ (List.mem_append_left _ (List.mem_append_right _ (List.mem_append_right _ (List.mem_of_getElem? (i := 0) rfl)))), List.forall_mem_append.mpr ⟨List.forall_mem_cons.mpr ⟨List.mem_cons_of_mem _ (List.mem_append_left _ (List.mem_append_left _ (List.mem_of_getElem? (i := 3) rfl))), (fun _ h => absurd h List.not_mem_nil)⟩, (fun _ h => List.mem_cons_of_mem _ (List.mem_append_right _ (h)))⟩⟩) (by decide +kernel)
set_option maxRecDepth 20000 in
theorem gX5_grandson_X5_lives : GoodIn wsX5_grandson (wsV RX5 144 RX5 yX5_lives wsX5_lives) := goodIn_app (goodIn_sub (List.forall_mem_cons.mpr ⟨List.mem_cons_of_mem _ (List.mem_append_left _ (List.mem_append_right _ (List.mem_append_left _ (List.mem_of_getElem? (i := 21) rfl)))), List.forall_mem_cons.mpr ⟨List.mem_cons_of_mem _ (List.mem_append_left _ (List.mem_append_right _ (List.mem_append_left _ (List.mem_of_getElem? (i := 22) rfl)))), List.forall_mem_cons.mpr ⟨List.mem_cons_of_mem _ (List.mem_append_left _ (List.mem_append_right _ (List.mem_append_left _ (List.mem_of_getElem? (i := 23) rfl)))), List.forall_mem_cons.mpr ⟨List.mem_cons_of_mem _ (List.mem_append_left _ (List.mem_append_left _ (List.mem_of_getElem? (i := 6) rfl))), (fun _ h => absurd h List.not_mem_nil)⟩⟩⟩⟩) (by decide +kernel)) ggX5_grandson_X5_lives
theorem dX5_grandson_0 : decode cX5_grandson 0 = .ok (.iload_n 1, 1) := by decide +kernel
theorem dX5_grandson_1 : decode cX5_grandson 1 = .ok (.i2l, 1) := by decide +kernel
theorem dX5_grandson_2 : decode cX5_grandson 2 = .ok (.lconst 0, 1) := by decide +kernel
theorem dX5_grandson_3 : decode cX5_grandson 3 = .ok (.ldc2_w 169, 3) := by decide +kernel
theorem dX5_grandson_6 : decode cX5_grandson 6 = .ok (.invokestatic 50, 3) := by decide +kernel
theorem dX5_grandson_9 : decode cX5_grandson 9 = .ok (.ifCond .ne 6, 3) := by decide +kernel
theorem dX5_grandson_12 : decode cX5_grandson 12 = .ok (.bipush (-3), 2) := by decide +kernel
theorem dX5_grandson_14 : decode cX5_grandson 14 = .ok (.ireturn, 1) := by decide +kernel
theorem dX5_grandson_15 : decode cX5_grandson 15 = .ok (.aload_n 0, 1) := by decide +kernel
theorem dX5_grandson_16 : decode cX5_grandson 16 = .ok (.iload_n 1, 1) := by decide +kernel
theorem dX5_grandson_17 : decode cX5_grandson 17 = .ok (.aload_n 0, 1) := by decide +kernel
theorem dX5_grandson_18 : decode cX5_grandson 18 = .ok (.getfield 38, 3) := by decide +kernel
theorem dX5_grandson_21 : decode cX5_grandson 21 = .ok (.invokevirtual 182, 3) := by decide +kernel
theorem dX5_grandson_24 : decode cX5_grandson 24 = .ok (.iconst 0, 1) := by decide +kernel
theorem dX5_grandson_25 : decode cX5_grandson 25 = .ok (.istore_n 2, 1) := by decide +kernel
theorem dX5_grandson_26 : decode cX5_grandson 26 = .ok (.iconst 0, 1) := by decide +kernel
theorem dX5_grandson_27 : decode cX5_grandson 27 = .ok (.istore_n 3, 1) := by decide +kernel
theorem dX5_grandson_28 : decode cX5_grandson 28 = .ok (.iload_n 3, 1) := by decide +kernel
theorem dX5_grandson_29 : decode cX5_grandson 29 = .ok (.aload_n 0, 1) := by decide +kernel
theorem dX5_grandson_30 : decode cX5_grandson 30 = .ok (.getfield 115, 3) := by decide +kernel
theorem dX5_grandson_33 : decode cX5_grandson 33 = .ok (.if_icmp .ge 34, 3) := by decide +kernel
theorem dX5_grandson_36 : decode cX5_grandson 36 = .ok (.iload_n 2, 1) := by decide +kernel
theorem dX5_grandson_37 : decode cX5_grandson 37 = .ok (.aload_n 0, 1) := by decide +kernel
theorem dX5_grandson_38 : decode cX5_grandson 38 = .ok (.iload_n 3, 1) := by decide +kernel
theorem dX5_grandson_39 : decode cX5_grandson 39 = .ok (.invokevirtual 144, 3) := by decide +kernel
theorem dX5_grandson_42 : decode cX5_grandson 42 = .ok (.ifCond .eq 16, 3) := by decide +kernel
theorem dX5_grandson_45 : decode cX5_grandson 45 = .ok (.aload_n 0, 1) := by decide +kernel
theorem dX5_grandson_46 : decode cX5_grandson 46 = .ok (.getfield 7, 3) := by decide +kernel
theorem dX5_grandson_49 : decode cX5_grandson 49 = .ok (.sipush 227, 3) := by decide +kernel
theorem dX5_grandson_52 : decode cX5_grandson 52 = .ok (.iload_n 3, 1) := by decide +kernel
theorem dX5_grandson_53 : decode cX5_grandson 53 = .ok (.iadd, 1) := by decide +kernel
theorem dX5_grandson_54 : decode cX5_grandson 54 = .ok (.iaload, 1) := by decide +kernel
theorem dX5_grandson_55 : decode cX5_grandson 55 = .ok (.goto 4, 3) := by decide +kernel
theorem dX5_grandson_58 : decode cX5_grandson 58 = .ok (.iconst 0, 1) := by decide +kernel
theorem dX5_grandson_59 : decode cX5_grandson 59 = .ok (.iadd, 1) := by decide +kernel
theorem dX5_grandson_60 : decode cX5_grandson 60 = .ok (.istore_n 2, 1) := by decide +kernel
theorem dX5_grandson_61 : decode cX5_grandson 61 = .ok (.iinc 3 1, 3) := by decide +kernel
theorem dX5_grandson_64 : decode cX5_grandson 64 = .ok (.goto (-36), 3) := by decide +kernel
theorem dX5_grandson_67 : decode cX5_grandson 67 = .ok (.iload_n 2, 1) := by decide +kernel
theorem dX5_grandson_68 : decode cX5_grandson 68 = .ok (.ireturn, 1) := by decide +kernel
set_option maxRecDepth 20000 in
theorem ggX5_toWhom_X5_in : GoodIn wsX5_toWhom wsX5_in := goodIn_sub (List.forall_mem_cons.mpr ⟨List.mem_cons_of_mem _ (List.mem_append_left _ (List.mem_of_getElem? (i := 7) rfl)), (fun _ h => absurd h List.not_mem_nil)⟩) (by decide +kernel)
set_option maxRecDepth 20000 in
theorem gX5_toWhom_X5_in : GoodIn wsX5_toWhom (va_wsS RX5 50 yX5_in wsX5_in) := goodIn_app (goodIn_sub (List.forall_mem_cons.mpr ⟨List.mem_cons_of_mem _ (List.mem_append_left _ (List.mem_of_getElem? (i := 4) rfl)), List.forall_mem_cons.mpr ⟨List.mem_cons_of_mem _ (List.mem_append_left _ (List.mem_of_getElem? (i := 5) rfl)), List.forall_mem_cons.mpr ⟨List.mem_cons_of_mem _ (List.mem_append_left _ (List.mem_of_getElem? (i := 6) rfl)), (fun _ h => absurd h List.not_mem_nil)⟩⟩⟩) (by decide +kernel)) ggX5_toWhom_X5_in
set_option maxRecDepth 20000 in
theorem ggX5_toWhom_X5_lives : GoodIn wsX5_toWhom wsX5_lives := goodIn_sub (List.forall_mem_cons.mpr ⟨List.mem_cons_of_mem _ (List.mem_append_left _ (List.mem_of_getElem? (i := 11) rfl)), List.forall_mem_append.mpr ⟨List.forall_mem_cons.mpr ⟨List.mem_cons_of_mem _ (List.mem_append_left _ (List.mem_of_getElem? (i := 12) rfl)), (fun _ h => absurd h List.not_mem_nil)⟩, (fun _ h => List.mem_cons_of_mem _ (List.mem_append_right _ (h)))⟩⟩) (by decide +kernel)
set_option maxRecDepth 20000 in
theorem gX5_toWhom_X5_lives : GoodIn wsX5_toWhom (wsV RX5 144 RX5 yX5_lives wsX5_lives) := goodIn_app (goodIn_sub (List.forall_mem_cons.mpr ⟨List.mem_cons_of_mem _ (List.mem_append_left _ (List.mem_of_getElem? (i := 8) rfl)), List.forall_mem_cons.mpr ⟨List.mem_cons_of_mem _ (List.mem_append_left _ (List.mem_of_getElem? (i := 9) rfl)), List.forall_mem_cons.mpr ⟨List.mem_cons_of_mem _ (List.mem_append_left _ (List.mem_of_getElem? (i := 10) rfl)), List.forall_mem_cons.mpr ⟨List.mem_cons_of_mem _ (List.mem_append_left _ (List.mem_of_getElem? (i := 6) rfl)), (fun _ h => absurd h List.not_mem_nil)⟩⟩⟩⟩) (by decide +kernel)) ggX5_toWhom_X5_lives
set_option maxRecDepth 20000 in
theorem ggX5_toWhom_X5_owedFor : GoodIn wsX5_toWhom wsX5_owedFor := goodIn_sub (List.forall_mem_cons.mpr ⟨List.mem_cons_of_mem _ (List.mem_append_left _ (List.mem_of_getElem? (i := 16) rfl)), List.forall_mem_append.mpr ⟨List.forall_mem_cons.mpr ⟨List.mem_cons_of_mem _ (List.mem_append_left _ (List.mem_of_getElem? (i := 17) rfl)), List.forall_mem_cons.mpr ⟨List.mem_cons_of_mem _ (List.mem_append_left _ (List.mem_of_getElem? (i := 18) rfl)), List.forall_mem_cons.mpr ⟨List.mem_cons_of_mem _ (List.mem_append_left _ (List.mem_of_getElem? (i := 19) rfl)), List.forall_mem_cons.mpr ⟨List.mem_cons_of_mem _ (List.mem_append_left _ (List.mem_of_getElem? (i := 6) rfl)), List.forall_mem_cons.mpr ⟨List.mem_cons_of_mem _ (List.mem_append_left _ (List.mem_of_getElem? (i := 20) rfl)), List.forall_mem_cons.mpr ⟨List.mem_cons_of_mem _ (List.mem_append_left _ (List.mem_of_getElem? (i := 21) rfl)), List.forall_mem_cons.mpr ⟨List.mem_cons_of_mem _ (List.mem_append_left _ (List.mem_of_getElem? (i := 22) rfl)), List.forall_mem_cons.mpr ⟨List.mem_cons_of_mem _ (List.mem_append_left _ (List.mem_of_getElem? (i := 23) rfl)), (fun _ h => absurd h List.not_mem_nil)⟩⟩⟩⟩⟩⟩⟩⟩, (fun _ h => List.mem_cons_of_mem _ (List.mem_append_right _ (h)))⟩⟩) (by decide +kernel)
set_option maxRecDepth 20000 in
theorem gX5_toWhom_X5_owedFor : GoodIn wsX5_toWhom (wsV RX5 188 RX5 yX5_owedFor wsX5_owedFor) := goodIn_app (goodIn_sub (List.forall_mem_cons.mpr ⟨List.mem_cons_of_mem _ (List.mem_append_left _ (List.mem_of_getElem? (i := 13) rfl)), List.forall_mem_cons.mpr ⟨List.mem_cons_of_mem _ (List.mem_append_left _ (List.mem_of_getElem? (i := 14) rfl)), List.forall_mem_cons.mpr ⟨List.mem_cons_of_mem _ (List.mem_append_left _ (List.mem_of_getElem? (i := 15) rfl)), List.forall_mem_cons.mpr ⟨List.mem_cons_of_mem _ (List.mem_append_left _ (List.mem_of_getElem? (i := 6) rfl)), (fun _ h => absurd h List.not_mem_nil)⟩⟩⟩⟩) (by decide +kernel)) ggX5_toWhom_X5_owedFor
theorem dX5_toWhom_0 : decode cX5_toWhom 0 = .ok (.iload_n 1, 1) := by decide +kernel
theorem dX5_toWhom_1 : decode cX5_toWhom 1 = .ok (.i2l, 1) := by decide +kernel
theorem dX5_toWhom_2 : decode cX5_toWhom 2 = .ok (.lconst 1, 1) := by decide +kernel
theorem dX5_toWhom_3 : decode cX5_toWhom 3 = .ok (.ldc2_w 169, 3) := by decide +kernel
theorem dX5_toWhom_6 : decode cX5_toWhom 6 = .ok (.invokestatic 50, 3) := by decide +kernel
theorem dX5_toWhom_9 : decode cX5_toWhom 9 = .ok (.ifCond .eq 27, 3) := by decide +kernel
theorem dX5_toWhom_12 : decode cX5_toWhom 12 = .ok (.iload_n 2, 1) := by decide +kernel
theorem dX5_toWhom_13 : decode cX5_toWhom 13 = .ok (.i2l, 1) := by decide +kernel
theorem dX5_toWhom_14 : decode cX5_toWhom 14 = .ok (.lconst 0, 1) := by decide +kernel
theorem dX5_toWhom_15 : decode cX5_toWhom 15 = .ok (.ldc2_w 194, 3) := by decide +kernel
theorem dX5_toWhom_18 : decode cX5_toWhom 18 = .ok (.invokestatic 50, 3) := by decide +kernel
theorem dX5_toWhom_21 : decode cX5_toWhom 21 = .ok (.ifCond .eq 15, 3) := by decide +kernel
theorem dX5_toWhom_24 : decode cX5_toWhom 24 = .ok (.iload_n 3, 1) := by decide +kernel
theorem dX5_toWhom_25 : decode cX5_toWhom 25 = .ok (.i2l, 1) := by decide +kernel
theorem dX5_toWhom_26 : decode cX5_toWhom 26 = .ok (.lconst 0, 1) := by decide +kernel
theorem dX5_toWhom_27 : decode cX5_toWhom 27 = .ok (.ldc2_w 204, 3) := by decide +kernel
theorem dX5_toWhom_30 : decode cX5_toWhom 30 = .ok (.invokestatic 50, 3) := by decide +kernel
theorem dX5_toWhom_33 : decode cX5_toWhom 33 = .ok (.ifCond .ne 6, 3) := by decide +kernel
theorem dX5_toWhom_36 : decode cX5_toWhom 36 = .ok (.bipush (-3), 2) := by decide +kernel
theorem dX5_toWhom_38 : decode cX5_toWhom 38 = .ok (.ireturn, 1) := by decide +kernel
theorem dX5_toWhom_39 : decode cX5_toWhom 39 = .ok (.iconst 0, 1) := by decide +kernel
theorem dX5_toWhom_40 : decode cX5_toWhom 40 = .ok (.istore 4, 2) := by decide +kernel
theorem dX5_toWhom_42 : decode cX5_toWhom 42 = .ok (.iconst 0, 1) := by decide +kernel
theorem dX5_toWhom_43 : decode cX5_toWhom 43 = .ok (.istore 5, 2) := by decide +kernel
theorem dX5_toWhom_45 : decode cX5_toWhom 45 = .ok (.iload 5, 2) := by decide +kernel
theorem dX5_toWhom_47 : decode cX5_toWhom 47 = .ok (.aload_n 0, 1) := by decide +kernel
theorem dX5_toWhom_48 : decode cX5_toWhom 48 = .ok (.getfield 115, 3) := by decide +kernel
theorem dX5_toWhom_51 : decode cX5_toWhom 51 = .ok (.if_icmp .ge 43, 3) := by decide +kernel
theorem dX5_toWhom_54 : decode cX5_toWhom 54 = .ok (.iload 4, 2) := by decide +kernel
theorem dX5_toWhom_56 : decode cX5_toWhom 56 = .ok (.aload_n 0, 1) := by decide +kernel
theorem dX5_toWhom_57 : decode cX5_toWhom 57 = .ok (.iload 5, 2) := by decide +kernel
theorem dX5_toWhom_59 : decode cX5_toWhom 59 = .ok (.invokevirtual 144, 3) := by decide +kernel
theorem dX5_toWhom_62 : decode cX5_toWhom 62 = .ok (.ifCond .eq 22, 3) := by decide +kernel
theorem dX5_toWhom_65 : decode cX5_toWhom 65 = .ok (.aload_n 0, 1) := by decide +kernel
theorem dX5_toWhom_66 : decode cX5_toWhom 66 = .ok (.iload 5, 2) := by decide +kernel
theorem dX5_toWhom_68 : decode cX5_toWhom 68 = .ok (.iload_n 1, 1) := by decide +kernel
theorem dX5_toWhom_69 : decode cX5_toWhom 69 = .ok (.iload_n 2, 1) := by decide +kernel
theorem dX5_toWhom_70 : decode cX5_toWhom 70 = .ok (.invokevirtual 188, 3) := by decide +kernel
theorem dX5_toWhom_73 : decode cX5_toWhom 73 = .ok (.iload_n 3, 1) := by decide +kernel
theorem dX5_toWhom_74 : decode cX5_toWhom 74 = .ok (.if_icmp .ne 10, 3) := by decide +kernel
theorem dX5_toWhom_77 : decode cX5_toWhom 77 = .ok (.iconst 1, 1) := by decide +kernel
theorem dX5_toWhom_78 : decode cX5_toWhom 78 = .ok (.iload 5, 2) := by decide +kernel
theorem dX5_toWhom_80 : decode cX5_toWhom 80 = .ok (.ishl, 1) := by decide +kernel
theorem dX5_toWhom_81 : decode cX5_toWhom 81 = .ok (.goto 4, 3) := by decide +kernel
theorem dX5_toWhom_84 : decode cX5_toWhom 84 = .ok (.iconst 0, 1) := by decide +kernel
theorem dX5_toWhom_85 : decode cX5_toWhom 85 = .ok (.ior, 1) := by decide +kernel
theorem dX5_toWhom_86 : decode cX5_toWhom 86 = .ok (.istore 4, 2) := by decide +kernel
theorem dX5_toWhom_88 : decode cX5_toWhom 88 = .ok (.iinc 5 1, 3) := by decide +kernel
theorem dX5_toWhom_91 : decode cX5_toWhom 91 = .ok (.goto (-46), 3) := by decide +kernel
theorem dX5_toWhom_94 : decode cX5_toWhom 94 = .ok (.iload 4, 2) := by decide +kernel
theorem dX5_toWhom_96 : decode cX5_toWhom 96 = .ok (.ireturn, 1) := by decide +kernel
set_option maxRecDepth 20000 in
theorem ggX5_count_X5_owedAll : GoodIn wsX5_count wsX5_owedAll := goodIn_sub (List.forall_mem_cons.mpr ⟨List.mem_cons_of_mem _ (List.mem_append_left _ (List.mem_of_getElem? (i := 9) rfl)), List.forall_mem_append.mpr ⟨List.forall_mem_cons.mpr ⟨List.mem_cons_of_mem _ (List.mem_append_left _ (List.mem_of_getElem? (i := 3) rfl)), List.forall_mem_cons.mpr ⟨List.mem_cons_of_mem _ (List.mem_append_left _ (List.mem_of_getElem? (i := 10) rfl)), List.forall_mem_cons.mpr ⟨List.mem_cons_of_mem _ (List.mem_append_left _ (List.mem_of_getElem? (i := 11) rfl)), List.forall_mem_cons.mpr ⟨List.mem_cons_of_mem _ (List.mem_append_left _ (List.mem_of_getElem? (i := 8) rfl)), List.forall_mem_cons.mpr ⟨List.mem_cons_of_mem _ (List.mem_append_left _ (List.mem_of_getElem? (i := 12) rfl)), (fun _ h => absurd h List.not_mem_nil)⟩⟩⟩⟩⟩, (fun _ h => List.mem_cons_of_mem _ (List.mem_append_right _ (h)))⟩⟩) (by decide +kernel)
set_option maxRecDepth 20000 in
theorem gX5_count_X5_owedAll : GoodIn wsX5_count (wsV RX5 185 RX5 yX5_owedAll wsX5_owedAll) := goodIn_app (goodIn_sub (List.forall_mem_cons.mpr ⟨List.mem_cons_of_mem _ (List.mem_append_left _ (List.mem_of_getElem? (i := 5) rfl)), List.forall_mem_cons.mpr ⟨List.mem_cons_of_mem _ (List.mem_append_left _ (List.mem_of_getElem? (i := 6) rfl)), List.forall_mem_cons.mpr ⟨List.mem_cons_of_mem _ (List.mem_append_left _ (List.mem_of_getElem? (i := 7) rfl)), List.forall_mem_cons.mpr ⟨List.mem_cons_of_mem _ (List.mem_append_left _ (List.mem_of_getElem? (i := 8) rfl)), (fun _ h => absurd h List.not_mem_nil)⟩⟩⟩⟩) (by decide +kernel)) ggX5_count_X5_owedAll

set_option maxRecDepth 20000 in
theorem ggX4_anyFails_X1_passDays : GoodIn wsX4_anyFails wsX1_passDays := goodIn_sub (List.forall_mem_cons.mpr ⟨List.mem_cons_of_mem _ (List.mem_append_left _ (List.mem_append_left _ (List.mem_append_left _ (List.mem_append_right _ (List.mem_append_left _ (List.mem_of_getElem? (i := 2) rfl)))))), List.forall_mem_append.mpr ⟨List.forall_mem_append.mpr ⟨List.forall_mem_append.mpr ⟨List.forall_mem_cons.mpr ⟨List.mem_cons_of_mem _ (List.mem_append_left _ (List.mem_append_left _ (List.mem_append_left _ (List.mem_append_left _ (List.mem_of_getElem? (i := 9) rfl))))), List.forall_mem_cons.mpr ⟨List.mem_cons_of_mem _ (List.mem_append_left _ (List.mem_append_left _ (List.mem_append_left _ (List.mem_append_right _ (List.mem_append_left _ (List.mem_of_getElem? (i := 3) rfl)))))), List.forall_mem_cons.mpr ⟨List.mem_cons_of_mem _ (List.mem_append_left _ (List.mem_append_left _ (List.mem_append_left _ (List.mem_append_right _ (List.mem_append_left _ (List.mem_of_getElem? (i := 4) rfl)))))), List.forall_mem_cons.mpr ⟨List.mem_cons_of_mem _ (List.mem_append_left _ (List.mem_append_left _ (List.mem_append_left _ (List.mem_append_right _ (List.mem_append_left _ (List.mem_of_getElem? (i := 5) rfl)))))), List.forall_mem_cons.mpr ⟨List.mem_cons_of_mem _ (List.mem_append_left _ (List.mem_append_left _ (List.mem_append_left _ (List.mem_append_left _ (List.mem_of_getElem? (i := 7) rfl))))), List.forall_mem_cons.mpr ⟨List.mem_cons_of_mem _ (List.mem_append_left _ (List.mem_append_left _ (List.mem_append_left _ (List.mem_append_right _ (List.mem_append_left _ (List.mem_of_getElem? (i := 6) rfl)))))), List.forall_mem_cons.mpr ⟨List.mem_cons_of_mem _ (List.mem_append_left _ (List.mem_append_left _ (List.mem_append_left _ (List.mem_append_left _ (List.mem_of_getElem? (i := 16) rfl))))), List.forall_mem_cons.mpr ⟨List.mem_cons_of_mem _ (List.mem_append_left _ (List.mem_append_left _ (List.mem_append_left _ (List.mem_append_left _ (List.mem_of_getElem? (i := 19) rfl))))), List.forall_mem_cons.mpr ⟨List.mem_cons_of_mem _ (List.mem_append_left _ (List.mem_append_left _ (List.mem_append_left _ (List.mem_append_left _ (List.mem_of_getElem? (i := 17) rfl))))), List.forall_mem_cons.mpr ⟨List.mem_cons_of_mem _ (List.mem_append_left _ (List.mem_append_left _ (List.mem_append_left _ (List.mem_append_left _ (List.mem_of_getElem? (i := 18) rfl))))), List.forall_mem_cons.mpr ⟨List.mem_cons_of_mem _ (List.mem_append_left _ (List.mem_append_left _ (List.mem_append_left _ (List.mem_append_right _ (List.mem_append_left _ (List.mem_of_getElem? (i := 7) rfl)))))), List.forall_mem_cons.mpr ⟨List.mem_cons_of_mem _ (List.mem_append_left _ (List.mem_append_left _ (List.mem_append_left _ (List.mem_append_right _ (List.mem_append_left _ (List.mem_of_getElem? (i := 8) rfl)))))), List.forall_mem_cons.mpr ⟨List.mem_cons_of_mem _ (List.mem_append_left _ (List.mem_append_left _ (List.mem_append_left _ (List.mem_append_right _ (List.mem_append_left _ (List.mem_of_getElem? (i := 9) rfl)))))), List.forall_mem_cons.mpr ⟨List.mem_cons_of_mem _ (List.mem_append_left _ (List.mem_append_left _ (List.mem_append_left _ (List.mem_append_right _ (List.mem_append_left _ (List.mem_of_getElem? (i := 10) rfl)))))), List.forall_mem_cons.mpr ⟨List.mem_cons_of_mem _ (List.mem_append_left _ (List.mem_append_left _ (List.mem_append_left _ (List.mem_append_right _ (List.mem_append_left _ (List.mem_of_getElem? (i := 11) rfl)))))), List.forall_mem_cons.mpr ⟨List.mem_cons_of_mem _ (List.mem_append_left _ (List.mem_append_left _ (List.mem_append_left _ (List.mem_append_right _ (List.mem_append_left _ (List.mem_of_getElem? (i := 12) rfl)))))), List.forall_mem_cons.mpr ⟨List.mem_cons_of_mem _ (List.mem_append_left _ (List.mem_append_left _ (List.mem_append_left _ (List.mem_append_right _ (List.mem_append_left _ (List.mem_of_getElem? (i := 13) rfl)))))), List.forall_mem_cons.mpr ⟨List.mem_cons_of_mem _ (List.mem_append_left _ (List.mem_append_left _ (List.mem_append_left _ (List.mem_append_right _ (List.mem_append_left _ (List.mem_of_getElem? (i := 14) rfl)))))), List.forall_mem_cons.mpr ⟨List.mem_cons_of_mem _ (List.mem_append_left _ (List.mem_append_left _ (List.mem_append_left _ (List.mem_append_right _ (List.mem_append_left _ (List.mem_of_getElem? (i := 15) rfl)))))), List.forall_mem_cons.mpr ⟨List.mem_cons_of_mem _ (List.mem_append_left _ (List.mem_append_left _ (List.mem_append_left _ (List.mem_append_right _ (List.mem_append_left _ (List.mem_of_getElem? (i := 16) rfl)))))), List.forall_mem_cons.mpr ⟨List.mem_cons_of_mem _ (List.mem_append_left _ (List.mem_append_left _ (List.mem_append_left _ (List.mem_append_right _ (List.mem_append_left _ (List.mem_of_getElem? (i := 17) rfl)))))), List.forall_mem_cons.mpr ⟨List.mem_cons_of_mem _ (List.mem_append_left _ (List.mem_append_left _ (List.mem_append_left _ (List.mem_append_right _ (List.mem_append_left _ (List.mem_of_getElem? (i := 18) rfl)))))), List.forall_mem_cons.mpr ⟨List.mem_cons_of_mem _ (List.mem_append_left _ (List.mem_append_left _ (List.mem_append_left _ (List.mem_append_right _ (List.mem_append_left _ (List.mem_of_getElem? (i := 19) rfl)))))), List.forall_mem_cons.mpr ⟨List.mem_cons_of_mem _ (List.mem_append_left _ (List.mem_append_left _ (List.mem_append_left _ (List.mem_append_right _ (List.mem_append_left _ (List.mem_of_getElem? (i := 20) rfl)))))), (fun _ h => absurd h List.not_mem_nil)⟩⟩⟩⟩⟩⟩⟩⟩⟩⟩⟩⟩⟩⟩⟩⟩⟩⟩⟩⟩⟩⟩⟩⟩, List.forall_mem_cons.mpr ⟨List.mem_cons_of_mem _ (List.mem_append_left _ (List.mem_append_left _ (List.mem_append_left _ (List.mem_append_right _ (List.mem_append_left _ (List.mem_of_getElem? (i := 21) rfl)))))), List.forall_mem_cons.mpr ⟨List.mem_cons_of_mem _ (List.mem_append_left _ (List.mem_append_left _ (List.mem_append_left _ (List.mem_append_right _ (List.mem_append_left _ (List.mem_of_getElem? (i := 22) rfl)))))), List.forall_mem_cons.mpr ⟨List.mem_cons_of_mem _ (List.mem_append_left _ (List.mem_append_left _ (List.mem_append_left _ (List.mem_append_right _ (List.mem_append_left _ (List.mem_of_getElem? (i := 23) rfl)))))), List.forall_mem_cons.mpr ⟨List.mem_cons_of_mem _ (List.mem_append_left _ (List.mem_append_left _ (List.mem_append_left _ (List.mem_append_right _ (List.mem_append_right _ (List.mem_of_getElem? (i := 0) rfl)))))), List.forall_mem_cons.mpr ⟨List.mem_cons_of_mem _ (List.mem_append_left _ (List.mem_append_left _ (List.mem_append_left _ (List.mem_append_right _ (List.mem_append_right _ (List.mem_of_getElem? (i := 1) rfl)))))), List.forall_mem_cons.mpr ⟨List.mem_cons_of_mem _ (List.mem_append_left _ (List.mem_append_left _ (List.mem_append_left _ (List.mem_append_right _ (List.mem_append_right _ (List.mem_of_getElem? (i := 2) rfl)))))), List.forall_mem_cons.mpr ⟨List.mem_cons_of_mem _ (List.mem_append_left _ (List.mem_append_left _ (List.mem_append_left _ (List.mem_append_right _ (List.mem_append_right _ (List.mem_of_getElem? (i := 3) rfl)))))), List.forall_mem_cons.mpr ⟨List.mem_cons_of_mem _ (List.mem_append_left _ (List.mem_append_left _ (List.mem_append_left _ (List.mem_append_left _ (List.mem_of_getElem? (i := 20) rfl))))), List.forall_mem_cons.mpr ⟨List.mem_cons_of_mem _ (List.mem_append_left _ (List.mem_append_left _ (List.mem_append_left _ (List.mem_append_right _ (List.mem_append_right _ (List.mem_of_getElem? (i := 4) rfl)))))), List.forall_mem_cons.mpr ⟨List.mem_cons_of_mem _ (List.mem_append_left _ (List.mem_append_left _ (List.mem_append_left _ (List.mem_append_right _ (List.mem_append_right _ (List.mem_of_getElem? (i := 5) rfl)))))), List.forall_mem_cons.mpr ⟨List.mem_cons_of_mem _ (List.mem_append_left _ (List.mem_append_left _ (List.mem_append_left _ (List.mem_append_right _ (List.mem_append_right _ (List.mem_of_getElem? (i := 6) rfl)))))), List.forall_mem_cons.mpr ⟨List.mem_cons_of_mem _ (List.mem_append_left _ (List.mem_append_left _ (List.mem_append_left _ (List.mem_append_right _ (List.mem_append_right _ (List.mem_of_getElem? (i := 7) rfl)))))), List.forall_mem_cons.mpr ⟨List.mem_cons_of_mem _ (List.mem_append_left _ (List.mem_append_left _ (List.mem_append_left _ (List.mem_append_left _ (List.mem_of_getElem? (i := 10) rfl))))), List.forall_mem_cons.mpr ⟨List.mem_cons_of_mem _ (List.mem_append_left _ (List.mem_append_left _ (List.mem_append_left _ (List.mem_append_right _ (List.mem_append_right _ (List.mem_of_getElem? (i := 8) rfl)))))), List.forall_mem_cons.mpr ⟨List.mem_cons_of_mem _ (List.mem_append_left _ (List.mem_append_left _ (List.mem_append_left _ (List.mem_append_right _ (List.mem_append_right _ (List.mem_of_getElem? (i := 9) rfl)))))), List.forall_mem_cons.mpr ⟨List.mem_cons_of_mem _ (List.mem_append_left _ (List.mem_append_left _ (List.mem_append_left _ (List.mem_append_right _ (List.mem_append_right _ (List.mem_of_getElem? (i := 10) rfl)))))), List.forall_mem_cons.mpr ⟨List.mem_cons_of_mem _ (List.mem_append_left _ (List.mem_append_left _ (List.mem_append_left _ (List.mem_append_right _ (List.mem_append_right _ (List.mem_of_getElem? (i := 11) rfl)))))), List.forall_mem_cons.mpr ⟨List.mem_cons_of_mem _ (List.mem_append_left _ (List.mem_append_left _ (List.mem_append_left _ (List.mem_append_left _ (List.mem_of_getElem? (i := 21) rfl))))), List.forall_mem_cons.mpr ⟨List.mem_cons_of_mem _ (List.mem_append_left _ (List.mem_append_left _ (List.mem_append_left _ (List.mem_append_right _ (List.mem_append_right _ (List.mem_of_getElem? (i := 12) rfl)))))), List.forall_mem_cons.mpr ⟨List.mem_cons_of_mem _ (List.mem_append_left _ (List.mem_append_left _ (List.mem_append_left _ (List.mem_append_right _ (List.mem_append_right _ (List.mem_of_getElem? (i := 13) rfl)))))), List.forall_mem_cons.mpr ⟨List.mem_cons_of_mem _ (List.mem_append_left _ (List.mem_append_left _ (List.mem_append_left _ (List.mem_append_right _ (List.mem_append_right _ (List.mem_of_getElem? (i := 14) rfl)))))), List.forall_mem_cons.mpr ⟨List.mem_cons_of_mem _ (List.mem_append_left _ (List.mem_append_left _ (List.mem_append_left _ (List.mem_append_right _ (List.mem_append_right _ (List.mem_of_getElem? (i := 15) rfl)))))), List.forall_mem_cons.mpr ⟨List.mem_cons_of_mem _ (List.mem_append_left _ (List.mem_append_left _ (List.mem_append_left _ (List.mem_append_left _ (List.mem_of_getElem? (i := 22) rfl))))), (fun _ h => absurd h List.not_mem_nil)⟩⟩⟩⟩⟩⟩⟩⟩⟩⟩⟩⟩⟩⟩⟩⟩⟩⟩⟩⟩⟩⟩⟩⟩, (fun _ h => List.mem_cons_of_mem _ (List.mem_append_left _ (List.mem_append_right _ (h))))⟩, (fun _ h => List.mem_cons_of_mem _ (List.mem_append_right _ (h)))⟩⟩) (by decide +kernel)
set_option maxRecDepth 20000 in
theorem gX4_anyFails_X1_passDays : GoodIn wsX4_anyFails (wsV RX4 148 RX1 yX1_passDays wsX1_passDays) := goodIn_app (goodIn_sub (List.forall_mem_cons.mpr ⟨List.mem_cons_of_mem _ (List.mem_append_left _ (List.mem_append_left _ (List.mem_append_left _ (List.mem_append_left _ (List.mem_of_getElem? (i := 23) rfl))))), List.forall_mem_cons.mpr ⟨List.mem_cons_of_mem _ (List.mem_append_left _ (List.mem_append_left _ (List.mem_append_left _ (List.mem_append_right _ (List.mem_append_left _ (List.mem_of_getElem? (i := 0) rfl)))))), List.forall_mem_cons.mpr ⟨List.mem_cons_of_mem _ (List.mem_append_left _ (List.mem_append_left _ (List.mem_append_left _ (List.mem_append_right _ (List.mem_append_left _ (List.mem_of_getElem? (i := 1) rfl)))))), List.forall_mem_cons.mpr ⟨List.mem_cons_of_mem _ (List.mem_append_left _ (List.mem_append_left _ (List.mem_append_left _ (List.mem_append_left _ (List.mem_of_getElem? (i := 7) rfl))))), (fun _ h => absurd h List.not_mem_nil)⟩⟩⟩⟩) (by decide +kernel)) ggX4_anyFails_X1_passDays
theorem dX4_anyFails_0 : decode cX4_anyFails 0 = .ok (.aload_n 0, 1) := by decide +kernel
theorem dX4_anyFails_1 : decode cX4_anyFails 1 = .ok (.getfield 30, 3) := by decide +kernel
theorem dX4_anyFails_4 : decode cX4_anyFails 4 = .ok (.aload_n 0, 1) := by decide +kernel
theorem dX4_anyFails_5 : decode cX4_anyFails 5 = .ok (.getfield 26, 3) := by decide +kernel
theorem dX4_anyFails_8 : decode cX4_anyFails 8 = .ok (.invokevirtual 160, 3) := by decide +kernel
theorem dX4_anyFails_11 : decode cX4_anyFails 11 = .ok (.iconst 0, 1) := by decide +kernel
theorem dX4_anyFails_12 : decode cX4_anyFails 12 = .ok (.istore_n 3, 1) := by decide +kernel
theorem dX4_anyFails_13 : decode cX4_anyFails 13 = .ok (.iload_n 3, 1) := by decide +kernel
theorem dX4_anyFails_14 : decode cX4_anyFails 14 = .ok (.iload_n 2, 1) := by decide +kernel
theorem dX4_anyFails_15 : decode cX4_anyFails 15 = .ok (.if_icmp .ge 41, 3) := by decide +kernel
theorem dX4_anyFails_18 : decode cX4_anyFails 18 = .ok (.aload_n 0, 1) := by decide +kernel
theorem dX4_anyFails_19 : decode cX4_anyFails 19 = .ok (.getfield 30, 3) := by decide +kernel
theorem dX4_anyFails_22 : decode cX4_anyFails 22 = .ok (.aload_n 0, 1) := by decide +kernel
theorem dX4_anyFails_23 : decode cX4_anyFails 23 = .ok (.getfield 19, 3) := by decide +kernel
theorem dX4_anyFails_26 : decode cX4_anyFails 26 = .ok (.iload_n 1, 1) := by decide +kernel
theorem dX4_anyFails_27 : decode cX4_anyFails 27 = .ok (.iconst 1, 1) := by decide +kernel
theorem dX4_anyFails_28 : decode cX4_anyFails 28 = .ok (.invokevirtual 148, 3) := by decide +kernel
theorem dX4_anyFails_31 : decode cX4_anyFails 31 = .ok (.aload_n 0, 1) := by decide +kernel
theorem dX4_anyFails_32 : decode cX4_anyFails 32 = .ok (.getfield 30, 3) := by decide +kernel
theorem dX4_anyFails_35 : decode cX4_anyFails 35 = .ok (.getfield 170, 3) := by decide +kernel
theorem dX4_anyFails_38 : decode cX4_anyFails 38 = .ok (.aload_n 0, 1) := by decide +kernel
theorem dX4_anyFails_39 : decode cX4_anyFails 39 = .ok (.getfield 26, 3) := by decide +kernel
theorem dX4_anyFails_42 : decode cX4_anyFails 42 = .ok (.getfield 170, 3) := by decide +kernel
theorem dX4_anyFails_45 : decode cX4_anyFails 45 = .ok (.if_icmp .le 5, 3) := by decide +kernel
theorem dX4_anyFails_48 : decode cX4_anyFails 48 = .ok (.iconst 1, 1) := by decide +kernel
theorem dX4_anyFails_49 : decode cX4_anyFails 49 = .ok (.ireturn, 1) := by decide +kernel
theorem dX4_anyFails_50 : decode cX4_anyFails 50 = .ok (.iinc 3 1, 3) := by decide +kernel
theorem dX4_anyFails_53 : decode cX4_anyFails 53 = .ok (.goto (-40), 3) := by decide +kernel
theorem dX4_anyFails_56 : decode cX4_anyFails 56 = .ok (.iconst 0, 1) := by decide +kernel
theorem dX4_anyFails_57 : decode cX4_anyFails 57 = .ok (.ireturn, 1) := by decide +kernel
theorem dX4_commonWithTen_0 : decode cX4_commonWithTen 0 = .ok (.iload_n 0, 1) := by decide +kernel
theorem dX4_commonWithTen_1 : decode cX4_commonWithTen 1 = .ok (.iconst 2, 1) := by decide +kernel
theorem dX4_commonWithTen_2 : decode cX4_commonWithTen 2 = .ok (.irem, 1) := by decide +kernel
theorem dX4_commonWithTen_3 : decode cX4_commonWithTen 3 = .ok (.ifCond .ne 7, 3) := by decide +kernel
theorem dX4_commonWithTen_6 : decode cX4_commonWithTen 6 = .ok (.iconst 2, 1) := by decide +kernel
theorem dX4_commonWithTen_7 : decode cX4_commonWithTen 7 = .ok (.goto 4, 3) := by decide +kernel
theorem dX4_commonWithTen_10 : decode cX4_commonWithTen 10 = .ok (.iconst 1, 1) := by decide +kernel
theorem dX4_commonWithTen_11 : decode cX4_commonWithTen 11 = .ok (.iload_n 0, 1) := by decide +kernel
theorem dX4_commonWithTen_12 : decode cX4_commonWithTen 12 = .ok (.iconst 5, 1) := by decide +kernel
theorem dX4_commonWithTen_13 : decode cX4_commonWithTen 13 = .ok (.irem, 1) := by decide +kernel
theorem dX4_commonWithTen_14 : decode cX4_commonWithTen 14 = .ok (.ifCond .ne 7, 3) := by decide +kernel
theorem dX4_commonWithTen_17 : decode cX4_commonWithTen 17 = .ok (.iconst 5, 1) := by decide +kernel
theorem dX4_commonWithTen_18 : decode cX4_commonWithTen 18 = .ok (.goto 4, 3) := by decide +kernel
theorem dX4_commonWithTen_21 : decode cX4_commonWithTen 21 = .ok (.iconst 1, 1) := by decide +kernel
theorem dX4_commonWithTen_22 : decode cX4_commonWithTen 22 = .ok (.imul, 1) := by decide +kernel
theorem dX4_commonWithTen_23 : decode cX4_commonWithTen 23 = .ok (.ireturn, 1) := by decide +kernel
theorem dX5_init_0 : decode cX5_init 0 = .ok (.aload_n 0, 1) := by decide +kernel
theorem dX5_init_1 : decode cX5_init 1 = .ok (.invokespecial 1, 3) := by decide +kernel
theorem dX5_init_4 : decode cX5_init 4 = .ok (.aload_n 0, 1) := by decide +kernel
theorem dX5_init_5 : decode cX5_init 5 = .ok (.sipush 375, 3) := by decide +kernel
theorem dX5_init_8 : decode cX5_init 8 = .ok (.newarray .int, 2) := by decide +kernel
theorem dX5_init_10 : decode cX5_init 10 = .ok (.putfield 7, 3) := by decide +kernel
theorem dX5_init_13 : decode cX5_init 13 = .ok (.aload_n 0, 1) := by decide +kernel
theorem dX5_init_14 : decode cX5_init 14 = .ok (.iconst 2, 1) := by decide +kernel
theorem dX5_init_15 : decode cX5_init 15 = .ok (.newarray .boolean, 2) := by decide +kernel
theorem dX5_init_17 : decode cX5_init 17 = .ok (.putfield 13, 3) := by decide +kernel
theorem dX5_init_20 : decode cX5_init 20 = .ok (.aload_n 0, 1) := by decide +kernel
theorem dX5_init_21 : decode cX5_init 21 = .ok (.sipush 200, 3) := by decide +kernel
theorem dX5_init_24 : decode cX5_init 24 = .ok (.newarray .int, 2) := by decide +kernel
theorem dX5_init_26 : decode cX5_init 26 = .ok (.putfield 17, 3) := by decide +kernel
theorem dX5_init_29 : decode cX5_init 29 = .ok (.aload_n 0, 1) := by decide +kernel
theorem dX5_init_30 : decode cX5_init 30 = .ok (.bipush 48, 2) := by decide +kernel
theorem dX5_init_32 : decode cX5_init 32 = .ok (.newarray .int, 2) := by decide +kernel
theorem dX5_init_34 : decode cX5_init 34 = .ok (.putfield 20, 3) := by decide +kernel
theorem dX5_init_37 : decode cX5_init 37 = .ok (.aload_n 0, 1) := by decide +kernel
theorem dX5_init_38 : decode cX5_init 38 = .ok (.bipush 6, 2) := by decide +kernel
theorem dX5_init_40 : decode cX5_init 40 = .ok (.newarray .int, 2) := by decide +kernel
theorem dX5_init_42 : decode cX5_init 42 = .ok (.putfield 23, 3) := by decide +kernel
theorem dX5_init_45 : decode cX5_init 45 = .ok (.aload_n 0, 1) := by decide +kernel
theorem dX5_init_46 : decode cX5_init 46 = .ok (.bipush 6, 2) := by decide +kernel
theorem dX5_init_48 : decode cX5_init 48 = .ok (.newarray .int, 2) := by decide +kernel
theorem dX5_init_50 : decode cX5_init 50 = .ok (.putfield 26, 3) := by decide +kernel
theorem dX5_init_53 : decode cX5_init 53 = .ok (.aload_n 0, 1) := by decide +kernel
theorem dX5_init_54 : decode cX5_init 54 = .ok (.bipush 6, 2) := by decide +kernel
theorem dX5_init_56 : decode cX5_init 56 = .ok (.newarray .int, 2) := by decide +kernel
theorem dX5_init_58 : decode cX5_init 58 = .ok (.putfield 29, 3) := by decide +kernel
theorem dX5_init_61 : decode cX5_init 61 = .ok (.aload_n 0, 1) := by decide +kernel
theorem dX5_init_62 : decode cX5_init 62 = .ok (.bipush 6, 2) := by decide +kernel
theorem dX5_init_64 : decode cX5_init 64 = .ok (.newarray .int, 2) := by decide +kernel
theorem dX5_init_66 : decode cX5_init 66 = .ok (.putfield 32, 3) := by decide +kernel
theorem dX5_init_69 : decode cX5_init 69 = .ok (.aload_n 0, 1) := by decide +kernel
theorem dX5_init_70 : decode cX5_init 70 = .ok (.bipush 12, 2) := by decide +kernel
theorem dX5_init_72 : decode cX5_init 72 = .ok (.newarray .int, 2) := by decide +kernel
theorem dX5_init_74 : decode cX5_init 74 = .ok (.putfield 35, 3) := by decide +kernel
theorem dX5_init_77 : decode cX5_init 77 = .ok (.aload_n 0, 1) := by decide +kernel
theorem dX5_init_78 : decode cX5_init 78 = .ok (.iconst 5, 1) := by decide +kernel
theorem dX5_init_79 : decode cX5_init 79 = .ok (.putfield 38, 3) := by decide +kernel
theorem dX5_init_82 : decode cX5_init 82 = .ok (.aload_n 0, 1) := by decide +kernel
theorem dX5_init_83 : decode cX5_init 83 = .ok (.sipush 600, 3) := by decide +kernel
theorem dX5_init_86 : decode cX5_init 86 = .ok (.newarray .int, 2) := by decide +kernel
theorem dX5_init_88 : decode cX5_init 88 = .ok (.putfield 42, 3) := by decide +kernel
theorem dX5_init_91 : decode cX5_init 91 = .ok (.aload_n 0, 1) := by decide +kernel
theorem dX5_init_92 : decode cX5_init 92 = .ok (.sipush 700, 3) := by decide +kernel
theorem dX5_init_95 : decode cX5_init 95 = .ok (.newarray .int, 2) := by decide +kernel
theorem dX5_init_97 : decode cX5_init 97 = .ok (.putfield 45, 3) := by decide +kernel
theorem dX5_init_100 : decode cX5_init 100 = .ok (.return_, 1) := by decide +kernel
theorem dX5_in_0 : decode cX5_in 0 = .ok (.lload_n 0, 1) := by decide +kernel
theorem dX5_in_1 : decode cX5_in 1 = .ok (.lload_n 2, 1) := by decide +kernel
theorem dX5_in_2 : decode cX5_in 2 = .ok (.lcmp, 1) := by decide +kernel
theorem dX5_in_3 : decode cX5_in 3 = .ok (.ifCond .lt 14, 3) := by decide +kernel
theorem dX5_in_6 : decode cX5_in 6 = .ok (.lload_n 0, 1) := by decide +kernel
theorem dX5_in_7 : decode cX5_in 7 = .ok (.lload 4, 2) := by decide +kernel
theorem dX5_in_9 : decode cX5_in 9 = .ok (.lcmp, 1) := by decide +kernel
theorem dX5_in_10 : decode cX5_in 10 = .ok (.ifCond .gt 7, 3) := by decide +kernel
theorem dX5_in_13 : decode cX5_in 13 = .ok (.iconst 1, 1) := by decide +kernel
theorem dX5_in_14 : decode cX5_in 14 = .ok (.goto 4, 3) := by decide +kernel
theorem dX5_in_17 : decode cX5_in 17 = .ok (.iconst 0, 1) := by decide +kernel
theorem dX5_in_18 : decode cX5_in 18 = .ok (.ireturn, 1) := by decide +kernel
theorem dX5_copy_0 : decode cX5_copy 0 = .ok (.iconst 0, 1) := by decide +kernel
theorem dX5_copy_1 : decode cX5_copy 1 = .ok (.istore_n 3, 1) := by decide +kernel
theorem dX5_copy_2 : decode cX5_copy 2 = .ok (.iload_n 3, 1) := by decide +kernel
theorem dX5_copy_3 : decode cX5_copy 3 = .ok (.bipush 75, 2) := by decide +kernel
theorem dX5_copy_5 : decode cX5_copy 5 = .ok (.if_icmp .ge 25, 3) := by decide +kernel
theorem dX5_copy_8 : decode cX5_copy 8 = .ok (.aload_n 0, 1) := by decide +kernel
theorem dX5_copy_9 : decode cX5_copy 9 = .ok (.getfield 7, 3) := by decide +kernel
theorem dX5_copy_12 : decode cX5_copy 12 = .ok (.iload_n 2, 1) := by decide +kernel
theorem dX5_copy_13 : decode cX5_copy 13 = .ok (.iload_n 3, 1) := by decide +kernel
theorem dX5_copy_14 : decode cX5_copy 14 = .ok (.iadd, 1) := by decide +kernel
theorem dX5_copy_15 : decode cX5_copy 15 = .ok (.aload_n 0, 1) := by decide +kernel
theorem dX5_copy_16 : decode cX5_copy 16 = .ok (.getfield 7, 3) := by decide +kernel
theorem dX5_copy_19 : decode cX5_copy 19 = .ok (.iload_n 1, 1) := by decide +kernel
theorem dX5_copy_20 : decode cX5_copy 20 = .ok (.iload_n 3, 1) := by decide +kernel
theorem dX5_copy_21 : decode cX5_copy 21 = .ok (.iadd, 1) := by decide +kernel
theorem dX5_copy_22 : decode cX5_copy 22 = .ok (.iaload, 1) := by decide +kernel
theorem dX5_copy_23 : decode cX5_copy 23 = .ok (.iastore, 1) := by decide +kernel
theorem dX5_copy_24 : decode cX5_copy 24 = .ok (.iinc 3 1, 3) := by decide +kernel
theorem dX5_copy_27 : decode cX5_copy 27 = .ok (.goto (-25), 3) := by decide +kernel
theorem dX5_copy_30 : decode cX5_copy 30 = .ok (.return_, 1) := by decide +kernel
set_option maxRecDepth 20000 in
theorem ggX5_write_X5_in : GoodIn wsX5_write wsX5_in := goodIn_sub (List.forall_mem_cons.mpr ⟨List.mem_cons_of_mem _ (List.mem_append_left _ (List.mem_of_getElem? (i := 7) rfl)), (fun _ h => absurd h List.not_mem_nil)⟩) (by decide +kernel)
set_option maxRecDepth 20000 in
theorem gX5_write_X5_in : GoodIn wsX5_write (va_wsS RX5 50 yX5_in wsX5_in) := goodIn_app (goodIn_sub (List.forall_mem_cons.mpr ⟨List.mem_cons_of_mem _ (List.mem_append_left _ (List.mem_of_getElem? (i := 4) rfl)), List.forall_mem_cons.mpr ⟨List.mem_cons_of_mem _ (List.mem_append_left _ (List.mem_of_getElem? (i := 5) rfl)), List.forall_mem_cons.mpr ⟨List.mem_cons_of_mem _ (List.mem_append_left _ (List.mem_of_getElem? (i := 6) rfl)), (fun _ h => absurd h List.not_mem_nil)⟩⟩⟩) (by decide +kernel)) ggX5_write_X5_in
theorem dX5_write_0 : decode cX5_write 0 = .ok (.iload_n 3, 1) := by decide +kernel
theorem dX5_write_1 : decode cX5_write 1 = .ok (.i2l, 1) := by decide +kernel
theorem dX5_write_2 : decode cX5_write 2 = .ok (.lconst 1, 1) := by decide +kernel
theorem dX5_write_3 : decode cX5_write 3 = .ok (.ldc2_w 48, 3) := by decide +kernel
theorem dX5_write_6 : decode cX5_write 6 = .ok (.invokestatic 50, 3) := by decide +kernel
theorem dX5_write_9 : decode cX5_write 9 = .ok (.ifCond .ne 6, 3) := by decide +kernel
theorem dX5_write_12 : decode cX5_write 12 = .ok (.bipush (-3), 2) := by decide +kernel
theorem dX5_write_14 : decode cX5_write 14 = .ok (.ireturn, 1) := by decide +kernel
theorem dX5_write_15 : decode cX5_write 15 = .ok (.aload_n 0, 1) := by decide +kernel
theorem dX5_write_16 : decode cX5_write 16 = .ok (.getfield 54, 3) := by decide +kernel
theorem dX5_write_19 : decode cX5_write 19 = .ok (.iload_n 3, 1) := by decide +kernel
theorem dX5_write_20 : decode cX5_write 20 = .ok (.iadd, 1) := by decide +kernel
theorem dX5_write_21 : decode cX5_write 21 = .ok (.sipush 200, 3) := by decide +kernel
theorem dX5_write_24 : decode cX5_write 24 = .ok (.if_icmp .le 6, 3) := by decide +kernel
theorem dX5_write_27 : decode cX5_write 27 = .ok (.bipush (-5), 2) := by decide +kernel
theorem dX5_write_29 : decode cX5_write 29 = .ok (.ireturn, 1) := by decide +kernel
theorem dX5_write_30 : decode cX5_write 30 = .ok (.iconst 0, 1) := by decide +kernel
theorem dX5_write_31 : decode cX5_write 31 = .ok (.istore 4, 2) := by decide +kernel
theorem dX5_write_33 : decode cX5_write 33 = .ok (.iload 4, 2) := by decide +kernel
theorem dX5_write_35 : decode cX5_write 35 = .ok (.iload_n 3, 1) := by decide +kernel
theorem dX5_write_36 : decode cX5_write 36 = .ok (.if_icmp .ge 40, 3) := by decide +kernel
theorem dX5_write_39 : decode cX5_write 39 = .ok (.aload_n 0, 1) := by decide +kernel
theorem dX5_write_40 : decode cX5_write 40 = .ok (.getfield 17, 3) := by decide +kernel
theorem dX5_write_43 : decode cX5_write 43 = .ok (.aload_n 0, 1) := by decide +kernel
theorem dX5_write_44 : decode cX5_write 44 = .ok (.getfield 54, 3) := by decide +kernel
theorem dX5_write_47 : decode cX5_write 47 = .ok (.lload_n 1, 1) := by decide +kernel
theorem dX5_write_48 : decode cX5_write 48 = .ok (.bipush 8, 2) := by decide +kernel
theorem dX5_write_50 : decode cX5_write 50 = .ok (.iload 4, 2) := by decide +kernel
theorem dX5_write_52 : decode cX5_write 52 = .ok (.imul, 1) := by decide +kernel
theorem dX5_write_53 : decode cX5_write 53 = .ok (.lshr, 1) := by decide +kernel
theorem dX5_write_54 : decode cX5_write 54 = .ok (.ldc2_w 57, 3) := by decide +kernel
theorem dX5_write_57 : decode cX5_write 57 = .ok (.land, 1) := by decide +kernel
theorem dX5_write_58 : decode cX5_write 58 = .ok (.l2i, 1) := by decide +kernel
theorem dX5_write_59 : decode cX5_write 59 = .ok (.iastore, 1) := by decide +kernel
theorem dX5_write_60 : decode cX5_write 60 = .ok (.aload_n 0, 1) := by decide +kernel
theorem dX5_write_61 : decode cX5_write 61 = .ok (.dup, 1) := by decide +kernel
theorem dX5_write_62 : decode cX5_write 62 = .ok (.getfield 54, 3) := by decide +kernel
theorem dX5_write_65 : decode cX5_write 65 = .ok (.iconst 1, 1) := by decide +kernel
theorem dX5_write_66 : decode cX5_write 66 = .ok (.iadd, 1) := by decide +kernel
theorem dX5_write_67 : decode cX5_write 67 = .ok (.putfield 54, 3) := by decide +kernel
theorem dX5_write_70 : decode cX5_write 70 = .ok (.iinc 4 1, 3) := by decide +kernel
theorem dX5_write_73 : decode cX5_write 73 = .ok (.goto (-40), 3) := by decide +kernel
theorem dX5_write_76 : decode cX5_write 76 = .ok (.aload_n 0, 1) := by decide +kernel
theorem dX5_write_77 : decode cX5_write 77 = .ok (.getfield 54, 3) := by decide +kernel
theorem dX5_write_80 : decode cX5_write 80 = .ok (.ireturn, 1) := by decide +kernel
theorem dX5_erase_0 : decode cX5_erase 0 = .ok (.aload_n 0, 1) := by decide +kernel
theorem dX5_erase_1 : decode cX5_erase 1 = .ok (.getfield 54, 3) := by decide +kernel
theorem dX5_erase_4 : decode cX5_erase 4 = .ok (.istore_n 1, 1) := by decide +kernel
theorem dX5_erase_5 : decode cX5_erase 5 = .ok (.aload_n 0, 1) := by decide +kernel
theorem dX5_erase_6 : decode cX5_erase 6 = .ok (.iconst 0, 1) := by decide +kernel
theorem dX5_erase_7 : decode cX5_erase 7 = .ok (.putfield 54, 3) := by decide +kernel
theorem dX5_erase_10 : decode cX5_erase 10 = .ok (.iload_n 1, 1) := by decide +kernel
theorem dX5_erase_11 : decode cX5_erase 11 = .ok (.ireturn, 1) := by decide +kernel
theorem dX5_sort_0 : decode cX5_sort 0 = .ok (.iload_n 0, 1) := by decide +kernel
theorem dX5_sort_1 : decode cX5_sort 1 = .ok (.bipush 97, 2) := by decide +kernel
theorem dX5_sort_3 : decode cX5_sort 3 = .ok (.if_icmp .lt 13, 3) := by decide +kernel
theorem dX5_sort_6 : decode cX5_sort 6 = .ok (.iload_n 0, 1) := by decide +kernel
theorem dX5_sort_7 : decode cX5_sort 7 = .ok (.bipush 122, 2) := by decide +kernel
theorem dX5_sort_9 : decode cX5_sort 9 = .ok (.if_icmp .gt 7, 3) := by decide +kernel
theorem dX5_sort_12 : decode cX5_sort 12 = .ok (.iconst 1, 1) := by decide +kernel
theorem dX5_sort_13 : decode cX5_sort 13 = .ok (.goto 20, 3) := by decide +kernel
theorem dX5_sort_16 : decode cX5_sort 16 = .ok (.iload_n 0, 1) := by decide +kernel
theorem dX5_sort_17 : decode cX5_sort 17 = .ok (.bipush 48, 2) := by decide +kernel
theorem dX5_sort_19 : decode cX5_sort 19 = .ok (.if_icmp .lt 13, 3) := by decide +kernel
theorem dX5_sort_22 : decode cX5_sort 22 = .ok (.iload_n 0, 1) := by decide +kernel
theorem dX5_sort_23 : decode cX5_sort 23 = .ok (.bipush 57, 2) := by decide +kernel
theorem dX5_sort_25 : decode cX5_sort 25 = .ok (.if_icmp .gt 7, 3) := by decide +kernel
theorem dX5_sort_28 : decode cX5_sort 28 = .ok (.iconst 2, 1) := by decide +kernel
theorem dX5_sort_29 : decode cX5_sort 29 = .ok (.goto 4, 3) := by decide +kernel
theorem dX5_sort_32 : decode cX5_sort 32 = .ok (.iconst 0, 1) := by decide +kernel
theorem dX5_sort_33 : decode cX5_sort 33 = .ok (.ireturn, 1) := by decide +kernel
set_option maxRecDepth 20000 in
theorem ggX5_token_X5_sort : GoodIn wsX5_token wsX5_sort := goodIn_sub (List.forall_mem_cons.mpr ⟨List.mem_cons_of_mem _ (List.mem_append_left _ (List.mem_of_getElem? (i := 8) rfl)), (fun _ h => absurd h List.not_mem_nil)⟩) (by decide +kernel)
set_option maxRecDepth 20000 in
theorem gX5_token_X5_sort : GoodIn wsX5_token (va_wsS RX5 65 yX5_sort wsX5_sort) := goodIn_app (goodIn_sub (List.forall_mem_cons.mpr ⟨List.mem_cons_of_mem _ (List.mem_append_left _ (List.mem_of_getElem? (i := 5) rfl)), List.forall_mem_cons.mpr ⟨List.mem_cons_of_mem _ (List.mem_append_left _ (List.mem_of_getElem? (i := 6) rfl)), List.forall_mem_cons.mpr ⟨List.mem_cons_of_mem _ (List.mem_append_left _ (List.mem_of_getElem? (i := 7) rfl)), (fun _ h => absurd h List.not_mem_nil)⟩⟩⟩) (by decide +kernel)) ggX5_token_X5_sort
theorem dX5_token_0 : decode cX5_token 0 = .ok (.aload_n 0, 1) := by decide +kernel
theorem dX5_token_1 : decode cX5_token 1 = .ok (.getfield 59, 3) := by decide +kernel
theorem dX5_token_4 : decode cX5_token 4 = .ok (.aload_n 0, 1) := by decide +kernel
theorem dX5_token_5 : decode cX5_token 5 = .ok (.getfield 54, 3) := by decide +kernel
theorem dX5_token_8 : decode cX5_token 8 = .ok (.if_icmp .ge 30, 3) := by decide +kernel
theorem dX5_token_11 : decode cX5_token 11 = .ok (.aload_n 0, 1) := by decide +kernel
theorem dX5_token_12 : decode cX5_token 12 = .ok (.getfield 17, 3) := by decide +kernel
theorem dX5_token_15 : decode cX5_token 15 = .ok (.aload_n 0, 1) := by decide +kernel
theorem dX5_token_16 : decode cX5_token 16 = .ok (.getfield 59, 3) := by decide +kernel
theorem dX5_token_19 : decode cX5_token 19 = .ok (.iaload, 1) := by decide +kernel
theorem dX5_token_20 : decode cX5_token 20 = .ok (.bipush 32, 2) := by decide +kernel
theorem dX5_token_22 : decode cX5_token 22 = .ok (.if_icmp .ne 16, 3) := by decide +kernel
theorem dX5_token_25 : decode cX5_token 25 = .ok (.aload_n 0, 1) := by decide +kernel
theorem dX5_token_26 : decode cX5_token 26 = .ok (.dup, 1) := by decide +kernel
theorem dX5_token_27 : decode cX5_token 27 = .ok (.getfield 59, 3) := by decide +kernel
theorem dX5_token_30 : decode cX5_token 30 = .ok (.iconst 1, 1) := by decide +kernel
theorem dX5_token_31 : decode cX5_token 31 = .ok (.iadd, 1) := by decide +kernel
theorem dX5_token_32 : decode cX5_token 32 = .ok (.putfield 59, 3) := by decide +kernel
theorem dX5_token_35 : decode cX5_token 35 = .ok (.goto (-35), 3) := by decide +kernel
theorem dX5_token_38 : decode cX5_token 38 = .ok (.aload_n 0, 1) := by decide +kernel
theorem dX5_token_39 : decode cX5_token 39 = .ok (.aload_n 0, 1) := by decide +kernel
theorem dX5_token_40 : decode cX5_token 40 = .ok (.getfield 59, 3) := by decide +kernel
theorem dX5_token_43 : decode cX5_token 43 = .ok (.putfield 62, 3) := by decide +kernel
theorem dX5_token_46 : decode cX5_token 46 = .ok (.aload_n 0, 1) := by decide +kernel
theorem dX5_token_47 : decode cX5_token 47 = .ok (.dup, 1) := by decide +kernel
theorem dX5_token_48 : decode cX5_token 48 = .ok (.getfield 59, 3) := by decide +kernel
theorem dX5_token_51 : decode cX5_token 51 = .ok (.aload_n 0, 1) := by decide +kernel
theorem dX5_token_52 : decode cX5_token 52 = .ok (.getfield 59, 3) := by decide +kernel
theorem dX5_token_55 : decode cX5_token 55 = .ok (.aload_n 0, 1) := by decide +kernel
theorem dX5_token_56 : decode cX5_token 56 = .ok (.getfield 54, 3) := by decide +kernel
theorem dX5_token_59 : decode cX5_token 59 = .ok (.if_icmp .ge 7, 3) := by decide +kernel
theorem dX5_token_62 : decode cX5_token 62 = .ok (.iconst 1, 1) := by decide +kernel
theorem dX5_token_63 : decode cX5_token 63 = .ok (.goto 4, 3) := by decide +kernel
theorem dX5_token_66 : decode cX5_token 66 = .ok (.iconst 0, 1) := by decide +kernel
theorem dX5_token_67 : decode cX5_token 67 = .ok (.iadd, 1) := by decide +kernel
theorem dX5_token_68 : decode cX5_token 68 = .ok (.putfield 59, 3) := by decide +kernel
theorem dX5_token_71 : decode cX5_token 71 = .ok (.aload_n 0, 1) := by decide +kernel
theorem dX5_token_72 : decode cX5_token 72 = .ok (.getfield 59, 3) := by decide +kernel
theorem dX5_token_75 : decode cX5_token 75 = .ok (.aload_n 0, 1) := by decide +kernel
theorem dX5_token_76 : decode cX5_token 76 = .ok (.getfield 54, 3) := by decide +kernel
theorem dX5_token_79 : decode cX5_token 79 = .ok (.if_icmp .ge 58, 3) := by decide +kernel
theorem dX5_token_82 : decode cX5_token 82 = .ok (.aload_n 0, 1) := by decide +kernel
theorem dX5_token_83 : decode cX5_token 83 = .ok (.getfield 17, 3) := by decide +kernel
theorem dX5_token_86 : decode cX5_token 86 = .ok (.aload_n 0, 1) := by decide +kernel
theorem dX5_token_87 : decode cX5_token 87 = .ok (.getfield 62, 3) := by decide +kernel
theorem dX5_token_90 : decode cX5_token 90 = .ok (.iaload, 1) := by decide +kernel
theorem dX5_token_91 : decode cX5_token 91 = .ok (.invokestatic 65, 3) := by decide +kernel
theorem dX5_token_94 : decode cX5_token 94 = .ok (.ifCond .le 43, 3) := by decide +kernel
theorem dX5_token_97 : decode cX5_token 97 = .ok (.aload_n 0, 1) := by decide +kernel
theorem dX5_token_98 : decode cX5_token 98 = .ok (.getfield 17, 3) := by decide +kernel
theorem dX5_token_101 : decode cX5_token 101 = .ok (.aload_n 0, 1) := by decide +kernel
theorem dX5_token_102 : decode cX5_token 102 = .ok (.getfield 59, 3) := by decide +kernel
theorem dX5_token_105 : decode cX5_token 105 = .ok (.iaload, 1) := by decide +kernel
theorem dX5_token_106 : decode cX5_token 106 = .ok (.invokestatic 65, 3) := by decide +kernel
theorem dX5_token_109 : decode cX5_token 109 = .ok (.aload_n 0, 1) := by decide +kernel
theorem dX5_token_110 : decode cX5_token 110 = .ok (.getfield 17, 3) := by decide +kernel
theorem dX5_token_113 : decode cX5_token 113 = .ok (.aload_n 0, 1) := by decide +kernel
theorem dX5_token_114 : decode cX5_token 114 = .ok (.getfield 62, 3) := by decide +kernel
theorem dX5_token_117 : decode cX5_token 117 = .ok (.iaload, 1) := by decide +kernel
theorem dX5_token_118 : decode cX5_token 118 = .ok (.invokestatic 65, 3) := by decide +kernel
theorem dX5_token_121 : decode cX5_token 121 = .ok (.if_icmp .ne 16, 3) := by decide +kernel
theorem dX5_token_124 : decode cX5_token 124 = .ok (.aload_n 0, 1) := by decide +kernel
theorem dX5_token_125 : decode cX5_token 125 = .ok (.dup, 1) := by decide +kernel
theorem dX5_token_126 : decode cX5_token 126 = .ok (.getfield 59, 3) := by decide +kernel
theorem dX5_token_129 : decode cX5_token 129 = .ok (.iconst 1, 1) := by decide +kernel
theorem dX5_token_130 : decode cX5_token 130 = .ok (.iadd, 1) := by decide +kernel
theorem dX5_token_131 : decode cX5_token 131 = .ok (.putfield 59, 3) := by decide +kernel
theorem dX5_token_134 : decode cX5_token 134 = .ok (.goto (-63), 3) := by decide +kernel
theorem dX5_token_137 : decode cX5_token 137 = .ok (.aload_n 0, 1) := by decide +kernel
theorem dX5_token_138 : decode cX5_token 138 = .ok (.aload_n 0, 1) := by decide +kernel
theorem dX5_token_139 : decode cX5_token 139 = .ok (.getfield 59, 3) := by decide +kernel
theorem dX5_token_142 : decode cX5_token 142 = .ok (.putfield 69, 3) := by decide +kernel
theorem dX5_token_145 : decode cX5_token 145 = .ok (.return_, 1) := by decide +kernel
theorem dX5_isWord_0 : decode cX5_isWord 0 = .ok (.aload_n 0, 1) := by decide +kernel
theorem dX5_isWord_1 : decode cX5_isWord 1 = .ok (.getfield 69, 3) := by decide +kernel
theorem dX5_isWord_4 : decode cX5_isWord 4 = .ok (.aload_n 0, 1) := by decide +kernel
theorem dX5_isWord_5 : decode cX5_isWord 5 = .ok (.getfield 62, 3) := by decide +kernel
theorem dX5_isWord_8 : decode cX5_isWord 8 = .ok (.isub, 1) := by decide +kernel
theorem dX5_isWord_9 : decode cX5_isWord 9 = .ok (.iload_n 3, 1) := by decide +kernel
theorem dX5_isWord_10 : decode cX5_isWord 10 = .ok (.if_icmp .ne 7, 3) := by decide +kernel
theorem dX5_isWord_13 : decode cX5_isWord 13 = .ok (.iconst 1, 1) := by decide +kernel
theorem dX5_isWord_14 : decode cX5_isWord 14 = .ok (.goto 4, 3) := by decide +kernel
theorem dX5_isWord_17 : decode cX5_isWord 17 = .ok (.iconst 0, 1) := by decide +kernel
theorem dX5_isWord_18 : decode cX5_isWord 18 = .ok (.istore 4, 2) := by decide +kernel
theorem dX5_isWord_20 : decode cX5_isWord 20 = .ok (.iconst 0, 1) := by decide +kernel
theorem dX5_isWord_21 : decode cX5_isWord 21 = .ok (.istore 5, 2) := by decide +kernel
theorem dX5_isWord_23 : decode cX5_isWord 23 = .ok (.iload 4, 2) := by decide +kernel
theorem dX5_isWord_25 : decode cX5_isWord 25 = .ok (.ifCond .eq 71, 3) := by decide +kernel
theorem dX5_isWord_28 : decode cX5_isWord 28 = .ok (.iload 5, 2) := by decide +kernel
theorem dX5_isWord_30 : decode cX5_isWord 30 = .ok (.iload_n 3, 1) := by decide +kernel
theorem dX5_isWord_31 : decode cX5_isWord 31 = .ok (.if_icmp .ge 65, 3) := by decide +kernel
theorem dX5_isWord_34 : decode cX5_isWord 34 = .ok (.aload_n 0, 1) := by decide +kernel
theorem dX5_isWord_35 : decode cX5_isWord 35 = .ok (.getfield 17, 3) := by decide +kernel
theorem dX5_isWord_38 : decode cX5_isWord 38 = .ok (.aload_n 0, 1) := by decide +kernel
theorem dX5_isWord_39 : decode cX5_isWord 39 = .ok (.getfield 62, 3) := by decide +kernel
theorem dX5_isWord_42 : decode cX5_isWord 42 = .ok (.iload 5, 2) := by decide +kernel
theorem dX5_isWord_44 : decode cX5_isWord 44 = .ok (.iadd, 1) := by decide +kernel
theorem dX5_isWord_45 : decode cX5_isWord 45 = .ok (.iaload, 1) := by decide +kernel
theorem dX5_isWord_46 : decode cX5_isWord 46 = .ok (.bipush 96, 2) := by decide +kernel
theorem dX5_isWord_48 : decode cX5_isWord 48 = .ok (.iload 5, 2) := by decide +kernel
theorem dX5_isWord_50 : decode cX5_isWord 50 = .ok (.bipush 6, 2) := by decide +kernel
theorem dX5_isWord_52 : decode cX5_isWord 52 = .ok (.if_icmp .ge 15, 3) := by decide +kernel
theorem dX5_isWord_55 : decode cX5_isWord 55 = .ok (.iload_n 1, 1) := by decide +kernel
theorem dX5_isWord_56 : decode cX5_isWord 56 = .ok (.iconst 5, 1) := by decide +kernel
theorem dX5_isWord_57 : decode cX5_isWord 57 = .ok (.iload 5, 2) := by decide +kernel
theorem dX5_isWord_59 : decode cX5_isWord 59 = .ok (.imul, 1) := by decide +kernel
theorem dX5_isWord_60 : decode cX5_isWord 60 = .ok (.ishr, 1) := by decide +kernel
theorem dX5_isWord_61 : decode cX5_isWord 61 = .ok (.bipush 31, 2) := by decide +kernel
theorem dX5_isWord_63 : decode cX5_isWord 63 = .ok (.iand, 1) := by decide +kernel
theorem dX5_isWord_64 : decode cX5_isWord 64 = .ok (.goto 15, 3) := by decide +kernel
theorem dX5_isWord_67 : decode cX5_isWord 67 = .ok (.iload_n 2, 1) := by decide +kernel
theorem dX5_isWord_68 : decode cX5_isWord 68 = .ok (.iconst 5, 1) := by decide +kernel
theorem dX5_isWord_69 : decode cX5_isWord 69 = .ok (.iload 5, 2) := by decide +kernel
theorem dX5_isWord_71 : decode cX5_isWord 71 = .ok (.bipush 6, 2) := by decide +kernel
theorem dX5_isWord_73 : decode cX5_isWord 73 = .ok (.isub, 1) := by decide +kernel
theorem dX5_isWord_74 : decode cX5_isWord 74 = .ok (.imul, 1) := by decide +kernel
theorem dX5_isWord_75 : decode cX5_isWord 75 = .ok (.ishr, 1) := by decide +kernel
theorem dX5_isWord_76 : decode cX5_isWord 76 = .ok (.bipush 31, 2) := by decide +kernel
theorem dX5_isWord_78 : decode cX5_isWord 78 = .ok (.iand, 1) := by decide +kernel
theorem dX5_isWord_79 : decode cX5_isWord 79 = .ok (.iadd, 1) := by decide +kernel
theorem dX5_isWord_80 : decode cX5_isWord 80 = .ok (.if_icmp .ne 7, 3) := by decide +kernel
theorem dX5_isWord_83 : decode cX5_isWord 83 = .ok (.iconst 1, 1) := by decide +kernel
theorem dX5_isWord_84 : decode cX5_isWord 84 = .ok (.goto 4, 3) := by decide +kernel
theorem dX5_isWord_87 : decode cX5_isWord 87 = .ok (.iconst 0, 1) := by decide +kernel
theorem dX5_isWord_88 : decode cX5_isWord 88 = .ok (.istore 4, 2) := by decide +kernel
theorem dX5_isWord_90 : decode cX5_isWord 90 = .ok (.iinc 5 1, 3) := by decide +kernel
theorem dX5_isWord_93 : decode cX5_isWord 93 = .ok (.goto (-70), 3) := by decide +kernel
theorem dX5_isWord_96 : decode cX5_isWord 96 = .ok (.iload 4, 2) := by decide +kernel
theorem dX5_isWord_98 : decode cX5_isWord 98 = .ok (.ireturn, 1) := by decide +kernel
set_option maxRecDepth 20000 in
theorem ggX5_treeWord_X5_isWord : GoodIn wsX5_treeWord wsX5_isWord := goodIn_sub (List.forall_mem_cons.mpr ⟨List.mem_cons_of_mem _ (List.mem_append_left _ (List.mem_of_getElem? (i := 7) rfl)), List.forall_mem_append.mpr ⟨List.forall_mem_cons.mpr ⟨List.mem_cons_of_mem _ (List.mem_append_left _ (List.mem_of_getElem? (i := 8) rfl)), List.forall_mem_cons.mpr ⟨List.mem_cons_of_mem _ (List.mem_append_left _ (List.mem_of_getElem? (i := 9) rfl)), List.forall_mem_cons.mpr ⟨List.mem_cons_of_mem _ (List.mem_append_left _ (List.mem_of_getElem? (i := 10) rfl)), (fun _ h => absurd h List.not_mem_nil)⟩⟩⟩, (fun _ h => List.mem_cons_of_mem _ (List.mem_append_right _ (h)))⟩⟩) (by decide +kernel)
set_option maxRecDepth 20000 in
theorem gX5_treeWord_X5_isWord : GoodIn wsX5_treeWord (wsV RX5 72 RX5 yX5_isWord wsX5_isWord) := goodIn_app (goodIn_sub (List.forall_mem_cons.mpr ⟨List.mem_cons_of_mem _ (List.mem_append_left _ (List.mem_of_getElem? (i := 3) rfl)), List.forall_mem_cons.mpr ⟨List.mem_cons_of_mem _ (List.mem_append_left _ (List.mem_of_getElem? (i := 4) rfl)), List.forall_mem_cons.mpr ⟨List.mem_cons_of_mem _ (List.mem_append_left _ (List.mem_of_getElem? (i := 5) rfl)), List.forall_mem_cons.mpr ⟨List.mem_cons_of_mem _ (List.mem_append_left _ (List.mem_of_getElem? (i := 6) rfl)), (fun _ h => absurd h List.not_mem_nil)⟩⟩⟩⟩) (by decide +kernel)) ggX5_treeWord_X5_isWord
theorem dX5_treeWord_0 : decode cX5_treeWord 0 = .ok (.aload_n 0, 1) := by decide +kernel
theorem dX5_treeWord_1 : decode cX5_treeWord 1 = .ok (.sipush 11311, 3) := by decide +kernel
theorem dX5_treeWord_4 : decode cX5_treeWord 4 = .ok (.iconst 0, 1) := by decide +kernel
theorem dX5_treeWord_5 : decode cX5_treeWord 5 = .ok (.iconst 3, 1) := by decide +kernel
theorem dX5_treeWord_6 : decode cX5_treeWord 6 = .ok (.invokevirtual 72, 3) := by decide +kernel
theorem dX5_treeWord_9 : decode cX5_treeWord 9 = .ok (.ifCond .eq 7, 3) := by decide +kernel
theorem dX5_treeWord_12 : decode cX5_treeWord 12 = .ok (.iconst 1, 1) := by decide +kernel
theorem dX5_treeWord_13 : decode cX5_treeWord 13 = .ok (.goto 50, 3) := by decide +kernel
theorem dX5_treeWord_16 : decode cX5_treeWord 16 = .ok (.aload_n 0, 1) := by decide +kernel
theorem dX5_treeWord_17 : decode cX5_treeWord 17 = .ok (.ldc 76, 2) := by decide +kernel
theorem dX5_treeWord_19 : decode cX5_treeWord 19 = .ok (.iconst 0, 1) := by decide +kernel
theorem dX5_treeWord_20 : decode cX5_treeWord 20 = .ok (.iconst 5, 1) := by decide +kernel
theorem dX5_treeWord_21 : decode cX5_treeWord 21 = .ok (.invokevirtual 72, 3) := by decide +kernel
theorem dX5_treeWord_24 : decode cX5_treeWord 24 = .ok (.ifCond .eq 7, 3) := by decide +kernel
theorem dX5_treeWord_27 : decode cX5_treeWord 27 = .ok (.iconst 2, 1) := by decide +kernel
theorem dX5_treeWord_28 : decode cX5_treeWord 28 = .ok (.goto 35, 3) := by decide +kernel
theorem dX5_treeWord_31 : decode cX5_treeWord 31 = .ok (.aload_n 0, 1) := by decide +kernel
theorem dX5_treeWord_32 : decode cX5_treeWord 32 = .ok (.ldc 77, 2) := by decide +kernel
theorem dX5_treeWord_34 : decode cX5_treeWord 34 = .ok (.iconst 0, 1) := by decide +kernel
theorem dX5_treeWord_35 : decode cX5_treeWord 35 = .ok (.iconst 4, 1) := by decide +kernel
theorem dX5_treeWord_36 : decode cX5_treeWord 36 = .ok (.invokevirtual 72, 3) := by decide +kernel
theorem dX5_treeWord_39 : decode cX5_treeWord 39 = .ok (.ifCond .eq 7, 3) := by decide +kernel
theorem dX5_treeWord_42 : decode cX5_treeWord 42 = .ok (.iconst 3, 1) := by decide +kernel
theorem dX5_treeWord_43 : decode cX5_treeWord 43 = .ok (.goto 20, 3) := by decide +kernel
theorem dX5_treeWord_46 : decode cX5_treeWord 46 = .ok (.aload_n 0, 1) := by decide +kernel
theorem dX5_treeWord_47 : decode cX5_treeWord 47 = .ok (.ldc 78, 2) := by decide +kernel
theorem dX5_treeWord_49 : decode cX5_treeWord 49 = .ok (.iconst 0, 1) := by decide +kernel
theorem dX5_treeWord_50 : decode cX5_treeWord 50 = .ok (.bipush 6, 2) := by decide +kernel
theorem dX5_treeWord_52 : decode cX5_treeWord 52 = .ok (.invokevirtual 72, 3) := by decide +kernel
theorem dX5_treeWord_55 : decode cX5_treeWord 55 = .ok (.ifCond .eq 7, 3) := by decide +kernel
theorem dX5_treeWord_58 : decode cX5_treeWord 58 = .ok (.iconst 4, 1) := by decide +kernel
theorem dX5_treeWord_59 : decode cX5_treeWord 59 = .ok (.goto 4, 3) := by decide +kernel
theorem dX5_treeWord_62 : decode cX5_treeWord 62 = .ok (.iconst (-1), 1) := by decide +kernel
theorem dX5_treeWord_63 : decode cX5_treeWord 63 = .ok (.ireturn, 1) := by decide +kernel
set_option maxRecDepth 20000 in
theorem ggX5_wordOf_X5_treeWord : GoodIn wsX5_wordOf wsX5_treeWord := goodIn_sub (List.forall_mem_cons.mpr ⟨List.mem_cons_of_mem _ (List.mem_append_left _ (List.mem_of_getElem? (i := 8) rfl)), List.forall_mem_append.mpr ⟨List.forall_mem_cons.mpr ⟨List.mem_cons_of_mem _ (List.mem_append_left _ (List.mem_of_getElem? (i := 9) rfl)), List.forall_mem_cons.mpr ⟨List.mem_cons_of_mem _ (List.mem_append_left _ (List.mem_of_getElem? (i := 10) rfl)), List.forall_mem_cons.mpr ⟨List.mem_cons_of_mem _ (List.mem_append_left _ (List.mem_of_getElem? (i := 11) rfl)), List.forall_mem_cons.mpr ⟨List.mem_cons_of_mem _ (List.mem_append_left _ (List.mem_of_getElem? (i := 12) rfl)), List.forall_mem_cons.mpr ⟨List.mem_cons_of_mem _ (List.mem_append_left _ (List.mem_of_getElem? (i := 13) rfl)), List.forall_mem_cons.mpr ⟨List.mem_cons_of_mem _ (List.mem_append_left _ (List.mem_of_getElem? (i := 14) rfl)), List.forall_mem_cons.mpr ⟨List.mem_cons_of_mem _ (List.mem_append_left _ (List.mem_of_getElem? (i := 7) rfl)), List.forall_mem_cons.mpr ⟨List.mem_cons_of_mem _ (List.mem_append_left _ (List.mem_of_getElem? (i := 15) rfl)), List.forall_mem_cons.mpr ⟨List.mem_cons_of_mem _ (List.mem_append_left _ (List.mem_of_getElem? (i := 16) rfl)), List.forall_mem_cons.mpr ⟨List.mem_cons_of_mem _ (List.mem_append_left _ (List.mem_of_getElem? (i := 17) rfl)), List.forall_mem_cons.mpr ⟨List.mem_cons_of_mem _ (List.mem_append_left _ (List.mem_of_getElem? (i := 18) rfl)), (fun _ h => absurd h List.not_mem_nil)⟩⟩⟩⟩⟩⟩⟩⟩⟩⟩⟩, (fun _ h => List.mem_cons_of_mem _ (List.mem_append_right _ (h)))⟩⟩) (by decide +kernel)
set_option maxRecDepth 20000 in
theorem gX5_wordOf_X5_treeWord : GoodIn wsX5_wordOf (wsV RX5 79 RX5 yX5_treeWord wsX5_treeWord) := goodIn_app (goodIn_sub (List.forall_mem_cons.mpr ⟨List.mem_cons_of_mem _ (List.mem_append_left _ (List.mem_of_getElem? (i := 4) rfl)), List.forall_mem_cons.mpr ⟨List.mem_cons_of_mem _ (List.mem_append_left _ (List.mem_of_getElem? (i := 5) rfl)), List.forall_mem_cons.mpr ⟨List.mem_cons_of_mem _ (List.mem_append_left _ (List.mem_of_getElem? (i := 6) rfl)), List.forall_mem_cons.mpr ⟨List.mem_cons_of_mem _ (List.mem_append_left _ (List.mem_of_getElem? (i := 7) rfl)), (fun _ h => absurd h List.not_mem_nil)⟩⟩⟩⟩) (by decide +kernel)) ggX5_wordOf_X5_treeWord
set_option maxRecDepth 20000 in
theorem ggX5_wordOf_X5_isWord : GoodIn wsX5_wordOf wsX5_isWord := goodIn_sub (List.forall_mem_cons.mpr ⟨List.mem_cons_of_mem _ (List.mem_append_left _ (List.mem_of_getElem? (i := 15) rfl)), List.forall_mem_append.mpr ⟨List.forall_mem_cons.mpr ⟨List.mem_cons_of_mem _ (List.mem_append_left _ (List.mem_of_getElem? (i := 16) rfl)), List.forall_mem_cons.mpr ⟨List.mem_cons_of_mem _ (List.mem_append_left _ (List.mem_of_getElem? (i := 17) rfl)), List.forall_mem_cons.mpr ⟨List.mem_cons_of_mem _ (List.mem_append_left _ (List.mem_of_getElem? (i := 18) rfl)), (fun _ h => absurd h List.not_mem_nil)⟩⟩⟩, (fun _ h => List.mem_cons_of_mem _ (List.mem_append_right _ (h)))⟩⟩) (by decide +kernel)
set_option maxRecDepth 20000 in
theorem gX5_wordOf_X5_isWord : GoodIn wsX5_wordOf (wsV RX5 72 RX5 yX5_isWord wsX5_isWord) := goodIn_app (goodIn_sub (List.forall_mem_cons.mpr ⟨List.mem_cons_of_mem _ (List.mem_append_left _ (List.mem_of_getElem? (i := 12) rfl)), List.forall_mem_cons.mpr ⟨List.mem_cons_of_mem _ (List.mem_append_left _ (List.mem_of_getElem? (i := 13) rfl)), List.forall_mem_cons.mpr ⟨List.mem_cons_of_mem _ (List.mem_append_left _ (List.mem_of_getElem? (i := 14) rfl)), List.forall_mem_cons.mpr ⟨List.mem_cons_of_mem _ (List.mem_append_left _ (List.mem_of_getElem? (i := 7) rfl)), (fun _ h => absurd h List.not_mem_nil)⟩⟩⟩⟩) (by decide +kernel)) ggX5_wordOf_X5_isWord
theorem dX5_wordOf_0 : decode cX5_wordOf 0 = .ok (.aload_n 0, 1) := by decide +kernel
theorem dX5_wordOf_1 : decode cX5_wordOf 1 = .ok (.invokevirtual 79, 3) := by decide +kernel
theorem dX5_wordOf_4 : decode cX5_wordOf 4 = .ok (.istore_n 1, 1) := by decide +kernel
theorem dX5_wordOf_5 : decode cX5_wordOf 5 = .ok (.iload_n 1, 1) := by decide +kernel
theorem dX5_wordOf_6 : decode cX5_wordOf 6 = .ok (.iconst (-1), 1) := by decide +kernel
theorem dX5_wordOf_7 : decode cX5_wordOf 7 = .ok (.if_icmp .eq 7, 3) := by decide +kernel
theorem dX5_wordOf_10 : decode cX5_wordOf 10 = .ok (.iload_n 1, 1) := by decide +kernel
theorem dX5_wordOf_11 : decode cX5_wordOf 11 = .ok (.goto 68, 3) := by decide +kernel
theorem dX5_wordOf_14 : decode cX5_wordOf 14 = .ok (.aload_n 0, 1) := by decide +kernel
theorem dX5_wordOf_15 : decode cX5_wordOf 15 = .ok (.ldc 83, 2) := by decide +kernel
theorem dX5_wordOf_17 : decode cX5_wordOf 17 = .ok (.iconst 0, 1) := by decide +kernel
theorem dX5_wordOf_18 : decode cX5_wordOf 18 = .ok (.iconst 4, 1) := by decide +kernel
theorem dX5_wordOf_19 : decode cX5_wordOf 19 = .ok (.invokevirtual 72, 3) := by decide +kernel
theorem dX5_wordOf_22 : decode cX5_wordOf 22 = .ok (.ifCond .eq 7, 3) := by decide +kernel
theorem dX5_wordOf_25 : decode cX5_wordOf 25 = .ok (.iconst 0, 1) := by decide +kernel
theorem dX5_wordOf_26 : decode cX5_wordOf 26 = .ok (.goto 53, 3) := by decide +kernel
theorem dX5_wordOf_29 : decode cX5_wordOf 29 = .ok (.aload_n 0, 1) := by decide +kernel
theorem dX5_wordOf_30 : decode cX5_wordOf 30 = .ok (.ldc 84, 2) := by decide +kernel
theorem dX5_wordOf_32 : decode cX5_wordOf 32 = .ok (.iconst 0, 1) := by decide +kernel
theorem dX5_wordOf_33 : decode cX5_wordOf 33 = .ok (.iconst 4, 1) := by decide +kernel
theorem dX5_wordOf_34 : decode cX5_wordOf 34 = .ok (.invokevirtual 72, 3) := by decide +kernel
theorem dX5_wordOf_37 : decode cX5_wordOf 37 = .ok (.ifCond .eq 7, 3) := by decide +kernel
theorem dX5_wordOf_40 : decode cX5_wordOf 40 = .ok (.iconst 5, 1) := by decide +kernel
theorem dX5_wordOf_41 : decode cX5_wordOf 41 = .ok (.goto 38, 3) := by decide +kernel
theorem dX5_wordOf_44 : decode cX5_wordOf 44 = .ok (.aload_n 0, 1) := by decide +kernel
theorem dX5_wordOf_45 : decode cX5_wordOf 45 = .ok (.ldc 85, 2) := by decide +kernel
theorem dX5_wordOf_47 : decode cX5_wordOf 47 = .ok (.bipush 12, 2) := by decide +kernel
theorem dX5_wordOf_49 : decode cX5_wordOf 49 = .ok (.bipush 7, 2) := by decide +kernel
theorem dX5_wordOf_51 : decode cX5_wordOf 51 = .ok (.invokevirtual 72, 3) := by decide +kernel
theorem dX5_wordOf_54 : decode cX5_wordOf 54 = .ok (.ifCond .eq 8, 3) := by decide +kernel
theorem dX5_wordOf_57 : decode cX5_wordOf 57 = .ok (.bipush 6, 2) := by decide +kernel
theorem dX5_wordOf_59 : decode cX5_wordOf 59 = .ok (.goto 20, 3) := by decide +kernel
theorem dX5_wordOf_62 : decode cX5_wordOf 62 = .ok (.aload_n 0, 1) := by decide +kernel
theorem dX5_wordOf_63 : decode cX5_wordOf 63 = .ok (.ldc 86, 2) := by decide +kernel
theorem dX5_wordOf_65 : decode cX5_wordOf 65 = .ok (.iconst 0, 1) := by decide +kernel
theorem dX5_wordOf_66 : decode cX5_wordOf 66 = .ok (.iconst 5, 1) := by decide +kernel
theorem dX5_wordOf_67 : decode cX5_wordOf 67 = .ok (.invokevirtual 72, 3) := by decide +kernel
theorem dX5_wordOf_70 : decode cX5_wordOf 70 = .ok (.ifCond .eq 8, 3) := by decide +kernel
theorem dX5_wordOf_73 : decode cX5_wordOf 73 = .ok (.bipush 7, 2) := by decide +kernel
theorem dX5_wordOf_75 : decode cX5_wordOf 75 = .ok (.goto 4, 3) := by decide +kernel
theorem dX5_wordOf_78 : decode cX5_wordOf 78 = .ok (.iconst (-1), 1) := by decide +kernel
theorem dX5_wordOf_79 : decode cX5_wordOf 79 = .ok (.ireturn, 1) := by decide +kernel
set_option maxRecDepth 20000 in
theorem ggX5_reads_X5_sort : GoodIn wsX5_reads wsX5_sort := goodIn_sub (List.forall_mem_cons.mpr ⟨List.mem_cons_of_mem _ (List.mem_append_left _ (List.mem_of_getElem? (i := 9) rfl)), (fun _ h => absurd h List.not_mem_nil)⟩) (by decide +kernel)
set_option maxRecDepth 20000 in
theorem gX5_reads_X5_sort : GoodIn wsX5_reads (va_wsS RX5 65 yX5_sort wsX5_sort) := goodIn_app (goodIn_sub (List.forall_mem_cons.mpr ⟨List.mem_cons_of_mem _ (List.mem_append_left _ (List.mem_of_getElem? (i := 6) rfl)), List.forall_mem_cons.mpr ⟨List.mem_cons_of_mem _ (List.mem_append_left _ (List.mem_of_getElem? (i := 7) rfl)), List.forall_mem_cons.mpr ⟨List.mem_cons_of_mem _ (List.mem_append_left _ (List.mem_of_getElem? (i := 8) rfl)), (fun _ h => absurd h List.not_mem_nil)⟩⟩⟩) (by decide +kernel)) ggX5_reads_X5_sort
set_option maxRecDepth 20000 in
theorem ggX5_reads_X5_in : GoodIn wsX5_reads wsX5_in := goodIn_sub (List.forall_mem_cons.mpr ⟨List.mem_cons_of_mem _ (List.mem_append_left _ (List.mem_of_getElem? (i := 12) rfl)), (fun _ h => absurd h List.not_mem_nil)⟩) (by decide +kernel)
set_option maxRecDepth 20000 in
theorem gX5_reads_X5_in : GoodIn wsX5_reads (va_wsS RX5 50 yX5_in wsX5_in) := goodIn_app (goodIn_sub (List.forall_mem_cons.mpr ⟨List.mem_cons_of_mem _ (List.mem_append_left _ (List.mem_of_getElem? (i := 10) rfl)), List.forall_mem_cons.mpr ⟨List.mem_cons_of_mem _ (List.mem_append_left _ (List.mem_of_getElem? (i := 11) rfl)), List.forall_mem_cons.mpr ⟨List.mem_cons_of_mem _ (List.mem_append_left _ (List.mem_of_getElem? (i := 8) rfl)), (fun _ h => absurd h List.not_mem_nil)⟩⟩⟩) (by decide +kernel)) ggX5_reads_X5_in
set_option maxRecDepth 20000 in
theorem ggX5_reads_X5_token : GoodIn wsX5_reads wsX5_token := goodIn_sub (List.forall_mem_cons.mpr ⟨List.mem_cons_of_mem _ (List.mem_append_left _ (List.mem_of_getElem? (i := 16) rfl)), List.forall_mem_append.mpr ⟨List.forall_mem_cons.mpr ⟨List.mem_cons_of_mem _ (List.mem_append_left _ (List.mem_of_getElem? (i := 17) rfl)), List.forall_mem_cons.mpr ⟨List.mem_cons_of_mem _ (List.mem_append_left _ (List.mem_of_getElem? (i := 1) rfl)), List.forall_mem_cons.mpr ⟨List.mem_cons_of_mem _ (List.mem_append_left _ (List.mem_of_getElem? (i := 2) rfl)), List.forall_mem_cons.mpr ⟨List.mem_cons_of_mem _ (List.mem_append_left _ (List.mem_of_getElem? (i := 0) rfl)), List.forall_mem_cons.mpr ⟨List.mem_cons_of_mem _ (List.mem_append_left _ (List.mem_of_getElem? (i := 3) rfl)), List.forall_mem_cons.mpr ⟨List.mem_cons_of_mem _ (List.mem_append_left _ (List.mem_of_getElem? (i := 6) rfl)), List.forall_mem_cons.mpr ⟨List.mem_cons_of_mem _ (List.mem_append_left _ (List.mem_of_getElem? (i := 7) rfl)), List.forall_mem_cons.mpr ⟨List.mem_cons_of_mem _ (List.mem_append_left _ (List.mem_of_getElem? (i := 8) rfl)), List.forall_mem_cons.mpr ⟨List.mem_cons_of_mem _ (List.mem_append_left _ (List.mem_of_getElem? (i := 9) rfl)), (fun _ h => absurd h List.not_mem_nil)⟩⟩⟩⟩⟩⟩⟩⟩⟩, (fun _ h => List.mem_cons_of_mem _ (List.mem_append_right _ (h)))⟩⟩) (by decide +kernel)
set_option maxRecDepth 20000 in
theorem gX5_reads_X5_token : GoodIn wsX5_reads (wsV RX5 90 RX5 yX5_token wsX5_token) := goodIn_app (goodIn_sub (List.forall_mem_cons.mpr ⟨List.mem_cons_of_mem _ (List.mem_append_left _ (List.mem_of_getElem? (i := 13) rfl)), List.forall_mem_cons.mpr ⟨List.mem_cons_of_mem _ (List.mem_append_left _ (List.mem_of_getElem? (i := 14) rfl)), List.forall_mem_cons.mpr ⟨List.mem_cons_of_mem _ (List.mem_append_left _ (List.mem_of_getElem? (i := 15) rfl)), List.forall_mem_cons.mpr ⟨List.mem_cons_of_mem _ (List.mem_append_left _ (List.mem_of_getElem? (i := 8) rfl)), (fun _ h => absurd h List.not_mem_nil)⟩⟩⟩⟩) (by decide +kernel)) ggX5_reads_X5_token
theorem dX5_reads_0 : decode cX5_reads 0 = .ok (.aload_n 0, 1) := by decide +kernel
theorem dX5_reads_1 : decode cX5_reads 1 = .ok (.getfield 62, 3) := by decide +kernel
theorem dX5_reads_4 : decode cX5_reads 4 = .ok (.aload_n 0, 1) := by decide +kernel
theorem dX5_reads_5 : decode cX5_reads 5 = .ok (.getfield 54, 3) := by decide +kernel
theorem dX5_reads_8 : decode cX5_reads 8 = .ok (.if_icmp .eq 32, 3) := by decide +kernel
theorem dX5_reads_11 : decode cX5_reads 11 = .ok (.aload_n 0, 1) := by decide +kernel
theorem dX5_reads_12 : decode cX5_reads 12 = .ok (.getfield 17, 3) := by decide +kernel
theorem dX5_reads_15 : decode cX5_reads 15 = .ok (.aload_n 0, 1) := by decide +kernel
theorem dX5_reads_16 : decode cX5_reads 16 = .ok (.getfield 62, 3) := by decide +kernel
theorem dX5_reads_19 : decode cX5_reads 19 = .ok (.iaload, 1) := by decide +kernel
theorem dX5_reads_20 : decode cX5_reads 20 = .ok (.invokestatic 65, 3) := by decide +kernel
theorem dX5_reads_23 : decode cX5_reads 23 = .ok (.iconst 2, 1) := by decide +kernel
theorem dX5_reads_24 : decode cX5_reads 24 = .ok (.if_icmp .ne 16, 3) := by decide +kernel
theorem dX5_reads_27 : decode cX5_reads 27 = .ok (.aload_n 0, 1) := by decide +kernel
theorem dX5_reads_28 : decode cX5_reads 28 = .ok (.getfield 69, 3) := by decide +kernel
theorem dX5_reads_31 : decode cX5_reads 31 = .ok (.aload_n 0, 1) := by decide +kernel
theorem dX5_reads_32 : decode cX5_reads 32 = .ok (.getfield 62, 3) := by decide +kernel
theorem dX5_reads_35 : decode cX5_reads 35 = .ok (.isub, 1) := by decide +kernel
theorem dX5_reads_36 : decode cX5_reads 36 = .ok (.iconst 2, 1) := by decide +kernel
theorem dX5_reads_37 : decode cX5_reads 37 = .ok (.if_icmp .le 5, 3) := by decide +kernel
theorem dX5_reads_40 : decode cX5_reads 40 = .ok (.iconst 0, 1) := by decide +kernel
theorem dX5_reads_41 : decode cX5_reads 41 = .ok (.ireturn, 1) := by decide +kernel
theorem dX5_reads_42 : decode cX5_reads 42 = .ok (.iconst 0, 1) := by decide +kernel
theorem dX5_reads_43 : decode cX5_reads 43 = .ok (.istore 5, 2) := by decide +kernel
theorem dX5_reads_45 : decode cX5_reads 45 = .ok (.aload_n 0, 1) := by decide +kernel
theorem dX5_reads_46 : decode cX5_reads 46 = .ok (.getfield 62, 3) := by decide +kernel
theorem dX5_reads_49 : decode cX5_reads 49 = .ok (.istore 6, 2) := by decide +kernel
theorem dX5_reads_51 : decode cX5_reads 51 = .ok (.iload 6, 2) := by decide +kernel
theorem dX5_reads_53 : decode cX5_reads 53 = .ok (.aload_n 0, 1) := by decide +kernel
theorem dX5_reads_54 : decode cX5_reads 54 = .ok (.getfield 69, 3) := by decide +kernel
theorem dX5_reads_57 : decode cX5_reads 57 = .ok (.if_icmp .ge 27, 3) := by decide +kernel
theorem dX5_reads_60 : decode cX5_reads 60 = .ok (.bipush 10, 2) := by decide +kernel
theorem dX5_reads_62 : decode cX5_reads 62 = .ok (.iload 5, 2) := by decide +kernel
theorem dX5_reads_64 : decode cX5_reads 64 = .ok (.imul, 1) := by decide +kernel
theorem dX5_reads_65 : decode cX5_reads 65 = .ok (.aload_n 0, 1) := by decide +kernel
theorem dX5_reads_66 : decode cX5_reads 66 = .ok (.getfield 17, 3) := by decide +kernel
theorem dX5_reads_69 : decode cX5_reads 69 = .ok (.iload 6, 2) := by decide +kernel
theorem dX5_reads_71 : decode cX5_reads 71 = .ok (.iaload, 1) := by decide +kernel
theorem dX5_reads_72 : decode cX5_reads 72 = .ok (.iadd, 1) := by decide +kernel
theorem dX5_reads_73 : decode cX5_reads 73 = .ok (.bipush 48, 2) := by decide +kernel
theorem dX5_reads_75 : decode cX5_reads 75 = .ok (.isub, 1) := by decide +kernel
theorem dX5_reads_76 : decode cX5_reads 76 = .ok (.istore 5, 2) := by decide +kernel
theorem dX5_reads_78 : decode cX5_reads 78 = .ok (.iinc 6 1, 3) := by decide +kernel
theorem dX5_reads_81 : decode cX5_reads 81 = .ok (.goto (-30), 3) := by decide +kernel
theorem dX5_reads_84 : decode cX5_reads 84 = .ok (.iload 5, 2) := by decide +kernel
theorem dX5_reads_86 : decode cX5_reads 86 = .ok (.i2l, 1) := by decide +kernel
theorem dX5_reads_87 : decode cX5_reads 87 = .ok (.iload_n 2, 1) := by decide +kernel
theorem dX5_reads_88 : decode cX5_reads 88 = .ok (.i2l, 1) := by decide +kernel
theorem dX5_reads_89 : decode cX5_reads 89 = .ok (.iload_n 3, 1) := by decide +kernel
theorem dX5_reads_90 : decode cX5_reads 90 = .ok (.i2l, 1) := by decide +kernel
theorem dX5_reads_91 : decode cX5_reads 91 = .ok (.invokestatic 50, 3) := by decide +kernel
theorem dX5_reads_94 : decode cX5_reads 94 = .ok (.ifCond .eq 10, 3) := by decide +kernel
theorem dX5_reads_97 : decode cX5_reads 97 = .ok (.iload 5, 2) := by decide +kernel
theorem dX5_reads_99 : decode cX5_reads 99 = .ok (.iload 4, 2) := by decide +kernel
theorem dX5_reads_101 : decode cX5_reads 101 = .ok (.if_icmp .ne 5, 3) := by decide +kernel
theorem dX5_reads_104 : decode cX5_reads 104 = .ok (.iconst 0, 1) := by decide +kernel
theorem dX5_reads_105 : decode cX5_reads 105 = .ok (.ireturn, 1) := by decide +kernel
theorem dX5_reads_106 : decode cX5_reads 106 = .ok (.aload_n 0, 1) := by decide +kernel
theorem dX5_reads_107 : decode cX5_reads 107 = .ok (.getfield 20, 3) := by decide +kernel
theorem dX5_reads_110 : decode cX5_reads 110 = .ok (.iconst 4, 1) := by decide +kernel
theorem dX5_reads_111 : decode cX5_reads 111 = .ok (.aload_n 0, 1) := by decide +kernel
theorem dX5_reads_112 : decode cX5_reads 112 = .ok (.getfield 87, 3) := by decide +kernel
theorem dX5_reads_115 : decode cX5_reads 115 = .ok (.imul, 1) := by decide +kernel
theorem dX5_reads_116 : decode cX5_reads 116 = .ok (.iconst 1, 1) := by decide +kernel
theorem dX5_reads_117 : decode cX5_reads 117 = .ok (.iadd, 1) := by decide +kernel
theorem dX5_reads_118 : decode cX5_reads 118 = .ok (.iload_n 1, 1) := by decide +kernel
theorem dX5_reads_119 : decode cX5_reads 119 = .ok (.iadd, 1) := by decide +kernel
theorem dX5_reads_120 : decode cX5_reads 120 = .ok (.iload 5, 2) := by decide +kernel
theorem dX5_reads_122 : decode cX5_reads 122 = .ok (.iastore, 1) := by decide +kernel
theorem dX5_reads_123 : decode cX5_reads 123 = .ok (.aload_n 0, 1) := by decide +kernel
theorem dX5_reads_124 : decode cX5_reads 124 = .ok (.invokevirtual 90, 3) := by decide +kernel
theorem dX5_reads_127 : decode cX5_reads 127 = .ok (.iconst 1, 1) := by decide +kernel
theorem dX5_reads_128 : decode cX5_reads 128 = .ok (.ireturn, 1) := by decide +kernel
set_option maxRecDepth 20000 in
theorem ggX5_readsRest_X5_reads : GoodIn wsX5_readsRest wsX5_reads := goodIn_sub (List.forall_mem_cons.mpr ⟨List.mem_cons_of_mem _ (List.mem_append_left _ (List.mem_of_getElem? (i := 7) rfl)), List.forall_mem_append.mpr ⟨List.forall_mem_cons.mpr ⟨List.mem_cons_of_mem _ (List.mem_append_left _ (List.mem_of_getElem? (i := 8) rfl)), List.forall_mem_cons.mpr ⟨List.mem_cons_of_mem _ (List.mem_append_left _ (List.mem_of_getElem? (i := 9) rfl)), List.forall_mem_cons.mpr ⟨List.mem_cons_of_mem _ (List.mem_append_left _ (List.mem_of_getElem? (i := 10) rfl)), List.forall_mem_cons.mpr ⟨List.mem_cons_of_mem _ (List.mem_append_left _ (List.mem_of_getElem? (i := 11) rfl)), List.forall_mem_cons.mpr ⟨List.mem_cons_of_mem _ (List.mem_append_left _ (List.mem_of_getElem? (i := 1) rfl)), List.forall_mem_cons.mpr ⟨List.mem_cons_of_mem _ (List.mem_append_left _ (List.mem_of_getElem? (i := 2) rfl)), List.forall_mem_cons.mpr ⟨List.mem_cons_of_mem _ (List.mem_append_left _ (List.mem_of_getElem? (i := 12) rfl)), List.forall_mem_cons.mpr ⟨List.mem_cons_of_mem _ (List.mem_append_left _ (List.mem_of_getElem? (i := 13) rfl)), List.forall_mem_cons.mpr ⟨List.mem_cons_of_mem _ (List.mem_append_left _ (List.mem_of_getElem? (i := 6) rfl)), List.forall_mem_cons.mpr ⟨List.mem_cons_of_mem _ (List.mem_append_left _ (List.mem_of_getElem? (i := 14) rfl)), List.forall_mem_cons.mpr ⟨List.mem_cons_of_mem _ (List.mem_append_left _ (List.mem_of_getElem? (i := 15) rfl)), List.forall_mem_cons.mpr ⟨List.mem_cons_of_mem _ (List.mem_append_left _ (List.mem_of_getElem? (i := 16) rfl)), List.forall_mem_cons.mpr ⟨List.mem_cons_of_mem _ (List.mem_append_left _ (List.mem_of_getElem? (i := 17) rfl)), List.forall_mem_cons.mpr ⟨List.mem_cons_of_mem _ (List.mem_append_left _ (List.mem_of_getElem? (i := 18) rfl)), List.forall_mem_cons.mpr ⟨List.mem_cons_of_mem _ (List.mem_append_left _ (List.mem_of_getElem? (i := 19) rfl)), List.forall_mem_cons.mpr ⟨List.mem_cons_of_mem _ (List.mem_append_left _ (List.mem_of_getElem? (i := 20) rfl)), List.forall_mem_cons.mpr ⟨List.mem_cons_of_mem _ (List.mem_append_left _ (List.mem_of_getElem? (i := 21) rfl)), List.forall_mem_cons.mpr ⟨List.mem_cons_of_mem _ (List.mem_append_left _ (List.mem_of_getElem? (i := 22) rfl)), (fun _ h => absurd h List.not_mem_nil)⟩⟩⟩⟩⟩⟩⟩⟩⟩⟩⟩⟩⟩⟩⟩⟩⟩⟩, (fun _ h => List.mem_cons_of_mem _ (List.mem_append_right _ (h)))⟩⟩) (by decide +kernel)
set_option maxRecDepth 20000 in
theorem gX5_readsRest_X5_reads : GoodIn wsX5_readsRest (wsV RX5 96 RX5 yX5_reads wsX5_reads) := goodIn_app (goodIn_sub (List.forall_mem_cons.mpr ⟨List.mem_cons_of_mem _ (List.mem_append_left _ (List.mem_of_getElem? (i := 3) rfl)), List.forall_mem_cons.mpr ⟨List.mem_cons_of_mem _ (List.mem_append_left _ (List.mem_of_getElem? (i := 4) rfl)), List.forall_mem_cons.mpr ⟨List.mem_cons_of_mem _ (List.mem_append_left _ (List.mem_of_getElem? (i := 5) rfl)), List.forall_mem_cons.mpr ⟨List.mem_cons_of_mem _ (List.mem_append_left _ (List.mem_of_getElem? (i := 6) rfl)), (fun _ h => absurd h List.not_mem_nil)⟩⟩⟩⟩) (by decide +kernel)) ggX5_readsRest_X5_reads
theorem dX5_readsRest_0 : decode cX5_readsRest 0 = .ok (.aload_n 0, 1) := by decide +kernel
theorem dX5_readsRest_1 : decode cX5_readsRest 1 = .ok (.getfield 93, 3) := by decide +kernel
theorem dX5_readsRest_4 : decode cX5_readsRest 4 = .ok (.iconst 1, 1) := by decide +kernel
theorem dX5_readsRest_5 : decode cX5_readsRest 5 = .ok (.isub, 1) := by decide +kernel
theorem dX5_readsRest_6 : decode cX5_readsRest 6 = .ok (.istore_n 2, 1) := by decide +kernel
theorem dX5_readsRest_7 : decode cX5_readsRest 7 = .ok (.iload_n 1, 1) := by decide +kernel
theorem dX5_readsRest_8 : decode cX5_readsRest 8 = .ok (.tableswitch 129 0 7 #[48, 129, 129, 129, 129, 50, 79, 119], 48) := by decide +kernel
theorem dX5_readsRest_56 : decode cX5_readsRest 56 = .ok (.iconst 1, 1) := by decide +kernel
theorem dX5_readsRest_57 : decode cX5_readsRest 57 = .ok (.ireturn, 1) := by decide +kernel
theorem dX5_readsRest_58 : decode cX5_readsRest 58 = .ok (.aload_n 0, 1) := by decide +kernel
theorem dX5_readsRest_59 : decode cX5_readsRest 59 = .ok (.iconst 0, 1) := by decide +kernel
theorem dX5_readsRest_60 : decode cX5_readsRest 60 = .ok (.iconst 0, 1) := by decide +kernel
theorem dX5_readsRest_61 : decode cX5_readsRest 61 = .ok (.iload_n 2, 1) := by decide +kernel
theorem dX5_readsRest_62 : decode cX5_readsRest 62 = .ok (.iconst (-1), 1) := by decide +kernel
theorem dX5_readsRest_63 : decode cX5_readsRest 63 = .ok (.invokevirtual 96, 3) := by decide +kernel
theorem dX5_readsRest_66 : decode cX5_readsRest 66 = .ok (.ifCond .eq 19, 3) := by decide +kernel
theorem dX5_readsRest_69 : decode cX5_readsRest 69 = .ok (.aload_n 0, 1) := by decide +kernel
theorem dX5_readsRest_70 : decode cX5_readsRest 70 = .ok (.iconst 1, 1) := by decide +kernel
theorem dX5_readsRest_71 : decode cX5_readsRest 71 = .ok (.iconst 0, 1) := by decide +kernel
theorem dX5_readsRest_72 : decode cX5_readsRest 72 = .ok (.bipush 9, 2) := by decide +kernel
theorem dX5_readsRest_74 : decode cX5_readsRest 74 = .ok (.iconst (-1), 1) := by decide +kernel
theorem dX5_readsRest_75 : decode cX5_readsRest 75 = .ok (.invokevirtual 96, 3) := by decide +kernel
theorem dX5_readsRest_78 : decode cX5_readsRest 78 = .ok (.ifCond .eq 7, 3) := by decide +kernel
theorem dX5_readsRest_81 : decode cX5_readsRest 81 = .ok (.iconst 1, 1) := by decide +kernel
theorem dX5_readsRest_82 : decode cX5_readsRest 82 = .ok (.goto 4, 3) := by decide +kernel
theorem dX5_readsRest_85 : decode cX5_readsRest 85 = .ok (.iconst 0, 1) := by decide +kernel
theorem dX5_readsRest_86 : decode cX5_readsRest 86 = .ok (.ireturn, 1) := by decide +kernel
theorem dX5_readsRest_87 : decode cX5_readsRest 87 = .ok (.aload_n 0, 1) := by decide +kernel
theorem dX5_readsRest_88 : decode cX5_readsRest 88 = .ok (.iconst 0, 1) := by decide +kernel
theorem dX5_readsRest_89 : decode cX5_readsRest 89 = .ok (.iconst 0, 1) := by decide +kernel
theorem dX5_readsRest_90 : decode cX5_readsRest 90 = .ok (.iload_n 2, 1) := by decide +kernel
theorem dX5_readsRest_91 : decode cX5_readsRest 91 = .ok (.iconst (-1), 1) := by decide +kernel
theorem dX5_readsRest_92 : decode cX5_readsRest 92 = .ok (.invokevirtual 96, 3) := by decide +kernel
theorem dX5_readsRest_95 : decode cX5_readsRest 95 = .ok (.ifCond .eq 30, 3) := by decide +kernel
theorem dX5_readsRest_98 : decode cX5_readsRest 98 = .ok (.aload_n 0, 1) := by decide +kernel
theorem dX5_readsRest_99 : decode cX5_readsRest 99 = .ok (.iconst 1, 1) := by decide +kernel
theorem dX5_readsRest_100 : decode cX5_readsRest 100 = .ok (.iconst 0, 1) := by decide +kernel
theorem dX5_readsRest_101 : decode cX5_readsRest 101 = .ok (.iload_n 2, 1) := by decide +kernel
theorem dX5_readsRest_102 : decode cX5_readsRest 102 = .ok (.aload_n 0, 1) := by decide +kernel
theorem dX5_readsRest_103 : decode cX5_readsRest 103 = .ok (.getfield 20, 3) := by decide +kernel
theorem dX5_readsRest_106 : decode cX5_readsRest 106 = .ok (.iconst 4, 1) := by decide +kernel
theorem dX5_readsRest_107 : decode cX5_readsRest 107 = .ok (.aload_n 0, 1) := by decide +kernel
theorem dX5_readsRest_108 : decode cX5_readsRest 108 = .ok (.getfield 87, 3) := by decide +kernel
theorem dX5_readsRest_111 : decode cX5_readsRest 111 = .ok (.imul, 1) := by decide +kernel
theorem dX5_readsRest_112 : decode cX5_readsRest 112 = .ok (.iconst 1, 1) := by decide +kernel
theorem dX5_readsRest_113 : decode cX5_readsRest 113 = .ok (.iadd, 1) := by decide +kernel
theorem dX5_readsRest_114 : decode cX5_readsRest 114 = .ok (.iaload, 1) := by decide +kernel
theorem dX5_readsRest_115 : decode cX5_readsRest 115 = .ok (.invokevirtual 96, 3) := by decide +kernel
theorem dX5_readsRest_118 : decode cX5_readsRest 118 = .ok (.ifCond .eq 7, 3) := by decide +kernel
theorem dX5_readsRest_121 : decode cX5_readsRest 121 = .ok (.iconst 1, 1) := by decide +kernel
theorem dX5_readsRest_122 : decode cX5_readsRest 122 = .ok (.goto 4, 3) := by decide +kernel
theorem dX5_readsRest_125 : decode cX5_readsRest 125 = .ok (.iconst 0, 1) := by decide +kernel
theorem dX5_readsRest_126 : decode cX5_readsRest 126 = .ok (.ireturn, 1) := by decide +kernel
theorem dX5_readsRest_127 : decode cX5_readsRest 127 = .ok (.aload_n 0, 1) := by decide +kernel
theorem dX5_readsRest_128 : decode cX5_readsRest 128 = .ok (.iconst 0, 1) := by decide +kernel
theorem dX5_readsRest_129 : decode cX5_readsRest 129 = .ok (.iconst 0, 1) := by decide +kernel
theorem dX5_readsRest_130 : decode cX5_readsRest 130 = .ok (.bipush 99, 2) := by decide +kernel
theorem dX5_readsRest_132 : decode cX5_readsRest 132 = .ok (.iconst (-1), 1) := by decide +kernel
theorem dX5_readsRest_133 : decode cX5_readsRest 133 = .ok (.invokevirtual 96, 3) := by decide +kernel
theorem dX5_readsRest_136 : decode cX5_readsRest 136 = .ok (.ireturn, 1) := by decide +kernel
theorem dX5_readsRest_137 : decode cX5_readsRest 137 = .ok (.aload_n 0, 1) := by decide +kernel
theorem dX5_readsRest_138 : decode cX5_readsRest 138 = .ok (.iconst 0, 1) := by decide +kernel
theorem dX5_readsRest_139 : decode cX5_readsRest 139 = .ok (.iconst 0, 1) := by decide +kernel
theorem dX5_readsRest_140 : decode cX5_readsRest 140 = .ok (.bipush 99, 2) := by decide +kernel
theorem dX5_readsRest_142 : decode cX5_readsRest 142 = .ok (.iconst (-1), 1) := by decide +kernel
theorem dX5_readsRest_143 : decode cX5_readsRest 143 = .ok (.invokevirtual 96, 3) := by decide +kernel
theorem dX5_readsRest_146 : decode cX5_readsRest 146 = .ok (.ifCond .eq 31, 3) := by decide +kernel
theorem dX5_readsRest_149 : decode cX5_readsRest 149 = .ok (.aload_n 0, 1) := by decide +kernel
theorem dX5_readsRest_150 : decode cX5_readsRest 150 = .ok (.iconst 1, 1) := by decide +kernel
theorem dX5_readsRest_151 : decode cX5_readsRest 151 = .ok (.iconst 0, 1) := by decide +kernel
theorem dX5_readsRest_152 : decode cX5_readsRest 152 = .ok (.bipush 50, 2) := by decide +kernel
theorem dX5_readsRest_154 : decode cX5_readsRest 154 = .ok (.iconst (-1), 1) := by decide +kernel
theorem dX5_readsRest_155 : decode cX5_readsRest 155 = .ok (.invokevirtual 96, 3) := by decide +kernel
theorem dX5_readsRest_158 : decode cX5_readsRest 158 = .ok (.ifCond .eq 19, 3) := by decide +kernel
theorem dX5_readsRest_161 : decode cX5_readsRest 161 = .ok (.aload_n 0, 1) := by decide +kernel
theorem dX5_readsRest_162 : decode cX5_readsRest 162 = .ok (.iconst 2, 1) := by decide +kernel
theorem dX5_readsRest_163 : decode cX5_readsRest 163 = .ok (.iconst 1, 1) := by decide +kernel
theorem dX5_readsRest_164 : decode cX5_readsRest 164 = .ok (.bipush 99, 2) := by decide +kernel
theorem dX5_readsRest_166 : decode cX5_readsRest 166 = .ok (.iconst (-1), 1) := by decide +kernel
theorem dX5_readsRest_167 : decode cX5_readsRest 167 = .ok (.invokevirtual 96, 3) := by decide +kernel
theorem dX5_readsRest_170 : decode cX5_readsRest 170 = .ok (.ifCond .eq 7, 3) := by decide +kernel
theorem dX5_readsRest_173 : decode cX5_readsRest 173 = .ok (.iconst 1, 1) := by decide +kernel
theorem dX5_readsRest_174 : decode cX5_readsRest 174 = .ok (.goto 4, 3) := by decide +kernel
theorem dX5_readsRest_177 : decode cX5_readsRest 177 = .ok (.iconst 0, 1) := by decide +kernel
theorem dX5_readsRest_178 : decode cX5_readsRest 178 = .ok (.ireturn, 1) := by decide +kernel
set_option maxRecDepth 20000 in
theorem ggX5_isTreeWord_X5_in : GoodIn wsX5_isTreeWord wsX5_in := goodIn_sub (List.forall_mem_cons.mpr ⟨List.mem_cons_of_mem _ (List.mem_of_getElem? (i := 4) rfl), (fun _ h => absurd h List.not_mem_nil)⟩) (by decide +kernel)
set_option maxRecDepth 20000 in
theorem gX5_isTreeWord_X5_in : GoodIn wsX5_isTreeWord (va_wsS RX5 50 yX5_in wsX5_in) := goodIn_app (goodIn_sub (List.forall_mem_cons.mpr ⟨List.mem_cons_of_mem _ (List.mem_of_getElem? (i := 1) rfl), List.forall_mem_cons.mpr ⟨List.mem_cons_of_mem _ (List.mem_of_getElem? (i := 2) rfl), List.forall_mem_cons.mpr ⟨List.mem_cons_of_mem _ (List.mem_of_getElem? (i := 3) rfl), (fun _ h => absurd h List.not_mem_nil)⟩⟩⟩) (by decide +kernel)) ggX5_isTreeWord_X5_in
theorem dX5_isTreeWord_0 : decode cX5_isTreeWord 0 = .ok (.iload_n 0, 1) := by decide +kernel
theorem dX5_isTreeWord_1 : decode cX5_isTreeWord 1 = .ok (.i2l, 1) := by decide +kernel
theorem dX5_isTreeWord_2 : decode cX5_isTreeWord 2 = .ok (.lconst 1, 1) := by decide +kernel
theorem dX5_isTreeWord_3 : decode cX5_isTreeWord 3 = .ok (.ldc2_w 100, 3) := by decide +kernel
theorem dX5_isTreeWord_6 : decode cX5_isTreeWord 6 = .ok (.invokestatic 50, 3) := by decide +kernel
theorem dX5_isTreeWord_9 : decode cX5_isTreeWord 9 = .ok (.ireturn, 1) := by decide +kernel
set_option maxRecDepth 20000 in
theorem ggX5_readsLine_X5_wordOf : GoodIn wsX5_readsLine wsX5_wordOf := goodIn_sub (List.forall_mem_cons.mpr ⟨List.mem_cons_of_mem _ (List.mem_append_left _ (List.mem_append_left _ (List.mem_of_getElem? (i := 8) rfl))), List.forall_mem_append.mpr ⟨List.forall_mem_cons.mpr ⟨List.mem_cons_of_mem _ (List.mem_append_left _ (List.mem_append_left _ (List.mem_of_getElem? (i := 9) rfl))), List.forall_mem_cons.mpr ⟨List.mem_cons_of_mem _ (List.mem_append_left _ (List.mem_append_left _ (List.mem_of_getElem? (i := 10) rfl))), List.forall_mem_cons.mpr ⟨List.mem_cons_of_mem _ (List.mem_append_left _ (List.mem_append_left _ (List.mem_of_getElem? (i := 11) rfl))), List.forall_mem_cons.mpr ⟨List.mem_cons_of_mem _ (List.mem_append_left _ (List.mem_append_left _ (List.mem_of_getElem? (i := 12) rfl))), List.forall_mem_cons.mpr ⟨List.mem_cons_of_mem _ (List.mem_append_left _ (List.mem_append_left _ (List.mem_of_getElem? (i := 13) rfl))), List.forall_mem_cons.mpr ⟨List.mem_cons_of_mem _ (List.mem_append_left _ (List.mem_append_left _ (List.mem_of_getElem? (i := 14) rfl))), List.forall_mem_cons.mpr ⟨List.mem_cons_of_mem _ (List.mem_append_left _ (List.mem_append_left _ (List.mem_of_getElem? (i := 15) rfl))), List.forall_mem_cons.mpr ⟨List.mem_cons_of_mem _ (List.mem_append_left _ (List.mem_append_left _ (List.mem_of_getElem? (i := 7) rfl))), List.forall_mem_cons.mpr ⟨List.mem_cons_of_mem _ (List.mem_append_left _ (List.mem_append_left _ (List.mem_of_getElem? (i := 16) rfl))), List.forall_mem_cons.mpr ⟨List.mem_cons_of_mem _ (List.mem_append_left _ (List.mem_append_left _ (List.mem_of_getElem? (i := 17) rfl))), List.forall_mem_cons.mpr ⟨List.mem_cons_of_mem _ (List.mem_append_left _ (List.mem_append_left _ (List.mem_of_getElem? (i := 18) rfl))), List.forall_mem_cons.mpr ⟨List.mem_cons_of_mem _ (List.mem_append_left _ (List.mem_append_left _ (List.mem_of_getElem? (i := 19) rfl))), List.forall_mem_cons.mpr ⟨List.mem_cons_of_mem _ (List.mem_append_left _ (List.mem_append_left _ (List.mem_of_getElem? (i := 20) rfl))), List.forall_mem_cons.mpr ⟨List.mem_cons_of_mem _ (List.mem_append_left _ (List.mem_append_left _ (List.mem_of_getElem? (i := 21) rfl))), List.forall_mem_cons.mpr ⟨List.mem_cons_of_mem _ (List.mem_append_left _ (List.mem_append_left _ (List.mem_of_getElem? (i := 22) rfl))), List.forall_mem_cons.mpr ⟨List.mem_cons_of_mem _ (List.mem_append_left _ (List.mem_append_left _ (List.mem_of_getElem? (i := 23) rfl))), List.forall_mem_cons.mpr ⟨List.mem_cons_of_mem _ (List.mem_append_left _ (List.mem_append_right _ (List.mem_append_left _ (List.mem_of_getElem? (i := 0) rfl)))), List.forall_mem_cons.mpr ⟨List.mem_cons_of_mem _ (List.mem_append_left _ (List.mem_append_right _ (List.mem_append_left _ (List.mem_of_getElem? (i := 1) rfl)))), List.forall_mem_cons.mpr ⟨List.mem_cons_of_mem _ (List.mem_append_left _ (List.mem_append_right _ (List.mem_append_left _ (List.mem_of_getElem? (i := 2) rfl)))), (fun _ h => absurd h List.not_mem_nil)⟩⟩⟩⟩⟩⟩⟩⟩⟩⟩⟩⟩⟩⟩⟩⟩⟩⟩⟩, (fun _ h => List.mem_cons_of_mem _ (List.mem_append_right _ (h)))⟩⟩) (by decide +kernel)
set_option maxRecDepth 20000 in
theorem gX5_readsLine_X5_wordOf : GoodIn wsX5_readsLine (wsV RX5 102 RX5 yX5_wordOf wsX5_wordOf) := goodIn_app (goodIn_sub (List.forall_mem_cons.mpr ⟨List.mem_cons_of_mem _ (List.mem_append_left _ (List.mem_append_left _ (List.mem_of_getElem? (i := 4) rfl))), List.forall_mem_cons.mpr ⟨List.mem_cons_of_mem _ (List.mem_append_left _ (List.mem_append_left _ (List.mem_of_getElem? (i := 5) rfl))), List.forall_mem_cons.mpr ⟨List.mem_cons_of_mem _ (List.mem_append_left _ (List.mem_append_left _ (List.mem_of_getElem? (i := 6) rfl))), List.forall_mem_cons.mpr ⟨List.mem_cons_of_mem _ (List.mem_append_left _ (List.mem_append_left _ (List.mem_of_getElem? (i := 7) rfl))), (fun _ h => absurd h List.not_mem_nil)⟩⟩⟩⟩) (by decide +kernel)) ggX5_readsLine_X5_wordOf
set_option maxRecDepth 20000 in
theorem ggX5_readsLine_X5_isTreeWord : GoodIn wsX5_readsLine wsX5_isTreeWord := goodIn_sub (List.forall_mem_cons.mpr ⟨List.mem_cons_of_mem _ (List.mem_append_left _ (List.mem_append_right _ (List.mem_append_left _ (List.mem_of_getElem? (i := 5) rfl)))), List.forall_mem_cons.mpr ⟨List.mem_cons_of_mem _ (List.mem_append_left _ (List.mem_append_right _ (List.mem_append_left _ (List.mem_of_getElem? (i := 6) rfl)))), List.forall_mem_cons.mpr ⟨List.mem_cons_of_mem _ (List.mem_append_left _ (List.mem_append_right _ (List.mem_append_left _ (List.mem_of_getElem? (i := 7) rfl)))), List.forall_mem_cons.mpr ⟨List.mem_cons_of_mem _ (List.mem_append_left _ (List.mem_append_right _ (List.mem_append_left _ (List.mem_of_getElem? (i := 8) rfl)))), List.forall_mem_cons.mpr ⟨List.mem_cons_of_mem _ (List.mem_append_left _ (List.mem_append_left _ (List.mem_of_getElem? (i := 7) rfl))), List.forall_mem_cons.mpr ⟨List.mem_cons_of_mem _ (List.mem_append_left _ (List.mem_append_right _ (List.mem_append_left _ (List.mem_of_getElem? (i := 9) rfl)))), (fun _ h => absurd h List.not_mem_nil)⟩⟩⟩⟩⟩⟩) (by decide +kernel)
set_option maxRecDepth 20000 in
theorem gX5_readsLine_X5_isTreeWord : GoodIn wsX5_readsLine (va_wsS RX5 105 yX5_isTreeWord wsX5_isTreeWord) := goodIn_app (goodIn_sub (List.forall_mem_cons.mpr ⟨List.mem_cons_of_mem _ (List.mem_append_left _ (List.mem_append_right _ (List.mem_append_left _ (List.mem_of_getElem? (i := 3) rfl)))), List.forall_mem_cons.mpr ⟨List.mem_cons_of_mem _ (List.mem_append_left _ (List.mem_append_right _ (List.mem_append_left _ (List.mem_of_getElem? (i := 4) rfl)))), List.forall_mem_cons.mpr ⟨List.mem_cons_of_mem _ (List.mem_append_left _ (List.mem_append_left _ (List.mem_of_getElem? (i := 7) rfl))), (fun _ h => absurd h List.not_mem_nil)⟩⟩⟩) (by decide +kernel)) ggX5_readsLine_X5_isTreeWord
set_option maxRecDepth 20000 in
theorem ggX5_readsLine_X5_token : GoodIn wsX5_readsLine wsX5_token := goodIn_sub (List.forall_mem_cons.mpr ⟨List.mem_cons_of_mem _ (List.mem_append_left _ (List.mem_append_right _ (List.mem_append_left _ (List.mem_of_getElem? (i := 13) rfl)))), List.forall_mem_append.mpr ⟨List.forall_mem_cons.mpr ⟨List.mem_cons_of_mem _ (List.mem_append_left _ (List.mem_append_right _ (List.mem_append_left _ (List.mem_of_getElem? (i := 14) rfl)))), List.forall_mem_cons.mpr ⟨List.mem_cons_of_mem _ (List.mem_append_left _ (List.mem_append_right _ (List.mem_append_left _ (List.mem_of_getElem? (i := 15) rfl)))), List.forall_mem_cons.mpr ⟨List.mem_cons_of_mem _ (List.mem_append_left _ (List.mem_append_right _ (List.mem_append_left _ (List.mem_of_getElem? (i := 2) rfl)))), List.forall_mem_cons.mpr ⟨List.mem_cons_of_mem _ (List.mem_append_left _ (List.mem_append_right _ (List.mem_append_left _ (List.mem_of_getElem? (i := 1) rfl)))), List.forall_mem_cons.mpr ⟨List.mem_cons_of_mem _ (List.mem_append_left _ (List.mem_append_right _ (List.mem_append_left _ (List.mem_of_getElem? (i := 0) rfl)))), List.forall_mem_cons.mpr ⟨List.mem_cons_of_mem _ (List.mem_append_left _ (List.mem_append_right _ (List.mem_append_left _ (List.mem_of_getElem? (i := 16) rfl)))), List.forall_mem_cons.mpr ⟨List.mem_cons_of_mem _ (List.mem_append_left _ (List.mem_append_right _ (List.mem_append_left _ (List.mem_of_getElem? (i := 17) rfl)))), List.forall_mem_cons.mpr ⟨List.mem_cons_of_mem _ (List.mem_append_left _ (List.mem_append_left _ (List.mem_of_getElem? (i := 7) rfl))), List.forall_mem_cons.mpr ⟨List.mem_cons_of_mem _ (List.mem_append_left _ (List.mem_append_right _ (List.mem_append_left _ (List.mem_of_getElem? (i := 18) rfl)))), (fun _ h => absurd h List.not_mem_nil)⟩⟩⟩⟩⟩⟩⟩⟩⟩, (fun _ h => List.mem_cons_of_mem _ (List.mem_append_right _ (h)))⟩⟩) (by decide +kernel)
set_option maxRecDepth 20000 in
theorem gX5_readsLine_X5_token : GoodIn wsX5_readsLine (wsV RX5 90 RX5 yX5_token wsX5_token) := goodIn_app (goodIn_sub (List.forall_mem_cons.mpr ⟨List.mem_cons_of_mem _ (List.mem_append_left _ (List.mem_append_right _ (List.mem_append_left _ (List.mem_of_getElem? (i := 10) rfl)))), List.forall_mem_cons.mpr ⟨List.mem_cons_of_mem _ (List.mem_append_left _ (List.mem_append_right _ (List.mem_append_left _ (List.mem_of_getElem? (i := 11) rfl)))), List.forall_mem_cons.mpr ⟨List.mem_cons_of_mem _ (List.mem_append_left _ (List.mem_append_right _ (List.mem_append_left _ (List.mem_of_getElem? (i := 12) rfl)))), List.forall_mem_cons.mpr ⟨List.mem_cons_of_mem _ (List.mem_append_left _ (List.mem_append_left _ (List.mem_of_getElem? (i := 7) rfl))), (fun _ h => absurd h List.not_mem_nil)⟩⟩⟩⟩) (by decide +kernel)) ggX5_readsLine_X5_token
set_option maxRecDepth 20000 in
theorem ggX5_readsLine_X5_readsRest : GoodIn wsX5_readsLine wsX5_readsRest := goodIn_sub (List.forall_mem_cons.mpr ⟨List.mem_cons_of_mem _ (List.mem_append_left _ (List.mem_append_right _ (List.mem_append_left _ (List.mem_of_getElem? (i := 22) rfl)))), List.forall_mem_append.mpr ⟨List.forall_mem_cons.mpr ⟨List.mem_cons_of_mem _ (List.mem_append_left _ (List.mem_append_left _ (List.mem_of_getElem? (i := 0) rfl))), List.forall_mem_cons.mpr ⟨List.mem_cons_of_mem _ (List.mem_append_left _ (List.mem_append_left _ (List.mem_of_getElem? (i := 2) rfl))), List.forall_mem_cons.mpr ⟨List.mem_cons_of_mem _ (List.mem_append_left _ (List.mem_append_left _ (List.mem_of_getElem? (i := 3) rfl))), List.forall_mem_cons.mpr ⟨List.mem_cons_of_mem _ (List.mem_append_left _ (List.mem_append_right _ (List.mem_append_left _ (List.mem_of_getElem? (i := 23) rfl)))), List.forall_mem_cons.mpr ⟨List.mem_cons_of_mem _ (List.mem_append_left _ (List.mem_append_right _ (List.mem_append_right _ (List.mem_of_getElem? (i := 0) rfl)))), List.forall_mem_cons.mpr ⟨List.mem_cons_of_mem _ (List.mem_append_left _ (List.mem_append_right _ (List.mem_append_right _ (List.mem_of_getElem? (i := 1) rfl)))), List.forall_mem_cons.mpr ⟨List.mem_cons_of_mem _ (List.mem_append_left _ (List.mem_append_left _ (List.mem_of_getElem? (i := 7) rfl))), List.forall_mem_cons.mpr ⟨List.mem_cons_of_mem _ (List.mem_append_left _ (List.mem_append_right _ (List.mem_append_right _ (List.mem_of_getElem? (i := 2) rfl)))), List.forall_mem_cons.mpr ⟨List.mem_cons_of_mem _ (List.mem_append_left _ (List.mem_append_right _ (List.mem_append_left _ (List.mem_of_getElem? (i := 1) rfl)))), List.forall_mem_cons.mpr ⟨List.mem_cons_of_mem _ (List.mem_append_left _ (List.mem_append_right _ (List.mem_append_left _ (List.mem_of_getElem? (i := 15) rfl)))), List.forall_mem_cons.mpr ⟨List.mem_cons_of_mem _ (List.mem_append_left _ (List.mem_append_right _ (List.mem_append_left _ (List.mem_of_getElem? (i := 2) rfl)))), List.forall_mem_cons.mpr ⟨List.mem_cons_of_mem _ (List.mem_append_left _ (List.mem_append_right _ (List.mem_append_left _ (List.mem_of_getElem? (i := 0) rfl)))), List.forall_mem_cons.mpr ⟨List.mem_cons_of_mem _ (List.mem_append_left _ (List.mem_append_right _ (List.mem_append_left _ (List.mem_of_getElem? (i := 16) rfl)))), List.forall_mem_cons.mpr ⟨List.mem_cons_of_mem _ (List.mem_append_left _ (List.mem_append_right _ (List.mem_append_left _ (List.mem_of_getElem? (i := 17) rfl)))), List.forall_mem_cons.mpr ⟨List.mem_cons_of_mem _ (List.mem_append_left _ (List.mem_append_right _ (List.mem_append_left _ (List.mem_of_getElem? (i := 18) rfl)))), List.forall_mem_cons.mpr ⟨List.mem_cons_of_mem _ (List.mem_append_left _ (List.mem_append_right _ (List.mem_append_left _ (List.mem_of_getElem? (i := 7) rfl)))), List.forall_mem_cons.mpr ⟨List.mem_cons_of_mem _ (List.mem_append_left _ (List.mem_append_right _ (List.mem_append_left _ (List.mem_of_getElem? (i := 8) rfl)))), List.forall_mem_cons.mpr ⟨List.mem_cons_of_mem _ (List.mem_append_left _ (List.mem_append_right _ (List.mem_append_left _ (List.mem_of_getElem? (i := 9) rfl)))), List.forall_mem_cons.mpr ⟨List.mem_cons_of_mem _ (List.mem_append_left _ (List.mem_append_right _ (List.mem_append_left _ (List.mem_of_getElem? (i := 10) rfl)))), List.forall_mem_cons.mpr ⟨List.mem_cons_of_mem _ (List.mem_append_left _ (List.mem_append_right _ (List.mem_append_left _ (List.mem_of_getElem? (i := 11) rfl)))), List.forall_mem_cons.mpr ⟨List.mem_cons_of_mem _ (List.mem_append_left _ (List.mem_append_right _ (List.mem_append_left _ (List.mem_of_getElem? (i := 12) rfl)))), List.forall_mem_cons.mpr ⟨List.mem_cons_of_mem _ (List.mem_append_left _ (List.mem_append_right _ (List.mem_append_left _ (List.mem_of_getElem? (i := 13) rfl)))), List.forall_mem_cons.mpr ⟨List.mem_cons_of_mem _ (List.mem_append_left _ (List.mem_append_right _ (List.mem_append_left _ (List.mem_of_getElem? (i := 14) rfl)))), (fun _ h => absurd h List.not_mem_nil)⟩⟩⟩⟩⟩⟩⟩⟩⟩⟩⟩⟩⟩⟩⟩⟩⟩⟩⟩⟩⟩⟩⟩, (fun _ h => List.mem_cons_of_mem _ (List.mem_append_right _ (h)))⟩⟩) (by decide +kernel)
set_option maxRecDepth 20000 in
theorem gX5_readsLine_X5_readsRest : GoodIn wsX5_readsLine (wsV RX5 112 RX5 yX5_readsRest wsX5_readsRest) := goodIn_app (goodIn_sub (List.forall_mem_cons.mpr ⟨List.mem_cons_of_mem _ (List.mem_append_left _ (List.mem_append_right _ (List.mem_append_left _ (List.mem_of_getElem? (i := 19) rfl)))), List.forall_mem_cons.mpr ⟨List.mem_cons_of_mem _ (List.mem_append_left _ (List.mem_append_right _ (List.mem_append_left _ (List.mem_of_getElem? (i := 20) rfl)))), List.forall_mem_cons.mpr ⟨List.mem_cons_of_mem _ (List.mem_append_left _ (List.mem_append_right _ (List.mem_append_left _ (List.mem_of_getElem? (i := 21) rfl)))), List.forall_mem_cons.mpr ⟨List.mem_cons_of_mem _ (List.mem_append_left _ (List.mem_append_left _ (List.mem_of_getElem? (i := 7) rfl))), (fun _ h => absurd h List.not_mem_nil)⟩⟩⟩⟩) (by decide +kernel)) ggX5_readsLine_X5_readsRest
theorem dX5_readsLine_0 : decode cX5_readsLine 0 = .ok (.aload_n 0, 1) := by decide +kernel
theorem dX5_readsLine_1 : decode cX5_readsLine 1 = .ok (.invokevirtual 102, 3) := by decide +kernel
theorem dX5_readsLine_4 : decode cX5_readsLine 4 = .ok (.istore_n 1, 1) := by decide +kernel
theorem dX5_readsLine_5 : decode cX5_readsLine 5 = .ok (.iload_n 1, 1) := by decide +kernel
theorem dX5_readsLine_6 : decode cX5_readsLine 6 = .ok (.iconst (-1), 1) := by decide +kernel
theorem dX5_readsLine_7 : decode cX5_readsLine 7 = .ok (.if_icmp .eq 34, 3) := by decide +kernel
theorem dX5_readsLine_10 : decode cX5_readsLine 10 = .ok (.iload_n 1, 1) := by decide +kernel
theorem dX5_readsLine_11 : decode cX5_readsLine 11 = .ok (.invokestatic 105, 3) := by decide +kernel
theorem dX5_readsLine_14 : decode cX5_readsLine 14 = .ok (.ifCond .eq 12, 3) := by decide +kernel
theorem dX5_readsLine_17 : decode cX5_readsLine 17 = .ok (.aload_n 0, 1) := by decide +kernel
theorem dX5_readsLine_18 : decode cX5_readsLine 18 = .ok (.getfield 93, 3) := by decide +kernel
theorem dX5_readsLine_21 : decode cX5_readsLine 21 = .ok (.bipush 6, 2) := by decide +kernel
theorem dX5_readsLine_23 : decode cX5_readsLine 23 = .ok (.if_icmp .eq 18, 3) := by decide +kernel
theorem dX5_readsLine_26 : decode cX5_readsLine 26 = .ok (.iload_n 1, 1) := by decide +kernel
theorem dX5_readsLine_27 : decode cX5_readsLine 27 = .ok (.bipush 6, 2) := by decide +kernel
theorem dX5_readsLine_29 : decode cX5_readsLine 29 = .ok (.if_icmp .ne 14, 3) := by decide +kernel
theorem dX5_readsLine_32 : decode cX5_readsLine 32 = .ok (.aload_n 0, 1) := by decide +kernel
theorem dX5_readsLine_33 : decode cX5_readsLine 33 = .ok (.getfield 109, 3) := by decide +kernel
theorem dX5_readsLine_36 : decode cX5_readsLine 36 = .ok (.bipush 6, 2) := by decide +kernel
theorem dX5_readsLine_38 : decode cX5_readsLine 38 = .ok (.if_icmp .ne 5, 3) := by decide +kernel
theorem dX5_readsLine_41 : decode cX5_readsLine 41 = .ok (.iconst 0, 1) := by decide +kernel
theorem dX5_readsLine_42 : decode cX5_readsLine 42 = .ok (.ireturn, 1) := by decide +kernel
theorem dX5_readsLine_43 : decode cX5_readsLine 43 = .ok (.aload_n 0, 1) := by decide +kernel
theorem dX5_readsLine_44 : decode cX5_readsLine 44 = .ok (.invokevirtual 90, 3) := by decide +kernel
theorem dX5_readsLine_47 : decode cX5_readsLine 47 = .ok (.aload_n 0, 1) := by decide +kernel
theorem dX5_readsLine_48 : decode cX5_readsLine 48 = .ok (.getfield 20, 3) := by decide +kernel
theorem dX5_readsLine_51 : decode cX5_readsLine 51 = .ok (.iconst 4, 1) := by decide +kernel
theorem dX5_readsLine_52 : decode cX5_readsLine 52 = .ok (.aload_n 0, 1) := by decide +kernel
theorem dX5_readsLine_53 : decode cX5_readsLine 53 = .ok (.getfield 87, 3) := by decide +kernel
theorem dX5_readsLine_56 : decode cX5_readsLine 56 = .ok (.imul, 1) := by decide +kernel
theorem dX5_readsLine_57 : decode cX5_readsLine 57 = .ok (.iload_n 1, 1) := by decide +kernel
theorem dX5_readsLine_58 : decode cX5_readsLine 58 = .ok (.iastore, 1) := by decide +kernel
theorem dX5_readsLine_59 : decode cX5_readsLine 59 = .ok (.aload_n 0, 1) := by decide +kernel
theorem dX5_readsLine_60 : decode cX5_readsLine 60 = .ok (.iload_n 1, 1) := by decide +kernel
theorem dX5_readsLine_61 : decode cX5_readsLine 61 = .ok (.invokevirtual 112, 3) := by decide +kernel
theorem dX5_readsLine_64 : decode cX5_readsLine 64 = .ok (.ifCond .ne 5, 3) := by decide +kernel
theorem dX5_readsLine_67 : decode cX5_readsLine 67 = .ok (.iconst 0, 1) := by decide +kernel
theorem dX5_readsLine_68 : decode cX5_readsLine 68 = .ok (.ireturn, 1) := by decide +kernel
theorem dX5_readsLine_69 : decode cX5_readsLine 69 = .ok (.aload_n 0, 1) := by decide +kernel
theorem dX5_readsLine_70 : decode cX5_readsLine 70 = .ok (.iload_n 1, 1) := by decide +kernel
theorem dX5_readsLine_71 : decode cX5_readsLine 71 = .ok (.ifCond .ne 7, 3) := by decide +kernel
theorem dX5_readsLine_74 : decode cX5_readsLine 74 = .ok (.iconst 0, 1) := by decide +kernel
theorem dX5_readsLine_75 : decode cX5_readsLine 75 = .ok (.goto 23, 3) := by decide +kernel
theorem dX5_readsLine_78 : decode cX5_readsLine 78 = .ok (.iload_n 1, 1) := by decide +kernel
theorem dX5_readsLine_79 : decode cX5_readsLine 79 = .ok (.invokestatic 105, 3) := by decide +kernel
theorem dX5_readsLine_82 : decode cX5_readsLine 82 = .ok (.ifCond .eq 12, 3) := by decide +kernel
theorem dX5_readsLine_85 : decode cX5_readsLine 85 = .ok (.aload_n 0, 1) := by decide +kernel
theorem dX5_readsLine_86 : decode cX5_readsLine 86 = .ok (.getfield 93, 3) := by decide +kernel
theorem dX5_readsLine_89 : decode cX5_readsLine 89 = .ok (.iconst 1, 1) := by decide +kernel
theorem dX5_readsLine_90 : decode cX5_readsLine 90 = .ok (.iadd, 1) := by decide +kernel
theorem dX5_readsLine_91 : decode cX5_readsLine 91 = .ok (.goto 7, 3) := by decide +kernel
theorem dX5_readsLine_94 : decode cX5_readsLine 94 = .ok (.aload_n 0, 1) := by decide +kernel
theorem dX5_readsLine_95 : decode cX5_readsLine 95 = .ok (.getfield 93, 3) := by decide +kernel
theorem dX5_readsLine_98 : decode cX5_readsLine 98 = .ok (.putfield 93, 3) := by decide +kernel
theorem dX5_readsLine_101 : decode cX5_readsLine 101 = .ok (.aload_n 0, 1) := by decide +kernel
theorem dX5_readsLine_102 : decode cX5_readsLine 102 = .ok (.iload_n 1, 1) := by decide +kernel
theorem dX5_readsLine_103 : decode cX5_readsLine 103 = .ok (.ifCond .ne 7, 3) := by decide +kernel
theorem dX5_readsLine_106 : decode cX5_readsLine 106 = .ok (.iconst 0, 1) := by decide +kernel
theorem dX5_readsLine_107 : decode cX5_readsLine 107 = .ok (.goto 22, 3) := by decide +kernel
theorem dX5_readsLine_110 : decode cX5_readsLine 110 = .ok (.iload_n 1, 1) := by decide +kernel
theorem dX5_readsLine_111 : decode cX5_readsLine 111 = .ok (.bipush 6, 2) := by decide +kernel
theorem dX5_readsLine_113 : decode cX5_readsLine 113 = .ok (.if_icmp .ne 12, 3) := by decide +kernel
theorem dX5_readsLine_116 : decode cX5_readsLine 116 = .ok (.aload_n 0, 1) := by decide +kernel
theorem dX5_readsLine_117 : decode cX5_readsLine 117 = .ok (.getfield 109, 3) := by decide +kernel
theorem dX5_readsLine_120 : decode cX5_readsLine 120 = .ok (.iconst 1, 1) := by decide +kernel
theorem dX5_readsLine_121 : decode cX5_readsLine 121 = .ok (.iadd, 1) := by decide +kernel
theorem dX5_readsLine_122 : decode cX5_readsLine 122 = .ok (.goto 7, 3) := by decide +kernel
theorem dX5_readsLine_125 : decode cX5_readsLine 125 = .ok (.aload_n 0, 1) := by decide +kernel
theorem dX5_readsLine_126 : decode cX5_readsLine 126 = .ok (.getfield 109, 3) := by decide +kernel
theorem dX5_readsLine_129 : decode cX5_readsLine 129 = .ok (.putfield 109, 3) := by decide +kernel
theorem dX5_readsLine_132 : decode cX5_readsLine 132 = .ok (.aload_n 0, 1) := by decide +kernel
theorem dX5_readsLine_133 : decode cX5_readsLine 133 = .ok (.dup, 1) := by decide +kernel
theorem dX5_readsLine_134 : decode cX5_readsLine 134 = .ok (.getfield 87, 3) := by decide +kernel
theorem dX5_readsLine_137 : decode cX5_readsLine 137 = .ok (.iconst 1, 1) := by decide +kernel
theorem dX5_readsLine_138 : decode cX5_readsLine 138 = .ok (.iadd, 1) := by decide +kernel
theorem dX5_readsLine_139 : decode cX5_readsLine 139 = .ok (.putfield 87, 3) := by decide +kernel
theorem dX5_readsLine_142 : decode cX5_readsLine 142 = .ok (.iconst 1, 1) := by decide +kernel
theorem dX5_readsLine_143 : decode cX5_readsLine 143 = .ok (.ireturn, 1) := by decide +kernel
set_option maxRecDepth 20000 in
theorem ggX5_fault_X5_token : GoodIn wsX5_fault wsX5_token := goodIn_sub (List.forall_mem_cons.mpr ⟨List.mem_cons_of_mem _ (List.mem_append_left _ (List.mem_append_left _ (List.mem_of_getElem? (i := 14) rfl))), List.forall_mem_append.mpr ⟨List.forall_mem_cons.mpr ⟨List.mem_cons_of_mem _ (List.mem_append_left _ (List.mem_append_left _ (List.mem_of_getElem? (i := 0) rfl))), List.forall_mem_cons.mpr ⟨List.mem_cons_of_mem _ (List.mem_append_left _ (List.mem_append_left _ (List.mem_of_getElem? (i := 7) rfl))), List.forall_mem_cons.mpr ⟨List.mem_cons_of_mem _ (List.mem_append_left _ (List.mem_append_left _ (List.mem_of_getElem? (i := 9) rfl))), List.forall_mem_cons.mpr ⟨List.mem_cons_of_mem _ (List.mem_append_left _ (List.mem_append_left _ (List.mem_of_getElem? (i := 6) rfl))), List.forall_mem_cons.mpr ⟨List.mem_cons_of_mem _ (List.mem_append_left _ (List.mem_append_left _ (List.mem_of_getElem? (i := 8) rfl))), List.forall_mem_cons.mpr ⟨List.mem_cons_of_mem _ (List.mem_append_left _ (List.mem_append_left _ (List.mem_of_getElem? (i := 15) rfl))), List.forall_mem_cons.mpr ⟨List.mem_cons_of_mem _ (List.mem_append_left _ (List.mem_append_left _ (List.mem_of_getElem? (i := 16) rfl))), List.forall_mem_cons.mpr ⟨List.mem_cons_of_mem _ (List.mem_append_left _ (List.mem_append_left _ (List.mem_of_getElem? (i := 13) rfl))), List.forall_mem_cons.mpr ⟨List.mem_cons_of_mem _ (List.mem_append_left _ (List.mem_append_left _ (List.mem_of_getElem? (i := 17) rfl))), (fun _ h => absurd h List.not_mem_nil)⟩⟩⟩⟩⟩⟩⟩⟩⟩, (fun _ h => List.mem_cons_of_mem _ (List.mem_append_right _ (h)))⟩⟩) (by decide +kernel)
set_option maxRecDepth 20000 in
theorem gX5_fault_X5_token : GoodIn wsX5_fault (wsV RX5 90 RX5 yX5_token wsX5_token) := goodIn_app (goodIn_sub (List.forall_mem_cons.mpr ⟨List.mem_cons_of_mem _ (List.mem_append_left _ (List.mem_append_left _ (List.mem_of_getElem? (i := 10) rfl))), List.forall_mem_cons.mpr ⟨List.mem_cons_of_mem _ (List.mem_append_left _ (List.mem_append_left _ (List.mem_of_getElem? (i := 11) rfl))), List.forall_mem_cons.mpr ⟨List.mem_cons_of_mem _ (List.mem_append_left _ (List.mem_append_left _ (List.mem_of_getElem? (i := 12) rfl))), List.forall_mem_cons.mpr ⟨List.mem_cons_of_mem _ (List.mem_append_left _ (List.mem_append_left _ (List.mem_of_getElem? (i := 13) rfl))), (fun _ h => absurd h List.not_mem_nil)⟩⟩⟩⟩) (by decide +kernel)) ggX5_fault_X5_token
set_option maxRecDepth 20000 in
theorem ggX5_fault_X5_readsLine : GoodIn wsX5_fault wsX5_readsLine := goodIn_sub (List.forall_mem_cons.mpr ⟨List.mem_cons_of_mem _ (List.mem_append_left _ (List.mem_append_left _ (List.mem_of_getElem? (i := 21) rfl))), List.forall_mem_append.mpr ⟨List.forall_mem_append.mpr ⟨List.forall_mem_cons.mpr ⟨List.mem_cons_of_mem _ (List.mem_append_left _ (List.mem_append_left _ (List.mem_of_getElem? (i := 3) rfl))), List.forall_mem_cons.mpr ⟨List.mem_cons_of_mem _ (List.mem_append_left _ (List.mem_append_left _ (List.mem_of_getElem? (i := 5) rfl))), List.forall_mem_cons.mpr ⟨List.mem_cons_of_mem _ (List.mem_append_left _ (List.mem_append_left _ (List.mem_of_getElem? (i := 22) rfl))), List.forall_mem_cons.mpr ⟨List.mem_cons_of_mem _ (List.mem_append_left _ (List.mem_append_left _ (List.mem_of_getElem? (i := 1) rfl))), List.forall_mem_cons.mpr ⟨List.mem_cons_of_mem _ (List.mem_append_left _ (List.mem_append_left _ (List.mem_of_getElem? (i := 23) rfl))), List.forall_mem_cons.mpr ⟨List.mem_cons_of_mem _ (List.mem_append_left _ (List.mem_append_right _ (List.mem_append_left _ (List.mem_of_getElem? (i := 0) rfl)))), List.forall_mem_cons.mpr ⟨List.mem_cons_of_mem _ (List.mem_append_left _ (List.mem_append_right _ (List.mem_append_left _ (List.mem_of_getElem? (i := 1) rfl)))), List.forall_mem_cons.mpr ⟨List.mem_cons_of_mem _ (List.mem_append_left _ (List.mem_append_left _ (List.mem_of_getElem? (i := 13) rfl))), List.forall_mem_cons.mpr ⟨List.mem_cons_of_mem _ (List.mem_append_left _ (List.mem_append_right _ (List.mem_append_left _ (List.mem_of_getElem? (i := 2) rfl)))), List.forall_mem_cons.mpr ⟨List.mem_cons_of_mem _ (List.mem_append_left _ (List.mem_append_right _ (List.mem_append_left _ (List.mem_of_getElem? (i := 3) rfl)))), List.forall_mem_cons.mpr ⟨List.mem_cons_of_mem _ (List.mem_append_left _ (List.mem_append_right _ (List.mem_append_left _ (List.mem_of_getElem? (i := 4) rfl)))), List.forall_mem_cons.mpr ⟨List.mem_cons_of_mem _ (List.mem_append_left _ (List.mem_append_right _ (List.mem_append_left _ (List.mem_of_getElem? (i := 5) rfl)))), List.forall_mem_cons.mpr ⟨List.mem_cons_of_mem _ (List.mem_append_left _ (List.mem_append_right _ (List.mem_append_left _ (List.mem_of_getElem? (i := 6) rfl)))), List.forall_mem_cons.mpr ⟨List.mem_cons_of_mem _ (List.mem_append_left _ (List.mem_append_right _ (List.mem_append_left _ (List.mem_of_getElem? (i := 7) rfl)))), List.forall_mem_cons.mpr ⟨List.mem_cons_of_mem _ (List.mem_append_left _ (List.mem_append_right _ (List.mem_append_left _ (List.mem_of_getElem? (i := 8) rfl)))), List.forall_mem_cons.mpr ⟨List.mem_cons_of_mem _ (List.mem_append_left _ (List.mem_append_right _ (List.mem_append_left _ (List.mem_of_getElem? (i := 9) rfl)))), List.forall_mem_cons.mpr ⟨List.mem_cons_of_mem _ (List.mem_append_left _ (List.mem_append_right _ (List.mem_append_left _ (List.mem_of_getElem? (i := 10) rfl)))), List.forall_mem_cons.mpr ⟨List.mem_cons_of_mem _ (List.mem_append_left _ (List.mem_append_right _ (List.mem_append_left _ (List.mem_of_getElem? (i := 11) rfl)))), List.forall_mem_cons.mpr ⟨List.mem_cons_of_mem _ (List.mem_append_left _ (List.mem_append_right _ (List.mem_append_left _ (List.mem_of_getElem? (i := 12) rfl)))), List.forall_mem_cons.mpr ⟨List.mem_cons_of_mem _ (List.mem_append_left _ (List.mem_append_right _ (List.mem_append_left _ (List.mem_of_getElem? (i := 13) rfl)))), List.forall_mem_cons.mpr ⟨List.mem_cons_of_mem _ (List.mem_append_left _ (List.mem_append_right _ (List.mem_append_left _ (List.mem_of_getElem? (i := 14) rfl)))), List.forall_mem_cons.mpr ⟨List.mem_cons_of_mem _ (List.mem_append_left _ (List.mem_append_right _ (List.mem_append_left _ (List.mem_of_getElem? (i := 15) rfl)))), List.forall_mem_cons.mpr ⟨List.mem_cons_of_mem _ (List.mem_append_left _ (List.mem_append_right _ (List.mem_append_left _ (List.mem_of_getElem? (i := 16) rfl)))), List.forall_mem_cons.mpr ⟨List.mem_cons_of_mem _ (List.mem_append_left _ (List.mem_append_right _ (List.mem_append_left _ (List.mem_of_getElem? (i := 17) rfl)))), (fun _ h => absurd h List.not_mem_nil)⟩⟩⟩⟩⟩⟩⟩⟩⟩⟩⟩⟩⟩⟩⟩⟩⟩⟩⟩⟩⟩⟩⟩⟩, List.forall_mem_append.mpr ⟨List.forall_mem_cons.mpr ⟨List.mem_cons_of_mem _ (List.mem_append_left _ (List.mem_append_left _ (List.mem_of_getElem? (i := 8) rfl))), List.forall_mem_cons.mpr ⟨List.mem_cons_of_mem _ (List.mem_append_left _ (List.mem_append_left _ (List.mem_of_getElem? (i := 6) rfl))), List.forall_mem_cons.mpr ⟨List.mem_cons_of_mem _ (List.mem_append_left _ (List.mem_append_left _ (List.mem_of_getElem? (i := 9) rfl))), List.forall_mem_cons.mpr ⟨List.mem_cons_of_mem _ (List.mem_append_left _ (List.mem_append_right _ (List.mem_append_left _ (List.mem_of_getElem? (i := 18) rfl)))), List.forall_mem_cons.mpr ⟨List.mem_cons_of_mem _ (List.mem_append_left _ (List.mem_append_right _ (List.mem_append_left _ (List.mem_of_getElem? (i := 19) rfl)))), List.forall_mem_cons.mpr ⟨List.mem_cons_of_mem _ (List.mem_append_left _ (List.mem_append_right _ (List.mem_append_left _ (List.mem_of_getElem? (i := 20) rfl)))), List.forall_mem_cons.mpr ⟨List.mem_cons_of_mem _ (List.mem_append_left _ (List.mem_append_right _ (List.mem_append_left _ (List.mem_of_getElem? (i := 21) rfl)))), List.forall_mem_cons.mpr ⟨List.mem_cons_of_mem _ (List.mem_append_left _ (List.mem_append_right _ (List.mem_append_left _ (List.mem_of_getElem? (i := 22) rfl)))), List.forall_mem_cons.mpr ⟨List.mem_cons_of_mem _ (List.mem_append_left _ (List.mem_append_right _ (List.mem_append_left _ (List.mem_of_getElem? (i := 23) rfl)))), List.forall_mem_cons.mpr ⟨List.mem_cons_of_mem _ (List.mem_append_left _ (List.mem_append_right _ (List.mem_append_right _ (List.mem_of_getElem? (i := 0) rfl)))), List.forall_mem_cons.mpr ⟨List.mem_cons_of_mem _ (List.mem_append_left _ (List.mem_append_left _ (List.mem_of_getElem? (i := 10) rfl))), List.forall_mem_cons.mpr ⟨List.mem_cons_of_mem _ (List.mem_append_left _ (List.mem_append_left _ (List.mem_of_getElem? (i := 11) rfl))), List.forall_mem_cons.mpr ⟨List.mem_cons_of_mem _ (List.mem_append_left _ (List.mem_append_left _ (List.mem_of_getElem? (i := 12) rfl))), List.forall_mem_cons.mpr ⟨List.mem_cons_of_mem _ (List.mem_append_left _ (List.mem_append_left _ (List.mem_of_getElem? (i := 14) rfl))), List.forall_mem_cons.mpr ⟨List.mem_cons_of_mem _ (List.mem_append_left _ (List.mem_append_left _ (List.mem_of_getElem? (i := 0) rfl))), List.forall_mem_cons.mpr ⟨List.mem_cons_of_mem _ (List.mem_append_left _ (List.mem_append_left _ (List.mem_of_getElem? (i := 7) rfl))), List.forall_mem_cons.mpr ⟨List.mem_cons_of_mem _ (List.mem_append_left _ (List.mem_append_left _ (List.mem_of_getElem? (i := 15) rfl))), List.forall_mem_cons.mpr ⟨List.mem_cons_of_mem _ (List.mem_append_left _ (List.mem_append_left _ (List.mem_of_getElem? (i := 16) rfl))), List.forall_mem_cons.mpr ⟨List.mem_cons_of_mem _ (List.mem_append_left _ (List.mem_append_left _ (List.mem_of_getElem? (i := 17) rfl))), List.forall_mem_cons.mpr ⟨List.mem_cons_of_mem _ (List.mem_append_left _ (List.mem_append_right _ (List.mem_append_right _ (List.mem_of_getElem? (i := 1) rfl)))), List.forall_mem_cons.mpr ⟨List.mem_cons_of_mem _ (List.mem_append_left _ (List.mem_append_right _ (List.mem_append_right _ (List.mem_of_getElem? (i := 2) rfl)))), List.forall_mem_cons.mpr ⟨List.mem_cons_of_mem _ (List.mem_append_left _ (List.mem_append_right _ (List.mem_append_right _ (List.mem_of_getElem? (i := 3) rfl)))), List.forall_mem_cons.mpr ⟨List.mem_cons_of_mem _ (List.mem_append_left _ (List.mem_append_right _ (List.mem_append_right _ (List.mem_of_getElem? (i := 4) rfl)))), List.forall_mem_cons.mpr ⟨List.mem_cons_of_mem _ (List.mem_append_left _ (List.mem_append_right _ (List.mem_append_right _ (List.mem_of_getElem? (i := 5) rfl)))), (fun _ h => absurd h List.not_mem_nil)⟩⟩⟩⟩⟩⟩⟩⟩⟩⟩⟩⟩⟩⟩⟩⟩⟩⟩⟩⟩⟩⟩⟩⟩, List.forall_mem_cons.mpr ⟨List.mem_cons_of_mem _ (List.mem_append_left _ (List.mem_append_right _ (List.mem_append_right _ (List.mem_of_getElem? (i := 6) rfl)))), List.forall_mem_cons.mpr ⟨List.mem_cons_of_mem _ (List.mem_append_left _ (List.mem_append_right _ (List.mem_append_right _ (List.mem_of_getElem? (i := 7) rfl)))), List.forall_mem_cons.mpr ⟨List.mem_cons_of_mem _ (List.mem_append_left _ (List.mem_append_right _ (List.mem_append_right _ (List.mem_of_getElem? (i := 8) rfl)))), (fun _ h => absurd h List.not_mem_nil)⟩⟩⟩⟩⟩, (fun _ h => List.mem_cons_of_mem _ (List.mem_append_right _ (h)))⟩⟩) (by decide +kernel)
set_option maxRecDepth 20000 in
theorem gX5_fault_X5_readsLine : GoodIn wsX5_fault (wsV RX5 121 RX5 yX5_readsLine wsX5_readsLine) := goodIn_app (goodIn_sub (List.forall_mem_cons.mpr ⟨List.mem_cons_of_mem _ (List.mem_append_left _ (List.mem_append_left _ (List.mem_of_getElem? (i := 18) rfl))), List.forall_mem_cons.mpr ⟨List.mem_cons_of_mem _ (List.mem_append_left _ (List.mem_append_left _ (List.mem_of_getElem? (i := 19) rfl))), List.forall_mem_cons.mpr ⟨List.mem_cons_of_mem _ (List.mem_append_left _ (List.mem_append_left _ (List.mem_of_getElem? (i := 20) rfl))), List.forall_mem_cons.mpr ⟨List.mem_cons_of_mem _ (List.mem_append_left _ (List.mem_append_left _ (List.mem_of_getElem? (i := 13) rfl))), (fun _ h => absurd h List.not_mem_nil)⟩⟩⟩⟩) (by decide +kernel)) ggX5_fault_X5_readsLine
theorem dX5_fault_0 : decode cX5_fault 0 = .ok (.aload_n 0, 1) := by decide +kernel
theorem dX5_fault_1 : decode cX5_fault 1 = .ok (.iconst 0, 1) := by decide +kernel
theorem dX5_fault_2 : decode cX5_fault 2 = .ok (.putfield 59, 3) := by decide +kernel
theorem dX5_fault_5 : decode cX5_fault 5 = .ok (.aload_n 0, 1) := by decide +kernel
theorem dX5_fault_6 : decode cX5_fault 6 = .ok (.iconst 0, 1) := by decide +kernel
theorem dX5_fault_7 : decode cX5_fault 7 = .ok (.putfield 87, 3) := by decide +kernel
theorem dX5_fault_10 : decode cX5_fault 10 = .ok (.aload_n 0, 1) := by decide +kernel
theorem dX5_fault_11 : decode cX5_fault 11 = .ok (.aload_n 0, 1) := by decide +kernel
theorem dX5_fault_12 : decode cX5_fault 12 = .ok (.getfield 115, 3) := by decide +kernel
theorem dX5_fault_15 : decode cX5_fault 15 = .ok (.putfield 93, 3) := by decide +kernel
theorem dX5_fault_18 : decode cX5_fault 18 = .ok (.aload_n 0, 1) := by decide +kernel
theorem dX5_fault_19 : decode cX5_fault 19 = .ok (.aload_n 0, 1) := by decide +kernel
theorem dX5_fault_20 : decode cX5_fault 20 = .ok (.getfield 118, 3) := by decide +kernel
theorem dX5_fault_23 : decode cX5_fault 23 = .ok (.putfield 109, 3) := by decide +kernel
theorem dX5_fault_26 : decode cX5_fault 26 = .ok (.aload_n 0, 1) := by decide +kernel
theorem dX5_fault_27 : decode cX5_fault 27 = .ok (.invokevirtual 90, 3) := by decide +kernel
theorem dX5_fault_30 : decode cX5_fault 30 = .ok (.aload_n 0, 1) := by decide +kernel
theorem dX5_fault_31 : decode cX5_fault 31 = .ok (.invokevirtual 121, 3) := by decide +kernel
theorem dX5_fault_34 : decode cX5_fault 34 = .ok (.ifCond .ne 8, 3) := by decide +kernel
theorem dX5_fault_37 : decode cX5_fault 37 = .ok (.aload_n 0, 1) := by decide +kernel
theorem dX5_fault_38 : decode cX5_fault 38 = .ok (.getfield 62, 3) := by decide +kernel
theorem dX5_fault_41 : decode cX5_fault 41 = .ok (.ireturn, 1) := by decide +kernel
theorem dX5_fault_42 : decode cX5_fault 42 = .ok (.aload_n 0, 1) := by decide +kernel
theorem dX5_fault_43 : decode cX5_fault 43 = .ok (.getfield 62, 3) := by decide +kernel
theorem dX5_fault_46 : decode cX5_fault 46 = .ok (.aload_n 0, 1) := by decide +kernel
theorem dX5_fault_47 : decode cX5_fault 47 = .ok (.getfield 54, 3) := by decide +kernel
theorem dX5_fault_50 : decode cX5_fault 50 = .ok (.if_icmp .ge 70, 3) := by decide +kernel
theorem dX5_fault_53 : decode cX5_fault 53 = .ok (.aload_n 0, 1) := by decide +kernel
theorem dX5_fault_54 : decode cX5_fault 54 = .ok (.getfield 69, 3) := by decide +kernel
theorem dX5_fault_57 : decode cX5_fault 57 = .ok (.aload_n 0, 1) := by decide +kernel
theorem dX5_fault_58 : decode cX5_fault 58 = .ok (.getfield 62, 3) := by decide +kernel
theorem dX5_fault_61 : decode cX5_fault 61 = .ok (.isub, 1) := by decide +kernel
theorem dX5_fault_62 : decode cX5_fault 62 = .ok (.iconst 1, 1) := by decide +kernel
theorem dX5_fault_63 : decode cX5_fault 63 = .ok (.if_icmp .ne 30, 3) := by decide +kernel
theorem dX5_fault_66 : decode cX5_fault 66 = .ok (.aload_n 0, 1) := by decide +kernel
theorem dX5_fault_67 : decode cX5_fault 67 = .ok (.getfield 17, 3) := by decide +kernel
theorem dX5_fault_70 : decode cX5_fault 70 = .ok (.aload_n 0, 1) := by decide +kernel
theorem dX5_fault_71 : decode cX5_fault 71 = .ok (.getfield 62, 3) := by decide +kernel
theorem dX5_fault_74 : decode cX5_fault 74 = .ok (.iaload, 1) := by decide +kernel
theorem dX5_fault_75 : decode cX5_fault 75 = .ok (.bipush 59, 2) := by decide +kernel
theorem dX5_fault_77 : decode cX5_fault 77 = .ok (.if_icmp .ne 16, 3) := by decide +kernel
theorem dX5_fault_80 : decode cX5_fault 80 = .ok (.aload_n 0, 1) := by decide +kernel
theorem dX5_fault_81 : decode cX5_fault 81 = .ok (.getfield 87, 3) := by decide +kernel
theorem dX5_fault_84 : decode cX5_fault 84 = .ok (.bipush 12, 2) := by decide +kernel
theorem dX5_fault_86 : decode cX5_fault 86 = .ok (.if_icmp .ge 7, 3) := by decide +kernel
theorem dX5_fault_89 : decode cX5_fault 89 = .ok (.iconst 1, 1) := by decide +kernel
theorem dX5_fault_90 : decode cX5_fault 90 = .ok (.goto 4, 3) := by decide +kernel
theorem dX5_fault_93 : decode cX5_fault 93 = .ok (.iconst 0, 1) := by decide +kernel
theorem dX5_fault_94 : decode cX5_fault 94 = .ok (.istore_n 1, 1) := by decide +kernel
theorem dX5_fault_95 : decode cX5_fault 95 = .ok (.iload_n 1, 1) := by decide +kernel
theorem dX5_fault_96 : decode cX5_fault 96 = .ok (.ifCond .eq 12, 3) := by decide +kernel
theorem dX5_fault_99 : decode cX5_fault 99 = .ok (.aload_n 0, 1) := by decide +kernel
theorem dX5_fault_100 : decode cX5_fault 100 = .ok (.invokevirtual 90, 3) := by decide +kernel
theorem dX5_fault_103 : decode cX5_fault 103 = .ok (.aload_n 0, 1) := by decide +kernel
theorem dX5_fault_104 : decode cX5_fault 104 = .ok (.invokevirtual 121, 3) := by decide +kernel
theorem dX5_fault_107 : decode cX5_fault 107 = .ok (.istore_n 1, 1) := by decide +kernel
theorem dX5_fault_108 : decode cX5_fault 108 = .ok (.iload_n 1, 1) := by decide +kernel
theorem dX5_fault_109 : decode cX5_fault 109 = .ok (.ifCond .ne 8, 3) := by decide +kernel
theorem dX5_fault_112 : decode cX5_fault 112 = .ok (.aload_n 0, 1) := by decide +kernel
theorem dX5_fault_113 : decode cX5_fault 113 = .ok (.getfield 62, 3) := by decide +kernel
theorem dX5_fault_116 : decode cX5_fault 116 = .ok (.ireturn, 1) := by decide +kernel
theorem dX5_fault_117 : decode cX5_fault 117 = .ok (.goto (-75), 3) := by decide +kernel
theorem dX5_fault_120 : decode cX5_fault 120 = .ok (.iconst (-1), 1) := by decide +kernel
theorem dX5_fault_121 : decode cX5_fault 121 = .ok (.ireturn, 1) := by decide +kernel
theorem dX5_tell_0 : decode cX5_tell 0 = .ok (.aload_n 0, 1) := by decide +kernel
theorem dX5_tell_1 : decode cX5_tell 1 = .ok (.getfield 20, 3) := by decide +kernel
theorem dX5_tell_4 : decode cX5_tell 4 = .ok (.iload_n 1, 1) := by decide +kernel
theorem dX5_tell_5 : decode cX5_tell 5 = .ok (.iconst 1, 1) := by decide +kernel
theorem dX5_tell_6 : decode cX5_tell 6 = .ok (.iadd, 1) := by decide +kernel
theorem dX5_tell_7 : decode cX5_tell 7 = .ok (.iaload, 1) := by decide +kernel
theorem dX5_tell_8 : decode cX5_tell 8 = .ok (.istore_n 2, 1) := by decide +kernel
theorem dX5_tell_9 : decode cX5_tell 9 = .ok (.aload_n 0, 1) := by decide +kernel
theorem dX5_tell_10 : decode cX5_tell 10 = .ok (.getfield 20, 3) := by decide +kernel
theorem dX5_tell_13 : decode cX5_tell 13 = .ok (.iload_n 1, 1) := by decide +kernel
theorem dX5_tell_14 : decode cX5_tell 14 = .ok (.iaload, 1) := by decide +kernel
theorem dX5_tell_15 : decode cX5_tell 15 = .ok (.tableswitch 126 0 7 #[45, 126, 126, 126, 126, 61, 76, 120], 45) := by decide +kernel
theorem dX5_tell_60 : decode cX5_tell 60 = .ok (.aload_n 0, 1) := by decide +kernel
theorem dX5_tell_61 : decode cX5_tell 61 = .ok (.iconst 0, 1) := by decide +kernel
theorem dX5_tell_62 : decode cX5_tell 62 = .ok (.putfield 115, 3) := by decide +kernel
theorem dX5_tell_65 : decode cX5_tell 65 = .ok (.aload_n 0, 1) := by decide +kernel
theorem dX5_tell_66 : decode cX5_tell 66 = .ok (.iconst 0, 1) := by decide +kernel
theorem dX5_tell_67 : decode cX5_tell 67 = .ok (.putfield 118, 3) := by decide +kernel
theorem dX5_tell_70 : decode cX5_tell 70 = .ok (.aload_n 0, 1) := by decide +kernel
theorem dX5_tell_71 : decode cX5_tell 71 = .ok (.iconst 5, 1) := by decide +kernel
theorem dX5_tell_72 : decode cX5_tell 72 = .ok (.putfield 38, 3) := by decide +kernel
theorem dX5_tell_75 : decode cX5_tell 75 = .ok (.return_, 1) := by decide +kernel
theorem dX5_tell_76 : decode cX5_tell 76 = .ok (.aload_n 0, 1) := by decide +kernel
theorem dX5_tell_77 : decode cX5_tell 77 = .ok (.getfield 32, 3) := by decide +kernel
theorem dX5_tell_80 : decode cX5_tell 80 = .ok (.iload_n 2, 1) := by decide +kernel
theorem dX5_tell_81 : decode cX5_tell 81 = .ok (.aload_n 0, 1) := by decide +kernel
theorem dX5_tell_82 : decode cX5_tell 82 = .ok (.getfield 20, 3) := by decide +kernel
theorem dX5_tell_85 : decode cX5_tell 85 = .ok (.iload_n 1, 1) := by decide +kernel
theorem dX5_tell_86 : decode cX5_tell 86 = .ok (.iconst 2, 1) := by decide +kernel
theorem dX5_tell_87 : decode cX5_tell 87 = .ok (.iadd, 1) := by decide +kernel
theorem dX5_tell_88 : decode cX5_tell 88 = .ok (.iaload, 1) := by decide +kernel
theorem dX5_tell_89 : decode cX5_tell 89 = .ok (.iastore, 1) := by decide +kernel
theorem dX5_tell_90 : decode cX5_tell 90 = .ok (.return_, 1) := by decide +kernel
theorem dX5_tell_91 : decode cX5_tell 91 = .ok (.aload_n 0, 1) := by decide +kernel
theorem dX5_tell_92 : decode cX5_tell 92 = .ok (.getfield 35, 3) := by decide +kernel
theorem dX5_tell_95 : decode cX5_tell 95 = .ok (.iconst 2, 1) := by decide +kernel
theorem dX5_tell_96 : decode cX5_tell 96 = .ok (.aload_n 0, 1) := by decide +kernel
theorem dX5_tell_97 : decode cX5_tell 97 = .ok (.getfield 118, 3) := by decide +kernel
theorem dX5_tell_100 : decode cX5_tell 100 = .ok (.imul, 1) := by decide +kernel
theorem dX5_tell_101 : decode cX5_tell 101 = .ok (.iload_n 2, 1) := by decide +kernel
theorem dX5_tell_102 : decode cX5_tell 102 = .ok (.iastore, 1) := by decide +kernel
theorem dX5_tell_103 : decode cX5_tell 103 = .ok (.aload_n 0, 1) := by decide +kernel
theorem dX5_tell_104 : decode cX5_tell 104 = .ok (.getfield 35, 3) := by decide +kernel
theorem dX5_tell_107 : decode cX5_tell 107 = .ok (.iconst 2, 1) := by decide +kernel
theorem dX5_tell_108 : decode cX5_tell 108 = .ok (.aload_n 0, 1) := by decide +kernel
theorem dX5_tell_109 : decode cX5_tell 109 = .ok (.getfield 118, 3) := by decide +kernel
theorem dX5_tell_112 : decode cX5_tell 112 = .ok (.imul, 1) := by decide +kernel
theorem dX5_tell_113 : decode cX5_tell 113 = .ok (.iconst 1, 1) := by decide +kernel
theorem dX5_tell_114 : decode cX5_tell 114 = .ok (.iadd, 1) := by decide +kernel
theorem dX5_tell_115 : decode cX5_tell 115 = .ok (.aload_n 0, 1) := by decide +kernel
theorem dX5_tell_116 : decode cX5_tell 116 = .ok (.getfield 20, 3) := by decide +kernel
theorem dX5_tell_119 : decode cX5_tell 119 = .ok (.iload_n 1, 1) := by decide +kernel
theorem dX5_tell_120 : decode cX5_tell 120 = .ok (.iconst 2, 1) := by decide +kernel
theorem dX5_tell_121 : decode cX5_tell 121 = .ok (.iadd, 1) := by decide +kernel
theorem dX5_tell_122 : decode cX5_tell 122 = .ok (.iaload, 1) := by decide +kernel
theorem dX5_tell_123 : decode cX5_tell 123 = .ok (.iastore, 1) := by decide +kernel
theorem dX5_tell_124 : decode cX5_tell 124 = .ok (.aload_n 0, 1) := by decide +kernel
theorem dX5_tell_125 : decode cX5_tell 125 = .ok (.dup, 1) := by decide +kernel
theorem dX5_tell_126 : decode cX5_tell 126 = .ok (.getfield 118, 3) := by decide +kernel
theorem dX5_tell_129 : decode cX5_tell 129 = .ok (.iconst 1, 1) := by decide +kernel
theorem dX5_tell_130 : decode cX5_tell 130 = .ok (.iadd, 1) := by decide +kernel
theorem dX5_tell_131 : decode cX5_tell 131 = .ok (.putfield 118, 3) := by decide +kernel
theorem dX5_tell_134 : decode cX5_tell 134 = .ok (.return_, 1) := by decide +kernel
theorem dX5_tell_135 : decode cX5_tell 135 = .ok (.aload_n 0, 1) := by decide +kernel
theorem dX5_tell_136 : decode cX5_tell 136 = .ok (.iload_n 2, 1) := by decide +kernel
theorem dX5_tell_137 : decode cX5_tell 137 = .ok (.putfield 38, 3) := by decide +kernel
theorem dX5_tell_140 : decode cX5_tell 140 = .ok (.return_, 1) := by decide +kernel
theorem dX5_tell_141 : decode cX5_tell 141 = .ok (.aload_n 0, 1) := by decide +kernel
theorem dX5_tell_142 : decode cX5_tell 142 = .ok (.getfield 23, 3) := by decide +kernel
theorem dX5_tell_145 : decode cX5_tell 145 = .ok (.aload_n 0, 1) := by decide +kernel
theorem dX5_tell_146 : decode cX5_tell 146 = .ok (.getfield 115, 3) := by decide +kernel
theorem dX5_tell_149 : decode cX5_tell 149 = .ok (.aload_n 0, 1) := by decide +kernel
theorem dX5_tell_150 : decode cX5_tell 150 = .ok (.getfield 20, 3) := by decide +kernel
theorem dX5_tell_153 : decode cX5_tell 153 = .ok (.iload_n 1, 1) := by decide +kernel
theorem dX5_tell_154 : decode cX5_tell 154 = .ok (.iaload, 1) := by decide +kernel
theorem dX5_tell_155 : decode cX5_tell 155 = .ok (.iconst 1, 1) := by decide +kernel
theorem dX5_tell_156 : decode cX5_tell 156 = .ok (.isub, 1) := by decide +kernel
theorem dX5_tell_157 : decode cX5_tell 157 = .ok (.iastore, 1) := by decide +kernel
theorem dX5_tell_158 : decode cX5_tell 158 = .ok (.aload_n 0, 1) := by decide +kernel
theorem dX5_tell_159 : decode cX5_tell 159 = .ok (.getfield 7, 3) := by decide +kernel
theorem dX5_tell_162 : decode cX5_tell 162 = .ok (.sipush 302, 3) := by decide +kernel
theorem dX5_tell_165 : decode cX5_tell 165 = .ok (.aload_n 0, 1) := by decide +kernel
theorem dX5_tell_166 : decode cX5_tell 166 = .ok (.getfield 115, 3) := by decide +kernel
theorem dX5_tell_169 : decode cX5_tell 169 = .ok (.iadd, 1) := by decide +kernel
theorem dX5_tell_170 : decode cX5_tell 170 = .ok (.iload_n 2, 1) := by decide +kernel
theorem dX5_tell_171 : decode cX5_tell 171 = .ok (.iastore, 1) := by decide +kernel
theorem dX5_tell_172 : decode cX5_tell 172 = .ok (.aload_n 0, 1) := by decide +kernel
theorem dX5_tell_173 : decode cX5_tell 173 = .ok (.getfield 26, 3) := by decide +kernel
theorem dX5_tell_176 : decode cX5_tell 176 = .ok (.aload_n 0, 1) := by decide +kernel
theorem dX5_tell_177 : decode cX5_tell 177 = .ok (.getfield 115, 3) := by decide +kernel
theorem dX5_tell_180 : decode cX5_tell 180 = .ok (.aload_n 0, 1) := by decide +kernel
theorem dX5_tell_181 : decode cX5_tell 181 = .ok (.getfield 20, 3) := by decide +kernel
theorem dX5_tell_184 : decode cX5_tell 184 = .ok (.iload_n 1, 1) := by decide +kernel
theorem dX5_tell_185 : decode cX5_tell 185 = .ok (.iconst 2, 1) := by decide +kernel
theorem dX5_tell_186 : decode cX5_tell 186 = .ok (.iadd, 1) := by decide +kernel
theorem dX5_tell_187 : decode cX5_tell 187 = .ok (.iaload, 1) := by decide +kernel
theorem dX5_tell_188 : decode cX5_tell 188 = .ok (.iastore, 1) := by decide +kernel
theorem dX5_tell_189 : decode cX5_tell 189 = .ok (.aload_n 0, 1) := by decide +kernel
theorem dX5_tell_190 : decode cX5_tell 190 = .ok (.getfield 29, 3) := by decide +kernel
theorem dX5_tell_193 : decode cX5_tell 193 = .ok (.aload_n 0, 1) := by decide +kernel
theorem dX5_tell_194 : decode cX5_tell 194 = .ok (.getfield 115, 3) := by decide +kernel
theorem dX5_tell_197 : decode cX5_tell 197 = .ok (.aload_n 0, 1) := by decide +kernel
theorem dX5_tell_198 : decode cX5_tell 198 = .ok (.getfield 20, 3) := by decide +kernel
theorem dX5_tell_201 : decode cX5_tell 201 = .ok (.iload_n 1, 1) := by decide +kernel
theorem dX5_tell_202 : decode cX5_tell 202 = .ok (.iconst 3, 1) := by decide +kernel
theorem dX5_tell_203 : decode cX5_tell 203 = .ok (.iadd, 1) := by decide +kernel
theorem dX5_tell_204 : decode cX5_tell 204 = .ok (.iaload, 1) := by decide +kernel
theorem dX5_tell_205 : decode cX5_tell 205 = .ok (.iastore, 1) := by decide +kernel
theorem dX5_tell_206 : decode cX5_tell 206 = .ok (.aload_n 0, 1) := by decide +kernel
theorem dX5_tell_207 : decode cX5_tell 207 = .ok (.getfield 32, 3) := by decide +kernel
theorem dX5_tell_210 : decode cX5_tell 210 = .ok (.aload_n 0, 1) := by decide +kernel
theorem dX5_tell_211 : decode cX5_tell 211 = .ok (.getfield 115, 3) := by decide +kernel
theorem dX5_tell_214 : decode cX5_tell 214 = .ok (.iconst 0, 1) := by decide +kernel
theorem dX5_tell_215 : decode cX5_tell 215 = .ok (.iastore, 1) := by decide +kernel
theorem dX5_tell_216 : decode cX5_tell 216 = .ok (.aload_n 0, 1) := by decide +kernel
theorem dX5_tell_217 : decode cX5_tell 217 = .ok (.dup, 1) := by decide +kernel
theorem dX5_tell_218 : decode cX5_tell 218 = .ok (.getfield 115, 3) := by decide +kernel
theorem dX5_tell_221 : decode cX5_tell 221 = .ok (.iconst 1, 1) := by decide +kernel
theorem dX5_tell_222 : decode cX5_tell 222 = .ok (.iadd, 1) := by decide +kernel
theorem dX5_tell_223 : decode cX5_tell 223 = .ok (.putfield 115, 3) := by decide +kernel
theorem dX5_tell_226 : decode cX5_tell 226 = .ok (.return_, 1) := by decide +kernel
set_option maxRecDepth 20000 in
theorem ggX5_wood_X5_fault : GoodIn wsX5_wood wsX5_fault := goodIn_sub (List.forall_mem_cons.mpr ⟨List.mem_cons_of_mem _ (List.mem_append_left _ (List.mem_append_left _ (List.mem_of_getElem? (i := 7) rfl))), List.forall_mem_append.mpr ⟨List.forall_mem_append.mpr ⟨List.forall_mem_cons.mpr ⟨List.mem_cons_of_mem _ (List.mem_append_left _ (List.mem_append_left _ (List.mem_of_getElem? (i := 8) rfl))), List.forall_mem_cons.mpr ⟨List.mem_cons_of_mem _ (List.mem_append_left _ (List.mem_append_left _ (List.mem_of_getElem? (i := 0) rfl))), List.forall_mem_cons.mpr ⟨List.mem_cons_of_mem _ (List.mem_append_left _ (List.mem_append_left _ (List.mem_of_getElem? (i := 9) rfl))), List.forall_mem_cons.mpr ⟨List.mem_cons_of_mem _ (List.mem_append_left _ (List.mem_append_left _ (List.mem_of_getElem? (i := 10) rfl))), List.forall_mem_cons.mpr ⟨List.mem_cons_of_mem _ (List.mem_append_left _ (List.mem_append_left _ (List.mem_of_getElem? (i := 11) rfl))), List.forall_mem_cons.mpr ⟨List.mem_cons_of_mem _ (List.mem_append_left _ (List.mem_append_left _ (List.mem_of_getElem? (i := 12) rfl))), List.forall_mem_cons.mpr ⟨List.mem_cons_of_mem _ (List.mem_append_left _ (List.mem_append_left _ (List.mem_of_getElem? (i := 13) rfl))), List.forall_mem_cons.mpr ⟨List.mem_cons_of_mem _ (List.mem_append_left _ (List.mem_append_left _ (List.mem_of_getElem? (i := 2) rfl))), List.forall_mem_cons.mpr ⟨List.mem_cons_of_mem _ (List.mem_append_left _ (List.mem_append_left _ (List.mem_of_getElem? (i := 14) rfl))), List.forall_mem_cons.mpr ⟨List.mem_cons_of_mem _ (List.mem_append_left _ (List.mem_append_left _ (List.mem_of_getElem? (i := 15) rfl))), List.forall_mem_cons.mpr ⟨List.mem_cons_of_mem _ (List.mem_append_left _ (List.mem_append_left _ (List.mem_of_getElem? (i := 16) rfl))), List.forall_mem_cons.mpr ⟨List.mem_cons_of_mem _ (List.mem_append_left _ (List.mem_append_left _ (List.mem_of_getElem? (i := 17) rfl))), List.forall_mem_cons.mpr ⟨List.mem_cons_of_mem _ (List.mem_append_left _ (List.mem_append_left _ (List.mem_of_getElem? (i := 18) rfl))), List.forall_mem_cons.mpr ⟨List.mem_cons_of_mem _ (List.mem_append_left _ (List.mem_append_left _ (List.mem_of_getElem? (i := 6) rfl))), List.forall_mem_cons.mpr ⟨List.mem_cons_of_mem _ (List.mem_append_left _ (List.mem_append_left _ (List.mem_of_getElem? (i := 19) rfl))), List.forall_mem_cons.mpr ⟨List.mem_cons_of_mem _ (List.mem_append_left _ (List.mem_append_left _ (List.mem_of_getElem? (i := 20) rfl))), List.forall_mem_cons.mpr ⟨List.mem_cons_of_mem _ (List.mem_append_left _ (List.mem_append_left _ (List.mem_of_getElem? (i := 21) rfl))), List.forall_mem_cons.mpr ⟨List.mem_cons_of_mem _ (List.mem_append_left _ (List.mem_append_left _ (List.mem_of_getElem? (i := 22) rfl))), List.forall_mem_cons.mpr ⟨List.mem_cons_of_mem _ (List.mem_append_left _ (List.mem_append_left _ (List.mem_of_getElem? (i := 23) rfl))), List.forall_mem_cons.mpr ⟨List.mem_cons_of_mem _ (List.mem_append_left _ (List.mem_append_right _ (List.mem_append_left _ (List.mem_of_getElem? (i := 0) rfl)))), List.forall_mem_cons.mpr ⟨List.mem_cons_of_mem _ (List.mem_append_left _ (List.mem_append_right _ (List.mem_append_left _ (List.mem_of_getElem? (i := 1) rfl)))), List.forall_mem_cons.mpr ⟨List.mem_cons_of_mem _ (List.mem_append_left _ (List.mem_append_right _ (List.mem_append_left _ (List.mem_of_getElem? (i := 2) rfl)))), List.forall_mem_cons.mpr ⟨List.mem_cons_of_mem _ (List.mem_append_left _ (List.mem_append_right _ (List.mem_append_left _ (List.mem_of_getElem? (i := 3) rfl)))), List.forall_mem_cons.mpr ⟨List.mem_cons_of_mem _ (List.mem_append_left _ (List.mem_append_right _ (List.mem_append_left _ (List.mem_of_getElem? (i := 4) rfl)))), (fun _ h => absurd h List.not_mem_nil)⟩⟩⟩⟩⟩⟩⟩⟩⟩⟩⟩⟩⟩⟩⟩⟩⟩⟩⟩⟩⟩⟩⟩⟩, List.forall_mem_append.mpr ⟨List.forall_mem_cons.mpr ⟨List.mem_cons_of_mem _ (List.mem_append_left _ (List.mem_append_right _ (List.mem_append_left _ (List.mem_of_getElem? (i := 5) rfl)))), List.forall_mem_cons.mpr ⟨List.mem_cons_of_mem _ (List.mem_append_left _ (List.mem_append_right _ (List.mem_append_left _ (List.mem_of_getElem? (i := 6) rfl)))), List.forall_mem_cons.mpr ⟨List.mem_cons_of_mem _ (List.mem_append_left _ (List.mem_append_right _ (List.mem_append_left _ (List.mem_of_getElem? (i := 7) rfl)))), List.forall_mem_cons.mpr ⟨List.mem_cons_of_mem _ (List.mem_append_left _ (List.mem_append_right _ (List.mem_append_left _ (List.mem_of_getElem? (i := 8) rfl)))), List.forall_mem_cons.mpr ⟨List.mem_cons_of_mem _ (List.mem_append_left _ (List.mem_append_right _ (List.mem_append_left _ (List.mem_of_getElem? (i := 9) rfl)))), List.forall_mem_cons.mpr ⟨List.mem_cons_of_mem _ (List.mem_append_left _ (List.mem_append_right _ (List.mem_append_left _ (List.mem_of_getElem? (i := 10) rfl)))), List.forall_mem_cons.mpr ⟨List.mem_cons_of_mem _ (List.mem_append_left _ (List.mem_append_right _ (List.mem_append_left _ (List.mem_of_getElem? (i := 11) rfl)))), List.forall_mem_cons.mpr ⟨List.mem_cons_of_mem _ (List.mem_append_left _ (List.mem_append_right _ (List.mem_append_left _ (List.mem_of_getElem? (i := 12) rfl)))), List.forall_mem_cons.mpr ⟨List.mem_cons_of_mem _ (List.mem_append_left _ (List.mem_append_right _ (List.mem_append_left _ (List.mem_of_getElem? (i := 13) rfl)))), List.forall_mem_cons.mpr ⟨List.mem_cons_of_mem _ (List.mem_append_left _ (List.mem_append_right _ (List.mem_append_left _ (List.mem_of_getElem? (i := 14) rfl)))), List.forall_mem_cons.mpr ⟨List.mem_cons_of_mem _ (List.mem_append_left _ (List.mem_append_right _ (List.mem_append_left _ (List.mem_of_getElem? (i := 15) rfl)))), List.forall_mem_cons.mpr ⟨List.mem_cons_of_mem _ (List.mem_append_left _ (List.mem_append_right _ (List.mem_append_left _ (List.mem_of_getElem? (i := 16) rfl)))), List.forall_mem_cons.mpr ⟨List.mem_cons_of_mem _ (List.mem_append_left _ (List.mem_append_right _ (List.mem_append_left _ (List.mem_of_getElem? (i := 17) rfl)))), List.forall_mem_cons.mpr ⟨List.mem_cons_of_mem _ (List.mem_append_left _ (List.mem_append_right _ (List.mem_append_left _ (List.mem_of_getElem? (i := 18) rfl)))), List.forall_mem_cons.mpr ⟨List.mem_cons_of_mem _ (List.mem_append_left _ (List.mem_append_right _ (List.mem_append_left _ (List.mem_of_getElem? (i := 19) rfl)))), List.forall_mem_cons.mpr ⟨List.mem_cons_of_mem _ (List.mem_append_left _ (List.mem_append_right _ (List.mem_append_left _ (List.mem_of_getElem? (i := 20) rfl)))), List.forall_mem_cons.mpr ⟨List.mem_cons_of_mem _ (List.mem_append_left _ (List.mem_append_right _ (List.mem_append_left _ (List.mem_of_getElem? (i := 21) rfl)))), List.forall_mem_cons.mpr ⟨List.mem_cons_of_mem _ (List.mem_append_left _ (List.mem_append_right _ (List.mem_append_left _ (List.mem_of_getElem? (i := 22) rfl)))), List.forall_mem_cons.mpr ⟨List.mem_cons_of_mem _ (List.mem_append_left _ (List.mem_append_right _ (List.mem_append_left _ (List.mem_of_getElem? (i := 23) rfl)))), List.forall_mem_cons.mpr ⟨List.mem_cons_of_mem _ (List.mem_append_left _ (List.mem_append_right _ (List.mem_append_right _ (List.mem_append_left _ (List.mem_of_getElem? (i := 0) rfl))))), List.forall_mem_cons.mpr ⟨List.mem_cons_of_mem _ (List.mem_append_left _ (List.mem_append_right _ (List.mem_append_right _ (List.mem_append_left _ (List.mem_of_getElem? (i := 1) rfl))))), List.forall_mem_cons.mpr ⟨List.mem_cons_of_mem _ (List.mem_append_left _ (List.mem_append_right _ (List.mem_append_right _ (List.mem_append_left _ (List.mem_of_getElem? (i := 2) rfl))))), List.forall_mem_cons.mpr ⟨List.mem_cons_of_mem _ (List.mem_append_left _ (List.mem_append_right _ (List.mem_append_right _ (List.mem_append_left _ (List.mem_of_getElem? (i := 3) rfl))))), List.forall_mem_cons.mpr ⟨List.mem_cons_of_mem _ (List.mem_append_left _ (List.mem_append_right _ (List.mem_append_right _ (List.mem_append_left _ (List.mem_of_getElem? (i := 4) rfl))))), (fun _ h => absurd h List.not_mem_nil)⟩⟩⟩⟩⟩⟩⟩⟩⟩⟩⟩⟩⟩⟩⟩⟩⟩⟩⟩⟩⟩⟩⟩⟩, List.forall_mem_cons.mpr ⟨List.mem_cons_of_mem _ (List.mem_append_left _ (List.mem_append_right _ (List.mem_append_right _ (List.mem_append_left _ (List.mem_of_getElem? (i := 5) rfl))))), List.forall_mem_cons.mpr ⟨List.mem_cons_of_mem _ (List.mem_append_left _ (List.mem_append_right _ (List.mem_append_right _ (List.mem_append_left _ (List.mem_of_getElem? (i := 6) rfl))))), List.forall_mem_cons.mpr ⟨List.mem_cons_of_mem _ (List.mem_append_left _ (List.mem_append_right _ (List.mem_append_right _ (List.mem_append_left _ (List.mem_of_getElem? (i := 7) rfl))))), List.forall_mem_cons.mpr ⟨List.mem_cons_of_mem _ (List.mem_append_left _ (List.mem_append_right _ (List.mem_append_right _ (List.mem_append_left _ (List.mem_of_getElem? (i := 8) rfl))))), List.forall_mem_cons.mpr ⟨List.mem_cons_of_mem _ (List.mem_append_left _ (List.mem_append_right _ (List.mem_append_right _ (List.mem_append_left _ (List.mem_of_getElem? (i := 9) rfl))))), List.forall_mem_cons.mpr ⟨List.mem_cons_of_mem _ (List.mem_append_left _ (List.mem_append_right _ (List.mem_append_right _ (List.mem_append_left _ (List.mem_of_getElem? (i := 10) rfl))))), List.forall_mem_cons.mpr ⟨List.mem_cons_of_mem _ (List.mem_append_left _ (List.mem_append_right _ (List.mem_append_right _ (List.mem_append_left _ (List.mem_of_getElem? (i := 11) rfl))))), List.forall_mem_cons.mpr ⟨List.mem_cons_of_mem _ (List.mem_append_left _ (List.mem_append_right _ (List.mem_append_right _ (List.mem_append_left _ (List.mem_of_getElem? (i := 12) rfl))))), List.forall_mem_cons.mpr ⟨List.mem_cons_of_mem _ (List.mem_append_left _ (List.mem_append_right _ (List.mem_append_right _ (List.mem_append_left _ (List.mem_of_getElem? (i := 13) rfl))))), (fun _ h => absurd h List.not_mem_nil)⟩⟩⟩⟩⟩⟩⟩⟩⟩⟩⟩, (fun _ h => List.mem_cons_of_mem _ (List.mem_append_right _ (h)))⟩⟩) (by decide +kernel)
set_option maxRecDepth 20000 in
theorem gX5_wood_X5_fault : GoodIn wsX5_wood (wsV RX5 125 RX5 yX5_fault wsX5_fault) := goodIn_app (goodIn_sub (List.forall_mem_cons.mpr ⟨List.mem_cons_of_mem _ (List.mem_append_left _ (List.mem_append_left _ (List.mem_of_getElem? (i := 3) rfl))), List.forall_mem_cons.mpr ⟨List.mem_cons_of_mem _ (List.mem_append_left _ (List.mem_append_left _ (List.mem_of_getElem? (i := 4) rfl))), List.forall_mem_cons.mpr ⟨List.mem_cons_of_mem _ (List.mem_append_left _ (List.mem_append_left _ (List.mem_of_getElem? (i := 5) rfl))), List.forall_mem_cons.mpr ⟨List.mem_cons_of_mem _ (List.mem_append_left _ (List.mem_append_left _ (List.mem_of_getElem? (i := 6) rfl))), (fun _ h => absurd h List.not_mem_nil)⟩⟩⟩⟩) (by decide +kernel)) ggX5_wood_X5_fault
set_option maxRecDepth 20000 in
theorem ggX5_wood_X5_tell : GoodIn wsX5_wood wsX5_tell := goodIn_sub (List.forall_mem_cons.mpr ⟨List.mem_cons_of_mem _ (List.mem_append_left _ (List.mem_append_right _ (List.mem_append_right _ (List.mem_append_left _ (List.mem_of_getElem? (i := 17) rfl))))), List.forall_mem_append.mpr ⟨List.forall_mem_cons.mpr ⟨List.mem_cons_of_mem _ (List.mem_append_left _ (List.mem_append_right _ (List.mem_append_left _ (List.mem_of_getElem? (i := 3) rfl)))), List.forall_mem_cons.mpr ⟨List.mem_cons_of_mem _ (List.mem_append_left _ (List.mem_append_left _ (List.mem_of_getElem? (i := 9) rfl))), List.forall_mem_cons.mpr ⟨List.mem_cons_of_mem _ (List.mem_append_left _ (List.mem_append_left _ (List.mem_of_getElem? (i := 11) rfl))), List.forall_mem_cons.mpr ⟨List.mem_cons_of_mem _ (List.mem_append_left _ (List.mem_append_right _ (List.mem_append_right _ (List.mem_append_left _ (List.mem_of_getElem? (i := 18) rfl))))), List.forall_mem_cons.mpr ⟨List.mem_cons_of_mem _ (List.mem_append_left _ (List.mem_append_right _ (List.mem_append_right _ (List.mem_append_left _ (List.mem_of_getElem? (i := 19) rfl))))), List.forall_mem_cons.mpr ⟨List.mem_cons_of_mem _ (List.mem_append_left _ (List.mem_append_right _ (List.mem_append_right _ (List.mem_append_left _ (List.mem_of_getElem? (i := 20) rfl))))), List.forall_mem_cons.mpr ⟨List.mem_cons_of_mem _ (List.mem_append_left _ (List.mem_append_right _ (List.mem_append_right _ (List.mem_append_left _ (List.mem_of_getElem? (i := 21) rfl))))), List.forall_mem_cons.mpr ⟨List.mem_cons_of_mem _ (List.mem_append_left _ (List.mem_append_right _ (List.mem_append_right _ (List.mem_append_left _ (List.mem_of_getElem? (i := 22) rfl))))), List.forall_mem_cons.mpr ⟨List.mem_cons_of_mem _ (List.mem_append_left _ (List.mem_append_right _ (List.mem_append_right _ (List.mem_append_left _ (List.mem_of_getElem? (i := 23) rfl))))), List.forall_mem_cons.mpr ⟨List.mem_cons_of_mem _ (List.mem_append_left _ (List.mem_append_right _ (List.mem_append_right _ (List.mem_append_right _ (List.mem_of_getElem? (i := 0) rfl))))), (fun _ h => absurd h List.not_mem_nil)⟩⟩⟩⟩⟩⟩⟩⟩⟩⟩, (fun _ h => List.mem_cons_of_mem _ (List.mem_append_right _ (h)))⟩⟩) (by decide +kernel)
set_option maxRecDepth 20000 in
theorem gX5_wood_X5_tell : GoodIn wsX5_wood (wsV RX5 128 RX5 yX5_tell wsX5_tell) := goodIn_app (goodIn_sub (List.forall_mem_cons.mpr ⟨List.mem_cons_of_mem _ (List.mem_append_left _ (List.mem_append_right _ (List.mem_append_right _ (List.mem_append_left _ (List.mem_of_getElem? (i := 14) rfl))))), List.forall_mem_cons.mpr ⟨List.mem_cons_of_mem _ (List.mem_append_left _ (List.mem_append_right _ (List.mem_append_right _ (List.mem_append_left _ (List.mem_of_getElem? (i := 15) rfl))))), List.forall_mem_cons.mpr ⟨List.mem_cons_of_mem _ (List.mem_append_left _ (List.mem_append_right _ (List.mem_append_right _ (List.mem_append_left _ (List.mem_of_getElem? (i := 16) rfl))))), List.forall_mem_cons.mpr ⟨List.mem_cons_of_mem _ (List.mem_append_left _ (List.mem_append_left _ (List.mem_of_getElem? (i := 6) rfl))), (fun _ h => absurd h List.not_mem_nil)⟩⟩⟩⟩) (by decide +kernel)) ggX5_wood_X5_tell
set_option maxRecDepth 20000 in
theorem ggX5_wood_X5_copy : GoodIn wsX5_wood wsX5_copy := goodIn_sub (List.forall_mem_cons.mpr ⟨List.mem_cons_of_mem _ (List.mem_append_left _ (List.mem_append_right _ (List.mem_append_right _ (List.mem_append_right _ (List.mem_of_getElem? (i := 4) rfl))))), List.forall_mem_append.mpr ⟨List.forall_mem_cons.mpr ⟨List.mem_cons_of_mem _ (List.mem_append_left _ (List.mem_append_right _ (List.mem_append_right _ (List.mem_append_left _ (List.mem_of_getElem? (i := 22) rfl))))), (fun _ h => absurd h List.not_mem_nil)⟩, (fun _ h => List.mem_cons_of_mem _ (List.mem_append_right _ (h)))⟩⟩) (by decide +kernel)
set_option maxRecDepth 20000 in
theorem gX5_wood_X5_copy : GoodIn wsX5_wood (wsV RX5 132 RX5 yX5_copy wsX5_copy) := goodIn_app (goodIn_sub (List.forall_mem_cons.mpr ⟨List.mem_cons_of_mem _ (List.mem_append_left _ (List.mem_append_right _ (List.mem_append_right _ (List.mem_append_right _ (List.mem_of_getElem? (i := 1) rfl))))), List.forall_mem_cons.mpr ⟨List.mem_cons_of_mem _ (List.mem_append_left _ (List.mem_append_right _ (List.mem_append_right _ (List.mem_append_right _ (List.mem_of_getElem? (i := 2) rfl))))), List.forall_mem_cons.mpr ⟨List.mem_cons_of_mem _ (List.mem_append_left _ (List.mem_append_right _ (List.mem_append_right _ (List.mem_append_right _ (List.mem_of_getElem? (i := 3) rfl))))), List.forall_mem_cons.mpr ⟨List.mem_cons_of_mem _ (List.mem_append_left _ (List.mem_append_left _ (List.mem_of_getElem? (i := 6) rfl))), (fun _ h => absurd h List.not_mem_nil)⟩⟩⟩⟩) (by decide +kernel)) ggX5_wood_X5_copy
theorem dX5_wood_0 : decode cX5_wood 0 = .ok (.aload_n 0, 1) := by decide +kernel
theorem dX5_wood_1 : decode cX5_wood 1 = .ok (.invokevirtual 125, 3) := by decide +kernel
theorem dX5_wood_4 : decode cX5_wood 4 = .ok (.iconst (-1), 1) := by decide +kernel
theorem dX5_wood_5 : decode cX5_wood 5 = .ok (.if_icmp .eq 6, 3) := by decide +kernel
theorem dX5_wood_8 : decode cX5_wood 8 = .ok (.bipush (-4), 2) := by decide +kernel
theorem dX5_wood_10 : decode cX5_wood 10 = .ok (.ireturn, 1) := by decide +kernel
theorem dX5_wood_11 : decode cX5_wood 11 = .ok (.iconst 0, 1) := by decide +kernel
theorem dX5_wood_12 : decode cX5_wood 12 = .ok (.istore_n 1, 1) := by decide +kernel
theorem dX5_wood_13 : decode cX5_wood 13 = .ok (.iload_n 1, 1) := by decide +kernel
theorem dX5_wood_14 : decode cX5_wood 14 = .ok (.aload_n 0, 1) := by decide +kernel
theorem dX5_wood_15 : decode cX5_wood 15 = .ok (.getfield 87, 3) := by decide +kernel
theorem dX5_wood_18 : decode cX5_wood 18 = .ok (.if_icmp .ge 16, 3) := by decide +kernel
theorem dX5_wood_21 : decode cX5_wood 21 = .ok (.aload_n 0, 1) := by decide +kernel
theorem dX5_wood_22 : decode cX5_wood 22 = .ok (.iconst 4, 1) := by decide +kernel
theorem dX5_wood_23 : decode cX5_wood 23 = .ok (.iload_n 1, 1) := by decide +kernel
theorem dX5_wood_24 : decode cX5_wood 24 = .ok (.imul, 1) := by decide +kernel
theorem dX5_wood_25 : decode cX5_wood 25 = .ok (.invokevirtual 128, 3) := by decide +kernel
theorem dX5_wood_28 : decode cX5_wood 28 = .ok (.iinc 1 1, 3) := by decide +kernel
theorem dX5_wood_31 : decode cX5_wood 31 = .ok (.goto (-18), 3) := by decide +kernel
theorem dX5_wood_34 : decode cX5_wood 34 = .ok (.aload_n 0, 1) := by decide +kernel
theorem dX5_wood_35 : decode cX5_wood 35 = .ok (.sipush 300, 3) := by decide +kernel
theorem dX5_wood_38 : decode cX5_wood 38 = .ok (.iconst 0, 1) := by decide +kernel
theorem dX5_wood_39 : decode cX5_wood 39 = .ok (.invokevirtual 132, 3) := by decide +kernel
theorem dX5_wood_42 : decode cX5_wood 42 = .ok (.aload_n 0, 1) := by decide +kernel
theorem dX5_wood_43 : decode cX5_wood 43 = .ok (.getfield 13, 3) := by decide +kernel
theorem dX5_wood_46 : decode cX5_wood 46 = .ok (.iconst 0, 1) := by decide +kernel
theorem dX5_wood_47 : decode cX5_wood 47 = .ok (.iconst 0, 1) := by decide +kernel
theorem dX5_wood_48 : decode cX5_wood 48 = .ok (.bastore, 1) := by decide +kernel
theorem dX5_wood_49 : decode cX5_wood 49 = .ok (.aload_n 0, 1) := by decide +kernel
theorem dX5_wood_50 : decode cX5_wood 50 = .ok (.getfield 13, 3) := by decide +kernel
theorem dX5_wood_53 : decode cX5_wood 53 = .ok (.iconst 1, 1) := by decide +kernel
theorem dX5_wood_54 : decode cX5_wood 54 = .ok (.iconst 0, 1) := by decide +kernel
theorem dX5_wood_55 : decode cX5_wood 55 = .ok (.bastore, 1) := by decide +kernel
theorem dX5_wood_56 : decode cX5_wood 56 = .ok (.aload_n 0, 1) := by decide +kernel
theorem dX5_wood_57 : decode cX5_wood 57 = .ok (.iconst 0, 1) := by decide +kernel
theorem dX5_wood_58 : decode cX5_wood 58 = .ok (.putfield 54, 3) := by decide +kernel
theorem dX5_wood_61 : decode cX5_wood 61 = .ok (.aload_n 0, 1) := by decide +kernel
theorem dX5_wood_62 : decode cX5_wood 62 = .ok (.getfield 87, 3) := by decide +kernel
theorem dX5_wood_65 : decode cX5_wood 65 = .ok (.ireturn, 1) := by decide +kernel
set_option maxRecDepth 20000 in
theorem ggX5_isTree_X5_in : GoodIn wsX5_isTree wsX5_in := goodIn_sub (List.forall_mem_cons.mpr ⟨List.mem_cons_of_mem _ (List.mem_append_left _ (List.mem_of_getElem? (i := 4) rfl)), (fun _ h => absurd h List.not_mem_nil)⟩) (by decide +kernel)

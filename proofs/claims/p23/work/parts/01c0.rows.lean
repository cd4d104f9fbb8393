theorem inJ6 : ∀ w ∈ wsJ60, w ∈ lw_tbl := by decide +kernel
theorem inJ9 : ∀ w ∈ wsJ90, w ∈ lw_tbl := by decide +kernel
theorem inJ0 : ∀ w ∈ wsJ00, w ∈ lw_tbl := by decide +kernel
theorem inJ1 : ∀ w ∈ wsJ10, w ∈ lw_tbl := by decide +kernel
theorem inJ2 : ∀ w ∈ wsJ20, w ∈ lw_tbl := by decide +kernel
theorem inJ10 : ∀ w ∈ wsJ100, w ∈ lw_tbl := by decide +kernel
theorem inJ3 : ∀ w ∈ wsJ30, w ∈ lw_tbl := by decide +kernel
theorem dX0_init_0 : decode cX0_init 0 = .ok (.aload_n 0, 1) := by decide +kernel
theorem dX0_init_1 : decode cX0_init 1 = .ok (.invokespecial 3, 3) := by decide +kernel
theorem dX0_init_4 : decode cX0_init 4 = .ok (.aload_n 0, 1) := by decide +kernel
theorem dX0_init_5 : decode cX0_init 5 = .ok (.bipush 7, 2) := by decide +kernel
theorem dX0_init_7 : decode cX0_init 7 = .ok (.bipush 100, 2) := by decide +kernel
theorem dX0_init_9 : decode cX0_init 9 = .ok (.multianewarray 9 2, 4) := by decide +kernel
theorem dX0_init_13 : decode cX0_init 13 = .ok (.putfield 11, 3) := by decide +kernel
theorem dX0_init_16 : decode cX0_init 16 = .ok (.aload_n 0, 1) := by decide +kernel
theorem dX0_init_17 : decode cX0_init 17 = .ok (.bipush 6, 2) := by decide +kernel
theorem dX0_init_19 : decode cX0_init 19 = .ok (.bipush 100, 2) := by decide +kernel
theorem dX0_init_21 : decode cX0_init 21 = .ok (.multianewarray 9 2, 4) := by decide +kernel
theorem dX0_init_25 : decode cX0_init 25 = .ok (.putfield 16, 3) := by decide +kernel
theorem dX0_init_28 : decode cX0_init 28 = .ok (.aload_n 0, 1) := by decide +kernel
theorem dX0_init_29 : decode cX0_init 29 = .ok (.bipush 100, 2) := by decide +kernel
theorem dX0_init_31 : decode cX0_init 31 = .ok (.newarray .int, 2) := by decide +kernel
theorem dX0_init_33 : decode cX0_init 33 = .ok (.putfield 19, 3) := by decide +kernel
theorem dX0_init_36 : decode cX0_init 36 = .ok (.aload_n 0, 1) := by decide +kernel
theorem dX0_init_37 : decode cX0_init 37 = .ok (.bipush 6, 2) := by decide +kernel
theorem dX0_init_39 : decode cX0_init 39 = .ok (.newarray .int, 2) := by decide +kernel
theorem dX0_init_41 : decode cX0_init 41 = .ok (.putfield 23, 3) := by decide +kernel
theorem dX0_init_44 : decode cX0_init 44 = .ok (.return_, 1) := by decide +kernel
set_option maxRecDepth 20000 in
theorem ggX0_find_X1_lends : GoodIn wsX0_find wsX1_lends := goodIn_sub (List.forall_mem_cons.mpr ⟨List.mem_cons_of_mem _ (List.mem_append_left _ (List.mem_append_left _ (List.mem_append_left _ (List.mem_append_left _ (List.mem_of_getElem? (i := 14) rfl))))), List.forall_mem_append.mpr ⟨List.forall_mem_append.mpr ⟨List.forall_mem_cons.mpr ⟨List.mem_cons_of_mem _ (List.mem_append_left _ (List.mem_append_left _ (List.mem_append_left _ (List.mem_append_left _ (List.mem_of_getElem? (i := 15) rfl))))), List.forall_mem_cons.mpr ⟨List.mem_cons_of_mem _ (List.mem_append_left _ (List.mem_append_left _ (List.mem_append_left _ (List.mem_append_left _ (List.mem_of_getElem? (i := 16) rfl))))), List.forall_mem_cons.mpr ⟨List.mem_cons_of_mem _ (List.mem_append_left _ (List.mem_append_left _ (List.mem_append_left _ (List.mem_append_left _ (List.mem_of_getElem? (i := 17) rfl))))), List.forall_mem_cons.mpr ⟨List.mem_cons_of_mem _ (List.mem_append_left _ (List.mem_append_left _ (List.mem_append_left _ (List.mem_append_left _ (List.mem_of_getElem? (i := 18) rfl))))), List.forall_mem_cons.mpr ⟨List.mem_cons_of_mem _ (List.mem_append_left _ (List.mem_append_left _ (List.mem_append_left _ (List.mem_append_left _ (List.mem_of_getElem? (i := 13) rfl))))), List.forall_mem_cons.mpr ⟨List.mem_cons_of_mem _ (List.mem_append_left _ (List.mem_append_left _ (List.mem_append_left _ (List.mem_append_left _ (List.mem_of_getElem? (i := 19) rfl))))), List.forall_mem_cons.mpr ⟨List.mem_cons_of_mem _ (List.mem_append_left _ (List.mem_append_left _ (List.mem_append_left _ (List.mem_append_left _ (List.mem_of_getElem? (i := 20) rfl))))), List.forall_mem_cons.mpr ⟨List.mem_cons_of_mem _ (List.mem_append_left _ (List.mem_append_left _ (List.mem_append_left _ (List.mem_append_left _ (List.mem_of_getElem? (i := 21) rfl))))), List.forall_mem_cons.mpr ⟨List.mem_cons_of_mem _ (List.mem_append_left _ (List.mem_append_left _ (List.mem_append_left _ (List.mem_append_left _ (List.mem_of_getElem? (i := 22) rfl))))), List.forall_mem_cons.mpr ⟨List.mem_cons_of_mem _ (List.mem_append_left _ (List.mem_append_left _ (List.mem_append_left _ (List.mem_append_left _ (List.mem_of_getElem? (i := 23) rfl))))), List.forall_mem_cons.mpr ⟨List.mem_cons_of_mem _ (List.mem_append_left _ (List.mem_append_left _ (List.mem_append_left _ (List.mem_append_right _ (List.mem_append_left _ (List.mem_of_getElem? (i := 0) rfl)))))), List.forall_mem_cons.mpr ⟨List.mem_cons_of_mem _ (List.mem_append_left _ (List.mem_append_left _ (List.mem_append_left _ (List.mem_append_right _ (List.mem_append_left _ (List.mem_of_getElem? (i := 1) rfl)))))), List.forall_mem_cons.mpr ⟨List.mem_cons_of_mem _ (List.mem_append_left _ (List.mem_append_left _ (List.mem_append_left _ (List.mem_append_right _ (List.mem_append_left _ (List.mem_of_getElem? (i := 2) rfl)))))), List.forall_mem_cons.mpr ⟨List.mem_cons_of_mem _ (List.mem_append_left _ (List.mem_append_left _ (List.mem_append_left _ (List.mem_append_right _ (List.mem_append_left _ (List.mem_of_getElem? (i := 3) rfl)))))), List.forall_mem_cons.mpr ⟨List.mem_cons_of_mem _ (List.mem_append_left _ (List.mem_append_left _ (List.mem_append_left _ (List.mem_append_right _ (List.mem_append_left _ (List.mem_of_getElem? (i := 4) rfl)))))), List.forall_mem_cons.mpr ⟨List.mem_cons_of_mem _ (List.mem_append_left _ (List.mem_append_left _ (List.mem_append_left _ (List.mem_append_right _ (List.mem_append_left _ (List.mem_of_getElem? (i := 5) rfl)))))), (fun _ h => absurd h List.not_mem_nil)⟩⟩⟩⟩⟩⟩⟩⟩⟩⟩⟩⟩⟩⟩⟩⟩, (fun _ h => List.mem_cons_of_mem _ (List.mem_append_right _ (h)))⟩, (fun _ h => List.mem_cons_of_mem _ (List.mem_append_left _ (List.mem_append_right _ (h))))⟩⟩) (by decide +kernel)
set_option maxRecDepth 20000 in
theorem gX0_find_X1_lends : GoodIn wsX0_find (wsV RX0 36 RX1 yX1_lends wsX1_lends) := goodIn_app (goodIn_sub (List.forall_mem_cons.mpr ⟨List.mem_cons_of_mem _ (List.mem_append_left _ (List.mem_append_left _ (List.mem_append_left _ (List.mem_append_left _ (List.mem_of_getElem? (i := 10) rfl))))), List.forall_mem_cons.mpr ⟨List.mem_cons_of_mem _ (List.mem_append_left _ (List.mem_append_left _ (List.mem_append_left _ (List.mem_append_left _ (List.mem_of_getElem? (i := 11) rfl))))), List.forall_mem_cons.mpr ⟨List.mem_cons_of_mem _ (List.mem_append_left _ (List.mem_append_left _ (List.mem_append_left _ (List.mem_append_left _ (List.mem_of_getElem? (i := 12) rfl))))), List.forall_mem_cons.mpr ⟨List.mem_cons_of_mem _ (List.mem_append_left _ (List.mem_append_left _ (List.mem_append_left _ (List.mem_append_left _ (List.mem_of_getElem? (i := 13) rfl))))), (fun _ h => absurd h List.not_mem_nil)⟩⟩⟩⟩) (by decide +kernel)) ggX0_find_X1_lends
set_option maxRecDepth 20000 in
theorem ggX0_find_X3_grownIn : GoodIn wsX0_find wsX3_grownIn := goodIn_sub (List.forall_mem_cons.mpr ⟨List.mem_cons_of_mem _ (List.mem_append_left _ (List.mem_append_left _ (List.mem_append_left _ (List.mem_append_right _ (List.mem_append_left _ (List.mem_of_getElem? (i := 10) rfl)))))), List.forall_mem_append.mpr ⟨List.forall_mem_cons.mpr ⟨List.mem_cons_of_mem _ (List.mem_append_left _ (List.mem_append_left _ (List.mem_append_left _ (List.mem_append_right _ (List.mem_append_left _ (List.mem_of_getElem? (i := 11) rfl)))))), List.forall_mem_cons.mpr ⟨List.mem_cons_of_mem _ (List.mem_append_left _ (List.mem_append_left _ (List.mem_append_left _ (List.mem_append_right _ (List.mem_append_left _ (List.mem_of_getElem? (i := 12) rfl)))))), List.forall_mem_cons.mpr ⟨List.mem_cons_of_mem _ (List.mem_append_left _ (List.mem_append_left _ (List.mem_append_left _ (List.mem_append_right _ (List.mem_append_left _ (List.mem_of_getElem? (i := 13) rfl)))))), List.forall_mem_cons.mpr ⟨List.mem_cons_of_mem _ (List.mem_append_left _ (List.mem_append_left _ (List.mem_append_left _ (List.mem_append_right _ (List.mem_append_left _ (List.mem_of_getElem? (i := 9) rfl)))))), List.forall_mem_cons.mpr ⟨List.mem_cons_of_mem _ (List.mem_append_left _ (List.mem_append_left _ (List.mem_append_left _ (List.mem_append_right _ (List.mem_append_left _ (List.mem_of_getElem? (i := 14) rfl)))))), List.forall_mem_cons.mpr ⟨List.mem_cons_of_mem _ (List.mem_append_left _ (List.mem_append_left _ (List.mem_append_left _ (List.mem_append_right _ (List.mem_append_left _ (List.mem_of_getElem? (i := 15) rfl)))))), List.forall_mem_cons.mpr ⟨List.mem_cons_of_mem _ (List.mem_append_left _ (List.mem_append_left _ (List.mem_append_left _ (List.mem_append_right _ (List.mem_append_left _ (List.mem_of_getElem? (i := 16) rfl)))))), List.forall_mem_cons.mpr ⟨List.mem_cons_of_mem _ (List.mem_append_left _ (List.mem_append_left _ (List.mem_append_left _ (List.mem_append_right _ (List.mem_append_left _ (List.mem_of_getElem? (i := 17) rfl)))))), List.forall_mem_cons.mpr ⟨List.mem_cons_of_mem _ (List.mem_append_left _ (List.mem_append_left _ (List.mem_append_left _ (List.mem_append_right _ (List.mem_append_left _ (List.mem_of_getElem? (i := 18) rfl)))))), List.forall_mem_cons.mpr ⟨List.mem_cons_of_mem _ (List.mem_append_left _ (List.mem_append_left _ (List.mem_append_left _ (List.mem_append_left _ (List.mem_of_getElem? (i := 6) rfl))))), List.forall_mem_cons.mpr ⟨List.mem_cons_of_mem _ (List.mem_append_left _ (List.mem_append_left _ (List.mem_append_left _ (List.mem_append_left _ (List.mem_of_getElem? (i := 7) rfl))))), List.forall_mem_cons.mpr ⟨List.mem_cons_of_mem _ (List.mem_append_left _ (List.mem_append_left _ (List.mem_append_left _ (List.mem_append_left _ (List.mem_of_getElem? (i := 8) rfl))))), (fun _ h => absurd h List.not_mem_nil)⟩⟩⟩⟩⟩⟩⟩⟩⟩⟩⟩⟩, (fun _ h => List.mem_cons_of_mem _ (List.mem_append_left _ (List.mem_append_right _ (h))))⟩⟩) (by decide +kernel)
set_option maxRecDepth 20000 in
theorem gX0_find_X3_grownIn : GoodIn wsX0_find (wsV RX0 51 RX3 yX3_grownIn wsX3_grownIn) := goodIn_app (goodIn_sub (List.forall_mem_cons.mpr ⟨List.mem_cons_of_mem _ (List.mem_append_left _ (List.mem_append_left _ (List.mem_append_left _ (List.mem_append_right _ (List.mem_append_left _ (List.mem_of_getElem? (i := 6) rfl)))))), List.forall_mem_cons.mpr ⟨List.mem_cons_of_mem _ (List.mem_append_left _ (List.mem_append_left _ (List.mem_append_left _ (List.mem_append_right _ (List.mem_append_left _ (List.mem_of_getElem? (i := 7) rfl)))))), List.forall_mem_cons.mpr ⟨List.mem_cons_of_mem _ (List.mem_append_left _ (List.mem_append_left _ (List.mem_append_left _ (List.mem_append_right _ (List.mem_append_left _ (List.mem_of_getElem? (i := 8) rfl)))))), List.forall_mem_cons.mpr ⟨List.mem_cons_of_mem _ (List.mem_append_left _ (List.mem_append_left _ (List.mem_append_left _ (List.mem_append_right _ (List.mem_append_left _ (List.mem_of_getElem? (i := 9) rfl)))))), (fun _ h => absurd h List.not_mem_nil)⟩⟩⟩⟩) (by decide +kernel)) ggX0_find_X3_grownIn
set_option maxRecDepth 20000 in
theorem ggX0_find_X0_chooseFrom : GoodIn wsX0_find wsX0_chooseFrom := goodIn_sub (List.forall_mem_cons.mpr ⟨List.mem_cons_of_mem _ (List.mem_append_left _ (List.mem_append_left _ (List.mem_append_left _ (List.mem_append_right _ (List.mem_append_left _ (List.mem_of_getElem? (i := 23) rfl)))))), List.forall_mem_append.mpr ⟨List.forall_mem_cons.mpr ⟨List.mem_cons_of_mem _ (List.mem_append_left _ (List.mem_append_left _ (List.mem_append_left _ (List.mem_append_left _ (List.mem_of_getElem? (i := 3) rfl))))), List.forall_mem_cons.mpr ⟨List.mem_cons_of_mem _ (List.mem_append_left _ (List.mem_append_left _ (List.mem_append_left _ (List.mem_append_left _ (List.mem_of_getElem? (i := 9) rfl))))), List.forall_mem_cons.mpr ⟨List.mem_cons_of_mem _ (List.mem_append_left _ (List.mem_append_left _ (List.mem_append_left _ (List.mem_append_left _ (List.mem_of_getElem? (i := 1) rfl))))), List.forall_mem_cons.mpr ⟨List.mem_cons_of_mem _ (List.mem_append_left _ (List.mem_append_left _ (List.mem_append_left _ (List.mem_append_right _ (List.mem_append_right _ (List.mem_of_getElem? (i := 0) rfl)))))), (fun _ h => absurd h List.not_mem_nil)⟩⟩⟩⟩, (fun _ h => List.mem_cons_of_mem _ (List.mem_append_left _ (List.mem_append_left _ (List.mem_append_right _ (h)))))⟩⟩) (by decide +kernel)
set_option maxRecDepth 20000 in
theorem gX0_find_X0_chooseFrom : GoodIn wsX0_find (wsV RX0 55 RX0 yX0_chooseFrom wsX0_chooseFrom) := goodIn_app (goodIn_sub (List.forall_mem_cons.mpr ⟨List.mem_cons_of_mem _ (List.mem_append_left _ (List.mem_append_left _ (List.mem_append_left _ (List.mem_append_right _ (List.mem_append_left _ (List.mem_of_getElem? (i := 19) rfl)))))), List.forall_mem_cons.mpr ⟨List.mem_cons_of_mem _ (List.mem_append_left _ (List.mem_append_left _ (List.mem_append_left _ (List.mem_append_right _ (List.mem_append_left _ (List.mem_of_getElem? (i := 20) rfl)))))), List.forall_mem_cons.mpr ⟨List.mem_cons_of_mem _ (List.mem_append_left _ (List.mem_append_left _ (List.mem_append_left _ (List.mem_append_right _ (List.mem_append_left _ (List.mem_of_getElem? (i := 21) rfl)))))), List.forall_mem_cons.mpr ⟨List.mem_cons_of_mem _ (List.mem_append_left _ (List.mem_append_left _ (List.mem_append_left _ (List.mem_append_right _ (List.mem_append_left _ (List.mem_of_getElem? (i := 22) rfl)))))), (fun _ h => absurd h List.not_mem_nil)⟩⟩⟩⟩) (by decide +kernel)) ggX0_find_X0_chooseFrom
set_option maxRecDepth 20000 in
theorem ggX0_find_X0_owedTogether : GoodIn wsX0_find wsX0_owedTogether := goodIn_sub (List.forall_mem_cons.mpr ⟨List.mem_cons_of_mem _ (List.mem_append_left _ (List.mem_append_left _ (List.mem_append_left _ (List.mem_append_right _ (List.mem_append_right _ (List.mem_of_getElem? (i := 4) rfl)))))), List.forall_mem_append.mpr ⟨List.forall_mem_cons.mpr ⟨List.mem_cons_of_mem _ (List.mem_append_left _ (List.mem_append_left _ (List.mem_append_left _ (List.mem_append_left _ (List.mem_of_getElem? (i := 1) rfl))))), List.forall_mem_cons.mpr ⟨List.mem_cons_of_mem _ (List.mem_append_left _ (List.mem_append_left _ (List.mem_append_left _ (List.mem_append_left _ (List.mem_of_getElem? (i := 0) rfl))))), (fun _ h => absurd h List.not_mem_nil)⟩⟩, (fun _ h => List.mem_cons_of_mem _ (List.mem_append_left _ (List.mem_append_left _ (List.mem_append_right _ (h)))))⟩⟩) (by decide +kernel)
set_option maxRecDepth 20000 in
theorem gX0_find_X0_owedTogether : GoodIn wsX0_find (wsV RX0 59 RX0 yX0_owedTogether wsX0_owedTogether) := goodIn_app (goodIn_sub (List.forall_mem_cons.mpr ⟨List.mem_cons_of_mem _ (List.mem_append_left _ (List.mem_append_left _ (List.mem_append_left _ (List.mem_append_right _ (List.mem_append_right _ (List.mem_of_getElem? (i := 1) rfl)))))), List.forall_mem_cons.mpr ⟨List.mem_cons_of_mem _ (List.mem_append_left _ (List.mem_append_left _ (List.mem_append_left _ (List.mem_append_right _ (List.mem_append_right _ (List.mem_of_getElem? (i := 2) rfl)))))), List.forall_mem_cons.mpr ⟨List.mem_cons_of_mem _ (List.mem_append_left _ (List.mem_append_left _ (List.mem_append_left _ (List.mem_append_right _ (List.mem_append_right _ (List.mem_of_getElem? (i := 3) rfl)))))), List.forall_mem_cons.mpr ⟨List.mem_cons_of_mem _ (List.mem_append_left _ (List.mem_append_left _ (List.mem_append_left _ (List.mem_append_right _ (List.mem_append_left _ (List.mem_of_getElem? (i := 22) rfl)))))), (fun _ h => absurd h List.not_mem_nil)⟩⟩⟩⟩) (by decide +kernel)) ggX0_find_X0_owedTogether
set_option maxRecDepth 20000 in
theorem ggX0_find_X0_followChoices : GoodIn wsX0_find wsX0_followChoices := goodIn_sub (List.forall_mem_cons.mpr ⟨List.mem_cons_of_mem _ (List.mem_append_left _ (List.mem_append_left _ (List.mem_append_left _ (List.mem_append_right _ (List.mem_append_right _ (List.mem_of_getElem? (i := 8) rfl)))))), List.forall_mem_append.mpr ⟨List.forall_mem_cons.mpr ⟨List.mem_cons_of_mem _ (List.mem_append_left _ (List.mem_append_left _ (List.mem_append_left _ (List.mem_append_left _ (List.mem_of_getElem? (i := 0) rfl))))), List.forall_mem_cons.mpr ⟨List.mem_cons_of_mem _ (List.mem_append_left _ (List.mem_append_left _ (List.mem_append_left _ (List.mem_append_right _ (List.mem_append_right _ (List.mem_of_getElem? (i := 9) rfl)))))), List.forall_mem_cons.mpr ⟨List.mem_cons_of_mem _ (List.mem_append_left _ (List.mem_append_left _ (List.mem_append_left _ (List.mem_append_right _ (List.mem_append_right _ (List.mem_of_getElem? (i := 0) rfl)))))), (fun _ h => absurd h List.not_mem_nil)⟩⟩⟩, (fun _ h => List.mem_cons_of_mem _ (List.mem_append_left _ (List.mem_append_left _ (List.mem_append_right _ (h)))))⟩⟩) (by decide +kernel)
set_option maxRecDepth 20000 in
theorem gX0_find_X0_followChoices : GoodIn wsX0_find (wsV RX0 63 RX0 yX0_followChoices wsX0_followChoices) := goodIn_app (goodIn_sub (List.forall_mem_cons.mpr ⟨List.mem_cons_of_mem _ (List.mem_append_left _ (List.mem_append_left _ (List.mem_append_left _ (List.mem_append_right _ (List.mem_append_right _ (List.mem_of_getElem? (i := 5) rfl)))))), List.forall_mem_cons.mpr ⟨List.mem_cons_of_mem _ (List.mem_append_left _ (List.mem_append_left _ (List.mem_append_left _ (List.mem_append_right _ (List.mem_append_right _ (List.mem_of_getElem? (i := 6) rfl)))))), List.forall_mem_cons.mpr ⟨List.mem_cons_of_mem _ (List.mem_append_left _ (List.mem_append_left _ (List.mem_append_left _ (List.mem_append_right _ (List.mem_append_right _ (List.mem_of_getElem? (i := 7) rfl)))))), List.forall_mem_cons.mpr ⟨List.mem_cons_of_mem _ (List.mem_append_left _ (List.mem_append_left _ (List.mem_append_left _ (List.mem_append_right _ (List.mem_append_left _ (List.mem_of_getElem? (i := 22) rfl)))))), (fun _ h => absurd h List.not_mem_nil)⟩⟩⟩⟩) (by decide +kernel)) ggX0_find_X0_followChoices
theorem dX0_find_0 : decode cX0_find 0 = .ok (.aload_n 0, 1) := by decide +kernel
theorem dX0_find_1 : decode cX0_find 1 = .ok (.iload_n 3, 1) := by decide +kernel
theorem dX0_find_2 : decode cX0_find 2 = .ok (.putfield 26, 3) := by decide +kernel
theorem dX0_find_5 : decode cX0_find 5 = .ok (.aload_n 0, 1) := by decide +kernel
theorem dX0_find_6 : decode cX0_find 6 = .ok (.getfield 11, 3) := by decide +kernel
theorem dX0_find_9 : decode cX0_find 9 = .ok (.aload_n 1, 1) := by decide +kernel
theorem dX0_find_10 : decode cX0_find 10 = .ok (.getfield 30, 3) := by decide +kernel
theorem dX0_find_13 : decode cX0_find 13 = .ok (.aaload, 1) := by decide +kernel
theorem dX0_find_14 : decode cX0_find 14 = .ok (.iconst 0, 1) := by decide +kernel
theorem dX0_find_15 : decode cX0_find 15 = .ok (.iconst 0, 1) := by decide +kernel
theorem dX0_find_16 : decode cX0_find 16 = .ok (.iastore, 1) := by decide +kernel
theorem dX0_find_17 : decode cX0_find 17 = .ok (.iconst 1, 1) := by decide +kernel
theorem dX0_find_18 : decode cX0_find 18 = .ok (.istore 5, 2) := by decide +kernel
theorem dX0_find_20 : decode cX0_find 20 = .ok (.iload 5, 2) := by decide +kernel
theorem dX0_find_22 : decode cX0_find 22 = .ok (.iload_n 3, 1) := by decide +kernel
theorem dX0_find_23 : decode cX0_find 23 = .ok (.if_icmp .gt 23, 3) := by decide +kernel
theorem dX0_find_26 : decode cX0_find 26 = .ok (.aload_n 0, 1) := by decide +kernel
theorem dX0_find_27 : decode cX0_find 27 = .ok (.getfield 11, 3) := by decide +kernel
theorem dX0_find_30 : decode cX0_find 30 = .ok (.aload_n 1, 1) := by decide +kernel
theorem dX0_find_31 : decode cX0_find 31 = .ok (.getfield 30, 3) := by decide +kernel
theorem dX0_find_34 : decode cX0_find 34 = .ok (.aaload, 1) := by decide +kernel
theorem dX0_find_35 : decode cX0_find 35 = .ok (.iload 5, 2) := by decide +kernel
theorem dX0_find_37 : decode cX0_find 37 = .ok (.ldc 35, 2) := by decide +kernel
theorem dX0_find_39 : decode cX0_find 39 = .ok (.iastore, 1) := by decide +kernel
theorem dX0_find_40 : decode cX0_find 40 = .ok (.iinc 5 1, 3) := by decide +kernel
theorem dX0_find_43 : decode cX0_find 43 = .ok (.goto (-23), 3) := by decide +kernel
theorem dX0_find_46 : decode cX0_find 46 = .ok (.aload_n 1, 1) := by decide +kernel
theorem dX0_find_47 : decode cX0_find 47 = .ok (.getfield 30, 3) := by decide +kernel
theorem dX0_find_50 : decode cX0_find 50 = .ok (.iconst 1, 1) := by decide +kernel
theorem dX0_find_51 : decode cX0_find 51 = .ok (.isub, 1) := by decide +kernel
theorem dX0_find_52 : decode cX0_find 52 = .ok (.istore 5, 2) := by decide +kernel
theorem dX0_find_54 : decode cX0_find 54 = .ok (.iload 5, 2) := by decide +kernel
theorem dX0_find_56 : decode cX0_find 56 = .ok (.ifCond .lt 106, 3) := by decide +kernel
theorem dX0_find_59 : decode cX0_find 59 = .ok (.aload_n 2, 1) := by decide +kernel
theorem dX0_find_60 : decode cX0_find 60 = .ok (.aload_n 1, 1) := by decide +kernel
theorem dX0_find_61 : decode cX0_find 61 = .ok (.iload 5, 2) := by decide +kernel
theorem dX0_find_63 : decode cX0_find 63 = .ok (.invokevirtual 36, 3) := by decide +kernel
theorem dX0_find_66 : decode cX0_find 66 = .ok (.ifCond .eq 17, 3) := by decide +kernel
theorem dX0_find_69 : decode cX0_find 69 = .ok (.aload_n 2, 1) := by decide +kernel
theorem dX0_find_70 : decode cX0_find 70 = .ok (.getfield 42, 3) := by decide +kernel
theorem dX0_find_73 : decode cX0_find 73 = .ok (.iload 5, 2) := by decide +kernel
theorem dX0_find_75 : decode cX0_find 75 = .ok (.iaload, 1) := by decide +kernel
theorem dX0_find_76 : decode cX0_find 76 = .ok (.iload_n 3, 1) := by decide +kernel
theorem dX0_find_77 : decode cX0_find 77 = .ok (.invokestatic 45, 3) := by decide +kernel
theorem dX0_find_80 : decode cX0_find 80 = .ok (.goto 4, 3) := by decide +kernel
theorem dX0_find_83 : decode cX0_find 83 = .ok (.iconst 0, 1) := by decide +kernel
theorem dX0_find_84 : decode cX0_find 84 = .ok (.istore 6, 2) := by decide +kernel
theorem dX0_find_86 : decode cX0_find 86 = .ok (.aload_n 0, 1) := by decide +kernel
theorem dX0_find_87 : decode cX0_find 87 = .ok (.getfield 19, 3) := by decide +kernel
theorem dX0_find_90 : decode cX0_find 90 = .ok (.iconst 0, 1) := by decide +kernel
theorem dX0_find_91 : decode cX0_find 91 = .ok (.iconst 0, 1) := by decide +kernel
theorem dX0_find_92 : decode cX0_find 92 = .ok (.iastore, 1) := by decide +kernel
theorem dX0_find_93 : decode cX0_find 93 = .ok (.iconst 1, 1) := by decide +kernel
theorem dX0_find_94 : decode cX0_find 94 = .ok (.istore 7, 2) := by decide +kernel
theorem dX0_find_96 : decode cX0_find 96 = .ok (.iload 7, 2) := by decide +kernel
theorem dX0_find_98 : decode cX0_find 98 = .ok (.iload 6, 2) := by decide +kernel
theorem dX0_find_100 : decode cX0_find 100 = .ok (.if_icmp .gt 26, 3) := by decide +kernel
theorem dX0_find_103 : decode cX0_find 103 = .ok (.aload_n 0, 1) := by decide +kernel
theorem dX0_find_104 : decode cX0_find 104 = .ok (.getfield 19, 3) := by decide +kernel
theorem dX0_find_107 : decode cX0_find 107 = .ok (.iload 7, 2) := by decide +kernel
theorem dX0_find_109 : decode cX0_find 109 = .ok (.aload_n 1, 1) := by decide +kernel
theorem dX0_find_110 : decode cX0_find 110 = .ok (.iload 5, 2) := by decide +kernel
theorem dX0_find_112 : decode cX0_find 112 = .ok (.iload 7, 2) := by decide +kernel
theorem dX0_find_114 : decode cX0_find 114 = .ok (.iload 4, 2) := by decide +kernel
theorem dX0_find_116 : decode cX0_find 116 = .ok (.invokevirtual 51, 3) := by decide +kernel
theorem dX0_find_119 : decode cX0_find 119 = .ok (.iastore, 1) := by decide +kernel
theorem dX0_find_120 : decode cX0_find 120 = .ok (.iinc 7 1, 3) := by decide +kernel
theorem dX0_find_123 : decode cX0_find 123 = .ok (.goto (-27), 3) := by decide +kernel
theorem dX0_find_126 : decode cX0_find 126 = .ok (.iconst 0, 1) := by decide +kernel
theorem dX0_find_127 : decode cX0_find 127 = .ok (.istore 7, 2) := by decide +kernel
theorem dX0_find_129 : decode cX0_find 129 = .ok (.iload 7, 2) := by decide +kernel
theorem dX0_find_131 : decode cX0_find 131 = .ok (.iload_n 3, 1) := by decide +kernel
theorem dX0_find_132 : decode cX0_find 132 = .ok (.if_icmp .gt 24, 3) := by decide +kernel
theorem dX0_find_135 : decode cX0_find 135 = .ok (.aload_n 0, 1) := by decide +kernel
theorem dX0_find_136 : decode cX0_find 136 = .ok (.iload 5, 2) := by decide +kernel
theorem dX0_find_138 : decode cX0_find 138 = .ok (.iload 7, 2) := by decide +kernel
theorem dX0_find_140 : decode cX0_find 140 = .ok (.iload 6, 2) := by decide +kernel
theorem dX0_find_142 : decode cX0_find 142 = .ok (.iload 7, 2) := by decide +kernel
theorem dX0_find_144 : decode cX0_find 144 = .ok (.invokestatic 45, 3) := by decide +kernel
theorem dX0_find_147 : decode cX0_find 147 = .ok (.invokevirtual 55, 3) := by decide +kernel
theorem dX0_find_150 : decode cX0_find 150 = .ok (.iinc 7 1, 3) := by decide +kernel
theorem dX0_find_153 : decode cX0_find 153 = .ok (.goto (-24), 3) := by decide +kernel
theorem dX0_find_156 : decode cX0_find 156 = .ok (.iinc 5 (-1), 3) := by decide +kernel
theorem dX0_find_159 : decode cX0_find 159 = .ok (.goto (-105), 3) := by decide +kernel
theorem dX0_find_162 : decode cX0_find 162 = .ok (.aload_n 0, 1) := by decide +kernel
theorem dX0_find_163 : decode cX0_find 163 = .ok (.invokevirtual 59, 3) := by decide +kernel
theorem dX0_find_166 : decode cX0_find 166 = .ok (.ldc 35, 2) := by decide +kernel
theorem dX0_find_168 : decode cX0_find 168 = .ok (.if_icmp .lt 5, 3) := by decide +kernel
theorem dX0_find_171 : decode cX0_find 171 = .ok (.iconst 0, 1) := by decide +kernel
theorem dX0_find_172 : decode cX0_find 172 = .ok (.ireturn, 1) := by decide +kernel
theorem dX0_find_173 : decode cX0_find 173 = .ok (.aload_n 0, 1) := by decide +kernel
theorem dX0_find_174 : decode cX0_find 174 = .ok (.aload_n 1, 1) := by decide +kernel
theorem dX0_find_175 : decode cX0_find 175 = .ok (.getfield 30, 3) := by decide +kernel
theorem dX0_find_178 : decode cX0_find 178 = .ok (.invokevirtual 63, 3) := by decide +kernel
theorem dX0_find_181 : decode cX0_find 181 = .ok (.iconst 1, 1) := by decide +kernel
theorem dX0_find_182 : decode cX0_find 182 = .ok (.ireturn, 1) := by decide +kernel
theorem dX0_owedTogether_0 : decode cX0_owedTogether 0 = .ok (.aload_n 0, 1) := by decide +kernel
theorem dX0_owedTogether_1 : decode cX0_owedTogether 1 = .ok (.getfield 11, 3) := by decide +kernel
theorem dX0_owedTogether_4 : decode cX0_owedTogether 4 = .ok (.iconst 0, 1) := by decide +kernel
theorem dX0_owedTogether_5 : decode cX0_owedTogether 5 = .ok (.aaload, 1) := by decide +kernel
theorem dX0_owedTogether_6 : decode cX0_owedTogether 6 = .ok (.aload_n 0, 1) := by decide +kernel
theorem dX0_owedTogether_7 : decode cX0_owedTogether 7 = .ok (.getfield 26, 3) := by decide +kernel
theorem dX0_owedTogether_10 : decode cX0_owedTogether 10 = .ok (.iaload, 1) := by decide +kernel
theorem dX0_owedTogether_11 : decode cX0_owedTogether 11 = .ok (.ireturn, 1) := by decide +kernel
theorem dX0_chooseFrom_0 : decode cX0_chooseFrom 0 = .ok (.ldc 35, 2) := by decide +kernel
theorem dX0_chooseFrom_2 : decode cX0_chooseFrom 2 = .ok (.istore 4, 2) := by decide +kernel
theorem dX0_chooseFrom_4 : decode cX0_chooseFrom 4 = .ok (.iconst 0, 1) := by decide +kernel
theorem dX0_chooseFrom_5 : decode cX0_chooseFrom 5 = .ok (.istore 5, 2) := by decide +kernel
theorem dX0_chooseFrom_7 : decode cX0_chooseFrom 7 = .ok (.iconst 0, 1) := by decide +kernel
theorem dX0_chooseFrom_8 : decode cX0_chooseFrom 8 = .ok (.istore 6, 2) := by decide +kernel
theorem dX0_chooseFrom_10 : decode cX0_chooseFrom 10 = .ok (.iload 6, 2) := by decide +kernel
theorem dX0_chooseFrom_12 : decode cX0_chooseFrom 12 = .ok (.iload_n 3, 1) := by decide +kernel
theorem dX0_chooseFrom_13 : decode cX0_chooseFrom 13 = .ok (.if_icmp .gt 47, 3) := by decide +kernel
theorem dX0_chooseFrom_16 : decode cX0_chooseFrom 16 = .ok (.aload_n 0, 1) := by decide +kernel
theorem dX0_chooseFrom_17 : decode cX0_chooseFrom 17 = .ok (.getfield 19, 3) := by decide +kernel
theorem dX0_chooseFrom_20 : decode cX0_chooseFrom 20 = .ok (.iload 6, 2) := by decide +kernel
theorem dX0_chooseFrom_22 : decode cX0_chooseFrom 22 = .ok (.iaload, 1) := by decide +kernel
theorem dX0_chooseFrom_23 : decode cX0_chooseFrom 23 = .ok (.aload_n 0, 1) := by decide +kernel
theorem dX0_chooseFrom_24 : decode cX0_chooseFrom 24 = .ok (.getfield 11, 3) := by decide +kernel
theorem dX0_chooseFrom_27 : decode cX0_chooseFrom 27 = .ok (.iload_n 1, 1) := by decide +kernel
theorem dX0_chooseFrom_28 : decode cX0_chooseFrom 28 = .ok (.iconst 1, 1) := by decide +kernel
theorem dX0_chooseFrom_29 : decode cX0_chooseFrom 29 = .ok (.iadd, 1) := by decide +kernel
theorem dX0_chooseFrom_30 : decode cX0_chooseFrom 30 = .ok (.aaload, 1) := by decide +kernel
theorem dX0_chooseFrom_31 : decode cX0_chooseFrom 31 = .ok (.iload_n 2, 1) := by decide +kernel
theorem dX0_chooseFrom_32 : decode cX0_chooseFrom 32 = .ok (.iload 6, 2) := by decide +kernel
theorem dX0_chooseFrom_34 : decode cX0_chooseFrom 34 = .ok (.isub, 1) := by decide +kernel
theorem dX0_chooseFrom_35 : decode cX0_chooseFrom 35 = .ok (.iaload, 1) := by decide +kernel
theorem dX0_chooseFrom_36 : decode cX0_chooseFrom 36 = .ok (.iadd, 1) := by decide +kernel
theorem dX0_chooseFrom_37 : decode cX0_chooseFrom 37 = .ok (.istore 7, 2) := by decide +kernel
theorem dX0_chooseFrom_39 : decode cX0_chooseFrom 39 = .ok (.iload 7, 2) := by decide +kernel
theorem dX0_chooseFrom_41 : decode cX0_chooseFrom 41 = .ok (.iload 4, 2) := by decide +kernel
theorem dX0_chooseFrom_43 : decode cX0_chooseFrom 43 = .ok (.if_icmp .ge 11, 3) := by decide +kernel
theorem dX0_chooseFrom_46 : decode cX0_chooseFrom 46 = .ok (.iload 7, 2) := by decide +kernel
theorem dX0_chooseFrom_48 : decode cX0_chooseFrom 48 = .ok (.istore 4, 2) := by decide +kernel
theorem dX0_chooseFrom_50 : decode cX0_chooseFrom 50 = .ok (.iload 6, 2) := by decide +kernel
theorem dX0_chooseFrom_52 : decode cX0_chooseFrom 52 = .ok (.istore 5, 2) := by decide +kernel
theorem dX0_chooseFrom_54 : decode cX0_chooseFrom 54 = .ok (.iinc 6 1, 3) := by decide +kernel
theorem dX0_chooseFrom_57 : decode cX0_chooseFrom 57 = .ok (.goto (-47), 3) := by decide +kernel
theorem dX0_chooseFrom_60 : decode cX0_chooseFrom 60 = .ok (.aload_n 0, 1) := by decide +kernel
theorem dX0_chooseFrom_61 : decode cX0_chooseFrom 61 = .ok (.getfield 11, 3) := by decide +kernel
theorem dX0_chooseFrom_64 : decode cX0_chooseFrom 64 = .ok (.iload_n 1, 1) := by decide +kernel
theorem dX0_chooseFrom_65 : decode cX0_chooseFrom 65 = .ok (.aaload, 1) := by decide +kernel
theorem dX0_chooseFrom_66 : decode cX0_chooseFrom 66 = .ok (.iload_n 2, 1) := by decide +kernel
theorem dX0_chooseFrom_67 : decode cX0_chooseFrom 67 = .ok (.iload 4, 2) := by decide +kernel
theorem dX0_chooseFrom_69 : decode cX0_chooseFrom 69 = .ok (.iastore, 1) := by decide +kernel
theorem dX0_chooseFrom_70 : decode cX0_chooseFrom 70 = .ok (.aload_n 0, 1) := by decide +kernel
theorem dX0_chooseFrom_71 : decode cX0_chooseFrom 71 = .ok (.getfield 16, 3) := by decide +kernel
theorem dX0_chooseFrom_74 : decode cX0_chooseFrom 74 = .ok (.iload_n 1, 1) := by decide +kernel
theorem dX0_chooseFrom_75 : decode cX0_chooseFrom 75 = .ok (.aaload, 1) := by decide +kernel
theorem dX0_chooseFrom_76 : decode cX0_chooseFrom 76 = .ok (.iload_n 2, 1) := by decide +kernel
theorem dX0_chooseFrom_77 : decode cX0_chooseFrom 77 = .ok (.iload 5, 2) := by decide +kernel
theorem dX0_chooseFrom_79 : decode cX0_chooseFrom 79 = .ok (.iastore, 1) := by decide +kernel
theorem dX0_chooseFrom_80 : decode cX0_chooseFrom 80 = .ok (.return_, 1) := by decide +kernel
theorem dX0_followChoices_0 : decode cX0_followChoices 0 = .ok (.aload_n 0, 1) := by decide +kernel
theorem dX0_followChoices_1 : decode cX0_followChoices 1 = .ok (.getfield 26, 3) := by decide +kernel
theorem dX0_followChoices_4 : decode cX0_followChoices 4 = .ok (.istore_n 2, 1) := by decide +kernel
theorem dX0_followChoices_5 : decode cX0_followChoices 5 = .ok (.iconst 0, 1) := by decide +kernel
theorem dX0_followChoices_6 : decode cX0_followChoices 6 = .ok (.istore_n 3, 1) := by decide +kernel
theorem dX0_followChoices_7 : decode cX0_followChoices 7 = .ok (.iload_n 3, 1) := by decide +kernel
theorem dX0_followChoices_8 : decode cX0_followChoices 8 = .ok (.iload_n 1, 1) := by decide +kernel
theorem dX0_followChoices_9 : decode cX0_followChoices 9 = .ok (.if_icmp .ge 32, 3) := by decide +kernel
theorem dX0_followChoices_12 : decode cX0_followChoices 12 = .ok (.aload_n 0, 1) := by decide +kernel
theorem dX0_followChoices_13 : decode cX0_followChoices 13 = .ok (.getfield 23, 3) := by decide +kernel
theorem dX0_followChoices_16 : decode cX0_followChoices 16 = .ok (.iload_n 3, 1) := by decide +kernel
theorem dX0_followChoices_17 : decode cX0_followChoices 17 = .ok (.aload_n 0, 1) := by decide +kernel
theorem dX0_followChoices_18 : decode cX0_followChoices 18 = .ok (.getfield 16, 3) := by decide +kernel
theorem dX0_followChoices_21 : decode cX0_followChoices 21 = .ok (.iload_n 3, 1) := by decide +kernel
theorem dX0_followChoices_22 : decode cX0_followChoices 22 = .ok (.aaload, 1) := by decide +kernel
theorem dX0_followChoices_23 : decode cX0_followChoices 23 = .ok (.iload_n 2, 1) := by decide +kernel
theorem dX0_followChoices_24 : decode cX0_followChoices 24 = .ok (.iaload, 1) := by decide +kernel
theorem dX0_followChoices_25 : decode cX0_followChoices 25 = .ok (.iastore, 1) := by decide +kernel
theorem dX0_followChoices_26 : decode cX0_followChoices 26 = .ok (.iload_n 2, 1) := by decide +kernel
theorem dX0_followChoices_27 : decode cX0_followChoices 27 = .ok (.aload_n 0, 1) := by decide +kernel
theorem dX0_followChoices_28 : decode cX0_followChoices 28 = .ok (.getfield 23, 3) := by decide +kernel
theorem dX0_followChoices_31 : decode cX0_followChoices 31 = .ok (.iload_n 3, 1) := by decide +kernel
theorem dX0_followChoices_32 : decode cX0_followChoices 32 = .ok (.iaload, 1) := by decide +kernel
theorem dX0_followChoices_33 : decode cX0_followChoices 33 = .ok (.isub, 1) := by decide +kernel
theorem dX0_followChoices_34 : decode cX0_followChoices 34 = .ok (.istore_n 2, 1) := by decide +kernel
theorem dX0_followChoices_35 : decode cX0_followChoices 35 = .ok (.iinc 3 1, 3) := by decide +kernel
theorem dX0_followChoices_38 : decode cX0_followChoices 38 = .ok (.goto (-31), 3) := by decide +kernel
theorem dX0_followChoices_41 : decode cX0_followChoices 41 = .ok (.return_, 1) := by decide +kernel
theorem dX1_init_0 : decode cX1_init 0 = .ok (.aload_n 0, 1) := by decide +kernel
theorem dX1_init_1 : decode cX1_init 1 = .ok (.invokespecial 3, 3) := by decide +kernel
theorem dX1_init_4 : decode cX1_init 4 = .ok (.aload_n 0, 1) := by decide +kernel
theorem dX1_init_5 : decode cX1_init 5 = .ok (.bipush 6, 2) := by decide +kernel
theorem dX1_init_7 : decode cX1_init 7 = .ok (.newarray .int, 2) := by decide +kernel
theorem dX1_init_9 : decode cX1_init 9 = .ok (.putfield 9, 3) := by decide +kernel
theorem dX1_init_12 : decode cX1_init 12 = .ok (.aload_n 0, 1) := by decide +kernel
theorem dX1_init_13 : decode cX1_init 13 = .ok (.bipush 6, 2) := by decide +kernel
theorem dX1_init_15 : decode cX1_init 15 = .ok (.newarray .int, 2) := by decide +kernel
theorem dX1_init_17 : decode cX1_init 17 = .ok (.putfield 15, 3) := by decide +kernel
theorem dX1_init_20 : decode cX1_init 20 = .ok (.aload_n 0, 1) := by decide +kernel
theorem dX1_init_21 : decode cX1_init 21 = .ok (.bipush 12, 2) := by decide +kernel
theorem dX1_init_23 : decode cX1_init 23 = .ok (.newarray .int, 2) := by decide +kernel
theorem dX1_init_25 : decode cX1_init 25 = .ok (.putfield 18, 3) := by decide +kernel
theorem dX1_init_28 : decode cX1_init 28 = .ok (.aload_n 0, 1) := by decide +kernel
theorem dX1_init_29 : decode cX1_init 29 = .ok (.bipush 12, 2) := by decide +kernel
theorem dX1_init_31 : decode cX1_init 31 = .ok (.newarray .int, 2) := by decide +kernel
theorem dX1_init_33 : decode cX1_init 33 = .ok (.putfield 21, 3) := by decide +kernel
theorem dX1_init_36 : decode cX1_init 36 = .ok (.aload_n 0, 1) := by decide +kernel
theorem dX1_init_37 : decode cX1_init 37 = .ok (.bipush 12, 2) := by decide +kernel
theorem dX1_init_39 : decode cX1_init 39 = .ok (.newarray .int, 2) := by decide +kernel
theorem dX1_init_41 : decode cX1_init 41 = .ok (.putfield 24, 3) := by decide +kernel
theorem dX1_init_44 : decode cX1_init 44 = .ok (.aload_n 0, 1) := by decide +kernel
theorem dX1_init_45 : decode cX1_init 45 = .ok (.bipush 12, 2) := by decide +kernel
theorem dX1_init_47 : decode cX1_init 47 = .ok (.newarray .int, 2) := by decide +kernel
theorem dX1_init_49 : decode cX1_init 49 = .ok (.putfield 27, 3) := by decide +kernel
theorem dX1_init_52 : decode cX1_init 52 = .ok (.aload_n 0, 1) := by decide +kernel
theorem dX1_init_53 : decode cX1_init 53 = .ok (.bipush 12, 2) := by decide +kernel
theorem dX1_init_55 : decode cX1_init 55 = .ok (.newarray .int, 2) := by decide +kernel
theorem dX1_init_57 : decode cX1_init 57 = .ok (.putfield 30, 3) := by decide +kernel
theorem dX1_init_60 : decode cX1_init 60 = .ok (.return_, 1) := by decide +kernel
theorem dX1_begin_0 : decode cX1_begin 0 = .ok (.aload_n 0, 1) := by decide +kernel
theorem dX1_begin_1 : decode cX1_begin 1 = .ok (.iconst 0, 1) := by decide +kernel
theorem dX1_begin_2 : decode cX1_begin 2 = .ok (.putfield 33, 3) := by decide +kernel
theorem dX1_begin_5 : decode cX1_begin 5 = .ok (.aload_n 0, 1) := by decide +kernel
theorem dX1_begin_6 : decode cX1_begin 6 = .ok (.iconst 0, 1) := by decide +kernel
theorem dX1_begin_7 : decode cX1_begin 7 = .ok (.putfield 37, 3) := by decide +kernel
theorem dX1_begin_10 : decode cX1_begin 10 = .ok (.aload_n 0, 1) := by decide +kernel
theorem dX1_begin_11 : decode cX1_begin 11 = .ok (.iconst 0, 1) := by decide +kernel
theorem dX1_begin_12 : decode cX1_begin 12 = .ok (.putfield 40, 3) := by decide +kernel
theorem dX1_begin_15 : decode cX1_begin 15 = .ok (.iconst 0, 1) := by decide +kernel
theorem dX1_begin_16 : decode cX1_begin 16 = .ok (.istore_n 2, 1) := by decide +kernel
theorem dX1_begin_17 : decode cX1_begin 17 = .ok (.iload_n 2, 1) := by decide +kernel
theorem dX1_begin_18 : decode cX1_begin 18 = .ok (.bipush 6, 2) := by decide +kernel
theorem dX1_begin_20 : decode cX1_begin 20 = .ok (.if_icmp .ge 28, 3) := by decide +kernel
theorem dX1_begin_23 : decode cX1_begin 23 = .ok (.aload_n 0, 1) := by decide +kernel
theorem dX1_begin_24 : decode cX1_begin 24 = .ok (.getfield 9, 3) := by decide +kernel
theorem dX1_begin_27 : decode cX1_begin 27 = .ok (.iload_n 2, 1) := by decide +kernel
theorem dX1_begin_28 : decode cX1_begin 28 = .ok (.aload_n 1, 1) := by decide +kernel
theorem dX1_begin_29 : decode cX1_begin 29 = .ok (.getfield 43, 3) := by decide +kernel
theorem dX1_begin_32 : decode cX1_begin 32 = .ok (.iload_n 2, 1) := by decide +kernel
theorem dX1_begin_33 : decode cX1_begin 33 = .ok (.iaload, 1) := by decide +kernel
theorem dX1_begin_34 : decode cX1_begin 34 = .ok (.iastore, 1) := by decide +kernel
theorem dX1_begin_35 : decode cX1_begin 35 = .ok (.aload_n 0, 1) := by decide +kernel
theorem dX1_begin_36 : decode cX1_begin 36 = .ok (.getfield 15, 3) := by decide +kernel
theorem dX1_begin_39 : decode cX1_begin 39 = .ok (.iload_n 2, 1) := by decide +kernel
theorem dX1_begin_40 : decode cX1_begin 40 = .ok (.iconst 0, 1) := by decide +kernel
theorem dX1_begin_41 : decode cX1_begin 41 = .ok (.iastore, 1) := by decide +kernel
theorem dX1_begin_42 : decode cX1_begin 42 = .ok (.iinc 2 1, 3) := by decide +kernel
theorem dX1_begin_45 : decode cX1_begin 45 = .ok (.goto (-28), 3) := by decide +kernel
theorem dX1_begin_48 : decode cX1_begin 48 = .ok (.return_, 1) := by decide +kernel
theorem dX1_copyFrom_0 : decode cX1_copyFrom 0 = .ok (.aload_n 0, 1) := by decide +kernel
theorem dX1_copyFrom_1 : decode cX1_copyFrom 1 = .ok (.aload_n 1, 1) := by decide +kernel
theorem dX1_copyFrom_2 : decode cX1_copyFrom 2 = .ok (.getfield 33, 3) := by decide +kernel
theorem dX1_copyFrom_5 : decode cX1_copyFrom 5 = .ok (.putfield 33, 3) := by decide +kernel
theorem dX1_copyFrom_8 : decode cX1_copyFrom 8 = .ok (.aload_n 1, 1) := by decide +kernel
theorem dX1_copyFrom_9 : decode cX1_copyFrom 9 = .ok (.getfield 9, 3) := by decide +kernel
theorem dX1_copyFrom_12 : decode cX1_copyFrom 12 = .ok (.iconst 0, 1) := by decide +kernel
theorem dX1_copyFrom_13 : decode cX1_copyFrom 13 = .ok (.aload_n 0, 1) := by decide +kernel
theorem dX1_copyFrom_14 : decode cX1_copyFrom 14 = .ok (.getfield 9, 3) := by decide +kernel
theorem dX1_copyFrom_17 : decode cX1_copyFrom 17 = .ok (.iconst 0, 1) := by decide +kernel
theorem dX1_copyFrom_18 : decode cX1_copyFrom 18 = .ok (.bipush 6, 2) := by decide +kernel
theorem dX1_copyFrom_20 : decode cX1_copyFrom 20 = .ok (.invokestatic 46, 3) := by decide +kernel
theorem dX1_copyFrom_23 : decode cX1_copyFrom 23 = .ok (.aload_n 1, 1) := by decide +kernel
theorem dX1_copyFrom_24 : decode cX1_copyFrom 24 = .ok (.getfield 15, 3) := by decide +kernel
theorem dX1_copyFrom_27 : decode cX1_copyFrom 27 = .ok (.iconst 0, 1) := by decide +kernel
theorem dX1_copyFrom_28 : decode cX1_copyFrom 28 = .ok (.aload_n 0, 1) := by decide +kernel
theorem dX1_copyFrom_29 : decode cX1_copyFrom 29 = .ok (.getfield 15, 3) := by decide +kernel
theorem dX1_copyFrom_32 : decode cX1_copyFrom 32 = .ok (.iconst 0, 1) := by decide +kernel
theorem dX1_copyFrom_33 : decode cX1_copyFrom 33 = .ok (.bipush 6, 2) := by decide +kernel
theorem dX1_copyFrom_35 : decode cX1_copyFrom 35 = .ok (.invokestatic 46, 3) := by decide +kernel
theorem dX1_copyFrom_38 : decode cX1_copyFrom 38 = .ok (.aload_n 0, 1) := by decide +kernel
theorem dX1_copyFrom_39 : decode cX1_copyFrom 39 = .ok (.aload_n 1, 1) := by decide +kernel
theorem dX1_copyFrom_40 : decode cX1_copyFrom 40 = .ok (.getfield 37, 3) := by decide +kernel
theorem dX1_copyFrom_43 : decode cX1_copyFrom 43 = .ok (.putfield 37, 3) := by decide +kernel
theorem dX1_copyFrom_46 : decode cX1_copyFrom 46 = .ok (.aload_n 1, 1) := by decide +kernel
theorem dX1_copyFrom_47 : decode cX1_copyFrom 47 = .ok (.getfield 18, 3) := by decide +kernel
theorem dX1_copyFrom_50 : decode cX1_copyFrom 50 = .ok (.iconst 0, 1) := by decide +kernel
theorem dX1_copyFrom_51 : decode cX1_copyFrom 51 = .ok (.aload_n 0, 1) := by decide +kernel
theorem dX1_copyFrom_52 : decode cX1_copyFrom 52 = .ok (.getfield 18, 3) := by decide +kernel
theorem dX1_copyFrom_55 : decode cX1_copyFrom 55 = .ok (.iconst 0, 1) := by decide +kernel
theorem dX1_copyFrom_56 : decode cX1_copyFrom 56 = .ok (.bipush 12, 2) := by decide +kernel
theorem dX1_copyFrom_58 : decode cX1_copyFrom 58 = .ok (.invokestatic 46, 3) := by decide +kernel
theorem dX1_copyFrom_61 : decode cX1_copyFrom 61 = .ok (.aload_n 1, 1) := by decide +kernel
theorem dX1_copyFrom_62 : decode cX1_copyFrom 62 = .ok (.getfield 21, 3) := by decide +kernel
theorem dX1_copyFrom_65 : decode cX1_copyFrom 65 = .ok (.iconst 0, 1) := by decide +kernel
theorem dX1_copyFrom_66 : decode cX1_copyFrom 66 = .ok (.aload_n 0, 1) := by decide +kernel
theorem dX1_copyFrom_67 : decode cX1_copyFrom 67 = .ok (.getfield 21, 3) := by decide +kernel
theorem dX1_copyFrom_70 : decode cX1_copyFrom 70 = .ok (.iconst 0, 1) := by decide +kernel
theorem dX1_copyFrom_71 : decode cX1_copyFrom 71 = .ok (.bipush 12, 2) := by decide +kernel
theorem dX1_copyFrom_73 : decode cX1_copyFrom 73 = .ok (.invokestatic 46, 3) := by decide +kernel
theorem dX1_copyFrom_76 : decode cX1_copyFrom 76 = .ok (.aload_n 1, 1) := by decide +kernel
theorem dX1_copyFrom_77 : decode cX1_copyFrom 77 = .ok (.getfield 24, 3) := by decide +kernel
theorem dX1_copyFrom_80 : decode cX1_copyFrom 80 = .ok (.iconst 0, 1) := by decide +kernel
theorem dX1_copyFrom_81 : decode cX1_copyFrom 81 = .ok (.aload_n 0, 1) := by decide +kernel
theorem dX1_copyFrom_82 : decode cX1_copyFrom 82 = .ok (.getfield 24, 3) := by decide +kernel
theorem dX1_copyFrom_85 : decode cX1_copyFrom 85 = .ok (.iconst 0, 1) := by decide +kernel
theorem dX1_copyFrom_86 : decode cX1_copyFrom 86 = .ok (.bipush 12, 2) := by decide +kernel
theorem dX1_copyFrom_88 : decode cX1_copyFrom 88 = .ok (.invokestatic 46, 3) := by decide +kernel
theorem dX1_copyFrom_91 : decode cX1_copyFrom 91 = .ok (.aload_n 1, 1) := by decide +kernel
theorem dX1_copyFrom_92 : decode cX1_copyFrom 92 = .ok (.getfield 27, 3) := by decide +kernel
theorem dX1_copyFrom_95 : decode cX1_copyFrom 95 = .ok (.iconst 0, 1) := by decide +kernel
theorem dX1_copyFrom_96 : decode cX1_copyFrom 96 = .ok (.aload_n 0, 1) := by decide +kernel
theorem dX1_copyFrom_97 : decode cX1_copyFrom 97 = .ok (.getfield 27, 3) := by decide +kernel
theorem dX1_copyFrom_100 : decode cX1_copyFrom 100 = .ok (.iconst 0, 1) := by decide +kernel
theorem dX1_copyFrom_101 : decode cX1_copyFrom 101 = .ok (.bipush 12, 2) := by decide +kernel
theorem dX1_copyFrom_103 : decode cX1_copyFrom 103 = .ok (.invokestatic 46, 3) := by decide +kernel
theorem dX1_copyFrom_106 : decode cX1_copyFrom 106 = .ok (.aload_n 1, 1) := by decide +kernel
theorem dX1_copyFrom_107 : decode cX1_copyFrom 107 = .ok (.getfield 30, 3) := by decide +kernel
theorem dX1_copyFrom_110 : decode cX1_copyFrom 110 = .ok (.iconst 0, 1) := by decide +kernel
theorem dX1_copyFrom_111 : decode cX1_copyFrom 111 = .ok (.aload_n 0, 1) := by decide +kernel
theorem dX1_copyFrom_112 : decode cX1_copyFrom 112 = .ok (.getfield 30, 3) := by decide +kernel
theorem dX1_copyFrom_115 : decode cX1_copyFrom 115 = .ok (.iconst 0, 1) := by decide +kernel
theorem dX1_copyFrom_116 : decode cX1_copyFrom 116 = .ok (.bipush 12, 2) := by decide +kernel
theorem dX1_copyFrom_118 : decode cX1_copyFrom 118 = .ok (.invokestatic 46, 3) := by decide +kernel
theorem dX1_copyFrom_121 : decode cX1_copyFrom 121 = .ok (.aload_n 0, 1) := by decide +kernel
theorem dX1_copyFrom_122 : decode cX1_copyFrom 122 = .ok (.aload_n 1, 1) := by decide +kernel
theorem dX1_copyFrom_123 : decode cX1_copyFrom 123 = .ok (.getfield 40, 3) := by decide +kernel
theorem dX1_copyFrom_126 : decode cX1_copyFrom 126 = .ok (.putfield 40, 3) := by decide +kernel
theorem dX1_copyFrom_129 : decode cX1_copyFrom 129 = .ok (.return_, 1) := by decide +kernel
theorem dX1_owedTo_0 : decode cX1_owedTo 0 = .ok (.iconst 0, 1) := by decide +kernel
theorem dX1_owedTo_1 : decode cX1_owedTo 1 = .ok (.istore_n 2, 1) := by decide +kernel
theorem dX1_owedTo_2 : decode cX1_owedTo 2 = .ok (.iconst 0, 1) := by decide +kernel
theorem dX1_owedTo_3 : decode cX1_owedTo 3 = .ok (.istore_n 3, 1) := by decide +kernel
theorem dX1_owedTo_4 : decode cX1_owedTo 4 = .ok (.iload_n 3, 1) := by decide +kernel
theorem dX1_owedTo_5 : decode cX1_owedTo 5 = .ok (.aload_n 0, 1) := by decide +kernel
theorem dX1_owedTo_6 : decode cX1_owedTo 6 = .ok (.getfield 37, 3) := by decide +kernel
theorem dX1_owedTo_9 : decode cX1_owedTo 9 = .ok (.if_icmp .ge 28, 3) := by decide +kernel
theorem dX1_owedTo_12 : decode cX1_owedTo 12 = .ok (.aload_n 0, 1) := by decide +kernel
theorem dX1_owedTo_13 : decode cX1_owedTo 13 = .ok (.getfield 18, 3) := by decide +kernel
theorem dX1_owedTo_16 : decode cX1_owedTo 16 = .ok (.iload_n 3, 1) := by decide +kernel
theorem dX1_owedTo_17 : decode cX1_owedTo 17 = .ok (.iaload, 1) := by decide +kernel
theorem dX1_owedTo_18 : decode cX1_owedTo 18 = .ok (.iload_n 1, 1) := by decide +kernel
theorem dX1_owedTo_19 : decode cX1_owedTo 19 = .ok (.if_icmp .ne 12, 3) := by decide +kernel
theorem dX1_owedTo_22 : decode cX1_owedTo 22 = .ok (.iload_n 2, 1) := by decide +kernel
theorem dX1_owedTo_23 : decode cX1_owedTo 23 = .ok (.aload_n 0, 1) := by decide +kernel
theorem dX1_owedTo_24 : decode cX1_owedTo 24 = .ok (.getfield 24, 3) := by decide +kernel
theorem dX1_owedTo_27 : decode cX1_owedTo 27 = .ok (.iload_n 3, 1) := by decide +kernel
theorem dX1_owedTo_28 : decode cX1_owedTo 28 = .ok (.iaload, 1) := by decide +kernel
theorem dX1_owedTo_29 : decode cX1_owedTo 29 = .ok (.iadd, 1) := by decide +kernel
theorem dX1_owedTo_30 : decode cX1_owedTo 30 = .ok (.istore_n 2, 1) := by decide +kernel
theorem dX1_owedTo_31 : decode cX1_owedTo 31 = .ok (.iinc 3 1, 3) := by decide +kernel
theorem dX1_owedTo_34 : decode cX1_owedTo 34 = .ok (.goto (-30), 3) := by decide +kernel
theorem dX1_owedTo_37 : decode cX1_owedTo 37 = .ok (.iload_n 2, 1) := by decide +kernel
theorem dX1_owedTo_38 : decode cX1_owedTo 38 = .ok (.ireturn, 1) := by decide +kernel
theorem dX1_owedInAll_0 : decode cX1_owedInAll 0 = .ok (.iconst 0, 1) := by decide +kernel
theorem dX1_owedInAll_1 : decode cX1_owedInAll 1 = .ok (.istore_n 1, 1) := by decide +kernel
theorem dX1_owedInAll_2 : decode cX1_owedInAll 2 = .ok (.iconst 0, 1) := by decide +kernel
theorem dX1_owedInAll_3 : decode cX1_owedInAll 3 = .ok (.istore_n 2, 1) := by decide +kernel
theorem dX1_owedInAll_4 : decode cX1_owedInAll 4 = .ok (.iload_n 2, 1) := by decide +kernel
theorem dX1_owedInAll_5 : decode cX1_owedInAll 5 = .ok (.aload_n 0, 1) := by decide +kernel
theorem dX1_owedInAll_6 : decode cX1_owedInAll 6 = .ok (.getfield 37, 3) := by decide +kernel
theorem dX1_owedInAll_9 : decode cX1_owedInAll 9 = .ok (.if_icmp .ge 18, 3) := by decide +kernel
theorem dX1_owedInAll_12 : decode cX1_owedInAll 12 = .ok (.iload_n 1, 1) := by decide +kernel
theorem dX1_owedInAll_13 : decode cX1_owedInAll 13 = .ok (.aload_n 0, 1) := by decide +kernel
theorem dX1_owedInAll_14 : decode cX1_owedInAll 14 = .ok (.getfield 24, 3) := by decide +kernel
theorem dX1_owedInAll_17 : decode cX1_owedInAll 17 = .ok (.iload_n 2, 1) := by decide +kernel
theorem dX1_owedInAll_18 : decode cX1_owedInAll 18 = .ok (.iaload, 1) := by decide +kernel
theorem dX1_owedInAll_19 : decode cX1_owedInAll 19 = .ok (.iadd, 1) := by decide +kernel
theorem dX1_owedInAll_20 : decode cX1_owedInAll 20 = .ok (.istore_n 1, 1) := by decide +kernel
theorem dX1_owedInAll_21 : decode cX1_owedInAll 21 = .ok (.iinc 2 1, 3) := by decide +kernel
theorem dX1_owedInAll_24 : decode cX1_owedInAll 24 = .ok (.goto (-20), 3) := by decide +kernel
theorem dX1_owedInAll_27 : decode cX1_owedInAll 27 = .ok (.iload_n 1, 1) := by decide +kernel
theorem dX1_owedInAll_28 : decode cX1_owedInAll 28 = .ok (.ireturn, 1) := by decide +kernel
set_option maxRecDepth 20000 in
theorem ggX1_isCross_X1_owedTo : GoodIn wsX1_isCross wsX1_owedTo := goodIn_sub (List.forall_mem_cons.mpr ⟨List.mem_cons_of_mem _ (List.mem_append_left _ (List.mem_append_left _ (List.mem_of_getElem? (i := 7) rfl))), List.forall_mem_append.mpr ⟨List.forall_mem_cons.mpr ⟨List.mem_cons_of_mem _ (List.mem_append_left _ (List.mem_append_left _ (List.mem_of_getElem? (i := 8) rfl))), List.forall_mem_cons.mpr ⟨List.mem_cons_of_mem _ (List.mem_append_left _ (List.mem_append_left _ (List.mem_of_getElem? (i := 9) rfl))), List.forall_mem_cons.mpr ⟨List.mem_cons_of_mem _ (List.mem_append_left _ (List.mem_append_left _ (List.mem_of_getElem? (i := 10) rfl))), (fun _ h => absurd h List.not_mem_nil)⟩⟩⟩, (fun _ h => List.mem_cons_of_mem _ (List.mem_append_right _ (h)))⟩⟩) (by decide +kernel)
set_option maxRecDepth 20000 in
theorem gX1_isCross_X1_owedTo : GoodIn wsX1_isCross (wsV RX1 52 RX1 yX1_owedTo wsX1_owedTo) := goodIn_app (goodIn_sub (List.forall_mem_cons.mpr ⟨List.mem_cons_of_mem _ (List.mem_append_left _ (List.mem_append_left _ (List.mem_of_getElem? (i := 3) rfl))), List.forall_mem_cons.mpr ⟨List.mem_cons_of_mem _ (List.mem_append_left _ (List.mem_append_left _ (List.mem_of_getElem? (i := 4) rfl))), List.forall_mem_cons.mpr ⟨List.mem_cons_of_mem _ (List.mem_append_left _ (List.mem_append_left _ (List.mem_of_getElem? (i := 5) rfl))), List.forall_mem_cons.mpr ⟨List.mem_cons_of_mem _ (List.mem_append_left _ (List.mem_append_left _ (List.mem_of_getElem? (i := 6) rfl))), (fun _ h => absurd h List.not_mem_nil)⟩⟩⟩⟩) (by decide +kernel)) ggX1_isCross_X1_owedTo
theorem dX1_isCross_0 : decode cX1_isCross 0 = .ok (.aload_n 0, 1) := by decide +kernel
theorem dX1_isCross_1 : decode cX1_isCross 1 = .ok (.iload_n 2, 1) := by decide +kernel
theorem dX1_isCross_2 : decode cX1_isCross 2 = .ok (.invokevirtual 52, 3) := by decide +kernel
theorem dX1_isCross_5 : decode cX1_isCross 5 = .ok (.istore_n 3, 1) := by decide +kernel
theorem dX1_isCross_6 : decode cX1_isCross 6 = .ok (.iconst 0, 1) := by decide +kernel
theorem dX1_isCross_7 : decode cX1_isCross 7 = .ok (.istore 4, 2) := by decide +kernel
theorem dX1_isCross_9 : decode cX1_isCross 9 = .ok (.iload 4, 2) := by decide +kernel
theorem dX1_isCross_11 : decode cX1_isCross 11 = .ok (.aload_n 1, 1) := by decide +kernel
theorem dX1_isCross_12 : decode cX1_isCross 12 = .ok (.getfield 56, 3) := by decide +kernel
theorem dX1_isCross_15 : decode cX1_isCross 15 = .ok (.if_icmp .ge 65, 3) := by decide +kernel
theorem dX1_isCross_18 : decode cX1_isCross 18 = .ok (.aload_n 1, 1) := by decide +kernel
theorem dX1_isCross_19 : decode cX1_isCross 19 = .ok (.getfield 59, 3) := by decide +kernel
theorem dX1_isCross_22 : decode cX1_isCross 22 = .ok (.iload 4, 2) := by decide +kernel
theorem dX1_isCross_24 : decode cX1_isCross 24 = .ok (.iaload, 1) := by decide +kernel
theorem dX1_isCross_25 : decode cX1_isCross 25 = .ok (.iload_n 2, 1) := by decide +kernel
theorem dX1_isCross_26 : decode cX1_isCross 26 = .ok (.if_icmp .ne 20, 3) := by decide +kernel
theorem dX1_isCross_29 : decode cX1_isCross 29 = .ok (.aload_n 0, 1) := by decide +kernel
theorem dX1_isCross_30 : decode cX1_isCross 30 = .ok (.aload_n 1, 1) := by decide +kernel
theorem dX1_isCross_31 : decode cX1_isCross 31 = .ok (.getfield 62, 3) := by decide +kernel
theorem dX1_isCross_34 : decode cX1_isCross 34 = .ok (.iload 4, 2) := by decide +kernel
theorem dX1_isCross_36 : decode cX1_isCross 36 = .ok (.iaload, 1) := by decide +kernel
theorem dX1_isCross_37 : decode cX1_isCross 37 = .ok (.invokevirtual 52, 3) := by decide +kernel
theorem dX1_isCross_40 : decode cX1_isCross 40 = .ok (.iload_n 3, 1) := by decide +kernel
theorem dX1_isCross_41 : decode cX1_isCross 41 = .ok (.if_icmp .le 5, 3) := by decide +kernel
theorem dX1_isCross_44 : decode cX1_isCross 44 = .ok (.iconst 1, 1) := by decide +kernel
theorem dX1_isCross_45 : decode cX1_isCross 45 = .ok (.ireturn, 1) := by decide +kernel
theorem dX1_isCross_46 : decode cX1_isCross 46 = .ok (.aload_n 1, 1) := by decide +kernel
theorem dX1_isCross_47 : decode cX1_isCross 47 = .ok (.getfield 62, 3) := by decide +kernel
theorem dX1_isCross_50 : decode cX1_isCross 50 = .ok (.iload 4, 2) := by decide +kernel
theorem dX1_isCross_52 : decode cX1_isCross 52 = .ok (.iaload, 1) := by decide +kernel
theorem dX1_isCross_53 : decode cX1_isCross 53 = .ok (.iload_n 2, 1) := by decide +kernel
theorem dX1_isCross_54 : decode cX1_isCross 54 = .ok (.if_icmp .ne 20, 3) := by decide +kernel
theorem dX1_isCross_57 : decode cX1_isCross 57 = .ok (.aload_n 0, 1) := by decide +kernel
theorem dX1_isCross_58 : decode cX1_isCross 58 = .ok (.aload_n 1, 1) := by decide +kernel
theorem dX1_isCross_59 : decode cX1_isCross 59 = .ok (.getfield 59, 3) := by decide +kernel
theorem dX1_isCross_62 : decode cX1_isCross 62 = .ok (.iload 4, 2) := by decide +kernel
theorem dX1_isCross_64 : decode cX1_isCross 64 = .ok (.iaload, 1) := by decide +kernel
theorem dX1_isCross_65 : decode cX1_isCross 65 = .ok (.invokevirtual 52, 3) := by decide +kernel
theorem dX1_isCross_68 : decode cX1_isCross 68 = .ok (.iload_n 3, 1) := by decide +kernel
theorem dX1_isCross_69 : decode cX1_isCross 69 = .ok (.if_icmp .le 5, 3) := by decide +kernel
theorem dX1_isCross_72 : decode cX1_isCross 72 = .ok (.iconst 1, 1) := by decide +kernel
theorem dX1_isCross_73 : decode cX1_isCross 73 = .ok (.ireturn, 1) := by decide +kernel
theorem dX1_isCross_74 : decode cX1_isCross 74 = .ok (.iinc 4 1, 3) := by decide +kernel
theorem dX1_isCross_77 : decode cX1_isCross 77 = .ok (.goto (-68), 3) := by decide +kernel
theorem dX1_isCross_80 : decode cX1_isCross 80 = .ok (.iconst 0, 1) := by decide +kernel
theorem dX1_isCross_81 : decode cX1_isCross 81 = .ok (.ireturn, 1) := by decide +kernel
set_option maxRecDepth 20000 in
theorem ggX1_lends_X1_isCross : GoodIn wsX1_lends wsX1_isCross := goodIn_sub (List.forall_mem_cons.mpr ⟨List.mem_cons_of_mem _ (List.mem_append_left _ (List.mem_append_left _ (List.mem_of_getElem? (i := 5) rfl))), List.forall_mem_append.mpr ⟨List.forall_mem_append.mpr ⟨List.forall_mem_cons.mpr ⟨List.mem_cons_of_mem _ (List.mem_append_left _ (List.mem_append_left _ (List.mem_of_getElem? (i := 6) rfl))), List.forall_mem_cons.mpr ⟨List.mem_cons_of_mem _ (List.mem_append_left _ (List.mem_append_left _ (List.mem_of_getElem? (i := 7) rfl))), List.forall_mem_cons.mpr ⟨List.mem_cons_of_mem _ (List.mem_append_left _ (List.mem_append_left _ (List.mem_of_getElem? (i := 8) rfl))), List.forall_mem_cons.mpr ⟨List.mem_cons_of_mem _ (List.mem_append_left _ (List.mem_append_left _ (List.mem_of_getElem? (i := 9) rfl))), List.forall_mem_cons.mpr ⟨List.mem_cons_of_mem _ (List.mem_append_left _ (List.mem_append_left _ (List.mem_of_getElem? (i := 10) rfl))), List.forall_mem_cons.mpr ⟨List.mem_cons_of_mem _ (List.mem_append_left _ (List.mem_append_left _ (List.mem_of_getElem? (i := 11) rfl))), List.forall_mem_cons.mpr ⟨List.mem_cons_of_mem _ (List.mem_append_left _ (List.mem_append_left _ (List.mem_of_getElem? (i := 4) rfl))), List.forall_mem_cons.mpr ⟨List.mem_cons_of_mem _ (List.mem_append_left _ (List.mem_append_left _ (List.mem_of_getElem? (i := 12) rfl))), List.forall_mem_cons.mpr ⟨List.mem_cons_of_mem _ (List.mem_append_left _ (List.mem_append_left _ (List.mem_of_getElem? (i := 13) rfl))), List.forall_mem_cons.mpr ⟨List.mem_cons_of_mem _ (List.mem_append_left _ (List.mem_append_left _ (List.mem_of_getElem? (i := 14) rfl))), List.forall_mem_cons.mpr ⟨List.mem_cons_of_mem _ (List.mem_append_left _ (List.mem_append_left _ (List.mem_of_getElem? (i := 15) rfl))), (fun _ h => absurd h List.not_mem_nil)⟩⟩⟩⟩⟩⟩⟩⟩⟩⟩⟩, (fun _ h => List.mem_cons_of_mem _ (List.mem_append_right _ (h)))⟩, (fun _ h => List.mem_cons_of_mem _ (List.mem_append_left _ (List.mem_append_right _ (h))))⟩⟩) (by decide +kernel)
set_option maxRecDepth 20000 in
theorem gX1_lends_X1_isCross : GoodIn wsX1_lends (wsV RX1 65 RX1 yX1_isCross wsX1_isCross) := goodIn_app (goodIn_sub (List.forall_mem_cons.mpr ⟨List.mem_cons_of_mem _ (List.mem_append_left _ (List.mem_append_left _ (List.mem_of_getElem? (i := 1) rfl))), List.forall_mem_cons.mpr ⟨List.mem_cons_of_mem _ (List.mem_append_left _ (List.mem_append_left _ (List.mem_of_getElem? (i := 2) rfl))), List.forall_mem_cons.mpr ⟨List.mem_cons_of_mem _ (List.mem_append_left _ (List.mem_append_left _ (List.mem_of_getElem? (i := 3) rfl))), List.forall_mem_cons.mpr ⟨List.mem_cons_of_mem _ (List.mem_append_left _ (List.mem_append_left _ (List.mem_of_getElem? (i := 4) rfl))), (fun _ h => absurd h List.not_mem_nil)⟩⟩⟩⟩) (by decide +kernel)) ggX1_lends_X1_isCross
theorem dX1_lends_0 : decode cX1_lends 0 = .ok (.aload_n 0, 1) := by decide +kernel
theorem dX1_lends_1 : decode cX1_lends 1 = .ok (.getfield 15, 3) := by decide +kernel
theorem dX1_lends_4 : decode cX1_lends 4 = .ok (.iload_n 2, 1) := by decide +kernel
theorem dX1_lends_5 : decode cX1_lends 5 = .ok (.iaload, 1) := by decide +kernel
theorem dX1_lends_6 : decode cX1_lends 6 = .ok (.ifCond .ne 16, 3) := by decide +kernel
theorem dX1_lends_9 : decode cX1_lends 9 = .ok (.aload_n 0, 1) := by decide +kernel
theorem dX1_lends_10 : decode cX1_lends 10 = .ok (.aload_n 1, 1) := by decide +kernel
theorem dX1_lends_11 : decode cX1_lends 11 = .ok (.iload_n 2, 1) := by decide +kernel
theorem dX1_lends_12 : decode cX1_lends 12 = .ok (.invokevirtual 65, 3) := by decide +kernel
theorem dX1_lends_15 : decode cX1_lends 15 = .ok (.ifCond .ne 7, 3) := by decide +kernel
theorem dX1_lends_18 : decode cX1_lends 18 = .ok (.iconst 1, 1) := by decide +kernel
theorem dX1_lends_19 : decode cX1_lends 19 = .ok (.goto 4, 3) := by decide +kernel
theorem dX1_lends_22 : decode cX1_lends 22 = .ok (.iconst 0, 1) := by decide +kernel
theorem dX1_lends_23 : decode cX1_lends 23 = .ok (.ireturn, 1) := by decide +kernel
set_option maxRecDepth 20000 in
theorem ggX1_lend_X3_dueOf : GoodIn wsX1_lend wsX3_dueOf := goodIn_sub (List.forall_mem_cons.mpr ⟨List.mem_cons_of_mem _ (List.mem_append_left _ (List.mem_append_left _ (List.mem_of_getElem? (i := 12) rfl))), List.forall_mem_append.mpr ⟨List.forall_mem_cons.mpr ⟨List.mem_cons_of_mem _ (List.mem_append_left _ (List.mem_append_left _ (List.mem_of_getElem? (i := 13) rfl))), List.forall_mem_cons.mpr ⟨List.mem_cons_of_mem _ (List.mem_append_left _ (List.mem_append_left _ (List.mem_of_getElem? (i := 14) rfl))), (fun _ h => absurd h List.not_mem_nil)⟩⟩, (fun _ h => List.mem_cons_of_mem _ (List.mem_append_right _ (h)))⟩⟩) (by decide +kernel)
set_option maxRecDepth 20000 in
theorem gX1_lend_X3_dueOf : GoodIn wsX1_lend (wsV RX1 69 RX3 yX3_dueOf wsX3_dueOf) := goodIn_app (goodIn_sub (List.forall_mem_cons.mpr ⟨List.mem_cons_of_mem _ (List.mem_append_left _ (List.mem_append_left _ (List.mem_of_getElem? (i := 8) rfl))), List.forall_mem_cons.mpr ⟨List.mem_cons_of_mem _ (List.mem_append_left _ (List.mem_append_left _ (List.mem_of_getElem? (i := 9) rfl))), List.forall_mem_cons.mpr ⟨List.mem_cons_of_mem _ (List.mem_append_left _ (List.mem_append_left _ (List.mem_of_getElem? (i := 10) rfl))), List.forall_mem_cons.mpr ⟨List.mem_cons_of_mem _ (List.mem_append_left _ (List.mem_append_left _ (List.mem_of_getElem? (i := 11) rfl))), (fun _ h => absurd h List.not_mem_nil)⟩⟩⟩⟩) (by decide +kernel)) ggX1_lend_X3_dueOf
theorem dX1_lend_0 : decode cX1_lend 0 = .ok (.aload_n 0, 1) := by decide +kernel
theorem dX1_lend_1 : decode cX1_lend 1 = .ok (.getfield 37, 3) := by decide +kernel
theorem dX1_lend_4 : decode cX1_lend 4 = .ok (.istore 4, 2) := by decide +kernel
theorem dX1_lend_6 : decode cX1_lend 6 = .ok (.aload_n 0, 1) := by decide +kernel
theorem dX1_lend_7 : decode cX1_lend 7 = .ok (.getfield 18, 3) := by decide +kernel
theorem dX1_lend_10 : decode cX1_lend 10 = .ok (.iload 4, 2) := by decide +kernel
theorem dX1_lend_12 : decode cX1_lend 12 = .ok (.iload_n 2, 1) := by decide +kernel
theorem dX1_lend_13 : decode cX1_lend 13 = .ok (.iastore, 1) := by decide +kernel
theorem dX1_lend_14 : decode cX1_lend 14 = .ok (.aload_n 0, 1) := by decide +kernel
theorem dX1_lend_15 : decode cX1_lend 15 = .ok (.getfield 21, 3) := by decide +kernel
theorem dX1_lend_18 : decode cX1_lend 18 = .ok (.iload 4, 2) := by decide +kernel
theorem dX1_lend_20 : decode cX1_lend 20 = .ok (.iload_n 3, 1) := by decide +kernel
theorem dX1_lend_21 : decode cX1_lend 21 = .ok (.iastore, 1) := by decide +kernel
theorem dX1_lend_22 : decode cX1_lend 22 = .ok (.aload_n 0, 1) := by decide +kernel
theorem dX1_lend_23 : decode cX1_lend 23 = .ok (.getfield 24, 3) := by decide +kernel
theorem dX1_lend_26 : decode cX1_lend 26 = .ok (.iload 4, 2) := by decide +kernel
theorem dX1_lend_28 : decode cX1_lend 28 = .ok (.bipush 100, 2) := by decide +kernel
theorem dX1_lend_30 : decode cX1_lend 30 = .ok (.iload_n 3, 1) := by decide +kernel
theorem dX1_lend_31 : decode cX1_lend 31 = .ok (.imul, 1) := by decide +kernel
theorem dX1_lend_32 : decode cX1_lend 32 = .ok (.iastore, 1) := by decide +kernel
theorem dX1_lend_33 : decode cX1_lend 33 = .ok (.aload_n 0, 1) := by decide +kernel
theorem dX1_lend_34 : decode cX1_lend 34 = .ok (.getfield 27, 3) := by decide +kernel
theorem dX1_lend_37 : decode cX1_lend 37 = .ok (.iload 4, 2) := by decide +kernel
theorem dX1_lend_39 : decode cX1_lend 39 = .ok (.aload_n 1, 1) := by decide +kernel
theorem dX1_lend_40 : decode cX1_lend 40 = .ok (.iload_n 2, 1) := by decide +kernel
theorem dX1_lend_41 : decode cX1_lend 41 = .ok (.aload_n 0, 1) := by decide +kernel
theorem dX1_lend_42 : decode cX1_lend 42 = .ok (.getfield 33, 3) := by decide +kernel
theorem dX1_lend_45 : decode cX1_lend 45 = .ok (.invokevirtual 69, 3) := by decide +kernel
theorem dX1_lend_48 : decode cX1_lend 48 = .ok (.iastore, 1) := by decide +kernel
theorem dX1_lend_49 : decode cX1_lend 49 = .ok (.aload_n 0, 1) := by decide +kernel
theorem dX1_lend_50 : decode cX1_lend 50 = .ok (.getfield 30, 3) := by decide +kernel
theorem dX1_lend_53 : decode cX1_lend 53 = .ok (.iload 4, 2) := by decide +kernel
theorem dX1_lend_55 : decode cX1_lend 55 = .ok (.iconst 0, 1) := by decide +kernel
theorem dX1_lend_56 : decode cX1_lend 56 = .ok (.iastore, 1) := by decide +kernel
theorem dX1_lend_57 : decode cX1_lend 57 = .ok (.aload_n 0, 1) := by decide +kernel
theorem dX1_lend_58 : decode cX1_lend 58 = .ok (.getfield 9, 3) := by decide +kernel
theorem dX1_lend_61 : decode cX1_lend 61 = .ok (.iload_n 2, 1) := by decide +kernel
theorem dX1_lend_62 : decode cX1_lend 62 = .ok (.dup2, 1) := by decide +kernel
theorem dX1_lend_63 : decode cX1_lend 63 = .ok (.iaload, 1) := by decide +kernel
theorem dX1_lend_64 : decode cX1_lend 64 = .ok (.iload_n 3, 1) := by decide +kernel
theorem dX1_lend_65 : decode cX1_lend 65 = .ok (.isub, 1) := by decide +kernel
theorem dX1_lend_66 : decode cX1_lend 66 = .ok (.iastore, 1) := by decide +kernel
theorem dX1_lend_67 : decode cX1_lend 67 = .ok (.aload_n 0, 1) := by decide +kernel
theorem dX1_lend_68 : decode cX1_lend 68 = .ok (.dup, 1) := by decide +kernel
theorem dX1_lend_69 : decode cX1_lend 69 = .ok (.getfield 37, 3) := by decide +kernel
theorem dX1_lend_72 : decode cX1_lend 72 = .ok (.iconst 1, 1) := by decide +kernel
theorem dX1_lend_73 : decode cX1_lend 73 = .ok (.iadd, 1) := by decide +kernel
theorem dX1_lend_74 : decode cX1_lend 74 = .ok (.putfield 37, 3) := by decide +kernel
theorem dX1_lend_77 : decode cX1_lend 77 = .ok (.iload 4, 2) := by decide +kernel
theorem dX1_lend_79 : decode cX1_lend 79 = .ok (.ireturn, 1) := by decide +kernel
theorem dX1_addBranches_0 : decode cX1_addBranches 0 = .ok (.aload_n 0, 1) := by decide +kernel
theorem dX1_addBranches_1 : decode cX1_addBranches 1 = .ok (.getfield 9, 3) := by decide +kernel
theorem dX1_addBranches_4 : decode cX1_addBranches 4 = .ok (.iload_n 1, 1) := by decide +kernel
theorem dX1_addBranches_5 : decode cX1_addBranches 5 = .ok (.aload_n 0, 1) := by decide +kernel
theorem dX1_addBranches_6 : decode cX1_addBranches 6 = .ok (.getfield 9, 3) := by decide +kernel
theorem dX1_addBranches_9 : decode cX1_addBranches 9 = .ok (.iload_n 1, 1) := by decide +kernel
theorem dX1_addBranches_10 : decode cX1_addBranches 10 = .ok (.iaload, 1) := by decide +kernel
theorem dX1_addBranches_11 : decode cX1_addBranches 11 = .ok (.iload_n 2, 1) := by decide +kernel
theorem dX1_addBranches_12 : decode cX1_addBranches 12 = .ok (.iadd, 1) := by decide +kernel
theorem dX1_addBranches_13 : decode cX1_addBranches 13 = .ok (.bipush 99, 2) := by decide +kernel
theorem dX1_addBranches_15 : decode cX1_addBranches 15 = .ok (.invokestatic 73, 3) := by decide +kernel
theorem dX1_addBranches_18 : decode cX1_addBranches 18 = .ok (.iastore, 1) := by decide +kernel
theorem dX1_addBranches_19 : decode cX1_addBranches 19 = .ok (.return_, 1) := by decide +kernel
set_option maxRecDepth 20000 in
theorem ggX1_passDays_X1_growLoans : GoodIn wsX1_passDays wsX1_growLoans := goodIn_sub (List.forall_mem_cons.mpr ⟨List.mem_cons_of_mem _ (List.mem_append_left _ (List.mem_append_left _ (List.mem_append_left _ (List.mem_of_getElem? (i := 5) rfl)))), List.forall_mem_append.mpr ⟨List.forall_mem_append.mpr ⟨List.forall_mem_cons.mpr ⟨List.mem_cons_of_mem _ (List.mem_append_left _ (List.mem_append_left _ (List.mem_append_left _ (List.mem_of_getElem? (i := 6) rfl)))), List.forall_mem_cons.mpr ⟨List.mem_cons_of_mem _ (List.mem_append_left _ (List.mem_append_left _ (List.mem_append_left _ (List.mem_of_getElem? (i := 7) rfl)))), List.forall_mem_cons.mpr ⟨List.mem_cons_of_mem _ (List.mem_append_left _ (List.mem_append_left _ (List.mem_append_left _ (List.mem_of_getElem? (i := 8) rfl)))), List.forall_mem_cons.mpr ⟨List.mem_cons_of_mem _ (List.mem_append_left _ (List.mem_append_left _ (List.mem_append_left _ (List.mem_of_getElem? (i := 9) rfl)))), List.forall_mem_cons.mpr ⟨List.mem_cons_of_mem _ (List.mem_append_left _ (List.mem_append_left _ (List.mem_append_left _ (List.mem_of_getElem? (i := 10) rfl)))), List.forall_mem_cons.mpr ⟨List.mem_cons_of_mem _ (List.mem_append_left _ (List.mem_append_left _ (List.mem_append_left _ (List.mem_of_getElem? (i := 11) rfl)))), List.forall_mem_cons.mpr ⟨List.mem_cons_of_mem _ (List.mem_append_left _ (List.mem_append_left _ (List.mem_append_left _ (List.mem_of_getElem? (i := 12) rfl)))), List.forall_mem_cons.mpr ⟨List.mem_cons_of_mem _ (List.mem_append_left _ (List.mem_append_left _ (List.mem_append_left _ (List.mem_of_getElem? (i := 13) rfl)))), List.forall_mem_cons.mpr ⟨List.mem_cons_of_mem _ (List.mem_append_left _ (List.mem_append_left _ (List.mem_append_left _ (List.mem_of_getElem? (i := 14) rfl)))), List.forall_mem_cons.mpr ⟨List.mem_cons_of_mem _ (List.mem_append_left _ (List.mem_append_left _ (List.mem_append_left _ (List.mem_of_getElem? (i := 15) rfl)))), List.forall_mem_cons.mpr ⟨List.mem_cons_of_mem _ (List.mem_append_left _ (List.mem_append_left _ (List.mem_append_left _ (List.mem_of_getElem? (i := 16) rfl)))), List.forall_mem_cons.mpr ⟨List.mem_cons_of_mem _ (List.mem_append_left _ (List.mem_append_left _ (List.mem_append_left _ (List.mem_of_getElem? (i := 17) rfl)))), List.forall_mem_cons.mpr ⟨List.mem_cons_of_mem _ (List.mem_append_left _ (List.mem_append_left _ (List.mem_append_left _ (List.mem_of_getElem? (i := 18) rfl)))), List.forall_mem_cons.mpr ⟨List.mem_cons_of_mem _ (List.mem_append_left _ (List.mem_append_left _ (List.mem_append_left _ (List.mem_of_getElem? (i := 19) rfl)))), List.forall_mem_cons.mpr ⟨List.mem_cons_of_mem _ (List.mem_append_left _ (List.mem_append_left _ (List.mem_append_left _ (List.mem_of_getElem? (i := 20) rfl)))), List.forall_mem_cons.mpr ⟨List.mem_cons_of_mem _ (List.mem_append_left _ (List.mem_append_left _ (List.mem_append_left _ (List.mem_of_getElem? (i := 21) rfl)))), (fun _ h => absurd h List.not_mem_nil)⟩⟩⟩⟩⟩⟩⟩⟩⟩⟩⟩⟩⟩⟩⟩⟩, (fun _ h => List.mem_cons_of_mem _ (List.mem_append_left _ (List.mem_append_right _ (h))))⟩, (fun _ h => List.mem_cons_of_mem _ (List.mem_append_right _ (h)))⟩⟩) (by decide +kernel)
set_option maxRecDepth 20000 in
theorem gX1_passDays_X1_growLoans : GoodIn wsX1_passDays (wsV RX1 78 RX1 yX1_growLoans wsX1_growLoans) := goodIn_app (goodIn_sub (List.forall_mem_cons.mpr ⟨List.mem_cons_of_mem _ (List.mem_append_left _ (List.mem_append_left _ (List.mem_append_left _ (List.mem_of_getElem? (i := 1) rfl)))), List.forall_mem_cons.mpr ⟨List.mem_cons_of_mem _ (List.mem_append_left _ (List.mem_append_left _ (List.mem_append_left _ (List.mem_of_getElem? (i := 2) rfl)))), List.forall_mem_cons.mpr ⟨List.mem_cons_of_mem _ (List.mem_append_left _ (List.mem_append_left _ (List.mem_append_left _ (List.mem_of_getElem? (i := 3) rfl)))), List.forall_mem_cons.mpr ⟨List.mem_cons_of_mem _ (List.mem_append_left _ (List.mem_append_left _ (List.mem_append_left _ (List.mem_of_getElem? (i := 4) rfl)))), (fun _ h => absurd h List.not_mem_nil)⟩⟩⟩⟩) (by decide +kernel)) ggX1_passDays_X1_growLoans
set_option maxRecDepth 20000 in
theorem ggX1_passDays_X1_workOff : GoodIn wsX1_passDays wsX1_workOff := goodIn_sub (List.forall_mem_cons.mpr ⟨List.mem_cons_of_mem _ (List.mem_append_left _ (List.mem_append_left _ (List.mem_append_right _ (List.mem_of_getElem? (i := 1) rfl)))), List.forall_mem_append.mpr ⟨List.forall_mem_cons.mpr ⟨List.mem_cons_of_mem _ (List.mem_append_left _ (List.mem_append_left _ (List.mem_append_left _ (List.mem_of_getElem? (i := 6) rfl)))), List.forall_mem_cons.mpr ⟨List.mem_cons_of_mem _ (List.mem_append_left _ (List.mem_append_left _ (List.mem_append_left _ (List.mem_of_getElem? (i := 7) rfl)))), List.forall_mem_cons.mpr ⟨List.mem_cons_of_mem _ (List.mem_append_left _ (List.mem_append_left _ (List.mem_append_right _ (List.mem_of_getElem? (i := 2) rfl)))), List.forall_mem_cons.mpr ⟨List.mem_cons_of_mem _ (List.mem_append_left _ (List.mem_append_left _ (List.mem_append_left _ (List.mem_of_getElem? (i := 19) rfl)))), List.forall_mem_cons.mpr ⟨List.mem_cons_of_mem _ (List.mem_append_left _ (List.mem_append_left _ (List.mem_append_left _ (List.mem_of_getElem? (i := 20) rfl)))), List.forall_mem_cons.mpr ⟨List.mem_cons_of_mem _ (List.mem_append_left _ (List.mem_append_left _ (List.mem_append_left _ (List.mem_of_getElem? (i := 21) rfl)))), List.forall_mem_cons.mpr ⟨List.mem_cons_of_mem _ (List.mem_append_left _ (List.mem_append_left _ (List.mem_append_left _ (List.mem_of_getElem? (i := 8) rfl)))), List.forall_mem_cons.mpr ⟨List.mem_cons_of_mem _ (List.mem_append_left _ (List.mem_append_left _ (List.mem_append_left _ (List.mem_of_getElem? (i := 9) rfl)))), List.forall_mem_cons.mpr ⟨List.mem_cons_of_mem _ (List.mem_append_left _ (List.mem_append_left _ (List.mem_append_right _ (List.mem_of_getElem? (i := 3) rfl)))), List.forall_mem_cons.mpr ⟨List.mem_cons_of_mem _ (List.mem_append_left _ (List.mem_append_left _ (List.mem_append_right _ (List.mem_of_getElem? (i := 4) rfl)))), List.forall_mem_cons.mpr ⟨List.mem_cons_of_mem _ (List.mem_append_left _ (List.mem_append_left _ (List.mem_append_right _ (List.mem_of_getElem? (i := 5) rfl)))), List.forall_mem_cons.mpr ⟨List.mem_cons_of_mem _ (List.mem_append_left _ (List.mem_append_left _ (List.mem_append_left _ (List.mem_of_getElem? (i := 4) rfl)))), List.forall_mem_cons.mpr ⟨List.mem_cons_of_mem _ (List.mem_append_left _ (List.mem_append_left _ (List.mem_append_right _ (List.mem_of_getElem? (i := 6) rfl)))), List.forall_mem_cons.mpr ⟨List.mem_cons_of_mem _ (List.mem_append_left _ (List.mem_append_left _ (List.mem_append_right _ (List.mem_of_getElem? (i := 7) rfl)))), List.forall_mem_cons.mpr ⟨List.mem_cons_of_mem _ (List.mem_append_left _ (List.mem_append_left _ (List.mem_append_right _ (List.mem_of_getElem? (i := 8) rfl)))), List.forall_mem_cons.mpr ⟨List.mem_cons_of_mem _ (List.mem_append_left _ (List.mem_append_left _ (List.mem_append_right _ (List.mem_of_getElem? (i := 9) rfl)))), List.forall_mem_cons.mpr ⟨List.mem_cons_of_mem _ (List.mem_append_left _ (List.mem_append_left _ (List.mem_append_right _ (List.mem_of_getElem? (i := 10) rfl)))), List.forall_mem_cons.mpr ⟨List.mem_cons_of_mem _ (List.mem_append_left _ (List.mem_append_left _ (List.mem_append_right _ (List.mem_of_getElem? (i := 11) rfl)))), List.forall_mem_cons.mpr ⟨List.mem_cons_of_mem _ (List.mem_append_left _ (List.mem_append_left _ (List.mem_append_right _ (List.mem_of_getElem? (i := 12) rfl)))), List.forall_mem_cons.mpr ⟨List.mem_cons_of_mem _ (List.mem_append_left _ (List.mem_append_left _ (List.mem_append_right _ (List.mem_of_getElem? (i := 13) rfl)))), List.forall_mem_cons.mpr ⟨List.mem_cons_of_mem _ (List.mem_append_left _ (List.mem_append_left _ (List.mem_append_right _ (List.mem_of_getElem? (i := 14) rfl)))), List.forall_mem_cons.mpr ⟨List.mem_cons_of_mem _ (List.mem_append_left _ (List.mem_append_left _ (List.mem_append_right _ (List.mem_of_getElem? (i := 15) rfl)))), List.forall_mem_cons.mpr ⟨List.mem_cons_of_mem _ (List.mem_append_left _ (List.mem_append_left _ (List.mem_append_right _ (List.mem_of_getElem? (i := 16) rfl)))), List.forall_mem_cons.mpr ⟨List.mem_cons_of_mem _ (List.mem_append_left _ (List.mem_append_left _ (List.mem_append_right _ (List.mem_of_getElem? (i := 17) rfl)))), (fun _ h => absurd h List.not_mem_nil)⟩⟩⟩⟩⟩⟩⟩⟩⟩⟩⟩⟩⟩⟩⟩⟩⟩⟩⟩⟩⟩⟩⟩⟩, (fun _ h => List.mem_cons_of_mem _ (List.mem_append_left _ (List.mem_append_right _ (h))))⟩⟩) (by decide +kernel)
set_option maxRecDepth 20000 in
theorem gX1_passDays_X1_workOff : GoodIn wsX1_passDays (wsV RX1 82 RX1 yX1_workOff wsX1_workOff) := goodIn_app (goodIn_sub (List.forall_mem_cons.mpr ⟨List.mem_cons_of_mem _ (List.mem_append_left _ (List.mem_append_left _ (List.mem_append_left _ (List.mem_of_getElem? (i := 22) rfl)))), List.forall_mem_cons.mpr ⟨List.mem_cons_of_mem _ (List.mem_append_left _ (List.mem_append_left _ (List.mem_append_left _ (List.mem_of_getElem? (i := 23) rfl)))), List.forall_mem_cons.mpr ⟨List.mem_cons_of_mem _ (List.mem_append_left _ (List.mem_append_left _ (List.mem_append_right _ (List.mem_of_getElem? (i := 0) rfl)))), List.forall_mem_cons.mpr ⟨List.mem_cons_of_mem _ (List.mem_append_left _ (List.mem_append_left _ (List.mem_append_left _ (List.mem_of_getElem? (i := 4) rfl)))), (fun _ h => absurd h List.not_mem_nil)⟩⟩⟩⟩) (by decide +kernel)) ggX1_passDays_X1_workOff
set_option maxRecDepth 20000 in
theorem ggX1_passDays_X1_failDueLoans : GoodIn wsX1_passDays wsX1_failDueLoans := goodIn_sub (List.forall_mem_cons.mpr ⟨List.mem_cons_of_mem _ (List.mem_append_left _ (List.mem_append_left _ (List.mem_append_right _ (List.mem_of_getElem? (i := 21) rfl)))), List.forall_mem_append.mpr ⟨List.forall_mem_cons.mpr ⟨List.mem_cons_of_mem _ (List.mem_append_left _ (List.mem_append_left _ (List.mem_append_left _ (List.mem_of_getElem? (i := 6) rfl)))), List.forall_mem_cons.mpr ⟨List.mem_cons_of_mem _ (List.mem_append_left _ (List.mem_append_left _ (List.mem_append_right _ (List.mem_of_getElem? (i := 7) rfl)))), List.forall_mem_cons.mpr ⟨List.mem_cons_of_mem _ (List.mem_append_left _ (List.mem_append_left _ (List.mem_append_left _ (List.mem_of_getElem? (i := 0) rfl)))), List.forall_mem_cons.mpr ⟨List.mem_cons_of_mem _ (List.mem_append_left _ (List.mem_append_left _ (List.mem_append_right _ (List.mem_of_getElem? (i := 17) rfl)))), List.forall_mem_cons.mpr ⟨List.mem_cons_of_mem _ (List.mem_append_left _ (List.mem_append_left _ (List.mem_append_right _ (List.mem_of_getElem? (i := 22) rfl)))), (fun _ h => absurd h List.not_mem_nil)⟩⟩⟩⟩⟩, (fun _ h => List.mem_cons_of_mem _ (List.mem_append_left _ (List.mem_append_right _ (h))))⟩⟩) (by decide +kernel)
set_option maxRecDepth 20000 in
theorem gX1_passDays_X1_failDueLoans : GoodIn wsX1_passDays (wsV RX1 86 RX1 yX1_failDueLoans wsX1_failDueLoans) := goodIn_app (goodIn_sub (List.forall_mem_cons.mpr ⟨List.mem_cons_of_mem _ (List.mem_append_left _ (List.mem_append_left _ (List.mem_append_right _ (List.mem_of_getElem? (i := 18) rfl)))), List.forall_mem_cons.mpr ⟨List.mem_cons_of_mem _ (List.mem_append_left _ (List.mem_append_left _ (List.mem_append_right _ (List.mem_of_getElem? (i := 19) rfl)))), List.forall_mem_cons.mpr ⟨List.mem_cons_of_mem _ (List.mem_append_left _ (List.mem_append_left _ (List.mem_append_right _ (List.mem_of_getElem? (i := 20) rfl)))), List.forall_mem_cons.mpr ⟨List.mem_cons_of_mem _ (List.mem_append_left _ (List.mem_append_left _ (List.mem_append_left _ (List.mem_of_getElem? (i := 4) rfl)))), (fun _ h => absurd h List.not_mem_nil)⟩⟩⟩⟩) (by decide +kernel)) ggX1_passDays_X1_failDueLoans
theorem dX1_passDays_0 : decode cX1_passDays 0 = .ok (.iconst 0, 1) := by decide +kernel
theorem dX1_passDays_1 : decode cX1_passDays 1 = .ok (.istore 4, 2) := by decide +kernel
theorem dX1_passDays_3 : decode cX1_passDays 3 = .ok (.iload 4, 2) := by decide +kernel
theorem dX1_passDays_5 : decode cX1_passDays 5 = .ok (.iload_n 3, 1) := by decide +kernel
theorem dX1_passDays_6 : decode cX1_passDays 6 = .ok (.if_icmp .ge 36, 3) := by decide +kernel
theorem dX1_passDays_9 : decode cX1_passDays 9 = .ok (.aload_n 0, 1) := by decide +kernel
theorem dX1_passDays_10 : decode cX1_passDays 10 = .ok (.aload_n 1, 1) := by decide +kernel
theorem dX1_passDays_11 : decode cX1_passDays 11 = .ok (.invokevirtual 78, 3) := by decide +kernel
theorem dX1_passDays_14 : decode cX1_passDays 14 = .ok (.aload_n 0, 1) := by decide +kernel
theorem dX1_passDays_15 : decode cX1_passDays 15 = .ok (.iload_n 2, 1) := by decide +kernel
theorem dX1_passDays_16 : decode cX1_passDays 16 = .ok (.bipush 100, 2) := by decide +kernel
theorem dX1_passDays_18 : decode cX1_passDays 18 = .ok (.imul, 1) := by decide +kernel
theorem dX1_passDays_19 : decode cX1_passDays 19 = .ok (.invokevirtual 82, 3) := by decide +kernel
theorem dX1_passDays_22 : decode cX1_passDays 22 = .ok (.aload_n 0, 1) := by decide +kernel
theorem dX1_passDays_23 : decode cX1_passDays 23 = .ok (.invokevirtual 86, 3) := by decide +kernel
theorem dX1_passDays_26 : decode cX1_passDays 26 = .ok (.aload_n 0, 1) := by decide +kernel
theorem dX1_passDays_27 : decode cX1_passDays 27 = .ok (.dup, 1) := by decide +kernel
theorem dX1_passDays_28 : decode cX1_passDays 28 = .ok (.getfield 33, 3) := by decide +kernel
theorem dX1_passDays_31 : decode cX1_passDays 31 = .ok (.iconst 1, 1) := by decide +kernel
theorem dX1_passDays_32 : decode cX1_passDays 32 = .ok (.iadd, 1) := by decide +kernel
theorem dX1_passDays_33 : decode cX1_passDays 33 = .ok (.putfield 33, 3) := by decide +kernel
theorem dX1_passDays_36 : decode cX1_passDays 36 = .ok (.iinc 4 1, 3) := by decide +kernel
theorem dX1_passDays_39 : decode cX1_passDays 39 = .ok (.goto (-36), 3) := by decide +kernel
theorem dX1_passDays_42 : decode cX1_passDays 42 = .ok (.return_, 1) := by decide +kernel
set_option maxRecDepth 20000 in
theorem ggX1_growLoans_X3_grownOnce : GoodIn wsX1_growLoans wsX3_grownOnce := goodIn_sub (List.forall_mem_cons.mpr ⟨List.mem_cons_of_mem _ (List.mem_append_left _ (List.mem_append_left _ (List.mem_of_getElem? (i := 8) rfl))), List.forall_mem_append.mpr ⟨List.forall_mem_cons.mpr ⟨List.mem_cons_of_mem _ (List.mem_append_left _ (List.mem_append_left _ (List.mem_of_getElem? (i := 9) rfl))), List.forall_mem_cons.mpr ⟨List.mem_cons_of_mem _ (List.mem_append_left _ (List.mem_append_left _ (List.mem_of_getElem? (i := 10) rfl))), List.forall_mem_cons.mpr ⟨List.mem_cons_of_mem _ (List.mem_append_left _ (List.mem_append_left _ (List.mem_of_getElem? (i := 11) rfl))), List.forall_mem_cons.mpr ⟨List.mem_cons_of_mem _ (List.mem_append_left _ (List.mem_append_left _ (List.mem_of_getElem? (i := 12) rfl))), List.forall_mem_cons.mpr ⟨List.mem_cons_of_mem _ (List.mem_append_left _ (List.mem_append_left _ (List.mem_of_getElem? (i := 13) rfl))), List.forall_mem_cons.mpr ⟨List.mem_cons_of_mem _ (List.mem_append_left _ (List.mem_append_left _ (List.mem_of_getElem? (i := 14) rfl))), List.forall_mem_cons.mpr ⟨List.mem_cons_of_mem _ (List.mem_append_left _ (List.mem_append_left _ (List.mem_of_getElem? (i := 15) rfl))), (fun _ h => absurd h List.not_mem_nil)⟩⟩⟩⟩⟩⟩⟩, (fun _ h => List.mem_cons_of_mem _ (List.mem_append_right _ (h)))⟩⟩) (by decide +kernel)
set_option maxRecDepth 20000 in
theorem gX1_growLoans_X3_grownOnce : GoodIn wsX1_growLoans (wsV RX1 89 RX3 yX3_grownOnce wsX3_grownOnce) := goodIn_app (goodIn_sub (List.forall_mem_cons.mpr ⟨List.mem_cons_of_mem _ (List.mem_append_left _ (List.mem_append_left _ (List.mem_of_getElem? (i := 4) rfl))), List.forall_mem_cons.mpr ⟨List.mem_cons_of_mem _ (List.mem_append_left _ (List.mem_append_left _ (List.mem_of_getElem? (i := 5) rfl))), List.forall_mem_cons.mpr ⟨List.mem_cons_of_mem _ (List.mem_append_left _ (List.mem_append_left _ (List.mem_of_getElem? (i := 6) rfl))), List.forall_mem_cons.mpr ⟨List.mem_cons_of_mem _ (List.mem_append_left _ (List.mem_append_left _ (List.mem_of_getElem? (i := 7) rfl))), (fun _ h => absurd h List.not_mem_nil)⟩⟩⟩⟩) (by decide +kernel)) ggX1_growLoans_X3_grownOnce
theorem dX1_growLoans_0 : decode cX1_growLoans 0 = .ok (.iconst 0, 1) := by decide +kernel
theorem dX1_growLoans_1 : decode cX1_growLoans 1 = .ok (.istore_n 2, 1) := by decide +kernel
theorem dX1_growLoans_2 : decode cX1_growLoans 2 = .ok (.iload_n 2, 1) := by decide +kernel
theorem dX1_growLoans_3 : decode cX1_growLoans 3 = .ok (.aload_n 0, 1) := by decide +kernel
theorem dX1_growLoans_4 : decode cX1_growLoans 4 = .ok (.getfield 37, 3) := by decide +kernel
theorem dX1_growLoans_7 : decode cX1_growLoans 7 = .ok (.if_icmp .ge 37, 3) := by decide +kernel
theorem dX1_growLoans_10 : decode cX1_growLoans 10 = .ok (.aload_n 0, 1) := by decide +kernel
theorem dX1_growLoans_11 : decode cX1_growLoans 11 = .ok (.getfield 24, 3) := by decide +kernel
theorem dX1_growLoans_14 : decode cX1_growLoans 14 = .ok (.iload_n 2, 1) := by decide +kernel
theorem dX1_growLoans_15 : decode cX1_growLoans 15 = .ok (.aload_n 1, 1) := by decide +kernel
theorem dX1_growLoans_16 : decode cX1_growLoans 16 = .ok (.aload_n 0, 1) := by decide +kernel
theorem dX1_growLoans_17 : decode cX1_growLoans 17 = .ok (.getfield 18, 3) := by decide +kernel
theorem dX1_growLoans_20 : decode cX1_growLoans 20 = .ok (.iload_n 2, 1) := by decide +kernel
theorem dX1_growLoans_21 : decode cX1_growLoans 21 = .ok (.iaload, 1) := by decide +kernel
theorem dX1_growLoans_22 : decode cX1_growLoans 22 = .ok (.aload_n 0, 1) := by decide +kernel
theorem dX1_growLoans_23 : decode cX1_growLoans 23 = .ok (.getfield 24, 3) := by decide +kernel
theorem dX1_growLoans_26 : decode cX1_growLoans 26 = .ok (.iload_n 2, 1) := by decide +kernel
theorem dX1_growLoans_27 : decode cX1_growLoans 27 = .ok (.iaload, 1) := by decide +kernel
theorem dX1_growLoans_28 : decode cX1_growLoans 28 = .ok (.aload_n 0, 1) := by decide +kernel
theorem dX1_growLoans_29 : decode cX1_growLoans 29 = .ok (.getfield 21, 3) := by decide +kernel
theorem dX1_growLoans_32 : decode cX1_growLoans 32 = .ok (.iload_n 2, 1) := by decide +kernel
theorem dX1_growLoans_33 : decode cX1_growLoans 33 = .ok (.iaload, 1) := by decide +kernel
theorem dX1_growLoans_34 : decode cX1_growLoans 34 = .ok (.invokevirtual 89, 3) := by decide +kernel
theorem dX1_growLoans_37 : decode cX1_growLoans 37 = .ok (.iastore, 1) := by decide +kernel
theorem dX1_growLoans_38 : decode cX1_growLoans 38 = .ok (.iinc 2 1, 3) := by decide +kernel
theorem dX1_growLoans_41 : decode cX1_growLoans 41 = .ok (.goto (-39), 3) := by decide +kernel
theorem dX1_growLoans_44 : decode cX1_growLoans 44 = .ok (.return_, 1) := by decide +kernel
set_option maxRecDepth 20000 in
theorem ggX1_workOff_X1_firstDue : GoodIn wsX1_workOff wsX1_firstDue := goodIn_sub (List.forall_mem_cons.mpr ⟨List.mem_cons_of_mem _ (List.mem_append_left _ (List.mem_of_getElem? (i := 12) rfl)), List.forall_mem_append.mpr ⟨List.forall_mem_cons.mpr ⟨List.mem_cons_of_mem _ (List.mem_append_left _ (List.mem_of_getElem? (i := 0) rfl)), List.forall_mem_cons.mpr ⟨List.mem_cons_of_mem _ (List.mem_append_left _ (List.mem_of_getElem? (i := 13) rfl)), (fun _ h => absurd h List.not_mem_nil)⟩⟩, (fun _ h => List.mem_cons_of_mem _ (List.mem_append_right _ (h)))⟩⟩) (by decide +kernel)
set_option maxRecDepth 20000 in
theorem gX1_workOff_X1_firstDue : GoodIn wsX1_workOff (wsV RX1 93 RX1 yX1_firstDue wsX1_firstDue) := goodIn_app (goodIn_sub (List.forall_mem_cons.mpr ⟨List.mem_cons_of_mem _ (List.mem_append_left _ (List.mem_of_getElem? (i := 8) rfl)), List.forall_mem_cons.mpr ⟨List.mem_cons_of_mem _ (List.mem_append_left _ (List.mem_of_getElem? (i := 9) rfl)), List.forall_mem_cons.mpr ⟨List.mem_cons_of_mem _ (List.mem_append_left _ (List.mem_of_getElem? (i := 10) rfl)), List.forall_mem_cons.mpr ⟨List.mem_cons_of_mem _ (List.mem_append_left _ (List.mem_of_getElem? (i := 11) rfl)), (fun _ h => absurd h List.not_mem_nil)⟩⟩⟩⟩) (by decide +kernel)) ggX1_workOff_X1_firstDue
set_option maxRecDepth 20000 in
theorem ggX1_workOff_X1_addBranches : GoodIn wsX1_workOff wsX1_addBranches := goodIn_sub (List.forall_mem_cons.mpr ⟨List.mem_cons_of_mem _ (List.mem_append_left _ (List.mem_of_getElem? (i := 17) rfl)), List.forall_mem_append.mpr ⟨List.forall_mem_cons.mpr ⟨List.mem_cons_of_mem _ (List.mem_append_left _ (List.mem_of_getElem? (i := 18) rfl)), List.forall_mem_cons.mpr ⟨List.mem_cons_of_mem _ (List.mem_append_left _ (List.mem_of_getElem? (i := 2) rfl)), List.forall_mem_cons.mpr ⟨List.mem_cons_of_mem _ (List.mem_append_left _ (List.mem_of_getElem? (i := 3) rfl)), List.forall_mem_cons.mpr ⟨List.mem_cons_of_mem _ (List.mem_append_left _ (List.mem_of_getElem? (i := 4) rfl)), List.forall_mem_cons.mpr ⟨List.mem_cons_of_mem _ (List.mem_append_left _ (List.mem_of_getElem? (i := 5) rfl)), (fun _ h => absurd h List.not_mem_nil)⟩⟩⟩⟩⟩, (fun _ h => List.mem_cons_of_mem _ (List.mem_append_right _ (h)))⟩⟩) (by decide +kernel)
set_option maxRecDepth 20000 in
theorem gX1_workOff_X1_addBranches : GoodIn wsX1_workOff (wsV RX1 97 RX1 yX1_addBranches wsX1_addBranches) := goodIn_app (goodIn_sub (List.forall_mem_cons.mpr ⟨List.mem_cons_of_mem _ (List.mem_append_left _ (List.mem_of_getElem? (i := 14) rfl)), List.forall_mem_cons.mpr ⟨List.mem_cons_of_mem _ (List.mem_append_left _ (List.mem_of_getElem? (i := 15) rfl)), List.forall_mem_cons.mpr ⟨List.mem_cons_of_mem _ (List.mem_append_left _ (List.mem_of_getElem? (i := 16) rfl)), List.forall_mem_cons.mpr ⟨List.mem_cons_of_mem _ (List.mem_append_left _ (List.mem_of_getElem? (i := 11) rfl)), (fun _ h => absurd h List.not_mem_nil)⟩⟩⟩⟩) (by decide +kernel)) ggX1_workOff_X1_addBranches
set_option maxRecDepth 20000 in
theorem ggX1_workOff_X1_removeLoan : GoodIn wsX1_workOff wsX1_removeLoan := goodIn_sub (List.forall_mem_cons.mpr ⟨List.mem_cons_of_mem _ (List.mem_append_left _ (List.mem_of_getElem? (i := 22) rfl)), List.forall_mem_append.mpr ⟨List.forall_mem_cons.mpr ⟨List.mem_cons_of_mem _ (List.mem_append_left _ (List.mem_of_getElem? (i := 0) rfl)), List.forall_mem_cons.mpr ⟨List.mem_cons_of_mem _ (List.mem_append_left _ (List.mem_of_getElem? (i := 6) rfl)), List.forall_mem_cons.mpr ⟨List.mem_cons_of_mem _ (List.mem_append_left _ (List.mem_of_getElem? (i := 7) rfl)), List.forall_mem_cons.mpr ⟨List.mem_cons_of_mem _ (List.mem_append_left _ (List.mem_of_getElem? (i := 1) rfl)), List.forall_mem_cons.mpr ⟨List.mem_cons_of_mem _ (List.mem_append_left _ (List.mem_of_getElem? (i := 13) rfl)), List.forall_mem_cons.mpr ⟨List.mem_cons_of_mem _ (List.mem_append_left _ (List.mem_of_getElem? (i := 23) rfl)), (fun _ h => absurd h List.not_mem_nil)⟩⟩⟩⟩⟩⟩, (fun _ h => List.mem_cons_of_mem _ (List.mem_append_right _ (h)))⟩⟩) (by decide +kernel)
set_option maxRecDepth 20000 in
theorem gX1_workOff_X1_removeLoan : GoodIn wsX1_workOff (wsV RX1 101 RX1 yX1_removeLoan wsX1_removeLoan) := goodIn_app (goodIn_sub (List.forall_mem_cons.mpr ⟨List.mem_cons_of_mem _ (List.mem_append_left _ (List.mem_of_getElem? (i := 19) rfl)), List.forall_mem_cons.mpr ⟨List.mem_cons_of_mem _ (List.mem_append_left _ (List.mem_of_getElem? (i := 20) rfl)), List.forall_mem_cons.mpr ⟨List.mem_cons_of_mem _ (List.mem_append_left _ (List.mem_of_getElem? (i := 21) rfl)), List.forall_mem_cons.mpr ⟨List.mem_cons_of_mem _ (List.mem_append_left _ (List.mem_of_getElem? (i := 11) rfl)), (fun _ h => absurd h List.not_mem_nil)⟩⟩⟩⟩) (by decide +kernel)) ggX1_workOff_X1_removeLoan
theorem dX1_workOff_0 : decode cX1_workOff 0 = .ok (.iload_n 1, 1) := by decide +kernel
theorem dX1_workOff_1 : decode cX1_workOff 1 = .ok (.istore_n 2, 1) := by decide +kernel
theorem dX1_workOff_2 : decode cX1_workOff 2 = .ok (.iconst 0, 1) := by decide +kernel
theorem dX1_workOff_3 : decode cX1_workOff 3 = .ok (.istore_n 3, 1) := by decide +kernel
theorem dX1_workOff_4 : decode cX1_workOff 4 = .ok (.iload_n 3, 1) := by decide +kernel
theorem dX1_workOff_5 : decode cX1_workOff 5 = .ok (.bipush 12, 2) := by decide +kernel
theorem dX1_workOff_7 : decode cX1_workOff 7 = .ok (.if_icmp .ge 90, 3) := by decide +kernel
theorem dX1_workOff_10 : decode cX1_workOff 10 = .ok (.iload_n 2, 1) := by decide +kernel
theorem dX1_workOff_11 : decode cX1_workOff 11 = .ok (.ifCond .le 86, 3) := by decide +kernel
theorem dX1_workOff_14 : decode cX1_workOff 14 = .ok (.aload_n 0, 1) := by decide +kernel
theorem dX1_workOff_15 : decode cX1_workOff 15 = .ok (.getfield 37, 3) := by decide +kernel
theorem dX1_workOff_18 : decode cX1_workOff 18 = .ok (.ifCond .le 79, 3) := by decide +kernel
theorem dX1_workOff_21 : decode cX1_workOff 21 = .ok (.aload_n 0, 1) := by decide +kernel
theorem dX1_workOff_22 : decode cX1_workOff 22 = .ok (.invokevirtual 93, 3) := by decide +kernel
theorem dX1_workOff_25 : decode cX1_workOff 25 = .ok (.istore 4, 2) := by decide +kernel
theorem dX1_workOff_27 : decode cX1_workOff 27 = .ok (.iload_n 2, 1) := by decide +kernel
theorem dX1_workOff_28 : decode cX1_workOff 28 = .ok (.aload_n 0, 1) := by decide +kernel
theorem dX1_workOff_29 : decode cX1_workOff 29 = .ok (.getfield 24, 3) := by decide +kernel
theorem dX1_workOff_32 : decode cX1_workOff 32 = .ok (.iload 4, 2) := by decide +kernel
theorem dX1_workOff_34 : decode cX1_workOff 34 = .ok (.iaload, 1) := by decide +kernel
theorem dX1_workOff_35 : decode cX1_workOff 35 = .ok (.invokestatic 73, 3) := by decide +kernel
theorem dX1_workOff_38 : decode cX1_workOff 38 = .ok (.istore 5, 2) := by decide +kernel
theorem dX1_workOff_40 : decode cX1_workOff 40 = .ok (.iload_n 2, 1) := by decide +kernel
theorem dX1_workOff_41 : decode cX1_workOff 41 = .ok (.iload 5, 2) := by decide +kernel
theorem dX1_workOff_43 : decode cX1_workOff 43 = .ok (.isub, 1) := by decide +kernel
theorem dX1_workOff_44 : decode cX1_workOff 44 = .ok (.istore_n 2, 1) := by decide +kernel
theorem dX1_workOff_45 : decode cX1_workOff 45 = .ok (.aload_n 0, 1) := by decide +kernel
theorem dX1_workOff_46 : decode cX1_workOff 46 = .ok (.getfield 24, 3) := by decide +kernel
theorem dX1_workOff_49 : decode cX1_workOff 49 = .ok (.iload 4, 2) := by decide +kernel
theorem dX1_workOff_51 : decode cX1_workOff 51 = .ok (.dup2, 1) := by decide +kernel
theorem dX1_workOff_52 : decode cX1_workOff 52 = .ok (.iaload, 1) := by decide +kernel
theorem dX1_workOff_53 : decode cX1_workOff 53 = .ok (.iload 5, 2) := by decide +kernel
theorem dX1_workOff_55 : decode cX1_workOff 55 = .ok (.isub, 1) := by decide +kernel
theorem dX1_workOff_56 : decode cX1_workOff 56 = .ok (.iastore, 1) := by decide +kernel
theorem dX1_workOff_57 : decode cX1_workOff 57 = .ok (.aload_n 0, 1) := by decide +kernel
theorem dX1_workOff_58 : decode cX1_workOff 58 = .ok (.getfield 24, 3) := by decide +kernel
theorem dX1_workOff_61 : decode cX1_workOff 61 = .ok (.iload 4, 2) := by decide +kernel
theorem dX1_workOff_63 : decode cX1_workOff 63 = .ok (.iaload, 1) := by decide +kernel
theorem dX1_workOff_64 : decode cX1_workOff 64 = .ok (.ifCond .ne 27, 3) := by decide +kernel
theorem dX1_workOff_67 : decode cX1_workOff 67 = .ok (.aload_n 0, 1) := by decide +kernel
theorem dX1_workOff_68 : decode cX1_workOff 68 = .ok (.aload_n 0, 1) := by decide +kernel
theorem dX1_workOff_69 : decode cX1_workOff 69 = .ok (.getfield 18, 3) := by decide +kernel
theorem dX1_workOff_72 : decode cX1_workOff 72 = .ok (.iload 4, 2) := by decide +kernel
theorem dX1_workOff_74 : decode cX1_workOff 74 = .ok (.iaload, 1) := by decide +kernel
theorem dX1_workOff_75 : decode cX1_workOff 75 = .ok (.aload_n 0, 1) := by decide +kernel
theorem dX1_workOff_76 : decode cX1_workOff 76 = .ok (.getfield 21, 3) := by decide +kernel
theorem dX1_workOff_79 : decode cX1_workOff 79 = .ok (.iload 4, 2) := by decide +kernel
theorem dX1_workOff_81 : decode cX1_workOff 81 = .ok (.iaload, 1) := by decide +kernel
theorem dX1_workOff_82 : decode cX1_workOff 82 = .ok (.invokevirtual 97, 3) := by decide +kernel
theorem dX1_workOff_85 : decode cX1_workOff 85 = .ok (.aload_n 0, 1) := by decide +kernel
theorem dX1_workOff_86 : decode cX1_workOff 86 = .ok (.iload 4, 2) := by decide +kernel
theorem dX1_workOff_88 : decode cX1_workOff 88 = .ok (.invokevirtual 101, 3) := by decide +kernel
theorem dX1_workOff_91 : decode cX1_workOff 91 = .ok (.iinc 3 1, 3) := by decide +kernel
theorem dX1_workOff_94 : decode cX1_workOff 94 = .ok (.goto (-90), 3) := by decide +kernel
theorem dX1_workOff_97 : decode cX1_workOff 97 = .ok (.return_, 1) := by decide +kernel
theorem dX1_firstDue_0 : decode cX1_firstDue 0 = .ok (.iconst 0, 1) := by decide +kernel
theorem dX1_firstDue_1 : decode cX1_firstDue 1 = .ok (.istore_n 1, 1) := by decide +kernel
theorem dX1_firstDue_2 : decode cX1_firstDue 2 = .ok (.iconst 1, 1) := by decide +kernel
theorem dX1_firstDue_3 : decode cX1_firstDue 3 = .ok (.istore_n 2, 1) := by decide +kernel
theorem dX1_firstDue_4 : decode cX1_firstDue 4 = .ok (.iload_n 2, 1) := by decide +kernel
theorem dX1_firstDue_5 : decode cX1_firstDue 5 = .ok (.aload_n 0, 1) := by decide +kernel
theorem dX1_firstDue_6 : decode cX1_firstDue 6 = .ok (.getfield 37, 3) := by decide +kernel
theorem dX1_firstDue_9 : decode cX1_firstDue 9 = .ok (.if_icmp .ge 26, 3) := by decide +kernel
theorem dX1_firstDue_12 : decode cX1_firstDue 12 = .ok (.aload_n 0, 1) := by decide +kernel
theorem dX1_firstDue_13 : decode cX1_firstDue 13 = .ok (.getfield 27, 3) := by decide +kernel
theorem dX1_firstDue_16 : decode cX1_firstDue 16 = .ok (.iload_n 2, 1) := by decide +kernel
theorem dX1_firstDue_17 : decode cX1_firstDue 17 = .ok (.iaload, 1) := by decide +kernel
theorem dX1_firstDue_18 : decode cX1_firstDue 18 = .ok (.aload_n 0, 1) := by decide +kernel
theorem dX1_firstDue_19 : decode cX1_firstDue 19 = .ok (.getfield 27, 3) := by decide +kernel
theorem dX1_firstDue_22 : decode cX1_firstDue 22 = .ok (.iload_n 1, 1) := by decide +kernel
theorem dX1_firstDue_23 : decode cX1_firstDue 23 = .ok (.iaload, 1) := by decide +kernel
theorem dX1_firstDue_24 : decode cX1_firstDue 24 = .ok (.if_icmp .ge 5, 3) := by decide +kernel
theorem dX1_firstDue_27 : decode cX1_firstDue 27 = .ok (.iload_n 2, 1) := by decide +kernel
theorem dX1_firstDue_28 : decode cX1_firstDue 28 = .ok (.istore_n 1, 1) := by decide +kernel
theorem dX1_firstDue_29 : decode cX1_firstDue 29 = .ok (.iinc 2 1, 3) := by decide +kernel
theorem dX1_firstDue_32 : decode cX1_firstDue 32 = .ok (.goto (-28), 3) := by decide +kernel
theorem dX1_firstDue_35 : decode cX1_firstDue 35 = .ok (.iload_n 1, 1) := by decide +kernel
theorem dX1_firstDue_36 : decode cX1_firstDue 36 = .ok (.ireturn, 1) := by decide +kernel
theorem dX1_failDueLoans_0 : decode cX1_failDueLoans 0 = .ok (.iconst 0, 1) := by decide +kernel
theorem dX1_failDueLoans_1 : decode cX1_failDueLoans 1 = .ok (.istore_n 1, 1) := by decide +kernel
theorem dX1_failDueLoans_2 : decode cX1_failDueLoans 2 = .ok (.iload_n 1, 1) := by decide +kernel
theorem dX1_failDueLoans_3 : decode cX1_failDueLoans 3 = .ok (.aload_n 0, 1) := by decide +kernel
theorem dX1_failDueLoans_4 : decode cX1_failDueLoans 4 = .ok (.getfield 37, 3) := by decide +kernel
theorem dX1_failDueLoans_7 : decode cX1_failDueLoans 7 = .ok (.if_icmp .ge 48, 3) := by decide +kernel
theorem dX1_failDueLoans_10 : decode cX1_failDueLoans 10 = .ok (.aload_n 0, 1) := by decide +kernel
theorem dX1_failDueLoans_11 : decode cX1_failDueLoans 11 = .ok (.getfield 27, 3) := by decide +kernel
theorem dX1_failDueLoans_14 : decode cX1_failDueLoans 14 = .ok (.iload_n 1, 1) := by decide +kernel
theorem dX1_failDueLoans_15 : decode cX1_failDueLoans 15 = .ok (.iaload, 1) := by decide +kernel
theorem dX1_failDueLoans_16 : decode cX1_failDueLoans 16 = .ok (.aload_n 0, 1) := by decide +kernel
theorem dX1_failDueLoans_17 : decode cX1_failDueLoans 17 = .ok (.getfield 33, 3) := by decide +kernel
theorem dX1_failDueLoans_20 : decode cX1_failDueLoans 20 = .ok (.if_icmp .gt 29, 3) := by decide +kernel
theorem dX1_failDueLoans_23 : decode cX1_failDueLoans 23 = .ok (.aload_n 0, 1) := by decide +kernel
theorem dX1_failDueLoans_24 : decode cX1_failDueLoans 24 = .ok (.getfield 30, 3) := by decide +kernel
theorem dX1_failDueLoans_27 : decode cX1_failDueLoans 27 = .ok (.iload_n 1, 1) := by decide +kernel
theorem dX1_failDueLoans_28 : decode cX1_failDueLoans 28 = .ok (.iaload, 1) := by decide +kernel
theorem dX1_failDueLoans_29 : decode cX1_failDueLoans 29 = .ok (.ifCond .ne 20, 3) := by decide +kernel
theorem dX1_failDueLoans_32 : decode cX1_failDueLoans 32 = .ok (.aload_n 0, 1) := by decide +kernel
theorem dX1_failDueLoans_33 : decode cX1_failDueLoans 33 = .ok (.getfield 30, 3) := by decide +kernel
theorem dX1_failDueLoans_36 : decode cX1_failDueLoans 36 = .ok (.iload_n 1, 1) := by decide +kernel
theorem dX1_failDueLoans_37 : decode cX1_failDueLoans 37 = .ok (.iconst 1, 1) := by decide +kernel
theorem dX1_failDueLoans_38 : decode cX1_failDueLoans 38 = .ok (.iastore, 1) := by decide +kernel
theorem dX1_failDueLoans_39 : decode cX1_failDueLoans 39 = .ok (.aload_n 0, 1) := by decide +kernel
theorem dX1_failDueLoans_40 : decode cX1_failDueLoans 40 = .ok (.dup, 1) := by decide +kernel
theorem dX1_failDueLoans_41 : decode cX1_failDueLoans 41 = .ok (.getfield 40, 3) := by decide +kernel
theorem dX1_failDueLoans_44 : decode cX1_failDueLoans 44 = .ok (.iconst 1, 1) := by decide +kernel
theorem dX1_failDueLoans_45 : decode cX1_failDueLoans 45 = .ok (.iadd, 1) := by decide +kernel
theorem dX1_failDueLoans_46 : decode cX1_failDueLoans 46 = .ok (.putfield 40, 3) := by decide +kernel
theorem dX1_failDueLoans_49 : decode cX1_failDueLoans 49 = .ok (.iinc 1 1, 3) := by decide +kernel
theorem dX1_failDueLoans_52 : decode cX1_failDueLoans 52 = .ok (.goto (-50), 3) := by decide +kernel
theorem dX1_failDueLoans_55 : decode cX1_failDueLoans 55 = .ok (.return_, 1) := by decide +kernel
theorem dX1_removeLoan_0 : decode cX1_removeLoan 0 = .ok (.iload_n 1, 1) := by decide +kernel
theorem dX1_removeLoan_1 : decode cX1_removeLoan 1 = .ok (.istore_n 2, 1) := by decide +kernel
theorem dX1_removeLoan_2 : decode cX1_removeLoan 2 = .ok (.iload_n 2, 1) := by decide +kernel
theorem dX1_removeLoan_3 : decode cX1_removeLoan 3 = .ok (.aload_n 0, 1) := by decide +kernel
theorem dX1_removeLoan_4 : decode cX1_removeLoan 4 = .ok (.getfield 37, 3) := by decide +kernel
theorem dX1_removeLoan_7 : decode cX1_removeLoan 7 = .ok (.iconst 1, 1) := by decide +kernel
theorem dX1_removeLoan_8 : decode cX1_removeLoan 8 = .ok (.isub, 1) := by decide +kernel
theorem dX1_removeLoan_9 : decode cX1_removeLoan 9 = .ok (.if_icmp .ge 79, 3) := by decide +kernel
theorem dX1_removeLoan_12 : decode cX1_removeLoan 12 = .ok (.aload_n 0, 1) := by decide +kernel
theorem dX1_removeLoan_13 : decode cX1_removeLoan 13 = .ok (.getfield 18, 3) := by decide +kernel
theorem dX1_removeLoan_16 : decode cX1_removeLoan 16 = .ok (.iload_n 2, 1) := by decide +kernel
theorem dX1_removeLoan_17 : decode cX1_removeLoan 17 = .ok (.aload_n 0, 1) := by decide +kernel
theorem dX1_removeLoan_18 : decode cX1_removeLoan 18 = .ok (.getfield 18, 3) := by decide +kernel
theorem dX1_removeLoan_21 : decode cX1_removeLoan 21 = .ok (.iload_n 2, 1) := by decide +kernel
theorem dX1_removeLoan_22 : decode cX1_removeLoan 22 = .ok (.iconst 1, 1) := by decide +kernel
theorem dX1_removeLoan_23 : decode cX1_removeLoan 23 = .ok (.iadd, 1) := by decide +kernel
theorem dX1_removeLoan_24 : decode cX1_removeLoan 24 = .ok (.iaload, 1) := by decide +kernel
theorem dX1_removeLoan_25 : decode cX1_removeLoan 25 = .ok (.iastore, 1) := by decide +kernel
theorem dX1_removeLoan_26 : decode cX1_removeLoan 26 = .ok (.aload_n 0, 1) := by decide +kernel
theorem dX1_removeLoan_27 : decode cX1_removeLoan 27 = .ok (.getfield 21, 3) := by decide +kernel
theorem dX1_removeLoan_30 : decode cX1_removeLoan 30 = .ok (.iload_n 2, 1) := by decide +kernel
theorem dX1_removeLoan_31 : decode cX1_removeLoan 31 = .ok (.aload_n 0, 1) := by decide +kernel
theorem dX1_removeLoan_32 : decode cX1_removeLoan 32 = .ok (.getfield 21, 3) := by decide +kernel
theorem dX1_removeLoan_35 : decode cX1_removeLoan 35 = .ok (.iload_n 2, 1) := by decide +kernel
theorem dX1_removeLoan_36 : decode cX1_removeLoan 36 = .ok (.iconst 1, 1) := by decide +kernel
theorem dX1_removeLoan_37 : decode cX1_removeLoan 37 = .ok (.iadd, 1) := by decide +kernel
theorem dX1_removeLoan_38 : decode cX1_removeLoan 38 = .ok (.iaload, 1) := by decide +kernel
theorem dX1_removeLoan_39 : decode cX1_removeLoan 39 = .ok (.iastore, 1) := by decide +kernel
theorem dX1_removeLoan_40 : decode cX1_removeLoan 40 = .ok (.aload_n 0, 1) := by decide +kernel
theorem dX1_removeLoan_41 : decode cX1_removeLoan 41 = .ok (.getfield 24, 3) := by decide +kernel
theorem dX1_removeLoan_44 : decode cX1_removeLoan 44 = .ok (.iload_n 2, 1) := by decide +kernel
theorem dX1_removeLoan_45 : decode cX1_removeLoan 45 = .ok (.aload_n 0, 1) := by decide +kernel
theorem dX1_removeLoan_46 : decode cX1_removeLoan 46 = .ok (.getfield 24, 3) := by decide +kernel
theorem dX1_removeLoan_49 : decode cX1_removeLoan 49 = .ok (.iload_n 2, 1) := by decide +kernel
theorem dX1_removeLoan_50 : decode cX1_removeLoan 50 = .ok (.iconst 1, 1) := by decide +kernel
theorem dX1_removeLoan_51 : decode cX1_removeLoan 51 = .ok (.iadd, 1) := by decide +kernel
theorem dX1_removeLoan_52 : decode cX1_removeLoan 52 = .ok (.iaload, 1) := by decide +kernel
theorem dX1_removeLoan_53 : decode cX1_removeLoan 53 = .ok (.iastore, 1) := by decide +kernel
theorem dX1_removeLoan_54 : decode cX1_removeLoan 54 = .ok (.aload_n 0, 1) := by decide +kernel
theorem dX1_removeLoan_55 : decode cX1_removeLoan 55 = .ok (.getfield 27, 3) := by decide +kernel
theorem dX1_removeLoan_58 : decode cX1_removeLoan 58 = .ok (.iload_n 2, 1) := by decide +kernel
theorem dX1_removeLoan_59 : decode cX1_removeLoan 59 = .ok (.aload_n 0, 1) := by decide +kernel
theorem dX1_removeLoan_60 : decode cX1_removeLoan 60 = .ok (.getfield 27, 3) := by decide +kernel
theorem dX1_removeLoan_63 : decode cX1_removeLoan 63 = .ok (.iload_n 2, 1) := by decide +kernel
theorem dX1_removeLoan_64 : decode cX1_removeLoan 64 = .ok (.iconst 1, 1) := by decide +kernel
theorem dX1_removeLoan_65 : decode cX1_removeLoan 65 = .ok (.iadd, 1) := by decide +kernel
theorem dX1_removeLoan_66 : decode cX1_removeLoan 66 = .ok (.iaload, 1) := by decide +kernel
theorem dX1_removeLoan_67 : decode cX1_removeLoan 67 = .ok (.iastore, 1) := by decide +kernel
theorem dX1_removeLoan_68 : decode cX1_removeLoan 68 = .ok (.aload_n 0, 1) := by decide +kernel
theorem dX1_removeLoan_69 : decode cX1_removeLoan 69 = .ok (.getfield 30, 3) := by decide +kernel
theorem dX1_removeLoan_72 : decode cX1_removeLoan 72 = .ok (.iload_n 2, 1) := by decide +kernel
theorem dX1_removeLoan_73 : decode cX1_removeLoan 73 = .ok (.aload_n 0, 1) := by decide +kernel
theorem dX1_removeLoan_74 : decode cX1_removeLoan 74 = .ok (.getfield 30, 3) := by decide +kernel
theorem dX1_removeLoan_77 : decode cX1_removeLoan 77 = .ok (.iload_n 2, 1) := by decide +kernel
theorem dX1_removeLoan_78 : decode cX1_removeLoan 78 = .ok (.iconst 1, 1) := by decide +kernel
theorem dX1_removeLoan_79 : decode cX1_removeLoan 79 = .ok (.iadd, 1) := by decide +kernel
theorem dX1_removeLoan_80 : decode cX1_removeLoan 80 = .ok (.iaload, 1) := by decide +kernel
theorem dX1_removeLoan_81 : decode cX1_removeLoan 81 = .ok (.iastore, 1) := by decide +kernel
theorem dX1_removeLoan_82 : decode cX1_removeLoan 82 = .ok (.iinc 2 1, 3) := by decide +kernel
theorem dX1_removeLoan_85 : decode cX1_removeLoan 85 = .ok (.goto (-83), 3) := by decide +kernel
theorem dX1_removeLoan_88 : decode cX1_removeLoan 88 = .ok (.aload_n 0, 1) := by decide +kernel
theorem dX1_removeLoan_89 : decode cX1_removeLoan 89 = .ok (.dup, 1) := by decide +kernel
theorem dX1_removeLoan_90 : decode cX1_removeLoan 90 = .ok (.getfield 37, 3) := by decide +kernel
theorem dX1_removeLoan_93 : decode cX1_removeLoan 93 = .ok (.iconst 1, 1) := by decide +kernel
theorem dX1_removeLoan_94 : decode cX1_removeLoan 94 = .ok (.isub, 1) := by decide +kernel
theorem dX1_removeLoan_95 : decode cX1_removeLoan 95 = .ok (.putfield 37, 3) := by decide +kernel
theorem dX1_removeLoan_98 : decode cX1_removeLoan 98 = .ok (.return_, 1) := by decide +kernel
set_option maxRecDepth 20000 in
theorem ggX1_burn_X1_removeLoansOf : GoodIn wsX1_burn wsX1_removeLoansOf := goodIn_sub (List.forall_mem_cons.mpr ⟨List.mem_cons_of_mem _ (List.mem_append_left _ (List.mem_append_left _ (List.mem_of_getElem? (i := 7) rfl))), List.forall_mem_append.mpr ⟨List.forall_mem_cons.mpr ⟨List.mem_cons_of_mem _ (List.mem_append_left _ (List.mem_append_left _ (List.mem_of_getElem? (i := 8) rfl))), List.forall_mem_cons.mpr ⟨List.mem_cons_of_mem _ (List.mem_append_left _ (List.mem_append_left _ (List.mem_of_getElem? (i := 9) rfl))), List.forall_mem_cons.mpr ⟨List.mem_cons_of_mem _ (List.mem_append_left _ (List.mem_append_left _ (List.mem_of_getElem? (i := 10) rfl))), List.forall_mem_cons.mpr ⟨List.mem_cons_of_mem _ (List.mem_append_left _ (List.mem_append_left _ (List.mem_of_getElem? (i := 11) rfl))), List.forall_mem_cons.mpr ⟨List.mem_cons_of_mem _ (List.mem_append_left _ (List.mem_append_left _ (List.mem_of_getElem? (i := 12) rfl))), List.forall_mem_cons.mpr ⟨List.mem_cons_of_mem _ (List.mem_append_left _ (List.mem_append_left _ (List.mem_of_getElem? (i := 6) rfl))), List.forall_mem_cons.mpr ⟨List.mem_cons_of_mem _ (List.mem_append_left _ (List.mem_append_left _ (List.mem_of_getElem? (i := 13) rfl))), List.forall_mem_cons.mpr ⟨List.mem_cons_of_mem _ (List.mem_append_left _ (List.mem_append_left _ (List.mem_of_getElem? (i := 14) rfl))), List.forall_mem_cons.mpr ⟨List.mem_cons_of_mem _ (List.mem_append_left _ (List.mem_append_left _ (List.mem_of_getElem? (i := 15) rfl))), List.forall_mem_cons.mpr ⟨List.mem_cons_of_mem _ (List.mem_append_left _ (List.mem_append_left _ (List.mem_of_getElem? (i := 16) rfl))), List.forall_mem_cons.mpr ⟨List.mem_cons_of_mem _ (List.mem_append_left _ (List.mem_append_left _ (List.mem_of_getElem? (i := 17) rfl))), (fun _ h => absurd h List.not_mem_nil)⟩⟩⟩⟩⟩⟩⟩⟩⟩⟩⟩, (fun _ h => List.mem_cons_of_mem _ (List.mem_append_right _ (h)))⟩⟩) (by decide +kernel)
set_option maxRecDepth 20000 in
theorem gX1_burn_X1_removeLoansOf : GoodIn wsX1_burn (wsV RX1 110 RX1 yX1_removeLoansOf wsX1_removeLoansOf) := goodIn_app (goodIn_sub (List.forall_mem_cons.mpr ⟨List.mem_cons_of_mem _ (List.mem_append_left _ (List.mem_append_left _ (List.mem_of_getElem? (i := 3) rfl))), List.forall_mem_cons.mpr ⟨List.mem_cons_of_mem _ (List.mem_append_left _ (List.mem_append_left _ (List.mem_of_getElem? (i := 4) rfl))), List.forall_mem_cons.mpr ⟨List.mem_cons_of_mem _ (List.mem_append_left _ (List.mem_append_left _ (List.mem_of_getElem? (i := 5) rfl))), List.forall_mem_cons.mpr ⟨List.mem_cons_of_mem _ (List.mem_append_left _ (List.mem_append_left _ (List.mem_of_getElem? (i := 6) rfl))), (fun _ h => absurd h List.not_mem_nil)⟩⟩⟩⟩) (by decide +kernel)) ggX1_burn_X1_removeLoansOf
theorem dX1_burn_0 : decode cX1_burn 0 = .ok (.iconst 0, 1) := by decide +kernel
theorem dX1_burn_1 : decode cX1_burn 1 = .ok (.istore_n 3, 1) := by decide +kernel
theorem dX1_burn_2 : decode cX1_burn 2 = .ok (.iconst 0, 1) := by decide +kernel
theorem dX1_burn_3 : decode cX1_burn 3 = .ok (.istore 4, 2) := by decide +kernel
theorem dX1_burn_5 : decode cX1_burn 5 = .ok (.iload 4, 2) := by decide +kernel
theorem dX1_burn_7 : decode cX1_burn 7 = .ok (.aload_n 1, 1) := by decide +kernel
theorem dX1_burn_8 : decode cX1_burn 8 = .ok (.getfield 104, 3) := by decide +kernel
theorem dX1_burn_11 : decode cX1_burn 11 = .ok (.if_icmp .ge 47, 3) := by decide +kernel
theorem dX1_burn_14 : decode cX1_burn 14 = .ok (.aload_n 1, 1) := by decide +kernel
theorem dX1_burn_15 : decode cX1_burn 15 = .ok (.getfield 107, 3) := by decide +kernel
theorem dX1_burn_18 : decode cX1_burn 18 = .ok (.iload 4, 2) := by decide +kernel
theorem dX1_burn_20 : decode cX1_burn 20 = .ok (.iaload, 1) := by decide +kernel
theorem dX1_burn_21 : decode cX1_burn 21 = .ok (.iload_n 2, 1) := by decide +kernel
theorem dX1_burn_22 : decode cX1_burn 22 = .ok (.if_icmp .ne 30, 3) := by decide +kernel
theorem dX1_burn_25 : decode cX1_burn 25 = .ok (.aload_n 0, 1) := by decide +kernel
theorem dX1_burn_26 : decode cX1_burn 26 = .ok (.getfield 15, 3) := by decide +kernel
theorem dX1_burn_29 : decode cX1_burn 29 = .ok (.iload 4, 2) := by decide +kernel
theorem dX1_burn_31 : decode cX1_burn 31 = .ok (.iaload, 1) := by decide +kernel
theorem dX1_burn_32 : decode cX1_burn 32 = .ok (.ifCond .ne 20, 3) := by decide +kernel
theorem dX1_burn_35 : decode cX1_burn 35 = .ok (.aload_n 0, 1) := by decide +kernel
theorem dX1_burn_36 : decode cX1_burn 36 = .ok (.getfield 15, 3) := by decide +kernel
theorem dX1_burn_39 : decode cX1_burn 39 = .ok (.iload 4, 2) := by decide +kernel
theorem dX1_burn_41 : decode cX1_burn 41 = .ok (.iconst 1, 1) := by decide +kernel
theorem dX1_burn_42 : decode cX1_burn 42 = .ok (.iastore, 1) := by decide +kernel
theorem dX1_burn_43 : decode cX1_burn 43 = .ok (.aload_n 0, 1) := by decide +kernel
theorem dX1_burn_44 : decode cX1_burn 44 = .ok (.iload 4, 2) := by decide +kernel
theorem dX1_burn_46 : decode cX1_burn 46 = .ok (.invokevirtual 110, 3) := by decide +kernel
theorem dX1_burn_49 : decode cX1_burn 49 = .ok (.iinc 3 1, 3) := by decide +kernel
theorem dX1_burn_52 : decode cX1_burn 52 = .ok (.iinc 4 1, 3) := by decide +kernel
theorem dX1_burn_55 : decode cX1_burn 55 = .ok (.goto (-50), 3) := by decide +kernel
theorem dX1_burn_58 : decode cX1_burn 58 = .ok (.iload_n 3, 1) := by decide +kernel
theorem dX1_burn_59 : decode cX1_burn 59 = .ok (.ireturn, 1) := by decide +kernel
set_option maxRecDepth 20000 in
theorem ggX1_removeLoansOf_X1_removeLoan : GoodIn wsX1_removeLoansOf wsX1_removeLoan := goodIn_sub (List.forall_mem_cons.mpr ⟨List.mem_cons_of_mem _ (List.mem_append_left _ (List.mem_of_getElem? (i := 6) rfl)), List.forall_mem_append.mpr ⟨List.forall_mem_cons.mpr ⟨List.mem_cons_of_mem _ (List.mem_append_left _ (List.mem_of_getElem? (i := 0) rfl)), List.forall_mem_cons.mpr ⟨List.mem_cons_of_mem _ (List.mem_append_left _ (List.mem_of_getElem? (i := 1) rfl)), List.forall_mem_cons.mpr ⟨List.mem_cons_of_mem _ (List.mem_append_left _ (List.mem_of_getElem? (i := 7) rfl)), List.forall_mem_cons.mpr ⟨List.mem_cons_of_mem _ (List.mem_append_left _ (List.mem_of_getElem? (i := 8) rfl)), List.forall_mem_cons.mpr ⟨List.mem_cons_of_mem _ (List.mem_append_left _ (List.mem_of_getElem? (i := 9) rfl)), List.forall_mem_cons.mpr ⟨List.mem_cons_of_mem _ (List.mem_append_left _ (List.mem_of_getElem? (i := 10) rfl)), (fun _ h => absurd h List.not_mem_nil)⟩⟩⟩⟩⟩⟩, (fun _ h => List.mem_cons_of_mem _ (List.mem_append_right _ (h)))⟩⟩) (by decide +kernel)
set_option maxRecDepth 20000 in
theorem gX1_removeLoansOf_X1_removeLoan : GoodIn wsX1_removeLoansOf (wsV RX1 101 RX1 yX1_removeLoan wsX1_removeLoan) := goodIn_app (goodIn_sub (List.forall_mem_cons.mpr ⟨List.mem_cons_of_mem _ (List.mem_append_left _ (List.mem_of_getElem? (i := 2) rfl)), List.forall_mem_cons.mpr ⟨List.mem_cons_of_mem _ (List.mem_append_left _ (List.mem_of_getElem? (i := 3) rfl)), List.forall_mem_cons.mpr ⟨List.mem_cons_of_mem _ (List.mem_append_left _ (List.mem_of_getElem? (i := 4) rfl)), List.forall_mem_cons.mpr ⟨List.mem_cons_of_mem _ (List.mem_append_left _ (List.mem_of_getElem? (i := 5) rfl)), (fun _ h => absurd h List.not_mem_nil)⟩⟩⟩⟩) (by decide +kernel)) ggX1_removeLoansOf_X1_removeLoan
theorem dX1_removeLoansOf_0 : decode cX1_removeLoansOf 0 = .ok (.aload_n 0, 1) := by decide +kernel
theorem dX1_removeLoansOf_1 : decode cX1_removeLoansOf 1 = .ok (.getfield 37, 3) := by decide +kernel
theorem dX1_removeLoansOf_4 : decode cX1_removeLoansOf 4 = .ok (.iconst 1, 1) := by decide +kernel
theorem dX1_removeLoansOf_5 : decode cX1_removeLoansOf 5 = .ok (.isub, 1) := by decide +kernel
theorem dX1_removeLoansOf_6 : decode cX1_removeLoansOf 6 = .ok (.istore_n 2, 1) := by decide +kernel
theorem dX1_removeLoansOf_7 : decode cX1_removeLoansOf 7 = .ok (.iload_n 2, 1) := by decide +kernel
theorem dX1_removeLoansOf_8 : decode cX1_removeLoansOf 8 = .ok (.ifCond .lt 24, 3) := by decide +kernel
theorem dX1_removeLoansOf_11 : decode cX1_removeLoansOf 11 = .ok (.aload_n 0, 1) := by decide +kernel
theorem dX1_removeLoansOf_12 : decode cX1_removeLoansOf 12 = .ok (.getfield 18, 3) := by decide +kernel
theorem dX1_removeLoansOf_15 : decode cX1_removeLoansOf 15 = .ok (.iload_n 2, 1) := by decide +kernel
theorem dX1_removeLoansOf_16 : decode cX1_removeLoansOf 16 = .ok (.iaload, 1) := by decide +kernel
theorem dX1_removeLoansOf_17 : decode cX1_removeLoansOf 17 = .ok (.iload_n 1, 1) := by decide +kernel
theorem dX1_removeLoansOf_18 : decode cX1_removeLoansOf 18 = .ok (.if_icmp .ne 8, 3) := by decide +kernel
theorem dX1_removeLoansOf_21 : decode cX1_removeLoansOf 21 = .ok (.aload_n 0, 1) := by decide +kernel
theorem dX1_removeLoansOf_22 : decode cX1_removeLoansOf 22 = .ok (.iload_n 2, 1) := by decide +kernel
theorem dX1_removeLoansOf_23 : decode cX1_removeLoansOf 23 = .ok (.invokevirtual 101, 3) := by decide +kernel
theorem dX1_removeLoansOf_26 : decode cX1_removeLoansOf 26 = .ok (.iinc 2 (-1), 3) := by decide +kernel
theorem dX1_removeLoansOf_29 : decode cX1_removeLoansOf 29 = .ok (.goto (-22), 3) := by decide +kernel
theorem dX1_removeLoansOf_32 : decode cX1_removeLoansOf 32 = .ok (.return_, 1) := by decide +kernel
set_option maxRecDepth 20000 in
theorem ggX1_handOver_X1_addBranches : GoodIn wsX1_handOver wsX1_addBranches := goodIn_sub (List.forall_mem_cons.mpr ⟨List.mem_cons_of_mem _ (List.mem_append_left _ (List.mem_of_getElem? (i := 8) rfl)), List.forall_mem_append.mpr ⟨List.forall_mem_cons.mpr ⟨List.mem_cons_of_mem _ (List.mem_append_left _ (List.mem_of_getElem? (i := 2) rfl)), List.forall_mem_cons.mpr ⟨List.mem_cons_of_mem _ (List.mem_append_left _ (List.mem_of_getElem? (i := 9) rfl)), List.forall_mem_cons.mpr ⟨List.mem_cons_of_mem _ (List.mem_append_left _ (List.mem_of_getElem? (i := 10) rfl)), List.forall_mem_cons.mpr ⟨List.mem_cons_of_mem _ (List.mem_append_left _ (List.mem_of_getElem? (i := 11) rfl)), List.forall_mem_cons.mpr ⟨List.mem_cons_of_mem _ (List.mem_append_left _ (List.mem_of_getElem? (i := 12) rfl)), (fun _ h => absurd h List.not_mem_nil)⟩⟩⟩⟩⟩, (fun _ h => List.mem_cons_of_mem _ (List.mem_append_right _ (h)))⟩⟩) (by decide +kernel)
set_option maxRecDepth 20000 in
theorem gX1_handOver_X1_addBranches : GoodIn wsX1_handOver (wsV RX1 97 RX1 yX1_addBranches wsX1_addBranches) := goodIn_app (goodIn_sub (List.forall_mem_cons.mpr ⟨List.mem_cons_of_mem _ (List.mem_append_left _ (List.mem_of_getElem? (i := 4) rfl)), List.forall_mem_cons.mpr ⟨List.mem_cons_of_mem _ (List.mem_append_left _ (List.mem_of_getElem? (i := 5) rfl)), List.forall_mem_cons.mpr ⟨List.mem_cons_of_mem _ (List.mem_append_left _ (List.mem_of_getElem? (i := 6) rfl)), List.forall_mem_cons.mpr ⟨List.mem_cons_of_mem _ (List.mem_append_left _ (List.mem_of_getElem? (i := 7) rfl)), (fun _ h => absurd h List.not_mem_nil)⟩⟩⟩⟩) (by decide +kernel)) ggX1_handOver_X1_addBranches
theorem dX1_handOver_0 : decode cX1_handOver 0 = .ok (.iconst 0, 1) := by decide +kernel
theorem dX1_handOver_1 : decode cX1_handOver 1 = .ok (.istore_n 3, 1) := by decide +kernel
theorem dX1_handOver_2 : decode cX1_handOver 2 = .ok (.iconst 0, 1) := by decide +kernel
theorem dX1_handOver_3 : decode cX1_handOver 3 = .ok (.istore 4, 2) := by decide +kernel
theorem dX1_handOver_5 : decode cX1_handOver 5 = .ok (.iload 4, 2) := by decide +kernel
theorem dX1_handOver_7 : decode cX1_handOver 7 = .ok (.aload_n 0, 1) := by decide +kernel
theorem dX1_handOver_8 : decode cX1_handOver 8 = .ok (.getfield 37, 3) := by decide +kernel
theorem dX1_handOver_11 : decode cX1_handOver 11 = .ok (.if_icmp .ge 31, 3) := by decide +kernel
theorem dX1_handOver_14 : decode cX1_handOver 14 = .ok (.aload_n 0, 1) := by decide +kernel
theorem dX1_handOver_15 : decode cX1_handOver 15 = .ok (.getfield 18, 3) := by decide +kernel
theorem dX1_handOver_18 : decode cX1_handOver 18 = .ok (.iload 4, 2) := by decide +kernel
theorem dX1_handOver_20 : decode cX1_handOver 20 = .ok (.iaload, 1) := by decide +kernel
theorem dX1_handOver_21 : decode cX1_handOver 21 = .ok (.iload_n 1, 1) := by decide +kernel
theorem dX1_handOver_22 : decode cX1_handOver 22 = .ok (.if_icmp .ne 14, 3) := by decide +kernel
theorem dX1_handOver_25 : decode cX1_handOver 25 = .ok (.aload_n 0, 1) := by decide +kernel
theorem dX1_handOver_26 : decode cX1_handOver 26 = .ok (.getfield 18, 3) := by decide +kernel
theorem dX1_handOver_29 : decode cX1_handOver 29 = .ok (.iload 4, 2) := by decide +kernel
theorem dX1_handOver_31 : decode cX1_handOver 31 = .ok (.iload_n 2, 1) := by decide +kernel
theorem dX1_handOver_32 : decode cX1_handOver 32 = .ok (.iastore, 1) := by decide +kernel
theorem dX1_handOver_33 : decode cX1_handOver 33 = .ok (.iinc 3 1, 3) := by decide +kernel
theorem dX1_handOver_36 : decode cX1_handOver 36 = .ok (.iinc 4 1, 3) := by decide +kernel
theorem dX1_handOver_39 : decode cX1_handOver 39 = .ok (.goto (-34), 3) := by decide +kernel
theorem dX1_handOver_42 : decode cX1_handOver 42 = .ok (.aload_n 0, 1) := by decide +kernel
theorem dX1_handOver_43 : decode cX1_handOver 43 = .ok (.iload_n 2, 1) := by decide +kernel
theorem dX1_handOver_44 : decode cX1_handOver 44 = .ok (.aload_n 0, 1) := by decide +kernel
theorem dX1_handOver_45 : decode cX1_handOver 45 = .ok (.getfield 9, 3) := by decide +kernel
theorem dX1_handOver_48 : decode cX1_handOver 48 = .ok (.iload_n 1, 1) := by decide +kernel
theorem dX1_handOver_49 : decode cX1_handOver 49 = .ok (.iaload, 1) := by decide +kernel
theorem dX1_handOver_50 : decode cX1_handOver 50 = .ok (.invokevirtual 97, 3) := by decide +kernel
theorem dX1_handOver_53 : decode cX1_handOver 53 = .ok (.aload_n 0, 1) := by decide +kernel
theorem dX1_handOver_54 : decode cX1_handOver 54 = .ok (.getfield 9, 3) := by decide +kernel
theorem dX1_handOver_57 : decode cX1_handOver 57 = .ok (.iload_n 1, 1) := by decide +kernel
theorem dX1_handOver_58 : decode cX1_handOver 58 = .ok (.iconst 0, 1) := by decide +kernel
theorem dX1_handOver_59 : decode cX1_handOver 59 = .ok (.iastore, 1) := by decide +kernel
theorem dX1_handOver_60 : decode cX1_handOver 60 = .ok (.aload_n 0, 1) := by decide +kernel
theorem dX1_handOver_61 : decode cX1_handOver 61 = .ok (.getfield 15, 3) := by decide +kernel
theorem dX1_handOver_64 : decode cX1_handOver 64 = .ok (.iload_n 1, 1) := by decide +kernel
theorem dX1_handOver_65 : decode cX1_handOver 65 = .ok (.iconst 2, 1) := by decide +kernel
theorem dX1_handOver_66 : decode cX1_handOver 66 = .ok (.iastore, 1) := by decide +kernel
theorem dX1_handOver_67 : decode cX1_handOver 67 = .ok (.iload_n 3, 1) := by decide +kernel
theorem dX1_handOver_68 : decode cX1_handOver 68 = .ok (.ireturn, 1) := by decide +kernel
set_option maxRecDepth 20000 in
theorem ggX1_partsWithLoans_J6_bitCount_0f7a4 : GoodIn wsX1_partsWithLoans wsJ6_bitCount_0f7a4 := goodIn_sub (List.forall_mem_cons.mpr ⟨List.mem_cons_of_mem _ (List.mem_append_left _ (List.mem_append_left _ (List.mem_of_getElem? (i := 6) rfl))), List.forall_mem_cons.mpr ⟨List.mem_cons_of_mem _ (List.mem_append_left _ (List.mem_append_left _ (List.mem_of_getElem? (i := 7) rfl))), List.forall_mem_cons.mpr ⟨List.mem_cons_of_mem _ (List.mem_append_left _ (List.mem_append_left _ (List.mem_of_getElem? (i := 8) rfl))), List.forall_mem_cons.mpr ⟨List.mem_cons_of_mem _ (List.mem_append_left _ (List.mem_append_left _ (List.mem_of_getElem? (i := 9) rfl))), (fun _ h => absurd h List.not_mem_nil)⟩⟩⟩⟩) (by decide +kernel)
set_option maxRecDepth 20000 in
theorem gX1_partsWithLoans_J6_bitCount_0f7a4 : GoodIn wsX1_partsWithLoans (va_wsS RX1 113 yJ6_bitCount_0f7a4 wsJ6_bitCount_0f7a4) := goodIn_app (goodIn_sub (List.forall_mem_cons.mpr ⟨List.mem_cons_of_mem _ (List.mem_append_left _ (List.mem_append_left _ (List.mem_of_getElem? (i := 3) rfl))), List.forall_mem_cons.mpr ⟨List.mem_cons_of_mem _ (List.mem_append_left _ (List.mem_append_left _ (List.mem_of_getElem? (i := 4) rfl))), List.forall_mem_cons.mpr ⟨List.mem_cons_of_mem _ (List.mem_append_left _ (List.mem_append_left _ (List.mem_of_getElem? (i := 5) rfl))), (fun _ h => absurd h List.not_mem_nil)⟩⟩⟩) (by decide +kernel)) ggX1_partsWithLoans_J6_bitCount_0f7a4
theorem dX1_partsWithLoans_0 : decode cX1_partsWithLoans 0 = .ok (.iconst 0, 1) := by decide +kernel
theorem dX1_partsWithLoans_1 : decode cX1_partsWithLoans 1 = .ok (.istore_n 2, 1) := by decide +kernel
theorem dX1_partsWithLoans_2 : decode cX1_partsWithLoans 2 = .ok (.iconst 0, 1) := by decide +kernel
theorem dX1_partsWithLoans_3 : decode cX1_partsWithLoans 3 = .ok (.istore_n 3, 1) := by decide +kernel
theorem dX1_partsWithLoans_4 : decode cX1_partsWithLoans 4 = .ok (.iload_n 3, 1) := by decide +kernel
theorem dX1_partsWithLoans_5 : decode cX1_partsWithLoans 5 = .ok (.aload_n 0, 1) := by decide +kernel
theorem dX1_partsWithLoans_6 : decode cX1_partsWithLoans 6 = .ok (.getfield 37, 3) := by decide +kernel
theorem dX1_partsWithLoans_9 : decode cX1_partsWithLoans 9 = .ok (.if_icmp .ge 25, 3) := by decide +kernel
theorem dX1_partsWithLoans_12 : decode cX1_partsWithLoans 12 = .ok (.iload_n 2, 1) := by decide +kernel
theorem dX1_partsWithLoans_13 : decode cX1_partsWithLoans 13 = .ok (.iconst 1, 1) := by decide +kernel
theorem dX1_partsWithLoans_14 : decode cX1_partsWithLoans 14 = .ok (.aload_n 1, 1) := by decide +kernel
theorem dX1_partsWithLoans_15 : decode cX1_partsWithLoans 15 = .ok (.getfield 107, 3) := by decide +kernel
theorem dX1_partsWithLoans_18 : decode cX1_partsWithLoans 18 = .ok (.aload_n 0, 1) := by decide +kernel
theorem dX1_partsWithLoans_19 : decode cX1_partsWithLoans 19 = .ok (.getfield 18, 3) := by decide +kernel
theorem dX1_partsWithLoans_22 : decode cX1_partsWithLoans 22 = .ok (.iload_n 3, 1) := by decide +kernel
theorem dX1_partsWithLoans_23 : decode cX1_partsWithLoans 23 = .ok (.iaload, 1) := by decide +kernel
theorem dX1_partsWithLoans_24 : decode cX1_partsWithLoans 24 = .ok (.iaload, 1) := by decide +kernel
theorem dX1_partsWithLoans_25 : decode cX1_partsWithLoans 25 = .ok (.ishl, 1) := by decide +kernel
theorem dX1_partsWithLoans_26 : decode cX1_partsWithLoans 26 = .ok (.ior, 1) := by decide +kernel
theorem dX1_partsWithLoans_27 : decode cX1_partsWithLoans 27 = .ok (.istore_n 2, 1) := by decide +kernel
theorem dX1_partsWithLoans_28 : decode cX1_partsWithLoans 28 = .ok (.iinc 3 1, 3) := by decide +kernel
theorem dX1_partsWithLoans_31 : decode cX1_partsWithLoans 31 = .ok (.goto (-27), 3) := by decide +kernel
theorem dX1_partsWithLoans_34 : decode cX1_partsWithLoans 34 = .ok (.iload_n 2, 1) := by decide +kernel
theorem dX1_partsWithLoans_35 : decode cX1_partsWithLoans 35 = .ok (.invokestatic 113, 3) := by decide +kernel
theorem dX1_partsWithLoans_38 : decode cX1_partsWithLoans 38 = .ok (.ireturn, 1) := by decide +kernel
set_option maxRecDepth 20000 in
theorem ggX2_init_X3_init : GoodIn wsX2_init wsX3_init := goodIn_sub (List.forall_mem_cons.mpr ⟨List.mem_cons_of_mem _ (List.mem_append_left _ (List.mem_append_left _ (List.mem_of_getElem? (i := 10) rfl))), List.forall_mem_append.mpr ⟨List.forall_mem_cons.mpr ⟨List.mem_cons_of_mem _ (List.mem_append_left _ (List.mem_append_left _ (List.mem_of_getElem? (i := 11) rfl))), List.forall_mem_cons.mpr ⟨List.mem_cons_of_mem _ (List.mem_append_left _ (List.mem_append_left _ (List.mem_of_getElem? (i := 1) rfl))), List.forall_mem_cons.mpr ⟨List.mem_cons_of_mem _ (List.mem_append_left _ (List.mem_append_left _ (List.mem_of_getElem? (i := 2) rfl))), List.forall_mem_cons.mpr ⟨List.mem_cons_of_mem _ (List.mem_append_left _ (List.mem_append_left _ (List.mem_of_getElem? (i := 3) rfl))), List.forall_mem_cons.mpr ⟨List.mem_cons_of_mem _ (List.mem_append_left _ (List.mem_append_left _ (List.mem_of_getElem? (i := 12) rfl))), List.forall_mem_cons.mpr ⟨List.mem_cons_of_mem _ (List.mem_append_left _ (List.mem_append_left _ (List.mem_of_getElem? (i := 13) rfl))), List.forall_mem_cons.mpr ⟨List.mem_cons_of_mem _ (List.mem_append_left _ (List.mem_append_left _ (List.mem_of_getElem? (i := 14) rfl))), List.forall_mem_cons.mpr ⟨List.mem_cons_of_mem _ (List.mem_append_left _ (List.mem_append_left _ (List.mem_of_getElem? (i := 15) rfl))), List.forall_mem_cons.mpr ⟨List.mem_cons_of_mem _ (List.mem_append_left _ (List.mem_append_left _ (List.mem_of_getElem? (i := 16) rfl))), List.forall_mem_cons.mpr ⟨List.mem_cons_of_mem _ (List.mem_append_left _ (List.mem_append_left _ (List.mem_of_getElem? (i := 17) rfl))), List.forall_mem_cons.mpr ⟨List.mem_cons_of_mem _ (List.mem_append_left _ (List.mem_append_left _ (List.mem_of_getElem? (i := 18) rfl))), List.forall_mem_cons.mpr ⟨List.mem_cons_of_mem _ (List.mem_append_left _ (List.mem_append_left _ (List.mem_of_getElem? (i := 19) rfl))), (fun _ h => absurd h List.not_mem_nil)⟩⟩⟩⟩⟩⟩⟩⟩⟩⟩⟩⟩, (fun _ h => List.mem_cons_of_mem _ (List.mem_append_right _ (h)))⟩⟩) (by decide +kernel)
set_option maxRecDepth 20000 in
theorem gX2_init_X3_init_n17 : GoodIn wsX2_init (wsX3_init) := ggX2_init_X3_init
theorem dX2_init_0 : decode cX2_init 0 = .ok (.aload_n 0, 1) := by decide +kernel
theorem dX2_init_1 : decode cX2_init 1 = .ok (.invokespecial 3, 3) := by decide +kernel
theorem dX2_init_4 : decode cX2_init 4 = .ok (.aload_n 0, 1) := by decide +kernel
theorem dX2_init_5 : decode cX2_init 5 = .ok (.sipush 200, 3) := by decide +kernel
theorem dX2_init_8 : decode cX2_init 8 = .ok (.newarray .int, 2) := by decide +kernel
theorem dX2_init_10 : decode cX2_init 10 = .ok (.putfield 9, 3) := by decide +kernel
theorem dX2_init_13 : decode cX2_init 13 = .ok (.aload_n 0, 1) := by decide +kernel
theorem dX2_init_14 : decode cX2_init 14 = .ok (.new 15, 3) := by decide +kernel
theorem dX2_init_17 : decode cX2_init 17 = .ok (.dup, 1) := by decide +kernel
theorem dX2_init_18 : decode cX2_init 18 = .ok (.invokespecial 17, 3) := by decide +kernel
theorem dX2_init_21 : decode cX2_init 21 = .ok (.putfield 18, 3) := by decide +kernel
theorem dX2_init_24 : decode cX2_init 24 = .ok (.return_, 1) := by decide +kernel
theorem dX2_add_0 : decode cX2_add 0 = .ok (.aload_n 0, 1) := by decide +kernel
theorem dX2_add_1 : decode cX2_add 1 = .ok (.getfield 22, 3) := by decide +kernel
theorem dX2_add_4 : decode cX2_add 4 = .ok (.sipush 200, 3) := by decide +kernel
theorem dX2_add_7 : decode cX2_add 7 = .ok (.if_icmp .lt 4, 3) := by decide +kernel
theorem dX2_add_10 : decode cX2_add 10 = .ok (.return_, 1) := by decide +kernel
theorem dX2_add_11 : decode cX2_add 11 = .ok (.aload_n 0, 1) := by decide +kernel
theorem dX2_add_12 : decode cX2_add 12 = .ok (.getfield 9, 3) := by decide +kernel
theorem dX2_add_15 : decode cX2_add 15 = .ok (.aload_n 0, 1) := by decide +kernel

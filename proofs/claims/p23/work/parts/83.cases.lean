/-! ===== 83 the law: each call, of both ===== -/
theorem oL_X4_write : OkV mL_law mX4_write yX4_write 15 2 RX4 := ⟨gL_law_X4_write, ⟨_, rfl⟩, ⟨rfl, rfl⟩, dd_X4_write, ⟨Nat.le_of_ble_eq_true rfl, Nat.le_of_ble_eq_true rfl⟩⟩
theorem oL_X5_write : OkV mL_law mX5_write yX5_write 19 2 RX5 := ⟨gL_law_X5_write, ⟨_, rfl⟩, ⟨rfl, rfl⟩, dd_X5_write, ⟨Nat.le_of_ble_eq_true rfl, Nat.le_of_ble_eq_true rfl⟩⟩
theorem oL_X4_erase : OkV mL_law mX4_erase yX4_erase 20 0 RX4 := ⟨gL_law_X4_erase, ⟨_, rfl⟩, ⟨rfl, rfl⟩, dd_X4_erase, ⟨Nat.le_of_ble_eq_true rfl, Nat.le_of_ble_eq_true rfl⟩⟩
theorem oL_X5_erase : OkV mL_law mX5_erase yX5_erase 24 0 RX5 := ⟨gL_law_X5_erase, ⟨_, rfl⟩, ⟨rfl, rfl⟩, dd_X5_erase, ⟨Nat.le_of_ble_eq_true rfl, Nat.le_of_ble_eq_true rfl⟩⟩
theorem oL_X4_fault : OkV mL_law mX4_fault yX4_fault 25 0 RX4 := ⟨gL_law_X4_fault, ⟨_, rfl⟩, ⟨rfl, rfl⟩, dd_X4_fault, ⟨Nat.le_of_ble_eq_true rfl, Nat.le_of_ble_eq_true rfl⟩⟩
theorem oL_X5_fault : OkV mL_law mX5_fault yX5_fault 28 0 RX5 := ⟨gL_law_X5_fault, ⟨_, rfl⟩, ⟨rfl, rfl⟩, dd_X5_fault, ⟨Nat.le_of_ble_eq_true rfl, Nat.le_of_ble_eq_true rfl⟩⟩
theorem oL_X4_wood : OkV mL_law mX4_wood yX4_wood 29 0 RX4 := ⟨gL_law_X4_wood, ⟨_, rfl⟩, ⟨rfl, rfl⟩, dd_X4_wood, ⟨Nat.le_of_ble_eq_true rfl, Nat.le_of_ble_eq_true rfl⟩⟩
theorem oL_X5_wood : OkV mL_law mX5_wood yX5_wood 32 0 RX5 := ⟨gL_law_X5_wood, ⟨_, rfl⟩, ⟨rfl, rfl⟩, dd_X5_wood, ⟨Nat.le_of_ble_eq_true rfl, Nat.le_of_ble_eq_true rfl⟩⟩
theorem oL_X4_tree : OkV mL_law mX4_tree yX4_tree 33 2 RX4 := ⟨gL_law_X4_tree, ⟨_, rfl⟩, ⟨rfl, rfl⟩, dd_X4_tree, ⟨Nat.le_of_ble_eq_true rfl, Nat.le_of_ble_eq_true rfl⟩⟩
theorem oL_X5_tree : OkV mL_law mX5_tree yX5_tree 37 2 RX5 := ⟨gL_law_X5_tree, ⟨_, rfl⟩, ⟨rfl, rfl⟩, dd_X5_tree, ⟨Nat.le_of_ble_eq_true rfl, Nat.le_of_ble_eq_true rfl⟩⟩
theorem oL_X4_loan : OkV mL_law mX4_loan yX4_loan 38 2 RX4 := ⟨gL_law_X4_loan, ⟨_, rfl⟩, ⟨rfl, rfl⟩, dd_X4_loan, ⟨Nat.le_of_ble_eq_true rfl, Nat.le_of_ble_eq_true rfl⟩⟩
theorem oL_X5_loan : OkV mL_law mX5_loan yX5_loan 41 2 RX5 := ⟨gL_law_X5_loan, ⟨_, rfl⟩, ⟨rfl, rfl⟩, dd_X5_loan, ⟨Nat.le_of_ble_eq_true rfl, Nat.le_of_ble_eq_true rfl⟩⟩
theorem oL_X4_as : OkV mL_law mX4_as yX4_as 42 2 RX4 := ⟨gL_law_X4_as, ⟨_, rfl⟩, ⟨rfl, rfl⟩, dd_X4_as, ⟨Nat.le_of_ble_eq_true rfl, Nat.le_of_ble_eq_true rfl⟩⟩
theorem oL_X5_as : OkV mL_law mX5_as yX5_as 45 2 RX5 := ⟨gL_law_X5_as, ⟨_, rfl⟩, ⟨rfl, rfl⟩, dd_X5_as, ⟨Nat.le_of_ble_eq_true rfl, Nat.le_of_ble_eq_true rfl⟩⟩
theorem oL_X4_borrow : OkV mL_law mX4_borrow yX4_borrow 46 2 RX4 := ⟨gL_law_X4_borrow, ⟨_, rfl⟩, ⟨rfl, rfl⟩, dd_X4_borrow, ⟨Nat.le_of_ble_eq_true rfl, Nat.le_of_ble_eq_true rfl⟩⟩
theorem oL_X5_borrow : OkV mL_law mX5_borrow yX5_borrow 49 2 RX5 := ⟨gL_law_X5_borrow, ⟨_, rfl⟩, ⟨rfl, rfl⟩, dd_X5_borrow, ⟨Nat.le_of_ble_eq_true rfl, Nat.le_of_ble_eq_true rfl⟩⟩
theorem oL_X4_days : OkV mL_law mX4_days yX4_days 50 1 RX4 := ⟨gL_law_X4_days, ⟨_, rfl⟩, ⟨rfl, rfl⟩, dd_X4_days, ⟨Nat.le_of_ble_eq_true rfl, Nat.le_of_ble_eq_true rfl⟩⟩
theorem oL_X5_days : OkV mL_law mX5_days yX5_days 54 1 RX5 := ⟨gL_law_X5_days, ⟨_, rfl⟩, ⟨rfl, rfl⟩, dd_X5_days, ⟨Nat.le_of_ble_eq_true rfl, Nat.le_of_ble_eq_true rfl⟩⟩
theorem oL_X4_fire : OkV mL_law mX4_fire yX4_fire 55 1 RX4 := ⟨gL_law_X4_fire, ⟨_, rfl⟩, ⟨rfl, rfl⟩, dd_X4_fire, ⟨Nat.le_of_ble_eq_true rfl, Nat.le_of_ble_eq_true rfl⟩⟩
theorem oL_X5_fire : OkV mL_law mX5_fire yX5_fire 58 1 RX5 := ⟨gL_law_X5_fire, ⟨_, rfl⟩, ⟨rfl, rfl⟩, dd_X5_fire, ⟨Nat.le_of_ble_eq_true rfl, Nat.le_of_ble_eq_true rfl⟩⟩
theorem oL_X4_sell : OkV mL_law mX4_sell yX4_sell 59 2 RX4 := ⟨gL_law_X4_sell, ⟨_, rfl⟩, ⟨rfl, rfl⟩, dd_X4_sell, ⟨Nat.le_of_ble_eq_true rfl, Nat.le_of_ble_eq_true rfl⟩⟩
theorem oL_X5_sell : OkV mL_law mX5_sell yX5_sell 62 2 RX5 := ⟨gL_law_X5_sell, ⟨_, rfl⟩, ⟨rfl, rfl⟩, dd_X5_sell, ⟨Nat.le_of_ble_eq_true rfl, Nat.le_of_ble_eq_true rfl⟩⟩
theorem oL_X4_keep : OkV mL_law mX4_keep yX4_keep 63 1 RX4 := ⟨gL_law_X4_keep, ⟨_, rfl⟩, ⟨rfl, rfl⟩, dd_X4_keep, ⟨Nat.le_of_ble_eq_true rfl, Nat.le_of_ble_eq_true rfl⟩⟩
theorem oL_X5_keep : OkV mL_law mX5_keep yX5_keep 66 1 RX5 := ⟨gL_law_X5_keep, ⟨_, rfl⟩, ⟨rfl, rfl⟩, dd_X5_keep, ⟨Nat.le_of_ble_eq_true rfl, Nat.le_of_ble_eq_true rfl⟩⟩
theorem oL_X4_back : OkV mL_law mX4_back yX4_back 67 1 RX4 := ⟨gL_law_X4_back, ⟨_, rfl⟩, ⟨rfl, rfl⟩, dd_X4_back, ⟨Nat.le_of_ble_eq_true rfl, Nat.le_of_ble_eq_true rfl⟩⟩
theorem oL_X5_back : OkV mL_law mX5_back yX5_back 70 1 RX5 := ⟨gL_law_X5_back, ⟨_, rfl⟩, ⟨rfl, rfl⟩, dd_X5_back, ⟨Nat.le_of_ble_eq_true rfl, Nat.le_of_ble_eq_true rfl⟩⟩
theorem oL_X4_later : OkV mL_law mX4_later yX4_later 71 2 RX4 := ⟨gL_law_X4_later, ⟨_, rfl⟩, ⟨rfl, rfl⟩, dd_X4_later, ⟨Nat.le_of_ble_eq_true rfl, Nat.le_of_ble_eq_true rfl⟩⟩
theorem oL_X5_later : OkV mL_law mX5_later yX5_later 74 2 RX5 := ⟨gL_law_X5_later, ⟨_, rfl⟩, ⟨rfl, rfl⟩, dd_X5_later, ⟨Nat.le_of_ble_eq_true rfl, Nat.le_of_ble_eq_true rfl⟩⟩
theorem oL_X4_all : OkV mL_law mX4_all yX4_all 75 2 RX4 := ⟨gL_law_X4_all, ⟨_, rfl⟩, ⟨rfl, rfl⟩, dd_X4_all, ⟨Nat.le_of_ble_eq_true rfl, Nat.le_of_ble_eq_true rfl⟩⟩
theorem oL_X5_all : OkV mL_law mX5_all yX5_all 78 2 RX5 := ⟨gL_law_X5_all, ⟨_, rfl⟩, ⟨rfl, rfl⟩, dd_X5_all, ⟨Nat.le_of_ble_eq_true rfl, Nat.le_of_ble_eq_true rfl⟩⟩
theorem oL_X4_clear : OkV mL_law mX4_clear yX4_clear 79 0 RX4 := ⟨gL_law_X4_clear, ⟨_, rfl⟩, ⟨rfl, rfl⟩, dd_X4_clear, ⟨Nat.le_of_ble_eq_true rfl, Nat.le_of_ble_eq_true rfl⟩⟩
theorem oL_X5_clear : OkV mL_law mX5_clear yX5_clear 82 0 RX5 := ⟨gL_law_X5_clear, ⟨_, rfl⟩, ⟨rfl, rfl⟩, dd_X5_clear, ⟨Nat.le_of_ble_eq_true rfl, Nat.le_of_ble_eq_true rfl⟩⟩
theorem oL_X4_hut : OkV mL_law mX4_hut yX4_hut 83 3 RX4 := ⟨gL_law_X4_hut, ⟨_, rfl⟩, ⟨rfl, rfl⟩, dd_X4_hut, ⟨Nat.le_of_ble_eq_true rfl, Nat.le_of_ble_eq_true rfl⟩⟩
theorem oL_X5_hut : OkV mL_law mX5_hut yX5_hut 87 3 RX5 := ⟨gL_law_X5_hut, ⟨_, rfl⟩, ⟨rfl, rfl⟩, dd_X5_hut, ⟨Nat.le_of_ble_eq_true rfl, Nat.le_of_ble_eq_true rfl⟩⟩
theorem oL_X4_enough : OkV mL_law mX4_enough yX4_enough 88 1 RX4 := ⟨gL_law_X4_enough, ⟨_, rfl⟩, ⟨rfl, rfl⟩, dd_X4_enough, ⟨Nat.le_of_ble_eq_true rfl, Nat.le_of_ble_eq_true rfl⟩⟩
theorem oL_X5_enough : OkV mL_law mX5_enough yX5_enough 91 1 RX5 := ⟨gL_law_X5_enough, ⟨_, rfl⟩, ⟨rfl, rfl⟩, dd_X5_enough, ⟨Nat.le_of_ble_eq_true rfl, Nat.le_of_ble_eq_true rfl⟩⟩
theorem oL_X4_rid : OkV mL_law mX4_rid yX4_rid 92 2 RX4 := ⟨gL_law_X4_rid, ⟨_, rfl⟩, ⟨rfl, rfl⟩, dd_X4_rid, ⟨Nat.le_of_ble_eq_true rfl, Nat.le_of_ble_eq_true rfl⟩⟩
theorem oL_X5_rid : OkV mL_law mX5_rid yX5_rid 95 2 RX5 := ⟨gL_law_X5_rid, ⟨_, rfl⟩, ⟨rfl, rfl⟩, dd_X5_rid, ⟨Nat.le_of_ble_eq_true rfl, Nat.le_of_ble_eq_true rfl⟩⟩
theorem oL_X4_grandson : OkV mL_law mX4_grandson yX4_grandson 96 1 RX4 := ⟨gL_law_X4_grandson, ⟨_, rfl⟩, ⟨rfl, rfl⟩, dd_X4_grandson, ⟨Nat.le_of_ble_eq_true rfl, Nat.le_of_ble_eq_true rfl⟩⟩
theorem oL_X5_grandson : OkV mL_law mX5_grandson yX5_grandson 99 1 RX5 := ⟨gL_law_X5_grandson, ⟨_, rfl⟩, ⟨rfl, rfl⟩, dd_X5_grandson, ⟨Nat.le_of_ble_eq_true rfl, Nat.le_of_ble_eq_true rfl⟩⟩
theorem oL_X4_toWhom : OkV mL_law mX4_toWhom yX4_toWhom 100 3 RX4 := ⟨gL_law_X4_toWhom, ⟨_, rfl⟩, ⟨rfl, rfl⟩, dd_X4_toWhom, ⟨Nat.le_of_ble_eq_true rfl, Nat.le_of_ble_eq_true rfl⟩⟩
theorem oL_X5_toWhom : OkV mL_law mX5_toWhom yX5_toWhom 103 3 RX5 := ⟨gL_law_X5_toWhom, ⟨_, rfl⟩, ⟨rfl, rfl⟩, dd_X5_toWhom, ⟨Nat.le_of_ble_eq_true rfl, Nat.le_of_ble_eq_true rfl⟩⟩
theorem oL_X4_count : OkV mL_law mX4_count yX4_count 104 1 RX4 := ⟨gL_law_X4_count, ⟨_, rfl⟩, ⟨rfl, rfl⟩, dd_X4_count, ⟨Nat.le_of_ble_eq_true rfl, Nat.le_of_ble_eq_true rfl⟩⟩
theorem oL_X5_count : OkV mL_law mX5_count yX5_count 107 1 RX5 := ⟨gL_law_X5_count, ⟨_, rfl⟩, ⟨rfl, rfl⟩, dd_X5_count, ⟨Nat.le_of_ble_eq_true rfl, Nat.le_of_ble_eq_true rfl⟩⟩
set_option maxRecDepth 100000 in
set_option maxHeartbeats 4000000 in
theorem lc_write {G : Gb} {l : Launch} {b Ln : Nat} {xs : Nat → Int32} {i : Int} {w : Wd} {c : Int} {σ : SG} (hc : SC c σ w) (hm : SM c σ w) (hcc : c ≤ 100000) (h0 : 0 ≤ i) (h1 : i + 3 < (Ln : Int)) (k : ∀ (σ' : SG) (w' : Wd), SC (c + 1) σ' w' → SM (c + 1) σ' w' → LV G l b Ln xs 762 i [] w') : LV G l b Ln xs 136 i [] w := by
  refine LV_a1 dL_law_136 ?_
  refine LV_arg (d := 1) dL_law_137 dL_law_138 dL_law_139 dL_law_140 dL_law_141 (by omega) ?_
  refine LV_i2l dL_law_142 ?_
  refine LV_bipush dL_law_143 rfl ?_
  refine LV_lshl dL_law_145 ?_
  refine LV_arg (d := 2) dL_law_146 dL_law_147 dL_law_148 dL_law_149 dL_law_150 (by omega) ?_
  refine LV_i2l dL_law_151 ?_
  refine LV_ldc2 (v := 4294967295) dL_law_152 (List.mem_append_left _ (List.mem_of_getElem? (i := 6) rfl)) ?_
  refine LV_land dL_law_155 ?_
  refine LV_lor dL_law_156 ?_
  refine LV_arg (d := 3) dL_law_157 dL_law_158 dL_law_159 dL_law_160 dL_law_161 (by omega) ?_
  refine LV_call (kk := 0) (ci := 4) (As := [.long _, .int (iZ (sx xs (i + 3)))]) (rest := []) dL_law_162 oL_X4_write rfl rfl rfl rfl (Nat.le_of_ble_eq_true rfl) (c_X4_write G l hc (sx_r xs _)) ?_
  rintro z1 w1 ⟨e1, hs1, f1⟩
  refine LV_pop dL_law_165 rfl ?_
  refine LV_a2 dL_law_166 ?_
  refine LV_arg (d := 1) dL_law_167 dL_law_168 dL_law_169 dL_law_170 dL_law_171 (by omega) ?_
  refine LV_i2l dL_law_172 ?_
  refine LV_bipush dL_law_173 rfl ?_
  refine LV_lshl dL_law_175 ?_
  refine LV_arg (d := 2) dL_law_176 dL_law_177 dL_law_178 dL_law_179 dL_law_180 (by omega) ?_
  refine LV_i2l dL_law_181 ?_
  refine LV_ldc2 (v := 4294967295) dL_law_182 (List.mem_append_left _ (List.mem_of_getElem? (i := 6) rfl)) ?_
  refine LV_land dL_law_185 ?_
  refine LV_lor dL_law_186 ?_
  refine LV_arg (d := 3) dL_law_187 dL_law_188 dL_law_189 dL_law_190 dL_law_191 (by omega) ?_
  refine LV_call (kk := 71) (ci := 5) (As := [.long _, .int (iZ (sx xs (i + 3)))]) (rest := []) dL_law_192 oL_X5_write rfl rfl rfl rfl (Nat.le_of_ble_eq_true rfl) (c_X5_write G l (SM_fr hm f1) (sx_r xs _)) ?_
  rintro z2 w2 ⟨e2, hs2, f2⟩
  refine LV_pop dL_law_195 rfl ?_
  refine LV_goto (tgt := 762) dL_law_196 (by decide) ?_
  exact k _ _ (SC_fr hs1 f2) hs2
set_option maxRecDepth 100000 in
set_option maxHeartbeats 4000000 in
theorem lc_erase {G : Gb} {l : Launch} {b Ln : Nat} {xs : Nat → Int32} {i : Int} {w : Wd} {c : Int} {σ : SG} (hc : SC c σ w) (hm : SM c σ w) (hcc : c ≤ 100000) (h0 : 0 ≤ i) (h1 : i + 3 < (Ln : Int)) (k : ∀ (σ' : SG) (w' : Wd), SC (c + 1) σ' w' → SM (c + 1) σ' w' → LV G l b Ln xs 762 i [] w') : LV G l b Ln xs 199 i [] w := by
  refine LV_a1 dL_law_199 ?_
  refine LV_call (kk := 0) (ci := 4) (As := []) (rest := []) dL_law_200 oL_X4_erase rfl rfl rfl rfl (Nat.le_of_ble_eq_true rfl) (c_X4_erase G l hc) ?_
  rintro z1 w1 ⟨e1, hs1, f1⟩
  refine LV_pop dL_law_203 rfl ?_
  refine LV_a2 dL_law_204 ?_
  refine LV_call (kk := 71) (ci := 5) (As := []) (rest := []) dL_law_205 oL_X5_erase rfl rfl rfl rfl (Nat.le_of_ble_eq_true rfl) (c_X5_erase G l (SM_fr hm f1)) ?_
  rintro z2 w2 ⟨e2, hs2, f2⟩
  refine LV_pop dL_law_208 rfl ?_
  refine LV_goto (tgt := 762) dL_law_209 (by decide) ?_
  exact k _ _ (SC_fr hs1 f2) hs2
set_option maxRecDepth 100000 in
set_option maxHeartbeats 4000000 in
theorem lc_fault {G : Gb} {l : Launch} {b Ln : Nat} {xs : Nat → Int32} {i : Int} {w : Wd} {c : Int} {σ : SG} (hc : SC c σ w) (hm : SM c σ w) (hcc : c ≤ 100000) (h0 : 0 ≤ i) (h1 : i + 3 < (Ln : Int)) (k : ∀ (σ' : SG) (w' : Wd), SC (c + 1) σ' w' → SM (c + 1) σ' w' → LV G l b Ln xs 762 i [] w') : LV G l b Ln xs 212 i [] w := by
  refine LV_a1 dL_law_212 ?_
  refine LV_call (kk := 0) (ci := 4) (As := []) (rest := []) dL_law_213 oL_X4_fault rfl rfl rfl rfl (Nat.le_of_ble_eq_true rfl) (c_X4_fault G l hc) ?_
  rintro z1 w1 ⟨e1, hs1, f1⟩
  refine LV_pop dL_law_216 rfl ?_
  refine LV_a2 dL_law_217 ?_
  refine LV_call (kk := 71) (ci := 5) (As := []) (rest := []) dL_law_218 oL_X5_fault rfl rfl rfl rfl (Nat.le_of_ble_eq_true rfl) (c_X5_fault G l (SM_fr hm f1)) ?_
  rintro z2 w2 ⟨e2, hs2, f2⟩
  refine LV_pop dL_law_221 rfl ?_
  refine LV_goto (tgt := 762) dL_law_222 (by decide) ?_
  exact k _ _ (SC_fr hs1 f2) hs2
set_option maxRecDepth 100000 in
set_option maxHeartbeats 4000000 in
theorem lc_wood {G : Gb} {l : Launch} {b Ln : Nat} {xs : Nat → Int32} {i : Int} {w : Wd} {c : Int} {σ : SG} (hc : SC c σ w) (hm : SM c σ w) (hcc : c ≤ 100000) (h0 : 0 ≤ i) (h1 : i + 3 < (Ln : Int)) (k : ∀ (σ' : SG) (w' : Wd), SC (c + 1) σ' w' → SM (c + 1) σ' w' → LV G l b Ln xs 762 i [] w') : LV G l b Ln xs 225 i [] w := by
  refine LV_a1 dL_law_225 ?_
  refine LV_call (kk := 0) (ci := 4) (As := []) (rest := []) dL_law_226 oL_X4_wood rfl rfl rfl rfl (Nat.le_of_ble_eq_true rfl) (c_X4_wood G l hc) ?_
  rintro z1 w1 ⟨e1, hs1, f1⟩
  refine LV_pop dL_law_229 rfl ?_
  refine LV_a2 dL_law_230 ?_
  refine LV_call (kk := 71) (ci := 5) (As := []) (rest := []) dL_law_231 oL_X5_wood rfl rfl rfl rfl (Nat.le_of_ble_eq_true rfl) (c_X5_wood G l (SM_fr hm f1)) ?_
  rintro z2 w2 ⟨e2, hs2, f2⟩
  refine LV_pop dL_law_234 rfl ?_
  refine LV_goto (tgt := 762) dL_law_235 (by decide) ?_
  exact k _ _ (SC_fr hs1 f2) hs2
set_option maxRecDepth 100000 in
set_option maxHeartbeats 4000000 in
theorem lc_tree {G : Gb} {l : Launch} {b Ln : Nat} {xs : Nat → Int32} {i : Int} {w : Wd} {c : Int} {σ : SG} (hc : SC c σ w) (hm : SM c σ w) (hcc : c ≤ 100000) (h0 : 0 ≤ i) (h1 : i + 3 < (Ln : Int)) (k : ∀ (σ' : SG) (w' : Wd), SC (c + 1) σ' w' → SM (c + 1) σ' w' → LV G l b Ln xs 762 i [] w') : LV G l b Ln xs 238 i [] w := by
  refine LV_a1 dL_law_238 ?_
  refine LV_arg (d := 1) dL_law_239 dL_law_240 dL_law_241 dL_law_242 dL_law_243 (by omega) ?_
  refine LV_arg (d := 2) dL_law_244 dL_law_245 dL_law_246 dL_law_247 dL_law_248 (by omega) ?_
  refine LV_call (kk := 0) (ci := 4) (As := [.int (iZ (sx xs (i + 1))), .int (iZ (sx xs (i + 2)))]) (rest := []) dL_law_249 oL_X4_tree rfl rfl rfl rfl (Nat.le_of_ble_eq_true rfl) (c_X4_tree G l hc (sx_r xs _) (sx_r xs _)) ?_
  rintro z1 w1 ⟨e1, hs1, f1⟩
  refine LV_pop dL_law_252 rfl ?_
  refine LV_a2 dL_law_253 ?_
  refine LV_arg (d := 1) dL_law_254 dL_law_255 dL_law_256 dL_law_257 dL_law_258 (by omega) ?_
  refine LV_arg (d := 2) dL_law_259 dL_law_260 dL_law_261 dL_law_262 dL_law_263 (by omega) ?_
  refine LV_call (kk := 71) (ci := 5) (As := [.int (iZ (sx xs (i + 1))), .int (iZ (sx xs (i + 2)))]) (rest := []) dL_law_264 oL_X5_tree rfl rfl rfl rfl (Nat.le_of_ble_eq_true rfl) (c_X5_tree G l (SM_fr hm f1) (sx_r xs _) (sx_r xs _)) ?_
  rintro z2 w2 ⟨e2, hs2, f2⟩
  refine LV_pop dL_law_267 rfl ?_
  refine LV_goto (tgt := 762) dL_law_268 (by decide) ?_
  exact k _ _ (SC_fr hs1 f2) hs2
set_option maxRecDepth 100000 in
set_option maxHeartbeats 4000000 in
theorem lc_loan {G : Gb} {l : Launch} {b Ln : Nat} {xs : Nat → Int32} {i : Int} {w : Wd} {c : Int} {σ : SG} (hc : SC c σ w) (hm : SM c σ w) (hcc : c ≤ 100000) (h0 : 0 ≤ i) (h1 : i + 3 < (Ln : Int)) (k : ∀ (σ' : SG) (w' : Wd), SC (c + 1) σ' w' → SM (c + 1) σ' w' → LV G l b Ln xs 762 i [] w') : LV G l b Ln xs 271 i [] w := by
  refine LV_a1 dL_law_271 ?_
  refine LV_arg (d := 1) dL_law_272 dL_law_273 dL_law_274 dL_law_275 dL_law_276 (by omega) ?_
  refine LV_arg (d := 2) dL_law_277 dL_law_278 dL_law_279 dL_law_280 dL_law_281 (by omega) ?_
  refine LV_call (kk := 0) (ci := 4) (As := [.int (iZ (sx xs (i + 1))), .int (iZ (sx xs (i + 2)))]) (rest := []) dL_law_282 oL_X4_loan rfl rfl rfl rfl (Nat.le_of_ble_eq_true rfl) (c_X4_loan G l hc (sx_r xs _) (sx_r xs _)) ?_
  rintro z1 w1 ⟨e1, hs1, f1⟩
  refine LV_pop dL_law_285 rfl ?_
  refine LV_a2 dL_law_286 ?_
  refine LV_arg (d := 1) dL_law_287 dL_law_288 dL_law_289 dL_law_290 dL_law_291 (by omega) ?_
  refine LV_arg (d := 2) dL_law_292 dL_law_293 dL_law_294 dL_law_295 dL_law_296 (by omega) ?_
  refine LV_call (kk := 71) (ci := 5) (As := [.int (iZ (sx xs (i + 1))), .int (iZ (sx xs (i + 2)))]) (rest := []) dL_law_297 oL_X5_loan rfl rfl rfl rfl (Nat.le_of_ble_eq_true rfl) (c_X5_loan G l (SM_fr hm f1) (sx_r xs _) (sx_r xs _)) ?_
  rintro z2 w2 ⟨e2, hs2, f2⟩
  refine LV_pop dL_law_300 rfl ?_
  refine LV_goto (tgt := 762) dL_law_301 (by decide) ?_
  exact k _ _ (SC_fr hs1 f2) hs2
set_option maxRecDepth 100000 in
set_option maxHeartbeats 4000000 in
theorem lc_as {G : Gb} {l : Launch} {b Ln : Nat} {xs : Nat → Int32} {i : Int} {w : Wd} {c : Int} {σ : SG} (hc : SC c σ w) (hm : SM c σ w) (hcc : c ≤ 100000) (h0 : 0 ≤ i) (h1 : i + 3 < (Ln : Int)) (k : ∀ (σ' : SG) (w' : Wd), SC (c + 1) σ' w' → SM (c + 1) σ' w' → LV G l b Ln xs 762 i [] w') : LV G l b Ln xs 304 i [] w := by
  refine LV_a1 dL_law_304 ?_
  refine LV_arg (d := 1) dL_law_305 dL_law_306 dL_law_307 dL_law_308 dL_law_309 (by omega) ?_
  refine LV_arg (d := 2) dL_law_310 dL_law_311 dL_law_312 dL_law_313 dL_law_314 (by omega) ?_
  refine LV_call (kk := 0) (ci := 4) (As := [.int (iZ (sx xs (i + 1))), .int (iZ (sx xs (i + 2)))]) (rest := []) dL_law_315 oL_X4_as rfl rfl rfl rfl (Nat.le_of_ble_eq_true rfl) (c_X4_as G l hc (sx_r xs _) (sx_r xs _)) ?_
  rintro z1 w1 ⟨e1, hs1, f1⟩
  refine LV_pop dL_law_318 rfl ?_
  refine LV_a2 dL_law_319 ?_
  refine LV_arg (d := 1) dL_law_320 dL_law_321 dL_law_322 dL_law_323 dL_law_324 (by omega) ?_
  refine LV_arg (d := 2) dL_law_325 dL_law_326 dL_law_327 dL_law_328 dL_law_329 (by omega) ?_
  refine LV_call (kk := 71) (ci := 5) (As := [.int (iZ (sx xs (i + 1))), .int (iZ (sx xs (i + 2)))]) (rest := []) dL_law_330 oL_X5_as rfl rfl rfl rfl (Nat.le_of_ble_eq_true rfl) (c_X5_as G l (SM_fr hm f1) (sx_r xs _) (sx_r xs _)) ?_
  rintro z2 w2 ⟨e2, hs2, f2⟩
  refine LV_pop dL_law_333 rfl ?_
  refine LV_goto (tgt := 762) dL_law_334 (by decide) ?_
  exact k _ _ (SC_fr hs1 f2) hs2
set_option maxRecDepth 100000 in
set_option maxHeartbeats 4000000 in
theorem lc_borrow {G : Gb} {l : Launch} {b Ln : Nat} {xs : Nat → Int32} {i : Int} {w : Wd} {c : Int} {σ : SG} (hc : SC c σ w) (hm : SM c σ w) (hcc : c ≤ 100000) (h0 : 0 ≤ i) (h1 : i + 3 < (Ln : Int)) (k : ∀ (σ' : SG) (w' : Wd), SC (c + 1) σ' w' → SM (c + 1) σ' w' → LV G l b Ln xs 762 i [] w') : LV G l b Ln xs 337 i [] w := by
  refine LV_a1 dL_law_337 ?_
  refine LV_arg (d := 1) dL_law_338 dL_law_339 dL_law_340 dL_law_341 dL_law_342 (by omega) ?_
  refine LV_arg (d := 2) dL_law_343 dL_law_344 dL_law_345 dL_law_346 dL_law_347 (by omega) ?_
  refine LV_call (kk := 0) (ci := 4) (As := [.int (iZ (sx xs (i + 1))), .int (iZ (sx xs (i + 2)))]) (rest := []) dL_law_348 oL_X4_borrow rfl rfl rfl rfl (Nat.le_of_ble_eq_true rfl) (c_X4_borrow G l hc (sx_r xs _) (sx_r xs _)) ?_
  rintro z1 w1 ⟨e1, hs1, f1⟩
  refine LV_pop dL_law_351 rfl ?_
  refine LV_a2 dL_law_352 ?_
  refine LV_arg (d := 1) dL_law_353 dL_law_354 dL_law_355 dL_law_356 dL_law_357 (by omega) ?_
  refine LV_arg (d := 2) dL_law_358 dL_law_359 dL_law_360 dL_law_361 dL_law_362 (by omega) ?_
  refine LV_call (kk := 71) (ci := 5) (As := [.int (iZ (sx xs (i + 1))), .int (iZ (sx xs (i + 2)))]) (rest := []) dL_law_363 oL_X5_borrow rfl rfl rfl rfl (Nat.le_of_ble_eq_true rfl) (c_X5_borrow G l (SM_fr hm f1) (sx_r xs _) (sx_r xs _)) ?_
  rintro z2 w2 ⟨e2, hs2, f2⟩
  refine LV_pop dL_law_366 rfl ?_
  refine LV_goto (tgt := 762) dL_law_367 (by decide) ?_
  exact k _ _ (SC_fr hs1 f2) hs2
set_option maxRecDepth 100000 in
set_option maxHeartbeats 4000000 in
theorem lc_days {G : Gb} {l : Launch} {b Ln : Nat} {xs : Nat → Int32} {i : Int} {w : Wd} {c : Int} {σ : SG} (hc : SC c σ w) (hm : SM c σ w) (hcc : c ≤ 100000) (h0 : 0 ≤ i) (h1 : i + 3 < (Ln : Int)) (k : ∀ (σ' : SG) (w' : Wd), SC (c + 1) σ' w' → SM (c + 1) σ' w' → LV G l b Ln xs 762 i [] w') : LV G l b Ln xs 370 i [] w := by
  refine LV_a1 dL_law_370 ?_
  refine LV_arg (d := 1) dL_law_371 dL_law_372 dL_law_373 dL_law_374 dL_law_375 (by omega) ?_
  refine LV_call (kk := 0) (ci := 4) (As := [.int (iZ (sx xs (i + 1)))]) (rest := []) dL_law_376 oL_X4_days rfl rfl rfl rfl (Nat.le_of_ble_eq_true rfl) (c_X4_days G l hc (sx_r xs _)) ?_
  rintro z1 w1 ⟨e1, hs1, f1⟩
  refine LV_pop dL_law_379 rfl ?_
  refine LV_a2 dL_law_380 ?_
  refine LV_arg (d := 1) dL_law_381 dL_law_382 dL_law_383 dL_law_384 dL_law_385 (by omega) ?_
  refine LV_call (kk := 71) (ci := 5) (As := [.int (iZ (sx xs (i + 1)))]) (rest := []) dL_law_386 oL_X5_days rfl rfl rfl rfl (Nat.le_of_ble_eq_true rfl) (c_X5_days G l (SM_fr hm f1) (sx_r xs _)) ?_
  rintro z2 w2 ⟨e2, hs2, f2⟩
  refine LV_pop dL_law_389 rfl ?_
  refine LV_goto (tgt := 762) dL_law_390 (by decide) ?_
  exact k _ _ (SC_fr hs1 f2) hs2
set_option maxRecDepth 100000 in
set_option maxHeartbeats 4000000 in
theorem lc_fire {G : Gb} {l : Launch} {b Ln : Nat} {xs : Nat → Int32} {i : Int} {w : Wd} {c : Int} {σ : SG} (hc : SC c σ w) (hm : SM c σ w) (hcc : c ≤ 100000) (h0 : 0 ≤ i) (h1 : i + 3 < (Ln : Int)) (k : ∀ (σ' : SG) (w' : Wd), SC (c + 1) σ' w' → SM (c + 1) σ' w' → LV G l b Ln xs 762 i [] w') : LV G l b Ln xs 393 i [] w := by
  refine LV_a1 dL_law_393 ?_
  refine LV_arg (d := 1) dL_law_394 dL_law_395 dL_law_396 dL_law_397 dL_law_398 (by omega) ?_
  refine LV_call (kk := 0) (ci := 4) (As := [.int (iZ (sx xs (i + 1)))]) (rest := []) dL_law_399 oL_X4_fire rfl rfl rfl rfl (Nat.le_of_ble_eq_true rfl) (c_X4_fire G l hc (sx_r xs _)) ?_
  rintro z1 w1 ⟨e1, hs1, f1⟩
  refine LV_pop dL_law_402 rfl ?_
  refine LV_a2 dL_law_403 ?_
  refine LV_arg (d := 1) dL_law_404 dL_law_405 dL_law_406 dL_law_407 dL_law_408 (by omega) ?_
  refine LV_call (kk := 71) (ci := 5) (As := [.int (iZ (sx xs (i + 1)))]) (rest := []) dL_law_409 oL_X5_fire rfl rfl rfl rfl (Nat.le_of_ble_eq_true rfl) (c_X5_fire G l (SM_fr hm f1) (sx_r xs _)) ?_
  rintro z2 w2 ⟨e2, hs2, f2⟩
  refine LV_pop dL_law_412 rfl ?_
  refine LV_goto (tgt := 762) dL_law_413 (by decide) ?_
  exact k _ _ (SC_fr hs1 f2) hs2
set_option maxRecDepth 100000 in
set_option maxHeartbeats 4000000 in
theorem lc_sell {G : Gb} {l : Launch} {b Ln : Nat} {xs : Nat → Int32} {i : Int} {w : Wd} {c : Int} {σ : SG} (hc : SC c σ w) (hm : SM c σ w) (hcc : c ≤ 100000) (h0 : 0 ≤ i) (h1 : i + 3 < (Ln : Int)) (k : ∀ (σ' : SG) (w' : Wd), SC (c + 1) σ' w' → SM (c + 1) σ' w' → LV G l b Ln xs 762 i [] w') : LV G l b Ln xs 416 i [] w := by
  refine LV_a1 dL_law_416 ?_
  refine LV_arg (d := 1) dL_law_417 dL_law_418 dL_law_419 dL_law_420 dL_law_421 (by omega) ?_
  refine LV_arg (d := 2) dL_law_422 dL_law_423 dL_law_424 dL_law_425 dL_law_426 (by omega) ?_
  refine LV_call (kk := 0) (ci := 4) (As := [.int (iZ (sx xs (i + 1))), .int (iZ (sx xs (i + 2)))]) (rest := []) dL_law_427 oL_X4_sell rfl rfl rfl rfl (Nat.le_of_ble_eq_true rfl) (c_X4_sell G l hc (sx_r xs _) (sx_r xs _)) ?_
  rintro z1 w1 ⟨e1, hs1, f1⟩
  refine LV_pop dL_law_430 rfl ?_
  refine LV_a2 dL_law_431 ?_
  refine LV_arg (d := 1) dL_law_432 dL_law_433 dL_law_434 dL_law_435 dL_law_436 (by omega) ?_
  refine LV_arg (d := 2) dL_law_437 dL_law_438 dL_law_439 dL_law_440 dL_law_441 (by omega) ?_
  refine LV_call (kk := 71) (ci := 5) (As := [.int (iZ (sx xs (i + 1))), .int (iZ (sx xs (i + 2)))]) (rest := []) dL_law_442 oL_X5_sell rfl rfl rfl rfl (Nat.le_of_ble_eq_true rfl) (c_X5_sell G l (SM_fr hm f1) (sx_r xs _) (sx_r xs _)) ?_
  rintro z2 w2 ⟨e2, hs2, f2⟩
  refine LV_pop dL_law_445 rfl ?_
  refine LV_goto (tgt := 762) dL_law_446 (by decide) ?_
  exact k _ _ (SC_fr hs1 f2) hs2
set_option maxRecDepth 100000 in
set_option maxHeartbeats 4000000 in
theorem lc_keep {G : Gb} {l : Launch} {b Ln : Nat} {xs : Nat → Int32} {i : Int} {w : Wd} {c : Int} {σ : SG} (hc : SC c σ w) (hm : SM c σ w) (hcc : c ≤ 100000) (h0 : 0 ≤ i) (h1 : i + 3 < (Ln : Int)) (k : ∀ (σ' : SG) (w' : Wd), SC (c + 1) σ' w' → SM (c + 1) σ' w' → LV G l b Ln xs 762 i [] w') : LV G l b Ln xs 449 i [] w := by
  refine LV_a1 dL_law_449 ?_
  refine LV_arg (d := 1) dL_law_450 dL_law_451 dL_law_452 dL_law_453 dL_law_454 (by omega) ?_
  refine LV_call (kk := 0) (ci := 4) (As := [.int (iZ (sx xs (i + 1)))]) (rest := []) dL_law_455 oL_X4_keep rfl rfl rfl rfl (Nat.le_of_ble_eq_true rfl) (c_X4_keep G l hc (sx_r xs _)) ?_
  rintro z1 w1 ⟨e1, hs1, f1⟩
  refine LV_pop dL_law_458 rfl ?_
  refine LV_a2 dL_law_459 ?_
  refine LV_arg (d := 1) dL_law_460 dL_law_461 dL_law_462 dL_law_463 dL_law_464 (by omega) ?_
  refine LV_call (kk := 71) (ci := 5) (As := [.int (iZ (sx xs (i + 1)))]) (rest := []) dL_law_465 oL_X5_keep rfl rfl rfl rfl (Nat.le_of_ble_eq_true rfl) (c_X5_keep G l (SM_fr hm f1) (sx_r xs _)) ?_
  rintro z2 w2 ⟨e2, hs2, f2⟩
  refine LV_pop dL_law_468 rfl ?_
  refine LV_goto (tgt := 762) dL_law_469 (by decide) ?_
  exact k _ _ (SC_fr hs1 f2) hs2
set_option maxRecDepth 100000 in
set_option maxHeartbeats 4000000 in
theorem lc_back {G : Gb} {l : Launch} {b Ln : Nat} {xs : Nat → Int32} {i : Int} {w : Wd} {c : Int} {σ : SG} (hc : SC c σ w) (hm : SM c σ w) (hcc : c ≤ 100000) (h0 : 0 ≤ i) (h1 : i + 3 < (Ln : Int)) (k : ∀ (σ' : SG) (w' : Wd), SC (c + 1) σ' w' → SM (c + 1) σ' w' → LV G l b Ln xs 762 i [] w') : LV G l b Ln xs 472 i [] w := by
  refine LV_a1 dL_law_472 ?_
  refine LV_arg (d := 1) dL_law_473 dL_law_474 dL_law_475 dL_law_476 dL_law_477 (by omega) ?_
  refine LV_call (kk := 0) (ci := 4) (As := [.int (iZ (sx xs (i + 1)))]) (rest := []) dL_law_478 oL_X4_back rfl rfl rfl rfl (Nat.le_of_ble_eq_true rfl) (c_X4_back G l hc (sx_r xs _)) ?_
  rintro z1 w1 ⟨e1, hs1, f1⟩
  refine LV_pop dL_law_481 rfl ?_
  refine LV_a2 dL_law_482 ?_
  refine LV_arg (d := 1) dL_law_483 dL_law_484 dL_law_485 dL_law_486 dL_law_487 (by omega) ?_
  refine LV_call (kk := 71) (ci := 5) (As := [.int (iZ (sx xs (i + 1)))]) (rest := []) dL_law_488 oL_X5_back rfl rfl rfl rfl (Nat.le_of_ble_eq_true rfl) (c_X5_back G l (SM_fr hm f1) (sx_r xs _)) ?_
  rintro z2 w2 ⟨e2, hs2, f2⟩
  refine LV_pop dL_law_491 rfl ?_
  refine LV_goto (tgt := 762) dL_law_492 (by decide) ?_
  exact k _ _ (SC_fr hs1 f2) hs2
set_option maxRecDepth 100000 in
set_option maxHeartbeats 4000000 in
theorem lc_later {G : Gb} {l : Launch} {b Ln : Nat} {xs : Nat → Int32} {i : Int} {w : Wd} {c : Int} {σ : SG} (hc : SC c σ w) (hm : SM c σ w) (hcc : c ≤ 100000) (h0 : 0 ≤ i) (h1 : i + 3 < (Ln : Int)) (k : ∀ (σ' : SG) (w' : Wd), SC (c + 1) σ' w' → SM (c + 1) σ' w' → LV G l b Ln xs 762 i [] w') : LV G l b Ln xs 495 i [] w := by
  refine LV_a1 dL_law_495 ?_
  refine LV_arg (d := 1) dL_law_496 dL_law_497 dL_law_498 dL_law_499 dL_law_500 (by omega) ?_
  refine LV_arg (d := 2) dL_law_501 dL_law_502 dL_law_503 dL_law_504 dL_law_505 (by omega) ?_
  refine LV_call (kk := 0) (ci := 4) (As := [.int (iZ (sx xs (i + 1))), .int (iZ (sx xs (i + 2)))]) (rest := []) dL_law_506 oL_X4_later rfl rfl rfl rfl (Nat.le_of_ble_eq_true rfl) (c_X4_later G l hc (sx_r xs _) (sx_r xs _)) ?_
  rintro z1 w1 ⟨e1, hs1, f1⟩
  refine LV_pop dL_law_509 rfl ?_
  refine LV_a2 dL_law_510 ?_
  refine LV_arg (d := 1) dL_law_511 dL_law_512 dL_law_513 dL_law_514 dL_law_515 (by omega) ?_
  refine LV_arg (d := 2) dL_law_516 dL_law_517 dL_law_518 dL_law_519 dL_law_520 (by omega) ?_
  refine LV_call (kk := 71) (ci := 5) (As := [.int (iZ (sx xs (i + 1))), .int (iZ (sx xs (i + 2)))]) (rest := []) dL_law_521 oL_X5_later rfl rfl rfl rfl (Nat.le_of_ble_eq_true rfl) (c_X5_later G l (SM_fr hm f1) (sx_r xs _) (sx_r xs _)) ?_
  rintro z2 w2 ⟨e2, hs2, f2⟩
  refine LV_pop dL_law_524 rfl ?_
  refine LV_goto (tgt := 762) dL_law_525 (by decide) ?_
  exact k _ _ (SC_fr hs1 f2) hs2
set_option maxRecDepth 100000 in
set_option maxHeartbeats 4000000 in
theorem lc_all {G : Gb} {l : Launch} {b Ln : Nat} {xs : Nat → Int32} {i : Int} {w : Wd} {c : Int} {σ : SG} (hc : SC c σ w) (hm : SM c σ w) (hcc : c ≤ 100000) (h0 : 0 ≤ i) (h1 : i + 3 < (Ln : Int)) (k : ∀ (σ' : SG) (w' : Wd), SC (c + 1) σ' w' → SM (c + 1) σ' w' → LV G l b Ln xs 762 i [] w') : LV G l b Ln xs 528 i [] w := by
  refine LV_a1 dL_law_528 ?_
  refine LV_arg (d := 1) dL_law_529 dL_law_530 dL_law_531 dL_law_532 dL_law_533 (by omega) ?_
  refine LV_arg (d := 2) dL_law_534 dL_law_535 dL_law_536 dL_law_537 dL_law_538 (by omega) ?_
  refine LV_call (kk := 0) (ci := 4) (As := [.int (iZ (sx xs (i + 1))), .int (iZ (sx xs (i + 2)))]) (rest := []) dL_law_539 oL_X4_all rfl rfl rfl rfl (Nat.le_of_ble_eq_true rfl) (c_X4_all G l hc (sx_r xs _) (sx_r xs _)) ?_
  rintro z1 w1 ⟨e1, hs1, f1⟩
  refine LV_pop dL_law_542 rfl ?_
  refine LV_a2 dL_law_543 ?_
  refine LV_arg (d := 1) dL_law_544 dL_law_545 dL_law_546 dL_law_547 dL_law_548 (by omega) ?_
  refine LV_arg (d := 2) dL_law_549 dL_law_550 dL_law_551 dL_law_552 dL_law_553 (by omega) ?_
  refine LV_call (kk := 71) (ci := 5) (As := [.int (iZ (sx xs (i + 1))), .int (iZ (sx xs (i + 2)))]) (rest := []) dL_law_554 oL_X5_all rfl rfl rfl rfl (Nat.le_of_ble_eq_true rfl) (c_X5_all G l (SM_fr hm f1) (sx_r xs _) (sx_r xs _)) ?_
  rintro z2 w2 ⟨e2, hs2, f2⟩
  refine LV_pop dL_law_557 rfl ?_
  refine LV_goto (tgt := 762) dL_law_558 (by decide) ?_
  exact k _ _ (SC_fr hs1 f2) hs2
set_option maxRecDepth 100000 in
set_option maxHeartbeats 4000000 in
theorem lc_clear {G : Gb} {l : Launch} {b Ln : Nat} {xs : Nat → Int32} {i : Int} {w : Wd} {c : Int} {σ : SG} (hc : SC c σ w) (hm : SM c σ w) (hcc : c ≤ 100000) (h0 : 0 ≤ i) (h1 : i + 3 < (Ln : Int)) (k : ∀ (σ' : SG) (w' : Wd), SC (c + 1) σ' w' → SM (c + 1) σ' w' → LV G l b Ln xs 762 i [] w') : LV G l b Ln xs 561 i [] w := by
  refine LV_a1 dL_law_561 ?_
  refine LV_call (kk := 0) (ci := 4) (As := []) (rest := []) dL_law_562 oL_X4_clear rfl rfl rfl rfl (Nat.le_of_ble_eq_true rfl) (c_X4_clear G l hc) ?_
  rintro z1 w1 ⟨e1, hs1, f1⟩
  refine LV_pop dL_law_565 rfl ?_
  refine LV_a2 dL_law_566 ?_
  refine LV_call (kk := 71) (ci := 5) (As := []) (rest := []) dL_law_567 oL_X5_clear rfl rfl rfl rfl (Nat.le_of_ble_eq_true rfl) (c_X5_clear G l (SM_fr hm f1)) ?_
  rintro z2 w2 ⟨e2, hs2, f2⟩
  refine LV_pop dL_law_570 rfl ?_
  refine LV_goto (tgt := 762) dL_law_571 (by decide) ?_
  exact k _ _ (SC_fr hs1 f2) hs2
set_option maxRecDepth 100000 in
set_option maxHeartbeats 4000000 in
theorem lc_hut {G : Gb} {l : Launch} {b Ln : Nat} {xs : Nat → Int32} {i : Int} {w : Wd} {c : Int} {σ : SG} (hc : SC c σ w) (hm : SM c σ w) (hcc : c ≤ 100000) (h0 : 0 ≤ i) (h1 : i + 3 < (Ln : Int)) (k : ∀ (σ' : SG) (w' : Wd), SC (c + 1) σ' w' → SM (c + 1) σ' w' → LV G l b Ln xs 762 i [] w') : LV G l b Ln xs 574 i [] w := by
  refine LV_a1 dL_law_574 ?_
  refine LV_arg (d := 1) dL_law_575 dL_law_576 dL_law_577 dL_law_578 dL_law_579 (by omega) ?_
  refine LV_arg (d := 2) dL_law_580 dL_law_581 dL_law_582 dL_law_583 dL_law_584 (by omega) ?_
  refine LV_arg (d := 3) dL_law_585 dL_law_586 dL_law_587 dL_law_588 dL_law_589 (by omega) ?_
  refine LV_call (kk := 0) (ci := 4) (As := [.int (iZ (sx xs (i + 1))), .int (iZ (sx xs (i + 2))), .int (iZ (sx xs (i + 3)))]) (rest := []) dL_law_590 oL_X4_hut rfl rfl rfl rfl (Nat.le_of_ble_eq_true rfl) (c_X4_hut G l hc (sx_r xs _) (sx_r xs _) (sx_r xs _)) ?_
  rintro z1 w1 ⟨hs1, f1⟩
  refine LV_pop dL_law_593 rfl ?_
  refine LV_a2 dL_law_594 ?_
  refine LV_arg (d := 1) dL_law_595 dL_law_596 dL_law_597 dL_law_598 dL_law_599 (by omega) ?_
  refine LV_arg (d := 2) dL_law_600 dL_law_601 dL_law_602 dL_law_603 dL_law_604 (by omega) ?_
  refine LV_arg (d := 3) dL_law_605 dL_law_606 dL_law_607 dL_law_608 dL_law_609 (by omega) ?_
  refine LV_call (kk := 71) (ci := 5) (As := [.int (iZ (sx xs (i + 1))), .int (iZ (sx xs (i + 2))), .int (iZ (sx xs (i + 3)))]) (rest := []) dL_law_610 oL_X5_hut rfl rfl rfl rfl (Nat.le_of_ble_eq_true rfl) (c_X5_hut G l (SM_fr hm f1) (sx_r xs _) (sx_r xs _) (sx_r xs _)) ?_
  rintro z2 w2 ⟨hs2, f2⟩
  refine LV_pop dL_law_613 rfl ?_
  refine LV_goto (tgt := 762) dL_law_614 (by decide) ?_
  exact k _ _ (SC_fr hs1 f2) hs2
set_option maxRecDepth 100000 in
set_option maxHeartbeats 4000000 in
theorem lc_enough {G : Gb} {l : Launch} {b Ln : Nat} {xs : Nat → Int32} {i : Int} {w : Wd} {c : Int} {σ : SG} (hc : SC c σ w) (hm : SM c σ w) (hcc : c ≤ 100000) (h0 : 0 ≤ i) (h1 : i + 3 < (Ln : Int)) (k : ∀ (σ' : SG) (w' : Wd), SC (c + 1) σ' w' → SM (c + 1) σ' w' → LV G l b Ln xs 762 i [] w') : LV G l b Ln xs 617 i [] w := by
  refine LV_a1 dL_law_617 ?_
  refine LV_arg (d := 1) dL_law_618 dL_law_619 dL_law_620 dL_law_621 dL_law_622 (by omega) ?_
  refine LV_call (kk := 0) (ci := 4) (As := [.int (iZ (sx xs (i + 1)))]) (rest := []) dL_law_623 oL_X4_enough rfl rfl rfl rfl (Nat.le_of_ble_eq_true rfl) (c_X4_enough G l hc hcc (sx_r xs _)) ?_
  rintro z1 w1 ⟨e1, hs1, f1⟩
  refine LV_pop dL_law_626 rfl ?_
  refine LV_a2 dL_law_627 ?_
  refine LV_arg (d := 1) dL_law_628 dL_law_629 dL_law_630 dL_law_631 dL_law_632 (by omega) ?_
  refine LV_call (kk := 71) (ci := 5) (As := [.int (iZ (sx xs (i + 1)))]) (rest := []) dL_law_633 oL_X5_enough rfl rfl rfl rfl (Nat.le_of_ble_eq_true rfl) (c_X5_enough G l (SM_fr hm f1) hcc (sx_r xs _)) ?_
  rintro z2 w2 ⟨e2, hs2, f2⟩
  refine LV_pop dL_law_636 rfl ?_
  refine LV_goto (tgt := 762) dL_law_637 (by decide) ?_
  exact k _ _ (SC_fr hs1 f2) hs2
set_option maxRecDepth 100000 in
set_option maxHeartbeats 4000000 in
theorem lc_rid {G : Gb} {l : Launch} {b Ln : Nat} {xs : Nat → Int32} {i : Int} {w : Wd} {c : Int} {σ : SG} (hc : SC c σ w) (hm : SM c σ w) (hcc : c ≤ 100000) (h0 : 0 ≤ i) (h1 : i + 3 < (Ln : Int)) (k : ∀ (σ' : SG) (w' : Wd), SC (c + 1) σ' w' → SM (c + 1) σ' w' → LV G l b Ln xs 762 i [] w') : LV G l b Ln xs 640 i [] w := by
  refine LV_a1 dL_law_640 ?_
  refine LV_arg (d := 1) dL_law_641 dL_law_642 dL_law_643 dL_law_644 dL_law_645 (by omega) ?_
  refine LV_arg (d := 2) dL_law_646 dL_law_647 dL_law_648 dL_law_649 dL_law_650 (by omega) ?_
  refine LV_call (kk := 0) (ci := 4) (As := [.int (iZ (sx xs (i + 1))), .int (iZ (sx xs (i + 2)))]) (rest := []) dL_law_651 oL_X4_rid rfl rfl rfl rfl (Nat.le_of_ble_eq_true rfl) (c_X4_rid G l hc (sx_r xs _) (sx_r xs _)) ?_
  rintro z1 w1 ⟨e1, hs1, f1⟩
  refine LV_pop dL_law_654 rfl ?_
  refine LV_a2 dL_law_655 ?_
  refine LV_arg (d := 1) dL_law_656 dL_law_657 dL_law_658 dL_law_659 dL_law_660 (by omega) ?_
  refine LV_arg (d := 2) dL_law_661 dL_law_662 dL_law_663 dL_law_664 dL_law_665 (by omega) ?_
  refine LV_call (kk := 71) (ci := 5) (As := [.int (iZ (sx xs (i + 1))), .int (iZ (sx xs (i + 2)))]) (rest := []) dL_law_666 oL_X5_rid rfl rfl rfl rfl (Nat.le_of_ble_eq_true rfl) (c_X5_rid G l (SM_fr hm f1) (sx_r xs _) (sx_r xs _)) ?_
  rintro z2 w2 ⟨e2, hs2, f2⟩
  refine LV_pop dL_law_669 rfl ?_
  refine LV_goto (tgt := 762) dL_law_670 (by decide) ?_
  exact k _ _ (SC_fr hs1 f2) hs2
set_option maxRecDepth 100000 in
set_option maxHeartbeats 4000000 in
theorem lc_grandson {G : Gb} {l : Launch} {b Ln : Nat} {xs : Nat → Int32} {i : Int} {w : Wd} {c : Int} {σ : SG} (hc : SC c σ w) (hm : SM c σ w) (hcc : c ≤ 100000) (h0 : 0 ≤ i) (h1 : i + 3 < (Ln : Int)) (k : ∀ (σ' : SG) (w' : Wd), SC (c + 1) σ' w' → SM (c + 1) σ' w' → LV G l b Ln xs 762 i [] w') : LV G l b Ln xs 673 i [] w := by
  refine LV_a1 dL_law_673 ?_
  refine LV_arg (d := 1) dL_law_674 dL_law_675 dL_law_676 dL_law_677 dL_law_678 (by omega) ?_
  refine LV_call (kk := 0) (ci := 4) (As := [.int (iZ (sx xs (i + 1)))]) (rest := []) dL_law_679 oL_X4_grandson rfl rfl rfl rfl (Nat.le_of_ble_eq_true rfl) (c_X4_grandson G l hc (sx_r xs _)) ?_
  rintro z1 w1 ⟨e1, hs1, f1⟩
  refine LV_pop dL_law_682 rfl ?_
  refine LV_a2 dL_law_683 ?_
  refine LV_arg (d := 1) dL_law_684 dL_law_685 dL_law_686 dL_law_687 dL_law_688 (by omega) ?_
  refine LV_call (kk := 71) (ci := 5) (As := [.int (iZ (sx xs (i + 1)))]) (rest := []) dL_law_689 oL_X5_grandson rfl rfl rfl rfl (Nat.le_of_ble_eq_true rfl) (c_X5_grandson G l (SM_fr hm f1) (sx_r xs _)) ?_
  rintro z2 w2 ⟨e2, hs2, f2⟩
  refine LV_pop dL_law_692 rfl ?_
  refine LV_goto (tgt := 762) dL_law_693 (by decide) ?_
  exact k _ _ (SC_fr hs1 f2) hs2
set_option maxRecDepth 100000 in
set_option maxHeartbeats 4000000 in
theorem lc_toWhom {G : Gb} {l : Launch} {b Ln : Nat} {xs : Nat → Int32} {i : Int} {w : Wd} {c : Int} {σ : SG} (hc : SC c σ w) (hm : SM c σ w) (hcc : c ≤ 100000) (h0 : 0 ≤ i) (h1 : i + 3 < (Ln : Int)) (k : ∀ (σ' : SG) (w' : Wd), SC (c + 1) σ' w' → SM (c + 1) σ' w' → LV G l b Ln xs 762 i [] w') : LV G l b Ln xs 696 i [] w := by
  refine LV_a1 dL_law_696 ?_
  refine LV_arg (d := 1) dL_law_697 dL_law_698 dL_law_699 dL_law_700 dL_law_701 (by omega) ?_
  refine LV_arg (d := 2) dL_law_702 dL_law_703 dL_law_704 dL_law_705 dL_law_706 (by omega) ?_
  refine LV_arg (d := 3) dL_law_707 dL_law_708 dL_law_709 dL_law_710 dL_law_711 (by omega) ?_
  refine LV_call (kk := 0) (ci := 4) (As := [.int (iZ (sx xs (i + 1))), .int (iZ (sx xs (i + 2))), .int (iZ (sx xs (i + 3)))]) (rest := []) dL_law_712 oL_X4_toWhom rfl rfl rfl rfl (Nat.le_of_ble_eq_true rfl) (c_X4_toWhom G l hc (sx_r xs _) (sx_r xs _) (sx_r xs _)) ?_
  rintro z1 w1 ⟨e1, hs1, f1⟩
  refine LV_pop dL_law_715 rfl ?_
  refine LV_a2 dL_law_716 ?_
  refine LV_arg (d := 1) dL_law_717 dL_law_718 dL_law_719 dL_law_720 dL_law_721 (by omega) ?_
  refine LV_arg (d := 2) dL_law_722 dL_law_723 dL_law_724 dL_law_725 dL_law_726 (by omega) ?_
  refine LV_arg (d := 3) dL_law_727 dL_law_728 dL_law_729 dL_law_730 dL_law_731 (by omega) ?_
  refine LV_call (kk := 71) (ci := 5) (As := [.int (iZ (sx xs (i + 1))), .int (iZ (sx xs (i + 2))), .int (iZ (sx xs (i + 3)))]) (rest := []) dL_law_732 oL_X5_toWhom rfl rfl rfl rfl (Nat.le_of_ble_eq_true rfl) (c_X5_toWhom G l (SM_fr hm f1) (sx_r xs _) (sx_r xs _) (sx_r xs _)) ?_
  rintro z2 w2 ⟨e2, hs2, f2⟩
  refine LV_pop dL_law_735 rfl ?_
  refine LV_goto (tgt := 762) dL_law_736 (by decide) ?_
  exact k _ _ (SC_fr hs1 f2) hs2
set_option maxRecDepth 100000 in
set_option maxHeartbeats 4000000 in
theorem lc_count {G : Gb} {l : Launch} {b Ln : Nat} {xs : Nat → Int32} {i : Int} {w : Wd} {c : Int} {σ : SG} (hc : SC c σ w) (hm : SM c σ w) (hcc : c ≤ 100000) (h0 : 0 ≤ i) (h1 : i + 3 < (Ln : Int)) (k : ∀ (σ' : SG) (w' : Wd), SC (c + 1) σ' w' → SM (c + 1) σ' w' → LV G l b Ln xs 762 i [] w') : LV G l b Ln xs 739 i [] w := by
  refine LV_a1 dL_law_739 ?_
  refine LV_arg (d := 1) dL_law_740 dL_law_741 dL_law_742 dL_law_743 dL_law_744 (by omega) ?_
  refine LV_call (kk := 0) (ci := 4) (As := [.int (iZ (sx xs (i + 1)))]) (rest := []) dL_law_745 oL_X4_count rfl rfl rfl rfl (Nat.le_of_ble_eq_true rfl) (c_X4_count G l hc (sx_r xs _)) ?_
  rintro z1 w1 ⟨e1, hs1, f1⟩
  refine LV_a2 dL_law_748 ?_
  refine LV_arg (d := 1) dL_law_749 dL_law_750 dL_law_751 dL_law_752 dL_law_753 (by omega) ?_
  refine LV_call (kk := 71) (ci := 5) (As := [.int (iZ (sx xs (i + 1)))]) (rest := [.int (iZ z1)]) dL_law_754 oL_X5_count rfl rfl rfl rfl (Nat.le_of_ble_eq_true rfl) (c_X5_count G l (SM_fr hm f1) (sx_r xs _)) ?_
  rintro z2 w2 ⟨e2, hs2, f2⟩
  refine LV_eq (tgt := 762) dL_law_757 (by decide) (e1.trans e2.symm) ?_
  exact k _ _ (SC_fr hs1 f2) hs2

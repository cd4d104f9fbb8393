/-! ===== 87 the law, from its entry ===== -/
theorem df_X4 : ∀ j, j < 7 → defaultValue (tyX4 j) = vp_V [.null, .null, .null, .null, .null, .null, .null] j := fun j hj => by rcases (show j = 0 ∨ j = 1 ∨ j = 2 ∨ j = 3 ∨ j = 4 ∨ j = 5 ∨ j = 6 by omega) with rfl | rfl | rfl | rfl | rfl | rfl | rfl <;> rfl
theorem df_X5 : ∀ j, j < 21 → defaultValue (tyX5 j) = vp_V [.null, .null, .null, .int 0, .null, .int 0, .null, .null, .null, .null, .int 0, .null, .int 0, .int 0, .int 0, .int 0, .int 0, .int 0, .int 0, .null, .null] j := fun j hj => by rcases (show j = 0 ∨ j = 1 ∨ j = 2 ∨ j = 3 ∨ j = 4 ∨ j = 5 ∨ j = 6 ∨ j = 7 ∨ j = 8 ∨ j = 9 ∨ j = 10 ∨ j = 11 ∨ j = 12 ∨ j = 13 ∨ j = 14 ∨ j = 15 ∨ j = 16 ∨ j = 17 ∨ j = 18 ∨ j = 19 ∨ j = 20 by omega) with rfl | rfl | rfl | rfl | rfl | rfl | rfl | rfl | rfl | rfl | rfl | rfl | rfl | rfl | rfl | rfl | rfl | rfl | rfl | rfl | rfl <;> rfl
theorem lm_cX4 : Cond.classLink RL 7 RX4 ∈ wsL_law := by decide +kernel
theorem lm_iX4 : Cond.instantiable RX4 7 ∈ wsL_law := by decide +kernel
theorem lm_nX4 : Cond.initialized RX4 ∈ wsL_law := by decide +kernel
theorem lm_mX4 : Cond.methodLink RL 9 yX4_init ∈ wsL_law := by decide +kernel
theorem lm_oX4 : Cond.instanceMethod yX4_init ∈ wsL_law := by decide +kernel
theorem lm_cX5 : Cond.classLink RL 10 RX5 ∈ wsL_law := by decide +kernel
theorem lm_iX5 : Cond.instantiable RX5 21 ∈ wsL_law := by decide +kernel
theorem lm_nX5 : Cond.initialized RX5 ∈ wsL_law := by decide +kernel
theorem lm_mX5 : Cond.methodLink RL 12 yX5_init ∈ wsL_law := by decide +kernel
theorem lm_oX5 : Cond.instanceMethod yX5_init ∈ wsL_law := by decide +kernel
theorem lw_lvL {G : Gb} {b a1 a2 : Nat} {ls : Array Slot} (h : lv_has ls 4 [(3, .int 0), (2, .ref a2), (1, .ref a1), (0, .ref b)]) (e1 : gA G 0 = a1) (e2 : gA G 71 = a2) : lvL ls 4 (lwL G b 0) := by
  refine ⟨h.1, h.2.1, fun i v hi => ?_⟩
  match i, hi with
  | 0, hi => cases hi; exact h.2.2 (0, .ref b) (by simp)
  | 1, hi => cases hi; rw [e1]; exact h.2.2 (1, .ref a1) (by simp)
  | 2, hi => cases hi; rw [e2]; exact h.2.2 (2, .ref a2) (by simp)
  | 3, hi => cases hi; exact h.2.2 (3, .int 0) (by simp)
  | n + 4, hi => cases hi
set_option maxRecDepth 100000 in
set_option maxHeartbeats 4000000 in
theorem whole_start {p : Program} {e : Env} {s : State} {m : MethodId} {below : List Frame} {meth : Method} {c : Code} (l : Launch) (hflags : l.flags = flags0) {b L : Nat} {xs : Nat → Int32} (hL : L ≤ 2048) (C0 : lw_At p s m meth c b L xs) : W p l e room_1 s m #[Value.ref b] below meth c s.heap [] 0 0 (lw_Z below #[Value.ref b] s) (entryFrame m ([Value.ref b] : List Value).toArray 4) := by
  obtain ⟨hx, hb, hr, hml, hown, hts, hX, hbl, hlo, hgv⟩ := C0
  obtain ⟨D, C, hB⟩ := tab_start hts
  obtain ⟨K, Vv, O, hG⟩ := gl_start hts hgv hB
  have hw : ∀ x ∈ wsL_law, x.before #[Value.ref b] s = true := fun x h => hts x (wsL_law_in x h)
  have hown : s.vm.findClass RL = some m.cls := hown
  have hC : LC (D, gAt s.heap.size, C, K, Vv, O) b L xs p s m meth c := ⟨hx, hb, hr, hml, hown, hw, hlo, ⟨hX, hbl⟩, hG, by
    rintro q ⟨k, -, rfl⟩
    exact Nat.le_add_right _ _, hL⟩
  have hls := lv_entry ([.ref b]) (n := 4) (Nat.le_of_ble_eq_true rfl)
  rw [lg_entry_eq]
  generalize (lg_sl ([.ref b]) ++ List.replicate (4 - (lg_sl ([.ref b])).length) Slot.unset).toArray = ls at hls ⊢
  have hls : lv_has ls 4 [(0, .ref b)] := hls
  have hS0 : va_S (fun q : Nat => s.heap.size ≤ q) s.heap s.heap [] := va_S.rf
  have hA : ∀ q : Nat, s.heap.size ≤ q → s.heap.size ≤ q := fun q h => h
  have hP0 : va_P D vwCl [] s.heap := fun k q hk => by cases hk
  have hD0 : va_D (fun q : Nat => s.heap.size ≤ q) [] := ⟨(fun i j p q hi => by cases hi), (fun k q hk => by cases hk)⟩
  clear hts hgv hX hbl hG hlo hr
  refine nwObj (cw := xxW C) (mc := 70) (ms := 2068) (h := s.heap.size) hx hb hw inlX4 tyX4 tyX4_ok hown (hw _ lm_cX4) (hw _ lm_iX4) (hw _ lm_nX4) hB hP0 hD0 hS0 hA rfl (fs := [.null, .null, .null, .null, .null, .null, .null]) df_X4 (show 0 + 1 ≤ 600000 by omega) (show 0 + 7 ≤ 7302250 by omega) rfl dL_law_0 dL_law_3 (fun H1 z1 hPo => va_runI (As := []) (rest := [.ref (s.heap.size)]) ⟨hx, hb, hml, hown, hw⟩ (n_X4 l D C (s.heap.size)) (cwI 0 hw gL_law_X4_init rfl rfl rfl (hw _ lm_nX4) (hw _ lm_mX4) (hw _ lm_oX4) rfl (by decide +kernel) ⟨Nat.le_of_ble_eq_true rfl, Nat.le_of_ble_eq_true rfl⟩) ⟨nm_blind _ _ _ _ _, fun U hU hW => ⟨rfl, hB.next hW, by rw [hU]; exact z1, by rw [hU]; exact hPo⟩⟩ rfl rfl hls.1 rfl (lv_room (Nat.le_of_ble_eq_true rfl)) dL_law_4 ⟨show 0 + 1 + 70 ≤ 600000 by omega, show 0 + 7 + 2068 ≤ 7302250 by omega⟩) (fun H4 locs4 z4 hP4 hD4 hS4 => ?_)
  refine W.widen (k := 71) (n := 2075) (by omega) (by omega) ?_
  clear hP0 hD0 hS0
  refine lv_astore_n hx hb dL_law_7 rfl hls (by decide) rfl (fun ls1 hls1 => ?_)
  have hls1 : lv_has ls1 4 [(1, .ref s.heap.size), (0, .ref b)] := hls1
  refine nwObj (cw := moW C) (mc := 11) (ms := 1961) (h := s.heap.size + 71) hx hb hw inlX5 tyX5 tyX5_ok hown (hw _ lm_cX5) (hw _ lm_iX5) (hw _ lm_nX5) hB hP4 hD4 hS4 hA rfl (fs := [.null, .null, .null, .int 0, .null, .int 0, .null, .null, .null, .null, .int 0, .null, .int 0, .int 0, .int 0, .int 0, .int 0, .int 0, .int 0, .null, .null]) df_X5 (show 71 + 1 ≤ 600000 by omega) (show 2075 + 21 ≤ 7302250 by omega) (by omega) dL_law_8 dL_law_11 (fun H1 z1 hPo => va_runI (As := []) (rest := [.ref (s.heap.size + 71)]) ⟨hx, hb, hml, hown, hw⟩ (n_X5 l D C (s.heap.size + 71)) (cwI 0 hw gL_law_X5_init rfl rfl rfl (hw _ lm_nX5) (hw _ lm_mX5) (hw _ lm_oX5) rfl (by decide +kernel) ⟨Nat.le_of_ble_eq_true rfl, Nat.le_of_ble_eq_true rfl⟩) ⟨nm_blind _ _ _ _ _, fun U hU hW => ⟨rfl, hB.next hW, by rw [hU]; exact z1, by rw [hU]; exact hPo⟩⟩ rfl rfl hls1.1 rfl (lv_room (Nat.le_of_ble_eq_true rfl)) dL_law_12 ⟨show 71 + 1 + 11 ≤ 600000 by omega, show 2075 + 21 + 1961 ≤ 7302250 by omega⟩) (fun H5 locs5 z5 hP5 hD5 hS5 => ?_)
  refine W.widen (k := 600000) (n := 7302250) (by omega) (by omega) ?_
  clear hP4 hD4 hS4
  refine lv_astore_n hx hb dL_law_15 rfl hls1 (by decide) rfl (fun ls2 hls2 => ?_)
  have hls2 : lv_has ls2 4 [(2, .ref (s.heap.size + 71)), (1, .ref s.heap.size), (0, .ref b)] := hls2
  refine lv_iconst hx hb dL_law_16 rfl ?_
  refine lv_istore_n hx hb dL_law_17 rfl hls2 (by decide) rfl (fun ls3 hls3 => ?_)
  have hls3 : lv_has ls3 4 [(3, .int 0), (2, .ref (s.heap.size + 71)), (1, .ref s.heap.size), (0, .ref b)] := hls3
  exact lw_loop hL 600 0 0 sg0 w00 (by omega) (by omega) (by omega) (by omega) SC_0 SM_0 p e s m below meth c H5 locs5 ls3 hC (as_P hP5) hS5 (lw_lvL hls3 rfl rfl)

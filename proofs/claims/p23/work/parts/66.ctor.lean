/-! ===== 66 the constructors of Text, HutPlan ===== -/
theorem df_X0 : ∀ j, j < 5 → defaultValue (tyX0 j) = vp_V [.null, .null, .null, .null, .int 0] j := fun j hj => by rcases (show j = 0 ∨ j = 1 ∨ j = 2 ∨ j = 3 ∨ j = 4 by omega) with rfl | rfl | rfl | rfl | rfl <;> rfl
theorem df_X1 : ∀ j, j < 10 → defaultValue (tyX1 j) = vp_V [.int 0, .null, .null, .int 0, .null, .null, .null, .null, .null, .int 0] j := fun j hj => by rcases (show j = 0 ∨ j = 1 ∨ j = 2 ∨ j = 3 ∨ j = 4 ∨ j = 5 ∨ j = 6 ∨ j = 7 ∨ j = 8 ∨ j = 9 by omega) with rfl | rfl | rfl | rfl | rfl | rfl | rfl | rfl | rfl | rfl <;> rfl
theorem df_X2 : ∀ j, j < 8 → defaultValue (tyX2 j) = vp_V [.null, .int 0, .null, .int 0, .int 0, .int 0, .int 0, .int 0] j := fun j hj => by rcases (show j = 0 ∨ j = 1 ∨ j = 2 ∨ j = 3 ∨ j = 4 ∨ j = 5 ∨ j = 6 ∨ j = 7 by omega) with rfl | rfl | rfl | rfl | rfl | rfl | rfl | rfl <;> rfl
theorem df_X3 : ∀ j, j < 10 → defaultValue (tyX3 j) = vp_V [.int 0, .null, .null, .null, .null, .null, .int 0, .null, .null, .int 0] j := fun j hj => by rcases (show j = 0 ∨ j = 1 ∨ j = 2 ∨ j = 3 ∨ j = 4 ∨ j = 5 ∨ j = 6 ∨ j = 7 ∨ j = 8 ∨ j = 9 by omega) with rfl | rfl | rfl | rfl | rfl | rfl | rfl | rfl | rfl | rfl <;> rfl
theorem in_X2_init_X2 : ∀ x ∈ u_ws RX2 TX2 8, x ∈ wsX2_init := by decide +kernel
theorem in_X2_init_X3 : ∀ x ∈ u_ws RX3 TX3 10, x ∈ wsX2_init := by decide +kernel
set_option maxRecDepth 100000 in
set_option maxHeartbeats 4000000 in
theorem n_X2 (l : Launch) (D : va_G) (C : Nat → ClassId) : NM l D C yX2_init wsX2_init { frames := 2, cells := 9, slots := 252, locals := 32 } 2 [.null, .int 0, .null, .int 0, .int 0, .int 0, .int 0, .int 0] (txW C) 9 252 := by
  refine nm_start (own := RX2) (cc := cX2_init) (by decide) rfl rfl rfl ?_
  intro p e s m args below meth c ls a hx hb hr hml hown hts hlk hname hB hsz0 hP hls
  have hD : va_D (fun q => a ≤ q) [(a, .inr (2, [.null, .int 0, .null, .int 0, .int 0, .int 0, .int 0, .int 0]))] := nd_one
  have hS : va_S (fun q => a ≤ q) s.heap s.heap [] := va_S.rf
  have hA : ∀ q, s.heap.size ≤ q → a ≤ q := fun q h => by omega
  have hsz : s.heap.size = s.heap.size + 0 := rfl
  refine lv_aload_n hx hb dX2_init_0 rfl (lv_at hls 0 rfl) ?_
  refine W.objInit hx hb hown (hts _ (List.mem_of_getElem? (i := 1) rfl)) (hts _ (List.mem_of_getElem? (i := 2) rfl)) (hts _ (List.mem_of_getElem? (i := 3) rfl)) rfl (by rw [hml]; exact hls.1) rfl dX2_init_1 (Nat.le_of_ble_eq_true rfl) (Nat.le_of_ble_eq_true rfl) ?_
  refine W.eq (g2 := F0 m 4 ls []) rfl ?_
  refine lv_aload_n hx hb dX2_init_4 rfl (lv_at hls 0 rfl) ?_
  refine lv_sipush (v := 200) hx hb dX2_init_5 (by decide +kernel) ?_
  refine nwI (N := 200) (h := a + 1) hx hb (hts _ (List.mem_of_getElem? (i := 4) rfl)) hB hP hD hS hA (by decide +kernel) (by decide +kernel) (by omega) (show 0 + 1 ≤ 9 by omega) (show 0 + 200 ≤ 252 by omega) (by omega) dX2_init_8 (fun H9 hsz9 hP9 hD9 hS9 => ?_)
  refine W.widen (k := 1) (n := 200) (by omega) (by omega) ?_
  clear hP hD hS hsz
  have hP : va_P D vwCl ((a, .inr (2, [.null, .int 0, .null, .int 0, .int 0, .int 0, .int 0, .int 0])) :: ([(a + 1, .inl (C 0, 200, .inl (fun _ => 0)))])) H9 := hP9
  have hD : va_D (fun q => a ≤ q) ((a, .inr (2, [.null, .int 0, .null, .int 0, .int 0, .int 0, .int 0, .int 0])) :: ([(a + 1, .inl (C 0, 200, .inl (fun _ => 0)))])) := hD9
  have hS := hS9
  have hsz := hsz9
  clear hP9 hD9 hS9 hsz9
  refine pfF (k := 0) (kl := 0) (q := a + 1) (ty := .array .int) hx hb hts in_X2_init_X2 tyX2 tyX2_ok nmX2 hown hname hB hP hD hS rfl (by decide) (List.mem_of_getElem? (i := 5) rfl) rfl rfl (tyX2_ok 0 (by decide)) rfl rfl (Nat.le_of_ble_eq_true rfl) rfl (by omega) dX2_init_10 (fun H9 locs9 hsz9 hP9 hD9 hS9 => ?_)
  clear hP hD hS hsz
  have hP : va_P D vwCl ((a, .inr (2, [.ref (a + 1), .int 0, .null, .int 0, .int 0, .int 0, .int 0, .int 0])) :: ([(a + 1, .inl (C 0, 200, .inl (fun _ => 0)))])) H9 := hP9
  have hD : va_D (fun q => a ≤ q) ((a, .inr (2, [.ref (a + 1), .int 0, .null, .int 0, .int 0, .int 0, .int 0, .int 0])) :: ([(a + 1, .inl (C 0, 200, .inl (fun _ => 0)))])) := hD9
  have hS := hS9
  have hsz := hsz9
  clear hP9 hD9 hS9 hsz9
  refine lv_aload_n hx hb dX2_init_13 rfl (lv_at hls 0 rfl) ?_
  refine nwObj (cw := tdW C) (mc := 7) (ms := 42) (h := a + 2) hx hb hts in_X2_init_X3 tyX3 tyX3_ok hown (hts _ (List.mem_of_getElem? (i := 6) rfl)) (hts _ (List.mem_of_getElem? (i := 7) rfl)) (hts _ (List.mem_of_getElem? (i := 8) rfl)) hB hP hD hS hA rfl (fs := [.int 0, .null, .null, .null, .null, .null, .int 0, .null, .null, .int 0]) df_X3 (show 1 + 1 ≤ 9 by omega) (show 200 + 10 ≤ 252 by omega) (by omega) dX2_init_14 dX2_init_17 (fun H1 z1 hPo => va_runIN (As := []) (rest := [.ref (a + 2), .ref a]) ⟨hx, hb, hml, hown, hts⟩ (n_X3 l D C (a + 2)) ⟨va_cnB 0 hts gX2_init_X3_init_n17 rfl rfl rfl hB.2.2.1.2.1 (hts _ (List.mem_of_getElem? (i := 8) rfl)) (by decide +kernel) ⟨(Nat.le_of_ble_eq_true rfl), (Nat.le_of_ble_eq_true rfl)⟩, rfl, (hts _ (List.mem_of_getElem? (i := 10) rfl))⟩ ⟨nm_blind _ _ _ _ _, fun U hU hW => ⟨rfl, hB.next hW, by rw [hU]; exact z1, by rw [hU]; exact hPo⟩⟩ rfl rfl hls.1 rfl (lv_room (Nat.le_of_ble_eq_true rfl)) dX2_init_18 ⟨show 1 + 1 + 7 ≤ 9 by omega, show 200 + 10 + 42 ≤ 252 by omega⟩) (fun H9 locs9 hsz9 hP9 hD9 hS9 => ?_)
  refine W.widen (k := 9) (n := 252) (by omega) (by omega) ?_
  clear hP hD hS hsz
  have hP : va_P D vwCl ((a, .inr (2, [.ref (a + 1), .int 0, .null, .int 0, .int 0, .int 0, .int 0, .int 0])) :: ([(a + 1, .inl (C 0, 200, .inl (fun _ => 0)))] ++ tdW C (a + 2))) H9 := hP9
  have hD : va_D (fun q => a ≤ q) ((a, .inr (2, [.ref (a + 1), .int 0, .null, .int 0, .int 0, .int 0, .int 0, .int 0])) :: ([(a + 1, .inl (C 0, 200, .inl (fun _ => 0)))] ++ tdW C (a + 2))) := hD9
  have hS := hS9
  have hsz := hsz9
  clear hP9 hD9 hS9 hsz9
  refine pfF (k := 2) (kl := 8) (q := a + 9) (ty := .object "TreeDebts$Told") hx hb hts in_X2_init_X2 tyX2 tyX2_ok nmX2 hown hname hB hP hD hS rfl (by decide) (List.mem_of_getElem? (i := 9) rfl) rfl rfl (tyX2_ok 2 (by decide)) rfl rfl (Nat.le_of_ble_eq_true rfl) rfl (by omega) dX2_init_21 (fun H9 locs9 hsz9 hP9 hD9 hS9 => ?_)
  clear hP hD hS hsz
  have hP : va_P D vwCl ((a, .inr (2, [.ref (a + 1), .int 0, .ref (a + 2), .int 0, .int 0, .int 0, .int 0, .int 0])) :: ([(a + 1, .inl (C 0, 200, .inl (fun _ => 0)))] ++ tdW C (a + 2))) H9 := hP9
  have hD : va_D (fun q => a ≤ q) ((a, .inr (2, [.ref (a + 1), .int 0, .ref (a + 2), .int 0, .int 0, .int 0, .int 0, .int 0])) :: ([(a + 1, .inl (C 0, 200, .inl (fun _ => 0)))] ++ tdW C (a + 2))) := hD9
  have hS := hS9
  have hsz := hsz9
  clear hP9 hD9 hS9 hsz9
  exact W.vret hx hb hr (fun t ht hW => ⟨⟨(), rfl, trivial, by rw [ht]; omega, by rw [ht]; exact hP, hD⟩, hS.F ht⟩) hS.2.2 dX2_init_24
theorem in_X0_init_X0 : ∀ x ∈ u_ws RX0 TX0 5, x ∈ wsX0_init := by decide +kernel
set_option maxRecDepth 100000 in
set_option maxHeartbeats 4000000 in
theorem n_X0 (l : Launch) (D : va_G) (C : Nat → ClassId) : NM l D C yX0_init wsX0_init { frames := 1, cells := 17, slots := 1419, locals := 12 } 0 [.null, .null, .null, .null, .int 0] (huW C) 17 1419 := by
  refine nm_start (own := RX0) (cc := cX0_init) (by decide) rfl rfl rfl ?_
  intro p e s m args below meth c ls a hx hb hr hml hown hts hlk hname hB hsz0 hP hls
  have hD : va_D (fun q => a ≤ q) [(a, .inr (0, [.null, .null, .null, .null, .int 0]))] := nd_one
  have hS : va_S (fun q => a ≤ q) s.heap s.heap [] := va_S.rf
  have hA : ∀ q, s.heap.size ≤ q → a ≤ q := fun q h => by omega
  have hsz : s.heap.size = s.heap.size + 0 := rfl
  refine lv_aload_n hx hb dX0_init_0 rfl (lv_at hls 0 rfl) ?_
  refine W.objInit hx hb hown (hts _ (List.mem_of_getElem? (i := 1) rfl)) (hts _ (List.mem_of_getElem? (i := 2) rfl)) (hts _ (List.mem_of_getElem? (i := 3) rfl)) rfl (by rw [hml]; exact hls.1) rfl dX0_init_1 (Nat.le_of_ble_eq_true rfl) (Nat.le_of_ble_eq_true rfl) ?_
  refine W.eq (g2 := F0 m 4 ls []) rfl ?_
  refine lv_aload_n hx hb dX0_init_4 rfl (lv_at hls 0 rfl) ?_
  refine lv_bipush (v := 7) hx hb dX0_init_5 (by decide +kernel) ?_
  refine lv_bipush (v := 100) hx hb dX0_init_7 (by decide +kernel) ?_
  refine nwM (N := 7) (M := 100) (h := a + 1) hx hb hown (hts _ (List.mem_of_getElem? (i := 4) rfl)) hB hP hD hS hA (by decide +kernel) (by decide +kernel) (by decide +kernel) (by decide +kernel) (by omega) (by omega) (show 0 + (1 + 7) ≤ 17 by omega) (show 0 + (7 + 7 * 100) ≤ 1419 by omega) (by omega) dX0_init_9 (fun H9 locs9 hsz9 hP9 hD9 hS9 => ?_)
  refine W.widen (k := 8) (n := 707) (by omega) (by omega) ?_
  clear hP hD hS hsz
  have hP : va_P D vwCl ((a, .inr (0, [.null, .null, .null, .null, .int 0])) :: (mrW C (a + 1) 7 100)) H9 := hP9
  have hD : va_D (fun q => a ≤ q) ((a, .inr (0, [.null, .null, .null, .null, .int 0])) :: (mrW C (a + 1) 7 100)) := hD9
  have hS := hS9
  have hsz := hsz9
  clear hP9 hD9 hS9 hsz9
  refine pfF (k := 0) (kl := 7) (q := a + 8) (ty := .array (.array .int)) hx hb hts in_X0_init_X0 tyX0 tyX0_ok nmX0 hown hname hB hP hD hS rfl (by decide) (List.mem_of_getElem? (i := 6) rfl) rfl rfl (tyX0_ok 0 (by decide)) rfl rfl (Nat.le_of_ble_eq_true rfl) rfl (by omega) dX0_init_13 (fun H9 locs9 hsz9 hP9 hD9 hS9 => ?_)
  clear hP hD hS hsz
  have hP : va_P D vwCl ((a, .inr (0, [.ref (a + 1), .null, .null, .null, .int 0])) :: (mrW C (a + 1) 7 100)) H9 := hP9
  have hD : va_D (fun q => a ≤ q) ((a, .inr (0, [.ref (a + 1), .null, .null, .null, .int 0])) :: (mrW C (a + 1) 7 100)) := hD9
  have hS := hS9
  have hsz := hsz9
  clear hP9 hD9 hS9 hsz9
  refine lv_aload_n hx hb dX0_init_16 rfl (lv_at hls 0 rfl) ?_
  refine lv_bipush (v := 6) hx hb dX0_init_17 (by decide +kernel) ?_
  refine lv_bipush (v := 100) hx hb dX0_init_19 (by decide +kernel) ?_
  refine nwM (N := 6) (M := 100) (h := a + 9) hx hb hown (hts _ (List.mem_of_getElem? (i := 4) rfl)) hB hP hD hS hA (by decide +kernel) (by decide +kernel) (by decide +kernel) (by decide +kernel) (by omega) (by omega) (show 8 + (1 + 6) ≤ 17 by omega) (show 707 + (6 + 6 * 100) ≤ 1419 by omega) (by omega) dX0_init_21 (fun H9 locs9 hsz9 hP9 hD9 hS9 => ?_)
  refine W.widen (k := 15) (n := 1313) (by omega) (by omega) ?_
  clear hP hD hS hsz
  have hP : va_P D vwCl ((a, .inr (0, [.ref (a + 1), .null, .null, .null, .int 0])) :: (mrW C (a + 1) 7 100 ++ mrW C (a + 9) 6 100)) H9 := hP9
  have hD : va_D (fun q => a ≤ q) ((a, .inr (0, [.ref (a + 1), .null, .null, .null, .int 0])) :: (mrW C (a + 1) 7 100 ++ mrW C (a + 9) 6 100)) := hD9
  have hS := hS9
  have hsz := hsz9
  clear hP9 hD9 hS9 hsz9
  refine pfF (k := 1) (kl := 14) (q := a + 15) (ty := .array (.array .int)) hx hb hts in_X0_init_X0 tyX0 tyX0_ok nmX0 hown hname hB hP hD hS rfl (by decide) (List.mem_of_getElem? (i := 7) rfl) rfl rfl (tyX0_ok 1 (by decide)) rfl rfl (Nat.le_of_ble_eq_true rfl) rfl (by omega) dX0_init_25 (fun H9 locs9 hsz9 hP9 hD9 hS9 => ?_)
  clear hP hD hS hsz
  have hP : va_P D vwCl ((a, .inr (0, [.ref (a + 1), .ref (a + 9), .null, .null, .int 0])) :: (mrW C (a + 1) 7 100 ++ mrW C (a + 9) 6 100)) H9 := hP9
  have hD : va_D (fun q => a ≤ q) ((a, .inr (0, [.ref (a + 1), .ref (a + 9), .null, .null, .int 0])) :: (mrW C (a + 1) 7 100 ++ mrW C (a + 9) 6 100)) := hD9
  have hS := hS9
  have hsz := hsz9
  clear hP9 hD9 hS9 hsz9
  refine lv_aload_n hx hb dX0_init_28 rfl (lv_at hls 0 rfl) ?_
  refine lv_bipush (v := 100) hx hb dX0_init_29 (by decide +kernel) ?_
  refine nwI (N := 100) (h := a + 16) hx hb (hts _ (List.mem_of_getElem? (i := 5) rfl)) hB hP hD hS hA (by decide +kernel) (by decide +kernel) (by omega) (show 15 + 1 ≤ 17 by omega) (show 1313 + 100 ≤ 1419 by omega) (by omega) dX0_init_31 (fun H9 hsz9 hP9 hD9 hS9 => ?_)
  refine W.widen (k := 16) (n := 1413) (by omega) (by omega) ?_
  clear hP hD hS hsz
  have hP : va_P D vwCl ((a, .inr (0, [.ref (a + 1), .ref (a + 9), .null, .null, .int 0])) :: (mrW C (a + 1) 7 100 ++ mrW C (a + 9) 6 100 ++ [(a + 16, .inl (C 0, 100, .inl (fun _ => 0)))])) H9 := hP9
  have hD : va_D (fun q => a ≤ q) ((a, .inr (0, [.ref (a + 1), .ref (a + 9), .null, .null, .int 0])) :: (mrW C (a + 1) 7 100 ++ mrW C (a + 9) 6 100 ++ [(a + 16, .inl (C 0, 100, .inl (fun _ => 0)))])) := hD9
  have hS := hS9
  have hsz := hsz9
  clear hP9 hD9 hS9 hsz9
  refine pfF (k := 2) (kl := 15) (q := a + 16) (ty := .array .int) hx hb hts in_X0_init_X0 tyX0 tyX0_ok nmX0 hown hname hB hP hD hS rfl (by decide) (List.mem_of_getElem? (i := 8) rfl) rfl rfl (tyX0_ok 2 (by decide)) rfl rfl (Nat.le_of_ble_eq_true rfl) rfl (by omega) dX0_init_33 (fun H9 locs9 hsz9 hP9 hD9 hS9 => ?_)
  clear hP hD hS hsz
  have hP : va_P D vwCl ((a, .inr (0, [.ref (a + 1), .ref (a + 9), .ref (a + 16), .null, .int 0])) :: (mrW C (a + 1) 7 100 ++ mrW C (a + 9) 6 100 ++ [(a + 16, .inl (C 0, 100, .inl (fun _ => 0)))])) H9 := hP9
  have hD : va_D (fun q => a ≤ q) ((a, .inr (0, [.ref (a + 1), .ref (a + 9), .ref (a + 16), .null, .int 0])) :: (mrW C (a + 1) 7 100 ++ mrW C (a + 9) 6 100 ++ [(a + 16, .inl (C 0, 100, .inl (fun _ => 0)))])) := hD9
  have hS := hS9
  have hsz := hsz9
  clear hP9 hD9 hS9 hsz9
  refine lv_aload_n hx hb dX0_init_36 rfl (lv_at hls 0 rfl) ?_
  refine lv_bipush (v := 6) hx hb dX0_init_37 (by decide +kernel) ?_
  refine nwI (N := 6) (h := a + 17) hx hb (hts _ (List.mem_of_getElem? (i := 5) rfl)) hB hP hD hS hA (by decide +kernel) (by decide +kernel) (by omega) (show 16 + 1 ≤ 17 by omega) (show 1413 + 6 ≤ 1419 by omega) (by omega) dX0_init_39 (fun H9 hsz9 hP9 hD9 hS9 => ?_)
  refine W.widen (k := 17) (n := 1419) (by omega) (by omega) ?_
  clear hP hD hS hsz
  have hP : va_P D vwCl ((a, .inr (0, [.ref (a + 1), .ref (a + 9), .ref (a + 16), .null, .int 0])) :: (mrW C (a + 1) 7 100 ++ mrW C (a + 9) 6 100 ++ [(a + 16, .inl (C 0, 100, .inl (fun _ => 0))), (a + 17, .inl (C 0, 6, .inl (fun _ => 0)))])) H9 := hP9
  have hD : va_D (fun q => a ≤ q) ((a, .inr (0, [.ref (a + 1), .ref (a + 9), .ref (a + 16), .null, .int 0])) :: (mrW C (a + 1) 7 100 ++ mrW C (a + 9) 6 100 ++ [(a + 16, .inl (C 0, 100, .inl (fun _ => 0))), (a + 17, .inl (C 0, 6, .inl (fun _ => 0)))])) := hD9
  have hS := hS9
  have hsz := hsz9
  clear hP9 hD9 hS9 hsz9
  refine pfF (k := 3) (kl := 16) (q := a + 17) (ty := .array .int) hx hb hts in_X0_init_X0 tyX0 tyX0_ok nmX0 hown hname hB hP hD hS rfl (by decide) (List.mem_of_getElem? (i := 9) rfl) rfl rfl (tyX0_ok 3 (by decide)) rfl rfl (Nat.le_of_ble_eq_true rfl) rfl (by omega) dX0_init_41 (fun H9 locs9 hsz9 hP9 hD9 hS9 => ?_)
  clear hP hD hS hsz
  have hP : va_P D vwCl ((a, .inr (0, [.ref (a + 1), .ref (a + 9), .ref (a + 16), .ref (a + 17), .int 0])) :: (mrW C (a + 1) 7 100 ++ mrW C (a + 9) 6 100 ++ [(a + 16, .inl (C 0, 100, .inl (fun _ => 0))), (a + 17, .inl (C 0, 6, .inl (fun _ => 0)))])) H9 := hP9
  have hD : va_D (fun q => a ≤ q) ((a, .inr (0, [.ref (a + 1), .ref (a + 9), .ref (a + 16), .ref (a + 17), .int 0])) :: (mrW C (a + 1) 7 100 ++ mrW C (a + 9) 6 100 ++ [(a + 16, .inl (C 0, 100, .inl (fun _ => 0))), (a + 17, .inl (C 0, 6, .inl (fun _ => 0)))])) := hD9
  have hS := hS9
  have hsz := hsz9
  clear hP9 hD9 hS9 hsz9
  exact W.vret hx hb hr (fun t ht hW => ⟨⟨(), rfl, trivial, by rw [ht]; omega, by rw [ht]; exact hP, hD⟩, hS.F ht⟩) hS.2.2 dX0_init_44

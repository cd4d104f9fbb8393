/-! ===== 67 the constructor of TreeDebts ===== -/
def xxW (C : Nat → ClassId) (a : Nat) : va_W := ((a, .inr (4, [.ref (a + 1), .ref (a + 11), .ref (a + 19), .ref (a + 27), .ref (a + 35), .ref (a + 52), .ref (a + 53)])) :: (txW C (a + 1) ++ tdW C (a + 11) ++ stW C (a + 19) ++ stW C (a + 27) ++ [(a + 35, .inl (C 2, 2, .inr (.inr (.inr (.inr (va_up (va_up (fun _ => none) 0 (some (a + 36))) 1 (some (a + 44))))))))] ++ stW C (a + 36) ++ stW C (a + 44) ++ [(a + 52, .inl (C 1, 2, .inl (fun _ => 0)))] ++ huW C (a + 53)))
theorem in_X4_init_X4 : ∀ x ∈ u_ws RX4 TX4 7, x ∈ wsX4_init := by decide +kernel
theorem in_X4_init_X2 : ∀ x ∈ u_ws RX2 TX2 8, x ∈ wsX4_init := by decide +kernel
theorem in_X4_init_X3 : ∀ x ∈ u_ws RX3 TX3 10, x ∈ wsX4_init := by decide +kernel
theorem in_X4_init_X1 : ∀ x ∈ u_ws RX1 TX1 10, x ∈ wsX4_init := by decide +kernel
theorem in_X4_init_X0 : ∀ x ∈ u_ws RX0 TX0 5, x ∈ wsX4_init := by decide +kernel
set_option maxRecDepth 100000 in
set_option maxHeartbeats 4000000 in
theorem n_X4 (l : Launch) (D : va_G) (C : Nat → ClassId) : NM l D C yX4_init wsX4_init { frames := 3, cells := 70, slots := 2068, locals := 52 } 4 [.null, .null, .null, .null, .null, .null, .null] (xxW C) 70 2068 := by
  refine nm_start (own := RX4) (cc := cX4_init) (by decide) rfl rfl rfl ?_
  intro p e s m args below meth c ls a hx hb hr hml hown hts hlk hname hB hsz0 hP hls
  have hD : va_D (fun q => a ≤ q) [(a, .inr (4, [.null, .null, .null, .null, .null, .null, .null]))] := nd_one
  have hS : va_S (fun q => a ≤ q) s.heap s.heap [] := va_S.rf
  have hA : ∀ q, s.heap.size ≤ q → a ≤ q := fun q h => by omega
  have hsz : s.heap.size = s.heap.size + 0 := rfl
  refine lv_aload_n hx hb dX4_init_0 rfl (lv_at hls 0 rfl) ?_
  refine W.objInit hx hb hown (hts _ (List.mem_of_getElem? (i := 1) rfl)) (hts _ (List.mem_of_getElem? (i := 2) rfl)) (hts _ (List.mem_of_getElem? (i := 3) rfl)) rfl (by rw [hml]; exact hls.1) rfl dX4_init_1 (Nat.le_of_ble_eq_true rfl) (Nat.le_of_ble_eq_true rfl) ?_
  refine W.eq (g2 := F0 m 4 ls []) rfl ?_
  refine lv_aload_n hx hb dX4_init_4 rfl (lv_at hls 0 rfl) ?_
  refine nwObj (cw := txW C) (mc := 9) (ms := 252) (h := a + 1) hx hb hts in_X4_init_X2 tyX2 tyX2_ok hown (hts _ (List.mem_of_getElem? (i := 4) rfl)) (hts _ (List.mem_of_getElem? (i := 5) rfl)) (hts _ (List.mem_of_getElem? (i := 6) rfl)) hB hP hD hS hA rfl (fs := [.null, .int 0, .null, .int 0, .int 0, .int 0, .int 0, .int 0]) df_X2 (show 0 + 1 ≤ 70 by omega) (show 0 + 8 ≤ 2068 by omega) (by omega) dX4_init_5 dX4_init_8 (fun H1 z1 hPo => va_runIN (As := []) (rest := [.ref (a + 1), .ref a]) ⟨hx, hb, hml, hown, hts⟩ (n_X2 l D C (a + 1)) ⟨va_cnB 0 hts gX4_init_X2_init_n9 rfl rfl rfl hB.2.2.1.1 (hts _ (List.mem_of_getElem? (i := 6) rfl)) (by decide +kernel) ⟨(Nat.le_of_ble_eq_true rfl), (Nat.le_of_ble_eq_true rfl)⟩, rfl, (hts _ (List.mem_of_getElem? (i := 24) rfl))⟩ ⟨nm_blind _ _ _ _ _, fun U hU hW => ⟨rfl, hB.next hW, by rw [hU]; exact z1, by rw [hU]; exact hPo⟩⟩ rfl rfl hls.1 rfl (lv_room (Nat.le_of_ble_eq_true rfl)) dX4_init_9 ⟨show 0 + 1 + 9 ≤ 70 by omega, show 0 + 8 + 252 ≤ 2068 by omega⟩) (fun H9 locs9 hsz9 hP9 hD9 hS9 => ?_)
  refine W.widen (k := 10) (n := 260) (by omega) (by omega) ?_
  clear hP hD hS hsz
  have hP : va_P D vwCl ((a, .inr (4, [.null, .null, .null, .null, .null, .null, .null])) :: (txW C (a + 1))) H9 := hP9
  have hD : va_D (fun q => a ≤ q) ((a, .inr (4, [.null, .null, .null, .null, .null, .null, .null])) :: (txW C (a + 1))) := hD9
  have hS := hS9
  have hsz := hsz9
  clear hP9 hD9 hS9 hsz9
  refine pfF (k := 0) (kl := 9) (q := a + 10) (ty := .object "TreeDebts$Text") hx hb hts in_X4_init_X4 tyX4 tyX4_ok nmX4 hown hname hB hP hD hS rfl (by decide) (List.mem_of_getElem? (i := 7) rfl) rfl rfl (tyX4_ok 0 (by decide)) rfl rfl (Nat.le_of_ble_eq_true rfl) rfl (by omega) dX4_init_12 (fun H9 locs9 hsz9 hP9 hD9 hS9 => ?_)
  clear hP hD hS hsz
  have hP : va_P D vwCl ((a, .inr (4, [.ref (a + 1), .null, .null, .null, .null, .null, .null])) :: (txW C (a + 1))) H9 := hP9
  have hD : va_D (fun q => a ≤ q) ((a, .inr (4, [.ref (a + 1), .null, .null, .null, .null, .null, .null])) :: (txW C (a + 1))) := hD9
  have hS := hS9
  have hsz := hsz9
  clear hP9 hD9 hS9 hsz9
  refine lv_aload_n hx hb dX4_init_15 rfl (lv_at hls 0 rfl) ?_
  refine nwObj (cw := tdW C) (mc := 7) (ms := 42) (h := a + 11) hx hb hts in_X4_init_X3 tyX3 tyX3_ok hown (hts _ (List.mem_of_getElem? (i := 8) rfl)) (hts _ (List.mem_of_getElem? (i := 9) rfl)) (hts _ (List.mem_of_getElem? (i := 10) rfl)) hB hP hD hS hA rfl (fs := [.int 0, .null, .null, .null, .null, .null, .int 0, .null, .null, .int 0]) df_X3 (show 10 + 1 ≤ 70 by omega) (show 260 + 10 ≤ 2068 by omega) (by omega) dX4_init_16 dX4_init_19 (fun H1 z1 hPo => va_runIN (As := []) (rest := [.ref (a + 11), .ref a]) ⟨hx, hb, hml, hown, hts⟩ (n_X3 l D C (a + 11)) ⟨va_cnB 0 hts gX4_init_X3_init_n18 rfl rfl rfl hB.2.2.1.2.2.1 (hts _ (List.mem_of_getElem? (i := 10) rfl)) (by decide +kernel) ⟨(Nat.le_of_ble_eq_true rfl), (Nat.le_of_ble_eq_true rfl)⟩, rfl, (hts _ (List.mem_of_getElem? (i := 31) rfl))⟩ ⟨nm_blind _ _ _ _ _, fun U hU hW => ⟨rfl, hB.next hW, by rw [hU]; exact z1, by rw [hU]; exact hPo⟩⟩ rfl rfl hls.1 rfl (lv_room (Nat.le_of_ble_eq_true rfl)) dX4_init_20 ⟨show 10 + 1 + 7 ≤ 70 by omega, show 260 + 10 + 42 ≤ 2068 by omega⟩) (fun H9 locs9 hsz9 hP9 hD9 hS9 => ?_)
  refine W.widen (k := 18) (n := 312) (by omega) (by omega) ?_
  clear hP hD hS hsz
  have hP : va_P D vwCl ((a, .inr (4, [.ref (a + 1), .null, .null, .null, .null, .null, .null])) :: (txW C (a + 1) ++ tdW C (a + 11))) H9 := hP9
  have hD : va_D (fun q => a ≤ q) ((a, .inr (4, [.ref (a + 1), .null, .null, .null, .null, .null, .null])) :: (txW C (a + 1) ++ tdW C (a + 11))) := hD9
  have hS := hS9
  have hsz := hsz9
  clear hP9 hD9 hS9 hsz9
  refine pfF (k := 1) (kl := 17) (q := a + 18) (ty := .object "TreeDebts$Told") hx hb hts in_X4_init_X4 tyX4 tyX4_ok nmX4 hown hname hB hP hD hS rfl (by decide) (List.mem_of_getElem? (i := 11) rfl) rfl rfl (tyX4_ok 1 (by decide)) rfl rfl (Nat.le_of_ble_eq_true rfl) rfl (by omega) dX4_init_23 (fun H9 locs9 hsz9 hP9 hD9 hS9 => ?_)
  clear hP hD hS hsz
  have hP : va_P D vwCl ((a, .inr (4, [.ref (a + 1), .ref (a + 11), .null, .null, .null, .null, .null])) :: (txW C (a + 1) ++ tdW C (a + 11))) H9 := hP9
  have hD : va_D (fun q => a ≤ q) ((a, .inr (4, [.ref (a + 1), .ref (a + 11), .null, .null, .null, .null, .null])) :: (txW C (a + 1) ++ tdW C (a + 11))) := hD9
  have hS := hS9
  have hsz := hsz9
  clear hP9 hD9 hS9 hsz9
  refine lv_aload_n hx hb dX4_init_26 rfl (lv_at hls 0 rfl) ?_
  refine nwObj (cw := stW C) (mc := 7) (ms := 72) (h := a + 19) hx hb hts in_X4_init_X1 tyX1 tyX1_ok hown (hts _ (List.mem_of_getElem? (i := 12) rfl)) (hts _ (List.mem_of_getElem? (i := 13) rfl)) (hts _ (List.mem_of_getElem? (i := 14) rfl)) hB hP hD hS hA rfl (fs := [.int 0, .null, .null, .int 0, .null, .null, .null, .null, .null, .int 0]) df_X1 (show 18 + 1 ≤ 70 by omega) (show 312 + 10 ≤ 2068 by omega) (by omega) dX4_init_27 dX4_init_30 (fun H1 z1 hPo => va_runIN (As := []) (rest := [.ref (a + 19), .ref a]) ⟨hx, hb, hml, hown, hts⟩ (n_X1 l D C (a + 19)) ⟨va_cnB 0 hts gX4_init_X1_init_n25 rfl rfl rfl hB.2.2.1.2.2.2.1 (hts _ (List.mem_of_getElem? (i := 14) rfl)) (by decide +kernel) ⟨(Nat.le_of_ble_eq_true rfl), (Nat.le_of_ble_eq_true rfl)⟩, rfl, (hts _ (List.mem_of_getElem? (i := 42) rfl))⟩ ⟨nm_blind _ _ _ _ _, fun U hU hW => ⟨rfl, hB.next hW, by rw [hU]; exact z1, by rw [hU]; exact hPo⟩⟩ rfl rfl hls.1 rfl (lv_room (Nat.le_of_ble_eq_true rfl)) dX4_init_31 ⟨show 18 + 1 + 7 ≤ 70 by omega, show 312 + 10 + 72 ≤ 2068 by omega⟩) (fun H9 locs9 hsz9 hP9 hD9 hS9 => ?_)
  refine W.widen (k := 26) (n := 394) (by omega) (by omega) ?_
  clear hP hD hS hsz
  have hP : va_P D vwCl ((a, .inr (4, [.ref (a + 1), .ref (a + 11), .null, .null, .null, .null, .null])) :: (txW C (a + 1) ++ tdW C (a + 11) ++ stW C (a + 19))) H9 := hP9
  have hD : va_D (fun q => a ≤ q) ((a, .inr (4, [.ref (a + 1), .ref (a + 11), .null, .null, .null, .null, .null])) :: (txW C (a + 1) ++ tdW C (a + 11) ++ stW C (a + 19))) := hD9
  have hS := hS9
  have hsz := hsz9
  clear hP9 hD9 hS9 hsz9
  refine pfF (k := 2) (kl := 25) (q := a + 26) (ty := .object "TreeDebts$State") hx hb hts in_X4_init_X4 tyX4 tyX4_ok nmX4 hown hname hB hP hD hS rfl (by decide) (List.mem_of_getElem? (i := 15) rfl) rfl rfl (tyX4_ok 2 (by decide)) rfl rfl (Nat.le_of_ble_eq_true rfl) rfl (by omega) dX4_init_34 (fun H9 locs9 hsz9 hP9 hD9 hS9 => ?_)
  clear hP hD hS hsz
  have hP : va_P D vwCl ((a, .inr (4, [.ref (a + 1), .ref (a + 11), .ref (a + 19), .null, .null, .null, .null])) :: (txW C (a + 1) ++ tdW C (a + 11) ++ stW C (a + 19))) H9 := hP9
  have hD : va_D (fun q => a ≤ q) ((a, .inr (4, [.ref (a + 1), .ref (a + 11), .ref (a + 19), .null, .null, .null, .null])) :: (txW C (a + 1) ++ tdW C (a + 11) ++ stW C (a + 19))) := hD9
  have hS := hS9
  have hsz := hsz9
  clear hP9 hD9 hS9 hsz9
  refine lv_aload_n hx hb dX4_init_37 rfl (lv_at hls 0 rfl) ?_
  refine nwObj (cw := stW C) (mc := 7) (ms := 72) (h := a + 27) hx hb hts in_X4_init_X1 tyX1 tyX1_ok hown (hts _ (List.mem_of_getElem? (i := 12) rfl)) (hts _ (List.mem_of_getElem? (i := 13) rfl)) (hts _ (List.mem_of_getElem? (i := 14) rfl)) hB hP hD hS hA rfl (fs := [.int 0, .null, .null, .int 0, .null, .null, .null, .null, .null, .int 0]) df_X1 (show 26 + 1 ≤ 70 by omega) (show 394 + 10 ≤ 2068 by omega) (by omega) dX4_init_38 dX4_init_41 (fun H1 z1 hPo => va_runIN (As := []) (rest := [.ref (a + 27), .ref a]) ⟨hx, hb, hml, hown, hts⟩ (n_X1 l D C (a + 27)) ⟨va_cnB 0 hts gX4_init_X1_init_n25 rfl rfl rfl hB.2.2.1.2.2.2.1 (hts _ (List.mem_of_getElem? (i := 14) rfl)) (by decide +kernel) ⟨(Nat.le_of_ble_eq_true rfl), (Nat.le_of_ble_eq_true rfl)⟩, rfl, (hts _ (List.mem_of_getElem? (i := 42) rfl))⟩ ⟨nm_blind _ _ _ _ _, fun U hU hW => ⟨rfl, hB.next hW, by rw [hU]; exact z1, by rw [hU]; exact hPo⟩⟩ rfl rfl hls.1 rfl (lv_room (Nat.le_of_ble_eq_true rfl)) dX4_init_42 ⟨show 26 + 1 + 7 ≤ 70 by omega, show 394 + 10 + 72 ≤ 2068 by omega⟩) (fun H9 locs9 hsz9 hP9 hD9 hS9 => ?_)
  refine W.widen (k := 34) (n := 476) (by omega) (by omega) ?_
  clear hP hD hS hsz
  have hP : va_P D vwCl ((a, .inr (4, [.ref (a + 1), .ref (a + 11), .ref (a + 19), .null, .null, .null, .null])) :: (txW C (a + 1) ++ tdW C (a + 11) ++ stW C (a + 19) ++ stW C (a + 27))) H9 := hP9
  have hD : va_D (fun q => a ≤ q) ((a, .inr (4, [.ref (a + 1), .ref (a + 11), .ref (a + 19), .null, .null, .null, .null])) :: (txW C (a + 1) ++ tdW C (a + 11) ++ stW C (a + 19) ++ stW C (a + 27))) := hD9
  have hS := hS9
  have hsz := hsz9
  clear hP9 hD9 hS9 hsz9
  refine pfF (k := 3) (kl := 33) (q := a + 34) (ty := .object "TreeDebts$State") hx hb hts in_X4_init_X4 tyX4 tyX4_ok nmX4 hown hname hB hP hD hS rfl (by decide) (List.mem_of_getElem? (i := 16) rfl) rfl rfl (tyX4_ok 3 (by decide)) rfl rfl (Nat.le_of_ble_eq_true rfl) rfl (by omega) dX4_init_45 (fun H9 locs9 hsz9 hP9 hD9 hS9 => ?_)
  clear hP hD hS hsz
  have hP : va_P D vwCl ((a, .inr (4, [.ref (a + 1), .ref (a + 11), .ref (a + 19), .ref (a + 27), .null, .null, .null])) :: (txW C (a + 1) ++ tdW C (a + 11) ++ stW C (a + 19) ++ stW C (a + 27))) H9 := hP9
  have hD : va_D (fun q => a ≤ q) ((a, .inr (4, [.ref (a + 1), .ref (a + 11), .ref (a + 19), .ref (a + 27), .null, .null, .null])) :: (txW C (a + 1) ++ tdW C (a + 11) ++ stW C (a + 19) ++ stW C (a + 27))) := hD9
  have hS := hS9
  have hsz := hsz9
  clear hP9 hD9 hS9 hsz9
  refine lv_aload_n hx hb dX4_init_48 rfl (lv_at hls 0 rfl) ?_
  refine lv_iconst (v := 2) hx hb dX4_init_49 (by decide +kernel) ?_
  refine nwQ (N := 2) (h := a + 35) hx hb hown (hts _ (List.mem_of_getElem? (i := 12) rfl)) hB hP hD hS hA (by decide +kernel) (by decide +kernel) (by omega) (show 34 + 1 ≤ 70 by omega) (show 476 + 2 ≤ 2068 by omega) (by omega) dX4_init_50 (fun H9 hsz9 hP9 hD9 hS9 => ?_)
  refine W.widen (k := 35) (n := 478) (by omega) (by omega) ?_
  clear hP hD hS hsz
  have hP : va_P D vwCl ((a, .inr (4, [.ref (a + 1), .ref (a + 11), .ref (a + 19), .ref (a + 27), .null, .null, .null])) :: (txW C (a + 1) ++ tdW C (a + 11) ++ stW C (a + 19) ++ stW C (a + 27) ++ [(a + 35, .inl (C 2, 2, .inr (.inr (.inr (.inr (fun _ => none))))))])) H9 := hP9
  have hD : va_D (fun q => a ≤ q) ((a, .inr (4, [.ref (a + 1), .ref (a + 11), .ref (a + 19), .ref (a + 27), .null, .null, .null])) :: (txW C (a + 1) ++ tdW C (a + 11) ++ stW C (a + 19) ++ stW C (a + 27) ++ [(a + 35, .inl (C 2, 2, .inr (.inr (.inr (.inr (fun _ => none))))))])) := hD9
  have hS := hS9
  have hsz := hsz9
  clear hP9 hD9 hS9 hsz9
  refine lv_dup hx hb dX4_init_53 rfl ?_
  refine lv_iconst (v := 0) hx hb dX4_init_54 (by decide +kernel) ?_
  refine nwObj (cw := stW C) (mc := 7) (ms := 72) (h := a + 36) hx hb hts in_X4_init_X1 tyX1 tyX1_ok hown (hts _ (List.mem_of_getElem? (i := 12) rfl)) (hts _ (List.mem_of_getElem? (i := 13) rfl)) (hts _ (List.mem_of_getElem? (i := 14) rfl)) hB hP hD hS hA rfl (fs := [.int 0, .null, .null, .int 0, .null, .null, .null, .null, .null, .int 0]) df_X1 (show 35 + 1 ≤ 70 by omega) (show 478 + 10 ≤ 2068 by omega) (by omega) dX4_init_55 dX4_init_58 (fun H1 z1 hPo => va_runIN (As := []) (rest := [.ref (a + 36), .int 0, .ref (a + 35), .ref (a + 35), .ref a]) ⟨hx, hb, hml, hown, hts⟩ (n_X1 l D C (a + 36)) ⟨va_cnB 0 hts gX4_init_X1_init_n25 rfl rfl rfl hB.2.2.1.2.2.2.1 (hts _ (List.mem_of_getElem? (i := 14) rfl)) (by decide +kernel) ⟨(Nat.le_of_ble_eq_true rfl), (Nat.le_of_ble_eq_true rfl)⟩, rfl, (hts _ (List.mem_of_getElem? (i := 42) rfl))⟩ ⟨nm_blind _ _ _ _ _, fun U hU hW => ⟨rfl, hB.next hW, by rw [hU]; exact z1, by rw [hU]; exact hPo⟩⟩ rfl rfl hls.1 rfl (lv_room (Nat.le_of_ble_eq_true rfl)) dX4_init_59 ⟨show 35 + 1 + 7 ≤ 70 by omega, show 478 + 10 + 72 ≤ 2068 by omega⟩) (fun H9 locs9 hsz9 hP9 hD9 hS9 => ?_)
  refine W.widen (k := 43) (n := 560) (by omega) (by omega) ?_
  clear hP hD hS hsz
  have hP : va_P D vwCl ((a, .inr (4, [.ref (a + 1), .ref (a + 11), .ref (a + 19), .ref (a + 27), .null, .null, .null])) :: (txW C (a + 1) ++ tdW C (a + 11) ++ stW C (a + 19) ++ stW C (a + 27) ++ [(a + 35, .inl (C 2, 2, .inr (.inr (.inr (.inr (fun _ => none))))))] ++ stW C (a + 36))) H9 := hP9
  have hD : va_D (fun q => a ≤ q) ((a, .inr (4, [.ref (a + 1), .ref (a + 11), .ref (a + 19), .ref (a + 27), .null, .null, .null])) :: (txW C (a + 1) ++ tdW C (a + 11) ++ stW C (a + 19) ++ stW C (a + 27) ++ [(a + 35, .inl (C 2, 2, .inr (.inr (.inr (.inr (fun _ => none))))))] ++ stW C (a + 36))) := hD9
  have hS := hS9
  have hsz := hsz9
  clear hP9 hD9 hS9 hsz9
  refine va_astq (D := D) (r := (RX1, TX1, 10)) hx hb hB.1 hP hD hS 35 2 36 1 rfl rfl rfl rfl (show ¬ ((0 : Int32) < 0 ∨ 2 ≤ (0 : Int32).toNatClampNeg) by decide +kernel) dX4_init_62 (fun H9 locs9 hP9 hD9 hS9 => ?_)
  have hP7 : va_P D vwCl ((a, .inr (4, [.ref (a + 1), .ref (a + 11), .ref (a + 19), .ref (a + 27), .null, .null, .null])) :: (txW C (a + 1) ++ tdW C (a + 11) ++ stW C (a + 19) ++ stW C (a + 27) ++ [(a + 35, .inl (C 2, 2, .inr (.inr (.inr (.inr (va_up (fun _ => none) 0 (some (a + 36))))))))] ++ stW C (a + 36))) H9 := hP9
  have hD7 : va_D (fun q => a ≤ q) ((a, .inr (4, [.ref (a + 1), .ref (a + 11), .ref (a + 19), .ref (a + 27), .null, .null, .null])) :: (txW C (a + 1) ++ tdW C (a + 11) ++ stW C (a + 19) ++ stW C (a + 27) ++ [(a + 35, .inl (C 2, 2, .inr (.inr (.inr (.inr (va_up (fun _ => none) 0 (some (a + 36))))))))] ++ stW C (a + 36))) := hD9
  clear hP9 hD9
  have hP9 := hP7
  have hD9 := hD7
  clear hP7 hD7
  refine W_size (k := 43) (q := a + 43) hP9 rfl (by omega) (fun hsz9 => ?_)
  clear hP hD hS hsz
  have hP : va_P D vwCl ((a, .inr (4, [.ref (a + 1), .ref (a + 11), .ref (a + 19), .ref (a + 27), .null, .null, .null])) :: (txW C (a + 1) ++ tdW C (a + 11) ++ stW C (a + 19) ++ stW C (a + 27) ++ [(a + 35, .inl (C 2, 2, .inr (.inr (.inr (.inr (va_up (fun _ => none) 0 (some (a + 36))))))))] ++ stW C (a + 36))) H9 := hP9
  have hD : va_D (fun q => a ≤ q) ((a, .inr (4, [.ref (a + 1), .ref (a + 11), .ref (a + 19), .ref (a + 27), .null, .null, .null])) :: (txW C (a + 1) ++ tdW C (a + 11) ++ stW C (a + 19) ++ stW C (a + 27) ++ [(a + 35, .inl (C 2, 2, .inr (.inr (.inr (.inr (va_up (fun _ => none) 0 (some (a + 36))))))))] ++ stW C (a + 36))) := hD9
  have hS := hS9
  have hsz := hsz9
  clear hP9 hD9 hS9 hsz9
  refine lv_dup hx hb dX4_init_63 rfl ?_
  refine lv_iconst (v := 1) hx hb dX4_init_64 (by decide +kernel) ?_
  refine nwObj (cw := stW C) (mc := 7) (ms := 72) (h := a + 44) hx hb hts in_X4_init_X1 tyX1 tyX1_ok hown (hts _ (List.mem_of_getElem? (i := 12) rfl)) (hts _ (List.mem_of_getElem? (i := 13) rfl)) (hts _ (List.mem_of_getElem? (i := 14) rfl)) hB hP hD hS hA rfl (fs := [.int 0, .null, .null, .int 0, .null, .null, .null, .null, .null, .int 0]) df_X1 (show 43 + 1 ≤ 70 by omega) (show 560 + 10 ≤ 2068 by omega) (by omega) dX4_init_65 dX4_init_68 (fun H1 z1 hPo => va_runIN (As := []) (rest := [.ref (a + 44), .int 1, .ref (a + 35), .ref (a + 35), .ref a]) ⟨hx, hb, hml, hown, hts⟩ (n_X1 l D C (a + 44)) ⟨va_cnB 0 hts gX4_init_X1_init_n25 rfl rfl rfl hB.2.2.1.2.2.2.1 (hts _ (List.mem_of_getElem? (i := 14) rfl)) (by decide +kernel) ⟨(Nat.le_of_ble_eq_true rfl), (Nat.le_of_ble_eq_true rfl)⟩, rfl, (hts _ (List.mem_of_getElem? (i := 42) rfl))⟩ ⟨nm_blind _ _ _ _ _, fun U hU hW => ⟨rfl, hB.next hW, by rw [hU]; exact z1, by rw [hU]; exact hPo⟩⟩ rfl rfl hls.1 rfl (lv_room (Nat.le_of_ble_eq_true rfl)) dX4_init_69 ⟨show 43 + 1 + 7 ≤ 70 by omega, show 560 + 10 + 72 ≤ 2068 by omega⟩) (fun H9 locs9 hsz9 hP9 hD9 hS9 => ?_)
  refine W.widen (k := 51) (n := 642) (by omega) (by omega) ?_
  clear hP hD hS hsz
  have hP : va_P D vwCl ((a, .inr (4, [.ref (a + 1), .ref (a + 11), .ref (a + 19), .ref (a + 27), .null, .null, .null])) :: (txW C (a + 1) ++ tdW C (a + 11) ++ stW C (a + 19) ++ stW C (a + 27) ++ [(a + 35, .inl (C 2, 2, .inr (.inr (.inr (.inr (va_up (fun _ => none) 0 (some (a + 36))))))))] ++ stW C (a + 36) ++ stW C (a + 44))) H9 := hP9
  have hD : va_D (fun q => a ≤ q) ((a, .inr (4, [.ref (a + 1), .ref (a + 11), .ref (a + 19), .ref (a + 27), .null, .null, .null])) :: (txW C (a + 1) ++ tdW C (a + 11) ++ stW C (a + 19) ++ stW C (a + 27) ++ [(a + 35, .inl (C 2, 2, .inr (.inr (.inr (.inr (va_up (fun _ => none) 0 (some (a + 36))))))))] ++ stW C (a + 36) ++ stW C (a + 44))) := hD9
  have hS := hS9
  have hsz := hsz9
  clear hP9 hD9 hS9 hsz9
  refine va_astq (D := D) (r := (RX1, TX1, 10)) hx hb hB.1 hP hD hS 35 2 44 1 rfl rfl rfl rfl (show ¬ ((1 : Int32) < 0 ∨ 2 ≤ (1 : Int32).toNatClampNeg) by decide +kernel) dX4_init_72 (fun H9 locs9 hP9 hD9 hS9 => ?_)
  have hP7 : va_P D vwCl ((a, .inr (4, [.ref (a + 1), .ref (a + 11), .ref (a + 19), .ref (a + 27), .null, .null, .null])) :: (txW C (a + 1) ++ tdW C (a + 11) ++ stW C (a + 19) ++ stW C (a + 27) ++ [(a + 35, .inl (C 2, 2, .inr (.inr (.inr (.inr (va_up (va_up (fun _ => none) 0 (some (a + 36))) 1 (some (a + 44))))))))] ++ stW C (a + 36) ++ stW C (a + 44))) H9 := hP9
  have hD7 : va_D (fun q => a ≤ q) ((a, .inr (4, [.ref (a + 1), .ref (a + 11), .ref (a + 19), .ref (a + 27), .null, .null, .null])) :: (txW C (a + 1) ++ tdW C (a + 11) ++ stW C (a + 19) ++ stW C (a + 27) ++ [(a + 35, .inl (C 2, 2, .inr (.inr (.inr (.inr (va_up (va_up (fun _ => none) 0 (some (a + 36))) 1 (some (a + 44))))))))] ++ stW C (a + 36) ++ stW C (a + 44))) := hD9
  clear hP9 hD9
  have hP9 := hP7
  have hD9 := hD7
  clear hP7 hD7
  refine W_size (k := 51) (q := a + 51) hP9 rfl (by omega) (fun hsz9 => ?_)
  clear hP hD hS hsz
  have hP : va_P D vwCl ((a, .inr (4, [.ref (a + 1), .ref (a + 11), .ref (a + 19), .ref (a + 27), .null, .null, .null])) :: (txW C (a + 1) ++ tdW C (a + 11) ++ stW C (a + 19) ++ stW C (a + 27) ++ [(a + 35, .inl (C 2, 2, .inr (.inr (.inr (.inr (va_up (va_up (fun _ => none) 0 (some (a + 36))) 1 (some (a + 44))))))))] ++ stW C (a + 36) ++ stW C (a + 44))) H9 := hP9
  have hD : va_D (fun q => a ≤ q) ((a, .inr (4, [.ref (a + 1), .ref (a + 11), .ref (a + 19), .ref (a + 27), .null, .null, .null])) :: (txW C (a + 1) ++ tdW C (a + 11) ++ stW C (a + 19) ++ stW C (a + 27) ++ [(a + 35, .inl (C 2, 2, .inr (.inr (.inr (.inr (va_up (va_up (fun _ => none) 0 (some (a + 36))) 1 (some (a + 44))))))))] ++ stW C (a + 36) ++ stW C (a + 44))) := hD9
  have hS := hS9
  have hsz := hsz9
  clear hP9 hD9 hS9 hsz9
  refine pfF (k := 4) (kl := 50) (q := a + 51) (ty := .array (.object "TreeDebts$State")) hx hb hts in_X4_init_X4 tyX4 tyX4_ok nmX4 hown hname hB hP hD hS rfl (by decide) (List.mem_of_getElem? (i := 17) rfl) rfl rfl (tyX4_ok 4 (by decide)) rfl rfl (Nat.le_of_ble_eq_true rfl) rfl (by omega) dX4_init_73 (fun H9 locs9 hsz9 hP9 hD9 hS9 => ?_)
  clear hP hD hS hsz
  have hP : va_P D vwCl ((a, .inr (4, [.ref (a + 1), .ref (a + 11), .ref (a + 19), .ref (a + 27), .ref (a + 35), .null, .null])) :: (txW C (a + 1) ++ tdW C (a + 11) ++ stW C (a + 19) ++ stW C (a + 27) ++ [(a + 35, .inl (C 2, 2, .inr (.inr (.inr (.inr (va_up (va_up (fun _ => none) 0 (some (a + 36))) 1 (some (a + 44))))))))] ++ stW C (a + 36) ++ stW C (a + 44))) H9 := hP9
  have hD : va_D (fun q => a ≤ q) ((a, .inr (4, [.ref (a + 1), .ref (a + 11), .ref (a + 19), .ref (a + 27), .ref (a + 35), .null, .null])) :: (txW C (a + 1) ++ tdW C (a + 11) ++ stW C (a + 19) ++ stW C (a + 27) ++ [(a + 35, .inl (C 2, 2, .inr (.inr (.inr (.inr (va_up (va_up (fun _ => none) 0 (some (a + 36))) 1 (some (a + 44))))))))] ++ stW C (a + 36) ++ stW C (a + 44))) := hD9
  have hS := hS9
  have hsz := hsz9
  clear hP9 hD9 hS9 hsz9
  refine lv_aload_n hx hb dX4_init_76 rfl (lv_at hls 0 rfl) ?_
  refine lv_aload_n hx hb dX4_init_77 rfl (lv_at hls 0 rfl) ?_
  refine va_get (D := D) (ci := 4) (v := .ref (a + 35)) (C := RX4) (T := TX4) (N := 7) hx hb hts in_X4_init_X4 hown hB.1 hP 0 rfl rfl 4 (by decide) (hts _ (List.mem_of_getElem? (i := 17) rfl)) (fun _ h9 => h9) rfl dX4_init_78 ?_
  refine va_alen (D := D) hx hb hB.1 hP 35 2 rfl rfl (v := 2) (show Int32.ofNat 2 = 2 by decide +kernel) dX4_init_81 ?_
  refine nwZ (N := 2) (h := a + 52) hx hb (hts _ (List.mem_of_getElem? (i := 18) rfl)) hB hP hD hS hA (by decide +kernel) (by decide +kernel) (by omega) (show 51 + 1 ≤ 70 by omega) (show 642 + 2 ≤ 2068 by omega) (by omega) dX4_init_82 (fun H9 hsz9 hP9 hD9 hS9 => ?_)
  refine W.widen (k := 52) (n := 644) (by omega) (by omega) ?_
  clear hP hD hS hsz
  have hP : va_P D vwCl ((a, .inr (4, [.ref (a + 1), .ref (a + 11), .ref (a + 19), .ref (a + 27), .ref (a + 35), .null, .null])) :: (txW C (a + 1) ++ tdW C (a + 11) ++ stW C (a + 19) ++ stW C (a + 27) ++ [(a + 35, .inl (C 2, 2, .inr (.inr (.inr (.inr (va_up (va_up (fun _ => none) 0 (some (a + 36))) 1 (some (a + 44))))))))] ++ stW C (a + 36) ++ stW C (a + 44) ++ [(a + 52, .inl (C 1, 2, .inl (fun _ => 0)))])) H9 := hP9
  have hD : va_D (fun q => a ≤ q) ((a, .inr (4, [.ref (a + 1), .ref (a + 11), .ref (a + 19), .ref (a + 27), .ref (a + 35), .null, .null])) :: (txW C (a + 1) ++ tdW C (a + 11) ++ stW C (a + 19) ++ stW C (a + 27) ++ [(a + 35, .inl (C 2, 2, .inr (.inr (.inr (.inr (va_up (va_up (fun _ => none) 0 (some (a + 36))) 1 (some (a + 44))))))))] ++ stW C (a + 36) ++ stW C (a + 44) ++ [(a + 52, .inl (C 1, 2, .inl (fun _ => 0)))])) := hD9
  have hS := hS9
  have hsz := hsz9
  clear hP9 hD9 hS9 hsz9
  refine pfF (k := 5) (kl := 51) (q := a + 52) (ty := .array .boolean) hx hb hts in_X4_init_X4 tyX4 tyX4_ok nmX4 hown hname hB hP hD hS rfl (by decide) (List.mem_of_getElem? (i := 19) rfl) rfl rfl (tyX4_ok 5 (by decide)) rfl rfl (Nat.le_of_ble_eq_true rfl) rfl (by omega) dX4_init_84 (fun H9 locs9 hsz9 hP9 hD9 hS9 => ?_)
  clear hP hD hS hsz
  have hP : va_P D vwCl ((a, .inr (4, [.ref (a + 1), .ref (a + 11), .ref (a + 19), .ref (a + 27), .ref (a + 35), .ref (a + 52), .null])) :: (txW C (a + 1) ++ tdW C (a + 11) ++ stW C (a + 19) ++ stW C (a + 27) ++ [(a + 35, .inl (C 2, 2, .inr (.inr (.inr (.inr (va_up (va_up (fun _ => none) 0 (some (a + 36))) 1 (some (a + 44))))))))] ++ stW C (a + 36) ++ stW C (a + 44) ++ [(a + 52, .inl (C 1, 2, .inl (fun _ => 0)))])) H9 := hP9
  have hD : va_D (fun q => a ≤ q) ((a, .inr (4, [.ref (a + 1), .ref (a + 11), .ref (a + 19), .ref (a + 27), .ref (a + 35), .ref (a + 52), .null])) :: (txW C (a + 1) ++ tdW C (a + 11) ++ stW C (a + 19) ++ stW C (a + 27) ++ [(a + 35, .inl (C 2, 2, .inr (.inr (.inr (.inr (va_up (va_up (fun _ => none) 0 (some (a + 36))) 1 (some (a + 44))))))))] ++ stW C (a + 36) ++ stW C (a + 44) ++ [(a + 52, .inl (C 1, 2, .inl (fun _ => 0)))])) := hD9
  have hS := hS9
  have hsz := hsz9
  clear hP9 hD9 hS9 hsz9
  refine lv_aload_n hx hb dX4_init_87 rfl (lv_at hls 0 rfl) ?_
  refine nwObj (cw := huW C) (mc := 17) (ms := 1419) (h := a + 53) hx hb hts in_X4_init_X0 tyX0 tyX0_ok hown (hts _ (List.mem_of_getElem? (i := 20) rfl)) (hts _ (List.mem_of_getElem? (i := 21) rfl)) (hts _ (List.mem_of_getElem? (i := 22) rfl)) hB hP hD hS hA rfl (fs := [.null, .null, .null, .null, .int 0]) df_X0 (show 52 + 1 ≤ 70 by omega) (show 644 + 5 ≤ 2068 by omega) (by omega) dX4_init_88 dX4_init_91 (fun H1 z1 hPo => va_runIN (As := []) (rest := [.ref (a + 53), .ref a]) ⟨hx, hb, hml, hown, hts⟩ (n_X0 l D C (a + 53)) ⟨va_cnB 0 hts gX4_init_X0_init_n43 rfl rfl rfl hB.2.2.1.2.2.2.2 (hts _ (List.mem_of_getElem? (i := 22) rfl)) (by decide +kernel) ⟨(Nat.le_of_ble_eq_true rfl), (Nat.le_of_ble_eq_true rfl)⟩, rfl, (hts _ (List.mem_of_getElem? (i := 52) rfl))⟩ ⟨nm_blind _ _ _ _ _, fun U hU hW => ⟨rfl, hB.next hW, by rw [hU]; exact z1, by rw [hU]; exact hPo⟩⟩ rfl rfl hls.1 rfl (lv_room (Nat.le_of_ble_eq_true rfl)) dX4_init_92 ⟨show 52 + 1 + 17 ≤ 70 by omega, show 644 + 5 + 1419 ≤ 2068 by omega⟩) (fun H9 locs9 hsz9 hP9 hD9 hS9 => ?_)
  refine W.widen (k := 70) (n := 2068) (by omega) (by omega) ?_
  clear hP hD hS hsz
  have hP : va_P D vwCl ((a, .inr (4, [.ref (a + 1), .ref (a + 11), .ref (a + 19), .ref (a + 27), .ref (a + 35), .ref (a + 52), .null])) :: (txW C (a + 1) ++ tdW C (a + 11) ++ stW C (a + 19) ++ stW C (a + 27) ++ [(a + 35, .inl (C 2, 2, .inr (.inr (.inr (.inr (va_up (va_up (fun _ => none) 0 (some (a + 36))) 1 (some (a + 44))))))))] ++ stW C (a + 36) ++ stW C (a + 44) ++ [(a + 52, .inl (C 1, 2, .inl (fun _ => 0)))] ++ huW C (a + 53))) H9 := hP9
  have hD : va_D (fun q => a ≤ q) ((a, .inr (4, [.ref (a + 1), .ref (a + 11), .ref (a + 19), .ref (a + 27), .ref (a + 35), .ref (a + 52), .null])) :: (txW C (a + 1) ++ tdW C (a + 11) ++ stW C (a + 19) ++ stW C (a + 27) ++ [(a + 35, .inl (C 2, 2, .inr (.inr (.inr (.inr (va_up (va_up (fun _ => none) 0 (some (a + 36))) 1 (some (a + 44))))))))] ++ stW C (a + 36) ++ stW C (a + 44) ++ [(a + 52, .inl (C 1, 2, .inl (fun _ => 0)))] ++ huW C (a + 53))) := hD9
  have hS := hS9
  have hsz := hsz9
  clear hP9 hD9 hS9 hsz9
  refine pfF (k := 6) (kl := 69) (q := a + 70) (ty := .object "TreeDebts$HutPlan") hx hb hts in_X4_init_X4 tyX4 tyX4_ok nmX4 hown hname hB hP hD hS rfl (by decide) (List.mem_of_getElem? (i := 23) rfl) rfl rfl (tyX4_ok 6 (by decide)) rfl rfl (Nat.le_of_ble_eq_true rfl) rfl (by omega) dX4_init_95 (fun H9 locs9 hsz9 hP9 hD9 hS9 => ?_)
  clear hP hD hS hsz
  have hP : va_P D vwCl ((a, .inr (4, [.ref (a + 1), .ref (a + 11), .ref (a + 19), .ref (a + 27), .ref (a + 35), .ref (a + 52), .ref (a + 53)])) :: (txW C (a + 1) ++ tdW C (a + 11) ++ stW C (a + 19) ++ stW C (a + 27) ++ [(a + 35, .inl (C 2, 2, .inr (.inr (.inr (.inr (va_up (va_up (fun _ => none) 0 (some (a + 36))) 1 (some (a + 44))))))))] ++ stW C (a + 36) ++ stW C (a + 44) ++ [(a + 52, .inl (C 1, 2, .inl (fun _ => 0)))] ++ huW C (a + 53))) H9 := hP9
  have hD : va_D (fun q => a ≤ q) ((a, .inr (4, [.ref (a + 1), .ref (a + 11), .ref (a + 19), .ref (a + 27), .ref (a + 35), .ref (a + 52), .ref (a + 53)])) :: (txW C (a + 1) ++ tdW C (a + 11) ++ stW C (a + 19) ++ stW C (a + 27) ++ [(a + 35, .inl (C 2, 2, .inr (.inr (.inr (.inr (va_up (va_up (fun _ => none) 0 (some (a + 36))) 1 (some (a + 44))))))))] ++ stW C (a + 36) ++ stW C (a + 44) ++ [(a + 52, .inl (C 1, 2, .inl (fun _ => 0)))] ++ huW C (a + 53))) := hD9
  have hS := hS9
  have hsz := hsz9
  clear hP9 hD9 hS9 hsz9
  exact W.vret hx hb hr (fun t ht hW => ⟨⟨(), rfl, trivial, by rw [ht]; omega, by rw [ht]; exact hP, hD⟩, hS.F ht⟩) hS.2.2 dX4_init_98

/-! ===== 65 the reference's constructor ===== -/
theorem in_X5_init_X5 : ∀ x ∈ u_ws RX5 TX5 21, x ∈ wsX5_init := by decide +kernel
set_option maxRecDepth 100000 in
set_option maxHeartbeats 4000000 in
theorem n_X5 (l : Launch) (D : va_G) (C : Nat → ClassId) : NM l D C yX5_init wsX5_init { frames := 1, cells := 11, slots := 1961, locals := 12 } 5 [.null, .null, .null, .int 0, .null, .int 0, .null, .null, .null, .null, .int 0, .null, .int 0, .int 0, .int 0, .int 0, .int 0, .int 0, .int 0, .null, .null] (moW C) 11 1961 := by
  refine nm_start (own := RX5) (cc := cX5_init) (by decide) rfl rfl rfl ?_
  intro p e s m args below meth c ls a hx hb hr hml hown hts hlk hname hB hsz0 hP hls
  have hD : va_D (fun q => a ≤ q) [(a, .inr (5, [.null, .null, .null, .int 0, .null, .int 0, .null, .null, .null, .null, .int 0, .null, .int 0, .int 0, .int 0, .int 0, .int 0, .int 0, .int 0, .null, .null]))] := nd_one
  have hS : va_S (fun q => a ≤ q) s.heap s.heap [] := va_S.rf
  have hA : ∀ q, s.heap.size ≤ q → a ≤ q := fun q h => by omega
  have hsz : s.heap.size = s.heap.size + 0 := rfl
  refine lv_aload_n hx hb dX5_init_0 rfl (lv_at hls 0 rfl) ?_
  refine W.objInit hx hb hown (hts _ (List.mem_of_getElem? (i := 1) rfl)) (hts _ (List.mem_of_getElem? (i := 2) rfl)) (hts _ (List.mem_of_getElem? (i := 3) rfl)) rfl (by rw [hml]; exact hls.1) rfl dX5_init_1 (Nat.le_of_ble_eq_true rfl) (Nat.le_of_ble_eq_true rfl) ?_
  refine W.eq (g2 := F0 m 4 ls []) rfl ?_
  refine lv_aload_n hx hb dX5_init_4 rfl (lv_at hls 0 rfl) ?_
  refine lv_sipush (v := 375) hx hb dX5_init_5 (by decide +kernel) ?_
  refine nwI (N := 375) (h := a + 1) hx hb (hts _ (List.mem_of_getElem? (i := 4) rfl)) hB hP hD hS hA (by decide +kernel) (by decide +kernel) (by omega) (show 0 + 1 ≤ 11 by omega) (show 0 + 375 ≤ 1961 by omega) (by omega) dX5_init_8 (fun H9 hsz9 hP9 hD9 hS9 => ?_)
  refine W.widen (k := 1) (n := 375) (by omega) (by omega) ?_
  clear hP hD hS hsz
  have hP : va_P D vwCl ((a, .inr (5, [.null, .null, .null, .int 0, .null, .int 0, .null, .null, .null, .null, .int 0, .null, .int 0, .int 0, .int 0, .int 0, .int 0, .int 0, .int 0, .null, .null])) :: ([(a + 1, .inl (C 0, 375, .inl (fun _ => 0)))])) H9 := hP9
  have hD : va_D (fun q => a ≤ q) ((a, .inr (5, [.null, .null, .null, .int 0, .null, .int 0, .null, .null, .null, .null, .int 0, .null, .int 0, .int 0, .int 0, .int 0, .int 0, .int 0, .int 0, .null, .null])) :: ([(a + 1, .inl (C 0, 375, .inl (fun _ => 0)))])) := hD9
  have hS := hS9
  have hsz := hsz9
  clear hP9 hD9 hS9 hsz9
  refine pfF (k := 0) (kl := 0) (q := a + 1) (ty := .array .int) hx hb hts in_X5_init_X5 tyX5 tyX5_ok nmX5 hown hname hB hP hD hS rfl (by decide) (List.mem_of_getElem? (i := 5) rfl) rfl rfl (tyX5_ok 0 (by decide)) rfl rfl (Nat.le_of_ble_eq_true rfl) rfl (by omega) dX5_init_10 (fun H9 locs9 hsz9 hP9 hD9 hS9 => ?_)
  clear hP hD hS hsz
  have hP : va_P D vwCl ((a, .inr (5, [.ref (a + 1), .null, .null, .int 0, .null, .int 0, .null, .null, .null, .null, .int 0, .null, .int 0, .int 0, .int 0, .int 0, .int 0, .int 0, .int 0, .null, .null])) :: ([(a + 1, .inl (C 0, 375, .inl (fun _ => 0)))])) H9 := hP9
  have hD : va_D (fun q => a ≤ q) ((a, .inr (5, [.ref (a + 1), .null, .null, .int 0, .null, .int 0, .null, .null, .null, .null, .int 0, .null, .int 0, .int 0, .int 0, .int 0, .int 0, .int 0, .int 0, .null, .null])) :: ([(a + 1, .inl (C 0, 375, .inl (fun _ => 0)))])) := hD9
  have hS := hS9
  have hsz := hsz9
  clear hP9 hD9 hS9 hsz9
  refine lv_aload_n hx hb dX5_init_13 rfl (lv_at hls 0 rfl) ?_
  refine lv_iconst (v := 2) hx hb dX5_init_14 (by decide +kernel) ?_
  refine nwZ (N := 2) (h := a + 2) hx hb (hts _ (List.mem_of_getElem? (i := 6) rfl)) hB hP hD hS hA (by decide +kernel) (by decide +kernel) (by omega) (show 1 + 1 ≤ 11 by omega) (show 375 + 2 ≤ 1961 by omega) (by omega) dX5_init_15 (fun H9 hsz9 hP9 hD9 hS9 => ?_)
  refine W.widen (k := 2) (n := 377) (by omega) (by omega) ?_
  clear hP hD hS hsz
  have hP : va_P D vwCl ((a, .inr (5, [.ref (a + 1), .null, .null, .int 0, .null, .int 0, .null, .null, .null, .null, .int 0, .null, .int 0, .int 0, .int 0, .int 0, .int 0, .int 0, .int 0, .null, .null])) :: ([(a + 1, .inl (C 0, 375, .inl (fun _ => 0))), (a + 2, .inl (C 1, 2, .inl (fun _ => 0)))])) H9 := hP9
  have hD : va_D (fun q => a ≤ q) ((a, .inr (5, [.ref (a + 1), .null, .null, .int 0, .null, .int 0, .null, .null, .null, .null, .int 0, .null, .int 0, .int 0, .int 0, .int 0, .int 0, .int 0, .int 0, .null, .null])) :: ([(a + 1, .inl (C 0, 375, .inl (fun _ => 0))), (a + 2, .inl (C 1, 2, .inl (fun _ => 0)))])) := hD9
  have hS := hS9
  have hsz := hsz9
  clear hP9 hD9 hS9 hsz9
  refine pfF (k := 1) (kl := 1) (q := a + 2) (ty := .array .boolean) hx hb hts in_X5_init_X5 tyX5 tyX5_ok nmX5 hown hname hB hP hD hS rfl (by decide) (List.mem_of_getElem? (i := 7) rfl) rfl rfl (tyX5_ok 1 (by decide)) rfl rfl (Nat.le_of_ble_eq_true rfl) rfl (by omega) dX5_init_17 (fun H9 locs9 hsz9 hP9 hD9 hS9 => ?_)
  clear hP hD hS hsz
  have hP : va_P D vwCl ((a, .inr (5, [.ref (a + 1), .ref (a + 2), .null, .int 0, .null, .int 0, .null, .null, .null, .null, .int 0, .null, .int 0, .int 0, .int 0, .int 0, .int 0, .int 0, .int 0, .null, .null])) :: ([(a + 1, .inl (C 0, 375, .inl (fun _ => 0))), (a + 2, .inl (C 1, 2, .inl (fun _ => 0)))])) H9 := hP9
  have hD : va_D (fun q => a ≤ q) ((a, .inr (5, [.ref (a + 1), .ref (a + 2), .null, .int 0, .null, .int 0, .null, .null, .null, .null, .int 0, .null, .int 0, .int 0, .int 0, .int 0, .int 0, .int 0, .int 0, .null, .null])) :: ([(a + 1, .inl (C 0, 375, .inl (fun _ => 0))), (a + 2, .inl (C 1, 2, .inl (fun _ => 0)))])) := hD9
  have hS := hS9
  have hsz := hsz9
  clear hP9 hD9 hS9 hsz9
  refine lv_aload_n hx hb dX5_init_20 rfl (lv_at hls 0 rfl) ?_
  refine lv_sipush (v := 200) hx hb dX5_init_21 (by decide +kernel) ?_
  refine nwI (N := 200) (h := a + 3) hx hb (hts _ (List.mem_of_getElem? (i := 4) rfl)) hB hP hD hS hA (by decide +kernel) (by decide +kernel) (by omega) (show 2 + 1 ≤ 11 by omega) (show 377 + 200 ≤ 1961 by omega) (by omega) dX5_init_24 (fun H9 hsz9 hP9 hD9 hS9 => ?_)
  refine W.widen (k := 3) (n := 577) (by omega) (by omega) ?_
  clear hP hD hS hsz
  have hP : va_P D vwCl ((a, .inr (5, [.ref (a + 1), .ref (a + 2), .null, .int 0, .null, .int 0, .null, .null, .null, .null, .int 0, .null, .int 0, .int 0, .int 0, .int 0, .int 0, .int 0, .int 0, .null, .null])) :: ([(a + 1, .inl (C 0, 375, .inl (fun _ => 0))), (a + 2, .inl (C 1, 2, .inl (fun _ => 0))), (a + 3, .inl (C 0, 200, .inl (fun _ => 0)))])) H9 := hP9
  have hD : va_D (fun q => a ≤ q) ((a, .inr (5, [.ref (a + 1), .ref (a + 2), .null, .int 0, .null, .int 0, .null, .null, .null, .null, .int 0, .null, .int 0, .int 0, .int 0, .int 0, .int 0, .int 0, .int 0, .null, .null])) :: ([(a + 1, .inl (C 0, 375, .inl (fun _ => 0))), (a + 2, .inl (C 1, 2, .inl (fun _ => 0))), (a + 3, .inl (C 0, 200, .inl (fun _ => 0)))])) := hD9
  have hS := hS9
  have hsz := hsz9
  clear hP9 hD9 hS9 hsz9
  refine pfF (k := 2) (kl := 2) (q := a + 3) (ty := .array .int) hx hb hts in_X5_init_X5 tyX5 tyX5_ok nmX5 hown hname hB hP hD hS rfl (by decide) (List.mem_of_getElem? (i := 8) rfl) rfl rfl (tyX5_ok 2 (by decide)) rfl rfl (Nat.le_of_ble_eq_true rfl) rfl (by omega) dX5_init_26 (fun H9 locs9 hsz9 hP9 hD9 hS9 => ?_)
  clear hP hD hS hsz
  have hP : va_P D vwCl ((a, .inr (5, [.ref (a + 1), .ref (a + 2), .ref (a + 3), .int 0, .null, .int 0, .null, .null, .null, .null, .int 0, .null, .int 0, .int 0, .int 0, .int 0, .int 0, .int 0, .int 0, .null, .null])) :: ([(a + 1, .inl (C 0, 375, .inl (fun _ => 0))), (a + 2, .inl (C 1, 2, .inl (fun _ => 0))), (a + 3, .inl (C 0, 200, .inl (fun _ => 0)))])) H9 := hP9
  have hD : va_D (fun q => a ≤ q) ((a, .inr (5, [.ref (a + 1), .ref (a + 2), .ref (a + 3), .int 0, .null, .int 0, .null, .null, .null, .null, .int 0, .null, .int 0, .int 0, .int 0, .int 0, .int 0, .int 0, .int 0, .null, .null])) :: ([(a + 1, .inl (C 0, 375, .inl (fun _ => 0))), (a + 2, .inl (C 1, 2, .inl (fun _ => 0))), (a + 3, .inl (C 0, 200, .inl (fun _ => 0)))])) := hD9
  have hS := hS9
  have hsz := hsz9
  clear hP9 hD9 hS9 hsz9
  refine lv_aload_n hx hb dX5_init_29 rfl (lv_at hls 0 rfl) ?_
  refine lv_bipush (v := 48) hx hb dX5_init_30 (by decide +kernel) ?_
  refine nwI (N := 48) (h := a + 4) hx hb (hts _ (List.mem_of_getElem? (i := 4) rfl)) hB hP hD hS hA (by decide +kernel) (by decide +kernel) (by omega) (show 3 + 1 ≤ 11 by omega) (show 577 + 48 ≤ 1961 by omega) (by omega) dX5_init_32 (fun H9 hsz9 hP9 hD9 hS9 => ?_)
  refine W.widen (k := 4) (n := 625) (by omega) (by omega) ?_
  clear hP hD hS hsz
  have hP : va_P D vwCl ((a, .inr (5, [.ref (a + 1), .ref (a + 2), .ref (a + 3), .int 0, .null, .int 0, .null, .null, .null, .null, .int 0, .null, .int 0, .int 0, .int 0, .int 0, .int 0, .int 0, .int 0, .null, .null])) :: ([(a + 1, .inl (C 0, 375, .inl (fun _ => 0))), (a + 2, .inl (C 1, 2, .inl (fun _ => 0))), (a + 3, .inl (C 0, 200, .inl (fun _ => 0))), (a + 4, .inl (C 0, 48, .inl (fun _ => 0)))])) H9 := hP9
  have hD : va_D (fun q => a ≤ q) ((a, .inr (5, [.ref (a + 1), .ref (a + 2), .ref (a + 3), .int 0, .null, .int 0, .null, .null, .null, .null, .int 0, .null, .int 0, .int 0, .int 0, .int 0, .int 0, .int 0, .int 0, .null, .null])) :: ([(a + 1, .inl (C 0, 375, .inl (fun _ => 0))), (a + 2, .inl (C 1, 2, .inl (fun _ => 0))), (a + 3, .inl (C 0, 200, .inl (fun _ => 0))), (a + 4, .inl (C 0, 48, .inl (fun _ => 0)))])) := hD9
  have hS := hS9
  have hsz := hsz9
  clear hP9 hD9 hS9 hsz9
  refine pfF (k := 4) (kl := 3) (q := a + 4) (ty := .array .int) hx hb hts in_X5_init_X5 tyX5 tyX5_ok nmX5 hown hname hB hP hD hS rfl (by decide) (List.mem_of_getElem? (i := 9) rfl) rfl rfl (tyX5_ok 4 (by decide)) rfl rfl (Nat.le_of_ble_eq_true rfl) rfl (by omega) dX5_init_34 (fun H9 locs9 hsz9 hP9 hD9 hS9 => ?_)
  clear hP hD hS hsz
  have hP : va_P D vwCl ((a, .inr (5, [.ref (a + 1), .ref (a + 2), .ref (a + 3), .int 0, .ref (a + 4), .int 0, .null, .null, .null, .null, .int 0, .null, .int 0, .int 0, .int 0, .int 0, .int 0, .int 0, .int 0, .null, .null])) :: ([(a + 1, .inl (C 0, 375, .inl (fun _ => 0))), (a + 2, .inl (C 1, 2, .inl (fun _ => 0))), (a + 3, .inl (C 0, 200, .inl (fun _ => 0))), (a + 4, .inl (C 0, 48, .inl (fun _ => 0)))])) H9 := hP9
  have hD : va_D (fun q => a ≤ q) ((a, .inr (5, [.ref (a + 1), .ref (a + 2), .ref (a + 3), .int 0, .ref (a + 4), .int 0, .null, .null, .null, .null, .int 0, .null, .int 0, .int 0, .int 0, .int 0, .int 0, .int 0, .int 0, .null, .null])) :: ([(a + 1, .inl (C 0, 375, .inl (fun _ => 0))), (a + 2, .inl (C 1, 2, .inl (fun _ => 0))), (a + 3, .inl (C 0, 200, .inl (fun _ => 0))), (a + 4, .inl (C 0, 48, .inl (fun _ => 0)))])) := hD9
  have hS := hS9
  have hsz := hsz9
  clear hP9 hD9 hS9 hsz9
  refine lv_aload_n hx hb dX5_init_37 rfl (lv_at hls 0 rfl) ?_
  refine lv_bipush (v := 6) hx hb dX5_init_38 (by decide +kernel) ?_
  refine nwI (N := 6) (h := a + 5) hx hb (hts _ (List.mem_of_getElem? (i := 4) rfl)) hB hP hD hS hA (by decide +kernel) (by decide +kernel) (by omega) (show 4 + 1 ≤ 11 by omega) (show 625 + 6 ≤ 1961 by omega) (by omega) dX5_init_40 (fun H9 hsz9 hP9 hD9 hS9 => ?_)
  refine W.widen (k := 5) (n := 631) (by omega) (by omega) ?_
  clear hP hD hS hsz
  have hP : va_P D vwCl ((a, .inr (5, [.ref (a + 1), .ref (a + 2), .ref (a + 3), .int 0, .ref (a + 4), .int 0, .null, .null, .null, .null, .int 0, .null, .int 0, .int 0, .int 0, .int 0, .int 0, .int 0, .int 0, .null, .null])) :: ([(a + 1, .inl (C 0, 375, .inl (fun _ => 0))), (a + 2, .inl (C 1, 2, .inl (fun _ => 0))), (a + 3, .inl (C 0, 200, .inl (fun _ => 0))), (a + 4, .inl (C 0, 48, .inl (fun _ => 0))), (a + 5, .inl (C 0, 6, .inl (fun _ => 0)))])) H9 := hP9
  have hD : va_D (fun q => a ≤ q) ((a, .inr (5, [.ref (a + 1), .ref (a + 2), .ref (a + 3), .int 0, .ref (a + 4), .int 0, .null, .null, .null, .null, .int 0, .null, .int 0, .int 0, .int 0, .int 0, .int 0, .int 0, .int 0, .null, .null])) :: ([(a + 1, .inl (C 0, 375, .inl (fun _ => 0))), (a + 2, .inl (C 1, 2, .inl (fun _ => 0))), (a + 3, .inl (C 0, 200, .inl (fun _ => 0))), (a + 4, .inl (C 0, 48, .inl (fun _ => 0))), (a + 5, .inl (C 0, 6, .inl (fun _ => 0)))])) := hD9
  have hS := hS9
  have hsz := hsz9
  clear hP9 hD9 hS9 hsz9
  refine pfF (k := 6) (kl := 4) (q := a + 5) (ty := .array .int) hx hb hts in_X5_init_X5 tyX5 tyX5_ok nmX5 hown hname hB hP hD hS rfl (by decide) (List.mem_of_getElem? (i := 10) rfl) rfl rfl (tyX5_ok 6 (by decide)) rfl rfl (Nat.le_of_ble_eq_true rfl) rfl (by omega) dX5_init_42 (fun H9 locs9 hsz9 hP9 hD9 hS9 => ?_)
  clear hP hD hS hsz
  have hP : va_P D vwCl ((a, .inr (5, [.ref (a + 1), .ref (a + 2), .ref (a + 3), .int 0, .ref (a + 4), .int 0, .ref (a + 5), .null, .null, .null, .int 0, .null, .int 0, .int 0, .int 0, .int 0, .int 0, .int 0, .int 0, .null, .null])) :: ([(a + 1, .inl (C 0, 375, .inl (fun _ => 0))), (a + 2, .inl (C 1, 2, .inl (fun _ => 0))), (a + 3, .inl (C 0, 200, .inl (fun _ => 0))), (a + 4, .inl (C 0, 48, .inl (fun _ => 0))), (a + 5, .inl (C 0, 6, .inl (fun _ => 0)))])) H9 := hP9
  have hD : va_D (fun q => a ≤ q) ((a, .inr (5, [.ref (a + 1), .ref (a + 2), .ref (a + 3), .int 0, .ref (a + 4), .int 0, .ref (a + 5), .null, .null, .null, .int 0, .null, .int 0, .int 0, .int 0, .int 0, .int 0, .int 0, .int 0, .null, .null])) :: ([(a + 1, .inl (C 0, 375, .inl (fun _ => 0))), (a + 2, .inl (C 1, 2, .inl (fun _ => 0))), (a + 3, .inl (C 0, 200, .inl (fun _ => 0))), (a + 4, .inl (C 0, 48, .inl (fun _ => 0))), (a + 5, .inl (C 0, 6, .inl (fun _ => 0)))])) := hD9
  have hS := hS9
  have hsz := hsz9
  clear hP9 hD9 hS9 hsz9
  refine lv_aload_n hx hb dX5_init_45 rfl (lv_at hls 0 rfl) ?_
  refine lv_bipush (v := 6) hx hb dX5_init_46 (by decide +kernel) ?_
  refine nwI (N := 6) (h := a + 6) hx hb (hts _ (List.mem_of_getElem? (i := 4) rfl)) hB hP hD hS hA (by decide +kernel) (by decide +kernel) (by omega) (show 5 + 1 ≤ 11 by omega) (show 631 + 6 ≤ 1961 by omega) (by omega) dX5_init_48 (fun H9 hsz9 hP9 hD9 hS9 => ?_)
  refine W.widen (k := 6) (n := 637) (by omega) (by omega) ?_
  clear hP hD hS hsz
  have hP : va_P D vwCl ((a, .inr (5, [.ref (a + 1), .ref (a + 2), .ref (a + 3), .int 0, .ref (a + 4), .int 0, .ref (a + 5), .null, .null, .null, .int 0, .null, .int 0, .int 0, .int 0, .int 0, .int 0, .int 0, .int 0, .null, .null])) :: ([(a + 1, .inl (C 0, 375, .inl (fun _ => 0))), (a + 2, .inl (C 1, 2, .inl (fun _ => 0))), (a + 3, .inl (C 0, 200, .inl (fun _ => 0))), (a + 4, .inl (C 0, 48, .inl (fun _ => 0))), (a + 5, .inl (C 0, 6, .inl (fun _ => 0))), (a + 6, .inl (C 0, 6, .inl (fun _ => 0)))])) H9 := hP9
  have hD : va_D (fun q => a ≤ q) ((a, .inr (5, [.ref (a + 1), .ref (a + 2), .ref (a + 3), .int 0, .ref (a + 4), .int 0, .ref (a + 5), .null, .null, .null, .int 0, .null, .int 0, .int 0, .int 0, .int 0, .int 0, .int 0, .int 0, .null, .null])) :: ([(a + 1, .inl (C 0, 375, .inl (fun _ => 0))), (a + 2, .inl (C 1, 2, .inl (fun _ => 0))), (a + 3, .inl (C 0, 200, .inl (fun _ => 0))), (a + 4, .inl (C 0, 48, .inl (fun _ => 0))), (a + 5, .inl (C 0, 6, .inl (fun _ => 0))), (a + 6, .inl (C 0, 6, .inl (fun _ => 0)))])) := hD9
  have hS := hS9
  have hsz := hsz9
  clear hP9 hD9 hS9 hsz9
  refine pfF (k := 7) (kl := 5) (q := a + 6) (ty := .array .int) hx hb hts in_X5_init_X5 tyX5 tyX5_ok nmX5 hown hname hB hP hD hS rfl (by decide) (List.mem_of_getElem? (i := 11) rfl) rfl rfl (tyX5_ok 7 (by decide)) rfl rfl (Nat.le_of_ble_eq_true rfl) rfl (by omega) dX5_init_50 (fun H9 locs9 hsz9 hP9 hD9 hS9 => ?_)
  clear hP hD hS hsz
  have hP : va_P D vwCl ((a, .inr (5, [.ref (a + 1), .ref (a + 2), .ref (a + 3), .int 0, .ref (a + 4), .int 0, .ref (a + 5), .ref (a + 6), .null, .null, .int 0, .null, .int 0, .int 0, .int 0, .int 0, .int 0, .int 0, .int 0, .null, .null])) :: ([(a + 1, .inl (C 0, 375, .inl (fun _ => 0))), (a + 2, .inl (C 1, 2, .inl (fun _ => 0))), (a + 3, .inl (C 0, 200, .inl (fun _ => 0))), (a + 4, .inl (C 0, 48, .inl (fun _ => 0))), (a + 5, .inl (C 0, 6, .inl (fun _ => 0))), (a + 6, .inl (C 0, 6, .inl (fun _ => 0)))])) H9 := hP9
  have hD : va_D (fun q => a ≤ q) ((a, .inr (5, [.ref (a + 1), .ref (a + 2), .ref (a + 3), .int 0, .ref (a + 4), .int 0, .ref (a + 5), .ref (a + 6), .null, .null, .int 0, .null, .int 0, .int 0, .int 0, .int 0, .int 0, .int 0, .int 0, .null, .null])) :: ([(a + 1, .inl (C 0, 375, .inl (fun _ => 0))), (a + 2, .inl (C 1, 2, .inl (fun _ => 0))), (a + 3, .inl (C 0, 200, .inl (fun _ => 0))), (a + 4, .inl (C 0, 48, .inl (fun _ => 0))), (a + 5, .inl (C 0, 6, .inl (fun _ => 0))), (a + 6, .inl (C 0, 6, .inl (fun _ => 0)))])) := hD9
  have hS := hS9
  have hsz := hsz9
  clear hP9 hD9 hS9 hsz9
  refine lv_aload_n hx hb dX5_init_53 rfl (lv_at hls 0 rfl) ?_
  refine lv_bipush (v := 6) hx hb dX5_init_54 (by decide +kernel) ?_
  refine nwI (N := 6) (h := a + 7) hx hb (hts _ (List.mem_of_getElem? (i := 4) rfl)) hB hP hD hS hA (by decide +kernel) (by decide +kernel) (by omega) (show 6 + 1 ≤ 11 by omega) (show 637 + 6 ≤ 1961 by omega) (by omega) dX5_init_56 (fun H9 hsz9 hP9 hD9 hS9 => ?_)
  refine W.widen (k := 7) (n := 643) (by omega) (by omega) ?_
  clear hP hD hS hsz
  have hP : va_P D vwCl ((a, .inr (5, [.ref (a + 1), .ref (a + 2), .ref (a + 3), .int 0, .ref (a + 4), .int 0, .ref (a + 5), .ref (a + 6), .null, .null, .int 0, .null, .int 0, .int 0, .int 0, .int 0, .int 0, .int 0, .int 0, .null, .null])) :: ([(a + 1, .inl (C 0, 375, .inl (fun _ => 0))), (a + 2, .inl (C 1, 2, .inl (fun _ => 0))), (a + 3, .inl (C 0, 200, .inl (fun _ => 0))), (a + 4, .inl (C 0, 48, .inl (fun _ => 0))), (a + 5, .inl (C 0, 6, .inl (fun _ => 0))), (a + 6, .inl (C 0, 6, .inl (fun _ => 0))), (a + 7, .inl (C 0, 6, .inl (fun _ => 0)))])) H9 := hP9
  have hD : va_D (fun q => a ≤ q) ((a, .inr (5, [.ref (a + 1), .ref (a + 2), .ref (a + 3), .int 0, .ref (a + 4), .int 0, .ref (a + 5), .ref (a + 6), .null, .null, .int 0, .null, .int 0, .int 0, .int 0, .int 0, .int 0, .int 0, .int 0, .null, .null])) :: ([(a + 1, .inl (C 0, 375, .inl (fun _ => 0))), (a + 2, .inl (C 1, 2, .inl (fun _ => 0))), (a + 3, .inl (C 0, 200, .inl (fun _ => 0))), (a + 4, .inl (C 0, 48, .inl (fun _ => 0))), (a + 5, .inl (C 0, 6, .inl (fun _ => 0))), (a + 6, .inl (C 0, 6, .inl (fun _ => 0))), (a + 7, .inl (C 0, 6, .inl (fun _ => 0)))])) := hD9
  have hS := hS9
  have hsz := hsz9
  clear hP9 hD9 hS9 hsz9
  refine pfF (k := 8) (kl := 6) (q := a + 7) (ty := .array .int) hx hb hts in_X5_init_X5 tyX5 tyX5_ok nmX5 hown hname hB hP hD hS rfl (by decide) (List.mem_of_getElem? (i := 12) rfl) rfl rfl (tyX5_ok 8 (by decide)) rfl rfl (Nat.le_of_ble_eq_true rfl) rfl (by omega) dX5_init_58 (fun H9 locs9 hsz9 hP9 hD9 hS9 => ?_)
  clear hP hD hS hsz
  have hP : va_P D vwCl ((a, .inr (5, [.ref (a + 1), .ref (a + 2), .ref (a + 3), .int 0, .ref (a + 4), .int 0, .ref (a + 5), .ref (a + 6), .ref (a + 7), .null, .int 0, .null, .int 0, .int 0, .int 0, .int 0, .int 0, .int 0, .int 0, .null, .null])) :: ([(a + 1, .inl (C 0, 375, .inl (fun _ => 0))), (a + 2, .inl (C 1, 2, .inl (fun _ => 0))), (a + 3, .inl (C 0, 200, .inl (fun _ => 0))), (a + 4, .inl (C 0, 48, .inl (fun _ => 0))), (a + 5, .inl (C 0, 6, .inl (fun _ => 0))), (a + 6, .inl (C 0, 6, .inl (fun _ => 0))), (a + 7, .inl (C 0, 6, .inl (fun _ => 0)))])) H9 := hP9
  have hD : va_D (fun q => a ≤ q) ((a, .inr (5, [.ref (a + 1), .ref (a + 2), .ref (a + 3), .int 0, .ref (a + 4), .int 0, .ref (a + 5), .ref (a + 6), .ref (a + 7), .null, .int 0, .null, .int 0, .int 0, .int 0, .int 0, .int 0, .int 0, .int 0, .null, .null])) :: ([(a + 1, .inl (C 0, 375, .inl (fun _ => 0))), (a + 2, .inl (C 1, 2, .inl (fun _ => 0))), (a + 3, .inl (C 0, 200, .inl (fun _ => 0))), (a + 4, .inl (C 0, 48, .inl (fun _ => 0))), (a + 5, .inl (C 0, 6, .inl (fun _ => 0))), (a + 6, .inl (C 0, 6, .inl (fun _ => 0))), (a + 7, .inl (C 0, 6, .inl (fun _ => 0)))])) := hD9
  have hS := hS9
  have hsz := hsz9
  clear hP9 hD9 hS9 hsz9
  refine lv_aload_n hx hb dX5_init_61 rfl (lv_at hls 0 rfl) ?_
  refine lv_bipush (v := 6) hx hb dX5_init_62 (by decide +kernel) ?_
  refine nwI (N := 6) (h := a + 8) hx hb (hts _ (List.mem_of_getElem? (i := 4) rfl)) hB hP hD hS hA (by decide +kernel) (by decide +kernel) (by omega) (show 7 + 1 ≤ 11 by omega) (show 643 + 6 ≤ 1961 by omega) (by omega) dX5_init_64 (fun H9 hsz9 hP9 hD9 hS9 => ?_)
  refine W.widen (k := 8) (n := 649) (by omega) (by omega) ?_
  clear hP hD hS hsz
  have hP : va_P D vwCl ((a, .inr (5, [.ref (a + 1), .ref (a + 2), .ref (a + 3), .int 0, .ref (a + 4), .int 0, .ref (a + 5), .ref (a + 6), .ref (a + 7), .null, .int 0, .null, .int 0, .int 0, .int 0, .int 0, .int 0, .int 0, .int 0, .null, .null])) :: ([(a + 1, .inl (C 0, 375, .inl (fun _ => 0))), (a + 2, .inl (C 1, 2, .inl (fun _ => 0))), (a + 3, .inl (C 0, 200, .inl (fun _ => 0))), (a + 4, .inl (C 0, 48, .inl (fun _ => 0))), (a + 5, .inl (C 0, 6, .inl (fun _ => 0))), (a + 6, .inl (C 0, 6, .inl (fun _ => 0))), (a + 7, .inl (C 0, 6, .inl (fun _ => 0))), (a + 8, .inl (C 0, 6, .inl (fun _ => 0)))])) H9 := hP9
  have hD : va_D (fun q => a ≤ q) ((a, .inr (5, [.ref (a + 1), .ref (a + 2), .ref (a + 3), .int 0, .ref (a + 4), .int 0, .ref (a + 5), .ref (a + 6), .ref (a + 7), .null, .int 0, .null, .int 0, .int 0, .int 0, .int 0, .int 0, .int 0, .int 0, .null, .null])) :: ([(a + 1, .inl (C 0, 375, .inl (fun _ => 0))), (a + 2, .inl (C 1, 2, .inl (fun _ => 0))), (a + 3, .inl (C 0, 200, .inl (fun _ => 0))), (a + 4, .inl (C 0, 48, .inl (fun _ => 0))), (a + 5, .inl (C 0, 6, .inl (fun _ => 0))), (a + 6, .inl (C 0, 6, .inl (fun _ => 0))), (a + 7, .inl (C 0, 6, .inl (fun _ => 0))), (a + 8, .inl (C 0, 6, .inl (fun _ => 0)))])) := hD9
  have hS := hS9
  have hsz := hsz9
  clear hP9 hD9 hS9 hsz9
  refine pfF (k := 9) (kl := 7) (q := a + 8) (ty := .array .int) hx hb hts in_X5_init_X5 tyX5 tyX5_ok nmX5 hown hname hB hP hD hS rfl (by decide) (List.mem_of_getElem? (i := 13) rfl) rfl rfl (tyX5_ok 9 (by decide)) rfl rfl (Nat.le_of_ble_eq_true rfl) rfl (by omega) dX5_init_66 (fun H9 locs9 hsz9 hP9 hD9 hS9 => ?_)
  clear hP hD hS hsz
  have hP : va_P D vwCl ((a, .inr (5, [.ref (a + 1), .ref (a + 2), .ref (a + 3), .int 0, .ref (a + 4), .int 0, .ref (a + 5), .ref (a + 6), .ref (a + 7), .ref (a + 8), .int 0, .null, .int 0, .int 0, .int 0, .int 0, .int 0, .int 0, .int 0, .null, .null])) :: ([(a + 1, .inl (C 0, 375, .inl (fun _ => 0))), (a + 2, .inl (C 1, 2, .inl (fun _ => 0))), (a + 3, .inl (C 0, 200, .inl (fun _ => 0))), (a + 4, .inl (C 0, 48, .inl (fun _ => 0))), (a + 5, .inl (C 0, 6, .inl (fun _ => 0))), (a + 6, .inl (C 0, 6, .inl (fun _ => 0))), (a + 7, .inl (C 0, 6, .inl (fun _ => 0))), (a + 8, .inl (C 0, 6, .inl (fun _ => 0)))])) H9 := hP9
  have hD : va_D (fun q => a ≤ q) ((a, .inr (5, [.ref (a + 1), .ref (a + 2), .ref (a + 3), .int 0, .ref (a + 4), .int 0, .ref (a + 5), .ref (a + 6), .ref (a + 7), .ref (a + 8), .int 0, .null, .int 0, .int 0, .int 0, .int 0, .int 0, .int 0, .int 0, .null, .null])) :: ([(a + 1, .inl (C 0, 375, .inl (fun _ => 0))), (a + 2, .inl (C 1, 2, .inl (fun _ => 0))), (a + 3, .inl (C 0, 200, .inl (fun _ => 0))), (a + 4, .inl (C 0, 48, .inl (fun _ => 0))), (a + 5, .inl (C 0, 6, .inl (fun _ => 0))), (a + 6, .inl (C 0, 6, .inl (fun _ => 0))), (a + 7, .inl (C 0, 6, .inl (fun _ => 0))), (a + 8, .inl (C 0, 6, .inl (fun _ => 0)))])) := hD9
  have hS := hS9
  have hsz := hsz9
  clear hP9 hD9 hS9 hsz9
  refine lv_aload_n hx hb dX5_init_69 rfl (lv_at hls 0 rfl) ?_
  refine lv_bipush (v := 12) hx hb dX5_init_70 (by decide +kernel) ?_
  refine nwI (N := 12) (h := a + 9) hx hb (hts _ (List.mem_of_getElem? (i := 4) rfl)) hB hP hD hS hA (by decide +kernel) (by decide +kernel) (by omega) (show 8 + 1 ≤ 11 by omega) (show 649 + 12 ≤ 1961 by omega) (by omega) dX5_init_72 (fun H9 hsz9 hP9 hD9 hS9 => ?_)
  refine W.widen (k := 9) (n := 661) (by omega) (by omega) ?_
  clear hP hD hS hsz
  have hP : va_P D vwCl ((a, .inr (5, [.ref (a + 1), .ref (a + 2), .ref (a + 3), .int 0, .ref (a + 4), .int 0, .ref (a + 5), .ref (a + 6), .ref (a + 7), .ref (a + 8), .int 0, .null, .int 0, .int 0, .int 0, .int 0, .int 0, .int 0, .int 0, .null, .null])) :: ([(a + 1, .inl (C 0, 375, .inl (fun _ => 0))), (a + 2, .inl (C 1, 2, .inl (fun _ => 0))), (a + 3, .inl (C 0, 200, .inl (fun _ => 0))), (a + 4, .inl (C 0, 48, .inl (fun _ => 0))), (a + 5, .inl (C 0, 6, .inl (fun _ => 0))), (a + 6, .inl (C 0, 6, .inl (fun _ => 0))), (a + 7, .inl (C 0, 6, .inl (fun _ => 0))), (a + 8, .inl (C 0, 6, .inl (fun _ => 0))), (a + 9, .inl (C 0, 12, .inl (fun _ => 0)))])) H9 := hP9
  have hD : va_D (fun q => a ≤ q) ((a, .inr (5, [.ref (a + 1), .ref (a + 2), .ref (a + 3), .int 0, .ref (a + 4), .int 0, .ref (a + 5), .ref (a + 6), .ref (a + 7), .ref (a + 8), .int 0, .null, .int 0, .int 0, .int 0, .int 0, .int 0, .int 0, .int 0, .null, .null])) :: ([(a + 1, .inl (C 0, 375, .inl (fun _ => 0))), (a + 2, .inl (C 1, 2, .inl (fun _ => 0))), (a + 3, .inl (C 0, 200, .inl (fun _ => 0))), (a + 4, .inl (C 0, 48, .inl (fun _ => 0))), (a + 5, .inl (C 0, 6, .inl (fun _ => 0))), (a + 6, .inl (C 0, 6, .inl (fun _ => 0))), (a + 7, .inl (C 0, 6, .inl (fun _ => 0))), (a + 8, .inl (C 0, 6, .inl (fun _ => 0))), (a + 9, .inl (C 0, 12, .inl (fun _ => 0)))])) := hD9
  have hS := hS9
  have hsz := hsz9
  clear hP9 hD9 hS9 hsz9
  refine pfF (k := 11) (kl := 8) (q := a + 9) (ty := .array .int) hx hb hts in_X5_init_X5 tyX5 tyX5_ok nmX5 hown hname hB hP hD hS rfl (by decide) (List.mem_of_getElem? (i := 14) rfl) rfl rfl (tyX5_ok 11 (by decide)) rfl rfl (Nat.le_of_ble_eq_true rfl) rfl (by omega) dX5_init_74 (fun H9 locs9 hsz9 hP9 hD9 hS9 => ?_)
  clear hP hD hS hsz
  have hP : va_P D vwCl ((a, .inr (5, [.ref (a + 1), .ref (a + 2), .ref (a + 3), .int 0, .ref (a + 4), .int 0, .ref (a + 5), .ref (a + 6), .ref (a + 7), .ref (a + 8), .int 0, .ref (a + 9), .int 0, .int 0, .int 0, .int 0, .int 0, .int 0, .int 0, .null, .null])) :: ([(a + 1, .inl (C 0, 375, .inl (fun _ => 0))), (a + 2, .inl (C 1, 2, .inl (fun _ => 0))), (a + 3, .inl (C 0, 200, .inl (fun _ => 0))), (a + 4, .inl (C 0, 48, .inl (fun _ => 0))), (a + 5, .inl (C 0, 6, .inl (fun _ => 0))), (a + 6, .inl (C 0, 6, .inl (fun _ => 0))), (a + 7, .inl (C 0, 6, .inl (fun _ => 0))), (a + 8, .inl (C 0, 6, .inl (fun _ => 0))), (a + 9, .inl (C 0, 12, .inl (fun _ => 0)))])) H9 := hP9
  have hD : va_D (fun q => a ≤ q) ((a, .inr (5, [.ref (a + 1), .ref (a + 2), .ref (a + 3), .int 0, .ref (a + 4), .int 0, .ref (a + 5), .ref (a + 6), .ref (a + 7), .ref (a + 8), .int 0, .ref (a + 9), .int 0, .int 0, .int 0, .int 0, .int 0, .int 0, .int 0, .null, .null])) :: ([(a + 1, .inl (C 0, 375, .inl (fun _ => 0))), (a + 2, .inl (C 1, 2, .inl (fun _ => 0))), (a + 3, .inl (C 0, 200, .inl (fun _ => 0))), (a + 4, .inl (C 0, 48, .inl (fun _ => 0))), (a + 5, .inl (C 0, 6, .inl (fun _ => 0))), (a + 6, .inl (C 0, 6, .inl (fun _ => 0))), (a + 7, .inl (C 0, 6, .inl (fun _ => 0))), (a + 8, .inl (C 0, 6, .inl (fun _ => 0))), (a + 9, .inl (C 0, 12, .inl (fun _ => 0)))])) := hD9
  have hS := hS9
  have hsz := hsz9
  clear hP9 hD9 hS9 hsz9
  refine lv_aload_n hx hb dX5_init_77 rfl (lv_at hls 0 rfl) ?_
  refine lv_iconst (v := 5) hx hb dX5_init_78 (by decide +kernel) ?_
  refine pfN (k := 13) (kl := 8) (q := a + 9) (ty := .int) hx hb hts in_X5_init_X5 tyX5 tyX5_ok nmX5 hown hB hP hD hS rfl (by decide) (List.mem_of_getElem? (i := 15) rfl) rfl (tyX5_ok 13 (by decide)) rfl rfl (Nat.le_of_ble_eq_true rfl) rfl (by omega) dX5_init_79 (fun H9 locs9 hsz9 hP9 hD9 hS9 => ?_)
  clear hP hD hS hsz
  have hP : va_P D vwCl ((a, .inr (5, [.ref (a + 1), .ref (a + 2), .ref (a + 3), .int 0, .ref (a + 4), .int 0, .ref (a + 5), .ref (a + 6), .ref (a + 7), .ref (a + 8), .int 0, .ref (a + 9), .int 0, .int 5, .int 0, .int 0, .int 0, .int 0, .int 0, .null, .null])) :: ([(a + 1, .inl (C 0, 375, .inl (fun _ => 0))), (a + 2, .inl (C 1, 2, .inl (fun _ => 0))), (a + 3, .inl (C 0, 200, .inl (fun _ => 0))), (a + 4, .inl (C 0, 48, .inl (fun _ => 0))), (a + 5, .inl (C 0, 6, .inl (fun _ => 0))), (a + 6, .inl (C 0, 6, .inl (fun _ => 0))), (a + 7, .inl (C 0, 6, .inl (fun _ => 0))), (a + 8, .inl (C 0, 6, .inl (fun _ => 0))), (a + 9, .inl (C 0, 12, .inl (fun _ => 0)))])) H9 := hP9
  have hD : va_D (fun q => a ≤ q) ((a, .inr (5, [.ref (a + 1), .ref (a + 2), .ref (a + 3), .int 0, .ref (a + 4), .int 0, .ref (a + 5), .ref (a + 6), .ref (a + 7), .ref (a + 8), .int 0, .ref (a + 9), .int 0, .int 5, .int 0, .int 0, .int 0, .int 0, .int 0, .null, .null])) :: ([(a + 1, .inl (C 0, 375, .inl (fun _ => 0))), (a + 2, .inl (C 1, 2, .inl (fun _ => 0))), (a + 3, .inl (C 0, 200, .inl (fun _ => 0))), (a + 4, .inl (C 0, 48, .inl (fun _ => 0))), (a + 5, .inl (C 0, 6, .inl (fun _ => 0))), (a + 6, .inl (C 0, 6, .inl (fun _ => 0))), (a + 7, .inl (C 0, 6, .inl (fun _ => 0))), (a + 8, .inl (C 0, 6, .inl (fun _ => 0))), (a + 9, .inl (C 0, 12, .inl (fun _ => 0)))])) := hD9
  have hS := hS9
  have hsz := hsz9
  clear hP9 hD9 hS9 hsz9
  refine lv_aload_n hx hb dX5_init_82 rfl (lv_at hls 0 rfl) ?_
  refine lv_sipush (v := 600) hx hb dX5_init_83 (by decide +kernel) ?_
  refine nwI (N := 600) (h := a + 10) hx hb (hts _ (List.mem_of_getElem? (i := 4) rfl)) hB hP hD hS hA (by decide +kernel) (by decide +kernel) (by omega) (show 9 + 1 ≤ 11 by omega) (show 661 + 600 ≤ 1961 by omega) (by omega) dX5_init_86 (fun H9 hsz9 hP9 hD9 hS9 => ?_)
  refine W.widen (k := 10) (n := 1261) (by omega) (by omega) ?_
  clear hP hD hS hsz
  have hP : va_P D vwCl ((a, .inr (5, [.ref (a + 1), .ref (a + 2), .ref (a + 3), .int 0, .ref (a + 4), .int 0, .ref (a + 5), .ref (a + 6), .ref (a + 7), .ref (a + 8), .int 0, .ref (a + 9), .int 0, .int 5, .int 0, .int 0, .int 0, .int 0, .int 0, .null, .null])) :: ([(a + 1, .inl (C 0, 375, .inl (fun _ => 0))), (a + 2, .inl (C 1, 2, .inl (fun _ => 0))), (a + 3, .inl (C 0, 200, .inl (fun _ => 0))), (a + 4, .inl (C 0, 48, .inl (fun _ => 0))), (a + 5, .inl (C 0, 6, .inl (fun _ => 0))), (a + 6, .inl (C 0, 6, .inl (fun _ => 0))), (a + 7, .inl (C 0, 6, .inl (fun _ => 0))), (a + 8, .inl (C 0, 6, .inl (fun _ => 0))), (a + 9, .inl (C 0, 12, .inl (fun _ => 0))), (a + 10, .inl (C 0, 600, .inl (fun _ => 0)))])) H9 := hP9
  have hD : va_D (fun q => a ≤ q) ((a, .inr (5, [.ref (a + 1), .ref (a + 2), .ref (a + 3), .int 0, .ref (a + 4), .int 0, .ref (a + 5), .ref (a + 6), .ref (a + 7), .ref (a + 8), .int 0, .ref (a + 9), .int 0, .int 5, .int 0, .int 0, .int 0, .int 0, .int 0, .null, .null])) :: ([(a + 1, .inl (C 0, 375, .inl (fun _ => 0))), (a + 2, .inl (C 1, 2, .inl (fun _ => 0))), (a + 3, .inl (C 0, 200, .inl (fun _ => 0))), (a + 4, .inl (C 0, 48, .inl (fun _ => 0))), (a + 5, .inl (C 0, 6, .inl (fun _ => 0))), (a + 6, .inl (C 0, 6, .inl (fun _ => 0))), (a + 7, .inl (C 0, 6, .inl (fun _ => 0))), (a + 8, .inl (C 0, 6, .inl (fun _ => 0))), (a + 9, .inl (C 0, 12, .inl (fun _ => 0))), (a + 10, .inl (C 0, 600, .inl (fun _ => 0)))])) := hD9
  have hS := hS9
  have hsz := hsz9
  clear hP9 hD9 hS9 hsz9
  refine pfF (k := 19) (kl := 9) (q := a + 10) (ty := .array .int) hx hb hts in_X5_init_X5 tyX5 tyX5_ok nmX5 hown hname hB hP hD hS rfl (by decide) (List.mem_of_getElem? (i := 16) rfl) rfl rfl (tyX5_ok 19 (by decide)) rfl rfl (Nat.le_of_ble_eq_true rfl) rfl (by omega) dX5_init_88 (fun H9 locs9 hsz9 hP9 hD9 hS9 => ?_)
  clear hP hD hS hsz
  have hP : va_P D vwCl ((a, .inr (5, [.ref (a + 1), .ref (a + 2), .ref (a + 3), .int 0, .ref (a + 4), .int 0, .ref (a + 5), .ref (a + 6), .ref (a + 7), .ref (a + 8), .int 0, .ref (a + 9), .int 0, .int 5, .int 0, .int 0, .int 0, .int 0, .int 0, .ref (a + 10), .null])) :: ([(a + 1, .inl (C 0, 375, .inl (fun _ => 0))), (a + 2, .inl (C 1, 2, .inl (fun _ => 0))), (a + 3, .inl (C 0, 200, .inl (fun _ => 0))), (a + 4, .inl (C 0, 48, .inl (fun _ => 0))), (a + 5, .inl (C 0, 6, .inl (fun _ => 0))), (a + 6, .inl (C 0, 6, .inl (fun _ => 0))), (a + 7, .inl (C 0, 6, .inl (fun _ => 0))), (a + 8, .inl (C 0, 6, .inl (fun _ => 0))), (a + 9, .inl (C 0, 12, .inl (fun _ => 0))), (a + 10, .inl (C 0, 600, .inl (fun _ => 0)))])) H9 := hP9
  have hD : va_D (fun q => a ≤ q) ((a, .inr (5, [.ref (a + 1), .ref (a + 2), .ref (a + 3), .int 0, .ref (a + 4), .int 0, .ref (a + 5), .ref (a + 6), .ref (a + 7), .ref (a + 8), .int 0, .ref (a + 9), .int 0, .int 5, .int 0, .int 0, .int 0, .int 0, .int 0, .ref (a + 10), .null])) :: ([(a + 1, .inl (C 0, 375, .inl (fun _ => 0))), (a + 2, .inl (C 1, 2, .inl (fun _ => 0))), (a + 3, .inl (C 0, 200, .inl (fun _ => 0))), (a + 4, .inl (C 0, 48, .inl (fun _ => 0))), (a + 5, .inl (C 0, 6, .inl (fun _ => 0))), (a + 6, .inl (C 0, 6, .inl (fun _ => 0))), (a + 7, .inl (C 0, 6, .inl (fun _ => 0))), (a + 8, .inl (C 0, 6, .inl (fun _ => 0))), (a + 9, .inl (C 0, 12, .inl (fun _ => 0))), (a + 10, .inl (C 0, 600, .inl (fun _ => 0)))])) := hD9
  have hS := hS9
  have hsz := hsz9
  clear hP9 hD9 hS9 hsz9
  refine lv_aload_n hx hb dX5_init_91 rfl (lv_at hls 0 rfl) ?_
  refine lv_sipush (v := 700) hx hb dX5_init_92 (by decide +kernel) ?_
  refine nwI (N := 700) (h := a + 11) hx hb (hts _ (List.mem_of_getElem? (i := 4) rfl)) hB hP hD hS hA (by decide +kernel) (by decide +kernel) (by omega) (show 10 + 1 ≤ 11 by omega) (show 1261 + 700 ≤ 1961 by omega) (by omega) dX5_init_95 (fun H9 hsz9 hP9 hD9 hS9 => ?_)
  refine W.widen (k := 11) (n := 1961) (by omega) (by omega) ?_
  clear hP hD hS hsz
  have hP : va_P D vwCl ((a, .inr (5, [.ref (a + 1), .ref (a + 2), .ref (a + 3), .int 0, .ref (a + 4), .int 0, .ref (a + 5), .ref (a + 6), .ref (a + 7), .ref (a + 8), .int 0, .ref (a + 9), .int 0, .int 5, .int 0, .int 0, .int 0, .int 0, .int 0, .ref (a + 10), .null])) :: ([(a + 1, .inl (C 0, 375, .inl (fun _ => 0))), (a + 2, .inl (C 1, 2, .inl (fun _ => 0))), (a + 3, .inl (C 0, 200, .inl (fun _ => 0))), (a + 4, .inl (C 0, 48, .inl (fun _ => 0))), (a + 5, .inl (C 0, 6, .inl (fun _ => 0))), (a + 6, .inl (C 0, 6, .inl (fun _ => 0))), (a + 7, .inl (C 0, 6, .inl (fun _ => 0))), (a + 8, .inl (C 0, 6, .inl (fun _ => 0))), (a + 9, .inl (C 0, 12, .inl (fun _ => 0))), (a + 10, .inl (C 0, 600, .inl (fun _ => 0))), (a + 11, .inl (C 0, 700, .inl (fun _ => 0)))])) H9 := hP9
  have hD : va_D (fun q => a ≤ q) ((a, .inr (5, [.ref (a + 1), .ref (a + 2), .ref (a + 3), .int 0, .ref (a + 4), .int 0, .ref (a + 5), .ref (a + 6), .ref (a + 7), .ref (a + 8), .int 0, .ref (a + 9), .int 0, .int 5, .int 0, .int 0, .int 0, .int 0, .int 0, .ref (a + 10), .null])) :: ([(a + 1, .inl (C 0, 375, .inl (fun _ => 0))), (a + 2, .inl (C 1, 2, .inl (fun _ => 0))), (a + 3, .inl (C 0, 200, .inl (fun _ => 0))), (a + 4, .inl (C 0, 48, .inl (fun _ => 0))), (a + 5, .inl (C 0, 6, .inl (fun _ => 0))), (a + 6, .inl (C 0, 6, .inl (fun _ => 0))), (a + 7, .inl (C 0, 6, .inl (fun _ => 0))), (a + 8, .inl (C 0, 6, .inl (fun _ => 0))), (a + 9, .inl (C 0, 12, .inl (fun _ => 0))), (a + 10, .inl (C 0, 600, .inl (fun _ => 0))), (a + 11, .inl (C 0, 700, .inl (fun _ => 0)))])) := hD9
  have hS := hS9
  have hsz := hsz9
  clear hP9 hD9 hS9 hsz9
  refine pfF (k := 20) (kl := 10) (q := a + 11) (ty := .array .int) hx hb hts in_X5_init_X5 tyX5 tyX5_ok nmX5 hown hname hB hP hD hS rfl (by decide) (List.mem_of_getElem? (i := 17) rfl) rfl rfl (tyX5_ok 20 (by decide)) rfl rfl (Nat.le_of_ble_eq_true rfl) rfl (by omega) dX5_init_97 (fun H9 locs9 hsz9 hP9 hD9 hS9 => ?_)
  clear hP hD hS hsz
  have hP : va_P D vwCl ((a, .inr (5, [.ref (a + 1), .ref (a + 2), .ref (a + 3), .int 0, .ref (a + 4), .int 0, .ref (a + 5), .ref (a + 6), .ref (a + 7), .ref (a + 8), .int 0, .ref (a + 9), .int 0, .int 5, .int 0, .int 0, .int 0, .int 0, .int 0, .ref (a + 10), .ref (a + 11)])) :: ([(a + 1, .inl (C 0, 375, .inl (fun _ => 0))), (a + 2, .inl (C 1, 2, .inl (fun _ => 0))), (a + 3, .inl (C 0, 200, .inl (fun _ => 0))), (a + 4, .inl (C 0, 48, .inl (fun _ => 0))), (a + 5, .inl (C 0, 6, .inl (fun _ => 0))), (a + 6, .inl (C 0, 6, .inl (fun _ => 0))), (a + 7, .inl (C 0, 6, .inl (fun _ => 0))), (a + 8, .inl (C 0, 6, .inl (fun _ => 0))), (a + 9, .inl (C 0, 12, .inl (fun _ => 0))), (a + 10, .inl (C 0, 600, .inl (fun _ => 0))), (a + 11, .inl (C 0, 700, .inl (fun _ => 0)))])) H9 := hP9
  have hD : va_D (fun q => a ≤ q) ((a, .inr (5, [.ref (a + 1), .ref (a + 2), .ref (a + 3), .int 0, .ref (a + 4), .int 0, .ref (a + 5), .ref (a + 6), .ref (a + 7), .ref (a + 8), .int 0, .ref (a + 9), .int 0, .int 5, .int 0, .int 0, .int 0, .int 0, .int 0, .ref (a + 10), .ref (a + 11)])) :: ([(a + 1, .inl (C 0, 375, .inl (fun _ => 0))), (a + 2, .inl (C 1, 2, .inl (fun _ => 0))), (a + 3, .inl (C 0, 200, .inl (fun _ => 0))), (a + 4, .inl (C 0, 48, .inl (fun _ => 0))), (a + 5, .inl (C 0, 6, .inl (fun _ => 0))), (a + 6, .inl (C 0, 6, .inl (fun _ => 0))), (a + 7, .inl (C 0, 6, .inl (fun _ => 0))), (a + 8, .inl (C 0, 6, .inl (fun _ => 0))), (a + 9, .inl (C 0, 12, .inl (fun _ => 0))), (a + 10, .inl (C 0, 600, .inl (fun _ => 0))), (a + 11, .inl (C 0, 700, .inl (fun _ => 0)))])) := hD9
  have hS := hS9
  have hsz := hsz9
  clear hP9 hD9 hS9 hsz9
  exact W.vret hx hb hr (fun t ht hW => ⟨⟨(), rfl, trivial, by rw [ht]; omega, by rw [ht]; exact hP, hD⟩, hS.F ht⟩) hS.2.2 dX5_init_100

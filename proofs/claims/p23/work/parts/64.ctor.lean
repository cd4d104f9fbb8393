/-! ===== 64 the constructors ===== -/
theorem nd_one {A : Nat → Prop} {x : Nat × va_E} (h : A x.1 := by first | exact Nat.le_refl _ | assumption) : va_D A [x] := by
  refine ⟨fun i j p q hi hj _ => ?_, fun k q hk => ?_⟩
  · have h1 : i < 1 := (List.getElem?_eq_some_iff.mp hi).1
    have h2 : j < 1 := (List.getElem?_eq_some_iff.mp hj).1
    omega
  · have h1 : k < 1 := (List.getElem?_eq_some_iff.mp hk).1
    rw [show k = 0 by omega] at hk
    cases hk
    exact h
def stW (C : Nat → ClassId) (a : Nat) : va_W := [(a, .inr (1, [.int 0, .ref (a + 1), .ref (a + 2), .int 0, .ref (a + 3), .ref (a + 4), .ref (a + 5), .ref (a + 6), .ref (a + 7), .int 0])), (a + 1, .inl (C 0, 6, .inl (fun _ => 0))), (a + 2, .inl (C 0, 6, .inl (fun _ => 0))), (a + 3, .inl (C 0, 12, .inl (fun _ => 0))), (a + 4, .inl (C 0, 12, .inl (fun _ => 0))), (a + 5, .inl (C 0, 12, .inl (fun _ => 0))), (a + 6, .inl (C 0, 12, .inl (fun _ => 0))), (a + 7, .inl (C 0, 12, .inl (fun _ => 0)))]
def tdW (C : Nat → ClassId) (a : Nat) : va_W := [(a, .inr (3, [.int 0, .ref (a + 1), .ref (a + 2), .ref (a + 3), .ref (a + 4), .ref (a + 5), .int 0, .ref (a + 6), .ref (a + 7), .int 5])), (a + 1, .inl (C 0, 6, .inl (fun _ => 0))), (a + 2, .inl (C 0, 6, .inl (fun _ => 0))), (a + 3, .inl (C 0, 6, .inl (fun _ => 0))), (a + 4, .inl (C 0, 6, .inl (fun _ => 0))), (a + 5, .inl (C 0, 6, .inl (fun _ => 0))), (a + 6, .inl (C 0, 6, .inl (fun _ => 0))), (a + 7, .inl (C 0, 6, .inl (fun _ => 0)))]
def moW (C : Nat → ClassId) (a : Nat) : va_W := [(a, .inr (5, [.ref (a + 1), .ref (a + 2), .ref (a + 3), .int 0, .ref (a + 4), .int 0, .ref (a + 5), .ref (a + 6), .ref (a + 7), .ref (a + 8), .int 0, .ref (a + 9), .int 0, .int 5, .int 0, .int 0, .int 0, .int 0, .int 0, .ref (a + 10), .ref (a + 11)])), (a + 1, .inl (C 0, 375, .inl (fun _ => 0))), (a + 2, .inl (C 1, 2, .inl (fun _ => 0))), (a + 3, .inl (C 0, 200, .inl (fun _ => 0))), (a + 4, .inl (C 0, 48, .inl (fun _ => 0))), (a + 5, .inl (C 0, 6, .inl (fun _ => 0))), (a + 6, .inl (C 0, 6, .inl (fun _ => 0))), (a + 7, .inl (C 0, 6, .inl (fun _ => 0))), (a + 8, .inl (C 0, 6, .inl (fun _ => 0))), (a + 9, .inl (C 0, 12, .inl (fun _ => 0))), (a + 10, .inl (C 0, 600, .inl (fun _ => 0))), (a + 11, .inl (C 0, 700, .inl (fun _ => 0)))]
def txW (C : Nat → ClassId) (a : Nat) : va_W := [(a, .inr (2, [.ref (a + 1), .int 0, .ref (a + 2), .int 0, .int 0, .int 0, .int 0, .int 0])), (a + 1, .inl (C 0, 200, .inl (fun _ => 0)))] ++ tdW C (a + 2)
def huW (C : Nat → ClassId) (a : Nat) : va_W := [(a, .inr (0, [.ref (a + 1), .ref (a + 9), .ref (a + 16), .ref (a + 17), .int 0]))] ++ mrW C (a + 1) 7 100 ++ mrW C (a + 9) 6 100 ++ [(a + 16, .inl (C 0, 100, .inl (fun _ => 0))), (a + 17, .inl (C 0, 6, .inl (fun _ => 0)))]
theorem in_X1_init_X1 : ∀ x ∈ u_ws RX1 TX1 10, x ∈ wsX1_init := by decide +kernel
set_option maxRecDepth 100000 in
set_option maxHeartbeats 4000000 in
theorem n_X1 (l : Launch) (D : va_G) (C : Nat → ClassId) : NM l D C yX1_init wsX1_init { frames := 1, cells := 7, slots := 72, locals := 12 } 1 [.int 0, .null, .null, .int 0, .null, .null, .null, .null, .null, .int 0] (stW C) 7 72 := by
  refine nm_start (own := RX1) (cc := cX1_init) (by decide) rfl rfl rfl ?_
  intro p e s m args below meth c ls a hx hb hr hml hown hts hlk hname hB hsz0 hP hls
  have hD : va_D (fun q => a ≤ q) [(a, .inr (1, [.int 0, .null, .null, .int 0, .null, .null, .null, .null, .null, .int 0]))] := nd_one
  have hS : va_S (fun q => a ≤ q) s.heap s.heap [] := va_S.rf
  have hA : ∀ q, s.heap.size ≤ q → a ≤ q := fun q h => by omega
  have hsz : s.heap.size = s.heap.size + 0 := rfl
  refine lv_aload_n hx hb dX1_init_0 rfl (lv_at hls 0 rfl) ?_
  refine W.objInit hx hb hown (hts _ (List.mem_of_getElem? (i := 1) rfl)) (hts _ (List.mem_of_getElem? (i := 2) rfl)) (hts _ (List.mem_of_getElem? (i := 3) rfl)) rfl (by rw [hml]; exact hls.1) rfl dX1_init_1 (Nat.le_of_ble_eq_true rfl) (Nat.le_of_ble_eq_true rfl) ?_
  refine W.eq (g2 := F0 m 4 ls []) rfl ?_
  refine lv_aload_n hx hb dX1_init_4 rfl (lv_at hls 0 rfl) ?_
  refine lv_bipush (v := 6) hx hb dX1_init_5 (by decide +kernel) ?_
  refine nwI (N := 6) (h := a + 1) hx hb (hts _ (List.mem_of_getElem? (i := 4) rfl)) hB hP hD hS hA (by decide +kernel) (by decide +kernel) (by omega) (show 0 + 1 ≤ 7 by omega) (show 0 + 6 ≤ 72 by omega) (by omega) dX1_init_7 (fun H9 hsz9 hP9 hD9 hS9 => ?_)
  refine W.widen (k := 1) (n := 6) (by omega) (by omega) ?_
  clear hP hD hS hsz
  have hP : va_P D vwCl ((a, .inr (1, [.int 0, .null, .null, .int 0, .null, .null, .null, .null, .null, .int 0])) :: ([(a + 1, .inl (C 0, 6, .inl (fun _ => 0)))])) H9 := hP9
  have hD : va_D (fun q => a ≤ q) ((a, .inr (1, [.int 0, .null, .null, .int 0, .null, .null, .null, .null, .null, .int 0])) :: ([(a + 1, .inl (C 0, 6, .inl (fun _ => 0)))])) := hD9
  have hS := hS9
  have hsz := hsz9
  clear hP9 hD9 hS9 hsz9
  refine pfF (k := 1) (kl := 0) (q := a + 1) (ty := .array .int) hx hb hts in_X1_init_X1 tyX1 tyX1_ok nmX1 hown hname hB hP hD hS rfl (by decide) (List.mem_of_getElem? (i := 5) rfl) rfl rfl (tyX1_ok 1 (by decide)) rfl rfl (Nat.le_of_ble_eq_true rfl) rfl (by omega) dX1_init_9 (fun H9 locs9 hsz9 hP9 hD9 hS9 => ?_)
  clear hP hD hS hsz
  have hP : va_P D vwCl ((a, .inr (1, [.int 0, .ref (a + 1), .null, .int 0, .null, .null, .null, .null, .null, .int 0])) :: ([(a + 1, .inl (C 0, 6, .inl (fun _ => 0)))])) H9 := hP9
  have hD : va_D (fun q => a ≤ q) ((a, .inr (1, [.int 0, .ref (a + 1), .null, .int 0, .null, .null, .null, .null, .null, .int 0])) :: ([(a + 1, .inl (C 0, 6, .inl (fun _ => 0)))])) := hD9
  have hS := hS9
  have hsz := hsz9
  clear hP9 hD9 hS9 hsz9
  refine lv_aload_n hx hb dX1_init_12 rfl (lv_at hls 0 rfl) ?_
  refine lv_bipush (v := 6) hx hb dX1_init_13 (by decide +kernel) ?_
  refine nwI (N := 6) (h := a + 2) hx hb (hts _ (List.mem_of_getElem? (i := 4) rfl)) hB hP hD hS hA (by decide +kernel) (by decide +kernel) (by omega) (show 1 + 1 ≤ 7 by omega) (show 6 + 6 ≤ 72 by omega) (by omega) dX1_init_15 (fun H9 hsz9 hP9 hD9 hS9 => ?_)
  refine W.widen (k := 2) (n := 12) (by omega) (by omega) ?_
  clear hP hD hS hsz
  have hP : va_P D vwCl ((a, .inr (1, [.int 0, .ref (a + 1), .null, .int 0, .null, .null, .null, .null, .null, .int 0])) :: ([(a + 1, .inl (C 0, 6, .inl (fun _ => 0))), (a + 2, .inl (C 0, 6, .inl (fun _ => 0)))])) H9 := hP9
  have hD : va_D (fun q => a ≤ q) ((a, .inr (1, [.int 0, .ref (a + 1), .null, .int 0, .null, .null, .null, .null, .null, .int 0])) :: ([(a + 1, .inl (C 0, 6, .inl (fun _ => 0))), (a + 2, .inl (C 0, 6, .inl (fun _ => 0)))])) := hD9
  have hS := hS9
  have hsz := hsz9
  clear hP9 hD9 hS9 hsz9
  refine pfF (k := 2) (kl := 1) (q := a + 2) (ty := .array .int) hx hb hts in_X1_init_X1 tyX1 tyX1_ok nmX1 hown hname hB hP hD hS rfl (by decide) (List.mem_of_getElem? (i := 6) rfl) rfl rfl (tyX1_ok 2 (by decide)) rfl rfl (Nat.le_of_ble_eq_true rfl) rfl (by omega) dX1_init_17 (fun H9 locs9 hsz9 hP9 hD9 hS9 => ?_)
  clear hP hD hS hsz
  have hP : va_P D vwCl ((a, .inr (1, [.int 0, .ref (a + 1), .ref (a + 2), .int 0, .null, .null, .null, .null, .null, .int 0])) :: ([(a + 1, .inl (C 0, 6, .inl (fun _ => 0))), (a + 2, .inl (C 0, 6, .inl (fun _ => 0)))])) H9 := hP9
  have hD : va_D (fun q => a ≤ q) ((a, .inr (1, [.int 0, .ref (a + 1), .ref (a + 2), .int 0, .null, .null, .null, .null, .null, .int 0])) :: ([(a + 1, .inl (C 0, 6, .inl (fun _ => 0))), (a + 2, .inl (C 0, 6, .inl (fun _ => 0)))])) := hD9
  have hS := hS9
  have hsz := hsz9
  clear hP9 hD9 hS9 hsz9
  refine lv_aload_n hx hb dX1_init_20 rfl (lv_at hls 0 rfl) ?_
  refine lv_bipush (v := 12) hx hb dX1_init_21 (by decide +kernel) ?_
  refine nwI (N := 12) (h := a + 3) hx hb (hts _ (List.mem_of_getElem? (i := 4) rfl)) hB hP hD hS hA (by decide +kernel) (by decide +kernel) (by omega) (show 2 + 1 ≤ 7 by omega) (show 12 + 12 ≤ 72 by omega) (by omega) dX1_init_23 (fun H9 hsz9 hP9 hD9 hS9 => ?_)
  refine W.widen (k := 3) (n := 24) (by omega) (by omega) ?_
  clear hP hD hS hsz
  have hP : va_P D vwCl ((a, .inr (1, [.int 0, .ref (a + 1), .ref (a + 2), .int 0, .null, .null, .null, .null, .null, .int 0])) :: ([(a + 1, .inl (C 0, 6, .inl (fun _ => 0))), (a + 2, .inl (C 0, 6, .inl (fun _ => 0))), (a + 3, .inl (C 0, 12, .inl (fun _ => 0)))])) H9 := hP9
  have hD : va_D (fun q => a ≤ q) ((a, .inr (1, [.int 0, .ref (a + 1), .ref (a + 2), .int 0, .null, .null, .null, .null, .null, .int 0])) :: ([(a + 1, .inl (C 0, 6, .inl (fun _ => 0))), (a + 2, .inl (C 0, 6, .inl (fun _ => 0))), (a + 3, .inl (C 0, 12, .inl (fun _ => 0)))])) := hD9
  have hS := hS9
  have hsz := hsz9
  clear hP9 hD9 hS9 hsz9
  refine pfF (k := 4) (kl := 2) (q := a + 3) (ty := .array .int) hx hb hts in_X1_init_X1 tyX1 tyX1_ok nmX1 hown hname hB hP hD hS rfl (by decide) (List.mem_of_getElem? (i := 7) rfl) rfl rfl (tyX1_ok 4 (by decide)) rfl rfl (Nat.le_of_ble_eq_true rfl) rfl (by omega) dX1_init_25 (fun H9 locs9 hsz9 hP9 hD9 hS9 => ?_)
  clear hP hD hS hsz
  have hP : va_P D vwCl ((a, .inr (1, [.int 0, .ref (a + 1), .ref (a + 2), .int 0, .ref (a + 3), .null, .null, .null, .null, .int 0])) :: ([(a + 1, .inl (C 0, 6, .inl (fun _ => 0))), (a + 2, .inl (C 0, 6, .inl (fun _ => 0))), (a + 3, .inl (C 0, 12, .inl (fun _ => 0)))])) H9 := hP9
  have hD : va_D (fun q => a ≤ q) ((a, .inr (1, [.int 0, .ref (a + 1), .ref (a + 2), .int 0, .ref (a + 3), .null, .null, .null, .null, .int 0])) :: ([(a + 1, .inl (C 0, 6, .inl (fun _ => 0))), (a + 2, .inl (C 0, 6, .inl (fun _ => 0))), (a + 3, .inl (C 0, 12, .inl (fun _ => 0)))])) := hD9
  have hS := hS9
  have hsz := hsz9
  clear hP9 hD9 hS9 hsz9
  refine lv_aload_n hx hb dX1_init_28 rfl (lv_at hls 0 rfl) ?_
  refine lv_bipush (v := 12) hx hb dX1_init_29 (by decide +kernel) ?_
  refine nwI (N := 12) (h := a + 4) hx hb (hts _ (List.mem_of_getElem? (i := 4) rfl)) hB hP hD hS hA (by decide +kernel) (by decide +kernel) (by omega) (show 3 + 1 ≤ 7 by omega) (show 24 + 12 ≤ 72 by omega) (by omega) dX1_init_31 (fun H9 hsz9 hP9 hD9 hS9 => ?_)
  refine W.widen (k := 4) (n := 36) (by omega) (by omega) ?_
  clear hP hD hS hsz
  have hP : va_P D vwCl ((a, .inr (1, [.int 0, .ref (a + 1), .ref (a + 2), .int 0, .ref (a + 3), .null, .null, .null, .null, .int 0])) :: ([(a + 1, .inl (C 0, 6, .inl (fun _ => 0))), (a + 2, .inl (C 0, 6, .inl (fun _ => 0))), (a + 3, .inl (C 0, 12, .inl (fun _ => 0))), (a + 4, .inl (C 0, 12, .inl (fun _ => 0)))])) H9 := hP9
  have hD : va_D (fun q => a ≤ q) ((a, .inr (1, [.int 0, .ref (a + 1), .ref (a + 2), .int 0, .ref (a + 3), .null, .null, .null, .null, .int 0])) :: ([(a + 1, .inl (C 0, 6, .inl (fun _ => 0))), (a + 2, .inl (C 0, 6, .inl (fun _ => 0))), (a + 3, .inl (C 0, 12, .inl (fun _ => 0))), (a + 4, .inl (C 0, 12, .inl (fun _ => 0)))])) := hD9
  have hS := hS9
  have hsz := hsz9
  clear hP9 hD9 hS9 hsz9
  refine pfF (k := 5) (kl := 3) (q := a + 4) (ty := .array .int) hx hb hts in_X1_init_X1 tyX1 tyX1_ok nmX1 hown hname hB hP hD hS rfl (by decide) (List.mem_of_getElem? (i := 8) rfl) rfl rfl (tyX1_ok 5 (by decide)) rfl rfl (Nat.le_of_ble_eq_true rfl) rfl (by omega) dX1_init_33 (fun H9 locs9 hsz9 hP9 hD9 hS9 => ?_)
  clear hP hD hS hsz
  have hP : va_P D vwCl ((a, .inr (1, [.int 0, .ref (a + 1), .ref (a + 2), .int 0, .ref (a + 3), .ref (a + 4), .null, .null, .null, .int 0])) :: ([(a + 1, .inl (C 0, 6, .inl (fun _ => 0))), (a + 2, .inl (C 0, 6, .inl (fun _ => 0))), (a + 3, .inl (C 0, 12, .inl (fun _ => 0))), (a + 4, .inl (C 0, 12, .inl (fun _ => 0)))])) H9 := hP9
  have hD : va_D (fun q => a ≤ q) ((a, .inr (1, [.int 0, .ref (a + 1), .ref (a + 2), .int 0, .ref (a + 3), .ref (a + 4), .null, .null, .null, .int 0])) :: ([(a + 1, .inl (C 0, 6, .inl (fun _ => 0))), (a + 2, .inl (C 0, 6, .inl (fun _ => 0))), (a + 3, .inl (C 0, 12, .inl (fun _ => 0))), (a + 4, .inl (C 0, 12, .inl (fun _ => 0)))])) := hD9
  have hS := hS9
  have hsz := hsz9
  clear hP9 hD9 hS9 hsz9
  refine lv_aload_n hx hb dX1_init_36 rfl (lv_at hls 0 rfl) ?_
  refine lv_bipush (v := 12) hx hb dX1_init_37 (by decide +kernel) ?_
  refine nwI (N := 12) (h := a + 5) hx hb (hts _ (List.mem_of_getElem? (i := 4) rfl)) hB hP hD hS hA (by decide +kernel) (by decide +kernel) (by omega) (show 4 + 1 ≤ 7 by omega) (show 36 + 12 ≤ 72 by omega) (by omega) dX1_init_39 (fun H9 hsz9 hP9 hD9 hS9 => ?_)
  refine W.widen (k := 5) (n := 48) (by omega) (by omega) ?_
  clear hP hD hS hsz
  have hP : va_P D vwCl ((a, .inr (1, [.int 0, .ref (a + 1), .ref (a + 2), .int 0, .ref (a + 3), .ref (a + 4), .null, .null, .null, .int 0])) :: ([(a + 1, .inl (C 0, 6, .inl (fun _ => 0))), (a + 2, .inl (C 0, 6, .inl (fun _ => 0))), (a + 3, .inl (C 0, 12, .inl (fun _ => 0))), (a + 4, .inl (C 0, 12, .inl (fun _ => 0))), (a + 5, .inl (C 0, 12, .inl (fun _ => 0)))])) H9 := hP9
  have hD : va_D (fun q => a ≤ q) ((a, .inr (1, [.int 0, .ref (a + 1), .ref (a + 2), .int 0, .ref (a + 3), .ref (a + 4), .null, .null, .null, .int 0])) :: ([(a + 1, .inl (C 0, 6, .inl (fun _ => 0))), (a + 2, .inl (C 0, 6, .inl (fun _ => 0))), (a + 3, .inl (C 0, 12, .inl (fun _ => 0))), (a + 4, .inl (C 0, 12, .inl (fun _ => 0))), (a + 5, .inl (C 0, 12, .inl (fun _ => 0)))])) := hD9
  have hS := hS9
  have hsz := hsz9
  clear hP9 hD9 hS9 hsz9
  refine pfF (k := 6) (kl := 4) (q := a + 5) (ty := .array .int) hx hb hts in_X1_init_X1 tyX1 tyX1_ok nmX1 hown hname hB hP hD hS rfl (by decide) (List.mem_of_getElem? (i := 9) rfl) rfl rfl (tyX1_ok 6 (by decide)) rfl rfl (Nat.le_of_ble_eq_true rfl) rfl (by omega) dX1_init_41 (fun H9 locs9 hsz9 hP9 hD9 hS9 => ?_)
  clear hP hD hS hsz
  have hP : va_P D vwCl ((a, .inr (1, [.int 0, .ref (a + 1), .ref (a + 2), .int 0, .ref (a + 3), .ref (a + 4), .ref (a + 5), .null, .null, .int 0])) :: ([(a + 1, .inl (C 0, 6, .inl (fun _ => 0))), (a + 2, .inl (C 0, 6, .inl (fun _ => 0))), (a + 3, .inl (C 0, 12, .inl (fun _ => 0))), (a + 4, .inl (C 0, 12, .inl (fun _ => 0))), (a + 5, .inl (C 0, 12, .inl (fun _ => 0)))])) H9 := hP9
  have hD : va_D (fun q => a ≤ q) ((a, .inr (1, [.int 0, .ref (a + 1), .ref (a + 2), .int 0, .ref (a + 3), .ref (a + 4), .ref (a + 5), .null, .null, .int 0])) :: ([(a + 1, .inl (C 0, 6, .inl (fun _ => 0))), (a + 2, .inl (C 0, 6, .inl (fun _ => 0))), (a + 3, .inl (C 0, 12, .inl (fun _ => 0))), (a + 4, .inl (C 0, 12, .inl (fun _ => 0))), (a + 5, .inl (C 0, 12, .inl (fun _ => 0)))])) := hD9
  have hS := hS9
  have hsz := hsz9
  clear hP9 hD9 hS9 hsz9
  refine lv_aload_n hx hb dX1_init_44 rfl (lv_at hls 0 rfl) ?_
  refine lv_bipush (v := 12) hx hb dX1_init_45 (by decide +kernel) ?_
  refine nwI (N := 12) (h := a + 6) hx hb (hts _ (List.mem_of_getElem? (i := 4) rfl)) hB hP hD hS hA (by decide +kernel) (by decide +kernel) (by omega) (show 5 + 1 ≤ 7 by omega) (show 48 + 12 ≤ 72 by omega) (by omega) dX1_init_47 (fun H9 hsz9 hP9 hD9 hS9 => ?_)
  refine W.widen (k := 6) (n := 60) (by omega) (by omega) ?_
  clear hP hD hS hsz
  have hP : va_P D vwCl ((a, .inr (1, [.int 0, .ref (a + 1), .ref (a + 2), .int 0, .ref (a + 3), .ref (a + 4), .ref (a + 5), .null, .null, .int 0])) :: ([(a + 1, .inl (C 0, 6, .inl (fun _ => 0))), (a + 2, .inl (C 0, 6, .inl (fun _ => 0))), (a + 3, .inl (C 0, 12, .inl (fun _ => 0))), (a + 4, .inl (C 0, 12, .inl (fun _ => 0))), (a + 5, .inl (C 0, 12, .inl (fun _ => 0))), (a + 6, .inl (C 0, 12, .inl (fun _ => 0)))])) H9 := hP9
  have hD : va_D (fun q => a ≤ q) ((a, .inr (1, [.int 0, .ref (a + 1), .ref (a + 2), .int 0, .ref (a + 3), .ref (a + 4), .ref (a + 5), .null, .null, .int 0])) :: ([(a + 1, .inl (C 0, 6, .inl (fun _ => 0))), (a + 2, .inl (C 0, 6, .inl (fun _ => 0))), (a + 3, .inl (C 0, 12, .inl (fun _ => 0))), (a + 4, .inl (C 0, 12, .inl (fun _ => 0))), (a + 5, .inl (C 0, 12, .inl (fun _ => 0))), (a + 6, .inl (C 0, 12, .inl (fun _ => 0)))])) := hD9
  have hS := hS9
  have hsz := hsz9
  clear hP9 hD9 hS9 hsz9
  refine pfF (k := 7) (kl := 5) (q := a + 6) (ty := .array .int) hx hb hts in_X1_init_X1 tyX1 tyX1_ok nmX1 hown hname hB hP hD hS rfl (by decide) (List.mem_of_getElem? (i := 10) rfl) rfl rfl (tyX1_ok 7 (by decide)) rfl rfl (Nat.le_of_ble_eq_true rfl) rfl (by omega) dX1_init_49 (fun H9 locs9 hsz9 hP9 hD9 hS9 => ?_)
  clear hP hD hS hsz
  have hP : va_P D vwCl ((a, .inr (1, [.int 0, .ref (a + 1), .ref (a + 2), .int 0, .ref (a + 3), .ref (a + 4), .ref (a + 5), .ref (a + 6), .null, .int 0])) :: ([(a + 1, .inl (C 0, 6, .inl (fun _ => 0))), (a + 2, .inl (C 0, 6, .inl (fun _ => 0))), (a + 3, .inl (C 0, 12, .inl (fun _ => 0))), (a + 4, .inl (C 0, 12, .inl (fun _ => 0))), (a + 5, .inl (C 0, 12, .inl (fun _ => 0))), (a + 6, .inl (C 0, 12, .inl (fun _ => 0)))])) H9 := hP9
  have hD : va_D (fun q => a ≤ q) ((a, .inr (1, [.int 0, .ref (a + 1), .ref (a + 2), .int 0, .ref (a + 3), .ref (a + 4), .ref (a + 5), .ref (a + 6), .null, .int 0])) :: ([(a + 1, .inl (C 0, 6, .inl (fun _ => 0))), (a + 2, .inl (C 0, 6, .inl (fun _ => 0))), (a + 3, .inl (C 0, 12, .inl (fun _ => 0))), (a + 4, .inl (C 0, 12, .inl (fun _ => 0))), (a + 5, .inl (C 0, 12, .inl (fun _ => 0))), (a + 6, .inl (C 0, 12, .inl (fun _ => 0)))])) := hD9
  have hS := hS9
  have hsz := hsz9
  clear hP9 hD9 hS9 hsz9
  refine lv_aload_n hx hb dX1_init_52 rfl (lv_at hls 0 rfl) ?_
  refine lv_bipush (v := 12) hx hb dX1_init_53 (by decide +kernel) ?_
  refine nwI (N := 12) (h := a + 7) hx hb (hts _ (List.mem_of_getElem? (i := 4) rfl)) hB hP hD hS hA (by decide +kernel) (by decide +kernel) (by omega) (show 6 + 1 ≤ 7 by omega) (show 60 + 12 ≤ 72 by omega) (by omega) dX1_init_55 (fun H9 hsz9 hP9 hD9 hS9 => ?_)
  refine W.widen (k := 7) (n := 72) (by omega) (by omega) ?_
  clear hP hD hS hsz
  have hP : va_P D vwCl ((a, .inr (1, [.int 0, .ref (a + 1), .ref (a + 2), .int 0, .ref (a + 3), .ref (a + 4), .ref (a + 5), .ref (a + 6), .null, .int 0])) :: ([(a + 1, .inl (C 0, 6, .inl (fun _ => 0))), (a + 2, .inl (C 0, 6, .inl (fun _ => 0))), (a + 3, .inl (C 0, 12, .inl (fun _ => 0))), (a + 4, .inl (C 0, 12, .inl (fun _ => 0))), (a + 5, .inl (C 0, 12, .inl (fun _ => 0))), (a + 6, .inl (C 0, 12, .inl (fun _ => 0))), (a + 7, .inl (C 0, 12, .inl (fun _ => 0)))])) H9 := hP9
  have hD : va_D (fun q => a ≤ q) ((a, .inr (1, [.int 0, .ref (a + 1), .ref (a + 2), .int 0, .ref (a + 3), .ref (a + 4), .ref (a + 5), .ref (a + 6), .null, .int 0])) :: ([(a + 1, .inl (C 0, 6, .inl (fun _ => 0))), (a + 2, .inl (C 0, 6, .inl (fun _ => 0))), (a + 3, .inl (C 0, 12, .inl (fun _ => 0))), (a + 4, .inl (C 0, 12, .inl (fun _ => 0))), (a + 5, .inl (C 0, 12, .inl (fun _ => 0))), (a + 6, .inl (C 0, 12, .inl (fun _ => 0))), (a + 7, .inl (C 0, 12, .inl (fun _ => 0)))])) := hD9
  have hS := hS9
  have hsz := hsz9
  clear hP9 hD9 hS9 hsz9
  refine pfF (k := 8) (kl := 6) (q := a + 7) (ty := .array .int) hx hb hts in_X1_init_X1 tyX1 tyX1_ok nmX1 hown hname hB hP hD hS rfl (by decide) (List.mem_of_getElem? (i := 11) rfl) rfl rfl (tyX1_ok 8 (by decide)) rfl rfl (Nat.le_of_ble_eq_true rfl) rfl (by omega) dX1_init_57 (fun H9 locs9 hsz9 hP9 hD9 hS9 => ?_)
  clear hP hD hS hsz
  have hP : va_P D vwCl ((a, .inr (1, [.int 0, .ref (a + 1), .ref (a + 2), .int 0, .ref (a + 3), .ref (a + 4), .ref (a + 5), .ref (a + 6), .ref (a + 7), .int 0])) :: ([(a + 1, .inl (C 0, 6, .inl (fun _ => 0))), (a + 2, .inl (C 0, 6, .inl (fun _ => 0))), (a + 3, .inl (C 0, 12, .inl (fun _ => 0))), (a + 4, .inl (C 0, 12, .inl (fun _ => 0))), (a + 5, .inl (C 0, 12, .inl (fun _ => 0))), (a + 6, .inl (C 0, 12, .inl (fun _ => 0))), (a + 7, .inl (C 0, 12, .inl (fun _ => 0)))])) H9 := hP9
  have hD : va_D (fun q => a ≤ q) ((a, .inr (1, [.int 0, .ref (a + 1), .ref (a + 2), .int 0, .ref (a + 3), .ref (a + 4), .ref (a + 5), .ref (a + 6), .ref (a + 7), .int 0])) :: ([(a + 1, .inl (C 0, 6, .inl (fun _ => 0))), (a + 2, .inl (C 0, 6, .inl (fun _ => 0))), (a + 3, .inl (C 0, 12, .inl (fun _ => 0))), (a + 4, .inl (C 0, 12, .inl (fun _ => 0))), (a + 5, .inl (C 0, 12, .inl (fun _ => 0))), (a + 6, .inl (C 0, 12, .inl (fun _ => 0))), (a + 7, .inl (C 0, 12, .inl (fun _ => 0)))])) := hD9
  have hS := hS9
  have hsz := hsz9
  clear hP9 hD9 hS9 hsz9
  exact W.vret hx hb hr (fun t ht hW => ⟨⟨(), rfl, trivial, by rw [ht]; omega, by rw [ht]; exact hP, hD⟩, hS.F ht⟩) hS.2.2 dX1_init_60
theorem in_X3_init_X3 : ∀ x ∈ u_ws RX3 TX3 10, x ∈ wsX3_init := by decide +kernel
set_option maxRecDepth 100000 in
set_option maxHeartbeats 4000000 in
theorem n_X3 (l : Launch) (D : va_G) (C : Nat → ClassId) : NM l D C yX3_init wsX3_init { frames := 1, cells := 7, slots := 42, locals := 12 } 3 [.int 0, .null, .null, .null, .null, .null, .int 0, .null, .null, .int 0] (tdW C) 7 42 := by
  refine nm_start (own := RX3) (cc := cX3_init) (by decide) rfl rfl rfl ?_
  intro p e s m args below meth c ls a hx hb hr hml hown hts hlk hname hB hsz0 hP hls
  have hD : va_D (fun q => a ≤ q) [(a, .inr (3, [.int 0, .null, .null, .null, .null, .null, .int 0, .null, .null, .int 0]))] := nd_one
  have hS : va_S (fun q => a ≤ q) s.heap s.heap [] := va_S.rf
  have hA : ∀ q, s.heap.size ≤ q → a ≤ q := fun q h => by omega
  have hsz : s.heap.size = s.heap.size + 0 := rfl
  refine lv_aload_n hx hb dX3_init_0 rfl (lv_at hls 0 rfl) ?_
  refine W.objInit hx hb hown (hts _ (List.mem_of_getElem? (i := 1) rfl)) (hts _ (List.mem_of_getElem? (i := 2) rfl)) (hts _ (List.mem_of_getElem? (i := 3) rfl)) rfl (by rw [hml]; exact hls.1) rfl dX3_init_1 (Nat.le_of_ble_eq_true rfl) (Nat.le_of_ble_eq_true rfl) ?_
  refine W.eq (g2 := F0 m 4 ls []) rfl ?_
  refine lv_aload_n hx hb dX3_init_4 rfl (lv_at hls 0 rfl) ?_
  refine lv_bipush (v := 6) hx hb dX3_init_5 (by decide +kernel) ?_
  refine nwI (N := 6) (h := a + 1) hx hb (hts _ (List.mem_of_getElem? (i := 4) rfl)) hB hP hD hS hA (by decide +kernel) (by decide +kernel) (by omega) (show 0 + 1 ≤ 7 by omega) (show 0 + 6 ≤ 42 by omega) (by omega) dX3_init_7 (fun H9 hsz9 hP9 hD9 hS9 => ?_)
  refine W.widen (k := 1) (n := 6) (by omega) (by omega) ?_
  clear hP hD hS hsz
  have hP : va_P D vwCl ((a, .inr (3, [.int 0, .null, .null, .null, .null, .null, .int 0, .null, .null, .int 0])) :: ([(a + 1, .inl (C 0, 6, .inl (fun _ => 0)))])) H9 := hP9
  have hD : va_D (fun q => a ≤ q) ((a, .inr (3, [.int 0, .null, .null, .null, .null, .null, .int 0, .null, .null, .int 0])) :: ([(a + 1, .inl (C 0, 6, .inl (fun _ => 0)))])) := hD9
  have hS := hS9
  have hsz := hsz9
  clear hP9 hD9 hS9 hsz9
  refine pfF (k := 1) (kl := 0) (q := a + 1) (ty := .array .int) hx hb hts in_X3_init_X3 tyX3 tyX3_ok nmX3 hown hname hB hP hD hS rfl (by decide) (List.mem_of_getElem? (i := 5) rfl) rfl rfl (tyX3_ok 1 (by decide)) rfl rfl (Nat.le_of_ble_eq_true rfl) rfl (by omega) dX3_init_9 (fun H9 locs9 hsz9 hP9 hD9 hS9 => ?_)
  clear hP hD hS hsz
  have hP : va_P D vwCl ((a, .inr (3, [.int 0, .ref (a + 1), .null, .null, .null, .null, .int 0, .null, .null, .int 0])) :: ([(a + 1, .inl (C 0, 6, .inl (fun _ => 0)))])) H9 := hP9
  have hD : va_D (fun q => a ≤ q) ((a, .inr (3, [.int 0, .ref (a + 1), .null, .null, .null, .null, .int 0, .null, .null, .int 0])) :: ([(a + 1, .inl (C 0, 6, .inl (fun _ => 0)))])) := hD9
  have hS := hS9
  have hsz := hsz9
  clear hP9 hD9 hS9 hsz9
  refine lv_aload_n hx hb dX3_init_12 rfl (lv_at hls 0 rfl) ?_
  refine lv_bipush (v := 6) hx hb dX3_init_13 (by decide +kernel) ?_
  refine nwI (N := 6) (h := a + 2) hx hb (hts _ (List.mem_of_getElem? (i := 4) rfl)) hB hP hD hS hA (by decide +kernel) (by decide +kernel) (by omega) (show 1 + 1 ≤ 7 by omega) (show 6 + 6 ≤ 42 by omega) (by omega) dX3_init_15 (fun H9 hsz9 hP9 hD9 hS9 => ?_)
  refine W.widen (k := 2) (n := 12) (by omega) (by omega) ?_
  clear hP hD hS hsz
  have hP : va_P D vwCl ((a, .inr (3, [.int 0, .ref (a + 1), .null, .null, .null, .null, .int 0, .null, .null, .int 0])) :: ([(a + 1, .inl (C 0, 6, .inl (fun _ => 0))), (a + 2, .inl (C 0, 6, .inl (fun _ => 0)))])) H9 := hP9
  have hD : va_D (fun q => a ≤ q) ((a, .inr (3, [.int 0, .ref (a + 1), .null, .null, .null, .null, .int 0, .null, .null, .int 0])) :: ([(a + 1, .inl (C 0, 6, .inl (fun _ => 0))), (a + 2, .inl (C 0, 6, .inl (fun _ => 0)))])) := hD9
  have hS := hS9
  have hsz := hsz9
  clear hP9 hD9 hS9 hsz9
  refine pfF (k := 2) (kl := 1) (q := a + 2) (ty := .array .int) hx hb hts in_X3_init_X3 tyX3 tyX3_ok nmX3 hown hname hB hP hD hS rfl (by decide) (List.mem_of_getElem? (i := 6) rfl) rfl rfl (tyX3_ok 2 (by decide)) rfl rfl (Nat.le_of_ble_eq_true rfl) rfl (by omega) dX3_init_17 (fun H9 locs9 hsz9 hP9 hD9 hS9 => ?_)
  clear hP hD hS hsz
  have hP : va_P D vwCl ((a, .inr (3, [.int 0, .ref (a + 1), .ref (a + 2), .null, .null, .null, .int 0, .null, .null, .int 0])) :: ([(a + 1, .inl (C 0, 6, .inl (fun _ => 0))), (a + 2, .inl (C 0, 6, .inl (fun _ => 0)))])) H9 := hP9
  have hD : va_D (fun q => a ≤ q) ((a, .inr (3, [.int 0, .ref (a + 1), .ref (a + 2), .null, .null, .null, .int 0, .null, .null, .int 0])) :: ([(a + 1, .inl (C 0, 6, .inl (fun _ => 0))), (a + 2, .inl (C 0, 6, .inl (fun _ => 0)))])) := hD9
  have hS := hS9
  have hsz := hsz9
  clear hP9 hD9 hS9 hsz9
  refine lv_aload_n hx hb dX3_init_20 rfl (lv_at hls 0 rfl) ?_
  refine lv_bipush (v := 6) hx hb dX3_init_21 (by decide +kernel) ?_
  refine nwI (N := 6) (h := a + 3) hx hb (hts _ (List.mem_of_getElem? (i := 4) rfl)) hB hP hD hS hA (by decide +kernel) (by decide +kernel) (by omega) (show 2 + 1 ≤ 7 by omega) (show 12 + 6 ≤ 42 by omega) (by omega) dX3_init_23 (fun H9 hsz9 hP9 hD9 hS9 => ?_)
  refine W.widen (k := 3) (n := 18) (by omega) (by omega) ?_
  clear hP hD hS hsz
  have hP : va_P D vwCl ((a, .inr (3, [.int 0, .ref (a + 1), .ref (a + 2), .null, .null, .null, .int 0, .null, .null, .int 0])) :: ([(a + 1, .inl (C 0, 6, .inl (fun _ => 0))), (a + 2, .inl (C 0, 6, .inl (fun _ => 0))), (a + 3, .inl (C 0, 6, .inl (fun _ => 0)))])) H9 := hP9
  have hD : va_D (fun q => a ≤ q) ((a, .inr (3, [.int 0, .ref (a + 1), .ref (a + 2), .null, .null, .null, .int 0, .null, .null, .int 0])) :: ([(a + 1, .inl (C 0, 6, .inl (fun _ => 0))), (a + 2, .inl (C 0, 6, .inl (fun _ => 0))), (a + 3, .inl (C 0, 6, .inl (fun _ => 0)))])) := hD9
  have hS := hS9
  have hsz := hsz9
  clear hP9 hD9 hS9 hsz9
  refine pfF (k := 3) (kl := 2) (q := a + 3) (ty := .array .int) hx hb hts in_X3_init_X3 tyX3 tyX3_ok nmX3 hown hname hB hP hD hS rfl (by decide) (List.mem_of_getElem? (i := 7) rfl) rfl rfl (tyX3_ok 3 (by decide)) rfl rfl (Nat.le_of_ble_eq_true rfl) rfl (by omega) dX3_init_25 (fun H9 locs9 hsz9 hP9 hD9 hS9 => ?_)
  clear hP hD hS hsz
  have hP : va_P D vwCl ((a, .inr (3, [.int 0, .ref (a + 1), .ref (a + 2), .ref (a + 3), .null, .null, .int 0, .null, .null, .int 0])) :: ([(a + 1, .inl (C 0, 6, .inl (fun _ => 0))), (a + 2, .inl (C 0, 6, .inl (fun _ => 0))), (a + 3, .inl (C 0, 6, .inl (fun _ => 0)))])) H9 := hP9
  have hD : va_D (fun q => a ≤ q) ((a, .inr (3, [.int 0, .ref (a + 1), .ref (a + 2), .ref (a + 3), .null, .null, .int 0, .null, .null, .int 0])) :: ([(a + 1, .inl (C 0, 6, .inl (fun _ => 0))), (a + 2, .inl (C 0, 6, .inl (fun _ => 0))), (a + 3, .inl (C 0, 6, .inl (fun _ => 0)))])) := hD9
  have hS := hS9
  have hsz := hsz9
  clear hP9 hD9 hS9 hsz9
  refine lv_aload_n hx hb dX3_init_28 rfl (lv_at hls 0 rfl) ?_
  refine lv_bipush (v := 6) hx hb dX3_init_29 (by decide +kernel) ?_
  refine nwI (N := 6) (h := a + 4) hx hb (hts _ (List.mem_of_getElem? (i := 4) rfl)) hB hP hD hS hA (by decide +kernel) (by decide +kernel) (by omega) (show 3 + 1 ≤ 7 by omega) (show 18 + 6 ≤ 42 by omega) (by omega) dX3_init_31 (fun H9 hsz9 hP9 hD9 hS9 => ?_)
  refine W.widen (k := 4) (n := 24) (by omega) (by omega) ?_
  clear hP hD hS hsz
  have hP : va_P D vwCl ((a, .inr (3, [.int 0, .ref (a + 1), .ref (a + 2), .ref (a + 3), .null, .null, .int 0, .null, .null, .int 0])) :: ([(a + 1, .inl (C 0, 6, .inl (fun _ => 0))), (a + 2, .inl (C 0, 6, .inl (fun _ => 0))), (a + 3, .inl (C 0, 6, .inl (fun _ => 0))), (a + 4, .inl (C 0, 6, .inl (fun _ => 0)))])) H9 := hP9
  have hD : va_D (fun q => a ≤ q) ((a, .inr (3, [.int 0, .ref (a + 1), .ref (a + 2), .ref (a + 3), .null, .null, .int 0, .null, .null, .int 0])) :: ([(a + 1, .inl (C 0, 6, .inl (fun _ => 0))), (a + 2, .inl (C 0, 6, .inl (fun _ => 0))), (a + 3, .inl (C 0, 6, .inl (fun _ => 0))), (a + 4, .inl (C 0, 6, .inl (fun _ => 0)))])) := hD9
  have hS := hS9
  have hsz := hsz9
  clear hP9 hD9 hS9 hsz9
  refine pfF (k := 4) (kl := 3) (q := a + 4) (ty := .array .int) hx hb hts in_X3_init_X3 tyX3 tyX3_ok nmX3 hown hname hB hP hD hS rfl (by decide) (List.mem_of_getElem? (i := 8) rfl) rfl rfl (tyX3_ok 4 (by decide)) rfl rfl (Nat.le_of_ble_eq_true rfl) rfl (by omega) dX3_init_33 (fun H9 locs9 hsz9 hP9 hD9 hS9 => ?_)
  clear hP hD hS hsz
  have hP : va_P D vwCl ((a, .inr (3, [.int 0, .ref (a + 1), .ref (a + 2), .ref (a + 3), .ref (a + 4), .null, .int 0, .null, .null, .int 0])) :: ([(a + 1, .inl (C 0, 6, .inl (fun _ => 0))), (a + 2, .inl (C 0, 6, .inl (fun _ => 0))), (a + 3, .inl (C 0, 6, .inl (fun _ => 0))), (a + 4, .inl (C 0, 6, .inl (fun _ => 0)))])) H9 := hP9
  have hD : va_D (fun q => a ≤ q) ((a, .inr (3, [.int 0, .ref (a + 1), .ref (a + 2), .ref (a + 3), .ref (a + 4), .null, .int 0, .null, .null, .int 0])) :: ([(a + 1, .inl (C 0, 6, .inl (fun _ => 0))), (a + 2, .inl (C 0, 6, .inl (fun _ => 0))), (a + 3, .inl (C 0, 6, .inl (fun _ => 0))), (a + 4, .inl (C 0, 6, .inl (fun _ => 0)))])) := hD9
  have hS := hS9
  have hsz := hsz9
  clear hP9 hD9 hS9 hsz9
  refine lv_aload_n hx hb dX3_init_36 rfl (lv_at hls 0 rfl) ?_
  refine lv_bipush (v := 6) hx hb dX3_init_37 (by decide +kernel) ?_
  refine nwI (N := 6) (h := a + 5) hx hb (hts _ (List.mem_of_getElem? (i := 4) rfl)) hB hP hD hS hA (by decide +kernel) (by decide +kernel) (by omega) (show 4 + 1 ≤ 7 by omega) (show 24 + 6 ≤ 42 by omega) (by omega) dX3_init_39 (fun H9 hsz9 hP9 hD9 hS9 => ?_)
  refine W.widen (k := 5) (n := 30) (by omega) (by omega) ?_
  clear hP hD hS hsz
  have hP : va_P D vwCl ((a, .inr (3, [.int 0, .ref (a + 1), .ref (a + 2), .ref (a + 3), .ref (a + 4), .null, .int 0, .null, .null, .int 0])) :: ([(a + 1, .inl (C 0, 6, .inl (fun _ => 0))), (a + 2, .inl (C 0, 6, .inl (fun _ => 0))), (a + 3, .inl (C 0, 6, .inl (fun _ => 0))), (a + 4, .inl (C 0, 6, .inl (fun _ => 0))), (a + 5, .inl (C 0, 6, .inl (fun _ => 0)))])) H9 := hP9
  have hD : va_D (fun q => a ≤ q) ((a, .inr (3, [.int 0, .ref (a + 1), .ref (a + 2), .ref (a + 3), .ref (a + 4), .null, .int 0, .null, .null, .int 0])) :: ([(a + 1, .inl (C 0, 6, .inl (fun _ => 0))), (a + 2, .inl (C 0, 6, .inl (fun _ => 0))), (a + 3, .inl (C 0, 6, .inl (fun _ => 0))), (a + 4, .inl (C 0, 6, .inl (fun _ => 0))), (a + 5, .inl (C 0, 6, .inl (fun _ => 0)))])) := hD9
  have hS := hS9
  have hsz := hsz9
  clear hP9 hD9 hS9 hsz9
  refine pfF (k := 5) (kl := 4) (q := a + 5) (ty := .array .int) hx hb hts in_X3_init_X3 tyX3 tyX3_ok nmX3 hown hname hB hP hD hS rfl (by decide) (List.mem_of_getElem? (i := 9) rfl) rfl rfl (tyX3_ok 5 (by decide)) rfl rfl (Nat.le_of_ble_eq_true rfl) rfl (by omega) dX3_init_41 (fun H9 locs9 hsz9 hP9 hD9 hS9 => ?_)
  clear hP hD hS hsz
  have hP : va_P D vwCl ((a, .inr (3, [.int 0, .ref (a + 1), .ref (a + 2), .ref (a + 3), .ref (a + 4), .ref (a + 5), .int 0, .null, .null, .int 0])) :: ([(a + 1, .inl (C 0, 6, .inl (fun _ => 0))), (a + 2, .inl (C 0, 6, .inl (fun _ => 0))), (a + 3, .inl (C 0, 6, .inl (fun _ => 0))), (a + 4, .inl (C 0, 6, .inl (fun _ => 0))), (a + 5, .inl (C 0, 6, .inl (fun _ => 0)))])) H9 := hP9
  have hD : va_D (fun q => a ≤ q) ((a, .inr (3, [.int 0, .ref (a + 1), .ref (a + 2), .ref (a + 3), .ref (a + 4), .ref (a + 5), .int 0, .null, .null, .int 0])) :: ([(a + 1, .inl (C 0, 6, .inl (fun _ => 0))), (a + 2, .inl (C 0, 6, .inl (fun _ => 0))), (a + 3, .inl (C 0, 6, .inl (fun _ => 0))), (a + 4, .inl (C 0, 6, .inl (fun _ => 0))), (a + 5, .inl (C 0, 6, .inl (fun _ => 0)))])) := hD9
  have hS := hS9
  have hsz := hsz9
  clear hP9 hD9 hS9 hsz9
  refine lv_aload_n hx hb dX3_init_44 rfl (lv_at hls 0 rfl) ?_
  refine lv_bipush (v := 6) hx hb dX3_init_45 (by decide +kernel) ?_
  refine nwI (N := 6) (h := a + 6) hx hb (hts _ (List.mem_of_getElem? (i := 4) rfl)) hB hP hD hS hA (by decide +kernel) (by decide +kernel) (by omega) (show 5 + 1 ≤ 7 by omega) (show 30 + 6 ≤ 42 by omega) (by omega) dX3_init_47 (fun H9 hsz9 hP9 hD9 hS9 => ?_)
  refine W.widen (k := 6) (n := 36) (by omega) (by omega) ?_
  clear hP hD hS hsz
  have hP : va_P D vwCl ((a, .inr (3, [.int 0, .ref (a + 1), .ref (a + 2), .ref (a + 3), .ref (a + 4), .ref (a + 5), .int 0, .null, .null, .int 0])) :: ([(a + 1, .inl (C 0, 6, .inl (fun _ => 0))), (a + 2, .inl (C 0, 6, .inl (fun _ => 0))), (a + 3, .inl (C 0, 6, .inl (fun _ => 0))), (a + 4, .inl (C 0, 6, .inl (fun _ => 0))), (a + 5, .inl (C 0, 6, .inl (fun _ => 0))), (a + 6, .inl (C 0, 6, .inl (fun _ => 0)))])) H9 := hP9
  have hD : va_D (fun q => a ≤ q) ((a, .inr (3, [.int 0, .ref (a + 1), .ref (a + 2), .ref (a + 3), .ref (a + 4), .ref (a + 5), .int 0, .null, .null, .int 0])) :: ([(a + 1, .inl (C 0, 6, .inl (fun _ => 0))), (a + 2, .inl (C 0, 6, .inl (fun _ => 0))), (a + 3, .inl (C 0, 6, .inl (fun _ => 0))), (a + 4, .inl (C 0, 6, .inl (fun _ => 0))), (a + 5, .inl (C 0, 6, .inl (fun _ => 0))), (a + 6, .inl (C 0, 6, .inl (fun _ => 0)))])) := hD9
  have hS := hS9
  have hsz := hsz9
  clear hP9 hD9 hS9 hsz9
  refine pfF (k := 7) (kl := 5) (q := a + 6) (ty := .array .int) hx hb hts in_X3_init_X3 tyX3 tyX3_ok nmX3 hown hname hB hP hD hS rfl (by decide) (List.mem_of_getElem? (i := 10) rfl) rfl rfl (tyX3_ok 7 (by decide)) rfl rfl (Nat.le_of_ble_eq_true rfl) rfl (by omega) dX3_init_49 (fun H9 locs9 hsz9 hP9 hD9 hS9 => ?_)
  clear hP hD hS hsz
  have hP : va_P D vwCl ((a, .inr (3, [.int 0, .ref (a + 1), .ref (a + 2), .ref (a + 3), .ref (a + 4), .ref (a + 5), .int 0, .ref (a + 6), .null, .int 0])) :: ([(a + 1, .inl (C 0, 6, .inl (fun _ => 0))), (a + 2, .inl (C 0, 6, .inl (fun _ => 0))), (a + 3, .inl (C 0, 6, .inl (fun _ => 0))), (a + 4, .inl (C 0, 6, .inl (fun _ => 0))), (a + 5, .inl (C 0, 6, .inl (fun _ => 0))), (a + 6, .inl (C 0, 6, .inl (fun _ => 0)))])) H9 := hP9
  have hD : va_D (fun q => a ≤ q) ((a, .inr (3, [.int 0, .ref (a + 1), .ref (a + 2), .ref (a + 3), .ref (a + 4), .ref (a + 5), .int 0, .ref (a + 6), .null, .int 0])) :: ([(a + 1, .inl (C 0, 6, .inl (fun _ => 0))), (a + 2, .inl (C 0, 6, .inl (fun _ => 0))), (a + 3, .inl (C 0, 6, .inl (fun _ => 0))), (a + 4, .inl (C 0, 6, .inl (fun _ => 0))), (a + 5, .inl (C 0, 6, .inl (fun _ => 0))), (a + 6, .inl (C 0, 6, .inl (fun _ => 0)))])) := hD9
  have hS := hS9
  have hsz := hsz9
  clear hP9 hD9 hS9 hsz9
  refine lv_aload_n hx hb dX3_init_52 rfl (lv_at hls 0 rfl) ?_
  refine lv_bipush (v := 6) hx hb dX3_init_53 (by decide +kernel) ?_
  refine nwI (N := 6) (h := a + 7) hx hb (hts _ (List.mem_of_getElem? (i := 4) rfl)) hB hP hD hS hA (by decide +kernel) (by decide +kernel) (by omega) (show 6 + 1 ≤ 7 by omega) (show 36 + 6 ≤ 42 by omega) (by omega) dX3_init_55 (fun H9 hsz9 hP9 hD9 hS9 => ?_)
  refine W.widen (k := 7) (n := 42) (by omega) (by omega) ?_
  clear hP hD hS hsz
  have hP : va_P D vwCl ((a, .inr (3, [.int 0, .ref (a + 1), .ref (a + 2), .ref (a + 3), .ref (a + 4), .ref (a + 5), .int 0, .ref (a + 6), .null, .int 0])) :: ([(a + 1, .inl (C 0, 6, .inl (fun _ => 0))), (a + 2, .inl (C 0, 6, .inl (fun _ => 0))), (a + 3, .inl (C 0, 6, .inl (fun _ => 0))), (a + 4, .inl (C 0, 6, .inl (fun _ => 0))), (a + 5, .inl (C 0, 6, .inl (fun _ => 0))), (a + 6, .inl (C 0, 6, .inl (fun _ => 0))), (a + 7, .inl (C 0, 6, .inl (fun _ => 0)))])) H9 := hP9
  have hD : va_D (fun q => a ≤ q) ((a, .inr (3, [.int 0, .ref (a + 1), .ref (a + 2), .ref (a + 3), .ref (a + 4), .ref (a + 5), .int 0, .ref (a + 6), .null, .int 0])) :: ([(a + 1, .inl (C 0, 6, .inl (fun _ => 0))), (a + 2, .inl (C 0, 6, .inl (fun _ => 0))), (a + 3, .inl (C 0, 6, .inl (fun _ => 0))), (a + 4, .inl (C 0, 6, .inl (fun _ => 0))), (a + 5, .inl (C 0, 6, .inl (fun _ => 0))), (a + 6, .inl (C 0, 6, .inl (fun _ => 0))), (a + 7, .inl (C 0, 6, .inl (fun _ => 0)))])) := hD9
  have hS := hS9
  have hsz := hsz9
  clear hP9 hD9 hS9 hsz9
  refine pfF (k := 8) (kl := 6) (q := a + 7) (ty := .array .int) hx hb hts in_X3_init_X3 tyX3 tyX3_ok nmX3 hown hname hB hP hD hS rfl (by decide) (List.mem_of_getElem? (i := 11) rfl) rfl rfl (tyX3_ok 8 (by decide)) rfl rfl (Nat.le_of_ble_eq_true rfl) rfl (by omega) dX3_init_57 (fun H9 locs9 hsz9 hP9 hD9 hS9 => ?_)
  clear hP hD hS hsz
  have hP : va_P D vwCl ((a, .inr (3, [.int 0, .ref (a + 1), .ref (a + 2), .ref (a + 3), .ref (a + 4), .ref (a + 5), .int 0, .ref (a + 6), .ref (a + 7), .int 0])) :: ([(a + 1, .inl (C 0, 6, .inl (fun _ => 0))), (a + 2, .inl (C 0, 6, .inl (fun _ => 0))), (a + 3, .inl (C 0, 6, .inl (fun _ => 0))), (a + 4, .inl (C 0, 6, .inl (fun _ => 0))), (a + 5, .inl (C 0, 6, .inl (fun _ => 0))), (a + 6, .inl (C 0, 6, .inl (fun _ => 0))), (a + 7, .inl (C 0, 6, .inl (fun _ => 0)))])) H9 := hP9
  have hD : va_D (fun q => a ≤ q) ((a, .inr (3, [.int 0, .ref (a + 1), .ref (a + 2), .ref (a + 3), .ref (a + 4), .ref (a + 5), .int 0, .ref (a + 6), .ref (a + 7), .int 0])) :: ([(a + 1, .inl (C 0, 6, .inl (fun _ => 0))), (a + 2, .inl (C 0, 6, .inl (fun _ => 0))), (a + 3, .inl (C 0, 6, .inl (fun _ => 0))), (a + 4, .inl (C 0, 6, .inl (fun _ => 0))), (a + 5, .inl (C 0, 6, .inl (fun _ => 0))), (a + 6, .inl (C 0, 6, .inl (fun _ => 0))), (a + 7, .inl (C 0, 6, .inl (fun _ => 0)))])) := hD9
  have hS := hS9
  have hsz := hsz9
  clear hP9 hD9 hS9 hsz9
  refine lv_aload_n hx hb dX3_init_60 rfl (lv_at hls 0 rfl) ?_
  refine lv_iconst (v := 5) hx hb dX3_init_61 (by decide +kernel) ?_
  refine pfN (k := 9) (kl := 6) (q := a + 7) (ty := .int) hx hb hts in_X3_init_X3 tyX3 tyX3_ok nmX3 hown hB hP hD hS rfl (by decide) (List.mem_of_getElem? (i := 12) rfl) rfl (tyX3_ok 9 (by decide)) rfl rfl (Nat.le_of_ble_eq_true rfl) rfl (by omega) dX3_init_62 (fun H9 locs9 hsz9 hP9 hD9 hS9 => ?_)
  clear hP hD hS hsz
  have hP : va_P D vwCl ((a, .inr (3, [.int 0, .ref (a + 1), .ref (a + 2), .ref (a + 3), .ref (a + 4), .ref (a + 5), .int 0, .ref (a + 6), .ref (a + 7), .int 5])) :: ([(a + 1, .inl (C 0, 6, .inl (fun _ => 0))), (a + 2, .inl (C 0, 6, .inl (fun _ => 0))), (a + 3, .inl (C 0, 6, .inl (fun _ => 0))), (a + 4, .inl (C 0, 6, .inl (fun _ => 0))), (a + 5, .inl (C 0, 6, .inl (fun _ => 0))), (a + 6, .inl (C 0, 6, .inl (fun _ => 0))), (a + 7, .inl (C 0, 6, .inl (fun _ => 0)))])) H9 := hP9
  have hD : va_D (fun q => a ≤ q) ((a, .inr (3, [.int 0, .ref (a + 1), .ref (a + 2), .ref (a + 3), .ref (a + 4), .ref (a + 5), .int 0, .ref (a + 6), .ref (a + 7), .int 5])) :: ([(a + 1, .inl (C 0, 6, .inl (fun _ => 0))), (a + 2, .inl (C 0, 6, .inl (fun _ => 0))), (a + 3, .inl (C 0, 6, .inl (fun _ => 0))), (a + 4, .inl (C 0, 6, .inl (fun _ => 0))), (a + 5, .inl (C 0, 6, .inl (fun _ => 0))), (a + 6, .inl (C 0, 6, .inl (fun _ => 0))), (a + 7, .inl (C 0, 6, .inl (fun _ => 0)))])) := hD9
  have hS := hS9
  have hsz := hsz9
  clear hP9 hD9 hS9 hsz9
  exact W.vret hx hb hr (fun t ht hW => ⟨⟨(), rfl, trivial, by rw [ht]; omega, by rw [ht]; exact hP, hD⟩, hS.F ht⟩) hS.2.2 dX3_init_65

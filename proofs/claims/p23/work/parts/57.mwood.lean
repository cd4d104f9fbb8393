/-! ===== 57 the reference: tell, wood ===== -/
theorem up_P {w : Wd} {k k' : Nat} {j j' z : Int} (P : Int → Prop) (h : P (w k' j')) (hz : k' = k → j' = j → P z) : P (up w k j z k' j') := by
  unfold up
  split
  · rename_i q; exact hz q.1 q.2
  · exact h
theorem okTm_up {w : Wd} {k : Nat} {j z : Int} (h : okTm w) (h76 : k = 76 → 0 ≤ z ∧ z ≤ 3) (h77 : k = 77 → 0 ≤ z ∧ z ≤ 50) (h78 : k = 78 → 0 ≤ z ∧ z ≤ 99) (h79 : k = 79 → 0 ≤ z ∧ z ≤ 9) (h72 : k = 72 → 0 ≤ z ∧ z ≤ 99) (h80 : k = 80 → 0 ≤ z ∧ z < 6) (h10 : k = 71 → j = 10 → 0 ≤ z ∧ z ≤ 6) (h13 : k = 71 → j = 13 → 0 ≤ z ∧ z ≤ 99) (h12 : k ≠ 71 ∨ j ≠ 12) : okTm (up w k j z) := by
  obtain ⟨a1, a2, a3, a4, a5⟩ := h
  have e12 : up w k j z 71 12 = w 71 12 := up_ne (by omega)
  refine ⟨up_P (fun x => 0 ≤ x ∧ x ≤ 6) a1 (fun q1 q2 => h10 q1.symm q2.symm), by rw [e12]; exact a2, up_P (fun x => 0 ≤ x ∧ x ≤ 99) a3 (fun q1 q2 => h13 q1.symm q2.symm), fun t q0 q1 => ?_, fun q q0 q1 => ?_⟩
  · have b := a4 t q0 q1
    exact ⟨up_P (fun x => 0 ≤ x ∧ x ≤ 3) b.1 (fun p1 _ => h76 p1.symm), up_P (fun x => 0 ≤ x ∧ x ≤ 99) b.2.1 (fun p1 _ => h72 p1.symm), up_P (fun x => 0 ≤ x ∧ x ≤ 50) b.2.2.1 (fun p1 _ => h77 p1.symm), up_P (fun x => 0 ≤ x ∧ x ≤ 99) b.2.2.2.1 (fun p1 _ => h78 p1.symm), up_P (fun x => 0 ≤ x ∧ x ≤ 9) b.2.2.2.2 (fun p1 _ => h79 p1.symm)⟩
  · rw [e12] at q1
    have b := a5 q q0 q1
    exact ⟨up_P (fun x => 0 ≤ x ∧ x < 6) b.1 (fun p1 _ => h80 p1.symm), up_P (fun x => 0 ≤ x ∧ x < 6) b.2 (fun p1 _ => h80 p1.symm)⟩
theorem qsM_eq {w w' : Wd} (h : w' 71 12 = w 71 12) (g : ∀ j : Int, j < 2 * w 71 12 → w' 80 j = w 80 j) : qsM w' = qsM w := by
  unfold qsM
  rw [h]
  apply List.map_congr_left
  intro i hi
  have := List.mem_range.mp hi
  rw [g _ (by omega), g _ (by omega)]
/-- what tell may change -/
def frTl (w w' : Wd) : Prop := ∀ (k : Nat) (j : Int), (k ≠ 71 ∨ (j ≠ 10 ∧ j ≠ 12 ∧ j ≠ 13)) → (k ≠ 72 ∨ j < 302 ∨ 308 ≤ j) → (k < 76 ∨ 80 < k) → w' k j = w k j
def tlR (x : Li) (w w' : Wd) : Prop := tM w' = apL x (tM w) ∧ okTm w' ∧ frTl w w'
theorem tl_0 {x : Li} {w : Wd} (hx : x.1 = 0) (h : okTm w) : tlR x w (up (up (up w 71 10 0) 71 12 0) 71 13 5) := by
  have g : ∀ (k : Nat) (j : Int), k ≠ 71 → up (up (up w 71 10 0) 71 12 0) 71 13 5 k j = w k j := fun k j q => by rw [up_ne (by omega), up_ne (by omega), up_ne (by omega)]
  have e12 : up (up (up w 71 10 0) 71 12 0) 71 13 5 71 12 = 0 := by rw [up_ne (by omega), up_eq]
  have e10 : up (up (up w 71 10 0) 71 12 0) 71 13 5 71 10 = 0 := by rw [up_ne (by omega), up_ne (by omega), up_eq]
  have eq : qsM (up (up (up w 71 10 0) 71 12 0) 71 13 5) = [] := by unfold qsM; rw [e12]; rfl
  refine ⟨?_, ⟨by rw [e10]; omega, by rw [e12]; omega, by rw [up_eq]; omega, fun t q0 q1 => ?_, fun q q0 q1 => by rw [e12] at q1; omega⟩, fun k j q1 q2 q3 => by rw [up_ne (by omega), up_ne (by omega), up_ne (by omega)]⟩
  · unfold tM apL
    rw [if_pos hx, eq, e10, up_eq, gl_eq (w' := w) (k := 76) (k' := 76) (o := 0) (o' := 0) (fun i _ _ => g _ _ (by omega)), gl_eq (w' := w) (k := 72) (k' := 72) (o := 302) (o' := 302) (fun i _ _ => g _ _ (by omega)), gl_eq (w' := w) (k := 77) (k' := 77) (o := 0) (o' := 0) (fun i _ _ => g _ _ (by omega)), gl_eq (w' := w) (k := 78) (k' := 78) (o := 0) (o' := 0) (fun i _ _ => g _ _ (by omega)), gl_eq (w' := w) (k := 79) (k' := 79) (o := 0) (o' := 0) (fun i _ _ => g _ _ (by omega))]
  · rw [g _ _ (by omega), g _ _ (by omega), g _ _ (by omega), g _ _ (by omega), g _ _ (by omega)]
    exact h.2.2.2.1 t q0 q1
theorem tl_5 {x : Li} {w : Wd} (hx : x.1 = 5) (h : okTm w) (ha : 0 ≤ x.2.1) (hb : 0 ≤ x.2.2.1 ∧ x.2.2.1 ≤ 9) : tlR x w (up w 79 x.2.1 x.2.2.1) := by
  refine ⟨?_, okTm_up h (by omega) (by omega) (by omega) (fun _ => hb) (by omega) (by omega) (by omega) (by omega) (by omega), fun k j q1 q2 q3 => up_ne (by omega)⟩
  unfold tM apL
  rw [if_neg (by omega), if_pos hx, gl_up ha, gl_up_ne (by omega), gl_up_ne (by omega), gl_up_ne (by omega), gl_up_ne (by omega), qsM_eq (w := w) (up_ne (by omega)) (fun j _ => up_ne (by omega)), up_ne (by omega), up_ne (by omega)]
theorem tl_7 {x : Li} {w : Wd} (hx : x.1 = 7) (h : okTm w) (ha : 0 ≤ x.2.1 ∧ x.2.1 ≤ 99) : tlR x w (up w 71 13 x.2.1) := by
  refine ⟨?_, okTm_up h (by omega) (by omega) (by omega) (by omega) (by omega) (by omega) (by omega) (fun _ _ => ha) (by omega), fun k j q1 q2 q3 => up_ne (by omega)⟩
  unfold tM apL
  rw [if_neg (by omega), if_neg (by omega), if_neg (by omega), if_pos hx, gl_up_ne (by omega), gl_up_ne (by omega), gl_up_ne (by omega), gl_up_ne (by omega), gl_up_ne (by omega), qsM_eq (w := w) (up_ne (by omega)) (fun j _ => up_ne (by omega)), up_ne (by omega), up_eq]
theorem tl_6 {x : Li} {w : Wd} (hx : x.1 = 6) (h : okTm w) (h6 : w 71 12 < 6) (ha : 0 ≤ x.2.1 ∧ x.2.1 < 6) (hb : 0 ≤ x.2.2.1 ∧ x.2.2.1 < 6) : tlR x w (up (up (up w 80 (2 * w 71 12) x.2.1) 80 (2 * w 71 12 + 1) x.2.2.1) 71 12 (w 71 12 + 1)) := by
  have k2 := h.2.1
  generalize hN : w 71 12 = N at h6 k2 ⊢
  have g : ∀ (k : Nat) (j : Int), (k ≠ 71 ∨ j ≠ 12) → (k ≠ 80 ∨ j < 2 * N) → up (up (up w 80 (2 * N) x.2.1) 80 (2 * N + 1) x.2.2.1) 71 12 (N + 1) k j = w k j := fun k j q1 q2 => by rw [up_ne (by omega), up_ne (by omega), up_ne (by omega)]
  have e12 : up (up (up w 80 (2 * N) x.2.1) 80 (2 * N + 1) x.2.2.1) 71 12 (N + 1) 71 12 = N + 1 := up_eq _ _ _ _
  have eA : up (up (up w 80 (2 * N) x.2.1) 80 (2 * N + 1) x.2.2.1) 71 12 (N + 1) 80 (2 * N) = x.2.1 := by rw [up_ne (by omega), up_ne (by omega), up_eq]
  have eB : up (up (up w 80 (2 * N) x.2.1) 80 (2 * N + 1) x.2.2.1) 71 12 (N + 1) 80 (2 * N + 1) = x.2.2.1 := by rw [up_ne (by omega), up_eq]
  have eq : qsM (up (up (up w 80 (2 * N) x.2.1) 80 (2 * N + 1) x.2.2.1) 71 12 (N + 1)) = qsM w ++ [(x.2.1, x.2.2.1)] := by
    unfold qsM
    rw [e12, hN, show (N + 1).toNat = N.toNat + 1 by omega, List.range_succ, List.map_append]
    congr 1
    · apply List.map_congr_left
      intro i hi
      have := List.mem_range.mp hi
      rw [g _ _ (by omega) (by omega), g _ _ (by omega) (by omega)]
    · rw [List.map_cons, List.map_nil, show ((N.toNat : Nat) : Int) = N by omega, eA, eB]
  obtain ⟨b1, b2, b3, b4, b5⟩ := h
  refine ⟨?_, ⟨by rw [g _ _ (by omega) (by omega)]; exact b1, by rw [e12]; omega, by rw [g _ _ (by omega) (by omega)]; exact b3, fun t q0 q1 => ?_, fun q q0 q1 => ?_⟩, fun k j q1 q2 q3 => g k j (by omega) (by omega)⟩
  · unfold tM apL
    rw [if_neg (by omega), if_neg (by omega), if_pos hx, eq, g _ _ (by omega) (by omega), g _ _ (by omega) (by omega), gl_eq (w' := w) (k := 76) (k' := 76) (o := 0) (o' := 0) (fun i _ _ => g _ _ (by omega) (by omega)), gl_eq (w' := w) (k := 72) (k' := 72) (o := 302) (o' := 302) (fun i _ _ => g _ _ (by omega) (by omega)), gl_eq (w' := w) (k := 77) (k' := 77) (o := 0) (o' := 0) (fun i _ _ => g _ _ (by omega) (by omega)), gl_eq (w' := w) (k := 78) (k' := 78) (o := 0) (o' := 0) (fun i _ _ => g _ _ (by omega) (by omega)), gl_eq (w' := w) (k := 79) (k' := 79) (o := 0) (o' := 0) (fun i _ _ => g _ _ (by omega) (by omega))]
  · rw [g _ _ (by omega) (by omega), g _ _ (by omega) (by omega), g _ _ (by omega) (by omega), g _ _ (by omega) (by omega), g _ _ (by omega) (by omega)]
    exact b4 t q0 q1
  · rw [e12] at q1
    by_cases e : q = N
    · subst e
      rw [eA, eB]
      exact ⟨ha, hb⟩
    · rw [g _ _ (by omega) (by omega), g _ _ (by omega) (by omega)]
      exact b5 q q0 (by omega)
def tlT (w : Wd) (x : Li) : Wd := up (up (up (up (up (up w 76 (w 71 10) (x.1 - 1)) 72 (302 + w 71 10) x.2.1) 77 (w 71 10) x.2.2.1) 78 (w 71 10) x.2.2.2) 79 (w 71 10) 0) 71 10 (w 71 10 + 1)
theorem tl_t {x : Li} {w : Wd} (hx : 1 ≤ x.1 ∧ x.1 ≤ 4) (h : okTm w) (h6 : w 71 10 < 6) (ha : 0 ≤ x.2.1 ∧ x.2.1 ≤ 99) (hb : 0 ≤ x.2.2.1 ∧ x.2.2.1 ≤ 50) (hc : 1 ≤ x.2.2.2 ∧ x.2.2.2 ≤ 99) : tlR x w (tlT w x) := by
  have k1 := h.1
  refine ⟨?_, ?_, fun k j q1 q2 q3 => by unfold tlT; rw [up_ne (by omega), up_ne (by omega), up_ne (by omega), up_ne (by omega), up_ne (by omega), up_ne (by omega)]⟩
  · have e76 : gl (tlT w x) 76 0 6 = (gl w 76 0 6).set (w 71 10).toNat (x.1 - 1) := by
      unfold tlT
      rw [gl_up_ne (by omega), gl_up_ne (by omega), gl_up_ne (by omega), gl_up_ne (by omega), gl_up_ne (by omega), gl_up (by omega)]
    have e72 : gl (tlT w x) 72 302 6 = (gl w 72 302 6).set (w 71 10).toNat x.2.1 := by
      unfold tlT
      rw [gl_up_ne (by omega), gl_up_ne (by omega), gl_up_ne (by omega), gl_up_ne (by omega), gl_set (by omega), gl_up_ne (by omega)]
    have e77 : gl (tlT w x) 77 0 6 = (gl w 77 0 6).set (w 71 10).toNat x.2.2.1 := by
      unfold tlT
      rw [gl_up_ne (by omega), gl_up_ne (by omega), gl_up_ne (by omega), gl_up (by omega), gl_up_ne (by omega), gl_up_ne (by omega)]
    have e78 : gl (tlT w x) 78 0 6 = (gl w 78 0 6).set (w 71 10).toNat x.2.2.2 := by
      unfold tlT
      rw [gl_up_ne (by omega), gl_up_ne (by omega), gl_up (by omega), gl_up_ne (by omega), gl_up_ne (by omega), gl_up_ne (by omega)]
    have e79 : gl (tlT w x) 79 0 6 = (gl w 79 0 6).set (w 71 10).toNat 0 := by
      unfold tlT
      rw [gl_up_ne (by omega), gl_up (by omega), gl_up_ne (by omega), gl_up_ne (by omega), gl_up_ne (by omega), gl_up_ne (by omega)]
    have eq : qsM (tlT w x) = qsM w := by
      unfold tlT
      rw [qsM_eq (up_ne (by omega)) (fun j _ => up_ne (by omega)), qsM_eq (up_ne (by omega)) (fun j _ => up_ne (by omega)), qsM_eq (up_ne (by omega)) (fun j _ => up_ne (by omega)), qsM_eq (up_ne (by omega)) (fun j _ => up_ne (by omega)), qsM_eq (up_ne (by omega)) (fun j _ => up_ne (by omega)), qsM_eq (up_ne (by omega)) (fun j _ => up_ne (by omega))]
    have e10 : tlT w x 71 10 = w 71 10 + 1 := by unfold tlT; rw [up_eq]
    have e13 : tlT w x 71 13 = w 71 13 := by unfold tlT; rw [up_ne (by omega), up_ne (by omega), up_ne (by omega), up_ne (by omega), up_ne (by omega), up_ne (by omega)]
    unfold tM apL
    rw [if_neg (by omega), if_neg (by omega), if_neg (by omega), if_neg (by omega), e76, e72, e77, e78, e79, eq, e10, e13]
  · unfold tlT
    refine okTm_up (okTm_up (okTm_up (okTm_up (okTm_up (okTm_up h ?_ ?_ ?_ ?_ ?_ ?_ ?_ ?_ ?_) ?_ ?_ ?_ ?_ ?_ ?_ ?_ ?_ ?_) ?_ ?_ ?_ ?_ ?_ ?_ ?_ ?_ ?_) ?_ ?_ ?_ ?_ ?_ ?_ ?_ ?_ ?_) ?_ ?_ ?_ ?_ ?_ ?_ ?_ ?_ ?_) ?_ ?_ ?_ ?_ ?_ ?_ ?_ ?_ ?_ <;> omega
theorem tdM_tl {w w' : Wd} (h : tdM w) (g : frTl w w') : tdM w' := ⟨by rw [g _ _ (by omega) (by omega) (by omega)]; exact h.1, by rw [g _ _ (by omega) (by omega) (by omega)]; exact h.2.1, fun t q0 q1 => by rw [g _ _ (by omega) (by omega) (by omega)]; exact h.2.2.1 t q0 q1, by rw [g _ _ (by omega) (by omega) (by omega)]; exact h.2.2.2⟩
theorem qsM_len {w : Wd} (h : 0 ≤ w 71 12) : (((qsM w).length : Nat) : Int) = w 71 12 := by
  simp [qsM]
  omega
set_option maxRecDepth 100000 in
set_option maxHeartbeats 4000000 in
theorem c_X5_tell (G : Gb) (l : Launch) {w : Wd} {m : Int} {x : Li} (hm : 0 ≤ m ∧ m < 12) (hl : liM w m x) (hT : okTm w) (ho : okLi (tM w).1 (nqT (tM w)) x ∧ ¬ ((1 ≤ x.1 ∧ x.1 ≤ 4) ∧ (tM w).1 = 6) ∧ ¬ (x.1 = 6 ∧ nqT (tM w) = 6)) : Cv G l yX5_tell mX5_tell [.ref (gA G 71), .int (iZ (4 * m))] w (fun w' => tlR x w w') := by
  refine V_start 1 (by decide) rfl rfl (Nat.le_of_ble_eq_true rfl) ?_
  show V G l mX5_tell _ 0 [some (.ref (gA G 71)), some (.int (iZ (4 * m))), none] [] w
  have k10 := hT.1
  have k12 := hT.2.1
  have kc := ho.1.1
  have e10 : (tM w).1 = w 71 10 := rfl
  refine V_aload_n dX5_tell_0 rfl ?_
  refine V_getR (ci := 5) (j := 4) dX5_tell_1 s_71 rfl rfl i_X5_tell_X5 (by decide) f_X5_tell_20 ?_
  refine V_iload_n dX5_tell_4 rfl ?_
  refine V_iconst dX5_tell_5 ?_
  refine V_iadd dX5_tell_6 ?_
  refine V_iald dX5_tell_7 s_75 (by show 0 ≤ _ ∧ _ < (48 : Int); omega) ?_
  refine V_istore_n dX5_tell_8 (by decide) rfl ?_
  refine V_aload_n dX5_tell_9 rfl ?_
  refine V_getR (ci := 5) (j := 4) dX5_tell_10 s_71 rfl rfl i_X5_tell_X5 (by decide) f_X5_tell_20 ?_
  refine V_iload_n dX5_tell_13 rfl ?_
  refine V_ialdE (z := x.1) dX5_tell_14 s_75 (by show 0 ≤ _ ∧ _ < (48 : Int); omega) hl.1 ?_
  rcases (show x.1 = 0 ∨ x.1 = 1 ∨ x.1 = 2 ∨ x.1 = 3 ∨ x.1 = 4 ∨ x.1 = 5 ∨ x.1 = 6 ∨ x.1 = 7 by omega) with h15 | h15 | h15 | h15 | h15 | h15 | h15 | h15
  · refine V_tswI (v := 0) (off := 45) (tgt := 60) dX5_tell_15 h15 (by decide) rfl (by decide) ?_
    refine V_aload_n dX5_tell_60 rfl ?_
    refine V_iconst dX5_tell_61 ?_
    refine V_putI (ci := 5) (j := 10) (ji := 10) dX5_tell_62 s_71 rfl rfl i_X5_tell_X5 tyX5_ok nmX5 (by decide) f_X5_tell_115 rfl rfl rfl ?_
    refine V_aload_n dX5_tell_65 rfl ?_
    refine V_iconst dX5_tell_66 ?_
    refine V_putI (ci := 5) (j := 12) (ji := 12) dX5_tell_67 s_71 rfl rfl i_X5_tell_X5 tyX5_ok nmX5 (by decide) f_X5_tell_118 rfl rfl rfl ?_
    refine V_aload_n dX5_tell_70 rfl ?_
    refine V_iconst dX5_tell_71 ?_
    refine V_putI (ci := 5) (j := 13) (ji := 13) dX5_tell_72 s_71 rfl rfl i_X5_tell_X5 tyX5_ok nmX5 (by decide) f_X5_tell_38 rfl rfl rfl ?_
    exact V_vret dX5_tell_75 rfl (tl_0 h15 hT)
  · refine V_tswI (v := 1) (off := 126) (tgt := 141) dX5_tell_15 h15 (by decide) rfl (by decide) ?_
    refine V_forget (L' := [some (.ref (gA G 71)), some (.int (iZ (4 * m))), some (.int (iZ x.2.1))]) (by rw [hl.2.1 (by omega)]; exact fun _ _ q => q) ?_
    have kx := ho.1.2.1 (by omega)
    have k10 : w 71 10 < 6 := by have := hT.1; have n6 := ho.2.1; have q6 : (tM w).1 = w 71 10 := rfl; omega
    refine V_aload_n dX5_tell_141 rfl ?_
    refine V_getR (ci := 5) (j := 6) dX5_tell_142 s_71 rfl rfl i_X5_tell_X5 (by decide) f_X5_tell_23 ?_
    refine V_aload_n dX5_tell_145 rfl ?_
    refine V_getI (ci := 5) (j := 10) (ji := 10) dX5_tell_146 s_71 rfl rfl i_X5_tell_X5 (by decide) f_X5_tell_115 rfl ?_
    refine V_aload_n dX5_tell_149 rfl ?_
    refine V_getR (ci := 5) (j := 4) dX5_tell_150 s_71 rfl rfl i_X5_tell_X5 (by decide) f_X5_tell_20 ?_
    refine V_iload_n dX5_tell_153 rfl ?_
    refine V_ialdE (z := x.1) dX5_tell_154 s_75 (by show 0 ≤ _ ∧ _ < (48 : Int); omega) hl.1 ?_
    refine V_iconst dX5_tell_155 ?_
    refine V_isub dX5_tell_156 ?_
    refine V_iast dX5_tell_157 s_76 (by omega) ?_
    refine V_aload_n dX5_tell_158 rfl ?_
    refine V_getR (ci := 5) (j := 0) dX5_tell_159 s_71 rfl rfl i_X5_tell_X5 (by decide) f_X5_tell_7 ?_
    refine V_sipush dX5_tell_162 rfl ?_
    refine V_aload_n dX5_tell_165 rfl ?_
    refine V_getIE (ci := 5) (j := 10) (ji := 10) (z := w 71 10) dX5_tell_166 s_71 rfl rfl i_X5_tell_X5 (by decide) f_X5_tell_115 rfl (by rw [up_ne (by omega)]) ?_
    refine V_iadd dX5_tell_169 ?_
    refine V_iload_n dX5_tell_170 rfl ?_
    refine V_iast dX5_tell_171 s_72 (by omega) ?_
    refine V_aload_n dX5_tell_172 rfl ?_
    refine V_getR (ci := 5) (j := 7) dX5_tell_173 s_71 rfl rfl i_X5_tell_X5 (by decide) f_X5_tell_26 ?_
    refine V_aload_n dX5_tell_176 rfl ?_
    refine V_getIE (ci := 5) (j := 10) (ji := 10) (z := w 71 10) dX5_tell_177 s_71 rfl rfl i_X5_tell_X5 (by decide) f_X5_tell_115 rfl (by rw [up_ne (by omega), up_ne (by omega)]) ?_
    refine V_aload_n dX5_tell_180 rfl ?_
    refine V_getR (ci := 5) (j := 4) dX5_tell_181 s_71 rfl rfl i_X5_tell_X5 (by decide) f_X5_tell_20 ?_
    refine V_iload_n dX5_tell_184 rfl ?_
    refine V_iconst dX5_tell_185 ?_
    refine V_iadd dX5_tell_186 ?_
    refine V_ialdE (z := x.2.2.1) dX5_tell_187 s_75 (by show 0 ≤ _ ∧ _ < (48 : Int); omega) (by rw [up_ne (by omega), up_ne (by omega)]; exact hl.2.2.1 (by omega)) ?_
    refine V_iast dX5_tell_188 s_77 (by omega) ?_
    refine V_aload_n dX5_tell_189 rfl ?_
    refine V_getR (ci := 5) (j := 8) dX5_tell_190 s_71 rfl rfl i_X5_tell_X5 (by decide) f_X5_tell_29 ?_
    refine V_aload_n dX5_tell_193 rfl ?_
    refine V_getIE (ci := 5) (j := 10) (ji := 10) (z := w 71 10) dX5_tell_194 s_71 rfl rfl i_X5_tell_X5 (by decide) f_X5_tell_115 rfl (by rw [up_ne (by omega), up_ne (by omega), up_ne (by omega)]) ?_
    refine V_aload_n dX5_tell_197 rfl ?_
    refine V_getR (ci := 5) (j := 4) dX5_tell_198 s_71 rfl rfl i_X5_tell_X5 (by decide) f_X5_tell_20 ?_
    refine V_iload_n dX5_tell_201 rfl ?_
    refine V_iconst dX5_tell_202 ?_
    refine V_iadd dX5_tell_203 ?_
    refine V_ialdE (z := x.2.2.2) dX5_tell_204 s_75 (by show 0 ≤ _ ∧ _ < (48 : Int); omega) (by rw [up_ne (by omega), up_ne (by omega), up_ne (by omega)]; exact hl.2.2.2 (by omega)) ?_
    refine V_iast dX5_tell_205 s_78 (by omega) ?_
    refine V_aload_n dX5_tell_206 rfl ?_
    refine V_getR (ci := 5) (j := 9) dX5_tell_207 s_71 rfl rfl i_X5_tell_X5 (by decide) f_X5_tell_32 ?_
    refine V_aload_n dX5_tell_210 rfl ?_
    refine V_getIE (ci := 5) (j := 10) (ji := 10) (z := w 71 10) dX5_tell_211 s_71 rfl rfl i_X5_tell_X5 (by decide) f_X5_tell_115 rfl (by rw [up_ne (by omega), up_ne (by omega), up_ne (by omega), up_ne (by omega)]) ?_
    refine V_iconst dX5_tell_214 ?_
    refine V_iast dX5_tell_215 s_79 (by omega) ?_
    refine V_aload_n dX5_tell_216 rfl ?_
    refine V_dup dX5_tell_217 rfl ?_
    refine V_getIE (ci := 5) (j := 10) (ji := 10) (z := w 71 10) dX5_tell_218 s_71 rfl rfl i_X5_tell_X5 (by decide) f_X5_tell_115 rfl (by rw [up_ne (by omega), up_ne (by omega), up_ne (by omega), up_ne (by omega), up_ne (by omega)]) ?_
    refine V_iconst dX5_tell_221 ?_
    refine V_iadd dX5_tell_222 ?_
    refine V_putI (ci := 5) (j := 10) (ji := 10) dX5_tell_223 s_71 rfl rfl i_X5_tell_X5 tyX5_ok nmX5 (by decide) f_X5_tell_115 rfl rfl rfl ?_
    exact V_vret dX5_tell_226 rfl (tl_t (by omega) hT k10 kx.1 kx.2.1 kx.2.2)
  · refine V_tswI (v := 2) (off := 126) (tgt := 141) dX5_tell_15 h15 (by decide) rfl (by decide) ?_
    refine V_forget (L' := [some (.ref (gA G 71)), some (.int (iZ (4 * m))), some (.int (iZ x.2.1))]) (by rw [hl.2.1 (by omega)]; exact fun _ _ q => q) ?_
    have kx := ho.1.2.1 (by omega)
    have k10 : w 71 10 < 6 := by have := hT.1; have n6 := ho.2.1; have q6 : (tM w).1 = w 71 10 := rfl; omega
    refine V_aload_n dX5_tell_141 rfl ?_
    refine V_getR (ci := 5) (j := 6) dX5_tell_142 s_71 rfl rfl i_X5_tell_X5 (by decide) f_X5_tell_23 ?_
    refine V_aload_n dX5_tell_145 rfl ?_
    refine V_getI (ci := 5) (j := 10) (ji := 10) dX5_tell_146 s_71 rfl rfl i_X5_tell_X5 (by decide) f_X5_tell_115 rfl ?_
    refine V_aload_n dX5_tell_149 rfl ?_
    refine V_getR (ci := 5) (j := 4) dX5_tell_150 s_71 rfl rfl i_X5_tell_X5 (by decide) f_X5_tell_20 ?_
    refine V_iload_n dX5_tell_153 rfl ?_
    refine V_ialdE (z := x.1) dX5_tell_154 s_75 (by show 0 ≤ _ ∧ _ < (48 : Int); omega) hl.1 ?_
    refine V_iconst dX5_tell_155 ?_
    refine V_isub dX5_tell_156 ?_
    refine V_iast dX5_tell_157 s_76 (by omega) ?_
    refine V_aload_n dX5_tell_158 rfl ?_
    refine V_getR (ci := 5) (j := 0) dX5_tell_159 s_71 rfl rfl i_X5_tell_X5 (by decide) f_X5_tell_7 ?_
    refine V_sipush dX5_tell_162 rfl ?_
    refine V_aload_n dX5_tell_165 rfl ?_
    refine V_getIE (ci := 5) (j := 10) (ji := 10) (z := w 71 10) dX5_tell_166 s_71 rfl rfl i_X5_tell_X5 (by decide) f_X5_tell_115 rfl (by rw [up_ne (by omega)]) ?_
    refine V_iadd dX5_tell_169 ?_
    refine V_iload_n dX5_tell_170 rfl ?_
    refine V_iast dX5_tell_171 s_72 (by omega) ?_
    refine V_aload_n dX5_tell_172 rfl ?_
    refine V_getR (ci := 5) (j := 7) dX5_tell_173 s_71 rfl rfl i_X5_tell_X5 (by decide) f_X5_tell_26 ?_
    refine V_aload_n dX5_tell_176 rfl ?_
    refine V_getIE (ci := 5) (j := 10) (ji := 10) (z := w 71 10) dX5_tell_177 s_71 rfl rfl i_X5_tell_X5 (by decide) f_X5_tell_115 rfl (by rw [up_ne (by omega), up_ne (by omega)]) ?_
    refine V_aload_n dX5_tell_180 rfl ?_
    refine V_getR (ci := 5) (j := 4) dX5_tell_181 s_71 rfl rfl i_X5_tell_X5 (by decide) f_X5_tell_20 ?_
    refine V_iload_n dX5_tell_184 rfl ?_
    refine V_iconst dX5_tell_185 ?_
    refine V_iadd dX5_tell_186 ?_
    refine V_ialdE (z := x.2.2.1) dX5_tell_187 s_75 (by show 0 ≤ _ ∧ _ < (48 : Int); omega) (by rw [up_ne (by omega), up_ne (by omega)]; exact hl.2.2.1 (by omega)) ?_
    refine V_iast dX5_tell_188 s_77 (by omega) ?_
    refine V_aload_n dX5_tell_189 rfl ?_
    refine V_getR (ci := 5) (j := 8) dX5_tell_190 s_71 rfl rfl i_X5_tell_X5 (by decide) f_X5_tell_29 ?_
    refine V_aload_n dX5_tell_193 rfl ?_
    refine V_getIE (ci := 5) (j := 10) (ji := 10) (z := w 71 10) dX5_tell_194 s_71 rfl rfl i_X5_tell_X5 (by decide) f_X5_tell_115 rfl (by rw [up_ne (by omega), up_ne (by omega), up_ne (by omega)]) ?_
    refine V_aload_n dX5_tell_197 rfl ?_
    refine V_getR (ci := 5) (j := 4) dX5_tell_198 s_71 rfl rfl i_X5_tell_X5 (by decide) f_X5_tell_20 ?_
    refine V_iload_n dX5_tell_201 rfl ?_
    refine V_iconst dX5_tell_202 ?_
    refine V_iadd dX5_tell_203 ?_
    refine V_ialdE (z := x.2.2.2) dX5_tell_204 s_75 (by show 0 ≤ _ ∧ _ < (48 : Int); omega) (by rw [up_ne (by omega), up_ne (by omega), up_ne (by omega)]; exact hl.2.2.2 (by omega)) ?_
    refine V_iast dX5_tell_205 s_78 (by omega) ?_
    refine V_aload_n dX5_tell_206 rfl ?_
    refine V_getR (ci := 5) (j := 9) dX5_tell_207 s_71 rfl rfl i_X5_tell_X5 (by decide) f_X5_tell_32 ?_
    refine V_aload_n dX5_tell_210 rfl ?_
    refine V_getIE (ci := 5) (j := 10) (ji := 10) (z := w 71 10) dX5_tell_211 s_71 rfl rfl i_X5_tell_X5 (by decide) f_X5_tell_115 rfl (by rw [up_ne (by omega), up_ne (by omega), up_ne (by omega), up_ne (by omega)]) ?_
    refine V_iconst dX5_tell_214 ?_
    refine V_iast dX5_tell_215 s_79 (by omega) ?_
    refine V_aload_n dX5_tell_216 rfl ?_
    refine V_dup dX5_tell_217 rfl ?_
    refine V_getIE (ci := 5) (j := 10) (ji := 10) (z := w 71 10) dX5_tell_218 s_71 rfl rfl i_X5_tell_X5 (by decide) f_X5_tell_115 rfl (by rw [up_ne (by omega), up_ne (by omega), up_ne (by omega), up_ne (by omega), up_ne (by omega)]) ?_
    refine V_iconst dX5_tell_221 ?_
    refine V_iadd dX5_tell_222 ?_
    refine V_putI (ci := 5) (j := 10) (ji := 10) dX5_tell_223 s_71 rfl rfl i_X5_tell_X5 tyX5_ok nmX5 (by decide) f_X5_tell_115 rfl rfl rfl ?_
    exact V_vret dX5_tell_226 rfl (tl_t (by omega) hT k10 kx.1 kx.2.1 kx.2.2)
  · refine V_tswI (v := 3) (off := 126) (tgt := 141) dX5_tell_15 h15 (by decide) rfl (by decide) ?_
    refine V_forget (L' := [some (.ref (gA G 71)), some (.int (iZ (4 * m))), some (.int (iZ x.2.1))]) (by rw [hl.2.1 (by omega)]; exact fun _ _ q => q) ?_
    have kx := ho.1.2.1 (by omega)
    have k10 : w 71 10 < 6 := by have := hT.1; have n6 := ho.2.1; have q6 : (tM w).1 = w 71 10 := rfl; omega
    refine V_aload_n dX5_tell_141 rfl ?_
    refine V_getR (ci := 5) (j := 6) dX5_tell_142 s_71 rfl rfl i_X5_tell_X5 (by decide) f_X5_tell_23 ?_
    refine V_aload_n dX5_tell_145 rfl ?_
    refine V_getI (ci := 5) (j := 10) (ji := 10) dX5_tell_146 s_71 rfl rfl i_X5_tell_X5 (by decide) f_X5_tell_115 rfl ?_
    refine V_aload_n dX5_tell_149 rfl ?_
    refine V_getR (ci := 5) (j := 4) dX5_tell_150 s_71 rfl rfl i_X5_tell_X5 (by decide) f_X5_tell_20 ?_
    refine V_iload_n dX5_tell_153 rfl ?_
    refine V_ialdE (z := x.1) dX5_tell_154 s_75 (by show 0 ≤ _ ∧ _ < (48 : Int); omega) hl.1 ?_
    refine V_iconst dX5_tell_155 ?_
    refine V_isub dX5_tell_156 ?_
    refine V_iast dX5_tell_157 s_76 (by omega) ?_
    refine V_aload_n dX5_tell_158 rfl ?_
    refine V_getR (ci := 5) (j := 0) dX5_tell_159 s_71 rfl rfl i_X5_tell_X5 (by decide) f_X5_tell_7 ?_
    refine V_sipush dX5_tell_162 rfl ?_
    refine V_aload_n dX5_tell_165 rfl ?_
    refine V_getIE (ci := 5) (j := 10) (ji := 10) (z := w 71 10) dX5_tell_166 s_71 rfl rfl i_X5_tell_X5 (by decide) f_X5_tell_115 rfl (by rw [up_ne (by omega)]) ?_
    refine V_iadd dX5_tell_169 ?_
    refine V_iload_n dX5_tell_170 rfl ?_
    refine V_iast dX5_tell_171 s_72 (by omega) ?_
    refine V_aload_n dX5_tell_172 rfl ?_
    refine V_getR (ci := 5) (j := 7) dX5_tell_173 s_71 rfl rfl i_X5_tell_X5 (by decide) f_X5_tell_26 ?_
    refine V_aload_n dX5_tell_176 rfl ?_
    refine V_getIE (ci := 5) (j := 10) (ji := 10) (z := w 71 10) dX5_tell_177 s_71 rfl rfl i_X5_tell_X5 (by decide) f_X5_tell_115 rfl (by rw [up_ne (by omega), up_ne (by omega)]) ?_
    refine V_aload_n dX5_tell_180 rfl ?_
    refine V_getR (ci := 5) (j := 4) dX5_tell_181 s_71 rfl rfl i_X5_tell_X5 (by decide) f_X5_tell_20 ?_
    refine V_iload_n dX5_tell_184 rfl ?_
    refine V_iconst dX5_tell_185 ?_
    refine V_iadd dX5_tell_186 ?_
    refine V_ialdE (z := x.2.2.1) dX5_tell_187 s_75 (by show 0 ≤ _ ∧ _ < (48 : Int); omega) (by rw [up_ne (by omega), up_ne (by omega)]; exact hl.2.2.1 (by omega)) ?_
    refine V_iast dX5_tell_188 s_77 (by omega) ?_
    refine V_aload_n dX5_tell_189 rfl ?_
    refine V_getR (ci := 5) (j := 8) dX5_tell_190 s_71 rfl rfl i_X5_tell_X5 (by decide) f_X5_tell_29 ?_
    refine V_aload_n dX5_tell_193 rfl ?_
    refine V_getIE (ci := 5) (j := 10) (ji := 10) (z := w 71 10) dX5_tell_194 s_71 rfl rfl i_X5_tell_X5 (by decide) f_X5_tell_115 rfl (by rw [up_ne (by omega), up_ne (by omega), up_ne (by omega)]) ?_
    refine V_aload_n dX5_tell_197 rfl ?_
    refine V_getR (ci := 5) (j := 4) dX5_tell_198 s_71 rfl rfl i_X5_tell_X5 (by decide) f_X5_tell_20 ?_
    refine V_iload_n dX5_tell_201 rfl ?_
    refine V_iconst dX5_tell_202 ?_
    refine V_iadd dX5_tell_203 ?_
    refine V_ialdE (z := x.2.2.2) dX5_tell_204 s_75 (by show 0 ≤ _ ∧ _ < (48 : Int); omega) (by rw [up_ne (by omega), up_ne (by omega), up_ne (by omega)]; exact hl.2.2.2 (by omega)) ?_
    refine V_iast dX5_tell_205 s_78 (by omega) ?_
    refine V_aload_n dX5_tell_206 rfl ?_
    refine V_getR (ci := 5) (j := 9) dX5_tell_207 s_71 rfl rfl i_X5_tell_X5 (by decide) f_X5_tell_32 ?_
    refine V_aload_n dX5_tell_210 rfl ?_
    refine V_getIE (ci := 5) (j := 10) (ji := 10) (z := w 71 10) dX5_tell_211 s_71 rfl rfl i_X5_tell_X5 (by decide) f_X5_tell_115 rfl (by rw [up_ne (by omega), up_ne (by omega), up_ne (by omega), up_ne (by omega)]) ?_
    refine V_iconst dX5_tell_214 ?_
    refine V_iast dX5_tell_215 s_79 (by omega) ?_
    refine V_aload_n dX5_tell_216 rfl ?_
    refine V_dup dX5_tell_217 rfl ?_
    refine V_getIE (ci := 5) (j := 10) (ji := 10) (z := w 71 10) dX5_tell_218 s_71 rfl rfl i_X5_tell_X5 (by decide) f_X5_tell_115 rfl (by rw [up_ne (by omega), up_ne (by omega), up_ne (by omega), up_ne (by omega), up_ne (by omega)]) ?_
    refine V_iconst dX5_tell_221 ?_
    refine V_iadd dX5_tell_222 ?_
    refine V_putI (ci := 5) (j := 10) (ji := 10) dX5_tell_223 s_71 rfl rfl i_X5_tell_X5 tyX5_ok nmX5 (by decide) f_X5_tell_115 rfl rfl rfl ?_
    exact V_vret dX5_tell_226 rfl (tl_t (by omega) hT k10 kx.1 kx.2.1 kx.2.2)
  · refine V_tswI (v := 4) (off := 126) (tgt := 141) dX5_tell_15 h15 (by decide) rfl (by decide) ?_
    refine V_forget (L' := [some (.ref (gA G 71)), some (.int (iZ (4 * m))), some (.int (iZ x.2.1))]) (by rw [hl.2.1 (by omega)]; exact fun _ _ q => q) ?_
    have kx := ho.1.2.1 (by omega)
    have k10 : w 71 10 < 6 := by have := hT.1; have n6 := ho.2.1; have q6 : (tM w).1 = w 71 10 := rfl; omega
    refine V_aload_n dX5_tell_141 rfl ?_
    refine V_getR (ci := 5) (j := 6) dX5_tell_142 s_71 rfl rfl i_X5_tell_X5 (by decide) f_X5_tell_23 ?_
    refine V_aload_n dX5_tell_145 rfl ?_
    refine V_getI (ci := 5) (j := 10) (ji := 10) dX5_tell_146 s_71 rfl rfl i_X5_tell_X5 (by decide) f_X5_tell_115 rfl ?_
    refine V_aload_n dX5_tell_149 rfl ?_
    refine V_getR (ci := 5) (j := 4) dX5_tell_150 s_71 rfl rfl i_X5_tell_X5 (by decide) f_X5_tell_20 ?_
    refine V_iload_n dX5_tell_153 rfl ?_
    refine V_ialdE (z := x.1) dX5_tell_154 s_75 (by show 0 ≤ _ ∧ _ < (48 : Int); omega) hl.1 ?_
    refine V_iconst dX5_tell_155 ?_
    refine V_isub dX5_tell_156 ?_
    refine V_iast dX5_tell_157 s_76 (by omega) ?_
    refine V_aload_n dX5_tell_158 rfl ?_
    refine V_getR (ci := 5) (j := 0) dX5_tell_159 s_71 rfl rfl i_X5_tell_X5 (by decide) f_X5_tell_7 ?_
    refine V_sipush dX5_tell_162 rfl ?_
    refine V_aload_n dX5_tell_165 rfl ?_
    refine V_getIE (ci := 5) (j := 10) (ji := 10) (z := w 71 10) dX5_tell_166 s_71 rfl rfl i_X5_tell_X5 (by decide) f_X5_tell_115 rfl (by rw [up_ne (by omega)]) ?_
    refine V_iadd dX5_tell_169 ?_
    refine V_iload_n dX5_tell_170 rfl ?_
    refine V_iast dX5_tell_171 s_72 (by omega) ?_
    refine V_aload_n dX5_tell_172 rfl ?_
    refine V_getR (ci := 5) (j := 7) dX5_tell_173 s_71 rfl rfl i_X5_tell_X5 (by decide) f_X5_tell_26 ?_
    refine V_aload_n dX5_tell_176 rfl ?_
    refine V_getIE (ci := 5) (j := 10) (ji := 10) (z := w 71 10) dX5_tell_177 s_71 rfl rfl i_X5_tell_X5 (by decide) f_X5_tell_115 rfl (by rw [up_ne (by omega), up_ne (by omega)]) ?_
    refine V_aload_n dX5_tell_180 rfl ?_
    refine V_getR (ci := 5) (j := 4) dX5_tell_181 s_71 rfl rfl i_X5_tell_X5 (by decide) f_X5_tell_20 ?_
    refine V_iload_n dX5_tell_184 rfl ?_
    refine V_iconst dX5_tell_185 ?_
    refine V_iadd dX5_tell_186 ?_
    refine V_ialdE (z := x.2.2.1) dX5_tell_187 s_75 (by show 0 ≤ _ ∧ _ < (48 : Int); omega) (by rw [up_ne (by omega), up_ne (by omega)]; exact hl.2.2.1 (by omega)) ?_
    refine V_iast dX5_tell_188 s_77 (by omega) ?_
    refine V_aload_n dX5_tell_189 rfl ?_
    refine V_getR (ci := 5) (j := 8) dX5_tell_190 s_71 rfl rfl i_X5_tell_X5 (by decide) f_X5_tell_29 ?_
    refine V_aload_n dX5_tell_193 rfl ?_
    refine V_getIE (ci := 5) (j := 10) (ji := 10) (z := w 71 10) dX5_tell_194 s_71 rfl rfl i_X5_tell_X5 (by decide) f_X5_tell_115 rfl (by rw [up_ne (by omega), up_ne (by omega), up_ne (by omega)]) ?_
    refine V_aload_n dX5_tell_197 rfl ?_
    refine V_getR (ci := 5) (j := 4) dX5_tell_198 s_71 rfl rfl i_X5_tell_X5 (by decide) f_X5_tell_20 ?_
    refine V_iload_n dX5_tell_201 rfl ?_
    refine V_iconst dX5_tell_202 ?_
    refine V_iadd dX5_tell_203 ?_
    refine V_ialdE (z := x.2.2.2) dX5_tell_204 s_75 (by show 0 ≤ _ ∧ _ < (48 : Int); omega) (by rw [up_ne (by omega), up_ne (by omega), up_ne (by omega)]; exact hl.2.2.2 (by omega)) ?_
    refine V_iast dX5_tell_205 s_78 (by omega) ?_
    refine V_aload_n dX5_tell_206 rfl ?_
    refine V_getR (ci := 5) (j := 9) dX5_tell_207 s_71 rfl rfl i_X5_tell_X5 (by decide) f_X5_tell_32 ?_
    refine V_aload_n dX5_tell_210 rfl ?_
    refine V_getIE (ci := 5) (j := 10) (ji := 10) (z := w 71 10) dX5_tell_211 s_71 rfl rfl i_X5_tell_X5 (by decide) f_X5_tell_115 rfl (by rw [up_ne (by omega), up_ne (by omega), up_ne (by omega), up_ne (by omega)]) ?_
    refine V_iconst dX5_tell_214 ?_
    refine V_iast dX5_tell_215 s_79 (by omega) ?_
    refine V_aload_n dX5_tell_216 rfl ?_
    refine V_dup dX5_tell_217 rfl ?_
    refine V_getIE (ci := 5) (j := 10) (ji := 10) (z := w 71 10) dX5_tell_218 s_71 rfl rfl i_X5_tell_X5 (by decide) f_X5_tell_115 rfl (by rw [up_ne (by omega), up_ne (by omega), up_ne (by omega), up_ne (by omega), up_ne (by omega)]) ?_
    refine V_iconst dX5_tell_221 ?_
    refine V_iadd dX5_tell_222 ?_
    refine V_putI (ci := 5) (j := 10) (ji := 10) dX5_tell_223 s_71 rfl rfl i_X5_tell_X5 tyX5_ok nmX5 (by decide) f_X5_tell_115 rfl rfl rfl ?_
    exact V_vret dX5_tell_226 rfl (tl_t (by omega) hT k10 kx.1 kx.2.1 kx.2.2)
  · refine V_tswI (v := 5) (off := 61) (tgt := 76) dX5_tell_15 h15 (by decide) rfl (by decide) ?_
    refine V_forget (L' := [some (.ref (gA G 71)), some (.int (iZ (4 * m))), some (.int (iZ x.2.1))]) (by rw [hl.2.1 (by omega)]; exact fun _ _ q => q) ?_
    have kx := ho.1.2.2.1 h15
    refine V_aload_n dX5_tell_76 rfl ?_
    refine V_getR (ci := 5) (j := 9) dX5_tell_77 s_71 rfl rfl i_X5_tell_X5 (by decide) f_X5_tell_32 ?_
    refine V_iload_n dX5_tell_80 rfl ?_
    refine V_aload_n dX5_tell_81 rfl ?_
    refine V_getR (ci := 5) (j := 4) dX5_tell_82 s_71 rfl rfl i_X5_tell_X5 (by decide) f_X5_tell_20 ?_
    refine V_iload_n dX5_tell_85 rfl ?_
    refine V_iconst dX5_tell_86 ?_
    refine V_iadd dX5_tell_87 ?_
    refine V_ialdE (z := x.2.2.1) dX5_tell_88 s_75 (by show 0 ≤ _ ∧ _ < (48 : Int); omega) (by exact hl.2.2.1 (by omega)) ?_
    refine V_iast dX5_tell_89 s_79 (by omega) ?_
    exact V_vret dX5_tell_90 rfl (tl_5 h15 hT kx.1.1 kx.2)
  · refine V_tswI (v := 6) (off := 76) (tgt := 91) dX5_tell_15 h15 (by decide) rfl (by decide) ?_
    refine V_forget (L' := [some (.ref (gA G 71)), some (.int (iZ (4 * m))), some (.int (iZ x.2.1))]) (by rw [hl.2.1 (by omega)]; exact fun _ _ q => q) ?_
    have kx := ho.1.2.2.2.1 h15
    have k12 : w 71 12 < 6 := by have := hT.2.1; have n6 := ho.2.2; have q6 : nqT (tM w) = w 71 12 := qsM_len this.1; omega
    refine V_aload_n dX5_tell_91 rfl ?_
    refine V_getR (ci := 5) (j := 11) dX5_tell_92 s_71 rfl rfl i_X5_tell_X5 (by decide) f_X5_tell_35 ?_
    refine V_iconst dX5_tell_95 ?_
    refine V_aload_n dX5_tell_96 rfl ?_
    refine V_getI (ci := 5) (j := 12) (ji := 12) dX5_tell_97 s_71 rfl rfl i_X5_tell_X5 (by decide) f_X5_tell_118 rfl ?_
    refine V_imul dX5_tell_100 ?_
    refine V_iload_n dX5_tell_101 rfl ?_
    refine V_iast dX5_tell_102 s_80 (by omega) ?_
    refine V_aload_n dX5_tell_103 rfl ?_
    refine V_getR (ci := 5) (j := 11) dX5_tell_104 s_71 rfl rfl i_X5_tell_X5 (by decide) f_X5_tell_35 ?_
    refine V_iconst dX5_tell_107 ?_
    refine V_aload_n dX5_tell_108 rfl ?_
    refine V_getIE (ci := 5) (j := 12) (ji := 12) (z := w 71 12) dX5_tell_109 s_71 rfl rfl i_X5_tell_X5 (by decide) f_X5_tell_118 rfl (by rw [up_ne (by omega)]) ?_
    refine V_imul dX5_tell_112 ?_
    refine V_iconst dX5_tell_113 ?_
    refine V_iadd dX5_tell_114 ?_
    refine V_aload_n dX5_tell_115 rfl ?_
    refine V_getR (ci := 5) (j := 4) dX5_tell_116 s_71 rfl rfl i_X5_tell_X5 (by decide) f_X5_tell_20 ?_
    refine V_iload_n dX5_tell_119 rfl ?_
    refine V_iconst dX5_tell_120 ?_
    refine V_iadd dX5_tell_121 ?_
    refine V_ialdE (z := x.2.2.1) dX5_tell_122 s_75 (by show 0 ≤ _ ∧ _ < (48 : Int); omega) (by rw [up_ne (by omega)]; exact hl.2.2.1 (by omega)) ?_
    refine V_iast dX5_tell_123 s_80 (by omega) ?_
    refine V_aload_n dX5_tell_124 rfl ?_
    refine V_dup dX5_tell_125 rfl ?_
    refine V_getIE (ci := 5) (j := 12) (ji := 12) (z := w 71 12) dX5_tell_126 s_71 rfl rfl i_X5_tell_X5 (by decide) f_X5_tell_118 rfl (by rw [up_ne (by omega), up_ne (by omega)]) ?_
    refine V_iconst dX5_tell_129 ?_
    refine V_iadd dX5_tell_130 ?_
    refine V_putI (ci := 5) (j := 12) (ji := 12) dX5_tell_131 s_71 rfl rfl i_X5_tell_X5 tyX5_ok nmX5 (by decide) f_X5_tell_118 rfl rfl rfl ?_
    exact V_vret dX5_tell_134 rfl (tl_6 h15 hT k12 (by have := hT.1; have e : (tM w).1 = w 71 10 := rfl; omega) (by have := hT.1; have e : (tM w).1 = w 71 10 := rfl; omega))
  · refine V_tswI (v := 7) (off := 120) (tgt := 135) dX5_tell_15 h15 (by decide) rfl (by decide) ?_
    refine V_forget (L' := [some (.ref (gA G 71)), some (.int (iZ (4 * m))), some (.int (iZ x.2.1))]) (by rw [hl.2.1 (by omega)]; exact fun _ _ q => q) ?_
    have kx := ho.1.2.2.2.2 h15
    refine V_aload_n dX5_tell_135 rfl ?_
    refine V_iload_n dX5_tell_136 rfl ?_
    refine V_putI (ci := 5) (j := 13) (ji := 13) dX5_tell_137 s_71 rfl rfl i_X5_tell_X5 tyX5_ok nmX5 (by decide) f_X5_tell_38 rfl rfl rfl ?_
    exact V_vret dX5_tell_140 rfl (tl_7 h15 hT kx)

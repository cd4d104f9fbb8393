/-! ===== 49 the reference's calls: keep, back, count, write ===== -/
theorem SM.k0 {c : Int} {σ : SG} {w w' : Wd} (h : SM c σ w) (g : ∀ (k : Nat) (j : Int), (k ≠ 72 ∨ j < 75 ∨ 150 ≤ j) → (k ≠ 73 ∨ j ≠ 0) → w' k j = w k j) (e4 : w' 73 0 = 1) (e : mAS w' 75 = σ.2.2.1) (ho : okM c w' 75) : SM (c + 1) (σ.1, σ.2.1, σ.2.2.1, some σ.2.2.1, σ.2.2.2.2) w' := by
  have h9 := h.same
  have e0 : w' 72 75 = σ.2.2.1.1 := congrArg (fun t : AS => t.1) e
  have d9 : w' 72 75 ≤ 9999 := by rw [e0, ← h.aD]; exact h.2.2.1.2.2
  obtain ⟨h1, ⟨h2, h3, h3'⟩, ⟨h4, h5, h6⟩, h7, h8⟩ := h9
  obtain ⟨a1, a2⟩ := okM_eq h5 (w' := w') (o' := 0) (fun j q0 q1 => g _ _ (by omega) (by omega))
  exact ⟨h1.keep (g _ _ (by omega) (by omega)) (fun i => g _ _ (by omega) (by omega)), ⟨by rw [tM_eq (fun j q => g _ _ (by omega) (by omega)) (fun j _ _ => g _ _ (by omega) (by omega)) (fun k j _ _ => g _ _ (by omega) (by omega))]; exact h2, okTm_eq h3 (fun j q => g _ _ (by omega) (by omega)) (fun j _ _ => g _ _ (by omega) (by omega)) (fun k j _ _ => g _ _ (by omega) (by omega)), tdM_eq h3' (fun j _ _ => g _ _ (by omega) (by omega))⟩, ⟨by rw [a2]; exact h4, a1, by rw [g _ _ (by omega) (by omega)]; exact h6⟩, Or.inr ⟨e4, by rw [e], okM_mono ho (by omega), d9⟩, kpM_keep h8 (g _ _ (by omega) (by omega)) (fun j _ _ => g _ _ (by omega) (by omega))⟩
theorem SM.k1 {c : Int} {σ : SG} {w w' : Wd} (h : SM c σ w) (g : ∀ (k : Nat) (j : Int), (k ≠ 72 ∨ j < 150 ∨ 225 ≤ j) → (k ≠ 73 ∨ j ≠ 1) → w' k j = w k j) (e4 : w' 73 1 = 1) (e : mAS w' 150 = σ.2.2.1) (ho : okM c w' 150) : SM (c + 1) (σ.1, σ.2.1, σ.2.2.1, σ.2.2.2.1, some σ.2.2.1) w' := by
  have h9 := h.same
  have e0 : w' 72 150 = σ.2.2.1.1 := congrArg (fun t : AS => t.1) e
  have d9 : w' 72 150 ≤ 9999 := by rw [e0, ← h.aD]; exact h.2.2.1.2.2
  obtain ⟨h1, ⟨h2, h3, h3'⟩, ⟨h4, h5, h6⟩, h7, h8⟩ := h9
  obtain ⟨a1, a2⟩ := okM_eq h5 (w' := w') (o' := 0) (fun j q0 q1 => g _ _ (by omega) (by omega))
  exact ⟨h1.keep (g _ _ (by omega) (by omega)) (fun i => g _ _ (by omega) (by omega)), ⟨by rw [tM_eq (fun j q => g _ _ (by omega) (by omega)) (fun j _ _ => g _ _ (by omega) (by omega)) (fun k j _ _ => g _ _ (by omega) (by omega))]; exact h2, okTm_eq h3 (fun j q => g _ _ (by omega) (by omega)) (fun j _ _ => g _ _ (by omega) (by omega)) (fun k j _ _ => g _ _ (by omega) (by omega)), tdM_eq h3' (fun j _ _ => g _ _ (by omega) (by omega))⟩, ⟨by rw [a2]; exact h4, a1, by rw [g _ _ (by omega) (by omega)]; exact h6⟩, kpM_keep h7 (g _ _ (by omega) (by omega)) (fun j _ _ => g _ _ (by omega) (by omega)), Or.inr ⟨e4, by rw [e], okM_mono ho (by omega), d9⟩⟩
theorem kp_ok {c : Int} {w : Wd} {a b i : Int} (ho : okM c w a) (hb : 0 ≤ b) : okM c (up (cpM w a b 0) 73 i 1) b ∧ mAS (up (cpM w a b 0) 73 i 1) b = mAS w a := okM_eq ho (fun j q0 q1 => by rw [up_ne (by omega), cpM_at ⟨q0, q1⟩])
theorem bk_ok {c : Int} {w : Wd} {a b : Int} (ho : okM c w a) : okM c (cpM w a b 0) b ∧ mAS (cpM w a b 0) b = mAS w a := okM_eq ho (fun j q0 q1 => by rw [cpM_at ⟨q0, q1⟩])
set_option maxRecDepth 100000 in
set_option maxHeartbeats 4000000 in
theorem c_X5_keep (G : Gb) (l : Launch) {w : Wd} {c : Int} {σ : SG} (h : SM c σ w) {i : Int} (hi : inR i) : Ci G l yX5_keep mX5_keep [.ref (gA G 71), .int (iZ i)] w (fun z w' => z = (aKeep σ i).1 ∧ SM (c + 1) (aKeep σ i).2 w' ∧ frM w w') := by
  refine V_start 0 (by decide) rfl rfl (Nat.le_of_ble_eq_true rfl) ?_
  show V G l mX5_keep _ 0 [some (.ref (gA G 71)), some (.int (iZ i))] [] w
  have hT := h.2.1.2.1
  have hO := h.2.2.1.2.1
  have kt := hT.1
  have kn : 0 ≤ w 72 14 ∧ w 72 14 ≤ 12 := hO.n
  have eN := h.tN
  have eL := h.aN
  refine V_iload_n dX5_keep_0 rfl ?_
  refine V_i2l dX5_keep_1 (iZ_l (by omega)) ?_
  refine V_lconst (v := lZ 0) dX5_keep_2 rfl ?_
  refine V_lconst (v := lZ 1) dX5_keep_3 rfl ?_
  refine V_iS3 dX5_keep_4 o_X5_keep_50 (Nat.le_of_ble_eq_true rfl) (c_X5_in G l (by omega) (by omega) (by omega)) ?_
  rintro z _ ⟨hz, rfl⟩
  have rz : z = 0 ∨ z = 1 := by rw [hz]; split <;> simp
  refine V_if_ne (tgt := 13) dX5_keep_7 (by decide) (by omega) (fun h7 => ?_) (fun h7 => ?_)
  · have yz : 0 ≤ i ∧ i ≤ 1 := by
      by_cases q9 : 0 ≤ i ∧ i ≤ 1
      · exact q9
      · rw [if_neg q9] at hz; omega
    rcases (show i = 0 ∨ i = 1 by omega) with rfl | rfl
    · refine V_aload_n dX5_keep_13 rfl ?_
      refine V_iconst dX5_keep_14 ?_
      refine V_bipush dX5_keep_15 rfl ?_
      refine V_iconst dX5_keep_17 ?_
      refine V_iload_n dX5_keep_18 rfl ?_
      refine V_iadd dX5_keep_19 ?_
      refine V_imul dX5_keep_20 ?_
      refine V_top (show 75 * (1 + 0) = 75 by omega) ?_
      refine V_vV2 dX5_keep_21 o_X5_keep_132 s_71 rfl (Nat.le_of_ble_eq_true rfl) (c_X5_copy G l (a := 0) (b := 75) (by omega) (by omega) (by omega)) ?_
      rintro _ rfl
      refine V_aload_n dX5_keep_24 rfl ?_
      refine V_getR (ci := 5) (j := 1) dX5_keep_25 s_71 rfl rfl i_X5_keep_X5 (by decide) f_X5_keep_13 ?_
      refine V_iload_n dX5_keep_28 rfl ?_
      refine V_iconst dX5_keep_29 ?_
      refine V_zast dX5_keep_30 s_73 (by omega) (by omega) ?_
      refine V_aload_n dX5_keep_31 rfl ?_
      refine V_getR (ci := 5) (j := 0) dX5_keep_32 s_71 rfl rfl i_X5_keep_X5 (by decide) f_X5_keep_7 ?_
      refine V_iconst dX5_keep_35 ?_
      refine V_ialdE (z := w 72 0) dX5_keep_36 s_72 (by omega) (by rw [up_ne (by omega), cpM_ne (by omega)]) ?_
      exact V_iret dX5_keep_37 rfl (by rw [aKeep, if_pos rfl]; exact ⟨h.aD, h.k0 (fun k j q1 q2 => by rw [up_ne (by omega), cpM_ne (by omega)]) (by rw [up_eq]) ((kp_ok hO (by omega)).2.trans h.2.2.1.1) (kp_ok hO (by omega)).1, fun k j q => by rw [up_ne (by omega), cpM_ne (by omega)]⟩)
    · refine V_aload_n dX5_keep_13 rfl ?_
      refine V_iconst dX5_keep_14 ?_
      refine V_bipush dX5_keep_15 rfl ?_
      refine V_iconst dX5_keep_17 ?_
      refine V_iload_n dX5_keep_18 rfl ?_
      refine V_iadd dX5_keep_19 ?_
      refine V_imul dX5_keep_20 ?_
      refine V_top (show 75 * (1 + 1) = 150 by omega) ?_
      refine V_vV2 dX5_keep_21 o_X5_keep_132 s_71 rfl (Nat.le_of_ble_eq_true rfl) (c_X5_copy G l (a := 0) (b := 150) (by omega) (by omega) (by omega)) ?_
      rintro _ rfl
      refine V_aload_n dX5_keep_24 rfl ?_
      refine V_getR (ci := 5) (j := 1) dX5_keep_25 s_71 rfl rfl i_X5_keep_X5 (by decide) f_X5_keep_13 ?_
      refine V_iload_n dX5_keep_28 rfl ?_
      refine V_iconst dX5_keep_29 ?_
      refine V_zast dX5_keep_30 s_73 (by omega) (by omega) ?_
      refine V_aload_n dX5_keep_31 rfl ?_
      refine V_getR (ci := 5) (j := 0) dX5_keep_32 s_71 rfl rfl i_X5_keep_X5 (by decide) f_X5_keep_7 ?_
      refine V_iconst dX5_keep_35 ?_
      refine V_ialdE (z := w 72 0) dX5_keep_36 s_72 (by omega) (by rw [up_ne (by omega), cpM_ne (by omega)]) ?_
      exact V_iret dX5_keep_37 rfl (by rw [aKeep, if_neg (by omega), if_pos rfl]; exact ⟨h.aD, h.k1 (fun k j q1 q2 => by rw [up_ne (by omega), cpM_ne (by omega)]) (by rw [up_eq]) ((kp_ok hO (by omega)).2.trans h.2.2.1.1) (kp_ok hO (by omega)).1, fun k j q => by rw [up_ne (by omega), cpM_ne (by omega)]⟩)
  · have yz : ¬ (0 ≤ i ∧ i ≤ 1) := fun q9 => by rw [if_pos q9] at hz; omega
    refine V_bipush dX5_keep_10 rfl ?_
    exact V_iret dX5_keep_12 rfl (by rw [aKeep, if_neg (by omega), if_neg (by omega)]; exact ⟨rfl, h.same, fun _ _ _ => rfl⟩)
set_option maxRecDepth 100000 in
set_option maxHeartbeats 4000000 in
theorem c_X5_back (G : Gb) (l : Launch) {w : Wd} {c : Int} {σ : SG} (h : SM c σ w) {i : Int} (hi : inR i) : Ci G l yX5_back mX5_back [.ref (gA G 71), .int (iZ i)] w (fun z w' => z = (aBack σ i).1 ∧ SM (c + 1) (aBack σ i).2 w' ∧ frM w w') := by
  refine V_start 0 (by decide) rfl rfl (Nat.le_of_ble_eq_true rfl) ?_
  show V G l mX5_back _ 0 [some (.ref (gA G 71)), some (.int (iZ i))] [] w
  have hT := h.2.1.2.1
  have hO := h.2.2.1.2.1
  have kt := hT.1
  have kn : 0 ≤ w 72 14 ∧ w 72 14 ≤ 12 := hO.n
  have eN := h.tN
  have eL := h.aN
  refine V_iload_n dX5_back_0 rfl ?_
  refine V_i2l dX5_back_1 (iZ_l (by omega)) ?_
  refine V_lconst (v := lZ 0) dX5_back_2 rfl ?_
  refine V_lconst (v := lZ 1) dX5_back_3 rfl ?_
  refine V_iS3 dX5_back_4 o_X5_back_50 (Nat.le_of_ble_eq_true rfl) (c_X5_in G l (by omega) (by omega) (by omega)) ?_
  rintro z _ ⟨hz, rfl⟩
  have rz : z = 0 ∨ z = 1 := by rw [hz]; split <;> simp
  refine V_if_ne (tgt := 13) dX5_back_7 (by decide) (by omega) (fun h7 => ?_) (fun h7 => ?_)
  · have yz : 0 ≤ i ∧ i ≤ 1 := by
      by_cases q9 : 0 ≤ i ∧ i ≤ 1
      · exact q9
      · rw [if_neg q9] at hz; omega
    rcases (show i = 0 ∨ i = 1 by omega) with rfl | rfl
    · have kp := h.2.2.2.1
      have r4 : w 73 0 = 0 ∨ w 73 0 = 1 := kp.elim (fun q => Or.inl q.1) (fun q => Or.inr q.1)
      refine V_aload_n dX5_back_13 rfl ?_
      refine V_getR (ci := 5) (j := 1) dX5_back_14 s_71 rfl rfl i_X5_back_X5 (by decide) f_X5_back_13 ?_
      refine V_iload_n dX5_back_17 rfl ?_
      refine V_zald dX5_back_18 s_73 (by omega) ?_
      refine V_if_ne (tgt := 25) dX5_back_19 (by decide) (by omega) (fun h19 => ?_) (fun h19 => ?_)
      · obtain ⟨p1, p2, p3, p4⟩ : w 73 0 = 1 ∧ σ.2.2.2.1 = some (mAS w 75) ∧ okM c w 75 ∧ w 72 75 ≤ 9999 := by
          rcases kp with q | q
          · exact absurd q.1 (by omega)
          · exact q
        refine V_aload_n dX5_back_25 rfl ?_
        refine V_bipush dX5_back_26 rfl ?_
        refine V_iconst dX5_back_28 ?_
        refine V_iload_n dX5_back_29 rfl ?_
        refine V_iadd dX5_back_30 ?_
        refine V_imul dX5_back_31 ?_
        refine V_top (show 75 * (1 + 0) = 75 by omega) ?_
        refine V_iconst dX5_back_32 ?_
        refine V_vV2 dX5_back_33 o_X5_back_132 s_71 rfl (Nat.le_of_ble_eq_true rfl) (c_X5_copy G l (a := 75) (b := 0) (by omega) (by omega) (by omega)) ?_
        rintro _ rfl
        refine V_aload_n dX5_back_36 rfl ?_
        refine V_getR (ci := 5) (j := 0) dX5_back_37 s_71 rfl rfl i_X5_back_X5 (by decide) f_X5_back_7 ?_
        refine V_iconst dX5_back_40 ?_
        refine V_ialdE (z := w 72 75) dX5_back_41 s_72 (by omega) (by have q := cpM_at (w := w) (a := 75) (b := 0) (j := 0) (by omega); rw [Int.zero_add, Int.add_zero] at q; exact q) ?_
        exact V_iret dX5_back_42 rfl (by rw [aBack, if_pos rfl, p2]; exact ⟨rfl, h.now (fun k j q => cpM_ne (by omega)) (bk_ok p3).2 (okM_mono (bk_ok p3).1 (by omega)) (by have q := cpM_at (w := w) (a := 75) (b := 0) (j := 0) (by omega); rw [Int.zero_add, Int.add_zero] at q; rw [q]; exact p4), fun k j q => cpM_ne (by omega)⟩)
      · have p2 : σ.2.2.2.1 = none := by
          rcases kp with q | q
          · exact q.2
          · exact absurd q.1 (by omega)
        refine V_bipush dX5_back_22 rfl ?_
        exact V_iret dX5_back_24 rfl (by rw [aBack, if_pos rfl, p2]; exact ⟨rfl, h.same, fun _ _ _ => rfl⟩)
    · have kp := h.2.2.2.2
      have r4 : w 73 1 = 0 ∨ w 73 1 = 1 := kp.elim (fun q => Or.inl q.1) (fun q => Or.inr q.1)
      refine V_aload_n dX5_back_13 rfl ?_
      refine V_getR (ci := 5) (j := 1) dX5_back_14 s_71 rfl rfl i_X5_back_X5 (by decide) f_X5_back_13 ?_
      refine V_iload_n dX5_back_17 rfl ?_
      refine V_zald dX5_back_18 s_73 (by omega) ?_
      refine V_if_ne (tgt := 25) dX5_back_19 (by decide) (by omega) (fun h19 => ?_) (fun h19 => ?_)
      · obtain ⟨p1, p2, p3, p4⟩ : w 73 1 = 1 ∧ σ.2.2.2.2 = some (mAS w 150) ∧ okM c w 150 ∧ w 72 150 ≤ 9999 := by
          rcases kp with q | q
          · exact absurd q.1 (by omega)
          · exact q
        refine V_aload_n dX5_back_25 rfl ?_
        refine V_bipush dX5_back_26 rfl ?_
        refine V_iconst dX5_back_28 ?_
        refine V_iload_n dX5_back_29 rfl ?_
        refine V_iadd dX5_back_30 ?_
        refine V_imul dX5_back_31 ?_
        refine V_top (show 75 * (1 + 1) = 150 by omega) ?_
        refine V_iconst dX5_back_32 ?_
        refine V_vV2 dX5_back_33 o_X5_back_132 s_71 rfl (Nat.le_of_ble_eq_true rfl) (c_X5_copy G l (a := 150) (b := 0) (by omega) (by omega) (by omega)) ?_
        rintro _ rfl
        refine V_aload_n dX5_back_36 rfl ?_
        refine V_getR (ci := 5) (j := 0) dX5_back_37 s_71 rfl rfl i_X5_back_X5 (by decide) f_X5_back_7 ?_
        refine V_iconst dX5_back_40 ?_
        refine V_ialdE (z := w 72 150) dX5_back_41 s_72 (by omega) (by have q := cpM_at (w := w) (a := 150) (b := 0) (j := 0) (by omega); rw [Int.zero_add, Int.add_zero] at q; exact q) ?_
        exact V_iret dX5_back_42 rfl (by rw [aBack, if_neg (by omega), if_pos rfl, p2]; exact ⟨rfl, h.now (fun k j q => cpM_ne (by omega)) (bk_ok p3).2 (okM_mono (bk_ok p3).1 (by omega)) (by have q := cpM_at (w := w) (a := 150) (b := 0) (j := 0) (by omega); rw [Int.zero_add, Int.add_zero] at q; rw [q]; exact p4), fun k j q => cpM_ne (by omega)⟩)
      · have p2 : σ.2.2.2.2 = none := by
          rcases kp with q | q
          · exact q.2
          · exact absurd q.1 (by omega)
        refine V_bipush dX5_back_22 rfl ?_
        exact V_iret dX5_back_24 rfl (by rw [aBack, if_neg (by omega), if_pos rfl, p2]; exact ⟨rfl, h.same, fun _ _ _ => rfl⟩)
  · have yz : ¬ (0 ≤ i ∧ i ≤ 1) := fun q9 => by rw [if_pos q9] at hz; omega
    refine V_bipush dX5_back_10 rfl ?_
    exact V_iret dX5_back_12 rfl (by rw [aBack, if_neg (by omega), if_neg (by omega)]; exact ⟨rfl, h.same, fun _ _ _ => rfl⟩)
set_option maxRecDepth 100000 in
set_option maxHeartbeats 4000000 in
theorem c_X5_count (G : Gb) (l : Launch) {w : Wd} {c : Int} {σ : SG} (h : SM c σ w) {q : Int} (hq : inR q) : Ci G l yX5_count mX5_count [.ref (gA G 71), .int (iZ q)] w (fun z w' => z = aCount σ q ∧ SM (c + 1) σ w' ∧ frM w w') := by
  refine V_start 0 (by decide) rfl rfl (Nat.le_of_ble_eq_true rfl) ?_
  show V G l mX5_count _ 0 [some (.ref (gA G 71)), some (.int (iZ q))] [] w
  have hT := h.2.1.2.1
  have hO := h.2.2.1.2.1
  have kt := hT.1
  have kn : 0 ≤ w 72 14 ∧ w 72 14 ≤ 12 := hO.n
  have eN := h.tN
  have eL := h.aN
  refine V_iload_n dX5_count_0 rfl ?_
  rcases (show q = 0 ∨ q = 1 ∨ q = 2 ∨ q = 3 ∨ q = 4 ∨ q = 5 ∨ q = 6 ∨ q = 7 ∨ (q < 0 ∨ 7 < q) by omega) with h1 | h1 | h1 | h1 | h1 | h1 | h1 | h1 | h1
  · refine V_tswI (v := 0) (off := 47) (tgt := 48) dX5_count_1 h1 (by decide) rfl (by decide) ?_
    refine V_aload_n dX5_count_48 rfl ?_
    refine V_getI (ci := 5) (j := 10) (ji := 10) dX5_count_49 s_71 rfl rfl i_X5_count_X5 (by decide) f_X5_count_115 rfl ?_
    exact V_iret dX5_count_52 rfl ⟨by rw [aCount]; simp only [h1]; exact h.tN, h.same, fun _ _ _ => rfl⟩
  · refine V_tswI (v := 1) (off := 52) (tgt := 53) dX5_count_1 h1 (by decide) rfl (by decide) ?_
    refine V_aload_n dX5_count_53 rfl ?_
    refine V_getI (ci := 5) (j := 12) (ji := 12) dX5_count_54 s_71 rfl rfl i_X5_count_X5 (by decide) f_X5_count_118 rfl ?_
    exact V_iret dX5_count_57 rfl ⟨by rw [aCount]; simp only [h1]; exact (by show w 71 12 = _; rw [← h.tQ]; have := hT.2.1; simp [qsM]; omega), h.same, fun _ _ _ => rfl⟩
  · refine V_tswI (v := 2) (off := 57) (tgt := 58) dX5_count_1 h1 (by decide) rfl (by decide) ?_
    refine V_aload_n dX5_count_58 rfl ?_
    refine V_getI (ci := 5) (j := 13) (ji := 13) dX5_count_59 s_71 rfl rfl i_X5_count_X5 (by decide) f_X5_count_38 rfl ?_
    exact V_iret dX5_count_62 rfl ⟨by rw [aCount]; simp only [h1]; exact h.tH, h.same, fun _ _ _ => rfl⟩
  · refine V_tswI (v := 3) (off := 62) (tgt := 63) dX5_count_1 h1 (by decide) rfl (by decide) ?_
    refine V_aload_n dX5_count_63 rfl ?_
    refine V_getR (ci := 5) (j := 0) dX5_count_64 s_71 rfl rfl i_X5_count_X5 (by decide) f_X5_count_7 ?_
    refine V_bipush dX5_count_67 rfl ?_
    refine V_iald dX5_count_69 s_72 (by omega) ?_
    exact V_iret dX5_count_70 rfl ⟨by rw [aCount]; simp only [h1]; exact h.aN, h.same, fun _ _ _ => rfl⟩
  · refine V_tswI (v := 4) (off := 70) (tgt := 71) dX5_count_1 h1 (by decide) rfl (by decide) ?_
    refine V_aload_n dX5_count_71 rfl ?_
    refine V_getR (ci := 5) (j := 0) dX5_count_72 s_71 rfl rfl i_X5_count_X5 (by decide) f_X5_count_7 ?_
    refine V_iconst dX5_count_75 ?_
    refine V_iald dX5_count_76 s_72 (by omega) ?_
    exact V_iret dX5_count_77 rfl ⟨by rw [aCount]; simp only [h1]; exact h.aD, h.same, fun _ _ _ => rfl⟩
  · refine V_tswI (v := 5) (off := 77) (tgt := 78) dX5_count_1 h1 (by decide) rfl (by decide) ?_
    refine V_aload_n dX5_count_78 rfl ?_
    refine V_getR (ci := 5) (j := 0) dX5_count_79 s_71 rfl rfl i_X5_count_X5 (by decide) f_X5_count_7 ?_
    refine V_iconst dX5_count_82 ?_
    refine V_iald dX5_count_83 s_72 (by omega) ?_
    exact V_iret dX5_count_84 rfl ⟨by rw [aCount]; simp only [h1]; exact h.aX, h.same, fun _ _ _ => rfl⟩
  · refine V_tswI (v := 6) (off := 84) (tgt := 85) dX5_count_1 h1 (by decide) rfl (by decide) ?_
    refine V_aload_n dX5_count_85 rfl ?_
    refine V_iconst dX5_count_86 ?_
    refine V_iV1 dX5_count_87 o_X5_count_185 s_71 rfl (Nat.le_of_ble_eq_true rfl) (c_X5_owedAll G l (o := 0) (by omega) hO.n) ?_
    rintro _ _ ⟨rfl, rfl⟩
    exact V_iret dX5_count_90 rfl ⟨by rw [aCount]; simp only [h1]; exact (by rw [← h.aL]; rfl), h.same, fun _ _ _ => rfl⟩
  · refine V_tswI (v := 7) (off := 90) (tgt := 91) dX5_count_1 h1 (by decide) rfl (by decide) ?_
    refine V_aload_n dX5_count_91 rfl ?_
    refine V_getI (ci := 5) (j := 3) (ji := 3) dX5_count_92 s_71 rfl rfl i_X5_count_X5 (by decide) f_X5_count_54 rfl ?_
    exact V_iret dX5_count_95 rfl ⟨by rw [aCount]; simp only [h1]; exact h.1.1, h.same, fun _ _ _ => rfl⟩
  · refine V_tswO (tgt := 96) dX5_count_1 (by omega) h1 (by decide) ?_
    refine V_bipush dX5_count_96 rfl ?_
    exact V_iret dX5_count_98 rfl ⟨by rw [aCount, if_neg (by omega), if_neg (by omega), if_neg (by omega), if_neg (by omega), if_neg (by omega), if_neg (by omega), if_neg (by omega), if_neg (by omega)], h.same, fun _ _ _ => rfl⟩
theorem TM_add {w : Wd} {T : List Int} {b : Int} (h : TM w T) (hl : T.length < 200) (hb : 0 ≤ b ∧ b ≤ 255) : TM (up (up w 74 (w 71 3) b) 71 3 (w 71 3 + 1)) (T ++ [b]) := by
  obtain ⟨h1, h2, h3⟩ := h
  refine ⟨by rw [up_eq, h1]; simp, by simp; omega, fun i g0 g1 => ?_⟩
  simp only [List.length_append, List.length_cons, List.length_nil] at g1
  rw [up_ne (by omega)]
  by_cases e : i = w 71 3
  · subst e
    have : ch (T ++ [b]) (w 71 3) = b := by
      unfold ch
      rw [h1, show ((T.length : Int)).toNat = T.length by omega, List.getD_eq_getElem?_getD, List.getElem?_append_right (by omega), Nat.sub_self]
      rfl
    rw [up_eq, this]
    exact ⟨rfl, hb⟩
  · rw [up_ne (by omega)]
    have : ch (T ++ [b]) i = ch T i := by
      unfold ch
      rw [List.getD_eq_getElem?_getD, List.getD_eq_getElem?_getD, List.getElem?_append_left (by omega)]
    rw [this]
    exact h3 i g0 (by omega)
def frWt (w w' : Wd) : Prop := ∀ (k : Nat) (j : Int), (k ≠ 71 ∨ j ≠ 3) → k ≠ 74 → w' k j = w k j
theorem SM.text {c : Int} {σ : SG} {w w' : Wd} {T : List Int} (h : SM c σ w) (g : frWt w w') (hT : TM w' T) : SM (c + 1) (T, σ.2) w' := by
  have h9 := h.same
  obtain ⟨h1, ⟨h2, h3, h3'⟩, ⟨h4, h5, h6⟩, h7, h8⟩ := h9
  obtain ⟨a1, a2⟩ := okM_eq h5 (w' := w') (o' := 0) (fun j q0 q1 => g _ _ (by omega) (by omega))
  exact ⟨hT, ⟨by rw [tM_eq (fun j q => g _ _ (by omega) (by omega)) (fun j _ _ => g _ _ (by omega) (by omega)) (fun k j _ _ => g _ _ (by omega) (by omega))]; exact h2, okTm_eq h3 (fun j q => g _ _ (by omega) (by omega)) (fun j _ _ => g _ _ (by omega) (by omega)) (fun k j _ _ => g _ _ (by omega) (by omega)), tdM_eq h3' (fun j _ _ => g _ _ (by omega) (by omega))⟩, ⟨by rw [a2]; exact h4, a1, by rw [g _ _ (by omega) (by omega)]; exact h6⟩, kpM_keep h7 (g _ _ (by omega) (by omega)) (fun j _ _ => g _ _ (by omega) (by omega)), kpM_keep h8 (g _ _ (by omega) (by omega)) (fun j _ _ => g _ _ (by omega) (by omega))⟩
set_option maxRecDepth 100000 in
set_option maxHeartbeats 4000000 in
theorem l_X5_write (G : Gb) (l : Launch) {x : Int64} {n : Int} (hn : 1 ≤ n ∧ n ≤ 8) {Post : Int → Wd → Prop} : ∀ (k : Nat) (i : Int) (w : Wd) (T : List Int), 0 ≤ i → i + k = n → TM w T → T.length + k ≤ 200 → (∀ w', TM w' (T ++ byF x k i) → frWt w w' → Post (w' 71 3) w') → V G l mX5_write (Qi G Post) 33 [some (.ref (gA G 71)), some (.long x), none, some (.int (iZ n)), some (.int (iZ i))] [] w := by
  intro k
  induction k with
  | zero =>
    intro i w T h0 h1 hT hl hp
    refine V_iload dX5_write_33 rfl ?_
    refine V_iload_n dX5_write_35 rfl ?_
    refine V_icmp_ge (tgt := 76) dX5_write_36 (by decide) (by omega) (by omega) (fun h36 => ?_) (fun h36 => ?_)
    · refine V_aload_n dX5_write_76 rfl ?_
      refine V_getI (ci := 5) (j := 3) (ji := 3) dX5_write_77 s_71 rfl rfl i_X5_write_X5 (by decide) f_X5_write_54 rfl ?_
      exact V_iret dX5_write_80 rfl (hp w (by rw [byF, List.append_nil]; exact hT) (fun _ _ _ _ => rfl))
    · exact absurd h36 (by omega)
  | succ k ih =>
    intro i w T h0 h1 hT hl hp
    have k1 := hT.1
    refine V_iload dX5_write_33 rfl ?_
    refine V_iload_n dX5_write_35 rfl ?_
    refine V_icmp_ge (tgt := 76) dX5_write_36 (by decide) (by omega) (by omega) (fun h36 => ?_) (fun h36 => ?_)
    · exact absurd h36 (by omega)
    · refine V_aload_n dX5_write_39 rfl ?_
      refine V_getR (ci := 5) (j := 2) dX5_write_40 s_71 rfl rfl i_X5_write_X5 (by decide) f_X5_write_17 ?_
      refine V_aload_n dX5_write_43 rfl ?_
      refine V_getI (ci := 5) (j := 3) (ji := 3) dX5_write_44 s_71 rfl rfl i_X5_write_X5 (by decide) f_X5_write_54 rfl ?_
      refine V_lload_n dX5_write_47 rfl ?_
      refine V_bipush dX5_write_48 rfl ?_
      refine V_iload dX5_write_50 rfl ?_
      refine V_imul dX5_write_52 ?_
      refine V_lshr dX5_write_53 rfl ?_
      refine V_ldc2 (v := 255) dX5_write_54 (List.mem_of_getElem? (i := 4) rfl) ?_
      refine V_land dX5_write_57 ?_
      refine V_l2i dX5_write_58 (iZ_self _).symm ?_
      refine V_iast dX5_write_59 s_74 (by omega) ?_
      refine V_aload_n dX5_write_60 rfl ?_
      refine V_dup dX5_write_61 rfl ?_
      refine V_getIE (ci := 5) (j := 3) (ji := 3) (z := w 71 3) dX5_write_62 s_71 rfl rfl i_X5_write_X5 (by decide) f_X5_write_54 rfl (up_ne (Or.inl (by omega))) ?_
      refine V_iconst dX5_write_65 ?_
      refine V_iadd dX5_write_66 ?_
      refine V_putI (ci := 5) (j := 3) (ji := 3) dX5_write_67 s_71 rfl rfl i_X5_write_X5 tyX5_ok nmX5 (by decide) f_X5_write_54 rfl rfl rfl ?_
      refine V_iinc dX5_write_70 rfl (by decide) rfl ?_
      refine V_goto (tgt := 33) dX5_write_73 (by decide) ?_
      refine ih (i + 1) _ (T ++ [byB x i]) (by omega) (by omega) (TM_add hT (by omega) (byB_bd x i)) (by simp; omega) (fun w' h5 h6 => ?_)
      rw [List.append_assoc] at h5
      exact hp w' h5 (fun a b q1 q2 => by rw [h6 a b q1 q2, up_ne (by omega), up_ne (by omega)])
set_option maxRecDepth 100000 in
set_option maxHeartbeats 4000000 in
theorem c_X5_write (G : Gb) (l : Launch) {w : Wd} {c : Int} {σ : SG} (h : SM c σ w) {x : Int64} {n : Int} (hn : inR n) : Ci G l yX5_write mX5_write [.ref (gA G 71), .long x, .int (iZ n)] w (fun z w' => z = (aWrite σ.1 x n).1 ∧ SM (c + 1) ((aWrite σ.1 x n).2, σ.2) w' ∧ frM w w') := by
  refine V_start 1 (by decide) rfl rfl (Nat.le_of_ble_eq_true rfl) ?_
  show V G l mX5_write _ 0 [some (.ref (gA G 71)), some (.long x), none, some (.int (iZ n)), none] [] w
  have k1 := h.1.1
  have k2 := h.1.2.1
  refine V_iload_n dX5_write_0 rfl ?_
  refine V_i2l dX5_write_1 (iZ_l (by omega)) ?_
  refine V_lconst (v := lZ 1) dX5_write_2 rfl ?_
  refine V_ldc2 (v := (lZ 8)) dX5_write_3 (List.mem_of_getElem? (i := 1) rfl) ?_
  refine V_iS3 dX5_write_6 o_X5_write_50 (Nat.le_of_ble_eq_true rfl) (c_X5_in G l (by omega) (by omega) (by omega)) ?_
  rintro z _ ⟨hz, rfl⟩
  have rz : z = 0 ∨ z = 1 := by rw [hz]; split <;> simp
  refine V_if_ne (tgt := 15) dX5_write_9 (by decide) (by omega) (fun h9 => ?_) (fun h9 => ?_)
  · have yz : 1 ≤ n ∧ n ≤ 8 := by
      by_cases q9 : 1 ≤ n ∧ n ≤ 8
      · exact q9
      · rw [if_neg q9] at hz; omega
    refine V_aload_n dX5_write_15 rfl ?_
    refine V_getI (ci := 5) (j := 3) (ji := 3) dX5_write_16 s_71 rfl rfl i_X5_write_X5 (by decide) f_X5_write_54 rfl ?_
    refine V_iload_n dX5_write_19 rfl ?_
    refine V_iadd dX5_write_20 ?_
    refine V_sipush dX5_write_21 rfl ?_
    refine V_icmp_le (tgt := 30) dX5_write_24 (by decide) (by omega) (by omega) (fun h24 => ?_) (fun h24 => ?_)
    · refine V_iconst dX5_write_30 ?_
      refine V_istore dX5_write_31 (by decide) rfl ?_
      refine l_X5_write G l yz n.toNat 0 w σ.1 (by omega) (by omega) h.1 (by omega) (fun w' h5 h6 => ?_)
      rw [aWrite, if_pos yz, if_pos (by omega)]
      refine ⟨?_, h.text h6 h5, fun k j q => h6 k j (by omega) (by omega)⟩
      rw [h5.1, List.length_append, byF_len]
      show _ = ((σ.1.length : Nat) : Int) + n
      omega
    · refine V_bipush dX5_write_27 rfl ?_
      exact V_iret dX5_write_29 rfl (by rw [aWrite, if_pos yz, if_neg (by omega)]; exact ⟨rfl, h.same, fun _ _ _ => rfl⟩)
  · have yz : ¬ (1 ≤ n ∧ n ≤ 8) := fun q9 => by rw [if_pos q9] at hz; omega
    refine V_bipush dX5_write_12 rfl ?_
    exact V_iret dX5_write_14 rfl (by rw [aWrite, if_neg yz]; exact ⟨rfl, h.same, fun _ _ _ => rfl⟩)

/-! ===== 32 TreeDebts: keep, back, write, wood, count ===== -/
theorem SC.k0 {c : Int} {σ : SG} {w w' : Wd} (h : SC c σ w) (g : ∀ (k : Nat) (j : Int), (k < 37 ∨ 44 < k) → (k ≠ 4 ∨ j ≠ 0) → w' k j = w k j) (e4 : w' 4 0 = 1) (e : cAS w' 37 = σ.2.2.1) (ho : okC c w' 37) : SC (c + 1) (σ.1, σ.2.1, σ.2.2.1, some σ.2.2.1, σ.2.2.2.2) w' := by
  have h9 : SC (c + 1) σ w := h.same
  have e0 : w' 37 0 = σ.2.2.1.1 := congrArg (fun t : AS => t.1) e
  have d9 : w' 37 0 ≤ 9999 := by rw [e0, ← h.aD]; exact h.2.2.1.2.2
  obtain ⟨h1, ⟨h2, h3⟩, ⟨h4, h5, h6⟩, h7, h8⟩ := h9
  exact ⟨h1.keep (g _ _ (by omega) (by omega)) (fun i => g _ _ (by omega) (by omega)), ⟨by rw [tAS_eq (fun k j _ _ => g k j (by omega) (by omega))]; exact h2, okT_sl h3 (fun k j _ => g k j (by omega) (by omega))⟩, ⟨by rw [cAS_eq (fun k j _ _ => g k j (by omega) (by omega))]; exact h4, okC_eq h5 (fun k j _ _ => g k j (by omega) (by omega)), by rw [g _ _ (by omega) (by omega)]; exact h6⟩, Or.inr ⟨e4, by rw [e], okC_mono ho (by omega), d9⟩, kpR_keep h8 (g _ _ (by omega) (by omega)) (fun k j _ _ => g k j (by omega) (by omega))⟩
theorem SC.k1 {c : Int} {σ : SG} {w w' : Wd} (h : SC c σ w) (g : ∀ (k : Nat) (j : Int), (k < 45 ∨ 52 < k) → (k ≠ 4 ∨ j ≠ 1) → w' k j = w k j) (e4 : w' 4 1 = 1) (e : cAS w' 45 = σ.2.2.1) (ho : okC c w' 45) : SC (c + 1) (σ.1, σ.2.1, σ.2.2.1, σ.2.2.2.1, some σ.2.2.1) w' := by
  have h9 : SC (c + 1) σ w := h.same
  have e0 : w' 45 0 = σ.2.2.1.1 := congrArg (fun t : AS => t.1) e
  have d9 : w' 45 0 ≤ 9999 := by rw [e0, ← h.aD]; exact h.2.2.1.2.2
  obtain ⟨h1, ⟨h2, h3⟩, ⟨h4, h5, h6⟩, h7, h8⟩ := h9
  exact ⟨h1.keep (g _ _ (by omega) (by omega)) (fun i => g _ _ (by omega) (by omega)), ⟨by rw [tAS_eq (fun k j _ _ => g k j (by omega) (by omega))]; exact h2, okT_sl h3 (fun k j _ => g k j (by omega) (by omega))⟩, ⟨by rw [cAS_eq (fun k j _ _ => g k j (by omega) (by omega))]; exact h4, okC_eq h5 (fun k j _ _ => g k j (by omega) (by omega)), by rw [g _ _ (by omega) (by omega)]; exact h6⟩, kpR_keep h7 (g _ _ (by omega) (by omega)) (fun k j _ _ => g k j (by omega) (by omega)), Or.inr ⟨e4, by rw [e], okC_mono ho (by omega), d9⟩⟩
def aKeep (σ : SG) (k : Int) : Int × SG := if k = 0 then (σ.2.2.1.1, (σ.1, σ.2.1, σ.2.2.1, some σ.2.2.1, σ.2.2.2.2)) else if k = 1 then (σ.2.2.1.1, (σ.1, σ.2.1, σ.2.2.1, σ.2.2.2.1, some σ.2.2.1)) else (-2, σ)
def bkO (σ : SG) (o : Option AS) : Int × SG := match o with
  | none => (-4, σ)
  | some a => (a.1, (σ.1, σ.2.1, a, σ.2.2.2))
def aBack (σ : SG) (k : Int) : Int × SG := if k = 0 then bkO σ σ.2.2.2.1 else if k = 1 then bkO σ σ.2.2.2.2 else (-2, σ)
set_option maxRecDepth 100000 in
set_option maxHeartbeats 4000000 in
theorem c_X4_keep (G : Gb) (l : Launch) {w : Wd} {c : Int} {σ : SG} (h : SC c σ w) {i : Int} (hi : inR i) : Ci G l yX4_keep mX4_keep [.ref (gA G 0), .int (iZ i)] w (fun z w' => z = (aKeep σ i).1 ∧ SC (c + 1) (aKeep σ i).2 w' ∧ frC w w') := by
  refine V_start 0 (by decide) rfl rfl (Nat.le_of_ble_eq_true rfl) ?_
  show V G l mX4_keep _ 0 [some (.ref (gA G 0)), some (.int (iZ i))] [] w
  have hT := h.2.1.2
  have hO := h.2.2.1.2.1
  have kt := hT.1
  have kn := hO.n
  have eN := h.tN
  have eL := h.aN
  refine V_iload_n dX4_keep_0 rfl ?_
  refine V_if_lt (tgt := 13) dX4_keep_1 (by decide) (by omega) (fun h1 => ?_) (fun h1 => ?_)
  · refine V_bipush dX4_keep_13 rfl ?_
    exact V_iret dX4_keep_15 rfl (by rw [aKeep, if_neg (by omega), if_neg (by omega)]; exact ⟨rfl, h.same, fun _ _ _ => rfl⟩)
  · refine V_iload_n dX4_keep_4 rfl ?_
    refine V_aload_n dX4_keep_5 rfl ?_
    refine V_getR (ci := 4) (j := 4) dX4_keep_6 s_0 rfl rfl i_X4_keep_X4 (by decide) f_X4_keep_33 ?_
    refine V_alenR (nz := 2) dX4_keep_9 s_3 (by decide) rfl ?_
    refine V_icmp_lt (tgt := 16) dX4_keep_10 (by decide) (by omega) (by omega) (fun h10 => ?_) (fun h10 => ?_)
    · rcases (show i = 0 ∨ i = 1 by omega) with rfl | rfl
      · refine V_aload_n dX4_keep_16 rfl ?_
        refine V_getR (ci := 4) (j := 4) dX4_keep_17 s_0 rfl rfl i_X4_keep_X4 (by decide) f_X4_keep_33 ?_
        refine V_iload_n dX4_keep_20 rfl ?_
        refine V_aald (q := 37) dX4_keep_21 s_3 (by decide) (by decide) rfl ?_
        refine V_aload_n dX4_keep_22 rfl ?_
        refine V_getR (ci := 4) (j := 2) dX4_keep_23 s_0 rfl rfl i_X4_keep_X4 (by decide) f_X4_keep_26 ?_
        refine V_vV1 dX4_keep_26 o_X4_keep_160 s_37 rfl (Nat.le_of_ble_eq_true rfl) (c_X1_copyFrom G l (b := 37) (b2 := 21) (by decide) (Or.inl rfl) (by omega) hO) ?_
        rintro w1 ⟨y1, y2, y3⟩
        have gf : ∀ (k : Nat) (j : Int), (k < 37 ∨ 44 < k) → w1 k j = w k j := y3
        refine V_aload_n dX4_keep_29 rfl ?_
        refine V_getR (ci := 4) (j := 5) dX4_keep_30 s_0 rfl rfl i_X4_keep_X4 (by decide) f_X4_keep_37 ?_
        refine V_iload_n dX4_keep_33 rfl ?_
        refine V_iconst dX4_keep_34 ?_
        refine V_zast dX4_keep_35 s_4 (by omega) (by omega) ?_
        refine V_aload_n dX4_keep_36 rfl ?_
        refine V_getR (ci := 4) (j := 2) dX4_keep_37 s_0 rfl rfl i_X4_keep_X4 (by decide) f_X4_keep_26 ?_
        refine V_getI (ci := 1) (j := 0) (ji := 0) dX4_keep_40 s_21 rfl rfl i_X4_keep_X1 (by decide) f_X4_keep_142 rfl ?_
        exact V_iret dX4_keep_43 rfl (by rw [aKeep, if_pos rfl]; exact ⟨by rw [up_ne (by omega), gf _ _ (by omega)]; exact h.aD, h.k0 (fun k j q1 q2 => by rw [up_ne (by omega)]; exact gf k j q1) (by rw [up_eq]) ((cAS_eq (fun k j _ _ => up_ne (by omega))).trans (y2.trans h.2.2.1.1)) (okC_eq y1 (fun k j _ _ => up_ne (by omega))), fun k j q => by rw [up_ne (by omega)]; exact gf k j (by omega)⟩)
      · refine V_aload_n dX4_keep_16 rfl ?_
        refine V_getR (ci := 4) (j := 4) dX4_keep_17 s_0 rfl rfl i_X4_keep_X4 (by decide) f_X4_keep_33 ?_
        refine V_iload_n dX4_keep_20 rfl ?_
        refine V_aald (q := 45) dX4_keep_21 s_3 (by decide) (by decide) rfl ?_
        refine V_aload_n dX4_keep_22 rfl ?_
        refine V_getR (ci := 4) (j := 2) dX4_keep_23 s_0 rfl rfl i_X4_keep_X4 (by decide) f_X4_keep_26 ?_
        refine V_vV1 dX4_keep_26 o_X4_keep_160 s_45 rfl (Nat.le_of_ble_eq_true rfl) (c_X1_copyFrom G l (b := 45) (b2 := 21) (by decide) (Or.inl rfl) (by omega) hO) ?_
        rintro w1 ⟨y1, y2, y3⟩
        have gf : ∀ (k : Nat) (j : Int), (k < 45 ∨ 52 < k) → w1 k j = w k j := y3
        refine V_aload_n dX4_keep_29 rfl ?_
        refine V_getR (ci := 4) (j := 5) dX4_keep_30 s_0 rfl rfl i_X4_keep_X4 (by decide) f_X4_keep_37 ?_
        refine V_iload_n dX4_keep_33 rfl ?_
        refine V_iconst dX4_keep_34 ?_
        refine V_zast dX4_keep_35 s_4 (by omega) (by omega) ?_
        refine V_aload_n dX4_keep_36 rfl ?_
        refine V_getR (ci := 4) (j := 2) dX4_keep_37 s_0 rfl rfl i_X4_keep_X4 (by decide) f_X4_keep_26 ?_
        refine V_getI (ci := 1) (j := 0) (ji := 0) dX4_keep_40 s_21 rfl rfl i_X4_keep_X1 (by decide) f_X4_keep_142 rfl ?_
        exact V_iret dX4_keep_43 rfl (by rw [aKeep, if_neg (by omega), if_pos rfl]; exact ⟨by rw [up_ne (by omega), gf _ _ (by omega)]; exact h.aD, h.k1 (fun k j q1 q2 => by rw [up_ne (by omega)]; exact gf k j q1) (by rw [up_eq]) ((cAS_eq (fun k j _ _ => up_ne (by omega))).trans (y2.trans h.2.2.1.1)) (okC_eq y1 (fun k j _ _ => up_ne (by omega))), fun k j q => by rw [up_ne (by omega)]; exact gf k j (by omega)⟩)
    · refine V_bipush dX4_keep_13 rfl ?_
      exact V_iret dX4_keep_15 rfl (by rw [aKeep, if_neg (by omega), if_neg (by omega)]; exact ⟨rfl, h.same, fun _ _ _ => rfl⟩)
set_option maxRecDepth 100000 in
set_option maxHeartbeats 4000000 in
theorem c_X4_back (G : Gb) (l : Launch) {w : Wd} {c : Int} {σ : SG} (h : SC c σ w) {i : Int} (hi : inR i) : Ci G l yX4_back mX4_back [.ref (gA G 0), .int (iZ i)] w (fun z w' => z = (aBack σ i).1 ∧ SC (c + 1) (aBack σ i).2 w' ∧ frC w w') := by
  refine V_start 0 (by decide) rfl rfl (Nat.le_of_ble_eq_true rfl) ?_
  show V G l mX4_back _ 0 [some (.ref (gA G 0)), some (.int (iZ i))] [] w
  have hT := h.2.1.2
  have hO := h.2.2.1.2.1
  have kt := hT.1
  have kn := hO.n
  have eN := h.tN
  have eL := h.aN
  refine V_iload_n dX4_back_0 rfl ?_
  refine V_if_lt (tgt := 13) dX4_back_1 (by decide) (by omega) (fun h1 => ?_) (fun h1 => ?_)
  · refine V_bipush dX4_back_13 rfl ?_
    exact V_iret dX4_back_15 rfl (by rw [aBack, if_neg (by omega), if_neg (by omega)]; exact ⟨rfl, h.same, fun _ _ _ => rfl⟩)
  · refine V_iload_n dX4_back_4 rfl ?_
    refine V_aload_n dX4_back_5 rfl ?_
    refine V_getR (ci := 4) (j := 4) dX4_back_6 s_0 rfl rfl i_X4_back_X4 (by decide) f_X4_back_33 ?_
    refine V_alenR (nz := 2) dX4_back_9 s_3 (by decide) rfl ?_
    refine V_icmp_lt (tgt := 16) dX4_back_10 (by decide) (by omega) (by omega) (fun h10 => ?_) (fun h10 => ?_)
    · rcases (show i = 0 ∨ i = 1 by omega) with rfl | rfl
      · have kp := h.2.2.2.1
        have r4 : w 4 0 = 0 ∨ w 4 0 = 1 := kp.elim (fun q => Or.inl q.1) (fun q => Or.inr q.1)
        refine V_aload_n dX4_back_16 rfl ?_
        refine V_getR (ci := 4) (j := 5) dX4_back_17 s_0 rfl rfl i_X4_back_X4 (by decide) f_X4_back_37 ?_
        refine V_iload_n dX4_back_20 rfl ?_
        refine V_zald dX4_back_21 s_4 (by omega) ?_
        refine V_if_ne (tgt := 28) dX4_back_22 (by decide) (by omega) (fun h22 => ?_) (fun h22 => ?_)
        · obtain ⟨p1, p2, p3, p4⟩ : w 4 0 = 1 ∧ σ.2.2.2.1 = some (cAS w 37) ∧ okC c w 37 ∧ w 37 0 ≤ 9999 := by
            rcases kp with q | q
            · exact absurd q.1 (by omega)
            · exact q
          refine V_aload_n dX4_back_28 rfl ?_
          refine V_getR (ci := 4) (j := 2) dX4_back_29 s_0 rfl rfl i_X4_back_X4 (by decide) f_X4_back_26 ?_
          refine V_aload_n dX4_back_32 rfl ?_
          refine V_getR (ci := 4) (j := 4) dX4_back_33 s_0 rfl rfl i_X4_back_X4 (by decide) f_X4_back_33 ?_
          refine V_iload_n dX4_back_36 rfl ?_
          refine V_aald (q := 37) dX4_back_37 s_3 (by decide) (by decide) rfl ?_
          refine V_vV1 dX4_back_38 o_X4_back_160 s_21 rfl (Nat.le_of_ble_eq_true rfl) (c_X1_copyFrom G l (b := 21) (b2 := 37) (Or.inl rfl) (by decide) (by omega) p3) ?_
          rintro w1 ⟨y1, y2, y3⟩
          refine V_aload_n dX4_back_41 rfl ?_
          refine V_getR (ci := 4) (j := 2) dX4_back_42 s_0 rfl rfl i_X4_back_X4 (by decide) f_X4_back_26 ?_
          refine V_getI (ci := 1) (j := 0) (ji := 0) dX4_back_45 s_21 rfl rfl i_X4_back_X1 (by decide) f_X4_back_142 rfl ?_
          exact V_iret dX4_back_48 rfl (by rw [aBack, if_pos rfl, p2]; exact ⟨congrArg (fun t : AS => t.1) y2, h.now y3 y2 (okC_mono y1 (by omega)) (by rw [show w1 21 0 = w 37 0 from congrArg (fun t : AS => t.1) y2]; exact p4), y3.c⟩)
        · have p2 : σ.2.2.2.1 = none := by
            rcases kp with q | q
            · exact q.2
            · exact absurd q.1 (by omega)
          refine V_bipush dX4_back_25 rfl ?_
          exact V_iret dX4_back_27 rfl (by rw [aBack, if_pos rfl, p2]; exact ⟨rfl, h.same, fun _ _ _ => rfl⟩)
      · have kp := h.2.2.2.2
        have r4 : w 4 1 = 0 ∨ w 4 1 = 1 := kp.elim (fun q => Or.inl q.1) (fun q => Or.inr q.1)
        refine V_aload_n dX4_back_16 rfl ?_
        refine V_getR (ci := 4) (j := 5) dX4_back_17 s_0 rfl rfl i_X4_back_X4 (by decide) f_X4_back_37 ?_
        refine V_iload_n dX4_back_20 rfl ?_
        refine V_zald dX4_back_21 s_4 (by omega) ?_
        refine V_if_ne (tgt := 28) dX4_back_22 (by decide) (by omega) (fun h22 => ?_) (fun h22 => ?_)
        · obtain ⟨p1, p2, p3, p4⟩ : w 4 1 = 1 ∧ σ.2.2.2.2 = some (cAS w 45) ∧ okC c w 45 ∧ w 45 0 ≤ 9999 := by
            rcases kp with q | q
            · exact absurd q.1 (by omega)
            · exact q
          refine V_aload_n dX4_back_28 rfl ?_
          refine V_getR (ci := 4) (j := 2) dX4_back_29 s_0 rfl rfl i_X4_back_X4 (by decide) f_X4_back_26 ?_
          refine V_aload_n dX4_back_32 rfl ?_
          refine V_getR (ci := 4) (j := 4) dX4_back_33 s_0 rfl rfl i_X4_back_X4 (by decide) f_X4_back_33 ?_
          refine V_iload_n dX4_back_36 rfl ?_
          refine V_aald (q := 45) dX4_back_37 s_3 (by decide) (by decide) rfl ?_
          refine V_vV1 dX4_back_38 o_X4_back_160 s_21 rfl (Nat.le_of_ble_eq_true rfl) (c_X1_copyFrom G l (b := 21) (b2 := 45) (Or.inl rfl) (by decide) (by omega) p3) ?_
          rintro w1 ⟨y1, y2, y3⟩
          refine V_aload_n dX4_back_41 rfl ?_
          refine V_getR (ci := 4) (j := 2) dX4_back_42 s_0 rfl rfl i_X4_back_X4 (by decide) f_X4_back_26 ?_
          refine V_getI (ci := 1) (j := 0) (ji := 0) dX4_back_45 s_21 rfl rfl i_X4_back_X1 (by decide) f_X4_back_142 rfl ?_
          exact V_iret dX4_back_48 rfl (by rw [aBack, if_neg (by omega), if_pos rfl, p2]; exact ⟨congrArg (fun t : AS => t.1) y2, h.now y3 y2 (okC_mono y1 (by omega)) (by rw [show w1 21 0 = w 45 0 from congrArg (fun t : AS => t.1) y2]; exact p4), y3.c⟩)
        · have p2 : σ.2.2.2.2 = none := by
            rcases kp with q | q
            · exact q.2
            · exact absurd q.1 (by omega)
          refine V_bipush dX4_back_25 rfl ?_
          exact V_iret dX4_back_27 rfl (by rw [aBack, if_neg (by omega), if_pos rfl, p2]; exact ⟨rfl, h.same, fun _ _ _ => rfl⟩)
    · refine V_bipush dX4_back_13 rfl ?_
      exact V_iret dX4_back_15 rfl (by rw [aBack, if_neg (by omega), if_neg (by omega)]; exact ⟨rfl, h.same, fun _ _ _ => rfl⟩)
def aCount (σ : SG) (q : Int) : Int := if q = 0 then σ.2.1.1 else if q = 1 then ((σ.2.1.2.2.2.2.2.2.1.length : Nat) : Int) else if q = 2 then σ.2.1.2.2.2.2.2.2.2 else if q = 3 then ((σ.2.2.1.2.2.2.2.length : Nat) : Int) else if q = 4 then σ.2.2.1.1 else if q = 5 then σ.2.2.1.2.1 else if q = 6 then oaL σ.2.2.1.2.2.2.2 else if q = 7 then ((σ.1.length : Nat) : Int) else -3
set_option maxRecDepth 100000 in
set_option maxHeartbeats 4000000 in
theorem c_X4_count (G : Gb) (l : Launch) {w : Wd} {c : Int} {σ : SG} (h : SC c σ w) {q : Int} (hq : inR q) : Ci G l yX4_count mX4_count [.ref (gA G 0), .int (iZ q)] w (fun z w' => z = aCount σ q ∧ SC (c + 1) σ w' ∧ frC w w') := by
  refine V_start 0 (by decide) rfl rfl (Nat.le_of_ble_eq_true rfl) ?_
  show V G l mX4_count _ 0 [some (.ref (gA G 0)), some (.int (iZ q))] [] w
  have hT := h.2.1.2
  have hO := h.2.2.1.2.1
  have kt := hT.1
  have kn := hO.n
  have eN := h.tN
  have eL := h.aN
  refine V_iload_n dX4_count_0 rfl ?_
  rcases (show q = 0 ∨ q = 1 ∨ q = 2 ∨ q = 3 ∨ q = 4 ∨ q = 5 ∨ q = 6 ∨ q = 7 ∨ (q < 0 ∨ 7 < q) by omega) with h1 | h1 | h1 | h1 | h1 | h1 | h1 | h1 | h1
  · refine V_tswI (v := 0) (off := 47) (tgt := 48) dX4_count_1 h1 (by decide) rfl (by decide) ?_
    refine V_aload_n dX4_count_48 rfl ?_
    refine V_getR (ci := 4) (j := 1) dX4_count_49 s_0 rfl rfl i_X4_count_X4 (by decide) f_X4_count_19 ?_
    refine V_getI (ci := 3) (j := 0) (ji := 0) dX4_count_52 s_5 rfl rfl i_X4_count_X3 (by decide) f_X4_count_192 rfl ?_
    exact V_iret dX4_count_55 rfl ⟨by rw [aCount]; simp only [h1]; exact h.tN, h.same, fun _ _ _ => rfl⟩
  · refine V_tswI (v := 1) (off := 55) (tgt := 56) dX4_count_1 h1 (by decide) rfl (by decide) ?_
    refine V_aload_n dX4_count_56 rfl ?_
    refine V_getR (ci := 4) (j := 1) dX4_count_57 s_0 rfl rfl i_X4_count_X4 (by decide) f_X4_count_19 ?_
    refine V_getI (ci := 3) (j := 6) (ji := 6) dX4_count_60 s_5 rfl rfl i_X4_count_X3 (by decide) f_X4_count_196 rfl ?_
    exact V_iret dX4_count_63 rfl ⟨by rw [aCount]; simp only [h1]; exact (by show w 5 6 = _; rw [← h.tQ]; exact (qs_len hT.2.1.1).symm), h.same, fun _ _ _ => rfl⟩
  · refine V_tswI (v := 2) (off := 63) (tgt := 64) dX4_count_1 h1 (by decide) rfl (by decide) ?_
    refine V_aload_n dX4_count_64 rfl ?_
    refine V_getR (ci := 4) (j := 1) dX4_count_65 s_0 rfl rfl i_X4_count_X4 (by decide) f_X4_count_19 ?_
    refine V_getI (ci := 3) (j := 9) (ji := 9) dX4_count_68 s_5 rfl rfl i_X4_count_X3 (by decide) f_X4_count_145 rfl ?_
    exact V_iret dX4_count_71 rfl ⟨by rw [aCount]; simp only [h1]; exact h.tH, h.same, fun _ _ _ => rfl⟩
  · refine V_tswI (v := 3) (off := 71) (tgt := 72) dX4_count_1 h1 (by decide) rfl (by decide) ?_
    refine V_aload_n dX4_count_72 rfl ?_
    refine V_getR (ci := 4) (j := 2) dX4_count_73 s_0 rfl rfl i_X4_count_X4 (by decide) f_X4_count_26 ?_
    refine V_getI (ci := 1) (j := 3) (ji := 3) dX4_count_76 s_21 rfl rfl i_X4_count_X1 (by decide) f_X4_count_106 rfl ?_
    exact V_iret dX4_count_79 rfl ⟨by rw [aCount]; simp only [h1]; exact h.aN, h.same, fun _ _ _ => rfl⟩
  · refine V_tswI (v := 4) (off := 79) (tgt := 80) dX4_count_1 h1 (by decide) rfl (by decide) ?_
    refine V_aload_n dX4_count_80 rfl ?_
    refine V_getR (ci := 4) (j := 2) dX4_count_81 s_0 rfl rfl i_X4_count_X4 (by decide) f_X4_count_26 ?_
    refine V_getI (ci := 1) (j := 0) (ji := 0) dX4_count_84 s_21 rfl rfl i_X4_count_X1 (by decide) f_X4_count_142 rfl ?_
    exact V_iret dX4_count_87 rfl ⟨by rw [aCount]; simp only [h1]; exact h.aD, h.same, fun _ _ _ => rfl⟩
  · refine V_tswI (v := 5) (off := 87) (tgt := 88) dX4_count_1 h1 (by decide) rfl (by decide) ?_
    refine V_aload_n dX4_count_88 rfl ?_
    refine V_getR (ci := 4) (j := 2) dX4_count_89 s_0 rfl rfl i_X4_count_X4 (by decide) f_X4_count_26 ?_
    refine V_getI (ci := 1) (j := 9) (ji := 9) dX4_count_92 s_21 rfl rfl i_X4_count_X1 (by decide) f_X4_count_170 rfl ?_
    exact V_iret dX4_count_95 rfl ⟨by rw [aCount]; simp only [h1]; exact h.aX, h.same, fun _ _ _ => rfl⟩
  · refine V_tswI (v := 6) (off := 95) (tgt := 96) dX4_count_1 h1 (by decide) rfl (by decide) ?_
    refine V_aload_n dX4_count_96 rfl ?_
    refine V_getR (ci := 4) (j := 2) dX4_count_97 s_0 rfl rfl i_X4_count_X4 (by decide) f_X4_count_26 ?_
    refine V_iV0 dX4_count_100 o_X4_count_166 s_21 rfl (Nat.le_of_ble_eq_true rfl) (c_X1_owedInAll G l (b := 21) (Or.inl rfl) kn) ?_
    rintro _ _ ⟨rfl, rfl⟩
    exact V_iret dX4_count_103 rfl ⟨by rw [aCount]; simp only [h1]; exact (by rw [← h.aL]; rfl), h.same, fun _ _ _ => rfl⟩
  · refine V_tswI (v := 7) (off := 103) (tgt := 104) dX4_count_1 h1 (by decide) rfl (by decide) ?_
    refine V_aload_n dX4_count_104 rfl ?_
    refine V_getR (ci := 4) (j := 0) dX4_count_105 s_0 rfl rfl i_X4_count_X4 (by decide) f_X4_count_10 ?_
    refine V_getI (ci := 2) (j := 1) (ji := 1) dX4_count_108 s_1 rfl rfl i_X4_count_X2 (by decide) f_X4_count_48 rfl ?_
    exact V_iret dX4_count_111 rfl ⟨by rw [aCount]; simp only [h1]; exact h.1.1, h.same, fun _ _ _ => rfl⟩
  · refine V_tswO (tgt := 112) dX4_count_1 (by omega) h1 (by decide) ?_
    refine V_bipush dX4_count_112 rfl ?_
    exact V_iret dX4_count_114 rfl ⟨by rw [aCount, if_neg (by omega), if_neg (by omega), if_neg (by omega), if_neg (by omega), if_neg (by omega), if_neg (by omega), if_neg (by omega), if_neg (by omega)], h.same, fun _ _ _ => rfl⟩
/-- byte i of a long -/
def byB (x : Int64) (i : Int) : Int := ((x >>> ((iZ (8 * i)).toInt64 &&& 63)) &&& 255).toInt32.toInt
def byF (x : Int64) : Nat → Int → List Int
  | 0, _ => []
  | n + 1, i => byB x i :: byF x n (i + 1)
theorem byF_len (x : Int64) : ∀ (n : Nat) (i : Int), (byF x n i).length = n
  | 0, _ => rfl
  | n + 1, i => by rw [byF, List.length_cons, byF_len x n]
theorem by_bd (y : Int64) : 0 ≤ (y &&& 255).toInt32.toInt ∧ (y &&& 255).toInt32.toInt ≤ 255 := by
  have h : ((y &&& 255).toInt32).toBitVec = BitVec.ofNat 32 ((y.toBitVec.toNat) % 256) := by
    have h1 : ((y &&& 255).toInt32).toBitVec = ((y &&& 255).toBitVec).signExtend 32 := rfl
    rw [h1]
    apply BitVec.eq_of_getLsbD_eq
    intro i hi
    rw [BitVec.getLsbD_signExtend]
    simp only [hi, decide_true, Bool.true_and]
    rw [if_pos (by omega)]
    show ((y.toBitVec &&& (255 : Int64).toBitVec)).getLsbD i = _
    rw [BitVec.getLsbD_and, BitVec.getLsbD_ofNat]
    have h2 : (255 : Int64).toBitVec = BitVec.ofNat 64 255 := rfl
    rw [h2, BitVec.getLsbD_ofNat, Nat.testBit_mod_two_pow (y.toBitVec.toNat) 8 i, show (255 : Nat) = 2 ^ 8 - 1 from rfl, Nat.testBit_two_pow_sub_one]
    by_cases h8 : i < 8
    · simp [h8, hi, show i < 64 by omega, BitVec.getLsbD]
    · simp [h8]
  have h2 : (y &&& 255).toInt32.toInt = (((y.toBitVec.toNat) % 256 : Nat) : Int) := by
    show ((y &&& 255).toInt32).toBitVec.toInt = _
    rw [h, BitVec.toInt_eq_toNat_of_lt (by rw [BitVec.toNat_ofNat]; omega), BitVec.toNat_ofNat, Nat.mod_eq_of_lt (by omega)]
  rw [h2]
  omega
theorem byB_bd (x : Int64) (i : Int) : 0 ≤ byB x i ∧ byB x i ≤ 255 := by_bd _
theorem TX_add {w : Wd} {T : List Int} {b : Int} (h : TX w T) (hl : T.length < 200) (hb : 0 ≤ b ∧ b ≤ 255) : TX (up (up w 2 (w 1 1) b) 1 1 (w 1 1 + 1)) (T ++ [b]) := by
  obtain ⟨h1, h2, h3⟩ := h
  refine ⟨by rw [up_eq, h1]; simp, by simp; omega, fun i g0 g1 => ?_⟩
  simp only [List.length_append, List.length_cons, List.length_nil] at g1
  rw [up_ne (by omega)]
  by_cases e : i = w 1 1
  · subst e
    have : ch (T ++ [b]) (w 1 1) = b := by
      unfold ch
      rw [h1, show ((T.length : Int)).toNat = T.length by omega, List.getD_eq_getElem?_getD, List.getElem?_append_right (by omega), Nat.sub_self]
      rfl
    rw [up_eq, this]
    exact ⟨rfl, hb⟩
  · rw [up_ne (by omega)]
    have : ch (T ++ [b]) i = ch T i := by
      unfold ch
      rw [List.getD_eq_getElem?_getD, List.getD_eq_getElem?_getD, List.getElem?_append_left (by omega)]
    rw [this]
    exact h3 i g0 (by omega)
def frW (w w' : Wd) : Prop := ∀ (k : Nat) (j : Int), (k ≠ 1 ∨ j ≠ 1) → k ≠ 2 → w' k j = w k j
theorem SC.text {c : Int} {σ : SG} {w w' : Wd} {T : List Int} (h : SC c σ w) (g : frW w w') (hT : TX w' T) : SC (c + 1) (T, σ.2) w' := by
  have h9 : SC (c + 1) σ w := h.same
  obtain ⟨h1, ⟨h2, h3⟩, ⟨h4, h5, h6⟩, h7, h8⟩ := h9
  have g : ∀ (k : Nat) (j : Int), k ≠ 1 → k ≠ 2 → w' k j = w k j := fun k j q1 q2 => g k j (Or.inl q1) q2
  exact ⟨hT, ⟨by rw [tAS_eq (fun k j _ _ => g k j (by omega) (by omega))]; exact h2, okT_sl h3 (fun k j _ => g k j (by omega) (by omega))⟩, ⟨by rw [cAS_eq (fun k j _ _ => g k j (by omega) (by omega))]; exact h4, okC_eq h5 (fun k j _ _ => g k j (by omega) (by omega)), by rw [g _ _ (by omega) (by omega)]; exact h6⟩, kpR_keep h7 (g _ _ (by omega) (by omega)) (fun k j _ _ => g k j (by omega) (by omega)), kpR_keep h8 (g _ _ (by omega) (by omega)) (fun k j _ _ => g k j (by omega) (by omega))⟩
def aWrite (T : List Int) (x : Int64) (n : Int) : Int × List Int := if 1 ≤ n ∧ n ≤ 8 then (if (T.length : Int) + n ≤ 200 then ((T.length : Int) + n, T ++ byF x n.toNat 0) else (-5, T)) else (-3, T)
set_option maxRecDepth 100000 in
set_option maxHeartbeats 4000000 in
theorem l_X4_write (G : Gb) (l : Launch) {x : Int64} {n : Int} (hn : 1 ≤ n ∧ n ≤ 8) {Post : Int → Wd → Prop} : ∀ (k : Nat) (i : Int) (w : Wd) (T : List Int), 0 ≤ i → i + k = n → TX w T → T.length + k ≤ 200 → (∀ w', TX w' (T ++ byF x k i) → frW w w' → Post (w' 1 1) w') → V G l mX4_write (Qi G Post) 35 [some (.ref (gA G 0)), some (.long x), none, some (.int (iZ n)), some (.int (iZ i))] [] w := by
  intro k
  induction k with
  | zero =>
    intro i w T h0 h1 hT hl hp
    refine V_iload dX4_write_35 rfl ?_
    refine V_iload_n dX4_write_37 rfl ?_
    refine V_icmp_ge (tgt := 66) dX4_write_38 (by decide) (by omega) (by omega) (fun h38 => ?_) (fun h38 => ?_)
    · refine V_aload_n dX4_write_66 rfl ?_
      refine V_getR (ci := 4) (j := 0) dX4_write_67 s_0 rfl rfl i_X4_write_X4 (by decide) f_X4_write_10 ?_
      refine V_getI (ci := 2) (j := 1) (ji := 1) dX4_write_70 s_1 rfl rfl i_X4_write_X2 (by decide) f_X4_write_48 rfl ?_
      exact V_iret dX4_write_73 rfl (hp w (by rw [byF, List.append_nil]; exact hT) (fun _ _ _ _ => rfl))
    · exact absurd h38 (by omega)
  | succ k ih =>
    intro i w T h0 h1 hT hl hp
    have k1 := hT.1
    refine V_iload dX4_write_35 rfl ?_
    refine V_iload_n dX4_write_37 rfl ?_
    refine V_icmp_ge (tgt := 66) dX4_write_38 (by decide) (by omega) (by omega) (fun h38 => ?_) (fun h38 => ?_)
    · exact absurd h38 (by omega)
    · refine V_aload_n dX4_write_41 rfl ?_
      refine V_getR (ci := 4) (j := 0) dX4_write_42 s_0 rfl rfl i_X4_write_X4 (by decide) f_X4_write_10 ?_
      refine V_lload_n dX4_write_45 rfl ?_
      refine V_bipush dX4_write_46 rfl ?_
      refine V_iload dX4_write_48 rfl ?_
      refine V_imul dX4_write_50 ?_
      refine V_lshr dX4_write_51 rfl ?_
      refine V_ldc2 (v := 255) dX4_write_52 (List.mem_of_getElem? (i := 3) rfl) ?_
      refine V_land dX4_write_55 ?_
      refine V_l2i dX4_write_56 (iZ_self _).symm ?_
      refine V_vV1 dX4_write_57 o_X4_write_54 s_1 rfl (Nat.le_of_ble_eq_true rfl) (c_X2_add G l (by omega)) ?_
      rintro _ rfl
      refine V_iinc dX4_write_60 rfl (by decide) rfl ?_
      refine V_goto (tgt := 35) dX4_write_63 (by decide) ?_
      refine ih (i + 1) _ (T ++ [byB x i]) (by omega) (by omega) (TX_add hT (by omega) (byB_bd x i)) (by simp; omega) (fun w' h5 h6 => ?_)
      rw [List.append_assoc] at h5
      exact hp w' h5 (fun a b q1 q2 => by rw [h6 a b q1 q2, up_ne (by omega), up_ne (by omega)])
set_option maxRecDepth 100000 in
set_option maxHeartbeats 4000000 in
theorem c_X4_write (G : Gb) (l : Launch) {w : Wd} {c : Int} {σ : SG} (h : SC c σ w) {x : Int64} {n : Int} (hn : inR n) : Ci G l yX4_write mX4_write [.ref (gA G 0), .long x, .int (iZ n)] w (fun z w' => z = (aWrite σ.1 x n).1 ∧ SC (c + 1) ((aWrite σ.1 x n).2, σ.2) w' ∧ frC w w') := by
  refine V_start 1 (by decide) rfl rfl (Nat.le_of_ble_eq_true rfl) ?_
  show V G l mX4_write _ 0 [some (.ref (gA G 0)), some (.long x), none, some (.int (iZ n)), none] [] w
  have k1 := h.1.1
  have k2 := h.1.2.1
  refine V_iload_n dX4_write_0 rfl ?_
  refine V_iconst dX4_write_1 ?_
  refine V_icmp_lt (tgt := 11) dX4_write_2 (by decide) (by omega) (by omega) (fun h2 => ?_) (fun h2 => ?_)
  · refine V_bipush dX4_write_11 rfl ?_
    exact V_iret dX4_write_13 rfl (by rw [aWrite, if_neg (by omega)]; exact ⟨rfl, h.same, fun _ _ _ => rfl⟩)
  · refine V_iload_n dX4_write_5 rfl ?_
    refine V_bipush dX4_write_6 rfl ?_
    refine V_icmp_le (tgt := 14) dX4_write_8 (by decide) (by omega) (by omega) (fun h8 => ?_) (fun h8 => ?_)
    · refine V_aload_n dX4_write_14 rfl ?_
      refine V_getR (ci := 4) (j := 0) dX4_write_15 s_0 rfl rfl i_X4_write_X4 (by decide) f_X4_write_10 ?_
      refine V_getI (ci := 2) (j := 1) (ji := 1) dX4_write_18 s_1 rfl rfl i_X4_write_X2 (by decide) f_X4_write_48 rfl ?_
      refine V_iload_n dX4_write_21 rfl ?_
      refine V_iadd dX4_write_22 ?_
      refine V_sipush dX4_write_23 rfl ?_
      refine V_icmp_le (tgt := 32) dX4_write_26 (by decide) (by omega) (by omega) (fun h26 => ?_) (fun h26 => ?_)
      · refine V_iconst dX4_write_32 ?_
        refine V_istore dX4_write_33 (by decide) rfl ?_
        refine l_X4_write G l (by omega) n.toNat 0 w σ.1 (by omega) (by omega) h.1 (by omega) (fun w' h5 h6 => ?_)
        rw [aWrite, if_pos (by omega), if_pos (by omega)]
        refine ⟨?_, h.text h6 h5, fun k j q => h6 k j (by omega) (by omega)⟩
        rw [h5.1, List.length_append, byF_len]
        show _ = ((σ.1.length : Nat) : Int) + n
        omega
      · refine V_bipush dX4_write_29 rfl ?_
        exact V_iret dX4_write_31 rfl (by rw [aWrite, if_pos (by omega), if_neg (by omega)]; exact ⟨rfl, h.same, fun _ _ _ => rfl⟩)
    · refine V_bipush dX4_write_11 rfl ?_
      exact V_iret dX4_write_13 rfl (by rw [aWrite, if_neg (by omega)]; exact ⟨rfl, h.same, fun _ _ _ => rfl⟩)

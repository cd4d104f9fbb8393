/-! ===== 58 the reference: wood ===== -/
theorem liMs_keep {w w' : Wd} (g : ∀ j : Int, w' 75 j = w 75 j) : ∀ (L : List Li) (m : Int), liMs w m L → liMs w' m L
  | [], _, _ => trivial
  | x :: r, m, h => ⟨liM_keep h.1 (fun j _ _ => g j), liMs_keep g r (m + 1) h.2⟩
def woR (L : List Li) (w w' : Wd) : Prop := tM w' = L.foldl (fun t x => apL x t) (tM w) ∧ okTm w' ∧ frTl w w'
set_option maxRecDepth 100000 in
set_option maxHeartbeats 4000000 in
theorem l_X5_wood (G : Gb) (l : Launch) {Qc : Array Value → State → Outcome → State → Prop} : ∀ (L : List Li) (m : Int) (w : Wd), liMs w m L → okLs L (tM w) → okTm w → 0 ≤ m → w 71 5 = m + (L.length : Int) → w 71 5 ≤ 12 → (∀ m w', woR L w w' → V G l mX5_wood Qc 34 [some (.ref (gA G 71)), some (.int (iZ m))] [] w') → V G l mX5_wood Qc 13 [some (.ref (gA G 71)), some (.int (iZ m))] [] w := by
  intro L
  induction L with
  | nil =>
    intro m w hl ho hT h0 h5 h12 hp
    simp only [List.length_nil] at h5
    refine V_iload_n dX5_wood_13 rfl ?_
    refine V_aload_n dX5_wood_14 rfl ?_
    refine V_getI (ci := 5) (j := 5) (ji := 5) dX5_wood_15 s_71 rfl rfl i_X5_wood_X5 (by decide) f_X5_wood_87 rfl ?_
    refine V_icmp_ge (tgt := 34) dX5_wood_18 (by decide) (by omega) (by omega) (fun h18 => ?_) (fun h18 => ?_)
    · exact hp _ _ ⟨rfl, hT, fun _ _ _ _ _ => rfl⟩
    · exact absurd h18 (by omega)
  | cons x r ih =>
    intro m w hl ho hT h0 h5 h12 hp
    simp only [List.length_cons] at h5
    refine V_iload_n dX5_wood_13 rfl ?_
    refine V_aload_n dX5_wood_14 rfl ?_
    refine V_getI (ci := 5) (j := 5) (ji := 5) dX5_wood_15 s_71 rfl rfl i_X5_wood_X5 (by decide) f_X5_wood_87 rfl ?_
    refine V_icmp_ge (tgt := 34) dX5_wood_18 (by decide) (by omega) (by omega) (fun h18 => ?_) (fun h18 => ?_)
    · exact absurd h18 (by omega)
    · refine V_aload_n dX5_wood_21 rfl ?_
      refine V_iconst dX5_wood_22 ?_
      refine V_iload_n dX5_wood_23 rfl ?_
      refine V_imul dX5_wood_24 ?_
      refine V_vV1 dX5_wood_25 o_X5_wood_128 s_71 rfl (Nat.le_of_ble_eq_true rfl) (c_X5_tell G l (m := m) (x := x) (by omega) hl.1 hT ho.1) ?_
      rintro w1 ⟨y1, y2, y3⟩
      have e5 : w1 71 5 = w 71 5 := y3 _ _ (by omega) (by omega) (by omega)
      refine V_iinc dX5_wood_28 rfl (by decide) rfl ?_
      refine V_goto (tgt := 13) dX5_wood_31 (by decide) ?_
      refine ih (m + 1) w1 (liMs_keep (fun j => y3 _ _ (by omega) (by omega) (by omega)) r (m + 1) hl.2) (by rw [y1]; exact ho.2) y2 (by omega) (by omega) (by omega) (fun m9 w9 z => hp m9 w9 ⟨?_, z.2.1, fun k j q1 q2 q3 => (z.2.2 k j q1 q2 q3).trans (y3 k j q1 q2 q3)⟩)
      rw [z.1, y1]
      rfl
theorem gl_z {w : Wd} {k : Nat} {o : Int} (h : ∀ t : Int, 0 ≤ t → t < 6 → w k (o + t) = 0) : gl w k o 6 = [0, 0, 0, 0, 0, 0] := by
  show [w k (o + ((0 : Nat) : Int)), w k (o + ((1 : Nat) : Int)), w k (o + ((2 : Nat) : Int)), w k (o + ((3 : Nat) : Int)), w k (o + ((4 : Nat) : Int)), w k (o + ((5 : Nat) : Int))] = _
  rw [h ((0 : Nat) : Int) (by omega) (by omega), h ((1 : Nat) : Int) (by omega) (by omega), h ((2 : Nat) : Int) (by omega) (by omega), h ((3 : Nat) : Int) (by omega) (by omega), h ((4 : Nat) : Int) (by omega) (by omega), h ((5 : Nat) : Int) (by omega) (by omega)]
theorem okM.c0 {c : Int} {w : Wd} {o : Int} (h : okM c w o) : 0 ≤ c := by
  have := h.2.2.1
  omega
theorem okM_told {c : Int} {w : Wd} (hc : 0 ≤ c) (h : okTm w) (ht : tdM w) : okM c w 300 ∧ mAS w 300 = (0, 0, (tM w).2.2.1, [0, 0, 0, 0, 0, 0], []) := by
  obtain ⟨t1, t2, t3, t4⟩ := ht
  have t4' : w 72 (300 + 14) = 0 := t4
  have e : mAS w 300 = (0, 0, (tM w).2.2.1, [0, 0, 0, 0, 0, 0], []) := by
    unfold mAS
    rw [show w 72 300 = 0 from t1, show w 72 (300 + 1) = 0 from t2, show gl w 72 (300 + 8) 6 = [0, 0, 0, 0, 0, 0] from gl_z t3, mLs_nil (by omega)]
    rfl
  refine ⟨⟨by omega, ?_⟩, e⟩
  rw [e]
  refine ⟨by dsimp only; omega, ⟨by dsimp only; omega, by simpa using hc⟩, ⟨gl_len _ _ _ _, fun x hx => ?_⟩, ⟨rfl, fun x hx => ?_⟩, by simp, fun x hx => by simp at hx⟩
  · obtain ⟨i, g0, g1, rfl⟩ := gl_mem hx
    exact (h.2.2.2.1 i g0 g1).2.1
  · dsimp only at hx
    simp at hx
    omega
theorem wdM_ok {c : Int} {σ : SG} {w w1 w2 : Wd} (h : SM c σ w) (p1 : (prP σ.1 12 (sk σ.1 0) σ.2.1).1 = -1) (g1 : frL 0 w w1) (y : woR (prP σ.1 12 (sk σ.1 0) σ.2.1).2 w1 w2) (hlen : w2 71 5 = (((prP σ.1 12 (sk σ.1 0) σ.2.1).2.length : Nat) : Int)) :
    (up (up (up (cpM w2 300 0 0) 73 0 0) 73 1 0) 71 3 0) 71 5 = (aWood σ).1 ∧ SM (c + 1) (aWood σ).2 (up (up (up (cpM w2 300 0 0) 73 0 0) 73 1 0) 71 3 0) ∧ frM w (up (up (up (cpM w2 300 0 0) 73 0 0) 73 1 0) 71 3 0) := by
  obtain ⟨y1, y2, y3⟩ := y
  have h1 := frL.sm h g1
  have hc := h.2.2.1.2.1.c0
  have td2 := tdM_tl h1.2.1.2.2 y3
  rw [h1.2.1.1] at y1
  obtain ⟨a1, a2⟩ := okM_told (c := c + 1) (by omega) y2 td2
  have gg : ∀ (k : Nat) (j : Int), (k ≠ 71 ∨ j ≠ 3) → k ≠ 73 → (k ≠ 72 ∨ j < 0 ∨ 75 ≤ j) → (up (up (up (cpM w2 300 0 0) 73 0 0) 73 1 0) 71 3 0) k j = w2 k j := fun k j q1 q2 q3 => by rw [up_ne (by omega), up_ne (by omega), up_ne (by omega), cpM_ne (by omega)]
  obtain ⟨b1, b2⟩ := okM_eq a1 (w' := up (up (up (cpM w2 300 0 0) 73 0 0) 73 1 0) 71 3 0) (o' := 0) (fun j q0 q1 => by rw [up_ne (by omega), up_ne (by omega), up_ne (by omega), cpM_at ⟨q0, q1⟩])
  rw [a2, y1] at b2
  have d0 : (up (up (up (cpM w2 300 0 0) 73 0 0) 73 1 0) 71 3 0) 72 0 = 0 := congrArg (fun t : AS => t.1) b2
  rw [aWood, if_pos p1]
  refine ⟨by rw [gg _ _ (by omega) (by omega) (by omega)]; exact hlen, ⟨⟨by rw [up_eq]; rfl, by simp, fun i g0 g1 => by simp at g1; omega⟩, ⟨?_, okTm_eq y2 (fun j q => gg _ _ (by omega) (by omega) (by omega)) (fun j _ _ => gg _ _ (by omega) (by omega) (by omega)) (fun k j _ _ => gg _ _ (by omega) (by omega) (by omega)), tdM_eq td2 (fun j _ _ => gg _ _ (by omega) (by omega) (by omega))⟩, ⟨b2, b1, by rw [d0]; omega⟩, Or.inl ⟨by rw [up_ne (by omega), up_ne (by omega), up_eq], rfl⟩, Or.inl ⟨by rw [up_ne (by omega), up_eq], rfl⟩⟩, fun k j q => ?_⟩
  · rw [tM_eq (w := w2) (fun j q => gg _ _ (by omega) (by omega) (by omega)) (fun j _ _ => gg _ _ (by omega) (by omega) (by omega)) (fun k j _ _ => gg _ _ (by omega) (by omega) (by omega)), y1]
  · rw [gg _ _ (by omega) (by omega) (by omega), y3 _ _ (by omega) (by omega) (by omega), g1 _ _ (by omega) (by omega)]
theorem prP_len (T : List Int) : ∀ (n : Nat) (s : Int) (t : TS), (prP T n s t).2.length ≤ n
  | 0, s, t => by rw [prP]; simp
  | n + 1, s, t => by
    rw [prP_ct rfl]
    by_cases h : (lnP T t.1 (nqT t) s).1 = true
    · rw [if_pos h]
      dsimp only
      rw [List.length_cons]
      unfold ctP
      by_cases h1 : (lnP T t.1 (nqT t) s).2.1 = (T.length : Int)
      · rw [if_pos h1]; simp
      · rw [if_neg h1]
        by_cases h2 : ch T (lnP T t.1 (nqT t) s).2.1 = 59 ∧ n ≠ 0
        · rw [if_pos h2]
          have := prP_len T n (nx T (lnP T t.1 (nqT t) s).2.1) (apL (lnP T t.1 (nqT t) s).2.2 t)
          omega
        · rw [if_neg h2]; simp
    · rw [if_neg h]; simp
set_option maxRecDepth 100000 in
set_option maxHeartbeats 4000000 in
theorem c_X5_wood (G : Gb) (l : Launch) {w : Wd} {c : Int} {σ : SG} (h : SM c σ w) : Ci G l yX5_wood mX5_wood [.ref (gA G 71)] w (fun z w' => z = (aWood σ).1 ∧ SM (c + 1) (aWood σ).2 w' ∧ frM w w') := by
  refine V_start 1 (by decide) rfl rfl (Nat.le_of_ble_eq_true rfl) ?_
  show V G l mX5_wood _ 0 [some (.ref (gA G 71)), none] [] w
  refine V_aload_n dX5_wood_0 rfl ?_
  refine V_iV0 dX5_wood_1 o_X5_wood_125 s_71 rfl (Nat.le_of_ble_eq_true rfl) (c0_X5_fault G l h) ?_
  rintro z w1 ⟨f1, f2, f3, f4⟩
  refine V_iconst dX5_wood_4 ?_
  refine V_icmp_eq (tgt := 11) dX5_wood_5 (by decide) (by omega) (by omega) (fun h5 => ?_) (fun h5 => ?_)
  · have p1 : (prP σ.1 12 (sk σ.1 0) σ.2.1).1 = -1 := f1.symm.trans h5
    obtain ⟨l1, l2, l3⟩ := f2 h5
    have h1 := frL.sm h f3
    have pl := prP_len σ.1 12 (sk σ.1 0) σ.2.1
    refine V_iconst dX5_wood_11 ?_
    refine V_istore_n dX5_wood_12 (by decide) rfl ?_
    refine l_X5_wood G l (prP σ.1 12 (sk σ.1 0) σ.2.1).2 0 w1 l2 (by rw [h1.2.1.1]; exact l3) h1.2.1.2.1 (by omega) (by omega) (by omega) (fun m9 w9 y9 => ?_)
    refine V_aload_n dX5_wood_34 rfl ?_
    refine V_sipush dX5_wood_35 rfl ?_
    refine V_iconst dX5_wood_38 ?_
    refine V_vV2 dX5_wood_39 o_X5_wood_132 s_71 rfl (Nat.le_of_ble_eq_true rfl) (c_X5_copy G l (a := 300) (b := 0) (by omega) (by omega) (by omega)) ?_
    rintro _ rfl
    refine V_aload_n dX5_wood_42 rfl ?_
    refine V_getR (ci := 5) (j := 1) dX5_wood_43 s_71 rfl rfl i_X5_wood_X5 (by decide) f_X5_wood_13 ?_
    refine V_iconst dX5_wood_46 ?_
    refine V_iconst dX5_wood_47 ?_
    refine V_zast dX5_wood_48 s_73 (by omega) (by omega) ?_
    refine V_aload_n dX5_wood_49 rfl ?_
    refine V_getR (ci := 5) (j := 1) dX5_wood_50 s_71 rfl rfl i_X5_wood_X5 (by decide) f_X5_wood_13 ?_
    refine V_iconst dX5_wood_53 ?_
    refine V_iconst dX5_wood_54 ?_
    refine V_zast dX5_wood_55 s_73 (by omega) (by omega) ?_
    refine V_aload_n dX5_wood_56 rfl ?_
    refine V_iconst dX5_wood_57 ?_
    refine V_putI (ci := 5) (j := 3) (ji := 3) dX5_wood_58 s_71 rfl rfl i_X5_wood_X5 tyX5_ok nmX5 (by decide) f_X5_wood_54 rfl rfl rfl ?_
    refine V_aload_n dX5_wood_61 rfl ?_
    refine V_getI (ci := 5) (j := 5) (ji := 5) dX5_wood_62 s_71 rfl rfl i_X5_wood_X5 (by decide) f_X5_wood_87 rfl ?_
    exact V_iret dX5_wood_65 rfl (wdM_ok h p1 f3 y9 (by rw [y9.2.2 _ _ (by omega) (by omega) (by omega)]; exact l1))
  · refine V_bipush dX5_wood_8 rfl ?_
    exact V_iret dX5_wood_10 rfl (by rw [aWood, if_neg (fun q => h5 (f1.trans q))]; exact ⟨rfl, (frL.sm h f3).same, fun k j q => f3 k j (by omega) (by omega)⟩)

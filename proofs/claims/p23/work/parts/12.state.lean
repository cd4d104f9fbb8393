/-! ===== 12 State: reads, growth, work, failing ===== -/
theorem cLs_len (w : Wd) (b : Nat) : (cLs w b).length = (w b 3).toNat := by simp [cLs]
theorem cLs_drop {w : Wd} {b : Nat} {i : Int} (h0 : 0 ≤ i) (h1 : i < w b 3) : (cLs w b).drop i.toNat = (w (b + 3) i, w (b + 4) i, w (b + 5) i, w (b + 6) i, w (b + 7) i) :: (cLs w b).drop (i + 1).toNat := by
  unfold cLs
  rw [rg_drop _ (by omega : i.toNat < (w b 3).toNat), show (i + 1).toNat = i.toNat + 1 by omega]
  unfold cLn
  rw [show ((i.toNat : Nat) : Int) = i by omega]
theorem cLs_end {w : Wd} {b : Nat} {i : Int} (h : w b 3 ≤ i) : (cLs w b).drop i.toNat = [] := by
  apply List.drop_eq_nil_of_le
  rw [cLs_len]
  omega
theorem cLs_at {w : Wd} {b : Nat} {i : Int} (h0 : 0 ≤ i) (h1 : i < w b 3) : (cLs w b)[i.toNat]? = some (w (b + 3) i, w (b + 4) i, w (b + 5) i, w (b + 6) i, w (b + 7) i) := by
  unfold cLs
  rw [List.getElem?_map, List.getElem?_range (by omega : i.toNat < (w b 3).toNat)]
  show some (cLn w b i.toNat) = _
  unfold cLn
  rw [show ((i.toNat : Nat) : Int) = i by omega]
/-- two worlds have the same loans if they have so place by place -/
theorem cLs_eq {w w' : Wd} {b b' : Nat} (h3 : w b 3 = w' b' 3) (h : ∀ (k : Nat) (j : Int), 3 ≤ k → k ≤ 7 → 0 ≤ j → j < w b 3 → w (b + k) j = w' (b' + k) j) : cLs w b = cLs w' b' := by
  unfold cLs
  rw [← h3]
  apply List.map_congr_left
  intro i hi
  have hi2 := List.mem_range.mp hi
  unfold cLn
  rw [h 3 i (by omega) (by omega) (by omega) (by omega), h 4 i (by omega) (by omega) (by omega) (by omega), h 5 i (by omega) (by omega) (by omega) (by omega), h 6 i (by omega) (by omega) (by omega) (by omega), h 7 i (by omega) (by omega) (by omega) (by omega)]
set_option maxRecDepth 100000 in
set_option maxHeartbeats 4000000 in
theorem l_X1_owedTo (G : Gb) (l : Launch) {w : Wd} {b : Nat} (hb : IsSt b) {t : Int} (ht : inR t) (hn : 0 ≤ w b 3 ∧ w b 3 ≤ 12) (hl : ∀ i : Int, 0 ≤ i → i < w b 3 → inR (w (b + 3) i)) {Post : Int → Wd → Prop} : ∀ (n : Nat) (s i : Int), 0 ≤ i → i + n = w b 3 → Post (s + owL t ((cLs w b).drop i.toNat)) w → V G l mX1_owedTo (Qi G Post) 4 [some (.ref (gA G b)), some (.int (iZ t)), some (.int (iZ s)), some (.int (iZ i))] [] w := by
  intro n
  induction n with
  | zero =>
    intro s i h0 h1 hp
    refine V_iload_n dX1_owedTo_4 rfl ?_
    refine V_aload_n dX1_owedTo_5 rfl ?_
    refine V_getI (ci := 1) (j := 3) (ji := 3) dX1_owedTo_6 (sSt_0 hb) rfl rfl i_X1_owedTo_X1 (by decide) f_X1_owedTo_37 rfl ?_
    refine V_icmp_ge (tgt := 37) dX1_owedTo_9 (by decide) (by omega) (by omega) (fun h9 => ?_) (fun h9 => ?_)
    · refine V_iload_n dX1_owedTo_37 rfl ?_
      exact V_iret dX1_owedTo_38 rfl (by rw [cLs_end (by omega)] at hp; simpa [owL] using hp)
    · exact absurd h9 (by omega)
  | succ n ih =>
    intro s i h0 h1 hp
    rw [cLs_drop h0 (by omega), owL] at hp
    refine V_iload_n dX1_owedTo_4 rfl ?_
    refine V_aload_n dX1_owedTo_5 rfl ?_
    refine V_getI (ci := 1) (j := 3) (ji := 3) dX1_owedTo_6 (sSt_0 hb) rfl rfl i_X1_owedTo_X1 (by decide) f_X1_owedTo_37 rfl ?_
    refine V_icmp_ge (tgt := 37) dX1_owedTo_9 (by decide) (by omega) (by omega) (fun h9 => ?_) (fun h9 => ?_)
    · exact absurd h9 (by omega)
    · refine V_aload_n dX1_owedTo_12 rfl ?_
      refine V_getR (ci := 1) (j := 4) dX1_owedTo_13 (sSt_0 hb) rfl rfl i_X1_owedTo_X1 (by decide) f_X1_owedTo_18 ?_
      refine V_iload_n dX1_owedTo_16 rfl ?_
      refine V_iald dX1_owedTo_17 (sSt_3 hb) (by omega) ?_
      refine V_iload_n dX1_owedTo_18 rfl ?_
      have h2 := hl i h0 (by omega)
      refine V_icmp_ne (tgt := 31) dX1_owedTo_19 (by decide) (by omega) (by omega) (fun h19 => ?_) (fun h19 => ?_)
      · refine V_iinc dX1_owedTo_31 rfl (by decide) rfl ?_
        refine V_goto (tgt := 4) dX1_owedTo_34 (by decide) ?_
        refine ih _ _ (by omega) (by omega) ?_
        first
          | (rw [if_pos h19, ← Int.add_assoc] at hp; exact hp)
          | (rw [if_neg h19, Int.zero_add] at hp; exact hp)
      · refine V_iload_n dX1_owedTo_22 rfl ?_
        refine V_aload_n dX1_owedTo_23 rfl ?_
        refine V_getR (ci := 1) (j := 6) dX1_owedTo_24 (sSt_0 hb) rfl rfl i_X1_owedTo_X1 (by decide) f_X1_owedTo_24 ?_
        refine V_iload_n dX1_owedTo_27 rfl ?_
        refine V_iald dX1_owedTo_28 (sSt_5 hb) (by omega) ?_
        refine V_iadd dX1_owedTo_29 ?_
        refine V_istore_n dX1_owedTo_30 (by decide) rfl ?_
        refine V_iinc dX1_owedTo_31 rfl (by decide) rfl ?_
        refine V_goto (tgt := 4) dX1_owedTo_34 (by decide) ?_
        refine ih _ _ (by omega) (by omega) ?_
        first
          | (rw [if_pos h19, ← Int.add_assoc] at hp; exact hp)
          | (rw [if_neg h19, Int.zero_add] at hp; exact hp)
set_option maxRecDepth 100000 in
set_option maxHeartbeats 4000000 in
theorem c_X1_owedTo (G : Gb) (l : Launch) {w : Wd} {b : Nat} (hb : IsSt b) {t : Int} (ht : inR t) (hn : 0 ≤ w b 3 ∧ w b 3 ≤ 12) (hl : ∀ i : Int, 0 ≤ i → i < w b 3 → inR (w (b + 3) i)) : Ci G l yX1_owedTo mX1_owedTo [.ref (gA G b), .int (iZ t)] w (fun z w' => z = owL t (cLs w b) ∧ w = w') := by
  refine V_start 2 (by decide) rfl rfl (Nat.le_of_ble_eq_true rfl) ?_
  show V G l mX1_owedTo _ 0 [some (.ref (gA G b)), some (.int (iZ t)), none, none] [] w
  refine V_iconst dX1_owedTo_0 ?_
  refine V_istore_n dX1_owedTo_1 (by decide) rfl ?_
  refine V_iconst dX1_owedTo_2 ?_
  refine V_istore_n dX1_owedTo_3 (by decide) rfl ?_
  exact l_X1_owedTo G l hb ht hn hl (w b 3).toNat 0 0 (by omega) (by omega) ⟨by simp, rfl⟩
set_option maxRecDepth 100000 in
set_option maxHeartbeats 4000000 in
theorem l_X1_owedInAll (G : Gb) (l : Launch) {w : Wd} {b : Nat} (hb : IsSt b) (hn : 0 ≤ w b 3 ∧ w b 3 ≤ 12) {Post : Int → Wd → Prop} : ∀ (n : Nat) (s i : Int), 0 ≤ i → i + n = w b 3 → Post (s + oaL ((cLs w b).drop i.toNat)) w → V G l mX1_owedInAll (Qi G Post) 4 [some (.ref (gA G b)), some (.int (iZ s)), some (.int (iZ i))] [] w := by
  intro n
  induction n with
  | zero =>
    intro s i h0 h1 hp
    refine V_iload_n dX1_owedInAll_4 rfl ?_
    refine V_aload_n dX1_owedInAll_5 rfl ?_
    refine V_getI (ci := 1) (j := 3) (ji := 3) dX1_owedInAll_6 (sSt_0 hb) rfl rfl i_X1_owedInAll_X1 (by decide) f_X1_owedInAll_37 rfl ?_
    refine V_icmp_ge (tgt := 27) dX1_owedInAll_9 (by decide) (by omega) (by omega) (fun h9 => ?_) (fun h9 => ?_)
    · refine V_iload_n dX1_owedInAll_27 rfl ?_
      exact V_iret dX1_owedInAll_28 rfl (by rw [cLs_end (by omega)] at hp; simpa [oaL] using hp)
    · exact absurd h9 (by omega)
  | succ n ih =>
    intro s i h0 h1 hp
    rw [cLs_drop h0 (by omega), oaL] at hp
    refine V_iload_n dX1_owedInAll_4 rfl ?_
    refine V_aload_n dX1_owedInAll_5 rfl ?_
    refine V_getI (ci := 1) (j := 3) (ji := 3) dX1_owedInAll_6 (sSt_0 hb) rfl rfl i_X1_owedInAll_X1 (by decide) f_X1_owedInAll_37 rfl ?_
    refine V_icmp_ge (tgt := 27) dX1_owedInAll_9 (by decide) (by omega) (by omega) (fun h9 => ?_) (fun h9 => ?_)
    · exact absurd h9 (by omega)
    · refine V_iload_n dX1_owedInAll_12 rfl ?_
      refine V_aload_n dX1_owedInAll_13 rfl ?_
      refine V_getR (ci := 1) (j := 6) dX1_owedInAll_14 (sSt_0 hb) rfl rfl i_X1_owedInAll_X1 (by decide) f_X1_owedInAll_24 ?_
      refine V_iload_n dX1_owedInAll_17 rfl ?_
      refine V_iald dX1_owedInAll_18 (sSt_5 hb) (by omega) ?_
      refine V_iadd dX1_owedInAll_19 ?_
      refine V_istore_n dX1_owedInAll_20 (by decide) rfl ?_
      refine V_iinc dX1_owedInAll_21 rfl (by decide) rfl ?_
      refine V_goto (tgt := 4) dX1_owedInAll_24 (by decide) ?_
      refine ih _ _ (by omega) (by omega) ?_
      rw [← Int.add_assoc] at hp
      exact hp
set_option maxRecDepth 100000 in
set_option maxHeartbeats 4000000 in
theorem c_X1_owedInAll (G : Gb) (l : Launch) {w : Wd} {b : Nat} (hb : IsSt b) (hn : 0 ≤ w b 3 ∧ w b 3 ≤ 12) : Ci G l yX1_owedInAll mX1_owedInAll [.ref (gA G b)] w (fun z w' => z = oaL (cLs w b) ∧ w = w') := by
  refine V_start 2 (by decide) rfl rfl (Nat.le_of_ble_eq_true rfl) ?_
  show V G l mX1_owedInAll _ 0 [some (.ref (gA G b)), none, none] [] w
  refine V_iconst dX1_owedInAll_0 ?_
  refine V_istore_n dX1_owedInAll_1 (by decide) rfl ?_
  refine V_iconst dX1_owedInAll_2 ?_
  refine V_istore_n dX1_owedInAll_3 (by decide) rfl ?_
  exact l_X1_owedInAll G l hb hn (w b 3).toNat 0 0 (by omega) (by omega) ⟨by simp, rfl⟩
set_option maxRecDepth 100000 in
set_option maxHeartbeats 4000000 in
theorem l_X1_firstDue (G : Gb) (l : Launch) {w : Wd} {b : Nat} (hb : IsSt b) (hn : 0 ≤ w b 3 ∧ w b 3 ≤ 12) (hu : ∀ i : Int, 0 ≤ i → i < w b 3 → inR (w (b + 6) i)) {Post : Int → Wd → Prop} : ∀ (n : Nat) (f i : Int), 0 ≤ f → f < i → i + n = w b 3 → Post ((fdF f.toNat (w (b + 6) f) i.toNat ((cLs w b).drop i.toNat) : Nat) : Int) w → V G l mX1_firstDue (Qi G Post) 4 [some (.ref (gA G b)), some (.int (iZ f)), some (.int (iZ i))] [] w := by
  intro n
  induction n with
  | zero =>
    intro f i h0 h1 h2 hp
    refine V_iload_n dX1_firstDue_4 rfl ?_
    refine V_aload_n dX1_firstDue_5 rfl ?_
    refine V_getI (ci := 1) (j := 3) (ji := 3) dX1_firstDue_6 (sSt_0 hb) rfl rfl i_X1_firstDue_X1 (by decide) f_X1_firstDue_37 rfl ?_
    refine V_icmp_ge (tgt := 35) dX1_firstDue_9 (by decide) (by omega) (by omega) (fun h9 => ?_) (fun h9 => ?_)
    · refine V_iload_n dX1_firstDue_35 rfl ?_
      exact V_iret dX1_firstDue_36 rfl (by rw [cLs_end (by omega), fdF, show ((f.toNat : Nat) : Int) = f by omega] at hp; exact hp)
    · exact absurd h9 (by omega)
  | succ n ih =>
    intro f i h0 h1 h2 hp
    rw [cLs_drop (by omega) (by omega), fdF] at hp
    have e : (i + 1).toNat = i.toNat + 1 := by omega
    refine V_iload_n dX1_firstDue_4 rfl ?_
    refine V_aload_n dX1_firstDue_5 rfl ?_
    refine V_getI (ci := 1) (j := 3) (ji := 3) dX1_firstDue_6 (sSt_0 hb) rfl rfl i_X1_firstDue_X1 (by decide) f_X1_firstDue_37 rfl ?_
    refine V_icmp_ge (tgt := 35) dX1_firstDue_9 (by decide) (by omega) (by omega) (fun h9 => ?_) (fun h9 => ?_)
    · exact absurd h9 (by omega)
    · refine V_aload_n dX1_firstDue_12 rfl ?_
      refine V_getR (ci := 1) (j := 7) dX1_firstDue_13 (sSt_0 hb) rfl rfl i_X1_firstDue_X1 (by decide) f_X1_firstDue_27 ?_
      refine V_iload_n dX1_firstDue_16 rfl ?_
      refine V_iald dX1_firstDue_17 (sSt_6 hb) (by omega) ?_
      refine V_aload_n dX1_firstDue_18 rfl ?_
      refine V_getR (ci := 1) (j := 7) dX1_firstDue_19 (sSt_0 hb) rfl rfl i_X1_firstDue_X1 (by decide) f_X1_firstDue_27 ?_
      refine V_iload_n dX1_firstDue_22 rfl ?_
      refine V_iald dX1_firstDue_23 (sSt_6 hb) (by omega) ?_
      have h3 := hu i (by omega) (by omega)
      have h4 := hu f (by omega) (by omega)
      refine V_icmp_ge (tgt := 29) dX1_firstDue_24 (by decide) (by omega) (by omega) (fun h24 => ?_) (fun h24 => ?_)
      · refine V_iinc dX1_firstDue_29 rfl (by decide) rfl ?_
        refine V_goto (tgt := 4) dX1_firstDue_32 (by decide) ?_
        refine ih _ _ (by omega) (by omega) (by omega) ?_
        dsimp only at hp
        rw [e] at hp ⊢
        first
          | (rw [if_pos (by omega)] at hp; exact hp)
          | (rw [if_neg (by omega)] at hp; exact hp)
      · refine V_iload_n dX1_firstDue_27 rfl ?_
        refine V_istore_n dX1_firstDue_28 (by decide) rfl ?_
        refine V_iinc dX1_firstDue_29 rfl (by decide) rfl ?_
        refine V_goto (tgt := 4) dX1_firstDue_32 (by decide) ?_
        refine ih _ _ (by omega) (by omega) (by omega) ?_
        dsimp only at hp
        rw [e] at hp ⊢
        first
          | (rw [if_pos (by omega)] at hp; exact hp)
          | (rw [if_neg (by omega)] at hp; exact hp)
set_option maxRecDepth 100000 in
set_option maxHeartbeats 4000000 in
theorem c_X1_firstDue (G : Gb) (l : Launch) {w : Wd} {b : Nat} (hb : IsSt b) (hn : 1 ≤ w b 3 ∧ w b 3 ≤ 12) (hu : ∀ i : Int, 0 ≤ i → i < w b 3 → inR (w (b + 6) i)) : Ci G l yX1_firstDue mX1_firstDue [.ref (gA G b)] w (fun z w' => z = ((fdL (cLs w b) : Nat) : Int) ∧ w = w') := by
  refine V_start 2 (by decide) rfl rfl (Nat.le_of_ble_eq_true rfl) ?_
  show V G l mX1_firstDue _ 0 [some (.ref (gA G b)), none, none] [] w
  refine V_iconst dX1_firstDue_0 ?_
  refine V_istore_n dX1_firstDue_1 (by decide) rfl ?_
  refine V_iconst dX1_firstDue_2 ?_
  refine V_istore_n dX1_firstDue_3 (by decide) rfl ?_
  refine l_X1_firstDue G l hb (by omega) hu (w b 3 - 1).toNat 0 1 (by omega) (by omega) (by omega) ⟨?_, rfl⟩
  have h5 := cLs_drop (w := w) (b := b) (i := 0) (by omega) (by omega)
  have h6 : (cLs w b).drop (0 : Int).toNat = cLs w b := rfl
  rw [h6] at h5
  rw [h5]
  rfl

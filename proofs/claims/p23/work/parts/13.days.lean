/-! ===== 13 State: what changes it ===== -/
set_option maxRecDepth 100000 in
set_option maxHeartbeats 4000000 in
theorem c_X1_addBranches (G : Gb) (l : Launch) {w : Wd} {b : Nat} (hb : IsSt b) {t n : Int} (ht : 0 ≤ t ∧ t < 6) (hv : 0 ≤ w (b + 1) t ∧ w (b + 1) t ≤ 99) (hn : 0 ≤ n ∧ n ≤ 99) : Cv G l yX1_addBranches mX1_addBranches [.ref (gA G b), .int (iZ t), .int (iZ n)] w (fun w' => w' = up w (b + 1) t (min (w (b + 1) t + n) 99)) := by
  refine V_start 0 (by decide) rfl rfl (Nat.le_of_ble_eq_true rfl) ?_
  show V G l mX1_addBranches _ 0 [some (.ref (gA G b)), some (.int (iZ t)), some (.int (iZ n))] [] w
  refine V_aload_n dX1_addBranches_0 rfl ?_
  refine V_getR (ci := 1) (j := 1) dX1_addBranches_1 (sSt_0 hb) rfl rfl i_X1_addBranches_X1 (by decide) f_X1_addBranches_9 ?_
  refine V_iload_n dX1_addBranches_4 rfl ?_
  refine V_aload_n dX1_addBranches_5 rfl ?_
  refine V_getR (ci := 1) (j := 1) dX1_addBranches_6 (sSt_0 hb) rfl rfl i_X1_addBranches_X1 (by decide) f_X1_addBranches_9 ?_
  refine V_iload_n dX1_addBranches_9 rfl ?_
  refine V_iald dX1_addBranches_10 (sSt_1 hb) (by omega) ?_
  refine V_iload_n dX1_addBranches_11 rfl ?_
  refine V_iadd dX1_addBranches_12 ?_
  refine V_bipush dX1_addBranches_13 rfl ?_
  refine V_min dX1_addBranches_15 (by omega) (by omega) (List.mem_of_getElem? (i := 2) rfl) (List.mem_of_getElem? (i := 3) rfl) (List.mem_of_getElem? (i := 4) rfl) (List.mem_of_getElem? (i := 5) rfl) (Nat.le_of_ble_eq_true rfl) (Nat.le_of_ble_eq_true rfl) ?_
  refine V_iast dX1_addBranches_18 (sSt_1 hb) (by omega) ?_
  exact V_vret dX1_addBranches_19 rfl rfl
/-- the loans from place i on have grown -/
def gwS (w : Wd) (b d : Nat) (i : Int) : Wd := fun k j => if k = b + 5 ∧ i ≤ j ∧ j < w b 3 then grw (w (d + 1) (w (b + 3) j)) (w (d + 3) (w (b + 3) j)) (w (b + 5) j) (w (b + 4) j) else w k j
theorem gwS_end {w : Wd} {b d : Nat} {i : Int} (h : w b 3 ≤ i) : gwS w b d i = w := by
  funext k j
  unfold gwS
  rw [if_neg (by omega)]
theorem gwS_step {w : Wd} {b d : Nat} {i : Int} (hb : IsSt b) (hd : IsTd d) (h : i < w b 3) : gwS (up w (b + 5) i (grw (w (d + 1) (w (b + 3) i)) (w (d + 3) (w (b + 3) i)) (w (b + 5) i) (w (b + 4) i))) b d (i + 1) = gwS w b d i := by
  funext k j
  unfold gwS
  have e3 : up w (b + 5) i (grw (w (d + 1) (w (b + 3) i)) (w (d + 3) (w (b + 3) i)) (w (b + 5) i) (w (b + 4) i)) b 3 = w b 3 := up_ne (Or.inl (by omega))
  rw [e3]
  by_cases hk : k = b + 5
  · subst hk
    by_cases hj : j = i
    · subst hj
      rw [if_neg (by omega), if_pos (by omega), up_eq]
    · by_cases h2 : i ≤ j ∧ j < w b 3
      · rw [if_pos (by omega), if_pos (by omega), up_ne (Or.inl (by omega)), up_ne (Or.inl (by omega)), up_ne (Or.inl (by omega)), up_ne (Or.inr hj), up_ne (Or.inl (by omega))]
      · rw [if_neg (by omega), if_neg (by omega), up_ne (Or.inr hj)]
  · rw [if_neg (by omega), if_neg (by omega), up_ne (Or.inl hk)]
set_option maxRecDepth 100000 in
set_option maxHeartbeats 4000000 in
theorem l_X1_growLoans (G : Gb) (l : Launch) {b d : Nat} (hb : IsSt b) (hd : IsTd d) {N : Int} (hN : 0 ≤ N ∧ N ≤ 12) {Post : Wd → Prop} : ∀ (n : Nat) (i : Int) (w : Wd), w b 3 = N → 0 ≤ i → i + n = N → (∀ i : Int, 0 ≤ i → i < N → (0 ≤ w (b + 3) i ∧ w (b + 3) i < 6) ∧ (0 ≤ w (b + 4) i ∧ w (b + 4) i ≤ 99) ∧ (0 ≤ w (b + 5) i ∧ w (b + 5) i ≤ 1000000)) → (∀ t : Int, 0 ≤ t → t < 6 → (0 ≤ w (d + 1) t ∧ w (d + 1) t ≤ 3) ∧ (0 ≤ w (d + 3) t ∧ w (d + 3) t ≤ 50)) → Post (gwS w b d i) → V G l mX1_growLoans (Qv G Post) 2 [some (.ref (gA G b)), some (.ref (gA G d)), some (.int (iZ i))] [] w := by
  intro n
  induction n with
  | zero =>
    intro i w hw h0 h1 hs hk hp
    refine V_iload_n dX1_growLoans_2 rfl ?_
    refine V_aload_n dX1_growLoans_3 rfl ?_
    refine V_getI (ci := 1) (j := 3) (ji := 3) dX1_growLoans_4 (sSt_0 hb) rfl rfl i_X1_growLoans_X1 (by decide) f_X1_growLoans_37 rfl ?_
    refine V_icmp_ge (tgt := 44) dX1_growLoans_7 (by decide) (by omega) (by omega) (fun h7 => ?_) (fun h7 => ?_)
    · exact V_vret dX1_growLoans_44 rfl (by rw [gwS_end (by omega)] at hp; exact hp)
    · exact absurd h7 (by omega)
  | succ n ih =>
    intro i w hw h0 h1 hs hk hp
    have q1 := hs i h0 (by omega)
    have q2 := hk (w (b + 3) i) q1.1.1 q1.1.2
    have q3 := grw_bd (k := w (d + 1) (w (b + 3) i)) q1.2.2 q1.2.1 q2.2
    refine V_iload_n dX1_growLoans_2 rfl ?_
    refine V_aload_n dX1_growLoans_3 rfl ?_
    refine V_getI (ci := 1) (j := 3) (ji := 3) dX1_growLoans_4 (sSt_0 hb) rfl rfl i_X1_growLoans_X1 (by decide) f_X1_growLoans_37 rfl ?_
    refine V_icmp_ge (tgt := 44) dX1_growLoans_7 (by decide) (by omega) (by omega) (fun h7 => ?_) (fun h7 => ?_)
    · exact absurd h7 (by omega)
    · refine V_aload_n dX1_growLoans_10 rfl ?_
      refine V_getR (ci := 1) (j := 6) dX1_growLoans_11 (sSt_0 hb) rfl rfl i_X1_growLoans_X1 (by decide) f_X1_growLoans_24 ?_
      refine V_iload_n dX1_growLoans_14 rfl ?_
      refine V_aload_n dX1_growLoans_15 rfl ?_
      refine V_aload_n dX1_growLoans_16 rfl ?_
      refine V_getR (ci := 1) (j := 4) dX1_growLoans_17 (sSt_0 hb) rfl rfl i_X1_growLoans_X1 (by decide) f_X1_growLoans_18 ?_
      refine V_iload_n dX1_growLoans_20 rfl ?_
      refine V_iald dX1_growLoans_21 (sSt_3 hb) (by omega) ?_
      refine V_aload_n dX1_growLoans_22 rfl ?_
      refine V_getR (ci := 1) (j := 6) dX1_growLoans_23 (sSt_0 hb) rfl rfl i_X1_growLoans_X1 (by decide) f_X1_growLoans_24 ?_
      refine V_iload_n dX1_growLoans_26 rfl ?_
      refine V_iald dX1_growLoans_27 (sSt_5 hb) (by omega) ?_
      refine V_aload_n dX1_growLoans_28 rfl ?_
      refine V_getR (ci := 1) (j := 5) dX1_growLoans_29 (sSt_0 hb) rfl rfl i_X1_growLoans_X1 (by decide) f_X1_growLoans_21 ?_
      refine V_iload_n dX1_growLoans_32 rfl ?_
      refine V_iald dX1_growLoans_33 (sSt_4 hb) (by omega) ?_
      refine V_iV3 dX1_growLoans_34 o_X1_growLoans_89 (sTd_0 hd) rfl (Nat.le_of_ble_eq_true rfl) (c_X3_grownOnce G l hd q1.1 q1.2.2 q1.2.1 q2.1 q2.2) ?_
      rintro _ _ ⟨rfl, rfl⟩
      refine V_iast dX1_growLoans_37 (sSt_5 hb) (by omega) ?_
      refine V_iinc dX1_growLoans_38 rfl (by decide) rfl ?_
      refine V_goto (tgt := 2) dX1_growLoans_41 (by decide) ?_
      refine ih (i + 1) _ (by rw [up_ne (Or.inl (by omega))]; exact hw) (by omega) (by omega) (fun j g0 g1 => ?_) (fun t g0 g1 => ?_) (by rw [gwS_step hb hd (by omega)]; exact hp)
      · have q4 := hs j g0 g1
        rw [up_ne (Or.inl (by omega)), up_ne (Or.inl (by omega))]
        by_cases hj : j = i
        · subst hj
          rw [up_eq]
          exact ⟨q4.1, q4.2.1, by omega⟩
        · rw [up_ne (Or.inr hj)]
          exact q4
      · rw [up_ne (Or.inl (by omega)), up_ne (Or.inl (by omega))]
        exact hk t g0 g1
set_option maxRecDepth 100000 in
set_option maxHeartbeats 4000000 in
theorem c_X1_growLoans (G : Gb) (l : Launch) {w : Wd} {b d : Nat} (hb : IsSt b) (hd : IsTd d) (hn : 0 ≤ w b 3 ∧ w b 3 ≤ 12) (hs : ∀ i : Int, 0 ≤ i → i < w b 3 → (0 ≤ w (b + 3) i ∧ w (b + 3) i < 6) ∧ (0 ≤ w (b + 4) i ∧ w (b + 4) i ≤ 99) ∧ (0 ≤ w (b + 5) i ∧ w (b + 5) i ≤ 1000000)) (hk : ∀ t : Int, 0 ≤ t → t < 6 → (0 ≤ w (d + 1) t ∧ w (d + 1) t ≤ 3) ∧ (0 ≤ w (d + 3) t ∧ w (d + 3) t ≤ 50)) : Cv G l yX1_growLoans mX1_growLoans [.ref (gA G b), .ref (gA G d)] w (fun w' => w' = gwS w b d 0) := by
  refine V_start 1 (by decide) rfl rfl (Nat.le_of_ble_eq_true rfl) ?_
  show V G l mX1_growLoans _ 0 [some (.ref (gA G b)), some (.ref (gA G d)), none] [] w
  refine V_iconst dX1_growLoans_0 ?_
  refine V_istore_n dX1_growLoans_1 (by decide) rfl ?_
  exact l_X1_growLoans G l hb hd hn (w b 3).toNat 0 w rfl (by omega) (by omega) hs hk rfl
/-- the loans behind place i are one place lower -/
def swS (w : Wd) (b : Nat) (i : Int) : Wd := fun k j => if (b + 3 ≤ k ∧ k ≤ b + 7) ∧ i ≤ j ∧ j < w b 3 - 1 then w k (j + 1) else w k j
theorem swS_end {w : Wd} {b : Nat} {i : Int} (h : w b 3 - 1 ≤ i) : swS w b i = w := by
  funext k j
  unfold swS
  rw [if_neg (by omega)]
def sw1 (w : Wd) (b : Nat) (i : Int) : Wd := up (up (up (up (up w (b + 3) i (w (b + 3) (i + 1))) (b + 4) i (w (b + 4) (i + 1))) (b + 5) i (w (b + 5) (i + 1))) (b + 6) i (w (b + 6) (i + 1))) (b + 7) i (w (b + 7) (i + 1))
theorem sw1_ne {w : Wd} {b k : Nat} {i j : Int} (h : j ≠ i ∨ k < b + 3 ∨ b + 7 < k) : sw1 w b i k j = w k j := by
  unfold sw1
  rcases h with h | h
  · rw [up_ne (Or.inr h), up_ne (Or.inr h), up_ne (Or.inr h), up_ne (Or.inr h), up_ne (Or.inr h)]
  · rw [up_ne (Or.inl (by omega)), up_ne (Or.inl (by omega)), up_ne (Or.inl (by omega)), up_ne (Or.inl (by omega)), up_ne (Or.inl (by omega))]
theorem sw1_at {w : Wd} {b k : Nat} {i : Int} (h : b + 3 ≤ k ∧ k ≤ b + 7) : sw1 w b i k i = w k (i + 1) := by
  unfold sw1
  rcases (show k = b + 3 ∨ k = b + 4 ∨ k = b + 5 ∨ k = b + 6 ∨ k = b + 7 by omega) with rfl | rfl | rfl | rfl | rfl
  · rw [up_ne (Or.inl (by omega)), up_ne (Or.inl (by omega)), up_ne (Or.inl (by omega)), up_ne (Or.inl (by omega)), up_eq]
  · rw [up_ne (Or.inl (by omega)), up_ne (Or.inl (by omega)), up_ne (Or.inl (by omega)), up_eq]
  · rw [up_ne (Or.inl (by omega)), up_ne (Or.inl (by omega)), up_eq]
  · rw [up_ne (Or.inl (by omega)), up_eq]
  · rw [up_eq]
theorem swS_step {w : Wd} {b : Nat} {i : Int} (h : i < w b 3 - 1) : swS (sw1 w b i) b (i + 1) = swS w b i := by
  funext k j
  unfold swS
  rw [sw1_ne (k := b) (j := 3) (Or.inr (Or.inl (by omega)))]
  by_cases hk : b + 3 ≤ k ∧ k ≤ b + 7
  · by_cases hj : j = i
    · subst hj
      rw [if_neg (by omega), if_pos (by omega), sw1_at hk]
    · by_cases h2 : i ≤ j ∧ j < w b 3 - 1
      · rw [if_pos (by omega), if_pos (by omega), sw1_ne (Or.inl (by omega))]
      · rw [if_neg (by omega), if_neg (by omega), sw1_ne (Or.inl hj)]
  · rw [if_neg (by omega), if_neg (by omega), sw1_ne (Or.inr (by omega))]
/-- a loan is gone -/
def rmS (w : Wd) (b : Nat) (r : Int) : Wd := up (swS w b r) b 3 (w b 3 - 1)
set_option maxRecDepth 100000 in
set_option maxHeartbeats 4000000 in
theorem l_X1_removeLoan (G : Gb) (l : Launch) {b : Nat} (hb : IsSt b) {r N : Int} (hN : 0 ≤ N ∧ N ≤ 12) {Post : Wd → Prop} : ∀ (n : Nat) (i : Int) (w : Wd), w b 3 = N → 0 ≤ i → i + n = N - 1 → Post (up (swS w b i) b 3 (N - 1)) → V G l mX1_removeLoan (Qv G Post) 2 [some (.ref (gA G b)), some (.int (iZ r)), some (.int (iZ i))] [] w := by
  intro n
  induction n with
  | zero =>
    intro i w hw h0 h1 hp
    refine V_iload_n dX1_removeLoan_2 rfl ?_
    refine V_aload_n dX1_removeLoan_3 rfl ?_
    refine V_getI (ci := 1) (j := 3) (ji := 3) dX1_removeLoan_4 (sSt_0 hb) rfl rfl i_X1_removeLoan_X1 (by decide) f_X1_removeLoan_37 rfl ?_
    refine V_iconst dX1_removeLoan_7 ?_
    refine V_isub dX1_removeLoan_8 ?_
    refine V_icmp_ge (tgt := 88) dX1_removeLoan_9 (by decide) (by omega) (by omega) (fun h9 => ?_) (fun h9 => ?_)
    · refine V_aload_n dX1_removeLoan_88 rfl ?_
      refine V_dup dX1_removeLoan_89 rfl ?_
      refine V_getI (ci := 1) (j := 3) (ji := 3) dX1_removeLoan_90 (sSt_0 hb) rfl rfl i_X1_removeLoan_X1 (by decide) f_X1_removeLoan_37 rfl ?_
      refine V_iconst dX1_removeLoan_93 ?_
      refine V_isub dX1_removeLoan_94 ?_
      refine V_putI (ci := 1) (j := 3) (ji := 3) dX1_removeLoan_95 (sSt_0 hb) rfl rfl i_X1_removeLoan_X1 tyX1_ok nmX1 (by decide) f_X1_removeLoan_37 rfl rfl rfl ?_
      exact V_vret dX1_removeLoan_98 rfl (by rw [swS_end (by omega)] at hp; rw [hw]; exact hp)
    · exact absurd h9 (by omega)
  | succ n ih =>
    intro i w hw h0 h1 hp
    refine V_iload_n dX1_removeLoan_2 rfl ?_
    refine V_aload_n dX1_removeLoan_3 rfl ?_
    refine V_getI (ci := 1) (j := 3) (ji := 3) dX1_removeLoan_4 (sSt_0 hb) rfl rfl i_X1_removeLoan_X1 (by decide) f_X1_removeLoan_37 rfl ?_
    refine V_iconst dX1_removeLoan_7 ?_
    refine V_isub dX1_removeLoan_8 ?_
    refine V_icmp_ge (tgt := 88) dX1_removeLoan_9 (by decide) (by omega) (by omega) (fun h9 => ?_) (fun h9 => ?_)
    · exact absurd h9 (by omega)
    · refine V_aload_n dX1_removeLoan_12 rfl ?_
      refine V_getR (ci := 1) (j := 4) dX1_removeLoan_13 (sSt_0 hb) rfl rfl i_X1_removeLoan_X1 (by decide) f_X1_removeLoan_18 ?_
      refine V_iload_n dX1_removeLoan_16 rfl ?_
      refine V_aload_n dX1_removeLoan_17 rfl ?_
      refine V_getR (ci := 1) (j := 4) dX1_removeLoan_18 (sSt_0 hb) rfl rfl i_X1_removeLoan_X1 (by decide) f_X1_removeLoan_18 ?_
      refine V_iload_n dX1_removeLoan_21 rfl ?_
      refine V_iconst dX1_removeLoan_22 ?_
      refine V_iadd dX1_removeLoan_23 ?_
      refine V_ialdE (z := w (b + 3) (i + 1)) dX1_removeLoan_24 (sSt_3 hb) (by omega) (by simp [up]) ?_
      refine V_iast dX1_removeLoan_25 (sSt_3 hb) (by omega) ?_
      refine V_aload_n dX1_removeLoan_26 rfl ?_
      refine V_getR (ci := 1) (j := 5) dX1_removeLoan_27 (sSt_0 hb) rfl rfl i_X1_removeLoan_X1 (by decide) f_X1_removeLoan_21 ?_
      refine V_iload_n dX1_removeLoan_30 rfl ?_
      refine V_aload_n dX1_removeLoan_31 rfl ?_
      refine V_getR (ci := 1) (j := 5) dX1_removeLoan_32 (sSt_0 hb) rfl rfl i_X1_removeLoan_X1 (by decide) f_X1_removeLoan_21 ?_
      refine V_iload_n dX1_removeLoan_35 rfl ?_
      refine V_iconst dX1_removeLoan_36 ?_
      refine V_iadd dX1_removeLoan_37 ?_
      refine V_ialdE (z := w (b + 4) (i + 1)) dX1_removeLoan_38 (sSt_4 hb) (by omega) (by simp [up]) ?_
      refine V_iast dX1_removeLoan_39 (sSt_4 hb) (by omega) ?_
      refine V_aload_n dX1_removeLoan_40 rfl ?_
      refine V_getR (ci := 1) (j := 6) dX1_removeLoan_41 (sSt_0 hb) rfl rfl i_X1_removeLoan_X1 (by decide) f_X1_removeLoan_24 ?_
      refine V_iload_n dX1_removeLoan_44 rfl ?_
      refine V_aload_n dX1_removeLoan_45 rfl ?_
      refine V_getR (ci := 1) (j := 6) dX1_removeLoan_46 (sSt_0 hb) rfl rfl i_X1_removeLoan_X1 (by decide) f_X1_removeLoan_24 ?_
      refine V_iload_n dX1_removeLoan_49 rfl ?_
      refine V_iconst dX1_removeLoan_50 ?_
      refine V_iadd dX1_removeLoan_51 ?_
      refine V_ialdE (z := w (b + 5) (i + 1)) dX1_removeLoan_52 (sSt_5 hb) (by omega) (by simp [up]) ?_
      refine V_iast dX1_removeLoan_53 (sSt_5 hb) (by omega) ?_
      refine V_aload_n dX1_removeLoan_54 rfl ?_
      refine V_getR (ci := 1) (j := 7) dX1_removeLoan_55 (sSt_0 hb) rfl rfl i_X1_removeLoan_X1 (by decide) f_X1_removeLoan_27 ?_
      refine V_iload_n dX1_removeLoan_58 rfl ?_
      refine V_aload_n dX1_removeLoan_59 rfl ?_
      refine V_getR (ci := 1) (j := 7) dX1_removeLoan_60 (sSt_0 hb) rfl rfl i_X1_removeLoan_X1 (by decide) f_X1_removeLoan_27 ?_
      refine V_iload_n dX1_removeLoan_63 rfl ?_
      refine V_iconst dX1_removeLoan_64 ?_
      refine V_iadd dX1_removeLoan_65 ?_
      refine V_ialdE (z := w (b + 6) (i + 1)) dX1_removeLoan_66 (sSt_6 hb) (by omega) (by simp [up]) ?_
      refine V_iast dX1_removeLoan_67 (sSt_6 hb) (by omega) ?_
      refine V_aload_n dX1_removeLoan_68 rfl ?_
      refine V_getR (ci := 1) (j := 8) dX1_removeLoan_69 (sSt_0 hb) rfl rfl i_X1_removeLoan_X1 (by decide) f_X1_removeLoan_30 ?_
      refine V_iload_n dX1_removeLoan_72 rfl ?_
      refine V_aload_n dX1_removeLoan_73 rfl ?_
      refine V_getR (ci := 1) (j := 8) dX1_removeLoan_74 (sSt_0 hb) rfl rfl i_X1_removeLoan_X1 (by decide) f_X1_removeLoan_30 ?_
      refine V_iload_n dX1_removeLoan_77 rfl ?_
      refine V_iconst dX1_removeLoan_78 ?_
      refine V_iadd dX1_removeLoan_79 ?_
      refine V_ialdE (z := w (b + 7) (i + 1)) dX1_removeLoan_80 (sSt_7 hb) (by omega) (by simp [up]) ?_
      refine V_iast dX1_removeLoan_81 (sSt_7 hb) (by omega) ?_
      refine V_iinc dX1_removeLoan_82 rfl (by decide) rfl ?_
      refine V_goto (tgt := 2) dX1_removeLoan_85 (by decide) ?_
      refine ih (i + 1) (sw1 w b i) (by rw [sw1_ne (Or.inr (Or.inl (by omega)))]; exact hw) (by omega) (by omega) ?_
      rw [swS_step (by omega)]
      exact hp
set_option maxRecDepth 100000 in
set_option maxHeartbeats 4000000 in
theorem c_X1_removeLoan (G : Gb) (l : Launch) {w : Wd} {b : Nat} (hb : IsSt b) {r : Int} (hn : w b 3 ≤ 12) (hr : 0 ≤ r ∧ r < w b 3) : Cv G l yX1_removeLoan mX1_removeLoan [.ref (gA G b), .int (iZ r)] w (fun w' => w' = rmS w b r) := by
  refine V_start 1 (by decide) rfl rfl (Nat.le_of_ble_eq_true rfl) ?_
  show V G l mX1_removeLoan _ 0 [some (.ref (gA G b)), some (.int (iZ r)), none] [] w
  refine V_iload_n dX1_removeLoan_0 rfl ?_
  refine V_istore_n dX1_removeLoan_1 (by decide) rfl ?_
  exact l_X1_removeLoan G l hb (N := w b 3) (by omega) (w b 3 - 1 - r).toNat r w rfl (by omega) (by omega) rfl
/-- loans from place i on that are due have failed; how many -/
def fcS (w : Wd) (b : Nat) : Nat → Int → Int
  | 0, _ => 0
  | n + 1, i => (if w (b + 6) i ≤ w b 0 ∧ w (b + 7) i = 0 then 1 else 0) + fcS w b n (i + 1)
theorem fcS_cong {w w' : Wd} {b : Nat} (h0 : w b 0 = w' b 0) : ∀ (n : Nat) (i : Int), (∀ j : Int, i ≤ j → w (b + 6) j = w' (b + 6) j ∧ w (b + 7) j = w' (b + 7) j) → fcS w b n i = fcS w' b n i
  | 0, i, h => rfl
  | n + 1, i, h => by
    rw [fcS, fcS, h0, (h i (by omega)).1, (h i (by omega)).2, fcS_cong h0 n (i + 1) (fun j hj => h j (by omega))]
abbrev fcD (w : Wd) (b : Nat) (i : Int) (n k : Nat) (j : Int) : Prop := k = b + 7 ∧ (i ≤ j ∧ j < i + (n : Int)) ∧ w (b + 6) j ≤ w b 0 ∧ w (b + 7) j = 0
def fwS (w : Wd) (b : Nat) (i : Int) (n : Nat) : Wd := fun k j => if fcD w b i n k j then 1 else if k = b ∧ j = 9 then w b 9 + fcS w b n i else w k j
theorem fwS_end {w : Wd} {b : Nat} {i : Int} : fwS w b i 0 = w := by
  funext k j
  unfold fwS
  have e1 : ¬ fcD w b i 0 k j := fun z => by have := z.2.1; omega
  rw [if_neg e1]
  by_cases h : k = b ∧ j = 9
  · rw [if_pos h, h.1, h.2, fcS]
    omega
  · rw [if_neg h]
theorem fwS_no {w : Wd} {b : Nat} {i : Int} {n : Nat} (h : ¬ (w (b + 6) i ≤ w b 0 ∧ w (b + 7) i = 0)) : fwS w b (i + 1) n = fwS w b i (n + 1) := by
  funext k j
  unfold fwS
  rw [fcS, if_neg h, Int.zero_add]
  by_cases hc : fcD w b (i + 1) n k j
  · have e2 : fcD w b i (n + 1) k j := ⟨hc.1, by have := hc.2.1; omega, hc.2.2⟩
    rw [if_pos hc, if_pos e2]
  · have e2 : ¬ fcD w b i (n + 1) k j := fun z => by
      by_cases hj : j = i
      · subst hj
        exact h z.2.2
      · exact hc ⟨z.1, by have := z.2.1; omega, z.2.2⟩
    rw [if_neg hc, if_neg e2]
theorem fwS_yes {w : Wd} {b : Nat} {i : Int} {n : Nat} (h : w (b + 6) i ≤ w b 0 ∧ w (b + 7) i = 0) : fwS (up (up w (b + 7) i 1) b 9 (w b 9 + 1)) b (i + 1) n = fwS w b i (n + 1) := by
  have g : ∀ (k : Nat) (j : Int), (k ≠ b + 7 ∨ j ≠ i) → (k ≠ b ∨ j ≠ 9) → up (up w (b + 7) i 1) b 9 (w b 9 + 1) k j = w k j := by
    intro k j h1 h2
    rw [up_ne h2, up_ne h1]
  generalize hu : up (up w (b + 7) i 1) b 9 (w b 9 + 1) = u at g
  have u9 : u b 9 = w b 9 + 1 := by rw [← hu, up_eq]
  have u7 : u (b + 7) i = 1 := by rw [← hu, up_ne (Or.inl (by omega)), up_eq]
  have hc : fcS u b n (i + 1) = fcS w b n (i + 1) := by
    apply fcS_cong
    · exact g _ _ (Or.inl (by omega)) (Or.inr (by omega))
    · intro j hj
      exact ⟨g _ _ (Or.inl (by omega)) (Or.inl (by omega)), g _ _ (Or.inr (by omega)) (Or.inl (by omega))⟩
  have g0 : u b 0 = w b 0 := g _ _ (Or.inl (by omega)) (Or.inr (by omega))
  have g6 : ∀ j : Int, u (b + 6) j = w (b + 6) j := fun j => g _ _ (Or.inl (by omega)) (Or.inl (by omega))
  have hs : fcS w b (n + 1) i = 1 + fcS w b n (i + 1) := by rw [fcS, if_pos h]
  funext k j
  unfold fwS
  rw [hc, hs, u9]
  by_cases hd : fcD u b (i + 1) n k j
  · have e2 : fcD w b i (n + 1) k j := by
      obtain ⟨a1, a2, a3, a4⟩ := hd
      have hj : j ≠ i := by omega
      rw [g6, g0] at a3
      rw [g _ _ (Or.inr hj) (Or.inl (by omega))] at a4
      exact ⟨a1, by omega, a3, a4⟩
    rw [if_pos hd, if_pos e2]
  · rw [if_neg hd]
    by_cases e2 : fcD w b i (n + 1) k j
    · have hj : j = i := by
        by_cases hj : j = i
        · exact hj
        · exfalso
          obtain ⟨a1, a2, a3, a4⟩ := e2
          apply hd
          refine ⟨a1, by omega, by rw [g6, g0]; exact a3, ?_⟩
          rw [g _ _ (Or.inr hj) (Or.inl (by omega))]
          exact a4
      have hk := e2.1
      rw [if_pos e2, if_neg (by omega)]
      subst hj
      subst hk
      exact u7
    · rw [if_neg e2]
      by_cases h9 : k = b ∧ j = 9
      · rw [if_pos h9, if_pos h9]
        omega
      · rw [if_neg h9, if_neg h9]
        by_cases h7 : k = b + 7 ∧ j = i
        · exact absurd ⟨h7.1, by omega, by rw [h7.2]; exact h⟩ e2
        · exact g k j (by omega) (by omega)
theorem fl_keep {w : Wd} {b : Nat} {N i z : Int} (hs : ∀ i : Int, 0 ≤ i → i < N → inR (w (b + 6) i) ∧ (w (b + 7) i = 0 ∨ w (b + 7) i = 1)) : ∀ j : Int, 0 ≤ j → j < N → inR (up (up w (b + 7) i 1) b 9 z (b + 6) j) ∧ (up (up w (b + 7) i 1) b 9 z (b + 7) j = 0 ∨ up (up w (b + 7) i 1) b 9 z (b + 7) j = 1) := by
  intro j g0 g1
  have q4 := hs j g0 g1
  rw [up_ne (Or.inl (by omega)), up_ne (Or.inl (by omega)), up_ne (Or.inl (by omega))]
  by_cases hj : j = i
  · subst hj
    rw [up_eq]
    exact ⟨q4.1, Or.inr rfl⟩
  · rw [up_ne (Or.inr hj)]
    exact q4
set_option maxRecDepth 100000 in
set_option maxHeartbeats 4000000 in
theorem l_X1_failDueLoans (G : Gb) (l : Launch) {b : Nat} (hb : IsSt b) {N : Int} (hN : 0 ≤ N ∧ N ≤ 12) {Post : Wd → Prop} : ∀ (n : Nat) (i : Int) (w : Wd), w b 3 = N → inR (w b 0) → 0 ≤ i → i + n = N → (∀ i : Int, 0 ≤ i → i < N → inR (w (b + 6) i) ∧ (w (b + 7) i = 0 ∨ w (b + 7) i = 1)) → Post (fwS w b i n) → V G l mX1_failDueLoans (Qv G Post) 2 [some (.ref (gA G b)), some (.int (iZ i))] [] w := by
  intro n
  induction n with
  | zero =>
    intro i w hw hy h0 h1 hs hp
    refine V_iload_n dX1_failDueLoans_2 rfl ?_
    refine V_aload_n dX1_failDueLoans_3 rfl ?_
    refine V_getI (ci := 1) (j := 3) (ji := 3) dX1_failDueLoans_4 (sSt_0 hb) rfl rfl i_X1_failDueLoans_X1 (by decide) f_X1_failDueLoans_37 rfl ?_
    refine V_icmp_ge (tgt := 55) dX1_failDueLoans_7 (by decide) (by omega) (by omega) (fun h7 => ?_) (fun h7 => ?_)
    · exact V_vret dX1_failDueLoans_55 rfl (by rw [fwS_end] at hp; exact hp)
    · exact absurd h7 (by omega)
  | succ n ih =>
    intro i w hw hy h0 h1 hs hp
    have q1 := hs i h0 (by omega)
    refine V_iload_n dX1_failDueLoans_2 rfl ?_
    refine V_aload_n dX1_failDueLoans_3 rfl ?_
    refine V_getI (ci := 1) (j := 3) (ji := 3) dX1_failDueLoans_4 (sSt_0 hb) rfl rfl i_X1_failDueLoans_X1 (by decide) f_X1_failDueLoans_37 rfl ?_
    refine V_icmp_ge (tgt := 55) dX1_failDueLoans_7 (by decide) (by omega) (by omega) (fun h7 => ?_) (fun h7 => ?_)
    · exact absurd h7 (by omega)
    · refine V_aload_n dX1_failDueLoans_10 rfl ?_
      refine V_getR (ci := 1) (j := 7) dX1_failDueLoans_11 (sSt_0 hb) rfl rfl i_X1_failDueLoans_X1 (by decide) f_X1_failDueLoans_27 ?_
      refine V_iload_n dX1_failDueLoans_14 rfl ?_
      refine V_iald dX1_failDueLoans_15 (sSt_6 hb) (by omega) ?_
      refine V_aload_n dX1_failDueLoans_16 rfl ?_
      refine V_getI (ci := 1) (j := 0) (ji := 0) dX1_failDueLoans_17 (sSt_0 hb) rfl rfl i_X1_failDueLoans_X1 (by decide) f_X1_failDueLoans_33 rfl ?_
      refine V_icmp_gt (tgt := 49) dX1_failDueLoans_20 (by decide) (by omega) (by omega) (fun h20 => ?_) (fun h20 => ?_)
      · refine V_iinc dX1_failDueLoans_49 rfl (by decide) rfl ?_
        refine V_goto (tgt := 2) dX1_failDueLoans_52 (by decide) ?_
        first
          | (refine ih (i + 1) _ hw hy (by omega) (by omega) hs ?_; rw [fwS_no (by omega)]; exact hp)
          | (refine ih (i + 1) _ (by rw [up_ne (Or.inr (by omega)), up_ne (Or.inl (by omega))]; exact hw) (by rw [up_ne (Or.inr (by omega)), up_ne (Or.inl (by omega))]; exact hy) (by omega) (by omega) (fl_keep hs) (by rw [fwS_yes ⟨h20, h29⟩]; exact hp))
      · refine V_aload_n dX1_failDueLoans_23 rfl ?_
        refine V_getR (ci := 1) (j := 8) dX1_failDueLoans_24 (sSt_0 hb) rfl rfl i_X1_failDueLoans_X1 (by decide) f_X1_failDueLoans_30 ?_
        refine V_iload_n dX1_failDueLoans_27 rfl ?_
        refine V_iald dX1_failDueLoans_28 (sSt_7 hb) (by omega) ?_
        refine V_if_ne (tgt := 49) dX1_failDueLoans_29 (by decide) (by omega) (fun h29 => ?_) (fun h29 => ?_)
        · refine V_iinc dX1_failDueLoans_49 rfl (by decide) rfl ?_
          refine V_goto (tgt := 2) dX1_failDueLoans_52 (by decide) ?_
          first
            | (refine ih (i + 1) _ hw hy (by omega) (by omega) hs ?_; rw [fwS_no (by omega)]; exact hp)
            | (refine ih (i + 1) _ (by rw [up_ne (Or.inr (by omega)), up_ne (Or.inl (by omega))]; exact hw) (by rw [up_ne (Or.inr (by omega)), up_ne (Or.inl (by omega))]; exact hy) (by omega) (by omega) (fl_keep hs) (by rw [fwS_yes ⟨h20, h29⟩]; exact hp))
        · refine V_aload_n dX1_failDueLoans_32 rfl ?_
          refine V_getR (ci := 1) (j := 8) dX1_failDueLoans_33 (sSt_0 hb) rfl rfl i_X1_failDueLoans_X1 (by decide) f_X1_failDueLoans_30 ?_
          refine V_iload_n dX1_failDueLoans_36 rfl ?_
          refine V_iconst dX1_failDueLoans_37 ?_
          refine V_iast dX1_failDueLoans_38 (sSt_7 hb) (by omega) ?_
          refine V_aload_n dX1_failDueLoans_39 rfl ?_
          refine V_dup dX1_failDueLoans_40 rfl ?_
          refine V_getIE (ci := 1) (j := 9) (ji := 9) (z := w b 9) dX1_failDueLoans_41 (sSt_0 hb) rfl rfl i_X1_failDueLoans_X1 (by decide) f_X1_failDueLoans_40 rfl (by rw [up_ne (Or.inl (by omega))]) ?_
          refine V_iconst dX1_failDueLoans_44 ?_
          refine V_iadd dX1_failDueLoans_45 ?_
          refine V_putI (ci := 1) (j := 9) (ji := 9) dX1_failDueLoans_46 (sSt_0 hb) rfl rfl i_X1_failDueLoans_X1 tyX1_ok nmX1 (by decide) f_X1_failDueLoans_40 rfl rfl rfl ?_
          refine V_iinc dX1_failDueLoans_49 rfl (by decide) rfl ?_
          refine V_goto (tgt := 2) dX1_failDueLoans_52 (by decide) ?_
          first
            | (refine ih (i + 1) _ hw hy (by omega) (by omega) hs ?_; rw [fwS_no (by omega)]; exact hp)
            | (refine ih (i + 1) _ (by rw [up_ne (Or.inr (by omega)), up_ne (Or.inl (by omega))]; exact hw) (by rw [up_ne (Or.inr (by omega)), up_ne (Or.inl (by omega))]; exact hy) (by omega) (by omega) (fl_keep hs) (by rw [fwS_yes ⟨h20, h29⟩]; exact hp))
set_option maxRecDepth 100000 in
set_option maxHeartbeats 4000000 in
theorem c_X1_failDueLoans (G : Gb) (l : Launch) {w : Wd} {b : Nat} (hb : IsSt b) (hn : 0 ≤ w b 3 ∧ w b 3 ≤ 12) (hy : inR (w b 0)) (hs : ∀ i : Int, 0 ≤ i → i < w b 3 → inR (w (b + 6) i) ∧ (w (b + 7) i = 0 ∨ w (b + 7) i = 1)) : Cv G l yX1_failDueLoans mX1_failDueLoans [.ref (gA G b)] w (fun w' => w' = fwS w b 0 (w b 3).toNat) := by
  refine V_start 1 (by decide) rfl rfl (Nat.le_of_ble_eq_true rfl) ?_
  show V G l mX1_failDueLoans _ 0 [some (.ref (gA G b)), none] [] w
  refine V_iconst dX1_failDueLoans_0 ?_
  refine V_istore_n dX1_failDueLoans_1 (by decide) rfl ?_
  exact l_X1_failDueLoans G l hb hn (w b 3).toNat 0 w rfl hy (by omega) (by omega) hs rfl

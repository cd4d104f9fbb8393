set_option maxRecDepth 100000 in
set_option maxHeartbeats 4000000 in
theorem c_X4_erase (G : Gb) (l : Launch) (w : Wd) : Ci G l yX4_erase mX4_erase [.ref (gA G 0)] w (fun z w' => z = w 1 1 ∧ w' = up w 1 1 0) := by
  refine V_start 1 (by decide) rfl rfl (by decide) ?_
  show V G l mX4_erase _ 0 [some (.ref (gA G 0)), none] [] w
  refine V_aload_n dX4_erase_0 rfl ?_
  refine V_getR (ci := 4) (j := 0) dX4_erase_1 s_0 rfl rfl i_X4_erase_X4 (by decide) f_X4_erase_10 ?_
  refine V_getI (ci := 2) (j := 1) (ji := 1) dX4_erase_4 s_1 rfl rfl i_X4_erase_X2 (by decide) f_X4_erase_48 rfl ?_
  refine V_istore_n dX4_erase_7 (by decide) rfl ?_
  refine V_aload_n dX4_erase_8 rfl ?_
  refine V_getR (ci := 4) (j := 0) dX4_erase_9 s_0 rfl rfl i_X4_erase_X4 (by decide) f_X4_erase_10 ?_
  refine V_iconst dX4_erase_12 ?_
  refine V_putI (ci := 2) (j := 1) (ji := 1) dX4_erase_13 s_1 rfl rfl i_X4_erase_X2 tyX2_ok nmX2 (by decide) f_X4_erase_48 rfl rfl rfl ?_
  refine V_iload_n dX4_erase_16 rfl ?_
  exact V_iret dX4_erase_17 rfl ⟨rfl, rfl⟩
/-- what is owed to a tree among the loans from i on -/
def owS (w : Wd) (b : Nat) (t : Int) : Nat → Int → Int
  | 0, _ => 0
  | n + 1, i => (if w (b + 3) i = t then w (b + 5) i else 0) + owS w b t n (i + 1)
set_option maxRecDepth 100000 in
set_option maxHeartbeats 4000000 in
theorem l_X1_owedTo (G : Gb) (l : Launch) {w : Wd} {b : Nat} (hb : IsSt b) {t : Int} (ht : inR t) (hn : 0 ≤ w b 3 ∧ w b 3 ≤ 12) (hl : ∀ i : Int, 0 ≤ i → i < w b 3 → inR (w (b + 3) i)) :
    ∀ (n : Nat) (s i : Int), 0 ≤ i → i + n = w b 3 → V G l mX1_owedTo (Qi G (fun z w' => z = s + owS w b t n i ∧ w' = w)) 4 [some (.ref (gA G b)), some (.int (iZ t)), some (.int (iZ s)), some (.int (iZ i))] [] w := by
  intro n
  induction n with
  | zero =>
    intro s i h0 h1
    refine V_iload_n dX1_owedTo_4 rfl ?_
    refine V_aload_n dX1_owedTo_5 rfl ?_
    refine V_getI (ci := 1) (j := 3) (ji := 3) dX1_owedTo_6 (sSt_0 hb) rfl rfl i_X1_owedTo_X1 (by decide) f_X1_owedTo_37 rfl ?_
    refine V_icmp_ge (tgt := 37) dX1_owedTo_9 (by decide) (by omega) (by omega) (fun h9 => ?_) (fun h9 => ?_)
    · refine V_iload_n dX1_owedTo_37 rfl ?_
      exact V_iret dX1_owedTo_38 rfl ⟨by simp [owS], rfl⟩
    · exact absurd h9 (by omega)
  | succ n ih =>
    intro s i h0 h1
    refine V_iload_n dX1_owedTo_4 rfl ?_
    refine V_aload_n dX1_owedTo_5 rfl ?_
    refine V_getI (ci := 1) (j := 3) (ji := 3) dX1_owedTo_6 (sSt_0 hb) rfl rfl i_X1_owedTo_X1 (by decide) f_X1_owedTo_37 rfl ?_
    refine V_icmp_ge (tgt := 37) dX1_owedTo_9 (by decide) (by omega) (by omega) (fun h9 => ?_) (fun h9 => ?_)
    · exact absurd h9 (by omega)
    · refine V_aload_n dX1_owedTo_12 rfl ?_
      refine V_getR (ci := 1) (j := 4) dX1_owedTo_13 (sSt_0 hb) rfl rfl i_X1_owedTo_X1 (by decide) f_X1_owedTo_18 ?_
      refine V_iload_n dX1_owedTo_16 rfl ?_
      refine V_iald dX1_owedTo_17 (sSt_3 hb) (by omega) ?_
      refine V_iload_n dX1_owedTo_18 rfl ?_
      have h2 := hl i h0 (by omega)
      refine V_icmp_ne (tgt := 31) dX1_owedTo_19 (by decide) (by omega) (by omega) (fun h19 => ?_) (fun h19 => ?_)
      · refine V_iinc dX1_owedTo_31 rfl (by decide) rfl ?_
        refine V_goto (tgt := 4) dX1_owedTo_34 (by decide) ?_
        first
          | (have h3 := ih (s + w (b + 5) i) (i + 1) (by omega) (by omega); rw [show s + owS w b t (n + 1) i = s + w (b + 5) i + owS w b t n (i + 1) by simp only [owS]; rw [if_pos h19]; omega]; exact h3)
          | (have h3 := ih s (i + 1) (by omega) (by omega); rw [show s + owS w b t (n + 1) i = s + owS w b t n (i + 1) by simp only [owS]; rw [if_neg h19]; omega]; exact h3)
      · refine V_iload_n dX1_owedTo_22 rfl ?_
        refine V_aload_n dX1_owedTo_23 rfl ?_
        refine V_getR (ci := 1) (j := 6) dX1_owedTo_24 (sSt_0 hb) rfl rfl i_X1_owedTo_X1 (by decide) f_X1_owedTo_24 ?_
        refine V_iload_n dX1_owedTo_27 rfl ?_
        refine V_iald dX1_owedTo_28 (sSt_5 hb) (by omega) ?_
        refine V_iadd dX1_owedTo_29 ?_
        refine V_istore_n dX1_owedTo_30 (by decide) rfl ?_
        refine V_iinc dX1_owedTo_31 rfl (by decide) rfl ?_
        refine V_goto (tgt := 4) dX1_owedTo_34 (by decide) ?_
        first
          | (have h3 := ih (s + w (b + 5) i) (i + 1) (by omega) (by omega); rw [show s + owS w b t (n + 1) i = s + w (b + 5) i + owS w b t n (i + 1) by simp only [owS]; rw [if_pos h19]; omega]; exact h3)
          | (have h3 := ih s (i + 1) (by omega) (by omega); rw [show s + owS w b t (n + 1) i = s + owS w b t n (i + 1) by simp only [owS]; rw [if_neg h19]; omega]; exact h3)
set_option maxRecDepth 100000 in
set_option maxHeartbeats 4000000 in
theorem c_X1_owedTo (G : Gb) (l : Launch) {w : Wd} {b : Nat} (hb : IsSt b) {t : Int} (ht : inR t) (hn : 0 ≤ w b 3 ∧ w b 3 ≤ 12) (hl : ∀ i : Int, 0 ≤ i → i < w b 3 → inR (w (b + 3) i)) : Ci G l yX1_owedTo mX1_owedTo [.ref (gA G b), .int (iZ t)] w (fun z w' => z = owS w b t (w b 3).toNat 0 ∧ w' = w) := by
  refine V_start 2 (by decide) rfl rfl (by decide) ?_
  show V G l mX1_owedTo _ 0 [some (.ref (gA G b)), some (.int (iZ t)), none, none] [] w
  refine V_iconst dX1_owedTo_0 ?_
  refine V_istore_n dX1_owedTo_1 (by decide) rfl ?_
  refine V_iconst dX1_owedTo_2 ?_
  refine V_istore_n dX1_owedTo_3 (by decide) rfl ?_
  have h := l_X1_owedTo G l hb ht hn hl (w b 3).toNat 0 0 (by omega) (by omega)
  simp only [Int.zero_add] at h
  exact h

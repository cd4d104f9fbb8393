/-! ===== 59 the reference: hut is safe, and it touches nothing but its own ===== -/
def byV (w : Wd) (i n le : Int) : Int := if n ≤ le ∧ w 81 (100 * i + n) ≠ -1 ∧ w 82 (100 * (i + 1) + le - n) ≠ -1 then w 81 (100 * i + n) + w 82 (100 * (i + 1) + le - n) else -1
set_option maxRecDepth 100000 in
set_option maxHeartbeats 4000000 in
theorem c_X5_by (G : Gb) (l : Launch) {w : Wd} {i n le : Int} (hi : 0 ≤ i ∧ i < 6) (hn : 0 ≤ n ∧ n ≤ 1000) (hl : 0 ≤ le ∧ le < 100) (hp : n ≤ le → -1 ≤ w 81 (100 * i + n) ∧ w 81 (100 * i + n) ≤ 1000000) (hq : n ≤ le → -1 ≤ w 82 (100 * (i + 1) + le - n) ∧ w 82 (100 * (i + 1) + le - n) ≤ 6000000) : Ci G l yX5_by mX5_by [.ref (gA G 71), .int (iZ i), .int (iZ n), .int (iZ le)] w (fun z w' => z = byV w i n le ∧ w = w') := by
  refine V_start 2 (by decide) rfl rfl (Nat.le_of_ble_eq_true rfl) ?_
  show V G l mX5_by _ 0 [some (.ref (gA G 71)), some (.int (iZ i)), some (.int (iZ n)), some (.int (iZ le)), none, none] [] w
  refine V_iload_n dX5_by_0 rfl ?_
  refine V_iload_n dX5_by_1 rfl ?_
  refine V_icmp_gt (tgt := 19) dX5_by_2 (by decide) (by omega) (by omega) (fun h2 => ?_) (fun h2 => ?_)
  · refine V_iconst dX5_by_19 ?_
    refine V_istore dX5_by_20 (by decide) rfl ?_
    refine V_iload dX5_by_22 rfl ?_
    refine V_iconst dX5_by_24 ?_
    refine V_icmp_ne (tgt := 32) dX5_by_25 (by decide) (by omega) (by omega) (fun h25 => ?_) (fun h25 => ?_)
    · exact absurd rfl h25
    · refine V_iconst dX5_by_28 ?_
      refine V_goto (tgt := 47) dX5_by_29 (by decide) ?_
      refine V_istore dX5_by_47 (by decide) rfl ?_
      refine V_iload dX5_by_49 rfl ?_
      refine V_iconst dX5_by_51 ?_
      refine V_icmp_ne (tgt := 59) dX5_by_52 (by decide) (by omega) (by omega) (fun h52 => ?_) (fun h52 => ?_)
      · exact absurd rfl h52
      · refine V_iconst dX5_by_55 ?_
        refine V_goto (tgt := 64) dX5_by_56 (by decide) ?_
        exact V_iret dX5_by_64 rfl ⟨by unfold byV; rw [if_neg (by omega)], rfl⟩
  · have hp1 := hp (by omega)
    have hq1 := hq (by omega)
    refine V_aload_n dX5_by_5 rfl ?_
    refine V_getR (ci := 5) (j := 19) dX5_by_6 s_71 rfl rfl i_X5_by_X5 (by decide) f_X5_by_42 ?_
    refine V_bipush dX5_by_9 rfl ?_
    refine V_iload_n dX5_by_11 rfl ?_
    refine V_imul dX5_by_12 ?_
    refine V_iload_n dX5_by_13 rfl ?_
    refine V_iadd dX5_by_14 ?_
    refine V_iald dX5_by_15 s_81 (by omega) ?_
    refine V_goto (tgt := 20) dX5_by_16 (by decide) ?_
    refine V_istore dX5_by_20 (by decide) rfl ?_
    refine V_iload dX5_by_22 rfl ?_
    refine V_iconst dX5_by_24 ?_
    refine V_icmp_ne (tgt := 32) dX5_by_25 (by decide) (by omega) (by omega) (fun h25 => ?_) (fun h25 => ?_)
    · refine V_aload_n dX5_by_32 rfl ?_
      refine V_getR (ci := 5) (j := 20) dX5_by_33 s_71 rfl rfl i_X5_by_X5 (by decide) f_X5_by_45 ?_
      refine V_bipush dX5_by_36 rfl ?_
      refine V_iload_n dX5_by_38 rfl ?_
      refine V_iconst dX5_by_39 ?_
      refine V_iadd dX5_by_40 ?_
      refine V_imul dX5_by_41 ?_
      refine V_iload_n dX5_by_42 rfl ?_
      refine V_iadd dX5_by_43 ?_
      refine V_iload_n dX5_by_44 rfl ?_
      refine V_isub dX5_by_45 ?_
      refine V_iald dX5_by_46 s_82 (by omega) ?_
      refine V_istore dX5_by_47 (by decide) rfl ?_
      refine V_iload dX5_by_49 rfl ?_
      refine V_iconst dX5_by_51 ?_
      refine V_icmp_ne (tgt := 59) dX5_by_52 (by decide) (by omega) (by omega) (fun h52 => ?_) (fun h52 => ?_)
      · refine V_iload dX5_by_59 rfl ?_
        refine V_iload dX5_by_61 rfl ?_
        refine V_iadd dX5_by_63 ?_
        exact V_iret dX5_by_64 rfl ⟨by unfold byV; first | (rw [if_neg (by omega)]) | (rw [if_pos (by omega)]), rfl⟩
      · refine V_iconst dX5_by_55 ?_
        refine V_goto (tgt := 64) dX5_by_56 (by decide) ?_
        exact V_iret dX5_by_64 rfl ⟨by unfold byV; first | (rw [if_neg (by omega)]) | (rw [if_pos (by omega)]), rfl⟩
    · refine V_iconst dX5_by_28 ?_
      refine V_goto (tgt := 47) dX5_by_29 (by decide) ?_
      refine V_istore dX5_by_47 (by decide) rfl ?_
      refine V_iload dX5_by_49 rfl ?_
      refine V_iconst dX5_by_51 ?_
      refine V_icmp_ne (tgt := 59) dX5_by_52 (by decide) (by omega) (by omega) (fun h52 => ?_) (fun h52 => ?_)
      · exact absurd rfl h52
      · refine V_iconst dX5_by_55 ?_
        refine V_goto (tgt := 64) dX5_by_56 (by decide) ?_
        exact V_iret dX5_by_64 rfl ⟨by unfold byV; rw [if_neg (by omega)], rfl⟩
def prI (w : Wd) (m : Int) : Prop := ∀ q : Int, 0 ≤ q → q < m → -1 ≤ w 81 q ∧ w 81 q ≤ 1000000
def fr81 (w w' : Wd) : Prop := ∀ (k : Nat) (j : Int), k ≠ 81 → w' k j = w k j
def fr82 (w w' : Wd) : Prop := ∀ (k : Nat) (j : Int), k ≠ 82 → w' k j = w k j
theorem prI_up {w : Wd} {m z : Int} (h : prI w m) (hz : -1 ≤ z ∧ z ≤ 1000000) : prI (up w 81 m z) (m + 1) := by
  intro q q0 q1
  by_cases e : q = m
  · subst e; rw [up_eq]; exact hz
  · rw [up_ne (Or.inr e)]; exact h q q0 (by omega)
set_option maxRecDepth 100000 in
set_option maxHeartbeats 4000000 in
theorem l1_X5_layPrices (G : Gb) (l : Launch) {w0 : Wd} {t i mo : Int} (ht : 0 ≤ t ∧ t ≤ 30) (hi : 0 ≤ i ∧ i < 6) (hm : 0 ≤ mo ∧ mo ≤ 99) (hT : okTm w0) {Qc : Array Value → State → Outcome → State → Prop} : ∀ (m : Nat) (n : Int) (w : Wd), 0 ≤ n → n + m = 100 → fr81 w0 w → prI w (100 * i + n) → (∀ n w', fr81 w0 w' → prI w' (100 * i + 100) → V G l mX5_layPrices Qc 77 [some (.ref (gA G 71)), some (.int (iZ t)), some (.int (iZ i)), some (.int (iZ mo)), some (.int (iZ n))] [] w') → V G l mX5_layPrices Qc 34 [some (.ref (gA G 71)), some (.int (iZ t)), some (.int (iZ i)), some (.int (iZ mo)), some (.int (iZ n))] [] w := by
  have kk := hT.2.2.2.1 i hi.1 hi.2
  intro m
  induction m with
  | zero =>
    intro n w h0 h1 hf hr hp
    refine V_iload dX5_layPrices_34 rfl ?_
    refine V_bipush dX5_layPrices_36 rfl ?_
    refine V_icmp_ge (tgt := 77) dX5_layPrices_38 (by decide) (by omega) (by omega) (fun h38 => ?_) (fun h38 => ?_)
    · exact hp _ _ hf (by rw [show 100 * i + 100 = 100 * i + n by omega]; exact hr)
    · exact absurd h38 (by omega)
  | succ m ih =>
    intro n w h0 h1 hf hr hp
    have e76 : w 76 i = w0 76 i := hf _ _ (by omega)
    have e77 : w 77 i = w0 77 i := hf _ _ (by omega)
    refine V_iload dX5_layPrices_34 rfl ?_
    refine V_bipush dX5_layPrices_36 rfl ?_
    refine V_icmp_ge (tgt := 77) dX5_layPrices_38 (by decide) (by omega) (by omega) (fun h38 => ?_) (fun h38 => ?_)
    · exact absurd h38 (by omega)
    · refine V_aload_n dX5_layPrices_41 rfl ?_
      refine V_getR (ci := 5) (j := 19) dX5_layPrices_42 s_71 rfl rfl i_X5_layPrices_X5 (by decide) f_X5_layPrices_42 ?_
      refine V_bipush dX5_layPrices_45 rfl ?_
      refine V_iload_n dX5_layPrices_47 rfl ?_
      refine V_imul dX5_layPrices_48 ?_
      refine V_iload dX5_layPrices_49 rfl ?_
      refine V_iadd dX5_layPrices_51 ?_
      refine V_iload dX5_layPrices_52 rfl ?_
      refine V_iload_n dX5_layPrices_54 rfl ?_
      refine V_icmp_gt (tgt := 69) dX5_layPrices_55 (by decide) (by omega) (by omega) (fun h55 => ?_) (fun h55 => ?_)
      · refine V_iconst dX5_layPrices_69 ?_
        refine V_iast dX5_layPrices_70 s_81 (by show 0 ≤ _ ∧ _ < (600 : Int); omega) ?_
        refine V_iinc dX5_layPrices_71 rfl (by decide) rfl ?_
        refine V_goto (tgt := 34) dX5_layPrices_74 (by decide) ?_
        first
          | exact ih (n + 1) _ (by omega) (by omega) (fun k j q => by rw [up_ne (Or.inl q)]; exact hf k j q) (by rw [← Int.add_assoc]; exact prI_up hr rg) hp
          | exact ih (n + 1) _ (by omega) (by omega) (fun k j q => by rw [up_ne (Or.inl q)]; exact hf k j q) (by rw [← Int.add_assoc]; exact prI_up hr (by omega)) hp
      · refine V_aload_n dX5_layPrices_58 rfl ?_
        refine V_iload_n dX5_layPrices_59 rfl ?_
        refine V_iload dX5_layPrices_60 rfl ?_
        refine V_iload_n dX5_layPrices_62 rfl ?_
        refine V_iV3 dX5_layPrices_63 o_X5_layPrices_188 s_71 rfl (Nat.le_of_ble_eq_true rfl) (c_X5_owedFor G l (t := i) (n := n) (q := t) hi (by omega) (by omega) (by omega) ht) ?_
        rintro y _ ⟨hy, rfl⟩
        have rg := grI_bd (k := w 76 i) (n := n) (r := w 77 i) (by omega) (by omega) t.toNat (100 * n) (by omega)
        rw [← hy] at rg
        have rg : -1 ≤ y ∧ y ≤ 1000000 := by omega
        refine V_goto (tgt := 70) dX5_layPrices_66 (by decide) ?_
        refine V_iast dX5_layPrices_70 s_81 (by show 0 ≤ _ ∧ _ < (600 : Int); omega) ?_
        refine V_iinc dX5_layPrices_71 rfl (by decide) rfl ?_
        refine V_goto (tgt := 34) dX5_layPrices_74 (by decide) ?_
        first
          | exact ih (n + 1) _ (by omega) (by omega) (fun k j q => by rw [up_ne (Or.inl q)]; exact hf k j q) (by rw [← Int.add_assoc]; exact prI_up hr rg) hp
          | exact ih (n + 1) _ (by omega) (by omega) (fun k j q => by rw [up_ne (Or.inl q)]; exact hf k j q) (by rw [← Int.add_assoc]; exact prI_up hr (by omega)) hp
set_option maxRecDepth 100000 in
set_option maxHeartbeats 4000000 in
theorem l2_X5_layPrices (G : Gb) (l : Launch) {w0 : Wd} {c : Int} {σ : SG} (h : SM c σ w0) {t : Int} (ht : 0 ≤ t ∧ t ≤ 30) {Post : Wd → Prop} : ∀ (m : Nat) (i : Int) (w : Wd) (o3 o4 : Option Value), 0 ≤ i → i + m = w0 71 10 → fr81 w0 w → prI w (100 * i) → (∀ w', fr81 w0 w' → prI w' (100 * w0 71 10) → Post w') → V G l mX5_layPrices (Qv G Post) 2 [some (.ref (gA G 71)), some (.int (iZ t)), some (.int (iZ i)), o3, o4] [] w := by
  have kt := h.2.1.2.1.1
  intro m
  induction m with
  | zero =>
    intro i w o3 o4 h0 h1 hf hr hp
    have e10 : w 71 10 = w0 71 10 := hf _ _ (by omega)
    refine V_iload_n dX5_layPrices_2 rfl ?_
    refine V_aload_n dX5_layPrices_3 rfl ?_
    refine V_getI (ci := 5) (j := 10) (ji := 10) dX5_layPrices_4 s_71 rfl rfl i_X5_layPrices_X5 (by decide) f_X5_layPrices_115 rfl ?_
    refine V_icmp_ge (tgt := 83) dX5_layPrices_7 (by decide) (by omega) (by omega) (fun h7 => ?_) (fun h7 => ?_)
    · exact V_vret dX5_layPrices_83 rfl (hp _ hf (by rw [show w0 71 10 = i by omega]; exact hr))
    · exact absurd h7 (by omega)
  | succ m ih =>
    intro i w o3 o4 h0 h1 hf hr hp
    have e10 : w 71 10 = w0 71 10 := hf _ _ (by omega)
    have hs : SM c σ w := h.keep (by omega) (fun k j q => hf k j (by omega))
    have kh := hs.has0 h0 (by omega : i < 6)
    refine V_iload_n dX5_layPrices_2 rfl ?_
    refine V_aload_n dX5_layPrices_3 rfl ?_
    refine V_getI (ci := 5) (j := 10) (ji := 10) dX5_layPrices_4 s_71 rfl rfl i_X5_layPrices_X5 (by decide) f_X5_layPrices_115 rfl ?_
    refine V_icmp_ge (tgt := 83) dX5_layPrices_7 (by decide) (by omega) (by omega) (fun h7 => ?_) (fun h7 => ?_)
    · exact absurd h7 (by omega)
    · refine V_aload_n dX5_layPrices_10 rfl ?_
      refine V_iload_n dX5_layPrices_11 rfl ?_
      refine V_iV1 dX5_layPrices_12 o_X5_layPrices_171 s_71 rfl (Nat.le_of_ble_eq_true rfl) (c_X5_lends G l ⟨h0, by omega⟩ hs.2.2.1.2.1 hs.2.1.2.1) ?_
      rintro z _ ⟨hz, rfl⟩
      have rz : z = 0 ∨ z = 1 := by rw [hz]; split <;> simp
      refine V_if_eq (tgt := 29) dX5_layPrices_15 (by decide) (by omega) (fun h15 => ?_) (fun h15 => ?_)
      · refine V_iconst dX5_layPrices_29 ?_
        refine V_istore_n dX5_layPrices_30 (by decide) rfl ?_
        refine V_iconst dX5_layPrices_31 ?_
        refine V_istore dX5_layPrices_32 (by decide) rfl ?_
        refine l1_X5_layPrices G l (w0 := w0) ht ⟨h0, by omega⟩ (by omega) h.2.1.2.1 100 0 w (by omega) (by omega) hf (by rw [Int.add_zero]; exact hr) (fun n9 w9 f9 r9 => ?_)
        refine V_iinc dX5_layPrices_77 rfl (by decide) rfl ?_
        refine V_goto (tgt := 2) dX5_layPrices_80 (by decide) ?_
        exact ih (i + 1) w9 _ _ (by omega) (by omega) f9 (by rw [show 100 * (i + 1) = 100 * i + 100 by omega]; exact r9) hp
      · refine V_aload_n dX5_layPrices_18 rfl ?_
        refine V_getR (ci := 5) (j := 0) dX5_layPrices_19 s_71 rfl rfl i_X5_layPrices_X5 (by decide) f_X5_layPrices_7 ?_
        refine V_iconst dX5_layPrices_22 ?_
        refine V_iload_n dX5_layPrices_23 rfl ?_
        refine V_iadd dX5_layPrices_24 ?_
        refine V_iald dX5_layPrices_25 s_72 (by omega) ?_
        refine V_goto (tgt := 30) dX5_layPrices_26 (by decide) ?_
        refine V_istore_n dX5_layPrices_30 (by decide) rfl ?_
        refine V_iconst dX5_layPrices_31 ?_
        refine V_istore dX5_layPrices_32 (by decide) rfl ?_
        refine l1_X5_layPrices G l (w0 := w0) ht ⟨h0, by omega⟩ (by omega) h.2.1.2.1 100 0 w (by omega) (by omega) hf (by rw [Int.add_zero]; exact hr) (fun n9 w9 f9 r9 => ?_)
        refine V_iinc dX5_layPrices_77 rfl (by decide) rfl ?_
        refine V_goto (tgt := 2) dX5_layPrices_80 (by decide) ?_
        exact ih (i + 1) w9 _ _ (by omega) (by omega) f9 (by rw [show 100 * (i + 1) = 100 * i + 100 by omega]; exact r9) hp
set_option maxRecDepth 100000 in
set_option maxHeartbeats 4000000 in
theorem c_X5_layPrices (G : Gb) (l : Launch) {w : Wd} {c : Int} {σ : SG} (h : SM c σ w) {t : Int} (ht : 0 ≤ t ∧ t ≤ 30) : Cv G l yX5_layPrices mX5_layPrices [.ref (gA G 71), .int (iZ t)] w (fun w' => fr81 w w' ∧ prI w' (100 * w 71 10)) := by
  refine V_start 3 (by decide) rfl rfl (Nat.le_of_ble_eq_true rfl) ?_
  show V G l mX5_layPrices _ 0 [some (.ref (gA G 71)), some (.int (iZ t)), none, none, none] [] w
  have kt := h.2.1.2.1.1
  refine V_iconst dX5_layPrices_0 ?_
  refine V_istore_n dX5_layPrices_1 (by decide) rfl ?_
  exact l2_X5_layPrices G l h ht (w 71 10).toNat 0 w none none (by omega) (by omega) (fun _ _ _ => rfl) (fun q q0 q1 => by omega) (fun w' f r => ⟨f, r⟩)
def LEp (w : Wd) (i le : Int) : Prop := (-1 ≤ w 82 (100 * i + le) ∧ w 82 (100 * i + le) ≤ 1000000 * (6 - i)) ∧ ∃ n : Int, 0 ≤ n ∧ n ≤ le + 1 ∧ byV w i n le = w 82 (100 * i + le)
def RI (w : Wd) (N i0 : Int) : Prop := (∀ le : Int, 0 ≤ le → le < 100 → -1 ≤ w 82 (100 * N + le) ∧ w 82 (100 * N + le) ≤ 0) ∧ ∀ i le : Int, i0 ≤ i → i < N → 0 ≤ le → le < 100 → LEp w i le
theorem RI.bd {w : Wd} {N i0 i le : Int} (h : RI w N i0) (hN : N ≤ 6) (h0 : i0 ≤ i) (h1 : i ≤ N) (l0 : 0 ≤ le) (l1 : le < 100) : -1 ≤ w 82 (100 * i + le) ∧ w 82 (100 * i + le) ≤ 1000000 * (6 - i) := by
  by_cases e : i = N
  · subst e
    have := h.1 le l0 l1
    omega
  · exact (h.2 i le h0 (by omega) l0 l1).1
theorem byV_up {w : Wd} {i n le j z : Int} (hj : j < 100 * (i + 1)) : byV (up w 82 j z) i n le = byV w i n le := by
  unfold byV
  by_cases h : n ≤ le
  · rw [up_ne (by omega), up_ne (by omega)]
  · rw [if_neg (by omega), if_neg (by omega)]
theorem LEp_up {w : Wd} {i le j z : Int} (h : LEp w i le) (hj : j < 100 * (i + 1)) (hne : j ≠ 100 * i + le) : LEp (up w 82 j z) i le := by
  obtain ⟨h1, n, h2, h3, h4⟩ := h
  have e : up w 82 j z 82 (100 * i + le) = w 82 (100 * i + le) := up_ne (by omega)
  exact ⟨by rw [e]; exact h1, n, h2, h3, by rw [e, byV_up hj]; exact h4⟩
theorem RI_up {w : Wd} {N i j z : Int} (h : RI w N (i + 1)) (hi : i < N) (hj : j < 100 * i + 100) : RI (up w 82 j z) N (i + 1) := by
  refine ⟨fun le l0 l1 => ?_, fun i' le q0 q1 l0 l1 => LEp_up (h.2 i' le q0 q1 l0 l1) (by omega) (by omega)⟩
  rw [up_ne (by omega)]
  exact h.1 le l0 l1
theorem byV_bd {w : Wd} {i n le : Int} (hp : n ≤ le → -1 ≤ w 81 (100 * i + n) ∧ w 81 (100 * i + n) ≤ 1000000) (hq : n ≤ le → -1 ≤ w 82 (100 * (i + 1) + le - n) ∧ w 82 (100 * (i + 1) + le - n) ≤ 1000000 * (5 - i)) (h5 : i ≤ 5) : -1 ≤ byV w i n le ∧ byV w i n le ≤ 1000000 * (6 - i) := by
  unfold byV
  split
  · rename_i q
    have a := hp q.1
    have b := hq q.1
    omega
  · omega
/-- the least so far -/
def lsO (w : Wd) (i le v : Int) : Prop := (-1 ≤ v ∧ v ≤ 1000000 * (6 - i)) ∧ (v = -1 ∨ ∃ n : Int, 0 ≤ n ∧ n ≤ le ∧ byV w i n le = v)
theorem lsO_LE {w : Wd} {i le v : Int} (l0 : 0 ≤ le) (l1 : le < 100) (h : lsO w i le v) : LEp (up w 82 (100 * i + le) v) i le := by
  obtain ⟨h1, h2⟩ := h
  refine ⟨by rw [up_eq]; exact h1, ?_⟩
  rcases h2 with h2 | ⟨n, n0, n1, n2⟩
  · refine ⟨le + 1, by omega, by omega, ?_⟩
    rw [up_eq, h2]
    unfold byV
    rw [if_neg (by omega)]
  · exact ⟨n, n0, by omega, by rw [up_eq, byV_up (by omega)]; exact n2⟩
set_option maxRecDepth 100000 in
set_option maxHeartbeats 4000000 in
theorem l1_X5_layLeasts (G : Gb) (l : Launch) {w : Wd} {N i le : Int} (hpr : prI w (100 * N)) (hN : 0 ≤ N ∧ N ≤ 6) (hi : 0 ≤ i ∧ i < N) (hR : RI w N (i + 1)) (hl : 0 ≤ le ∧ le < 100) {Qc : Array Value → State → Outcome → State → Prop} : ∀ (m : Nat) (n v : Int) (o5 : Option Value), 0 ≤ n → n + m = le + 1 → lsO w i le v → (∀ v n o5, lsO w i le v → V G l mX5_layLeasts Qc 107 [some (.ref (gA G 71)), some (.int (iZ i)), some (.int (iZ le)), some (.int (iZ v)), some (.int (iZ n)), o5] [] w) → V G l mX5_layLeasts Qc 61 [some (.ref (gA G 71)), some (.int (iZ i)), some (.int (iZ le)), some (.int (iZ v)), some (.int (iZ n)), o5] [] w := by
  intro m
  induction m with
  | zero =>
    intro n v o5 h0 h1 hv hp
    refine V_iload dX5_layLeasts_61 rfl ?_
    refine V_iload_n dX5_layLeasts_63 rfl ?_
    refine V_icmp_gt (tgt := 107) dX5_layLeasts_64 (by decide) (by omega) (by omega) (fun h64 => ?_) (fun h64 => ?_)
    · exact hp _ _ _ hv
    · exact absurd h64 (by omega)
  | succ m ih =>
    intro n v o5 h0 h1 hv hp
    have rv := hv.1
    have hpp : n ≤ le → -1 ≤ w 81 (100 * i + n) ∧ w 81 (100 * i + n) ≤ 1000000 := fun q => hpr _ (by omega) (by omega)
    have hqq : n ≤ le → -1 ≤ w 82 (100 * (i + 1) + le - n) ∧ w 82 (100 * (i + 1) + le - n) ≤ 1000000 * (5 - i) := fun q => by have b9 := hR.bd (i := i + 1) (le := le - n) hN.2 (by omega) (by omega) (by omega) (by omega); rw [show 100 * (i + 1) + le - n = 100 * (i + 1) + (le - n) by omega]; omega
    have rg := byV_bd hpp hqq (by omega)
    refine V_iload dX5_layLeasts_61 rfl ?_
    refine V_iload_n dX5_layLeasts_63 rfl ?_
    refine V_icmp_gt (tgt := 107) dX5_layLeasts_64 (by decide) (by omega) (by omega) (fun h64 => ?_) (fun h64 => ?_)
    · exact absurd h64 (by omega)
    · refine V_aload_n dX5_layLeasts_67 rfl ?_
      refine V_iload_n dX5_layLeasts_68 rfl ?_
      refine V_iload dX5_layLeasts_69 rfl ?_
      refine V_iload_n dX5_layLeasts_71 rfl ?_
      refine V_iV3 dX5_layLeasts_72 o_X5_layLeasts_191 s_71 rfl (Nat.le_of_ble_eq_true rfl) (c_X5_by G l ⟨hi.1, by omega⟩ (by omega) hl hpp (fun q => by have := hqq q; omega)) ?_
      rintro y _ ⟨hy, rfl⟩
      rw [← hy] at rg
      refine V_istore dX5_layLeasts_75 (by decide) rfl ?_
      refine V_iload dX5_layLeasts_77 rfl ?_
      refine V_iconst dX5_layLeasts_79 ?_
      refine V_icmp_eq (tgt := 99) dX5_layLeasts_80 (by decide) (by omega) (by omega) (fun h80 => ?_) (fun h80 => ?_)
      · refine V_iload_n dX5_layLeasts_99 rfl ?_
        refine V_istore_n dX5_layLeasts_100 (by decide) rfl ?_
        refine V_iinc dX5_layLeasts_101 rfl (by decide) rfl ?_
        refine V_goto (tgt := 61) dX5_layLeasts_104 (by decide) ?_
        first
          | exact ih (n + 1) v _ (by omega) (by omega) hv hp
          | exact ih (n + 1) y _ (by omega) (by omega) ⟨rg, Or.inr ⟨n, by omega, by omega, hy.symm⟩⟩ hp
      · refine V_iload_n dX5_layLeasts_83 rfl ?_
        refine V_iconst dX5_layLeasts_84 ?_
        refine V_icmp_eq (tgt := 94) dX5_layLeasts_85 (by decide) (by omega) (by omega) (fun h85 => ?_) (fun h85 => ?_)
        · refine V_iload dX5_layLeasts_94 rfl ?_
          refine V_goto (tgt := 100) dX5_layLeasts_96 (by decide) ?_
          refine V_istore_n dX5_layLeasts_100 (by decide) rfl ?_
          refine V_iinc dX5_layLeasts_101 rfl (by decide) rfl ?_
          refine V_goto (tgt := 61) dX5_layLeasts_104 (by decide) ?_
          first
            | exact ih (n + 1) v _ (by omega) (by omega) hv hp
            | exact ih (n + 1) y _ (by omega) (by omega) ⟨rg, Or.inr ⟨n, by omega, by omega, hy.symm⟩⟩ hp
        · refine V_iload dX5_layLeasts_88 rfl ?_
          refine V_iload_n dX5_layLeasts_90 rfl ?_
          refine V_icmp_ge (tgt := 99) dX5_layLeasts_91 (by decide) (by omega) (by omega) (fun h91 => ?_) (fun h91 => ?_)
          · refine V_iload_n dX5_layLeasts_99 rfl ?_
            refine V_istore_n dX5_layLeasts_100 (by decide) rfl ?_
            refine V_iinc dX5_layLeasts_101 rfl (by decide) rfl ?_
            refine V_goto (tgt := 61) dX5_layLeasts_104 (by decide) ?_
            first
              | exact ih (n + 1) v _ (by omega) (by omega) hv hp
              | exact ih (n + 1) y _ (by omega) (by omega) ⟨rg, Or.inr ⟨n, by omega, by omega, hy.symm⟩⟩ hp
          · refine V_iload dX5_layLeasts_94 rfl ?_
            refine V_goto (tgt := 100) dX5_layLeasts_96 (by decide) ?_
            refine V_istore_n dX5_layLeasts_100 (by decide) rfl ?_
            refine V_iinc dX5_layLeasts_101 rfl (by decide) rfl ?_
            refine V_goto (tgt := 61) dX5_layLeasts_104 (by decide) ?_
            first
              | exact ih (n + 1) v _ (by omega) (by omega) hv hp
              | exact ih (n + 1) y _ (by omega) (by omega) ⟨rg, Or.inr ⟨n, by omega, by omega, hy.symm⟩⟩ hp
set_option maxRecDepth 100000 in
set_option maxHeartbeats 4000000 in
theorem l2_X5_layLeasts (G : Gb) (l : Launch) {w0 : Wd} {N i : Int} (hpr : prI w0 (100 * N)) (hN : 0 ≤ N ∧ N ≤ 6) (hi : 0 ≤ i ∧ i < N) {Qc : Array Value → State → Outcome → State → Prop} : ∀ (m : Nat) (le : Int) (w : Wd) (o3 o4 o5 : Option Value), 0 ≤ le → le + m = 100 → fr82 w0 w → RI w N (i + 1) → (∀ le' : Int, 0 ≤ le' → le' < le → LEp w i le') → (∀ w' le o3 o4 o5, fr82 w0 w' → RI w' N i → V G l mX5_layLeasts Qc 125 [some (.ref (gA G 71)), some (.int (iZ i)), some (.int (iZ le)), o3, o4, o5] [] w') → V G l mX5_layLeasts Qc 50 [some (.ref (gA G 71)), some (.int (iZ i)), some (.int (iZ le)), o3, o4, o5] [] w := by
  intro m
  induction m with
  | zero =>
    intro le w o3 o4 o5 h0 h1 hf hR hL hp
    refine V_iload_n dX5_layLeasts_50 rfl ?_
    refine V_bipush dX5_layLeasts_51 rfl ?_
    refine V_icmp_ge (tgt := 125) dX5_layLeasts_53 (by decide) (by omega) (by omega) (fun h53 => ?_) (fun h53 => ?_)
    · refine hp _ _ _ _ _ hf ⟨hR.1, fun i' le' q0 q1 l0 l1 => ?_⟩
      by_cases e : i' = i
      · subst e; exact hL le' l0 (by omega)
      · exact hR.2 i' le' (by omega) q1 l0 l1
    · exact absurd h53 (by omega)
  | succ m ih =>
    intro le w o3 o4 o5 h0 h1 hf hR hL hp
    refine V_iload_n dX5_layLeasts_50 rfl ?_
    refine V_bipush dX5_layLeasts_51 rfl ?_
    refine V_icmp_ge (tgt := 125) dX5_layLeasts_53 (by decide) (by omega) (by omega) (fun h53 => ?_) (fun h53 => ?_)
    · exact absurd h53 (by omega)
    · refine V_iconst dX5_layLeasts_56 ?_
      refine V_istore_n dX5_layLeasts_57 (by decide) rfl ?_
      refine V_iconst dX5_layLeasts_58 ?_
      refine V_istore dX5_layLeasts_59 (by decide) rfl ?_
      refine l1_X5_layLeasts G l (N := N) (i := i) (le := le) (fun q q0 q1 => by rw [hf _ _ (by omega)]; exact hpr q q0 q1) hN hi hR ⟨h0, by omega⟩ (le + 1).toNat 0 (-1) _ (by omega) (by omega) ⟨by omega, Or.inl rfl⟩ (fun v9 n9 o9 hv => ?_)
      refine V_aload_n dX5_layLeasts_107 rfl ?_
      refine V_getR (ci := 5) (j := 20) dX5_layLeasts_108 s_71 rfl rfl i_X5_layLeasts_X5 (by decide) f_X5_layLeasts_45 ?_
      refine V_bipush dX5_layLeasts_111 rfl ?_
      refine V_iload_n dX5_layLeasts_113 rfl ?_
      refine V_imul dX5_layLeasts_114 ?_
      refine V_iload_n dX5_layLeasts_115 rfl ?_
      refine V_iadd dX5_layLeasts_116 ?_
      refine V_iload_n dX5_layLeasts_117 rfl ?_
      refine V_iast dX5_layLeasts_118 s_82 (by show 0 ≤ _ ∧ _ < (700 : Int); omega) ?_
      refine V_iinc dX5_layLeasts_119 rfl (by decide) rfl ?_
      refine V_goto (tgt := 50) dX5_layLeasts_122 (by decide) ?_
      refine ih (le + 1) _ _ _ _ (by omega) (by omega) (fun k j q => by rw [up_ne (Or.inl q)]; exact hf k j q) (RI_up hR hi.2 (by omega)) (fun le' q0 q1 => ?_) hp
      by_cases e : le' = le
      · subst e; exact lsO_LE q0 (by omega) hv
      · exact LEp_up (hL le' q0 (by omega)) (by omega) (by omega)
set_option maxRecDepth 100000 in
set_option maxHeartbeats 4000000 in
theorem l3_X5_layLeasts (G : Gb) (l : Launch) {w0 : Wd} {N : Int} (hpr : prI w0 (100 * N)) (hN : 0 ≤ N ∧ N ≤ 6) {Post : Wd → Prop} : ∀ (m : Nat) (i : Int) (w : Wd) (o2 o3 o4 o5 : Option Value), i + 1 = m → i < N → fr82 w0 w → RI w N (i + 1) → (∀ w', fr82 w0 w' → RI w' N 0 → Post w') → V G l mX5_layLeasts (Qv G Post) 44 [some (.ref (gA G 71)), some (.int (iZ i)), o2, o3, o4, o5] [] w := by
  intro m
  induction m with
  | zero =>
    intro i w o2 o3 o4 o5 h0 h1 hf hR hp
    refine V_iload_n dX5_layLeasts_44 rfl ?_
    refine V_if_lt (tgt := 131) dX5_layLeasts_45 (by decide) (by omega) (fun h45 => ?_) (fun h45 => ?_)
    · exact V_vret dX5_layLeasts_131 rfl (hp _ hf (by rw [show i + 1 = 0 by omega] at hR; exact hR))
    · exact absurd h45 (by omega)
  | succ m ih =>
    intro i w o2 o3 o4 o5 h0 h1 hf hR hp
    refine V_iload_n dX5_layLeasts_44 rfl ?_
    refine V_if_lt (tgt := 131) dX5_layLeasts_45 (by decide) (by omega) (fun h45 => ?_) (fun h45 => ?_)
    · exact absurd h45 (by omega)
    · refine V_iconst dX5_layLeasts_48 ?_
      refine V_istore_n dX5_layLeasts_49 (by decide) rfl ?_
      refine l2_X5_layLeasts G l hpr hN ⟨by omega, h1⟩ 100 0 w _ _ _ (by omega) (by omega) hf hR (fun le' q0 q1 => by omega) (fun w9 le9 p3 p4 p5 f9 r9 => ?_)
      refine V_iinc dX5_layLeasts_125 rfl (by decide) rfl ?_
      refine V_goto (tgt := 44) dX5_layLeasts_128 (by decide) ?_
      exact ih (i + -1) w9 _ _ _ _ (by omega) (by omega) f9 (by rw [show i + -1 + 1 = i by omega]; exact r9) hp
set_option maxRecDepth 100000 in
set_option maxHeartbeats 4000000 in
theorem l0_X5_layLeasts (G : Gb) (l : Launch) {w0 : Wd} {N : Int} (hN : 0 ≤ N ∧ N ≤ 6) (h10 : w0 71 10 = N) {Qc : Array Value → State → Outcome → State → Prop} : ∀ (m : Nat) (a : Int) (w : Wd), 0 ≤ a → a + m = 100 → fr82 w0 w → (∀ le : Int, 0 ≤ le → le < a → -1 ≤ w 82 (100 * N + le) ∧ w 82 (100 * N + le) ≤ 0) → (∀ w' a, fr82 w0 w' → (∀ le : Int, 0 ≤ le → le < 100 → -1 ≤ w' 82 (100 * N + le) ∧ w' 82 (100 * N + le) ≤ 0) → V G l mX5_layLeasts Qc 37 [some (.ref (gA G 71)), some (.int (iZ a)), none, none, none, none] [] w') → V G l mX5_layLeasts Qc 2 [some (.ref (gA G 71)), some (.int (iZ a)), none, none, none, none] [] w := by
  intro m
  induction m with
  | zero =>
    intro a w h0 h1 hf hL hp
    refine V_iload_n dX5_layLeasts_2 rfl ?_
    refine V_bipush dX5_layLeasts_3 rfl ?_
    refine V_icmp_ge (tgt := 37) dX5_layLeasts_5 (by decide) (by omega) (by omega) (fun h5 => ?_) (fun h5 => ?_)
    · exact hp _ _ hf (fun le q0 q1 => hL le q0 (by omega))
    · exact absurd h5 (by omega)
  | succ m ih =>
    intro a w h0 h1 hf hL hp
    have e10 : w 71 10 = N := (hf _ _ (by omega)).trans h10
    refine V_iload_n dX5_layLeasts_2 rfl ?_
    refine V_bipush dX5_layLeasts_3 rfl ?_
    refine V_icmp_ge (tgt := 37) dX5_layLeasts_5 (by decide) (by omega) (by omega) (fun h5 => ?_) (fun h5 => ?_)
    · exact absurd h5 (by omega)
    · refine V_aload_n dX5_layLeasts_8 rfl ?_
      refine V_getR (ci := 5) (j := 20) dX5_layLeasts_9 s_71 rfl rfl i_X5_layLeasts_X5 (by decide) f_X5_layLeasts_45 ?_
      refine V_bipush dX5_layLeasts_12 rfl ?_
      refine V_aload_n dX5_layLeasts_14 rfl ?_
      refine V_getIE (ci := 5) (j := 10) (ji := 10) (z := N) dX5_layLeasts_15 s_71 rfl rfl i_X5_layLeasts_X5 (by decide) f_X5_layLeasts_115 rfl e10 ?_
      refine V_imul dX5_layLeasts_18 ?_
      refine V_iload_n dX5_layLeasts_19 rfl ?_
      refine V_iadd dX5_layLeasts_20 ?_
      refine V_iload_n dX5_layLeasts_21 rfl ?_
      refine V_if_ne (tgt := 29) dX5_layLeasts_22 (by decide) (by omega) (fun h22 => ?_) (fun h22 => ?_)
      · refine V_iconst dX5_layLeasts_29 ?_
        refine V_iast dX5_layLeasts_30 s_82 (by show 0 ≤ _ ∧ _ < (700 : Int); omega) ?_
        refine V_iinc dX5_layLeasts_31 rfl (by decide) rfl ?_
        refine V_goto (tgt := 2) dX5_layLeasts_34 (by decide) ?_
        refine ih (a + 1) _ (by omega) (by omega) (fun k j q => by rw [up_ne (Or.inl q)]; exact hf k j q) (fun le q0 q1 => ?_) hp
        by_cases e : le = a
        · subst e; rw [up_eq]; omega
        · rw [up_ne (by omega)]; exact hL le q0 (by omega)
      · refine V_iconst dX5_layLeasts_25 ?_
        refine V_goto (tgt := 30) dX5_layLeasts_26 (by decide) ?_
        refine V_iast dX5_layLeasts_30 s_82 (by show 0 ≤ _ ∧ _ < (700 : Int); omega) ?_
        refine V_iinc dX5_layLeasts_31 rfl (by decide) rfl ?_
        refine V_goto (tgt := 2) dX5_layLeasts_34 (by decide) ?_
        refine ih (a + 1) _ (by omega) (by omega) (fun k j q => by rw [up_ne (Or.inl q)]; exact hf k j q) (fun le q0 q1 => ?_) hp
        by_cases e : le = a
        · subst e; rw [up_eq]; omega
        · rw [up_ne (by omega)]; exact hL le q0 (by omega)
set_option maxRecDepth 100000 in
set_option maxHeartbeats 4000000 in
theorem c_X5_layLeasts (G : Gb) (l : Launch) {w : Wd} {N : Int} (hN : 0 ≤ N ∧ N ≤ 6) (h10 : w 71 10 = N) (hpr : prI w (100 * N)) : Cv G l yX5_layLeasts mX5_layLeasts [.ref (gA G 71)] w (fun w' => fr82 w w' ∧ RI w' N 0) := by
  refine V_start 5 (by decide) rfl rfl (Nat.le_of_ble_eq_true rfl) ?_
  show V G l mX5_layLeasts _ 0 [some (.ref (gA G 71)), none, none, none, none, none] [] w
  refine V_iconst dX5_layLeasts_0 ?_
  refine V_istore_n dX5_layLeasts_1 (by decide) rfl ?_
  refine l0_X5_layLeasts G l hN h10 100 0 w (by omega) (by omega) (fun _ _ _ => rfl) (fun le q0 q1 => by omega) (fun w1 a1 f1 r1 => ?_)
  have e10 : w1 71 10 = N := (f1 _ _ (by omega)).trans h10
  refine V_aload_n dX5_layLeasts_37 rfl ?_
  refine V_getIE (ci := 5) (j := 10) (ji := 10) (z := N) dX5_layLeasts_38 s_71 rfl rfl i_X5_layLeasts_X5 (by decide) f_X5_layLeasts_115 rfl e10 ?_
  refine V_iconst dX5_layLeasts_41 ?_
  refine V_isub dX5_layLeasts_42 ?_
  refine V_istore_n dX5_layLeasts_43 (by decide) rfl ?_
  exact l3_X5_layLeasts G l hpr hN N.toNat (N - 1) w1 _ _ _ _ (by omega) (by omega) f1 ⟨r1, fun i le q0 q1 => by omega⟩ (fun w' f r => ⟨f, r⟩)
set_option maxRecDepth 100000 in
set_option maxHeartbeats 4000000 in
theorem l1_X5_hut (G : Gb) (l : Launch) {w : Wd} {N b t tr : Int} (hN : 0 ≤ N ∧ N ≤ 6) (hpr : prI w (100 * N)) (hR : RI w N 0) {i le : Int} (hi : 0 ≤ i ∧ i < N) (hl : 0 ≤ le ∧ le < 100) (hne : w 82 (100 * i + le) ≠ -1) {Qc : Array Value → State → Outcome → State → Prop} (hp : ∀ n, 0 ≤ n → n ≤ le → w 82 (100 * (i + 1) + (le - n)) ≠ -1 → V G l mX5_hut Qc 124 [some (.ref (gA G 71)), some (.int (iZ b)), some (.int (iZ t)), some (.int (iZ tr)), some (.int (iZ le)), some (.int (iZ n)), some (.int (iZ i))] [] w) : ∀ (m : Nat) (n : Int), 0 ≤ n → n + m ≤ le + 1 → byV w i (n + m) le = w 82 (100 * i + le) → V G l mX5_hut Qc 92 [some (.ref (gA G 71)), some (.int (iZ b)), some (.int (iZ t)), some (.int (iZ tr)), some (.int (iZ le)), some (.int (iZ n)), some (.int (iZ i))] [] w := by
  have b0 := hR.bd (i := i) (le := le) hN.2 hi.1 (by omega) hl.1 hl.2
  have fin : ∀ n : Int, 0 ≤ n → byV w i n le = w 82 (100 * i + le) → n ≤ le ∧ w 82 (100 * (i + 1) + (le - n)) ≠ -1 := by
    intro n n0 e
    unfold byV at e
    split at e
    · rename_i q; exact ⟨q.1, by rw [show 100 * (i + 1) + (le - n) = 100 * (i + 1) + le - n by omega]; exact q.2.2⟩
    · exact absurd e.symm hne
  intro m
  induction m with
  | zero =>
    intro n h0 h1 he
    rw [show n + ((0 : Nat) : Int) = n by omega] at he
    have hpp : n ≤ le → -1 ≤ w 81 (100 * i + n) ∧ w 81 (100 * i + n) ≤ 1000000 := fun q => hpr _ (by omega) (by omega)
    have hqq : n ≤ le → -1 ≤ w 82 (100 * (i + 1) + le - n) ∧ w 82 (100 * (i + 1) + le - n) ≤ 1000000 * (5 - i) := fun q => by have b9 := hR.bd (i := i + 1) (le := le - n) hN.2 (by omega) (by omega) (by omega) (by omega); rw [show 100 * (i + 1) + le - n = 100 * (i + 1) + (le - n) by omega]; omega
    have rg := byV_bd hpp hqq (by omega)
    refine V_aload_n dX5_hut_92 rfl ?_
    refine V_iload dX5_hut_93 rfl ?_
    refine V_iload dX5_hut_95 rfl ?_
    refine V_iload dX5_hut_97 rfl ?_
    refine V_iV3 dX5_hut_99 o_X5_hut_191 s_71 rfl (Nat.le_of_ble_eq_true rfl) (c_X5_by G l ⟨hi.1, by omega⟩ (by omega) hl hpp (fun q => by have := hqq q; omega)) ?_
    rintro y _ ⟨hy, rfl⟩
    rw [← hy] at rg he
    refine V_aload_n dX5_hut_102 rfl ?_
    refine V_getR (ci := 5) (j := 20) dX5_hut_103 s_71 rfl rfl i_X5_hut_X5 (by decide) f_X5_hut_45 ?_
    refine V_bipush dX5_hut_106 rfl ?_
    refine V_iload dX5_hut_108 rfl ?_
    refine V_imul dX5_hut_110 ?_
    refine V_iload dX5_hut_111 rfl ?_
    refine V_iadd dX5_hut_113 ?_
    refine V_iald dX5_hut_114 s_82 (by show 0 ≤ _ ∧ _ < (700 : Int); omega) ?_
    refine V_icmp_eq (tgt := 124) dX5_hut_115 (by decide) (by omega) (by omega) (fun h115 => ?_) (fun h115 => ?_)
    · have f9 := fin n h0 (by rw [← hy]; exact h115)
      exact hp n h0 f9.1 f9.2
    · exact absurd he h115
  | succ m ih =>
    intro n h0 h1 he
    have hpp : n ≤ le → -1 ≤ w 81 (100 * i + n) ∧ w 81 (100 * i + n) ≤ 1000000 := fun q => hpr _ (by omega) (by omega)
    have hqq : n ≤ le → -1 ≤ w 82 (100 * (i + 1) + le - n) ∧ w 82 (100 * (i + 1) + le - n) ≤ 1000000 * (5 - i) := fun q => by have b9 := hR.bd (i := i + 1) (le := le - n) hN.2 (by omega) (by omega) (by omega) (by omega); rw [show 100 * (i + 1) + le - n = 100 * (i + 1) + (le - n) by omega]; omega
    have rg := byV_bd hpp hqq (by omega)
    refine V_aload_n dX5_hut_92 rfl ?_
    refine V_iload dX5_hut_93 rfl ?_
    refine V_iload dX5_hut_95 rfl ?_
    refine V_iload dX5_hut_97 rfl ?_
    refine V_iV3 dX5_hut_99 o_X5_hut_191 s_71 rfl (Nat.le_of_ble_eq_true rfl) (c_X5_by G l ⟨hi.1, by omega⟩ (by omega) hl hpp (fun q => by have := hqq q; omega)) ?_
    rintro y _ ⟨hy, rfl⟩
    rw [← hy] at rg
    refine V_aload_n dX5_hut_102 rfl ?_
    refine V_getR (ci := 5) (j := 20) dX5_hut_103 s_71 rfl rfl i_X5_hut_X5 (by decide) f_X5_hut_45 ?_
    refine V_bipush dX5_hut_106 rfl ?_
    refine V_iload dX5_hut_108 rfl ?_
    refine V_imul dX5_hut_110 ?_
    refine V_iload dX5_hut_111 rfl ?_
    refine V_iadd dX5_hut_113 ?_
    refine V_iald dX5_hut_114 s_82 (by show 0 ≤ _ ∧ _ < (700 : Int); omega) ?_
    refine V_icmp_eq (tgt := 124) dX5_hut_115 (by decide) (by omega) (by omega) (fun h115 => ?_) (fun h115 => ?_)
    · have f9 := fin n h0 (by rw [← hy]; exact h115)
      exact hp n h0 f9.1 f9.2
    · refine V_iinc dX5_hut_118 rfl (by decide) rfl ?_
      refine V_goto (tgt := 92) dX5_hut_121 (by decide) ?_
      exact ih (n + 1) (by omega) (by omega) (by rw [show n + 1 + (m : Int) = n + ((m + 1 : Nat) : Int) by omega]; exact he)
set_option maxRecDepth 100000 in
set_option maxHeartbeats 4000000 in
theorem l2_X5_hut (G : Gb) (l : Launch) {w : Wd} {N b t tr : Int} (hN : 0 ≤ N ∧ N ≤ 6) (hpr : prI w (100 * N)) (hR : RI w N 0) (ht : tr < N) {Post : Int → Wd → Prop} (hp : ∀ z, Post z w) : ∀ (m : Nat) (i le n : Int), 0 ≤ i → i + m = tr + 1 → (0 ≤ le ∧ le < 100) → (i ≤ tr → w 82 (100 * i + le) ≠ -1) → V G l mX5_hut (Qi G Post) 83 [some (.ref (gA G 71)), some (.int (iZ b)), some (.int (iZ t)), some (.int (iZ tr)), some (.int (iZ le)), some (.int (iZ n)), some (.int (iZ i))] [] w := by
  intro m
  induction m with
  | zero =>
    intro i le n h0 h1 hl hne
    refine V_iload dX5_hut_83 rfl ?_
    refine V_iload_n dX5_hut_85 rfl ?_
    refine V_icmp_gt (tgt := 137) dX5_hut_86 (by decide) (by omega) (by omega) (fun h86 => ?_) (fun h86 => ?_)
    · refine V_iload dX5_hut_137 rfl ?_
      exact V_iret dX5_hut_139 rfl (hp _)
    · exact absurd h86 (by omega)
  | succ m ih =>
    intro i le n h0 h1 hl hne
    obtain ⟨_, n0, g0, g1, g2⟩ := hR.2 i le (by omega) (by omega) hl.1 hl.2
    refine V_iload dX5_hut_83 rfl ?_
    refine V_iload_n dX5_hut_85 rfl ?_
    refine V_icmp_gt (tgt := 137) dX5_hut_86 (by decide) (by omega) (by omega) (fun h86 => ?_) (fun h86 => ?_)
    · exact absurd h86 (by omega)
    · refine V_iconst dX5_hut_89 ?_
      refine V_istore dX5_hut_90 (by decide) rfl ?_
      refine l1_X5_hut G l hN hpr hR ⟨h0, by omega⟩ hl (hne (by omega)) (fun n9 q0 q1 q2 => ?_) n0.toNat 0 (by omega) (by omega) (by rw [show (0 : Int) + (n0.toNat : Int) = n0 by omega]; exact g2)
      refine V_iload dX5_hut_124 rfl ?_
      refine V_iload dX5_hut_126 rfl ?_
      refine V_isub dX5_hut_128 ?_
      refine V_istore dX5_hut_129 (by decide) rfl ?_
      refine V_iinc dX5_hut_131 rfl (by decide) rfl ?_
      refine V_goto (tgt := 83) dX5_hut_134 (by decide) ?_
      exact ih (i + 1) _ _ (by omega) (by omega) (by omega) (fun _ => q2)
set_option maxRecDepth 100000 in
set_option maxHeartbeats 4000000 in
theorem c_X5_hut (G : Gb) (l : Launch) {w : Wd} {c : Int} {σ : SG} (h : SM c σ w) {b t i : Int} (hb : inR b) (ht : inR t) (hi : inR i) : Ci G l yX5_hut mX5_hut [.ref (gA G 71), .int (iZ b), .int (iZ t), .int (iZ i)] w (fun _ w' => SM (c + 1) σ w' ∧ frM w w') := by
  refine V_start 3 (by decide) rfl rfl (Nat.le_of_ble_eq_true rfl) ?_
  show V G l mX5_hut _ 0 [some (.ref (gA G 71)), some (.int (iZ b)), some (.int (iZ t)), some (.int (iZ i)), none, none, none] [] w
  have hT := h.2.1.2.1
  have hO := h.2.2.1.2.1
  have kt := hT.1
  have kn : 0 ≤ w 72 14 ∧ w 72 14 ≤ 12 := hO.n
  have eN := h.tN
  have eL := h.aN
  refine V_iload_n dX5_hut_0 rfl ?_
  refine V_i2l dX5_hut_1 (iZ_l (by omega)) ?_
  refine V_lconst (v := lZ 1) dX5_hut_2 rfl ?_
  refine V_ldc2 (v := (lZ 99)) dX5_hut_3 (List.mem_of_getElem? (i := 1) rfl) ?_
  refine V_iS3 dX5_hut_6 o_X5_hut_50 (Nat.le_of_ble_eq_true rfl) (c_X5_in G l (by omega) (by omega) (by omega)) ?_
  rintro z _ ⟨hz, rfl⟩
  have rz : z = 0 ∨ z = 1 := by rw [hz]; split <;> simp
  refine V_if_eq (tgt := 24) dX5_hut_9 (by decide) (by omega) (fun h9 => ?_) (fun h9 => ?_)
  · have yz : ¬ (1 ≤ b ∧ b ≤ 99) := fun q9 => by rw [if_pos q9] at hz; omega
    refine V_bipush dX5_hut_24 rfl ?_
    exact V_iret dX5_hut_26 rfl ⟨h.same, fun _ _ _ => rfl⟩
  · have yz : 1 ≤ b ∧ b ≤ 99 := by
      by_cases q9 : 1 ≤ b ∧ b ≤ 99
      · exact q9
      · rw [if_neg q9] at hz; omega
    refine V_iload_n dX5_hut_12 rfl ?_
    refine V_i2l dX5_hut_13 (iZ_l (by omega)) ?_
    refine V_lconst (v := lZ 0) dX5_hut_14 rfl ?_
    refine V_ldc2 (v := (lZ 30)) dX5_hut_15 (List.mem_of_getElem? (i := 2) rfl) ?_
    refine V_iS3 dX5_hut_18 o_X5_hut_50 (Nat.le_of_ble_eq_true rfl) (c_X5_in G l (by omega) (by omega) (by omega)) ?_
    rintro x _ ⟨hx, rfl⟩
    have rx : x = 0 ∨ x = 1 := by rw [hx]; split <;> simp
    refine V_if_ne (tgt := 27) dX5_hut_21 (by decide) (by omega) (fun h21 => ?_) (fun h21 => ?_)
    · have yx : 0 ≤ t ∧ t ≤ 30 := by
        by_cases q9 : 0 ≤ t ∧ t ≤ 30
        · exact q9
        · rw [if_neg q9] at hx; omega
      refine V_iload_n dX5_hut_27 rfl ?_
      refine V_iconst dX5_hut_28 ?_
      refine V_icmp_eq (tgt := 43) dX5_hut_29 (by decide) (by omega) (by omega) (fun h29 => ?_) (fun h29 => ?_)
      · refine V_aload_n dX5_hut_43 rfl ?_
        refine V_iload_n dX5_hut_44 rfl ?_
        have hi6 : i = -1 ∨ (0 ≤ i ∧ i < w 71 10) := by omega
        refine V_vV1 dX5_hut_45 o_X5_hut_196 s_71 rfl (Nat.le_of_ble_eq_true rfl) (c_X5_layPrices G l h yx) ?_
        rintro w1 ⟨g1, p1⟩
        have e10 : w1 71 10 = w 71 10 := g1 _ _ (by omega)
        refine V_aload_n dX5_hut_48 rfl ?_
        refine V_vV0 dX5_hut_49 o_X5_hut_199 s_71 rfl (Nat.le_of_ble_eq_true rfl) (c_X5_layLeasts G l (N := w 71 10) kt e10 p1) ?_
        rintro w2 ⟨g2, r2⟩
        have h2 : SM c σ w2 := h.keep (by omega) (fun k j q => (g2 k j (by omega)).trans (g1 k j (by omega)))
        have b2 := r2.bd (i := 0) (le := b) kt.2 (by omega) kt.1 (by omega) (by omega)
        rw [show 100 * 0 + b = b by omega] at b2
        have p2 : prI w2 (100 * w 71 10) := fun q q0 q1 => by rw [g2 _ _ (by omega)]; exact p1 q q0 q1
        refine V_iload_n dX5_hut_52 rfl ?_
        refine V_iconst dX5_hut_53 ?_
        refine V_icmp_eq (tgt := 67) dX5_hut_54 (by decide) (by omega) (by omega) (fun h54 => ?_) (fun h54 => ?_)
        · refine V_aload_n dX5_hut_67 rfl ?_
          refine V_getR (ci := 5) (j := 20) dX5_hut_68 s_71 rfl rfl i_X5_hut_X5 (by decide) f_X5_hut_45 ?_
          refine V_iload_n dX5_hut_71 rfl ?_
          refine V_iald dX5_hut_72 s_82 (by show 0 ≤ _ ∧ _ < (700 : Int); omega) ?_
          exact V_iret dX5_hut_73 rfl ⟨h2.same, fun k j q => (g2 k j (by omega)).trans (g1 k j (by omega))⟩
        · refine V_aload_n dX5_hut_57 rfl ?_
          refine V_getR (ci := 5) (j := 20) dX5_hut_58 s_71 rfl rfl i_X5_hut_X5 (by decide) f_X5_hut_45 ?_
          refine V_iload_n dX5_hut_61 rfl ?_
          refine V_iald dX5_hut_62 s_82 (by show 0 ≤ _ ∧ _ < (700 : Int); omega) ?_
          refine V_iconst dX5_hut_63 ?_
          refine V_icmp_ne (tgt := 74) dX5_hut_64 (by decide) (by omega) (by omega) (fun h64 => ?_) (fun h64 => ?_)
          · refine V_iload_n dX5_hut_74 rfl ?_
            refine V_istore dX5_hut_75 (by decide) rfl ?_
            refine V_iconst dX5_hut_77 ?_
            refine V_istore dX5_hut_78 (by decide) rfl ?_
            refine V_iconst dX5_hut_80 ?_
            refine V_istore dX5_hut_81 (by decide) rfl ?_
            exact l2_X5_hut G l (N := w 71 10) kt p2 r2 (by omega) (fun _ => ⟨h2.same, fun k j q => (g2 k j (by omega)).trans (g1 k j (by omega))⟩) (i + 1).toNat 0 b 0 (by omega) (by omega) (by omega) (fun _ => by rw [show 100 * 0 + b = b by omega]; exact h64)
          · refine V_aload_n dX5_hut_67 rfl ?_
            refine V_getR (ci := 5) (j := 20) dX5_hut_68 s_71 rfl rfl i_X5_hut_X5 (by decide) f_X5_hut_45 ?_
            refine V_iload_n dX5_hut_71 rfl ?_
            refine V_iald dX5_hut_72 s_82 (by show 0 ≤ _ ∧ _ < (700 : Int); omega) ?_
            exact V_iret dX5_hut_73 rfl ⟨h2.same, fun k j q => (g2 k j (by omega)).trans (g1 k j (by omega))⟩
      · refine V_aload_n dX5_hut_32 rfl ?_
        refine V_iload_n dX5_hut_33 rfl ?_
        refine V_iV1 dX5_hut_34 o_X5_hut_166 s_71 rfl (Nat.le_of_ble_eq_true rfl) (c_X5_isTree G l (by omega) kt) ?_
        rintro u _ ⟨hu, rfl⟩
        have ru : u = 0 ∨ u = 1 := by rw [hu]; split <;> simp
        refine V_if_ne (tgt := 43) dX5_hut_37 (by decide) (by omega) (fun h37 => ?_) (fun h37 => ?_)
        · have yu : hasS σ.2.1 i := by
            by_cases q9 : 0 ≤ i ∧ i < w 71 10
            · exact ⟨q9.1, by omega⟩
            · rw [if_neg q9] at hu; omega
          have bu := yu.2
          have du := yu.1
          refine V_aload_n dX5_hut_43 rfl ?_
          refine V_iload_n dX5_hut_44 rfl ?_
          have hi6 : i = -1 ∨ (0 ≤ i ∧ i < w 71 10) := by omega
          refine V_vV1 dX5_hut_45 o_X5_hut_196 s_71 rfl (Nat.le_of_ble_eq_true rfl) (c_X5_layPrices G l h yx) ?_
          rintro w1 ⟨g1, p1⟩
          have e10 : w1 71 10 = w 71 10 := g1 _ _ (by omega)
          refine V_aload_n dX5_hut_48 rfl ?_
          refine V_vV0 dX5_hut_49 o_X5_hut_199 s_71 rfl (Nat.le_of_ble_eq_true rfl) (c_X5_layLeasts G l (N := w 71 10) kt e10 p1) ?_
          rintro w2 ⟨g2, r2⟩
          have h2 : SM c σ w2 := h.keep (by omega) (fun k j q => (g2 k j (by omega)).trans (g1 k j (by omega)))
          have b2 := r2.bd (i := 0) (le := b) kt.2 (by omega) kt.1 (by omega) (by omega)
          rw [show 100 * 0 + b = b by omega] at b2
          have p2 : prI w2 (100 * w 71 10) := fun q q0 q1 => by rw [g2 _ _ (by omega)]; exact p1 q q0 q1
          refine V_iload_n dX5_hut_52 rfl ?_
          refine V_iconst dX5_hut_53 ?_
          refine V_icmp_eq (tgt := 67) dX5_hut_54 (by decide) (by omega) (by omega) (fun h54 => ?_) (fun h54 => ?_)
          · refine V_aload_n dX5_hut_67 rfl ?_
            refine V_getR (ci := 5) (j := 20) dX5_hut_68 s_71 rfl rfl i_X5_hut_X5 (by decide) f_X5_hut_45 ?_
            refine V_iload_n dX5_hut_71 rfl ?_
            refine V_iald dX5_hut_72 s_82 (by show 0 ≤ _ ∧ _ < (700 : Int); omega) ?_
            exact V_iret dX5_hut_73 rfl ⟨h2.same, fun k j q => (g2 k j (by omega)).trans (g1 k j (by omega))⟩
          · refine V_aload_n dX5_hut_57 rfl ?_
            refine V_getR (ci := 5) (j := 20) dX5_hut_58 s_71 rfl rfl i_X5_hut_X5 (by decide) f_X5_hut_45 ?_
            refine V_iload_n dX5_hut_61 rfl ?_
            refine V_iald dX5_hut_62 s_82 (by show 0 ≤ _ ∧ _ < (700 : Int); omega) ?_
            refine V_iconst dX5_hut_63 ?_
            refine V_icmp_ne (tgt := 74) dX5_hut_64 (by decide) (by omega) (by omega) (fun h64 => ?_) (fun h64 => ?_)
            · refine V_iload_n dX5_hut_74 rfl ?_
              refine V_istore dX5_hut_75 (by decide) rfl ?_
              refine V_iconst dX5_hut_77 ?_
              refine V_istore dX5_hut_78 (by decide) rfl ?_
              refine V_iconst dX5_hut_80 ?_
              refine V_istore dX5_hut_81 (by decide) rfl ?_
              exact l2_X5_hut G l (N := w 71 10) kt p2 r2 (by omega) (fun _ => ⟨h2.same, fun k j q => (g2 k j (by omega)).trans (g1 k j (by omega))⟩) (i + 1).toNat 0 b 0 (by omega) (by omega) (by omega) (fun _ => by rw [show 100 * 0 + b = b by omega]; exact h64)
            · refine V_aload_n dX5_hut_67 rfl ?_
              refine V_getR (ci := 5) (j := 20) dX5_hut_68 s_71 rfl rfl i_X5_hut_X5 (by decide) f_X5_hut_45 ?_
              refine V_iload_n dX5_hut_71 rfl ?_
              refine V_iald dX5_hut_72 s_82 (by show 0 ≤ _ ∧ _ < (700 : Int); omega) ?_
              exact V_iret dX5_hut_73 rfl ⟨h2.same, fun k j q => (g2 k j (by omega)).trans (g1 k j (by omega))⟩
        · refine V_bipush dX5_hut_40 rfl ?_
          exact V_iret dX5_hut_42 rfl ⟨h.same, fun _ _ _ => rfl⟩
    · have yx : ¬ (0 ≤ t ∧ t ≤ 30) := fun q9 => by rw [if_pos q9] at hx; omega
      refine V_bipush dX5_hut_24 rfl ?_
      exact V_iret dX5_hut_26 rfl ⟨h.same, fun _ _ _ => rfl⟩

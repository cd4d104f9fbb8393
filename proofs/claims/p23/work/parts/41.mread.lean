/-! ===== 41 the reference: what it reads of a row ===== -/
theorem mLs_len (w : Wd) (o : Int) : (mLs w o).length = (w 72 (o + 14)).toNat := by simp [mLs]
theorem mLs_drop {w : Wd} {o i : Int} (h0 : 0 ≤ i) (h1 : i < w 72 (o + 14)) : (mLs w o).drop i.toNat = (w 72 (o + 15 + 5 * i), w 72 (o + 16 + 5 * i), w 72 (o + 17 + 5 * i), w 72 (o + 18 + 5 * i), w 72 (o + 19 + 5 * i)) :: (mLs w o).drop (i + 1).toNat := by
  unfold mLs
  rw [rg_drop _ (by omega : i.toNat < (w 72 (o + 14)).toNat), show (i + 1).toNat = i.toNat + 1 by omega]
  unfold mLn
  rw [show ((i.toNat : Nat) : Int) = i by omega]
theorem mLs_end {w : Wd} {o i : Int} (h : w 72 (o + 14) ≤ i) : (mLs w o).drop i.toNat = [] := by
  apply List.drop_eq_nil_of_le
  rw [mLs_len]
  omega
theorem mLs_some {w : Wd} {o : Int} {i : Nat} (h : i < (w 72 (o + 14)).toNat) : (mLs w o)[i]? = some (mLn w o i) := by
  unfold mLs
  rw [List.getElem?_map, List.getElem?_range h]
  rfl
theorem mLs_none {w : Wd} {o : Int} {i : Nat} (h : (w 72 (o + 14)).toNat ≤ i) : (mLs w o)[i]? = none := List.getElem?_eq_none (by rw [mLs_len]; exact h)
theorem mLs_at {w : Wd} {o i : Int} (h0 : 0 ≤ i) (h1 : i < w 72 (o + 14)) : (mLs w o)[i.toNat]? = some (w 72 (o + 15 + 5 * i), w 72 (o + 16 + 5 * i), w 72 (o + 17 + 5 * i), w 72 (o + 18 + 5 * i), w 72 (o + 19 + 5 * i)) := by
  rw [mLs_some (by omega)]
  unfold mLn
  rw [show ((i.toNat : Nat) : Int) = i by omega]
theorem mLs_D {w : Wd} {o f : Int} (h0 : 0 ≤ f) (h1 : f < w 72 (o + 14)) : (mLs w o).getD f.toNat ln0 = (w 72 (o + 15 + 5 * f), w 72 (o + 16 + 5 * f), w 72 (o + 17 + 5 * f), w 72 (o + 18 + 5 * f), w 72 (o + 19 + 5 * f)) := by
  rw [List.getD_eq_getElem?_getD, mLs_at h0 h1]
  rfl
theorem mLs_ne {w : Wd} {o : Int} (h : 0 < w 72 (o + 14)) : mLs w o ≠ [] := by
  intro e
  have h1 := mLs_len w o
  rw [e] at h1
  simp only [List.length_nil] at h1
  omega
theorem mLs_nil {w : Wd} {o : Int} (h : w 72 (o + 14) ≤ 0) : mLs w o = [] := by
  apply List.eq_nil_of_length_eq_zero
  rw [mLs_len]
  omega
/-- two rows have the same loans if they have so place by place -/
theorem mLs_eq {w w' : Wd} {o o' : Int} (h3 : w 72 (o + 14) = w' 72 (o' + 14)) (h : ∀ j : Int, 15 ≤ j → j < 15 + 5 * w 72 (o + 14) → w 72 (o + j) = w' 72 (o' + j)) : mLs w o = mLs w' o' := by
  unfold mLs
  rw [← h3]
  apply List.map_congr_left
  intro i hi
  have hi2 := List.mem_range.mp hi
  unfold mLn
  have g : ∀ q : Int, 0 ≤ q → q < 5 → w 72 (o + (15 + q) + 5 * (i : Int)) = w' 72 (o' + (15 + q) + 5 * (i : Int)) := fun q q0 q1 => by
    have := h (15 + q + 5 * (i : Int)) (by omega) (by omega)
    rwa [show o + (15 + q + 5 * (i : Int)) = o + (15 + q) + 5 * (i : Int) by omega, show o' + (15 + q + 5 * (i : Int)) = o' + (15 + q) + 5 * (i : Int) by omega] at this
  have g0 := g 0 (by omega) (by omega)
  have g1 := g 1 (by omega) (by omega)
  have g2 := g 2 (by omega) (by omega)
  have g3 := g 3 (by omega) (by omega)
  have g4 := g 4 (by omega) (by omega)
  simp only [show (15 : Int) + 0 = 15 from rfl, show (15 : Int) + 1 = 16 from rfl, show (15 : Int) + 2 = 17 from rfl, show (15 : Int) + 3 = 18 from rfl, show (15 : Int) + 4 = 19 from rfl] at g0 g1 g2 g3 g4
  rw [g0, g1, g2, g3, g4]
/-- the loans of a row behind a change of each by itself -/
theorem mLs_map {w w' : Wd} {o : Int} {f : Ln → Ln} (h3 : w' 72 (o + 14) = w 72 (o + 14)) (h : ∀ i : Nat, (i : Int) < w 72 (o + 14) → mLn w' o i = f (mLn w o i)) : mLs w' o = (mLs w o).map f := by
  unfold mLs
  rw [h3, List.map_map]
  apply List.map_congr_left
  intro i hi
  have hi2 := List.mem_range.mp hi
  exact h i (by omega)
theorem gl_0m {w : Wd} {k : Nat} {o : Int} {n : Nat} {t : Int} (h0 : 0 ≤ t) (h : t < (n : Int)) : w k (o + t) = (gl w k o n).getD t.toNat 0 := by rw [gl_D h0 h]
def okM (c : Int) (w : Wd) (o : Int) : Prop := 0 ≤ w 72 (o + 14) ∧ okAS c (mAS w o)
theorem okM.n {c : Int} {w : Wd} {o : Int} (h : okM c w o) : 0 ≤ w 72 (o + 14) ∧ w 72 (o + 14) ≤ 12 := by
  have h1 := h.2.2.2.2.2.1
  have h2 := mLs_len w o
  have h3 : (mLs w o).length ≤ 12 := h1
  have := h.1
  omega
theorem okM.ln {c : Int} {w : Wd} {o : Int} (h : okM c w o) {i : Int} (h0 : 0 ≤ i) (h1 : i < w 72 (o + 14)) : (0 ≤ w 72 (o + 15 + 5 * i) ∧ w 72 (o + 15 + 5 * i) < 6) ∧ (1 ≤ w 72 (o + 16 + 5 * i) ∧ w 72 (o + 16 + 5 * i) ≤ 99) ∧ (0 < w 72 (o + 17 + 5 * i) ∧ w 72 (o + 17 + 5 * i) ≤ 1000000) ∧ (0 ≤ w 72 (o + 18 + 5 * i) ∧ w 72 (o + 18 + 5 * i) ≤ 20000) ∧ (w 72 (o + 19 + 5 * i) = 0 ∨ w 72 (o + 19 + 5 * i) = 1) :=
  h.2.2.2.2.2.2 _ (List.mem_of_getElem? (mLs_at h0 h1))
theorem okM.has {c : Int} {w : Wd} {o : Int} (h : okM c w o) {t : Int} (h0 : 0 ≤ t) (h1 : t < 6) : 0 ≤ w 72 (o + 2 + t) ∧ w 72 (o + 2 + t) ≤ 99 := by
  have h2 := h.2.2.2.1.2 _ (List.mem_of_getElem? (gl_at (w := w) (k := 72) (o := o + 2) (n := 6) (i := t.toNat) (by omega)))
  rwa [show ((t.toNat : Nat) : Int) = t by omega] at h2
theorem okM.fate {c : Int} {w : Wd} {o : Int} (h : okM c w o) {t : Int} (h0 : 0 ≤ t) (h1 : t < 6) : 0 ≤ w 72 (o + 8 + t) ∧ w 72 (o + 8 + t) ≤ 2 := by
  have h2 := h.2.2.2.2.1.2 _ (List.mem_of_getElem? (gl_at (w := w) (k := 72) (o := o + 8) (n := 6) (i := t.toNat) (by omega)))
  rwa [show ((t.toNat : Nat) : Int) = t by omega] at h2
theorem okM.day {c : Int} {w : Wd} {o : Int} (h : okM c w o) : 0 ≤ w 72 o ∧ w 72 o ≤ 20000 := h.2.1
theorem okM.ow {c : Int} {w : Wd} {o : Int} (h : okM c w o) (t : Int) : 0 ≤ owL t (mLs w o) ∧ owL t (mLs w o) ≤ 12000000 := by
  have h1 : ∀ L : List Ln, (∀ x ∈ L, okLn x) → 0 ≤ owL t L ∧ owL t L ≤ 1000000 * (L.length : Int) := by
    intro L
    induction L with
    | nil => intro _; simp [owL]
    | cons x r ih =>
      intro hx
      have a := ih (fun y hy => hx y (List.mem_cons_of_mem _ hy))
      have b := (hx x List.mem_cons_self).2.2.1
      rw [owL, List.length_cons]
      split <;> omega
  have h2 := h1 (mLs w o) h.2.2.2.2.2.2
  have h3 : (mLs w o).length ≤ 12 := h.2.2.2.2.2.1
  omega
/-- what is told to the reference -/
def qsM (w : Wd) : List (Int × Int) := (List.range (w 71 12).toNat).map (fun i : Nat => (w 80 (2 * (i : Int)), w 80 (2 * (i : Int) + 1)))
def tM (w : Wd) : TS := (w 71 10, gl w 76 0 6, gl w 72 302 6, gl w 77 0 6, gl w 78 0 6, gl w 79 0 6, qsM w, w 71 13)
def okTm (w : Wd) : Prop := (0 ≤ w 71 10 ∧ w 71 10 ≤ 6) ∧ (0 ≤ w 71 12 ∧ w 71 12 ≤ 6) ∧ (0 ≤ w 71 13 ∧ w 71 13 ≤ 99) ∧ (∀ t : Int, 0 ≤ t → t < 6 → (0 ≤ w 76 t ∧ w 76 t ≤ 3) ∧ (0 ≤ w 72 (302 + t) ∧ w 72 (302 + t) ≤ 99) ∧ (0 ≤ w 77 t ∧ w 77 t ≤ 50) ∧ (0 ≤ w 78 t ∧ w 78 t ≤ 99) ∧ (0 ≤ w 79 t ∧ w 79 t ≤ 9)) ∧ ∀ q : Int, 0 ≤ q → q < w 71 12 → (0 ≤ w 80 (2 * q) ∧ w 80 (2 * q) < 6) ∧ (0 ≤ w 80 (2 * q + 1) ∧ w 80 (2 * q + 1) < 6)
theorem qsM_drop {w : Wd} {i : Int} (h0 : 0 ≤ i) (h1 : i < w 71 12) : (qsM w).drop i.toNat = (w 80 (2 * i), w 80 (2 * i + 1)) :: (qsM w).drop (i + 1).toNat := by
  unfold qsM
  rw [rg_drop _ (by omega : i.toNat < (w 71 12).toNat), show (i + 1).toNat = i.toNat + 1 by omega, show ((i.toNat : Nat) : Int) = i by omega]
theorem qsM_end {w : Wd} {i : Int} (h : w 71 12 ≤ i) : (qsM w).drop i.toNat = [] := by
  apply List.drop_eq_nil_of_le
  simp [qsM]
  omega
set_option maxRecDepth 100000 in
set_option maxHeartbeats 4000000 in
theorem l_X5_owedTo (G : Gb) (l : Launch) {w : Wd} {o t : Int} (ht : inR t) (ho : 0 ≤ o ∧ o ≤ 300) (hn : 0 ≤ w 72 (o + 14) ∧ w 72 (o + 14) ≤ 12) (hl : ∀ i : Int, 0 ≤ i → i < w 72 (o + 14) → inR (w 72 (o + 15 + 5 * i))) {Post : Int → Wd → Prop} : ∀ (n : Nat) (s i : Int), 0 ≤ i → i + n = w 72 (o + 14) → Post (s + owL t ((mLs w o).drop i.toNat)) w → V G l mX5_owedTo (Qi G Post) 5 [some (.ref (gA G 71)), some (.int (iZ o)), some (.int (iZ t)), some (.int (iZ s)), some (.int (iZ i))] [] w := by
  intro n
  induction n with
  | zero =>
    intro s i h0 h1 hp
    refine V_iload dX5_owedTo_5 rfl ?_
    refine V_aload_n dX5_owedTo_7 rfl ?_
    refine V_getR (ci := 5) (j := 0) dX5_owedTo_8 s_71 rfl rfl i_X5_owedTo_X5 (by decide) f_X5_owedTo_7 ?_
    refine V_iload_n dX5_owedTo_11 rfl ?_
    refine V_bipush dX5_owedTo_12 rfl ?_
    refine V_iadd dX5_owedTo_14 ?_
    refine V_iald dX5_owedTo_15 s_72 (by omega) ?_
    refine V_icmp_ge (tgt := 60) dX5_owedTo_16 (by decide) (by omega) (by omega) (fun h16 => ?_) (fun h16 => ?_)
    · refine V_iload_n dX5_owedTo_60 rfl ?_
      exact V_iret dX5_owedTo_61 rfl (by rw [mLs_end (by omega)] at hp; simpa [owL] using hp)
    · exact absurd h16 (by omega)
  | succ n ih =>
    intro s i h0 h1 hp
    rw [mLs_drop h0 (by omega), owL] at hp
    have h2 := hl i h0 (by omega)
    refine V_iload dX5_owedTo_5 rfl ?_
    refine V_aload_n dX5_owedTo_7 rfl ?_
    refine V_getR (ci := 5) (j := 0) dX5_owedTo_8 s_71 rfl rfl i_X5_owedTo_X5 (by decide) f_X5_owedTo_7 ?_
    refine V_iload_n dX5_owedTo_11 rfl ?_
    refine V_bipush dX5_owedTo_12 rfl ?_
    refine V_iadd dX5_owedTo_14 ?_
    refine V_iald dX5_owedTo_15 s_72 (by omega) ?_
    refine V_icmp_ge (tgt := 60) dX5_owedTo_16 (by decide) (by omega) (by omega) (fun h16 => ?_) (fun h16 => ?_)
    · exact absurd h16 (by omega)
    · refine V_iload_n dX5_owedTo_19 rfl ?_
      refine V_aload_n dX5_owedTo_20 rfl ?_
      refine V_getR (ci := 5) (j := 0) dX5_owedTo_21 s_71 rfl rfl i_X5_owedTo_X5 (by decide) f_X5_owedTo_7 ?_
      refine V_iload_n dX5_owedTo_24 rfl ?_
      refine V_iload dX5_owedTo_25 rfl ?_
      refine V_iconst dX5_owedTo_27 ?_
      refine V_iS3 dX5_owedTo_28 o_X5_owedTo_136 (Nat.le_of_ble_eq_true rfl) (c_X5_placeOf G l) ?_
      rintro _ _ ⟨rfl, rfl⟩
      refine V_top (show o + 15 + 5 * i + 0 = o + 15 + 5 * i by omega) ?_
      refine V_iald dX5_owedTo_31 s_72 (by omega) ?_
      refine V_iload_n dX5_owedTo_32 rfl ?_
      refine V_icmp_ne (tgt := 51) dX5_owedTo_33 (by decide) (by omega) (by omega) (fun h33 => ?_) (fun h33 => ?_)
      · refine V_iconst dX5_owedTo_51 ?_
        refine V_iadd dX5_owedTo_52 ?_
        refine V_istore_n dX5_owedTo_53 (by decide) rfl ?_
        refine V_iinc dX5_owedTo_54 rfl (by decide) rfl ?_
        refine V_goto (tgt := 5) dX5_owedTo_57 (by decide) ?_
        refine ih _ _ (by omega) (by omega) ?_
        first
          | (rw [if_pos h33, ← Int.add_assoc] at hp; exact hp)
          | (rw [if_neg h33, ← Int.add_assoc] at hp; exact hp)
      · refine V_aload_n dX5_owedTo_36 rfl ?_
        refine V_getR (ci := 5) (j := 0) dX5_owedTo_37 s_71 rfl rfl i_X5_owedTo_X5 (by decide) f_X5_owedTo_7 ?_
        refine V_iload_n dX5_owedTo_40 rfl ?_
        refine V_iload dX5_owedTo_41 rfl ?_
        refine V_iconst dX5_owedTo_43 ?_
        refine V_iS3 dX5_owedTo_44 o_X5_owedTo_136 (Nat.le_of_ble_eq_true rfl) (c_X5_placeOf G l) ?_
        rintro _ _ ⟨rfl, rfl⟩
        refine V_top (show o + 15 + 5 * i + 2 = o + 17 + 5 * i by omega) ?_
        refine V_iald dX5_owedTo_47 s_72 (by omega) ?_
        refine V_goto (tgt := 52) dX5_owedTo_48 (by decide) ?_
        refine V_iadd dX5_owedTo_52 ?_
        refine V_istore_n dX5_owedTo_53 (by decide) rfl ?_
        refine V_iinc dX5_owedTo_54 rfl (by decide) rfl ?_
        refine V_goto (tgt := 5) dX5_owedTo_57 (by decide) ?_
        refine ih _ _ (by omega) (by omega) ?_
        first
          | (rw [if_pos h33, ← Int.add_assoc] at hp; exact hp)
          | (rw [if_neg h33, ← Int.add_assoc] at hp; exact hp)
set_option maxRecDepth 100000 in
set_option maxHeartbeats 4000000 in
theorem c_X5_owedTo (G : Gb) (l : Launch) {w : Wd} {o t : Int} (ht : inR t) (ho : 0 ≤ o ∧ o ≤ 300) (hn : 0 ≤ w 72 (o + 14) ∧ w 72 (o + 14) ≤ 12) (hl : ∀ i : Int, 0 ≤ i → i < w 72 (o + 14) → inR (w 72 (o + 15 + 5 * i))) : Ci G l yX5_owedTo mX5_owedTo [.ref (gA G 71), .int (iZ o), .int (iZ t)] w (fun z w' => z = owL t (mLs w o) ∧ w = w') := by
  refine V_start 2 (by decide) rfl rfl (Nat.le_of_ble_eq_true rfl) ?_
  show V G l mX5_owedTo _ 0 [some (.ref (gA G 71)), some (.int (iZ o)), some (.int (iZ t)), none, none] [] w
  refine V_iconst dX5_owedTo_0 ?_
  refine V_istore_n dX5_owedTo_1 (by decide) rfl ?_
  refine V_iconst dX5_owedTo_2 ?_
  refine V_istore dX5_owedTo_3 (by decide) rfl ?_
  exact l_X5_owedTo G l ht ho hn hl (w 72 (o + 14)).toNat 0 0 (by omega) (by omega) ⟨by simp, rfl⟩
set_option maxRecDepth 100000 in
set_option maxHeartbeats 4000000 in
theorem l_X5_owedAll (G : Gb) (l : Launch) {w : Wd} {o : Int} (ho : 0 ≤ o ∧ o ≤ 300) (hn : 0 ≤ w 72 (o + 14) ∧ w 72 (o + 14) ≤ 12) {Post : Int → Wd → Prop} : ∀ (n : Nat) (s i : Int), 0 ≤ i → i + n = w 72 (o + 14) → Post (s + oaL ((mLs w o).drop i.toNat)) w → V G l mX5_owedAll (Qi G Post) 4 [some (.ref (gA G 71)), some (.int (iZ o)), some (.int (iZ s)), some (.int (iZ i))] [] w := by
  intro n
  induction n with
  | zero =>
    intro s i h0 h1 hp
    refine V_iload_n dX5_owedAll_4 rfl ?_
    refine V_aload_n dX5_owedAll_5 rfl ?_
    refine V_getR (ci := 5) (j := 0) dX5_owedAll_6 s_71 rfl rfl i_X5_owedAll_X5 (by decide) f_X5_owedAll_7 ?_
    refine V_iload_n dX5_owedAll_9 rfl ?_
    refine V_bipush dX5_owedAll_10 rfl ?_
    refine V_iadd dX5_owedAll_12 ?_
    refine V_iald dX5_owedAll_13 s_72 (by omega) ?_
    refine V_icmp_ge (tgt := 37) dX5_owedAll_14 (by decide) (by omega) (by omega) (fun h14 => ?_) (fun h14 => ?_)
    · refine V_iload_n dX5_owedAll_37 rfl ?_
      exact V_iret dX5_owedAll_38 rfl (by rw [mLs_end (by omega)] at hp; simpa [oaL] using hp)
    · exact absurd h14 (by omega)
  | succ n ih =>
    intro s i h0 h1 hp
    rw [mLs_drop h0 (by omega), oaL] at hp
    refine V_iload_n dX5_owedAll_4 rfl ?_
    refine V_aload_n dX5_owedAll_5 rfl ?_
    refine V_getR (ci := 5) (j := 0) dX5_owedAll_6 s_71 rfl rfl i_X5_owedAll_X5 (by decide) f_X5_owedAll_7 ?_
    refine V_iload_n dX5_owedAll_9 rfl ?_
    refine V_bipush dX5_owedAll_10 rfl ?_
    refine V_iadd dX5_owedAll_12 ?_
    refine V_iald dX5_owedAll_13 s_72 (by omega) ?_
    refine V_icmp_ge (tgt := 37) dX5_owedAll_14 (by decide) (by omega) (by omega) (fun h14 => ?_) (fun h14 => ?_)
    · exact absurd h14 (by omega)
    · refine V_iload_n dX5_owedAll_17 rfl ?_
      refine V_aload_n dX5_owedAll_18 rfl ?_
      refine V_getR (ci := 5) (j := 0) dX5_owedAll_19 s_71 rfl rfl i_X5_owedAll_X5 (by decide) f_X5_owedAll_7 ?_
      refine V_iload_n dX5_owedAll_22 rfl ?_
      refine V_iload_n dX5_owedAll_23 rfl ?_
      refine V_iconst dX5_owedAll_24 ?_
      refine V_iS3 dX5_owedAll_25 o_X5_owedAll_136 (Nat.le_of_ble_eq_true rfl) (c_X5_placeOf G l) ?_
      rintro _ _ ⟨rfl, rfl⟩
      refine V_top (show o + 15 + 5 * i + 2 = o + 17 + 5 * i by omega) ?_
      refine V_iald dX5_owedAll_28 s_72 (by omega) ?_
      refine V_iadd dX5_owedAll_29 ?_
      refine V_istore_n dX5_owedAll_30 (by decide) rfl ?_
      refine V_iinc dX5_owedAll_31 rfl (by decide) rfl ?_
      refine V_goto (tgt := 4) dX5_owedAll_34 (by decide) ?_
      refine ih _ _ (by omega) (by omega) ?_
      rw [← Int.add_assoc] at hp
      exact hp
set_option maxRecDepth 100000 in
set_option maxHeartbeats 4000000 in
theorem c_X5_owedAll (G : Gb) (l : Launch) {w : Wd} {o : Int} (ho : 0 ≤ o ∧ o ≤ 300) (hn : 0 ≤ w 72 (o + 14) ∧ w 72 (o + 14) ≤ 12) : Ci G l yX5_owedAll mX5_owedAll [.ref (gA G 71), .int (iZ o)] w (fun z w' => z = oaL (mLs w o) ∧ w = w') := by
  refine V_start 2 (by decide) rfl rfl (Nat.le_of_ble_eq_true rfl) ?_
  show V G l mX5_owedAll _ 0 [some (.ref (gA G 71)), some (.int (iZ o)), none, none] [] w
  refine V_iconst dX5_owedAll_0 ?_
  refine V_istore_n dX5_owedAll_1 (by decide) rfl ?_
  refine V_iconst dX5_owedAll_2 ?_
  refine V_istore_n dX5_owedAll_3 (by decide) rfl ?_
  exact l_X5_owedAll G l ho hn (w 72 (o + 14)).toNat 0 0 (by omega) (by omega) ⟨by simp, rfl⟩
set_option maxRecDepth 100000 in
set_option maxHeartbeats 4000000 in
theorem l_X5_firstDue (G : Gb) (l : Launch) {w : Wd} {o : Int} (ho : 0 ≤ o ∧ o ≤ 300) (hn : 0 ≤ w 72 (o + 14) ∧ w 72 (o + 14) ≤ 12) (hu : ∀ i : Int, 0 ≤ i → i < w 72 (o + 14) → inR (w 72 (o + 18 + 5 * i))) {Post : Int → Wd → Prop} : ∀ (n : Nat) (f i : Int), 0 ≤ f → f < i → i + n = w 72 (o + 14) → Post ((fdF f.toNat (w 72 (o + 18 + 5 * f)) i.toNat ((mLs w o).drop i.toNat) : Nat) : Int) w → V G l mX5_firstDue (Qi G Post) 4 [some (.ref (gA G 71)), some (.int (iZ o)), some (.int (iZ f)), some (.int (iZ i))] [] w := by
  intro n
  induction n with
  | zero =>
    intro f i h0 h1 h2 hp
    refine V_iload_n dX5_firstDue_4 rfl ?_
    refine V_aload_n dX5_firstDue_5 rfl ?_
    refine V_getR (ci := 5) (j := 0) dX5_firstDue_6 s_71 rfl rfl i_X5_firstDue_X5 (by decide) f_X5_firstDue_7 ?_
    refine V_iload_n dX5_firstDue_9 rfl ?_
    refine V_bipush dX5_firstDue_10 rfl ?_
    refine V_iadd dX5_firstDue_12 ?_
    refine V_iald dX5_firstDue_13 s_72 (by omega) ?_
    refine V_icmp_ge (tgt := 59) dX5_firstDue_14 (by decide) (by omega) (by omega) (fun h14 => ?_) (fun h14 => ?_)
    · refine V_iload_n dX5_firstDue_59 rfl ?_
      exact V_iret dX5_firstDue_60 rfl (by rw [mLs_end (by omega), fdF, show ((f.toNat : Nat) : Int) = f by omega] at hp; exact hp)
    · exact absurd h14 (by omega)
  | succ n ih =>
    intro f i h0 h1 h2 hp
    rw [mLs_drop (by omega) (by omega), fdF] at hp
    have e : (i + 1).toNat = i.toNat + 1 := by omega
    refine V_iload_n dX5_firstDue_4 rfl ?_
    refine V_aload_n dX5_firstDue_5 rfl ?_
    refine V_getR (ci := 5) (j := 0) dX5_firstDue_6 s_71 rfl rfl i_X5_firstDue_X5 (by decide) f_X5_firstDue_7 ?_
    refine V_iload_n dX5_firstDue_9 rfl ?_
    refine V_bipush dX5_firstDue_10 rfl ?_
    refine V_iadd dX5_firstDue_12 ?_
    refine V_iald dX5_firstDue_13 s_72 (by omega) ?_
    refine V_icmp_ge (tgt := 59) dX5_firstDue_14 (by decide) (by omega) (by omega) (fun h14 => ?_) (fun h14 => ?_)
    · exact absurd h14 (by omega)
    · refine V_iload_n dX5_firstDue_17 rfl ?_
      refine V_iconst dX5_firstDue_18 ?_
      refine V_icmp_eq (tgt := 47) dX5_firstDue_19 (by decide) (by omega) (by omega) (fun h19 => ?_) (fun h19 => ?_)
      · exact absurd h19 (by omega)
      · refine V_aload_n dX5_firstDue_22 rfl ?_
        refine V_getR (ci := 5) (j := 0) dX5_firstDue_23 s_71 rfl rfl i_X5_firstDue_X5 (by decide) f_X5_firstDue_7 ?_
        refine V_iload_n dX5_firstDue_26 rfl ?_
        refine V_iload_n dX5_firstDue_27 rfl ?_
        refine V_iconst dX5_firstDue_28 ?_
        refine V_iS3 dX5_firstDue_29 o_X5_firstDue_136 (Nat.le_of_ble_eq_true rfl) (c_X5_placeOf G l) ?_
        rintro _ _ ⟨rfl, rfl⟩
        refine V_top (show o + 15 + 5 * i + 3 = o + 18 + 5 * i by omega) ?_
        refine V_iald dX5_firstDue_32 s_72 (by omega) ?_
        refine V_aload_n dX5_firstDue_33 rfl ?_
        refine V_getR (ci := 5) (j := 0) dX5_firstDue_34 s_71 rfl rfl i_X5_firstDue_X5 (by decide) f_X5_firstDue_7 ?_
        refine V_iload_n dX5_firstDue_37 rfl ?_
        refine V_iload_n dX5_firstDue_38 rfl ?_
        refine V_iconst dX5_firstDue_39 ?_
        refine V_iS3 dX5_firstDue_40 o_X5_firstDue_136 (Nat.le_of_ble_eq_true rfl) (c_X5_placeOf G l) ?_
        rintro _ _ ⟨rfl, rfl⟩
        refine V_top (show o + 15 + 5 * f + 3 = o + 18 + 5 * f by omega) ?_
        refine V_iald dX5_firstDue_43 s_72 (by omega) ?_
        have h3 := hu i (by omega) (by omega)
        have h4 := hu f (by omega) (by omega)
        refine V_icmp_ge (tgt := 51) dX5_firstDue_44 (by decide) (by omega) (by omega) (fun h44 => ?_) (fun h44 => ?_)
        · refine V_iload_n dX5_firstDue_51 rfl ?_
          refine V_istore_n dX5_firstDue_52 (by decide) rfl ?_
          refine V_iinc dX5_firstDue_53 rfl (by decide) rfl ?_
          refine V_goto (tgt := 4) dX5_firstDue_56 (by decide) ?_
          refine ih _ _ (by omega) (by omega) (by omega) ?_
          dsimp only at hp
          rw [e] at hp ⊢
          first
            | (rw [if_pos (by omega)] at hp; exact hp)
            | (rw [if_neg (by omega)] at hp; exact hp)
        · refine V_iload_n dX5_firstDue_47 rfl ?_
          refine V_goto (tgt := 52) dX5_firstDue_48 (by decide) ?_
          refine V_istore_n dX5_firstDue_52 (by decide) rfl ?_
          refine V_iinc dX5_firstDue_53 rfl (by decide) rfl ?_
          refine V_goto (tgt := 4) dX5_firstDue_56 (by decide) ?_
          refine ih _ _ (by omega) (by omega) (by omega) ?_
          dsimp only at hp
          rw [e] at hp ⊢
          first
            | (rw [if_pos (by omega)] at hp; exact hp)
            | (rw [if_neg (by omega)] at hp; exact hp)
set_option maxRecDepth 100000 in
set_option maxHeartbeats 4000000 in
theorem c_X5_firstDue (G : Gb) (l : Launch) {w : Wd} {o : Int} (ho : 0 ≤ o ∧ o ≤ 300) (hn : 0 ≤ w 72 (o + 14) ∧ w 72 (o + 14) ≤ 12) (hu : ∀ i : Int, 0 ≤ i → i < w 72 (o + 14) → inR (w 72 (o + 18 + 5 * i))) : Ci G l yX5_firstDue mX5_firstDue [.ref (gA G 71), .int (iZ o)] w (fun z w' => z = (if mLs w o = [] then -1 else ((fdL (mLs w o) : Nat) : Int)) ∧ w = w') := by
  refine V_start 2 (by decide) rfl rfl (Nat.le_of_ble_eq_true rfl) ?_
  show V G l mX5_firstDue _ 0 [some (.ref (gA G 71)), some (.int (iZ o)), none, none] [] w
  refine V_iconst dX5_firstDue_0 ?_
  refine V_istore_n dX5_firstDue_1 (by decide) rfl ?_
  refine V_iconst dX5_firstDue_2 ?_
  refine V_istore_n dX5_firstDue_3 (by decide) rfl ?_
  refine V_iload_n dX5_firstDue_4 rfl ?_
  refine V_aload_n dX5_firstDue_5 rfl ?_
  refine V_getR (ci := 5) (j := 0) dX5_firstDue_6 s_71 rfl rfl i_X5_firstDue_X5 (by decide) f_X5_firstDue_7 ?_
  refine V_iload_n dX5_firstDue_9 rfl ?_
  refine V_bipush dX5_firstDue_10 rfl ?_
  refine V_iadd dX5_firstDue_12 ?_
  refine V_iald dX5_firstDue_13 s_72 (by omega) ?_
  refine V_icmp_ge (tgt := 59) dX5_firstDue_14 (by decide) (by omega) (by omega) (fun h14 => ?_) (fun h14 => ?_)
  · refine V_iload_n dX5_firstDue_59 rfl ?_
    exact V_iret dX5_firstDue_60 rfl ⟨by rw [if_pos (mLs_nil (by omega))], rfl⟩
  · refine V_iload_n dX5_firstDue_17 rfl ?_
    refine V_iconst dX5_firstDue_18 ?_
    refine V_icmp_eq (tgt := 47) dX5_firstDue_19 (by decide) (by omega) (by omega) (fun h19 => ?_) (fun h19 => ?_)
    · refine V_iload_n dX5_firstDue_47 rfl ?_
      refine V_goto (tgt := 52) dX5_firstDue_48 (by decide) ?_
      refine V_istore_n dX5_firstDue_52 (by decide) rfl ?_
      refine V_iinc dX5_firstDue_53 rfl (by decide) rfl ?_
      refine V_goto (tgt := 4) dX5_firstDue_56 (by decide) ?_
      refine l_X5_firstDue G l ho (by omega) hu (w 72 (o + 14) - 1).toNat 0 (0 + 1) (by omega) (by omega) (by omega) ⟨?_, rfl⟩
      have h5 := mLs_drop (w := w) (o := o) (i := 0) (by omega) (by omega)
      have h6 : (mLs w o).drop (0 : Int).toNat = mLs w o := rfl
      rw [h6] at h5
      rw [h5, if_neg (by simp)]
      rfl
    · exact absurd rfl h19

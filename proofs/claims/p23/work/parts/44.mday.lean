/-! ===== 44 the reference: a day ===== -/
def frO (o : Int) (w w' : Wd) : Prop := ∀ (k : Nat) (j : Int), (k ≠ 72 ∨ j < o ∨ o + 75 ≤ j) → w' k j = w k j
/-- owed has grown from loan i on -/
def gwR (o i : Int) (w w' : Wd) : Prop := (∀ m : Int, i ≤ m → m < w 72 (o + 14) → w' 72 (o + 17 + 5 * m) = grw (w 76 (w 72 (o + 15 + 5 * m))) (w 77 (w 72 (o + 15 + 5 * m))) (w 72 (o + 17 + 5 * m)) (w 72 (o + 16 + 5 * m))) ∧ ∀ (k : Nat) (j : Int), (k ≠ 72 ∨ ∀ m : Int, i ≤ m → m < w 72 (o + 14) → j ≠ o + 17 + 5 * m) → w' k j = w k j
theorem gwR_end {o i : Int} {w : Wd} (h : w 72 (o + 14) ≤ i) : gwR o i w w := ⟨fun m g0 g1 => by omega, fun _ _ _ => rfl⟩
theorem gwR_step {o i z : Int} {w w' : Wd} (h0 : 0 ≤ i) (hi : i < w 72 (o + 14)) (hz : z = grw (w 76 (w 72 (o + 15 + 5 * i))) (w 77 (w 72 (o + 15 + 5 * i))) (w 72 (o + 17 + 5 * i)) (w 72 (o + 16 + 5 * i))) (h : gwR o (i + 1) (up w 72 (o + 17 + 5 * i) z) w') : gwR o i w w' := by
  obtain ⟨h1, h2⟩ := h
  have e14 : up w 72 (o + 17 + 5 * i) z 72 (o + 14) = w 72 (o + 14) := up_ne (Or.inr (by omega))
  rw [e14] at h1 h2
  refine ⟨fun m g0 g1 => ?_, fun k j q => ?_⟩
  · by_cases e : m = i
    · subst e
      rw [h2 72 _ (Or.inr (fun m' q0 q1 => by omega)), up_eq, hz]
    · have := h1 m (by omega) g1
      have u : ∀ (k : Nat) (j : Int), (k ≠ 72 ∨ j ≠ o + 17 + 5 * i) → up w 72 (o + 17 + 5 * i) z k j = w k j := fun k j q => up_ne q
      rw [u 72 (o + 15 + 5 * m) (by omega), u 72 (o + 17 + 5 * m) (by omega), u 72 (o + 16 + 5 * m) (by omega), u 76 _ (by omega), u 77 _ (by omega)] at this
      exact this
  · rw [h2 k j (q.imp_right (fun f m g0 g1 => f m (by omega) g1))]
    rcases q with q | q
    · exact up_ne (Or.inl q)
    · exact up_ne (Or.inr (q i (by omega) hi))
set_option maxRecDepth 100000 in
set_option maxHeartbeats 4000000 in
theorem l1_X5_day (G : Gb) (l : Launch) {o v : Int} (ho : 0 ≤ o ∧ o ≤ 300) {Qc : Array Value → State → Outcome → State → Prop} {o4 : Option Value} : ∀ (n : Nat) (i : Int) (w : Wd), 0 ≤ i → i + n = w 72 (o + 14) → w 72 (o + 14) ≤ 12 → (∀ i : Int, 0 ≤ i → i < w 72 (o + 14) → (0 ≤ w 72 (o + 15 + 5 * i) ∧ w 72 (o + 15 + 5 * i) < 6) ∧ (0 ≤ w 72 (o + 16 + 5 * i) ∧ w 72 (o + 16 + 5 * i) ≤ 99) ∧ (0 ≤ w 72 (o + 17 + 5 * i) ∧ w 72 (o + 17 + 5 * i) ≤ 1000000)) → (∀ t : Int, 0 ≤ t → t < 6 → (0 ≤ w 76 t ∧ w 76 t ≤ 3) ∧ (0 ≤ w 77 t ∧ w 77 t ≤ 50)) → (∀ i' w', gwR o i w w' → V G l mX5_day Qc 69 [some (.ref (gA G 71)), some (.int (iZ o)), some (.int (iZ v)), some (.int (iZ i')), o4] [] w') → V G l mX5_day Qc 2 [some (.ref (gA G 71)), some (.int (iZ o)), some (.int (iZ v)), some (.int (iZ i)), o4] [] w := by
  intro n
  induction n with
  | zero =>
    intro i w h0 h1 h2 hs hk hp
    refine V_iload_n dX5_day_2 rfl ?_
    refine V_aload_n dX5_day_3 rfl ?_
    refine V_getR (ci := 5) (j := 0) dX5_day_4 s_71 rfl rfl i_X5_day_X5 (by decide) f_X5_day_7 ?_
    refine V_iload_n dX5_day_7 rfl ?_
    refine V_bipush dX5_day_8 rfl ?_
    refine V_iadd dX5_day_10 ?_
    refine V_iald dX5_day_11 s_72 (by omega) ?_
    refine V_icmp_ge (tgt := 69) dX5_day_12 (by decide) (by omega) (by omega) (fun h12 => ?_) (fun h12 => ?_)
    · exact hp _ _ (gwR_end (by omega))
    · exact absurd h12 (by omega)
  | succ n ih =>
    intro i w h0 h1 h2 hs hk hp
    have q1 := hs i h0 (by omega)
    have q2 := hk _ q1.1.1 q1.1.2
    refine V_iload_n dX5_day_2 rfl ?_
    refine V_aload_n dX5_day_3 rfl ?_
    refine V_getR (ci := 5) (j := 0) dX5_day_4 s_71 rfl rfl i_X5_day_X5 (by decide) f_X5_day_7 ?_
    refine V_iload_n dX5_day_7 rfl ?_
    refine V_bipush dX5_day_8 rfl ?_
    refine V_iadd dX5_day_10 ?_
    refine V_iald dX5_day_11 s_72 (by omega) ?_
    refine V_icmp_ge (tgt := 69) dX5_day_12 (by decide) (by omega) (by omega) (fun h12 => ?_) (fun h12 => ?_)
    · exact absurd h12 (by omega)
    · refine V_aload_n dX5_day_15 rfl ?_
      refine V_getR (ci := 5) (j := 0) dX5_day_16 s_71 rfl rfl i_X5_day_X5 (by decide) f_X5_day_7 ?_
      refine V_iload_n dX5_day_19 rfl ?_
      refine V_iload_n dX5_day_20 rfl ?_
      refine V_iconst dX5_day_21 ?_
      refine V_iS3 dX5_day_22 o_X5_day_136 (Nat.le_of_ble_eq_true rfl) (c_X5_placeOf G l) ?_
      rintro _ _ ⟨rfl, rfl⟩
      refine V_top (show o + 15 + 5 * i + 2 = o + 17 + 5 * i by omega) ?_
      refine V_aload_n dX5_day_25 rfl ?_
      refine V_aload_n dX5_day_26 rfl ?_
      refine V_getR (ci := 5) (j := 0) dX5_day_27 s_71 rfl rfl i_X5_day_X5 (by decide) f_X5_day_7 ?_
      refine V_iload_n dX5_day_30 rfl ?_
      refine V_iload_n dX5_day_31 rfl ?_
      refine V_iconst dX5_day_32 ?_
      refine V_iS3 dX5_day_33 o_X5_day_136 (Nat.le_of_ble_eq_true rfl) (c_X5_placeOf G l) ?_
      rintro _ _ ⟨rfl, rfl⟩
      refine V_top (show o + 15 + 5 * i + 0 = o + 15 + 5 * i by omega) ?_
      refine V_iald dX5_day_36 s_72 (by omega) ?_
      refine V_aload_n dX5_day_37 rfl ?_
      refine V_getR (ci := 5) (j := 0) dX5_day_38 s_71 rfl rfl i_X5_day_X5 (by decide) f_X5_day_7 ?_
      refine V_iload_n dX5_day_41 rfl ?_
      refine V_iload_n dX5_day_42 rfl ?_
      refine V_iconst dX5_day_43 ?_
      refine V_iS3 dX5_day_44 o_X5_day_136 (Nat.le_of_ble_eq_true rfl) (c_X5_placeOf G l) ?_
      rintro _ _ ⟨rfl, rfl⟩
      refine V_top (show o + 15 + 5 * i + 2 = o + 17 + 5 * i by omega) ?_
      refine V_iald dX5_day_47 s_72 (by omega) ?_
      refine V_aload_n dX5_day_48 rfl ?_
      refine V_getR (ci := 5) (j := 0) dX5_day_49 s_71 rfl rfl i_X5_day_X5 (by decide) f_X5_day_7 ?_
      refine V_iload_n dX5_day_52 rfl ?_
      refine V_iload_n dX5_day_53 rfl ?_
      refine V_iconst dX5_day_54 ?_
      refine V_iS3 dX5_day_55 o_X5_day_136 (Nat.le_of_ble_eq_true rfl) (c_X5_placeOf G l) ?_
      rintro _ _ ⟨rfl, rfl⟩
      refine V_top (show o + 15 + 5 * i + 1 = o + 16 + 5 * i by omega) ?_
      refine V_iald dX5_day_58 s_72 (by omega) ?_
      refine V_iV3 dX5_day_59 o_X5_day_160 s_71 rfl (Nat.le_of_ble_eq_true rfl) (c_X5_grown G l (t := w 72 (o + 15 + 5 * i)) q1.1 q1.2.2 q1.2.1 q2.1 q2.2) ?_
      rintro z _ ⟨hz, rfl⟩
      have hb := grw_bd (k := w 76 (w 72 (o + 15 + 5 * i))) (r := w 77 (w 72 (o + 15 + 5 * i))) (o := w 72 (o + 17 + 5 * i)) (n := w 72 (o + 16 + 5 * i)) q1.2.2 q1.2.1 q2.2
      rw [← hz] at hb
      refine V_iast dX5_day_62 s_72 (by omega) ?_
      refine V_iinc dX5_day_63 rfl (by decide) rfl ?_
      refine V_goto (tgt := 2) dX5_day_66 (by decide) ?_
      refine ih (i + 1) _ (by omega) (by rw [up_ne (Or.inr (by omega))]; omega) (by rw [up_ne (Or.inr (by omega))]; exact h2) (fun m g0 g1 => ?_) (fun t g0 g1 => ?_) (fun i' w' h => hp i' w' (gwR_step h0 (by omega) hz h))
      · rw [up_ne (Or.inr (by omega))] at g1
        rw [up_ne (Or.inr (by omega)), up_ne (Or.inr (by omega))]
        have q3 := hs m g0 g1
        refine ⟨q3.1, q3.2.1, ?_⟩
        by_cases e : m = i
        · subst e; rw [up_eq]; omega
        · rw [up_ne (Or.inr (by omega))]; exact q3.2.2
      · rw [up_ne (Or.inl (by omega)), up_ne (Or.inl (by omega))]; exact hk t g0 g1
def fcM (w : Wd) (o D : Int) : Nat → Int → Int
  | 0, _ => 0
  | n + 1, i => (if w 72 (o + 18 + 5 * i) ≤ D ∧ w 72 (o + 19 + 5 * i) = 0 then 1 else 0) + fcM w o D n (i + 1)
theorem fcM_eq {w w' : Wd} {o D : Int} : ∀ (n : Nat) (i : Int), (∀ m : Int, i ≤ m → w' 72 (o + 18 + 5 * m) = w 72 (o + 18 + 5 * m) ∧ w' 72 (o + 19 + 5 * m) = w 72 (o + 19 + 5 * m)) → fcM w' o D n i = fcM w o D n i
  | 0, i, h => rfl
  | n + 1, i, h => by rw [fcM, fcM, (h i (by omega)).1, (h i (by omega)).2, fcM_eq n (i + 1) (fun m g => h m (by omega))]
theorem fcM_bd {w : Wd} {o D : Int} : ∀ (n : Nat) (i : Int), 0 ≤ fcM w o D n i ∧ fcM w o D n i ≤ n
  | 0, i => by rw [fcM]; omega
  | n + 1, i => by rw [fcM]; have := fcM_bd (w := w) (o := o) (D := D) n (i + 1); split <;> omega
theorem fcM_cnt {w : Wd} {o D : Int} : ∀ (n : Nat) (i : Int), 0 ≤ i → i + n = w 72 (o + 14) → fcM w o D n i = ((((mLs w o).drop i.toNat).countP (flP D) : Nat) : Int)
  | 0, i, h0, h1 => by rw [mLs_end (by omega)]; rfl
  | n + 1, i, h0, h1 => by
    rw [mLs_drop h0 (by omega), List.countP_cons, fcM, fcM_cnt n (i + 1) (by omega) (by omega)]
    unfold flP
    dsimp only
    by_cases h : w 72 (o + 18 + 5 * i) ≤ D ∧ w 72 (o + 19 + 5 * i) = 0
    · rw [if_pos h, if_pos (by simpa using h)]
      omega
    · rw [if_neg h, if_neg (by simpa using h)]
      omega
/-- loans have failed from i on -/
def flR (o D i : Int) (n : Nat) (w w' : Wd) : Prop := (∀ m : Int, i ≤ m → m < i + n → w' 72 (o + 19 + 5 * m) = if w 72 (o + 18 + 5 * m) ≤ D ∧ w 72 (o + 19 + 5 * m) = 0 then 1 else w 72 (o + 19 + 5 * m)) ∧ w' 72 (o + 1) = w 72 (o + 1) + fcM w o D n i ∧ ∀ (k : Nat) (j : Int), (k ≠ 72 ∨ (j ≠ o + 1 ∧ ∀ m : Int, i ≤ m → m < i + n → j ≠ o + 19 + 5 * m)) → w' k j = w k j
theorem flR_end {o D i : Int} {w : Wd} : flR o D i 0 w w := ⟨fun m g0 g1 => by omega, by rw [fcM]; omega, fun _ _ _ => rfl⟩
theorem flR_step {o D i f : Int} {n : Nat} {w w' : Wd} (h0 : 0 ≤ i) (hf : f = if w 72 (o + 18 + 5 * i) ≤ D ∧ w 72 (o + 19 + 5 * i) = 0 then 1 else 0) (h : flR o D (i + 1) n (up (up w 72 (o + 19 + 5 * i) (w 72 (o + 19 + 5 * i) + f)) 72 (o + 1) (w 72 (o + 1) + f)) w') : flR o D i (n + 1) w w' := by
  obtain ⟨h1, h2, h3⟩ := h
  refine ⟨fun m g0 g1 => ?_, ?_, fun k j q => ?_⟩
  · by_cases e : m = i
    · subst e
      rw [h3 72 _ (Or.inr ⟨by omega, fun m' q0 q1 => by omega⟩), up_ne (Or.inr (by omega)), up_eq, hf]
      split <;> omega
    · have := h1 m (by omega) (by omega)
      rw [up_ne (Or.inr (by omega)), up_ne (Or.inr (by omega)), up_ne (Or.inr (by omega)), up_ne (Or.inr (by omega))] at this
      exact this
  · rw [h2, up_eq, fcM, fcM_eq (w := w) n (i + 1) (fun m g => ⟨by rw [up_ne (Or.inr (by omega)), up_ne (Or.inr (by omega))], by rw [up_ne (Or.inr (by omega)), up_ne (Or.inr (by omega))]⟩), ← hf]
    omega
  · rw [h3 k j (q.imp_right (fun f => ⟨f.1, fun m g0 g1 => f.2 m (by omega) (by omega)⟩))]
    rcases q with q | q
    · rw [up_ne (Or.inl q), up_ne (Or.inl q)]
    · rw [up_ne (Or.inr q.1), up_ne (Or.inr (q.2 i (by omega) (by omega)))]
set_option maxRecDepth 100000 in
set_option maxHeartbeats 4000000 in
theorem s_X5_day (G : Gb) (l : Launch) {w : Wd} {o v i f : Int} (ho : 0 ≤ o ∧ o ≤ 300) (hi : 0 ≤ i ∧ i < 12) (hf : f = 0 ∨ f = 1) {Qc : Array Value → State → Outcome → State → Prop} (hp : V G l mX5_day Qc 77 [some (.ref (gA G 71)), some (.int (iZ o)), some (.int (iZ v)), some (.int (iZ (i + 1))), some (.int (iZ f))] [] (up (up w 72 (o + 19 + 5 * i) (w 72 (o + 19 + 5 * i) + f)) 72 (o + 1) (w 72 (o + 1) + f))) : V G l mX5_day Qc 133 [some (.ref (gA G 71)), some (.int (iZ o)), some (.int (iZ v)), some (.int (iZ i)), some (.int (iZ f))] [] w := by
  rcases hf with rfl | rfl
  · refine V_aload_n dX5_day_133 rfl ?_
    refine V_getR (ci := 5) (j := 0) dX5_day_134 s_71 rfl rfl i_X5_day_X5 (by decide) f_X5_day_7 ?_
    refine V_iload_n dX5_day_137 rfl ?_
    refine V_iload_n dX5_day_138 rfl ?_
    refine V_iconst dX5_day_139 ?_
    refine V_iS3 dX5_day_140 o_X5_day_136 (Nat.le_of_ble_eq_true rfl) (c_X5_placeOf G l) ?_
    rintro _ _ ⟨rfl, rfl⟩
    refine V_top (show o + 15 + 5 * i + 4 = o + 19 + 5 * i by omega) ?_
    refine V_dup2 dX5_day_143 rfl rfl ?_
    refine V_iald dX5_day_144 s_72 (by omega) ?_
    refine V_iload dX5_day_145 rfl ?_
    refine V_if_eq (tgt := 154) dX5_day_147 (by decide) (by omega) (fun h147 => ?_) (fun h147 => ?_)
    · refine V_iconst dX5_day_154 ?_
      refine V_iadd dX5_day_155 ?_
      refine V_iast dX5_day_156 s_72 (by omega) ?_
      refine V_aload_n dX5_day_157 rfl ?_
      refine V_getR (ci := 5) (j := 0) dX5_day_158 s_71 rfl rfl i_X5_day_X5 (by decide) f_X5_day_7 ?_
      refine V_iload_n dX5_day_161 rfl ?_
      refine V_iconst dX5_day_162 ?_
      refine V_iadd dX5_day_163 ?_
      refine V_dup2 dX5_day_164 rfl rfl ?_
      refine V_ialdE (z := w 72 (o + 1)) dX5_day_165 s_72 (by omega) (up_ne (Or.inr (by omega))) ?_
      refine V_iload dX5_day_166 rfl ?_
      refine V_if_eq (tgt := 175) dX5_day_168 (by decide) (by omega) (fun h168 => ?_) (fun h168 => ?_)
      · refine V_iconst dX5_day_175 ?_
        refine V_iadd dX5_day_176 ?_
        refine V_iast dX5_day_177 s_72 (by omega) ?_
        refine V_iinc dX5_day_178 rfl (by decide) rfl ?_
        refine V_goto (tgt := 77) dX5_day_181 (by decide) ?_
        exact hp
      · exact absurd rfl h168
    · exact absurd rfl h147
  · refine V_aload_n dX5_day_133 rfl ?_
    refine V_getR (ci := 5) (j := 0) dX5_day_134 s_71 rfl rfl i_X5_day_X5 (by decide) f_X5_day_7 ?_
    refine V_iload_n dX5_day_137 rfl ?_
    refine V_iload_n dX5_day_138 rfl ?_
    refine V_iconst dX5_day_139 ?_
    refine V_iS3 dX5_day_140 o_X5_day_136 (Nat.le_of_ble_eq_true rfl) (c_X5_placeOf G l) ?_
    rintro _ _ ⟨rfl, rfl⟩
    refine V_top (show o + 15 + 5 * i + 4 = o + 19 + 5 * i by omega) ?_
    refine V_dup2 dX5_day_143 rfl rfl ?_
    refine V_iald dX5_day_144 s_72 (by omega) ?_
    refine V_iload dX5_day_145 rfl ?_
    refine V_if_eq (tgt := 154) dX5_day_147 (by decide) (by omega) (fun h147 => ?_) (fun h147 => ?_)
    · exact absurd h147 (by decide)
    · refine V_iconst dX5_day_150 ?_
      refine V_goto (tgt := 155) dX5_day_151 (by decide) ?_
      refine V_iadd dX5_day_155 ?_
      refine V_iast dX5_day_156 s_72 (by omega) ?_
      refine V_aload_n dX5_day_157 rfl ?_
      refine V_getR (ci := 5) (j := 0) dX5_day_158 s_71 rfl rfl i_X5_day_X5 (by decide) f_X5_day_7 ?_
      refine V_iload_n dX5_day_161 rfl ?_
      refine V_iconst dX5_day_162 ?_
      refine V_iadd dX5_day_163 ?_
      refine V_dup2 dX5_day_164 rfl rfl ?_
      refine V_ialdE (z := w 72 (o + 1)) dX5_day_165 s_72 (by omega) (up_ne (Or.inr (by omega))) ?_
      refine V_iload dX5_day_166 rfl ?_
      refine V_if_eq (tgt := 175) dX5_day_168 (by decide) (by omega) (fun h168 => ?_) (fun h168 => ?_)
      · exact absurd h168 (by decide)
      · refine V_iconst dX5_day_171 ?_
        refine V_goto (tgt := 176) dX5_day_172 (by decide) ?_
        refine V_iadd dX5_day_176 ?_
        refine V_iast dX5_day_177 s_72 (by omega) ?_
        refine V_iinc dX5_day_178 rfl (by decide) rfl ?_
        refine V_goto (tgt := 77) dX5_day_181 (by decide) ?_
        exact hp
set_option maxRecDepth 100000 in
set_option maxHeartbeats 4000000 in
theorem l2_X5_day (G : Gb) (l : Launch) {o v D : Int} (ho : 0 ≤ o ∧ o ≤ 300) (rD : inR D) {Qc : Array Value → State → Outcome → State → Prop} : ∀ (n : Nat) (i : Int) (w : Wd) (o4 : Option Value), 0 ≤ i → i + n = w 72 (o + 14) → w 72 (o + 14) ≤ 12 → w 72 o = D → (∀ m : Int, i ≤ m → m < w 72 (o + 14) → inR (w 72 (o + 18 + 5 * m)) ∧ inR (w 72 (o + 19 + 5 * m))) → (∀ i' w' o4, flR o D i n w w' → V G l mX5_day Qc 184 [some (.ref (gA G 71)), some (.int (iZ o)), some (.int (iZ v)), some (.int (iZ i')), o4] [] w') → V G l mX5_day Qc 77 [some (.ref (gA G 71)), some (.int (iZ o)), some (.int (iZ v)), some (.int (iZ i)), o4] [] w := by
  intro n
  induction n with
  | zero =>
    intro i w o4 h0 h1 h2 hD hs hp
    refine V_iload_n dX5_day_77 rfl ?_
    refine V_aload_n dX5_day_78 rfl ?_
    refine V_getR (ci := 5) (j := 0) dX5_day_79 s_71 rfl rfl i_X5_day_X5 (by decide) f_X5_day_7 ?_
    refine V_iload_n dX5_day_82 rfl ?_
    refine V_bipush dX5_day_83 rfl ?_
    refine V_iadd dX5_day_85 ?_
    refine V_iald dX5_day_86 s_72 (by omega) ?_
    refine V_icmp_ge (tgt := 184) dX5_day_87 (by decide) (by omega) (by omega) (fun h87 => ?_) (fun h87 => ?_)
    · exact hp _ _ _ flR_end
    · exact absurd h87 (by omega)
  | succ n ih =>
    intro i w o4 h0 h1 h2 hD hs hp
    have q1 := hs i (by omega) (by omega)
    refine V_iload_n dX5_day_77 rfl ?_
    refine V_aload_n dX5_day_78 rfl ?_
    refine V_getR (ci := 5) (j := 0) dX5_day_79 s_71 rfl rfl i_X5_day_X5 (by decide) f_X5_day_7 ?_
    refine V_iload_n dX5_day_82 rfl ?_
    refine V_bipush dX5_day_83 rfl ?_
    refine V_iadd dX5_day_85 ?_
    refine V_iald dX5_day_86 s_72 (by omega) ?_
    refine V_icmp_ge (tgt := 184) dX5_day_87 (by decide) (by omega) (by omega) (fun h87 => ?_) (fun h87 => ?_)
    · exact absurd h87 (by omega)
    · refine V_aload_n dX5_day_90 rfl ?_
      refine V_getR (ci := 5) (j := 0) dX5_day_91 s_71 rfl rfl i_X5_day_X5 (by decide) f_X5_day_7 ?_
      refine V_iload_n dX5_day_94 rfl ?_
      refine V_iload_n dX5_day_95 rfl ?_
      refine V_iconst dX5_day_96 ?_
      refine V_iS3 dX5_day_97 o_X5_day_136 (Nat.le_of_ble_eq_true rfl) (c_X5_placeOf G l) ?_
      rintro _ _ ⟨rfl, rfl⟩
      refine V_top (show o + 15 + 5 * i + 4 = o + 19 + 5 * i by omega) ?_
      refine V_iald dX5_day_100 s_72 (by omega) ?_
      refine V_if_ne (tgt := 130) dX5_day_101 (by decide) (by omega) (fun h101 => ?_) (fun h101 => ?_)
      · refine V_iconst dX5_day_130 ?_
        refine V_istore dX5_day_131 (by decide) rfl ?_
        refine s_X5_day G l ho (by omega) (by omega) ?_
        refine ih (i + 1) _ _ (by omega) (by rw [up_ne (Or.inr (by omega)), up_ne (Or.inr (by omega))]; omega) (by rw [up_ne (Or.inr (by omega)), up_ne (Or.inr (by omega))]; exact h2) (by rw [up_ne (Or.inr (by omega)), up_ne (Or.inr (by omega))]; exact hD) (fun m g0 g1 => ?_) (fun i' w' o4 h => hp i' w' o4 (flR_step h0 (by first | rw [if_pos (by omega)] | rw [if_neg (by omega)]) h))
        rw [up_ne (Or.inr (by omega)), up_ne (Or.inr (by omega))] at g1
        rw [up_ne (Or.inr (by omega)), up_ne (Or.inr (by omega)), up_ne (Or.inr (by omega))]
        have q3 := hs m (by omega) g1
        refine ⟨q3.1, ?_⟩
        rw [up_ne (Or.inr (by omega))]
        exact q3.2
      · refine V_aload_n dX5_day_104 rfl ?_
        refine V_getR (ci := 5) (j := 0) dX5_day_105 s_71 rfl rfl i_X5_day_X5 (by decide) f_X5_day_7 ?_
        refine V_iload_n dX5_day_108 rfl ?_
        refine V_iload_n dX5_day_109 rfl ?_
        refine V_iconst dX5_day_110 ?_
        refine V_iS3 dX5_day_111 o_X5_day_136 (Nat.le_of_ble_eq_true rfl) (c_X5_placeOf G l) ?_
        rintro _ _ ⟨rfl, rfl⟩
        refine V_top (show o + 15 + 5 * i + 3 = o + 18 + 5 * i by omega) ?_
        refine V_iald dX5_day_114 s_72 (by omega) ?_
        refine V_aload_n dX5_day_115 rfl ?_
        refine V_getR (ci := 5) (j := 0) dX5_day_116 s_71 rfl rfl i_X5_day_X5 (by decide) f_X5_day_7 ?_
        refine V_iload_n dX5_day_119 rfl ?_
        refine V_iconst dX5_day_120 ?_
        refine V_iadd dX5_day_121 ?_
        refine V_ialdE (z := D) dX5_day_122 s_72 (by omega) (by rw [Int.add_zero]; exact hD) ?_
        refine V_icmp_gt (tgt := 130) dX5_day_123 (by decide) (by omega) (by omega) (fun h123 => ?_) (fun h123 => ?_)
        · refine V_iconst dX5_day_130 ?_
          refine V_istore dX5_day_131 (by decide) rfl ?_
          refine s_X5_day G l ho (by omega) (by omega) ?_
          refine ih (i + 1) _ _ (by omega) (by rw [up_ne (Or.inr (by omega)), up_ne (Or.inr (by omega))]; omega) (by rw [up_ne (Or.inr (by omega)), up_ne (Or.inr (by omega))]; exact h2) (by rw [up_ne (Or.inr (by omega)), up_ne (Or.inr (by omega))]; exact hD) (fun m g0 g1 => ?_) (fun i' w' o4 h => hp i' w' o4 (flR_step h0 (by first | rw [if_pos (by omega)] | rw [if_neg (by omega)]) h))
          rw [up_ne (Or.inr (by omega)), up_ne (Or.inr (by omega))] at g1
          rw [up_ne (Or.inr (by omega)), up_ne (Or.inr (by omega)), up_ne (Or.inr (by omega))]
          have q3 := hs m (by omega) g1
          refine ⟨q3.1, ?_⟩
          rw [up_ne (Or.inr (by omega))]
          exact q3.2
        · refine V_iconst dX5_day_126 ?_
          refine V_goto (tgt := 131) dX5_day_127 (by decide) ?_
          refine V_istore dX5_day_131 (by decide) rfl ?_
          refine s_X5_day G l ho (by omega) (by omega) ?_
          refine ih (i + 1) _ _ (by omega) (by rw [up_ne (Or.inr (by omega)), up_ne (Or.inr (by omega))]; omega) (by rw [up_ne (Or.inr (by omega)), up_ne (Or.inr (by omega))]; exact h2) (by rw [up_ne (Or.inr (by omega)), up_ne (Or.inr (by omega))]; exact hD) (fun m g0 g1 => ?_) (fun i' w' o4 h => hp i' w' o4 (flR_step h0 (by first | rw [if_pos (by omega)] | rw [if_neg (by omega)]) h))
          rw [up_ne (Or.inr (by omega)), up_ne (Or.inr (by omega))] at g1
          rw [up_ne (Or.inr (by omega)), up_ne (Or.inr (by omega)), up_ne (Or.inr (by omega))]
          have q3 := hs m (by omega) g1
          refine ⟨q3.1, ?_⟩
          rw [up_ne (Or.inr (by omega))]
          exact q3.2
theorem okTm.kr {w : Wd} (h : okTm w) : okKR (gl w 76 0 6) (gl w 77 0 6) := by
  refine ⟨⟨gl_len _ _ _ _, fun x hx => ?_⟩, ⟨gl_len _ _ _ _, fun x hx => ?_⟩⟩
  · obtain ⟨i, h0, h1, rfl⟩ := gl_mem hx
    rw [Int.zero_add]
    exact (h.2.2.2.1 i h0 h1).1
  · obtain ⟨i, h0, h1, rfl⟩ := gl_mem hx
    rw [Int.zero_add]
    exact (h.2.2.2.1 i h0 h1).2.2.1
def dyM (c o hands : Int) (n : Nat) (w w' : Wd) : Prop := okM c w' o ∧ mAS w' o = dysS (gl w 76 0 6) (gl w 77 0 6) hands n (mAS w o) ∧ frO o w w'
/-- grown, worked, failed, the day counted: one day -/
theorem dy_stepM {c o v : Int} {w w1 w2 w3 : Wd} (ho : okM c w o) (hT : okTm w) (hy : w 72 o < 20000) (h1 : gwR o 0 w w1) (h2 : wkM o 12 (v * 100) w1 w2) (h3 : flR o (w 72 o) 0 (w2 72 (o + 14)).toNat w2 w3) : dyM c o v 1 w (up w3 72 o (w3 72 o + 1)) := by
  obtain ⟨a1, a2, a3⟩ := h2
  obtain ⟨b1, b2, b3⟩ := h3
  have kn := ho.n
  have n2 := a1.1
  have g : ∀ j : Int, (j < o + 15 ∨ ∀ m : Int, 0 ≤ m → m < w 72 (o + 14) → j ≠ o + 17 + 5 * m) → w1 72 j = w 72 j := fun j q => h1.2 72 j (Or.inr (by
    rcases q with q | q
    · intro m g0 g1; omega
    · exact q))
  have eL : mLs w1 o = (mLs w o).map (grL (gl w 76 0 6) (gl w 77 0 6)) := by
    apply mLs_map (g _ (Or.inl (by omega)))
    intro i hi
    have q := ho.ln (i := (i : Int)) (by omega) hi
    unfold mLn grL
    dsimp only
    rw [g _ (Or.inr (fun m _ _ => by omega)), g _ (Or.inr (fun m _ _ => by omega)), h1.1 i (by omega) hi, g _ (Or.inr (fun m _ _ => by omega)), g _ (Or.inr (fun m _ _ => by omega)), gl_D q.1.1 (by omega), gl_D q.1.1 (by omega), Int.zero_add]
  have eH : gl w1 72 (o + 2) 6 = gl w 72 (o + 2) 6 := gl_eq (fun i _ _ => g _ (Or.inl (by omega)))
  rw [eL, eH] at a2
  have e0 : w2 72 o = w 72 o := by rw [a3 _ _ (by omega), g _ (Or.inl (by omega))]
  have e9 : w2 72 (o + 1) = w 72 (o + 1) := by rw [a3 _ _ (by omega), g _ (Or.inl (by omega))]
  have f : ∀ j : Int, j ≠ o + 1 → (j < o + 15 ∨ o + 75 ≤ j ∨ ∀ m : Int, 0 ≤ m → m < w2 72 (o + 14) → j ≠ o + 19 + 5 * m) → w3 72 j = w2 72 j := fun j q q2 => b3 72 j (Or.inr ⟨q, by
    intro m g0 g1
    rcases q2 with q2 | q2 | q2
    · omega
    · omega
    · exact q2 m g0 (by omega)⟩)
  have f9 : w3 72 (o + 1) = w 72 (o + 1) + (((mLs w2 o).countP (flP (w 72 o)) : Nat) : Int) := by
    rw [b2, e9, fcM_cnt _ 0 (by omega) (by omega)]
    rfl
  have hL : mLs (up w3 72 o (w3 72 o + 1)) o = (mLs w2 o).map (flL (w 72 o)) := by
    rw [mLs_upO (by omega)]
    apply mLs_map (f _ (by omega) (Or.inl (by omega)))
    intro i hi
    have q := b1 i (by omega) (by omega)
    unfold mLn
    rw [f _ (by omega) (Or.inr (Or.inr (fun m _ _ => by omega))), f _ (by omega) (Or.inr (Or.inr (fun m _ _ => by omega))), f _ (by omega) (Or.inr (Or.inr (fun m _ _ => by omega))), f _ (by omega) (Or.inr (Or.inr (fun m _ _ => by omega))), q]
    unfold flL flP
    dsimp only
    by_cases hc : w2 72 (o + 18 + 5 * (i : Int)) ≤ w 72 o ∧ w2 72 (o + 19 + 5 * (i : Int)) = 0
    · rw [if_pos hc, if_pos (by simpa using hc)]
    · rw [if_neg hc, if_neg (by simpa using hc)]
  have hA : mAS (up w3 72 o (w3 72 o + 1)) o = dyS (gl w 76 0 6) (gl w 77 0 6) v (mAS w o) := by
    have ea : gl (up w3 72 o (w3 72 o + 1)) 72 (o + 2) 6 = gl w2 72 (o + 2) 6 := gl_eq (fun i _ _ => by rw [up_ne (Or.inr (by omega)), f _ (by omega) (Or.inl (by omega))])
    have eb : gl (up w3 72 o (w3 72 o + 1)) 72 (o + 8) 6 = gl w 72 (o + 8) 6 := gl_eq (fun i _ _ => by rw [up_ne (Or.inr (by omega)), f _ (by omega) (Or.inl (by omega)), a3 _ _ (by omega), g _ (Or.inl (by omega))])
    have p1 := congrArg Prod.fst a2
    have p2 := congrArg Prod.snd a2
    dsimp only at p1 p2
    unfold dyS mAS
    dsimp only
    rw [hL, ea, eb, up_eq, f _ (by omega) (Or.inl (by omega)), e0, up_ne (Or.inr (by omega)), f9, p1, p2]
  refine ⟨⟨?_, ?_⟩, hA, fun k j q => ?_⟩
  · rw [up_ne (Or.inr (by omega)), f _ (by omega) (Or.inl (by omega))]
    omega
  · rw [hA]
    exact dyS_ok hT.kr ho.2 hy
  · rw [up_ne (by omega), b3 k j (q.imp_right (fun q => ⟨by omega, fun m g0 g1 => by omega⟩)), a3 k j (by omega), h1.2 k j (q.imp_right (fun q m g0 g1 => by omega))]
theorem okWm_of {c o : Int} {w w1 : Wd} (hO : okM c w o) (hT : okTm w) (h1 : gwR o 0 w w1) : okWm w1 o := by
  have kn := hO.n
  have e14 : w1 72 (o + 14) = w 72 (o + 14) := h1.2 72 _ (Or.inr (fun m _ _ => by omega))
  refine ⟨by rw [e14]; exact kn, fun i g0 g1 => ?_, fun t g0 g1 => ?_⟩
  · rw [e14] at g1
    have q := hO.ln g0 g1
    have qk := hT.2.2.2.1 _ q.1.1 q.1.2
    have hb := grw_bd (k := w 76 (w 72 (o + 15 + 5 * i))) (r := w 77 (w 72 (o + 15 + 5 * i))) (o := w 72 (o + 17 + 5 * i)) (n := w 72 (o + 16 + 5 * i)) (by omega) (by omega) qk.2.2.1
    rw [h1.2 72 _ (Or.inr (fun m _ _ => by omega)), h1.2 72 _ (Or.inr (fun m _ _ => by omega)), h1.1 i g0 g1, h1.2 72 _ (Or.inr (fun m _ _ => by omega))]
    exact ⟨q.1, by omega, by omega, by omega⟩
  · rw [h1.2 72 _ (Or.inr (fun m _ _ => by omega))]
    exact hO.has g0 g1
/-- work keeps what has failed as 0 or 1 -/
theorem wkN_late (P : Int → Prop) : ∀ (n : Nat) (left : Int) (hl : List Int × List Ln), (∀ x ∈ hl.2, P x.2.2.2.2) → ∀ x ∈ (wkN n left hl).2, P x.2.2.2.2
  | 0, left, hl, h => h
  | n + 1, left, hl, h => by
    rw [wkN]
    split
    · rename_i hc
      refine wkN_late P n _ _ ?_
      have hk := fdL_lt hc.2
      intro x hx
      unfold wk1 at hx
      dsimp only at hx
      split at hx
      · exact h x (List.mem_of_mem_eraseIdx hx)
      · rcases List.mem_or_eq_of_mem_set hx with q | q
        · exact h x q
        · subst q
          have hm : hl.2.getD (fdL hl.2) ln0 ∈ hl.2 := by
            rw [List.getD_eq_getElem?_getD, List.getElem?_eq_getElem hk]
            exact List.getElem_mem hk
          exact (h _ hm : P (hl.2.getD (fdL hl.2) ln0).2.2.2.2)
    · exact h
theorem wkM_late {c o v : Int} {w w1 w2 : Wd} (hO : okM c w o) (h1 : gwR o 0 w w1) (h2 : wkM o 12 v w1 w2) {m : Int} (g0 : 0 ≤ m) (g1 : m < w2 72 (o + 14)) : inR (w2 72 (o + 19 + 5 * m)) := by
  have e14 : w1 72 (o + 14) = w 72 (o + 14) := h1.2 72 _ (Or.inr (fun m _ _ => by omega))
  have hx := List.mem_of_getElem? (mLs_at g0 g1)
  have e := congrArg Prod.snd h2.2.1
  dsimp only at e
  rw [e] at hx
  refine wkN_late inR 12 v _ (fun x hx => ?_) _ hx
  dsimp only at hx
  unfold mLs at hx
  obtain ⟨i, hi, rfl⟩ := List.mem_map.mp hx
  have hi2 := List.mem_range.mp hi
  have q := hO.ln (i := (i : Int)) (by omega) (by omega)
  show inR (w1 72 (o + 19 + 5 * (i : Int)))
  rw [h1.2 72 _ (Or.inr (fun m _ _ => by omega))]
  omega
set_option maxRecDepth 100000 in
set_option maxHeartbeats 4000000 in
theorem c_X5_day (G : Gb) (l : Launch) {w : Wd} {c o v : Int} (ho : 0 ≤ o ∧ o ≤ 300) (hv : 0 ≤ v ∧ v ≤ 99) (hO : okM c w o) (hT : okTm w) (hy : w 72 o < 20000) : Cv G l yX5_day mX5_day [.ref (gA G 71), .int (iZ o), .int (iZ v)] w (fun w' => dyM c o v 1 w w') := by
  refine V_start 2 (by decide) rfl rfl (Nat.le_of_ble_eq_true rfl) ?_
  show V G l mX5_day _ 0 [some (.ref (gA G 71)), some (.int (iZ o)), some (.int (iZ v)), none, none] [] w
  have kn := hO.n
  refine V_iconst dX5_day_0 ?_
  refine V_istore_n dX5_day_1 (by decide) rfl ?_
  refine l1_X5_day G l ho (w 72 (o + 14)).toNat 0 w (by omega) (by omega) kn.2 (fun i g0 g1 => by have q := hO.ln g0 g1; omega) (fun t g0 g1 => by have q := hT.2.2.2.1 t g0 g1; exact ⟨q.1, q.2.2.1⟩) (fun i1 w1 h1 => ?_)
  refine V_aload_n dX5_day_69 rfl ?_
  refine V_iload_n dX5_day_70 rfl ?_
  refine V_iload_n dX5_day_71 rfl ?_
  refine V_vV2 dX5_day_72 o_X5_day_163 s_71 rfl (Nat.le_of_ble_eq_true rfl) (c_X5_work G l ho hv (okWm_of hO hT h1)) ?_
  rintro w2 h2
  have e2 : w2 72 o = w 72 o := by rw [h2.2.2 _ _ (by omega), h1.2 72 _ (Or.inr (fun m _ _ => by omega))]
  have k2 := h2.1.1
  refine V_iconst dX5_day_75 ?_
  refine V_istore_n dX5_day_76 (by decide) rfl ?_
  refine l2_X5_day G l ho (D := w 72 o) (by have := hO.day; omega) (w2 72 (o + 14)).toNat 0 w2 none (by omega) (by omega) k2.2 e2 (fun m g0 g1 => ⟨(h2.1.2.1 m g0 g1).2.2.2, wkM_late hO h1 h2 g0 g1⟩) (fun i3 w3 o4 h3 => ?_)
  refine V_aload_n dX5_day_184 rfl ?_
  refine V_getR (ci := 5) (j := 0) dX5_day_185 s_71 rfl rfl i_X5_day_X5 (by decide) f_X5_day_7 ?_
  refine V_iload_n dX5_day_188 rfl ?_
  refine V_iconst dX5_day_189 ?_
  refine V_iadd dX5_day_190 ?_
  refine V_top (Int.add_zero o) ?_
  refine V_dup2 dX5_day_191 rfl rfl ?_
  refine V_iald dX5_day_192 s_72 (by omega) ?_
  refine V_iconst dX5_day_193 ?_
  refine V_iadd dX5_day_194 ?_
  refine V_iast dX5_day_195 s_72 (by omega) ?_
  exact V_vret dX5_day_196 rfl (dy_stepM hO hT hy h1 h2 h3)

/-! ===== 42 the reference: cross, copy, remove, work ===== -/
theorem mAS_eq {w w' : Wd} {o o' : Int} (hn : w 72 (o + 14) ≤ 12) (h : ∀ j : Int, 0 ≤ j → j < 75 → w 72 (o + j) = w' 72 (o' + j)) : mAS w o = mAS w' o' := by
  have e0 := h 0 (by omega) (by omega)
  rw [Int.add_zero, Int.add_zero] at e0
  unfold mAS
  rw [e0, h 1 (by omega) (by omega), gl_eq (w := w) (w' := w') (k := 72) (k' := 72) (o := o + 2) (o' := o' + 2) (n := 6) (fun i g0 g1 => ?_), gl_eq (w := w) (w' := w') (k := 72) (k' := 72) (o := o + 8) (o' := o' + 8) (n := 6) (fun i g0 g1 => ?_), mLs_eq (h 14 (by omega) (by omega)) (fun j q0 q1 => h j (by omega) (by omega))]
  · have := h (8 + i) (by omega) (by omega)
    rwa [← Int.add_assoc, ← Int.add_assoc] at this
  · have := h (2 + i) (by omega) (by omega)
    rwa [← Int.add_assoc, ← Int.add_assoc] at this
/-- a row is copied, from place i on -/
def cpM (w : Wd) (a b i : Int) : Wd := fun k j => if k = 72 ∧ b + i ≤ j ∧ j < b + 75 then w 72 (a + (j - b)) else w k j
theorem cpM_end (w : Wd) (a b : Int) : cpM w a b 75 = w := by
  funext k j
  unfold cpM
  rw [if_neg (by omega)]
theorem cpM_step {w : Wd} {a b i : Int} (hd : a + 75 ≤ b ∨ b + 75 ≤ a) (hi : 0 ≤ i ∧ i < 75) : cpM (up w 72 (b + i) (w 72 (a + i))) a b (i + 1) = cpM w a b i := by
  funext k j
  unfold cpM
  by_cases h1 : k = 72 ∧ b + (i + 1) ≤ j ∧ j < b + 75
  · rw [if_pos h1, if_pos (by omega), up_ne (by omega)]
  · rw [if_neg h1]
    by_cases h2 : k = 72 ∧ j = b + i
    · rw [if_pos (by omega)]
      obtain ⟨rfl, rfl⟩ := h2
      rw [up_eq, show a + (b + i - b) = a + i by omega]
    · rw [if_neg (by omega), up_ne (by omega)]
theorem cpM_ne {w : Wd} {a b : Int} {k : Nat} {j : Int} (h : k ≠ 72 ∨ j < b ∨ b + 75 ≤ j) : cpM w a b 0 k j = w k j := by
  unfold cpM
  rw [if_neg (by omega)]
theorem cpM_at {w : Wd} {a b j : Int} (h : 0 ≤ j ∧ j < 75) : cpM w a b 0 72 (b + j) = w 72 (a + j) := by
  unfold cpM
  rw [if_pos (by omega), show a + (b + j - b) = a + j by omega]
set_option maxRecDepth 100000 in
set_option maxHeartbeats 4000000 in
theorem l_X5_copy (G : Gb) (l : Launch) {a b : Int} (ha : 0 ≤ a ∧ a ≤ 300) (hb : 0 ≤ b ∧ b ≤ 300) (hd : a + 75 ≤ b ∨ b + 75 ≤ a) {Post : Wd → Prop} : ∀ (n : Nat) (i : Int) (w : Wd), 0 ≤ i → i + n = 75 → Post (cpM w a b i) → V G l mX5_copy (Qv G Post) 2 [some (.ref (gA G 71)), some (.int (iZ a)), some (.int (iZ b)), some (.int (iZ i))] [] w := by
  intro n
  induction n with
  | zero =>
    intro i w h0 h1 hp
    refine V_iload_n dX5_copy_2 rfl ?_
    refine V_bipush dX5_copy_3 rfl ?_
    refine V_icmp_ge (tgt := 30) dX5_copy_5 (by decide) (by omega) (by omega) (fun h5 => ?_) (fun h5 => ?_)
    · exact V_vret dX5_copy_30 rfl (by rw [show i = 75 by omega, cpM_end] at hp; exact hp)
    · exact absurd h5 (by omega)
  | succ n ih =>
    intro i w h0 h1 hp
    refine V_iload_n dX5_copy_2 rfl ?_
    refine V_bipush dX5_copy_3 rfl ?_
    refine V_icmp_ge (tgt := 30) dX5_copy_5 (by decide) (by omega) (by omega) (fun h5 => ?_) (fun h5 => ?_)
    · exact absurd h5 (by omega)
    · refine V_aload_n dX5_copy_8 rfl ?_
      refine V_getR (ci := 5) (j := 0) dX5_copy_9 s_71 rfl rfl i_X5_copy_X5 (by decide) f_X5_copy_7 ?_
      refine V_iload_n dX5_copy_12 rfl ?_
      refine V_iload_n dX5_copy_13 rfl ?_
      refine V_iadd dX5_copy_14 ?_
      refine V_aload_n dX5_copy_15 rfl ?_
      refine V_getR (ci := 5) (j := 0) dX5_copy_16 s_71 rfl rfl i_X5_copy_X5 (by decide) f_X5_copy_7 ?_
      refine V_iload_n dX5_copy_19 rfl ?_
      refine V_iload_n dX5_copy_20 rfl ?_
      refine V_iadd dX5_copy_21 ?_
      refine V_iald dX5_copy_22 s_72 (by omega) ?_
      refine V_iast dX5_copy_23 s_72 (by omega) ?_
      refine V_iinc dX5_copy_24 rfl (by decide) rfl ?_
      refine V_goto (tgt := 2) dX5_copy_27 (by decide) ?_
      exact ih (i + 1) _ (by omega) (by omega) (by rw [cpM_step hd (by omega)]; exact hp)
set_option maxRecDepth 100000 in
set_option maxHeartbeats 4000000 in
theorem c_X5_copy (G : Gb) (l : Launch) {w : Wd} {a b : Int} (ha : 0 ≤ a ∧ a ≤ 300) (hb : 0 ≤ b ∧ b ≤ 300) (hd : a + 75 ≤ b ∨ b + 75 ≤ a) : Cv G l yX5_copy mX5_copy [.ref (gA G 71), .int (iZ a), .int (iZ b)] w (fun w' => w' = cpM w a b 0) := by
  refine V_start 1 (by decide) rfl rfl (Nat.le_of_ble_eq_true rfl) ?_
  show V G l mX5_copy _ 0 [some (.ref (gA G 71)), some (.int (iZ a)), some (.int (iZ b)), none] [] w
  refine V_iconst dX5_copy_0 ?_
  refine V_istore_n dX5_copy_1 (by decide) rfl ?_
  exact l_X5_copy G l ha hb hd 75 0 w (by omega) (by omega) rfl
set_option maxRecDepth 100000 in
set_option maxHeartbeats 4000000 in
theorem s_X5_isCross (G : Gb) (l : Launch) {w : Wd} {c t k a : Int} (ht : inR t) (hO : okM c w 0) (hq : 0 ≤ w 71 12 ∧ w 71 12 ≤ 6) (h0 : 0 ≤ k ∧ k < 2 * w 71 12) (ha : a = 0 ∨ a = 1) (hk : 0 ≤ w 80 k ∧ w 80 k < 6) (hk2 : 0 ≤ w 80 (if k % 2 = 0 then k + 1 else k - 1) ∧ w 80 (if k % 2 = 0 then k + 1 else k - 1) < 6) {Qc : Array Value → State → Outcome → State → Prop} {o4 : Option Value} (kk : ∀ (z : Int) (o4 : Option Value), z = (if a = 1 ∨ (w 80 k = t ∧ owL t (mLs w 0) < owL (w 80 (if k % 2 = 0 then k + 1 else k - 1)) (mLs w 0)) then 1 else 0) → V G l mX5_isCross Qc 4 [some (.ref (gA G 71)), some (.int (iZ t)), some (.int (iZ z)), some (.int (iZ (k + 1))), o4] [] w) : V G l mX5_isCross Qc 4 [some (.ref (gA G 71)), some (.int (iZ t)), some (.int (iZ a)), some (.int (iZ k)), o4] [] w := by
  have k0 := hO.ow t
  have k1 := hO.ow (w 80 (if k % 2 = 0 then k + 1 else k - 1))
  refine V_iload_n dX5_isCross_4 rfl ?_
  refine V_iconst dX5_isCross_5 ?_
  refine V_aload_n dX5_isCross_6 rfl ?_
  refine V_getI (ci := 5) (j := 12) (ji := 12) dX5_isCross_7 s_71 rfl rfl i_X5_isCross_X5 (by decide) f_X5_isCross_118 rfl ?_
  refine V_imul dX5_isCross_10 ?_
  refine V_icmp_ge (tgt := 78) dX5_isCross_11 (by decide) (by omega) (by omega) (fun h11 => ?_) (fun h11 => ?_)
  · exact absurd h11 (by omega)
  · refine V_aload_n dX5_isCross_14 rfl ?_
    refine V_getR (ci := 5) (j := 11) dX5_isCross_15 s_71 rfl rfl i_X5_isCross_X5 (by decide) f_X5_isCross_35 ?_
    refine V_iload_n dX5_isCross_18 rfl ?_
    refine V_iconst dX5_isCross_19 ?_
    refine V_irem dX5_isCross_20 (by omega) (by omega) ?_
    refine V_if_ne (tgt := 30) dX5_isCross_21 (by decide) (by omega) (fun h21 => ?_) (fun h21 => ?_)
    · rw [if_neg h21] at kk hk2 k1
      refine V_iload_n dX5_isCross_30 rfl ?_
      refine V_iconst dX5_isCross_31 ?_
      refine V_isub dX5_isCross_32 ?_
      refine V_iald dX5_isCross_33 s_80 (by omega) ?_
      refine V_istore dX5_isCross_34 (by decide) rfl ?_
      refine V_iload_n dX5_isCross_36 rfl ?_
      refine V_if_ne (tgt := 66) dX5_isCross_37 (by decide) (by omega) (fun h37 => ?_) (fun h37 => ?_)
      · refine V_iconst dX5_isCross_66 ?_
        refine V_goto (tgt := 71) dX5_isCross_67 (by decide) ?_
        refine V_istore_n dX5_isCross_71 (by decide) rfl ?_
        refine V_iinc dX5_isCross_72 rfl (by decide) rfl ?_
        refine V_goto (tgt := 4) dX5_isCross_75 (by decide) ?_
        first
          | exact kk _ _ (if_pos (by omega)).symm
          | exact kk _ _ (if_neg (by omega)).symm
      · refine V_aload_n dX5_isCross_40 rfl ?_
        refine V_getR (ci := 5) (j := 11) dX5_isCross_41 s_71 rfl rfl i_X5_isCross_X5 (by decide) f_X5_isCross_35 ?_
        refine V_iload_n dX5_isCross_44 rfl ?_
        refine V_iald dX5_isCross_45 s_80 (by omega) ?_
        refine V_iload_n dX5_isCross_46 rfl ?_
        refine V_icmp_ne (tgt := 70) dX5_isCross_47 (by decide) (by omega) (by omega) (fun h47 => ?_) (fun h47 => ?_)
        · refine V_iconst dX5_isCross_70 ?_
          refine V_istore_n dX5_isCross_71 (by decide) rfl ?_
          refine V_iinc dX5_isCross_72 rfl (by decide) rfl ?_
          refine V_goto (tgt := 4) dX5_isCross_75 (by decide) ?_
          first
            | exact kk _ _ (if_pos (by omega)).symm
            | exact kk _ _ (if_neg (by omega)).symm
        · refine V_aload_n dX5_isCross_50 rfl ?_
          refine V_iconst dX5_isCross_51 ?_
          refine V_iload dX5_isCross_52 rfl ?_
          refine V_iV2 dX5_isCross_54 o_X5_isCross_140 s_71 rfl (Nat.le_of_ble_eq_true rfl) (c_X5_owedTo G l (o := 0) (by omega) (by omega) hO.n (fun i g0 g1 => by have q := hO.ln g0 g1; omega)) ?_
          rintro _ _ ⟨rfl, rfl⟩
          refine V_aload_n dX5_isCross_57 rfl ?_
          refine V_iconst dX5_isCross_58 ?_
          refine V_iload_n dX5_isCross_59 rfl ?_
          refine V_iV2 dX5_isCross_60 o_X5_isCross_140 s_71 rfl (Nat.le_of_ble_eq_true rfl) (c_X5_owedTo G l (o := 0) (by omega) (by omega) hO.n (fun i g0 g1 => by have q := hO.ln g0 g1; omega)) ?_
          rintro _ _ ⟨rfl, rfl⟩
          refine V_icmp_le (tgt := 70) dX5_isCross_63 (by decide) (by omega) (by omega) (fun h63 => ?_) (fun h63 => ?_)
          · refine V_iconst dX5_isCross_70 ?_
            refine V_istore_n dX5_isCross_71 (by decide) rfl ?_
            refine V_iinc dX5_isCross_72 rfl (by decide) rfl ?_
            refine V_goto (tgt := 4) dX5_isCross_75 (by decide) ?_
            first
              | exact kk _ _ (if_pos (by omega)).symm
              | exact kk _ _ (if_neg (by omega)).symm
          · refine V_iconst dX5_isCross_66 ?_
            refine V_goto (tgt := 71) dX5_isCross_67 (by decide) ?_
            refine V_istore_n dX5_isCross_71 (by decide) rfl ?_
            refine V_iinc dX5_isCross_72 rfl (by decide) rfl ?_
            refine V_goto (tgt := 4) dX5_isCross_75 (by decide) ?_
            first
              | exact kk _ _ (if_pos (by omega)).symm
              | exact kk _ _ (if_neg (by omega)).symm
    · rw [if_pos h21] at kk hk2 k1
      refine V_iload_n dX5_isCross_24 rfl ?_
      refine V_iconst dX5_isCross_25 ?_
      refine V_iadd dX5_isCross_26 ?_
      refine V_goto (tgt := 33) dX5_isCross_27 (by decide) ?_
      refine V_iald dX5_isCross_33 s_80 (by omega) ?_
      refine V_istore dX5_isCross_34 (by decide) rfl ?_
      refine V_iload_n dX5_isCross_36 rfl ?_
      refine V_if_ne (tgt := 66) dX5_isCross_37 (by decide) (by omega) (fun h37 => ?_) (fun h37 => ?_)
      · refine V_iconst dX5_isCross_66 ?_
        refine V_goto (tgt := 71) dX5_isCross_67 (by decide) ?_
        refine V_istore_n dX5_isCross_71 (by decide) rfl ?_
        refine V_iinc dX5_isCross_72 rfl (by decide) rfl ?_
        refine V_goto (tgt := 4) dX5_isCross_75 (by decide) ?_
        first
          | exact kk _ _ (if_pos (by omega)).symm
          | exact kk _ _ (if_neg (by omega)).symm
      · refine V_aload_n dX5_isCross_40 rfl ?_
        refine V_getR (ci := 5) (j := 11) dX5_isCross_41 s_71 rfl rfl i_X5_isCross_X5 (by decide) f_X5_isCross_35 ?_
        refine V_iload_n dX5_isCross_44 rfl ?_
        refine V_iald dX5_isCross_45 s_80 (by omega) ?_
        refine V_iload_n dX5_isCross_46 rfl ?_
        refine V_icmp_ne (tgt := 70) dX5_isCross_47 (by decide) (by omega) (by omega) (fun h47 => ?_) (fun h47 => ?_)
        · refine V_iconst dX5_isCross_70 ?_
          refine V_istore_n dX5_isCross_71 (by decide) rfl ?_
          refine V_iinc dX5_isCross_72 rfl (by decide) rfl ?_
          refine V_goto (tgt := 4) dX5_isCross_75 (by decide) ?_
          first
            | exact kk _ _ (if_pos (by omega)).symm
            | exact kk _ _ (if_neg (by omega)).symm
        · refine V_aload_n dX5_isCross_50 rfl ?_
          refine V_iconst dX5_isCross_51 ?_
          refine V_iload dX5_isCross_52 rfl ?_
          refine V_iV2 dX5_isCross_54 o_X5_isCross_140 s_71 rfl (Nat.le_of_ble_eq_true rfl) (c_X5_owedTo G l (o := 0) (by omega) (by omega) hO.n (fun i g0 g1 => by have q := hO.ln g0 g1; omega)) ?_
          rintro _ _ ⟨rfl, rfl⟩
          refine V_aload_n dX5_isCross_57 rfl ?_
          refine V_iconst dX5_isCross_58 ?_
          refine V_iload_n dX5_isCross_59 rfl ?_
          refine V_iV2 dX5_isCross_60 o_X5_isCross_140 s_71 rfl (Nat.le_of_ble_eq_true rfl) (c_X5_owedTo G l (o := 0) (by omega) (by omega) hO.n (fun i g0 g1 => by have q := hO.ln g0 g1; omega)) ?_
          rintro _ _ ⟨rfl, rfl⟩
          refine V_icmp_le (tgt := 70) dX5_isCross_63 (by decide) (by omega) (by omega) (fun h63 => ?_) (fun h63 => ?_)
          · refine V_iconst dX5_isCross_70 ?_
            refine V_istore_n dX5_isCross_71 (by decide) rfl ?_
            refine V_iinc dX5_isCross_72 rfl (by decide) rfl ?_
            refine V_goto (tgt := 4) dX5_isCross_75 (by decide) ?_
            first
              | exact kk _ _ (if_pos (by omega)).symm
              | exact kk _ _ (if_neg (by omega)).symm
          · refine V_iconst dX5_isCross_66 ?_
            refine V_goto (tgt := 71) dX5_isCross_67 (by decide) ?_
            refine V_istore_n dX5_isCross_71 (by decide) rfl ?_
            refine V_iinc dX5_isCross_72 rfl (by decide) rfl ?_
            refine V_goto (tgt := 4) dX5_isCross_75 (by decide) ?_
            first
              | exact kk _ _ (if_pos (by omega)).symm
              | exact kk _ _ (if_neg (by omega)).symm
set_option maxRecDepth 100000 in
set_option maxHeartbeats 4000000 in
theorem l_X5_isCross (G : Gb) (l : Launch) {w : Wd} {c t : Int} (ht : inR t) (hO : okM c w 0) (hT : okTm w) {Post : Int → Wd → Prop} : ∀ (n : Nat) (i a : Int) (o4 : Option Value), 0 ≤ i → i + n = w 71 12 → (a = 0 ∨ a = 1) → Post (if a = 1 ∨ crS t (mLs w 0) ((qsM w).drop i.toNat) = true then 1 else 0) w → V G l mX5_isCross (Qi G Post) 4 [some (.ref (gA G 71)), some (.int (iZ t)), some (.int (iZ a)), some (.int (iZ (2 * i))), o4] [] w := by
  have kq := hT.2.1
  intro n
  induction n with
  | zero =>
    intro i a o4 h0 h1 ha hp
    rw [qsM_end (by omega), show (if a = 1 ∨ crS t (mLs w 0) [] = true then (1 : Int) else 0) = a by rcases ha with rfl | rfl <;> simp [crS]] at hp
    refine V_iload_n dX5_isCross_4 rfl ?_
    refine V_iconst dX5_isCross_5 ?_
    refine V_aload_n dX5_isCross_6 rfl ?_
    refine V_getI (ci := 5) (j := 12) (ji := 12) dX5_isCross_7 s_71 rfl rfl i_X5_isCross_X5 (by decide) f_X5_isCross_118 rfl ?_
    refine V_imul dX5_isCross_10 ?_
    refine V_icmp_ge (tgt := 78) dX5_isCross_11 (by decide) (by omega) (by omega) (fun h11 => ?_) (fun h11 => ?_)
    · refine V_iload_n dX5_isCross_78 rfl ?_
      exact V_zret dX5_isCross_79 rfl (by omega) hp
    · exact absurd h11 (by omega)
  | succ n ih =>
    intro i a o4 h0 h1 ha hp
    have kk := hT.2.2.2.2 i h0 (by omega)
    refine s_X5_isCross G l ht hO kq (k := 2 * i) (by omega) ha kk.1 (by rw [if_pos (by omega)]; exact kk.2) (fun z o5 hz => ?_)
    rw [show (if (2 * i) % 2 = 0 then 2 * i + 1 else 2 * i - 1) = 2 * i + 1 by rw [if_pos (by omega)]] at hz
    refine s_X5_isCross G l ht hO kq (k := 2 * i + 1) (by omega) (by rw [hz]; split <;> simp) kk.2 (by rw [if_neg (by omega), show 2 * i + 1 - 1 = 2 * i by omega]; exact kk.1) (fun z2 o6 hz2 => ?_)
    rw [show (if (2 * i + 1) % 2 = 0 then 2 * i + 1 + 1 else 2 * i + 1 - 1) = 2 * i by rw [if_neg (by omega)]; omega] at hz2
    rw [show 2 * i + 1 + 1 = 2 * (i + 1) by omega]
    refine ih (i + 1) z2 o6 (by omega) (by omega) (by rw [hz2]; split <;> simp) ?_
    rw [qsM_drop h0 (by omega), crS] at hp
    have e : (z2 = 1 ∨ crS t (mLs w 0) ((qsM w).drop (i + 1).toNat) = true) ↔ (a = 1 ∨ (decide (w 80 (2 * i) = t ∧ owL t (mLs w 0) < owL (w 80 (2 * i + 1)) (mLs w 0)) || (decide (w 80 (2 * i + 1) = t ∧ owL t (mLs w 0) < owL (w 80 (2 * i)) (mLs w 0)) || crS t (mLs w 0) ((qsM w).drop (i + 1).toNat))) = true) := by
      rw [Bool.or_eq_true, Bool.or_eq_true, decide_eq_true_eq, decide_eq_true_eq]
      have hz' : z = 1 ↔ (a = 1 ∨ (w 80 (2 * i) = t ∧ owL t (mLs w 0) < owL (w 80 (2 * i + 1)) (mLs w 0))) := by rw [hz]; split <;> simp_all
      have hz2' : z2 = 1 ↔ (z = 1 ∨ (w 80 (2 * i + 1) = t ∧ owL t (mLs w 0) < owL (w 80 (2 * i)) (mLs w 0))) := by rw [hz2]; split <;> simp_all
      rw [hz2', hz', or_assoc, or_assoc]
    simp only [e]
    exact hp
set_option maxRecDepth 100000 in
set_option maxHeartbeats 4000000 in
theorem c_X5_isCross (G : Gb) (l : Launch) {w : Wd} {c t : Int} (ht : inR t) (hO : okM c w 0) (hT : okTm w) : Ci G l yX5_isCross mX5_isCross [.ref (gA G 71), .int (iZ t)] w (fun z w' => z = (if crS t (mLs w 0) (qsM w) then 1 else 0) ∧ w = w') := by
  refine V_start 3 (by decide) rfl rfl (Nat.le_of_ble_eq_true rfl) ?_
  show V G l mX5_isCross _ 0 [some (.ref (gA G 71)), some (.int (iZ t)), none, none, none] [] w
  have kq := hT.2.1
  refine V_iconst dX5_isCross_0 ?_
  refine V_istore_n dX5_isCross_1 (by decide) rfl ?_
  refine V_iconst dX5_isCross_2 ?_
  refine V_istore_n dX5_isCross_3 (by decide) rfl ?_
  refine l_X5_isCross G l ht hO hT (w 71 12).toNat 0 0 none (by omega) (by omega) (by omega) ⟨?_, rfl⟩
  have e0 : (qsM w).drop (0 : Int).toNat = qsM w := rfl
  rw [e0]
  simp
set_option maxRecDepth 100000 in
set_option maxHeartbeats 4000000 in
theorem c_X5_lends (G : Gb) (l : Launch) {w : Wd} {c t : Int} (ht : 0 ≤ t ∧ t < 6) (hO : okM c w 0) (hT : okTm w) : Ci G l yX5_lends mX5_lends [.ref (gA G 71), .int (iZ t)] w (fun z w' => z = (if ldS t (w 72 (8 + t)) (mLs w 0) (qsM w) then 1 else 0) ∧ w = w') := by
  refine V_start 0 (by decide) rfl rfl (Nat.le_of_ble_eq_true rfl) ?_
  show V G l mX5_lends _ 0 [some (.ref (gA G 71)), some (.int (iZ t))] [] w
  have kf := hO.fate ht.1 ht.2
  rw [show (0 : Int) + 8 + t = 8 + t by omega] at kf
  refine V_aload_n dX5_lends_0 rfl ?_
  refine V_iload_n dX5_lends_1 rfl ?_
  refine V_iV1 dX5_lends_2 o_X5_lends_144 s_71 rfl (Nat.le_of_ble_eq_true rfl) (c_X5_lives G l ht (by omega)) ?_
  rintro z _ ⟨hz, rfl⟩
  have rz : z = 0 ∨ z = 1 := by rw [hz]; split <;> simp
  refine V_if_eq (tgt := 20) dX5_lends_5 (by decide) (by omega) (fun h5 => ?_) (fun h5 => ?_)
  · have n1 : ¬ w 72 (8 + t) = 0 := fun q => by rw [if_pos q] at hz; omega
    refine V_iconst dX5_lends_20 ?_
    exact V_zret dX5_lends_21 rfl (by omega) ⟨by unfold ldS; (cases hc : crS t (mLs w 0) (qsM w)) <;> simp_all, rfl⟩
  · have n1 : w 72 (8 + t) = 0 := by
      by_cases q : w 72 (8 + t) = 0
      · exact q
      · rw [if_neg q] at hz; omega
    refine V_aload_n dX5_lends_8 rfl ?_
    refine V_iload_n dX5_lends_9 rfl ?_
    refine V_iV1 dX5_lends_10 o_X5_lends_147 s_71 rfl (Nat.le_of_ble_eq_true rfl) (c_X5_isCross G l (by omega) hO hT) ?_
    rintro y _ ⟨hy, rfl⟩
    have ry : y = 0 ∨ y = 1 := by rw [hy]; split <;> simp
    refine V_if_ne (tgt := 20) dX5_lends_13 (by decide) (by omega) (fun h13 => ?_) (fun h13 => ?_)
    · refine V_iconst dX5_lends_20 ?_
      exact V_zret dX5_lends_21 rfl (by omega) ⟨by unfold ldS; (cases hc : crS t (mLs w 0) (qsM w)) <;> simp_all, rfl⟩
    · refine V_iconst dX5_lends_16 ?_
      refine V_goto (tgt := 21) dX5_lends_17 (by decide) ?_
      exact V_zret dX5_lends_21 rfl (by omega) ⟨by unfold ldS; (cases hc : crS t (mLs w 0) (qsM w)) <;> simp_all, rfl⟩
/-- places from i on up to lim come five down -/
def shM (w : Wd) (i lim : Int) : Wd := fun k j => if k = 72 ∧ i ≤ j ∧ j < lim then w 72 (j + 5) else w k j
theorem shM_end {w : Wd} {i lim : Int} (h : lim ≤ i) : shM w i lim = w := by
  funext k j
  unfold shM
  rw [if_neg (by omega)]
theorem shM_step {w : Wd} {i lim : Int} (h : i < lim) : shM (up w 72 i (w 72 (i + 5))) (i + 1) lim = shM w i lim := by
  funext k j
  unfold shM
  by_cases h1 : k = 72 ∧ i + 1 ≤ j ∧ j < lim
  · rw [if_pos h1, if_pos (by omega), up_ne (by omega)]
  · rw [if_neg h1]
    by_cases h2 : k = 72 ∧ j = i
    · rw [if_pos (by omega)]
      obtain ⟨rfl, rfl⟩ := h2
      rw [up_eq]
    · rw [if_neg (by omega), up_ne (by omega)]
def rmM (w : Wd) (o r : Int) : Wd := shM (up w 72 (o + 14) (w 72 (o + 14) - 1)) (o + 15 + 5 * r) (o + 15 + 5 * (w 72 (o + 14) - 1))
theorem rmM_n (w : Wd) {o r : Int} (h : 0 ≤ r) : rmM w o r 72 (o + 14) = w 72 (o + 14) - 1 := by
  unfold rmM shM
  rw [if_neg (by omega), up_eq]
theorem rmM_ne {w : Wd} {o r : Int} {k : Nat} {j : Int} (h0 : 0 ≤ r) (h : k ≠ 72 ∨ j < o + 14 ∨ o + 10 + 5 * w 72 (o + 14) ≤ j) (h2 : k ≠ 72 ∨ j ≠ o + 14) : rmM w o r k j = w k j := by
  unfold rmM shM
  rw [if_neg (by omega), up_ne (by omega)]
theorem rmM_ln {w : Wd} {o r q i : Int} (h0 : 0 ≤ r) (hi : 0 ≤ i ∧ i < w 72 (o + 14) - 1) (hq : 15 ≤ q ∧ q < 20) : rmM w o r 72 (o + q + 5 * i) = if r ≤ i then w 72 (o + q + 5 * (i + 1)) else w 72 (o + q + 5 * i) := by
  unfold rmM shM
  by_cases h : r ≤ i
  · rw [if_pos (by omega), if_pos h, up_ne (by omega), show o + q + 5 * i + 5 = o + q + 5 * (i + 1) by omega]
  · rw [if_neg (by omega), if_neg h, up_ne (by omega)]
theorem mLs_rm {w : Wd} {o r : Int} (h0 : 0 ≤ r) (h1 : r < w 72 (o + 14)) : mLs (rmM w o r) o = (mLs w o).eraseIdx r.toNat := by
  have e3 := rmM_n w (o := o) h0
  apply List.ext_getElem?
  intro i
  rw [List.getElem?_eraseIdx]
  by_cases hi : i < (w 72 (o + 14) - 1).toNat
  · rw [mLs_some (by rw [e3]; exact hi)]
    unfold mLn
    rw [rmM_ln h0 (by omega) (by omega), rmM_ln h0 (by omega) (by omega), rmM_ln h0 (by omega) (by omega), rmM_ln h0 (by omega) (by omega), rmM_ln h0 (by omega) (by omega)]
    by_cases hlt : i < r.toNat
    · rw [if_pos hlt, mLs_some (by omega)]
      unfold mLn
      rw [if_neg (by omega), if_neg (by omega), if_neg (by omega), if_neg (by omega), if_neg (by omega)]
    · rw [if_neg hlt, mLs_some (by omega)]
      unfold mLn
      rw [if_pos (by omega), if_pos (by omega), if_pos (by omega), if_pos (by omega), if_pos (by omega), show (((i + 1 : Nat)) : Int) = (i : Int) + 1 by omega]
  · rw [mLs_none (by rw [e3]; omega)]
    split
    · rw [mLs_none (by omega)]
    · rw [mLs_none (by omega)]
set_option maxRecDepth 100000 in
set_option maxHeartbeats 4000000 in
theorem l_X5_remove (G : Gb) (l : Launch) {o r N : Int} (ho : 0 ≤ o ∧ o ≤ 300) (hN : 0 ≤ N ∧ N ≤ 11) {Post : Wd → Prop} : ∀ (n : Nat) (i : Int) (w : Wd), w 72 (o + 14) = N → o + 15 ≤ i → i + n = o + 15 + 5 * N → Post (shM w i (o + 15 + 5 * N)) → V G l mX5_remove (Qv G Post) 20 [some (.ref (gA G 71)), some (.int (iZ o)), some (.int (iZ r)), some (.int (iZ i))] [] w := by
  intro n
  induction n with
  | zero =>
    intro i w hw h0 h1 hp
    refine V_iload_n dX5_remove_20 rfl ?_
    refine V_iload_n dX5_remove_21 rfl ?_
    refine V_aload_n dX5_remove_22 rfl ?_
    refine V_getR (ci := 5) (j := 0) dX5_remove_23 s_71 rfl rfl i_X5_remove_X5 (by decide) f_X5_remove_7 ?_
    refine V_iload_n dX5_remove_26 rfl ?_
    refine V_bipush dX5_remove_27 rfl ?_
    refine V_iadd dX5_remove_29 ?_
    refine V_iald dX5_remove_30 s_72 (by omega) ?_
    refine V_iconst dX5_remove_31 ?_
    refine V_iS3 dX5_remove_32 o_X5_remove_136 (Nat.le_of_ble_eq_true rfl) (c_X5_placeOf G l) ?_
    rintro _ _ ⟨rfl, rfl⟩
    refine V_top (show o + 15 + 5 * w 72 (o + 14) + 0 = o + 15 + 5 * N by omega) ?_
    refine V_icmp_ge (tgt := 58) dX5_remove_35 (by decide) (by omega) (by omega) (fun h35 => ?_) (fun h35 => ?_)
    · exact V_vret dX5_remove_58 rfl (by rw [shM_end (by omega)] at hp; exact hp)
    · exact absurd h35 (by omega)
  | succ n ih =>
    intro i w hw h0 h1 hp
    refine V_iload_n dX5_remove_20 rfl ?_
    refine V_iload_n dX5_remove_21 rfl ?_
    refine V_aload_n dX5_remove_22 rfl ?_
    refine V_getR (ci := 5) (j := 0) dX5_remove_23 s_71 rfl rfl i_X5_remove_X5 (by decide) f_X5_remove_7 ?_
    refine V_iload_n dX5_remove_26 rfl ?_
    refine V_bipush dX5_remove_27 rfl ?_
    refine V_iadd dX5_remove_29 ?_
    refine V_iald dX5_remove_30 s_72 (by omega) ?_
    refine V_iconst dX5_remove_31 ?_
    refine V_iS3 dX5_remove_32 o_X5_remove_136 (Nat.le_of_ble_eq_true rfl) (c_X5_placeOf G l) ?_
    rintro _ _ ⟨rfl, rfl⟩
    refine V_top (show o + 15 + 5 * w 72 (o + 14) + 0 = o + 15 + 5 * N by omega) ?_
    refine V_icmp_ge (tgt := 58) dX5_remove_35 (by decide) (by omega) (by omega) (fun h35 => ?_) (fun h35 => ?_)
    · exact absurd h35 (by omega)
    · refine V_aload_n dX5_remove_38 rfl ?_
      refine V_getR (ci := 5) (j := 0) dX5_remove_39 s_71 rfl rfl i_X5_remove_X5 (by decide) f_X5_remove_7 ?_
      refine V_iload_n dX5_remove_42 rfl ?_
      refine V_aload_n dX5_remove_43 rfl ?_
      refine V_getR (ci := 5) (j := 0) dX5_remove_44 s_71 rfl rfl i_X5_remove_X5 (by decide) f_X5_remove_7 ?_
      refine V_iload_n dX5_remove_47 rfl ?_
      refine V_iconst dX5_remove_48 ?_
      refine V_iadd dX5_remove_49 ?_
      refine V_iald dX5_remove_50 s_72 (by omega) ?_
      refine V_iast dX5_remove_51 s_72 (by omega) ?_
      refine V_iinc dX5_remove_52 rfl (by decide) rfl ?_
      refine V_goto (tgt := 20) dX5_remove_55 (by decide) ?_
      exact ih (i + 1) _ (by rw [up_ne (by omega)]; exact hw) (by omega) (by omega) (by rw [shM_step (by omega)]; exact hp)
set_option maxRecDepth 100000 in
set_option maxHeartbeats 4000000 in
theorem c_X5_remove (G : Gb) (l : Launch) {w : Wd} {o r : Int} (ho : 0 ≤ o ∧ o ≤ 300) (hn : w 72 (o + 14) ≤ 12) (hr : 0 ≤ r ∧ r < w 72 (o + 14)) : Cv G l yX5_remove mX5_remove [.ref (gA G 71), .int (iZ o), .int (iZ r)] w (fun w' => w' = rmM w o r) := by
  refine V_start 1 (by decide) rfl rfl (Nat.le_of_ble_eq_true rfl) ?_
  show V G l mX5_remove _ 0 [some (.ref (gA G 71)), some (.int (iZ o)), some (.int (iZ r)), none] [] w
  refine V_aload_n dX5_remove_0 rfl ?_
  refine V_getR (ci := 5) (j := 0) dX5_remove_1 s_71 rfl rfl i_X5_remove_X5 (by decide) f_X5_remove_7 ?_
  refine V_iload_n dX5_remove_4 rfl ?_
  refine V_bipush dX5_remove_5 rfl ?_
  refine V_iadd dX5_remove_7 ?_
  refine V_dup2 dX5_remove_8 rfl rfl ?_
  refine V_iald dX5_remove_9 s_72 (by omega) ?_
  refine V_iconst dX5_remove_10 ?_
  refine V_isub dX5_remove_11 ?_
  refine V_iast dX5_remove_12 s_72 (by omega) ?_
  refine V_iload_n dX5_remove_13 rfl ?_
  refine V_iload_n dX5_remove_14 rfl ?_
  refine V_iconst dX5_remove_15 ?_
  refine V_iS3 dX5_remove_16 o_X5_remove_136 (Nat.le_of_ble_eq_true rfl) (c_X5_placeOf G l) ?_
  rintro _ _ ⟨rfl, rfl⟩
  refine V_top (show o + 15 + 5 * r + 0 = o + 15 + 5 * r by omega) ?_
  refine V_istore_n dX5_remove_19 (by decide) rfl ?_
  exact l_X5_remove G l ho (N := w 72 (o + 14) - 1) (by omega) (5 * (w 72 (o + 14) - 1 - r)).toNat (o + 15 + 5 * r) _ (up_eq _ _ _ _) (by omega) (by omega) rfl

/-! ===== 11 Told ===== -/
set_option maxRecDepth 100000 in
set_option maxHeartbeats 4000000 in
theorem c_X3_has (G : Gb) (l : Launch) {w : Wd} {d : Nat} (hd : IsTd d) {t : Int} (ht : inR t) (hn : inR (w d 0)) : Ci G l yX3_has mX3_has [.ref (gA G d), .int (iZ t)] w (fun z w' => z = (if 0 ≤ t ∧ t < w d 0 then 1 else 0) ∧ w = w') := by
  refine V_start 0 (by decide) rfl rfl (Nat.le_of_ble_eq_true rfl) ?_
  show V G l mX3_has _ 0 [some (.ref (gA G d)), some (.int (iZ t))] [] w
  refine V_iload_n dX3_has_0 rfl ?_
  refine V_if_lt (tgt := 16) dX3_has_1 (by decide) (by omega) (fun h1 => ?_) (fun h1 => ?_)
  · refine V_iconst dX3_has_16 ?_
    exact V_zret dX3_has_17 rfl (by omega) ⟨by first | rw [if_pos (by omega)] | rw [if_neg (by omega)], rfl⟩
  · refine V_iload_n dX3_has_4 rfl ?_
    refine V_aload_n dX3_has_5 rfl ?_
    refine V_getI (ci := 3) (j := 0) (ji := 0) dX3_has_6 (sTd_0 hd) rfl rfl i_X3_has_X3 (by decide) f_X3_has_37 rfl ?_
    refine V_icmp_ge (tgt := 16) dX3_has_9 (by decide) (by omega) (by omega) (fun h9 => ?_) (fun h9 => ?_)
    · refine V_iconst dX3_has_16 ?_
      exact V_zret dX3_has_17 rfl (by omega) ⟨by first | rw [if_pos (by omega)] | rw [if_neg (by omega)], rfl⟩
    · refine V_iconst dX3_has_12 ?_
      refine V_goto (tgt := 17) dX3_has_13 (by decide) ?_
      exact V_zret dX3_has_17 rfl (by omega) ⟨by first | rw [if_pos (by omega)] | rw [if_neg (by omega)], rfl⟩
set_option maxRecDepth 100000 in
set_option maxHeartbeats 4000000 in
theorem c_X3_dueOf (G : Gb) (l : Launch) {w : Wd} {d : Nat} (hd : IsTd d) {t y : Int} (ht : 0 ≤ t ∧ t < 6) (hk : inR (w (d + 1) t)) : Ci G l yX3_dueOf mX3_dueOf [.ref (gA G d), .int (iZ t), .int (iZ y)] w (fun z w' => z = (if w (d + 1) t = 1 then y + 1 else y + w (d + 4) t) ∧ w = w') := by
  refine V_start 0 (by decide) rfl rfl (Nat.le_of_ble_eq_true rfl) ?_
  show V G l mX3_dueOf _ 0 [some (.ref (gA G d)), some (.int (iZ t)), some (.int (iZ y))] [] w
  refine V_aload_n dX3_dueOf_0 rfl ?_
  refine V_getR (ci := 3) (j := 1) dX3_dueOf_1 (sTd_0 hd) rfl rfl i_X3_dueOf_X3 (by decide) f_X3_dueOf_9 ?_
  refine V_iload_n dX3_dueOf_4 rfl ?_
  refine V_iald dX3_dueOf_5 (sTd_1 hd) (by omega) ?_
  refine V_iconst dX3_dueOf_6 ?_
  refine V_icmp_ne (tgt := 16) dX3_dueOf_7 (by decide) (by omega) (by omega) (fun h7 => ?_) (fun h7 => ?_)
  · refine V_iload_n dX3_dueOf_16 rfl ?_
    refine V_aload_n dX3_dueOf_17 rfl ?_
    refine V_getR (ci := 3) (j := 4) dX3_dueOf_18 (sTd_0 hd) rfl rfl i_X3_dueOf_X3 (by decide) f_X3_dueOf_21 ?_
    refine V_iload_n dX3_dueOf_21 rfl ?_
    refine V_iald dX3_dueOf_22 (sTd_4 hd) (by omega) ?_
    refine V_iadd dX3_dueOf_23 ?_
    exact V_iret dX3_dueOf_24 rfl ⟨by first | rw [if_pos h7] | rw [if_neg h7], rfl⟩
  · refine V_iload_n dX3_dueOf_10 rfl ?_
    refine V_iconst dX3_dueOf_11 ?_
    refine V_iadd dX3_dueOf_12 ?_
    refine V_goto (tgt := 24) dX3_dueOf_13 (by decide) ?_
    exact V_iret dX3_dueOf_24 rfl ⟨by first | rw [if_pos h7] | rw [if_neg h7], rfl⟩
theorem mul_bd {a b A B : Int} (ha : 0 ≤ a ∧ a ≤ A) (hb : 0 ≤ b ∧ b ≤ B) : 0 ≤ a * b ∧ a * b ≤ A * B := ⟨Int.mul_nonneg ha.1 hb.1, Int.mul_le_mul ha.2 hb.2 hb.1 (by omega)⟩
theorem grw_bd {k r o n : Int} (ho : 0 ≤ o ∧ o ≤ 1000000) (hn : 0 ≤ n ∧ n ≤ 99) (hr : 0 ≤ r ∧ r ≤ 50) : o ≤ grw k r o n ∧ grw k r o n ≤ 1000000 := by
  have h1 := mul_bd ho hr
  have h2 := mul_bd ho (b := r / 2) (B := 50) (by omega)
  have h3 := mul_bd hr hn
  unfold grw
  split
  · omega
  · split <;> omega
set_option maxRecDepth 100000 in
set_option maxHeartbeats 4000000 in
theorem c_X3_grownOnce (G : Gb) (l : Launch) {w : Wd} {d : Nat} (hd : IsTd d) {t o n : Int} (ht : 0 ≤ t ∧ t < 6) (ho : 0 ≤ o ∧ o ≤ 1000000) (hn : 0 ≤ n ∧ n ≤ 99) (hk : 0 ≤ w (d + 1) t ∧ w (d + 1) t ≤ 3) (hr : 0 ≤ w (d + 3) t ∧ w (d + 3) t ≤ 50) : Ci G l yX3_grownOnce mX3_grownOnce [.ref (gA G d), .int (iZ t), .int (iZ o), .int (iZ n)] w (fun z w' => z = grw (w (d + 1) t) (w (d + 3) t) o n ∧ w = w') := by
  refine V_start 2 (by decide) rfl rfl (Nat.le_of_ble_eq_true rfl) ?_
  show V G l mX3_grownOnce _ 0 [some (.ref (gA G d)), some (.int (iZ t)), some (.int (iZ o)), some (.int (iZ n)), none, none] [] w
  have h1 := mul_bd ho hr
  have h2 := mul_bd ho (b := w (d + 3) t / 2) (B := 50) (by omega)
  have h3 := mul_bd hr hn
  refine V_aload_n dX3_grownOnce_0 rfl ?_
  refine V_getR (ci := 3) (j := 3) dX3_grownOnce_1 (sTd_0 hd) rfl rfl i_X3_grownOnce_X3 (by decide) f_X3_grownOnce_18 ?_
  refine V_iload_n dX3_grownOnce_4 rfl ?_
  refine V_iald dX3_grownOnce_5 (sTd_3 hd) (by omega) ?_
  refine V_istore dX3_grownOnce_6 (by decide) rfl ?_
  refine V_aload_n dX3_grownOnce_8 rfl ?_
  refine V_getR (ci := 3) (j := 1) dX3_grownOnce_9 (sTd_0 hd) rfl rfl i_X3_grownOnce_X3 (by decide) f_X3_grownOnce_9 ?_
  refine V_iload_n dX3_grownOnce_12 rfl ?_
  refine V_iald dX3_grownOnce_13 (sTd_1 hd) (by omega) ?_
  rcases (show w (d + 1) t = 2 ∨ w (d + 1) t = 3 ∨ (w (d + 1) t ≠ 2 ∧ w (d + 1) t ≠ 3) by omega) with h14 | h14 | h14
  · refine V_lsw (off := 26) (tgt := 40) dX3_grownOnce_14 (by omega) rfl (by rw [h14]; rfl) (by decide) ?_
    refine V_iload_n dX3_grownOnce_40 rfl ?_
    refine V_iload dX3_grownOnce_41 rfl ?_
    refine V_iconst dX3_grownOnce_43 ?_
    refine V_idiv dX3_grownOnce_44 (by omega) (by omega) ?_
    refine V_imul dX3_grownOnce_45 ?_
    refine V_bipush dX3_grownOnce_46 rfl ?_
    refine V_idiv dX3_grownOnce_48 (by omega) (by omega) ?_
    refine V_istore dX3_grownOnce_49 (by decide) rfl ?_
    refine V_goto (tgt := 72) dX3_grownOnce_51 (by decide) ?_
    refine V_iload_n dX3_grownOnce_72 rfl ?_
    refine V_iload dX3_grownOnce_73 rfl ?_
    refine V_iadd dX3_grownOnce_75 ?_
    refine V_ldc (n := 1000000) dX3_grownOnce_76 (List.mem_of_getElem? (i := 3) rfl) ?_
    refine V_min dX3_grownOnce_78 (by omega) (by omega) (List.mem_of_getElem? (i := 4) rfl) (List.mem_of_getElem? (i := 5) rfl) (List.mem_of_getElem? (i := 6) rfl) (List.mem_of_getElem? (i := 7) rfl) (Nat.le_of_ble_eq_true rfl) (Nat.le_of_ble_eq_true rfl) ?_
    exact V_iret dX3_grownOnce_81 rfl ⟨by unfold grw; first | rw [if_neg h14.1, if_neg h14.2] | rw [if_neg (by omega), if_pos h14] | rw [if_pos h14], rfl⟩
  · refine V_lsw (off := 40) (tgt := 54) dX3_grownOnce_14 (by omega) rfl (by rw [h14]; rfl) (by decide) ?_
    refine V_iload dX3_grownOnce_54 rfl ?_
    refine V_iload_n dX3_grownOnce_56 rfl ?_
    refine V_imul dX3_grownOnce_57 ?_
    refine V_istore dX3_grownOnce_58 (by decide) rfl ?_
    refine V_goto (tgt := 72) dX3_grownOnce_60 (by decide) ?_
    refine V_iload_n dX3_grownOnce_72 rfl ?_
    refine V_iload dX3_grownOnce_73 rfl ?_
    refine V_iadd dX3_grownOnce_75 ?_
    refine V_ldc (n := 1000000) dX3_grownOnce_76 (List.mem_of_getElem? (i := 3) rfl) ?_
    refine V_min dX3_grownOnce_78 (by omega) (by omega) (List.mem_of_getElem? (i := 4) rfl) (List.mem_of_getElem? (i := 5) rfl) (List.mem_of_getElem? (i := 6) rfl) (List.mem_of_getElem? (i := 7) rfl) (Nat.le_of_ble_eq_true rfl) (Nat.le_of_ble_eq_true rfl) ?_
    exact V_iret dX3_grownOnce_81 rfl ⟨by unfold grw; first | rw [if_neg h14.1, if_neg h14.2] | rw [if_neg (by omega), if_pos h14] | rw [if_pos h14], rfl⟩
  · refine V_lsw (off := 49) (tgt := 63) dX3_grownOnce_14 (by omega) rfl (by simp [Op.lookupswitch.offset, h14.1.symm, h14.2.symm]) (by decide) ?_
    refine V_iload_n dX3_grownOnce_63 rfl ?_
    refine V_iload dX3_grownOnce_64 rfl ?_
    refine V_imul dX3_grownOnce_66 ?_
    refine V_bipush dX3_grownOnce_67 rfl ?_
    refine V_idiv dX3_grownOnce_69 (by omega) (by omega) ?_
    refine V_istore dX3_grownOnce_70 (by decide) rfl ?_
    refine V_iload_n dX3_grownOnce_72 rfl ?_
    refine V_iload dX3_grownOnce_73 rfl ?_
    refine V_iadd dX3_grownOnce_75 ?_
    refine V_ldc (n := 1000000) dX3_grownOnce_76 (List.mem_of_getElem? (i := 3) rfl) ?_
    refine V_min dX3_grownOnce_78 (by omega) (by omega) (List.mem_of_getElem? (i := 4) rfl) (List.mem_of_getElem? (i := 5) rfl) (List.mem_of_getElem? (i := 6) rfl) (List.mem_of_getElem? (i := 7) rfl) (Nat.le_of_ble_eq_true rfl) (Nat.le_of_ble_eq_true rfl) ?_
    exact V_iret dX3_grownOnce_81 rfl ⟨by unfold grw; first | rw [if_neg h14.1, if_neg h14.2] | rw [if_neg (by omega), if_pos h14] | rw [if_pos h14], rfl⟩
/-- grown so many times -/
def grI (k r n : Int) : Nat → Int → Int
  | 0, o => o
  | j + 1, o => grI k r n j (grw k r o n)
theorem grI_bd {k r n : Int} (hn : 0 ≤ n ∧ n ≤ 99) (hr : 0 ≤ r ∧ r ≤ 50) : ∀ (j : Nat) (o : Int), 0 ≤ o ∧ o ≤ 1000000 → o ≤ grI k r n j o ∧ grI k r n j o ≤ 1000000
  | 0, o, h => ⟨Int.le_refl _, h.2⟩
  | j + 1, o, h => by
    have h1 := grw_bd (k := k) h hn hr
    have h2 := grI_bd hn hr j (grw k r o n) (by omega) (k := k)
    rw [grI]
    omega
set_option maxRecDepth 100000 in
set_option maxHeartbeats 4000000 in
theorem l_X3_grownIn (G : Gb) (l : Launch) {w : Wd} {d : Nat} (hd : IsTd d) {t n q : Int} (ht : 0 ≤ t ∧ t < 6) (hn : 0 ≤ n ∧ n ≤ 99) (hk : 0 ≤ w (d + 1) t ∧ w (d + 1) t ≤ 3) (hr : 0 ≤ w (d + 3) t ∧ w (d + 3) t ≤ 50) (hq : 0 ≤ q ∧ q ≤ 30) {Post : Int → Wd → Prop} : ∀ (j : Nat) (o i : Int), 0 ≤ o ∧ o ≤ 1000000 → 0 ≤ i → i + j = q → Post (grI (w (d + 1) t) (w (d + 3) t) n j o) w → V G l mX3_grownIn (Qi G Post) 9 [some (.ref (gA G d)), some (.int (iZ t)), some (.int (iZ n)), some (.int (iZ q)), some (.int (iZ o)), some (.int (iZ i))] [] w := by
  intro j
  induction j with
  | zero =>
    intro o i ho h0 h1 hp
    refine V_iload dX3_grownIn_9 rfl ?_
    refine V_iload_n dX3_grownIn_11 rfl ?_
    refine V_icmp_ge (tgt := 31) dX3_grownIn_12 (by decide) (by omega) (by omega) (fun h12 => ?_) (fun h12 => ?_)
    · refine V_iload dX3_grownIn_31 rfl ?_
      exact V_iret dX3_grownIn_33 rfl hp
    · exact absurd h12 (by omega)
  | succ j ih =>
    intro o i ho h0 h1 hp
    refine V_iload dX3_grownIn_9 rfl ?_
    refine V_iload_n dX3_grownIn_11 rfl ?_
    refine V_icmp_ge (tgt := 31) dX3_grownIn_12 (by decide) (by omega) (by omega) (fun h12 => ?_) (fun h12 => ?_)
    · exact absurd h12 (by omega)
    · refine V_aload_n dX3_grownIn_15 rfl ?_
      refine V_iload_n dX3_grownIn_16 rfl ?_
      refine V_iload dX3_grownIn_17 rfl ?_
      refine V_iload_n dX3_grownIn_19 rfl ?_
      refine V_iV3 dX3_grownIn_20 o_X3_grownIn_59 (sTd_0 hd) rfl (by decide) (c_X3_grownOnce G l hd ht ho hn hk hr) ?_
      rintro _ _ ⟨rfl, rfl⟩
      refine V_istore dX3_grownIn_23 (by decide) rfl ?_
      refine V_iinc dX3_grownIn_25 rfl (by decide) rfl ?_
      refine V_goto (tgt := 9) dX3_grownIn_28 (by decide) ?_
      have h2 := grw_bd (k := w (d + 1) t) ho hn hr
      exact ih _ _ (by omega) (by omega) (by omega) hp
set_option maxRecDepth 100000 in
set_option maxHeartbeats 4000000 in
theorem c_X3_grownIn (G : Gb) (l : Launch) {w : Wd} {d : Nat} (hd : IsTd d) {t n q : Int} (ht : 0 ≤ t ∧ t < 6) (hn : 0 ≤ n ∧ n ≤ 99) (hk : 0 ≤ w (d + 1) t ∧ w (d + 1) t ≤ 3) (hr : 0 ≤ w (d + 3) t ∧ w (d + 3) t ≤ 50) (hq : 0 ≤ q ∧ q ≤ 30) : Ci G l yX3_grownIn mX3_grownIn [.ref (gA G d), .int (iZ t), .int (iZ n), .int (iZ q)] w (fun z w' => z = grI (w (d + 1) t) (w (d + 3) t) n q.toNat (100 * n) ∧ w = w') := by
  refine V_start 2 (by decide) rfl rfl (Nat.le_of_ble_eq_true rfl) ?_
  show V G l mX3_grownIn _ 0 [some (.ref (gA G d)), some (.int (iZ t)), some (.int (iZ n)), some (.int (iZ q)), none, none] [] w
  refine V_bipush dX3_grownIn_0 rfl ?_
  refine V_iload_n dX3_grownIn_2 rfl ?_
  refine V_imul dX3_grownIn_3 ?_
  refine V_istore dX3_grownIn_4 (by decide) rfl ?_
  refine V_iconst dX3_grownIn_6 ?_
  refine V_istore dX3_grownIn_7 (by decide) rfl ?_
  exact l_X3_grownIn G l hd ht hn hk hr hq q.toNat _ _ (by omega) (by omega) (by omega) ⟨rfl, rfl⟩
/-- is a tree of this kind (0 oak ..) one of that kind (0 tree, 1 oak ..)? -/
def ofK (k q : Int) : Bool := decide (q = 0 ∨ (q = 1 ∧ k ≠ 3) ∨ (q = 2 ∧ k = 1) ∨ (q = 3 ∧ k = 2) ∨ (q = 4 ∧ k = 3))
set_option maxRecDepth 100000 in
set_option maxHeartbeats 4000000 in
theorem l_X3_isOfKind3 (G : Gb) (l : Launch) {w : Wd} {d : Nat} (hd : IsTd d) {t q : Int} (hq : 0 ≤ q ∧ q ≤ 4) {Post : Int → Wd → Prop} {a : Int} (hp : Post 0 w) : V G l mX3_isOfKind (Qi G Post) 12 [some (.ref (gA G d)), some (.int (iZ t)), some (.int (iZ q)), some (.int (iZ a)), some (.int (iZ 3))] [] w := by
  refine V_iload dX3_isOfKind_12 rfl ?_
  refine V_iconst dX3_isOfKind_14 ?_
  refine V_icmp_ge (tgt := 37) dX3_isOfKind_15 (by decide) (by omega) (by omega) (fun h15 => ?_) (fun h15 => ?_)
  · refine V_iconst dX3_isOfKind_37 ?_
    exact V_zret dX3_isOfKind_38 rfl (by omega) hp
  · exact absurd h15 (by omega)
set_option maxRecDepth 100000 in
set_option maxHeartbeats 4000000 in
theorem l_X3_isOfKind2 (G : Gb) (l : Launch) {w : Wd} {d : Nat} (hd : IsTd d) {t q : Int} (hq : 0 ≤ q ∧ q ≤ 4) {Post : Int → Wd → Prop} {a : Int} (ha : 0 ≤ a ∧ a ≤ 4) (hp : Post (if a = q then 1 else 0) w) : V G l mX3_isOfKind (Qi G Post) 12 [some (.ref (gA G d)), some (.int (iZ t)), some (.int (iZ q)), some (.int (iZ a)), some (.int (iZ 2))] [] w := by
  refine V_iload dX3_isOfKind_12 rfl ?_
  refine V_iconst dX3_isOfKind_14 ?_
  refine V_icmp_ge (tgt := 37) dX3_isOfKind_15 (by decide) (by omega) (by omega) (fun h15 => ?_) (fun h15 => ?_)
  · exact absurd h15 (by omega)
  · refine V_iload_n dX3_isOfKind_18 rfl ?_
    refine V_iload_n dX3_isOfKind_19 rfl ?_
    refine V_icmp_ne (tgt := 25) dX3_isOfKind_20 (by decide) (by omega) (by omega) (fun h20 => ?_) (fun h20 => ?_)
    · refine V_overN rfl dX3_isOfKind_25 ?_
      refine V_iload_n dX3_isOfKind_28 rfl ?_
      refine V_overLd dX3_isOfKind_29 (by omega) ?_
      refine V_istore_n dX3_isOfKind_30 (by decide) rfl ?_
      refine V_iinc dX3_isOfKind_31 rfl (by decide) rfl ?_
      refine V_goto (tgt := 12) dX3_isOfKind_34 (by decide) ?_
      exact l_X3_isOfKind3 G l hd hq (by rw [if_neg h20] at hp; exact hp)
    · refine V_iconst dX3_isOfKind_23 ?_
      exact V_zret dX3_isOfKind_24 rfl (by omega) (by simpa [h20] using hp)
set_option maxRecDepth 100000 in
set_option maxHeartbeats 4000000 in
theorem l_X3_isOfKind1 (G : Gb) (l : Launch) {w : Wd} {d : Nat} (hd : IsTd d) {t q : Int} (hq : 0 ≤ q ∧ q ≤ 4) {Post : Int → Wd → Prop} {a : Int} (ha : 0 ≤ a ∧ a ≤ 4) (hp : Post (if a = q ∨ ovL.getD a.toNat 0 = q then 1 else 0) w) : V G l mX3_isOfKind (Qi G Post) 12 [some (.ref (gA G d)), some (.int (iZ t)), some (.int (iZ q)), some (.int (iZ a)), some (.int (iZ 1))] [] w := by
  refine V_iload dX3_isOfKind_12 rfl ?_
  refine V_iconst dX3_isOfKind_14 ?_
  refine V_icmp_ge (tgt := 37) dX3_isOfKind_15 (by decide) (by omega) (by omega) (fun h15 => ?_) (fun h15 => ?_)
  · exact absurd h15 (by omega)
  · refine V_iload_n dX3_isOfKind_18 rfl ?_
    refine V_iload_n dX3_isOfKind_19 rfl ?_
    refine V_icmp_ne (tgt := 25) dX3_isOfKind_20 (by decide) (by omega) (by omega) (fun h20 => ?_) (fun h20 => ?_)
    · refine V_overN rfl dX3_isOfKind_25 ?_
      refine V_iload_n dX3_isOfKind_28 rfl ?_
      refine V_overLd dX3_isOfKind_29 (by omega) ?_
      refine V_istore_n dX3_isOfKind_30 (by decide) rfl ?_
      refine V_iinc dX3_isOfKind_31 rfl (by decide) rfl ?_
      refine V_goto (tgt := 12) dX3_isOfKind_34 (by decide) ?_
      exact l_X3_isOfKind2 G l hd hq (by rcases (show a = 0 ∨ a = 1 ∨ a = 2 ∨ a = 3 ∨ a = 4 by omega) with rfl | rfl | rfl | rfl | rfl <;> decide) (by simpa [h20] using hp)
    · refine V_iconst dX3_isOfKind_23 ?_
      exact V_zret dX3_isOfKind_24 rfl (by omega) (by simpa [h20] using hp)
set_option maxRecDepth 100000 in
set_option maxHeartbeats 4000000 in
theorem l_X3_isOfKind0 (G : Gb) (l : Launch) {w : Wd} {d : Nat} (hd : IsTd d) {t q : Int} (hq : 0 ≤ q ∧ q ≤ 4) {Post : Int → Wd → Prop} {a : Int} (ha : 0 ≤ a ∧ a ≤ 4) (hp : Post (if a = q ∨ ovL.getD a.toNat 0 = q ∨ ovL.getD (ovL.getD a.toNat 0).toNat 0 = q then 1 else 0) w) : V G l mX3_isOfKind (Qi G Post) 12 [some (.ref (gA G d)), some (.int (iZ t)), some (.int (iZ q)), some (.int (iZ a)), some (.int (iZ 0))] [] w := by
  refine V_iload dX3_isOfKind_12 rfl ?_
  refine V_iconst dX3_isOfKind_14 ?_
  refine V_icmp_ge (tgt := 37) dX3_isOfKind_15 (by decide) (by omega) (by omega) (fun h15 => ?_) (fun h15 => ?_)
  · exact absurd h15 (by omega)
  · refine V_iload_n dX3_isOfKind_18 rfl ?_
    refine V_iload_n dX3_isOfKind_19 rfl ?_
    refine V_icmp_ne (tgt := 25) dX3_isOfKind_20 (by decide) (by omega) (by omega) (fun h20 => ?_) (fun h20 => ?_)
    · refine V_overN rfl dX3_isOfKind_25 ?_
      refine V_iload_n dX3_isOfKind_28 rfl ?_
      refine V_overLd dX3_isOfKind_29 (by omega) ?_
      refine V_istore_n dX3_isOfKind_30 (by decide) rfl ?_
      refine V_iinc dX3_isOfKind_31 rfl (by decide) rfl ?_
      refine V_goto (tgt := 12) dX3_isOfKind_34 (by decide) ?_
      exact l_X3_isOfKind1 G l hd hq (by rcases (show a = 0 ∨ a = 1 ∨ a = 2 ∨ a = 3 ∨ a = 4 by omega) with rfl | rfl | rfl | rfl | rfl <;> decide) (by simpa [h20] using hp)
    · refine V_iconst dX3_isOfKind_23 ?_
      exact V_zret dX3_isOfKind_24 rfl (by omega) (by simpa [h20] using hp)
set_option maxRecDepth 100000 in
set_option maxHeartbeats 4000000 in
theorem c_X3_isOfKind (G : Gb) (l : Launch) {w : Wd} {d : Nat} (hd : IsTd d) {t q : Int} (ht : 0 ≤ t ∧ t < 6) (hq : 0 ≤ q ∧ q ≤ 4) (hk : 0 ≤ w (d + 1) t ∧ w (d + 1) t ≤ 3) : Ci G l yX3_isOfKind mX3_isOfKind [.ref (gA G d), .int (iZ t), .int (iZ q)] w (fun z w' => z = (if ofK (w (d + 1) t) q then 1 else 0) ∧ w = w') := by
  refine V_start 2 (by decide) rfl rfl (Nat.le_of_ble_eq_true rfl) ?_
  show V G l mX3_isOfKind _ 0 [some (.ref (gA G d)), some (.int (iZ t)), some (.int (iZ q)), none, none] [] w
  refine V_aload_n dX3_isOfKind_0 rfl ?_
  refine V_getR (ci := 3) (j := 1) dX3_isOfKind_1 (sTd_0 hd) rfl rfl i_X3_isOfKind_X3 (by decide) f_X3_isOfKind_9 ?_
  refine V_iload_n dX3_isOfKind_4 rfl ?_
  refine V_iald dX3_isOfKind_5 (sTd_1 hd) (by omega) ?_
  refine V_iconst dX3_isOfKind_6 ?_
  refine V_iadd dX3_isOfKind_7 ?_
  refine V_istore_n dX3_isOfKind_8 (by decide) rfl ?_
  refine V_iconst dX3_isOfKind_9 ?_
  refine V_istore dX3_isOfKind_10 (by decide) rfl ?_
  refine l_X3_isOfKind0 G l hd hq (by omega) ⟨?_, rfl⟩
  have hv : ∀ k : Nat, k < 4 → ∀ j : Nat, j < 5 → (if ((k : Int) + 1) = (j : Int) ∨ ovL.getD ((k : Int) + 1).toNat 0 = (j : Int) ∨ ovL.getD (ovL.getD ((k : Int) + 1).toNat 0).toNat 0 = (j : Int) then (1 : Int) else 0) = (if ofK (k : Int) (j : Int) then 1 else 0) := by decide
  have h9 := hv (w (d + 1) t).toNat (by omega) q.toNat (by omega)
  rw [show (((w (d + 1) t).toNat : Nat) : Int) = w (d + 1) t by omega, show ((q.toNat : Nat) : Int) = q by omega] at h9
  exact h9

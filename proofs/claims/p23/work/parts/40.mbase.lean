/-! ===== 40 the reference: its small methods ===== -/
def lZ (z : Int) : Int64 := Int64.ofInt z
theorem lZ_toInt {a : Int} (h : inR a) : (lZ a).toInt = a := by
  unfold lZ
  rw [Int64.toInt_ofInt]
  exact Int.bmod_eq_of_le (by show -(((18446744073709551616 : Nat) : Int) / 2) ≤ a; omega) (by show a < (((18446744073709551616 : Nat) : Int) + 1) / 2; omega)
theorem iZ_l {a : Int} (h : inR a) : (iZ a).toInt64 = lZ a := by
  apply Int64.toInt_inj.mp
  rw [Int32.toInt_toInt64, iZ_toInt h, lZ_toInt h]
def cmZ (a b : Int) : Int := if a > b then 1 else if a = b then 0 else -1
theorem cmZ_r (a b : Int) : inR (cmZ a b) := by unfold cmZ; split <;> (try split) <;> omega
theorem lcZ {a b : Int} (ha : inR a) (hb : inR b) : lg_cmp (lZ a) (lZ b) = iZ (cmZ a b) := by
  unfold lg_cmp cmZ
  have e1 : (lZ a > lZ b) ↔ a > b := by
    show lZ b < lZ a ↔ b < a
    rw [Int64.lt_iff_toInt_lt, lZ_toInt ha, lZ_toInt hb]
  have e2 : (lZ a = lZ b) ↔ a = b := by
    rw [← Int64.toInt_inj, lZ_toInt ha, lZ_toInt hb]
  by_cases h1 : a > b
  · rw [if_pos (e1.mpr h1), if_pos h1]; rfl
  · rw [if_neg (fun q => h1 (e1.mp q)), if_neg h1]
    by_cases h2 : a = b
    · rw [if_pos (e2.mpr h2), if_pos h2]; rfl
    · rw [if_neg (fun q => h2 (e2.mp q)), if_neg h2]; rfl
theorem cmZ_lt {a b : Int} : cmZ a b < 0 ↔ a < b := by unfold cmZ; split <;> (try split) <;> omega
theorem cmZ_gt {a b : Int} : 0 < cmZ a b ↔ b < a := by unfold cmZ; split <;> (try split) <;> omega
set_option maxRecDepth 100000 in
set_option maxHeartbeats 4000000 in
theorem c_X5_in (G : Gb) (l : Launch) {w : Wd} {a b c : Int} (ha : inR a) (hb : inR b) (hc : inR c) : Ci G l yX5_in mX5_in [.long (lZ a), .long (lZ b), .long (lZ c)] w (fun z w' => z = (if b ≤ a ∧ a ≤ c then 1 else 0) ∧ w = w') := by
  refine V_start 0 (by decide) rfl rfl (Nat.le_of_ble_eq_true rfl) ?_
  show V G l mX5_in _ 0 [some (.long (lZ a)), none, some (.long (lZ b)), none, some (.long (lZ c)), none] [] w
  refine V_lload_n dX5_in_0 rfl ?_
  refine V_lload_n dX5_in_1 rfl ?_
  refine V_lcmp dX5_in_2 (lcZ ha hb) ?_
  refine V_if_lt (tgt := 17) dX5_in_3 (by decide) (cmZ_r _ _) (fun h3 => ?_) (fun h3 => ?_)
  · refine V_iconst dX5_in_17 ?_
    exact V_zret dX5_in_18 rfl (by omega) ⟨by (try rw [cmZ_lt] at h3); (try rw [cmZ_gt] at h10); (try rw [← Int.not_lt, cmZ_lt] at h3); (try rw [← Int.not_lt, cmZ_gt] at h10); first | rw [if_pos (by omega)] | rw [if_neg (by omega)], rfl⟩
  · refine V_lload_n dX5_in_6 rfl ?_
    refine V_lload dX5_in_7 rfl ?_
    refine V_lcmp dX5_in_9 (lcZ ha hc) ?_
    refine V_if_gt (tgt := 17) dX5_in_10 (by decide) (cmZ_r _ _) (fun h10 => ?_) (fun h10 => ?_)
    · refine V_iconst dX5_in_17 ?_
      exact V_zret dX5_in_18 rfl (by omega) ⟨by (try rw [cmZ_lt] at h3); (try rw [cmZ_gt] at h10); (try rw [← Int.not_lt, cmZ_lt] at h3); (try rw [← Int.not_lt, cmZ_gt] at h10); first | rw [if_pos (by omega)] | rw [if_neg (by omega)], rfl⟩
    · refine V_iconst dX5_in_13 ?_
      refine V_goto (tgt := 18) dX5_in_14 (by decide) ?_
      exact V_zret dX5_in_18 rfl (by omega) ⟨by (try rw [cmZ_lt] at h3); (try rw [cmZ_gt] at h10); (try rw [← Int.not_lt, cmZ_lt] at h3); (try rw [← Int.not_lt, cmZ_gt] at h10); first | rw [if_pos (by omega)] | rw [if_neg (by omega)], rfl⟩
set_option maxRecDepth 100000 in
set_option maxHeartbeats 4000000 in
theorem c_X5_sort (G : Gb) (l : Launch) {w : Wd} {c : Int} (hc : inR c) : Ci G l yX5_sort mX5_sort [.int (iZ c)] w (fun z w' => z = srt c ∧ w = w') := by
  refine V_start 0 (by decide) rfl rfl (Nat.le_of_ble_eq_true rfl) ?_
  show V G l mX5_sort _ 0 [some (.int (iZ c))] [] w
  refine V_iload_n dX5_sort_0 rfl ?_
  refine V_bipush dX5_sort_1 rfl ?_
  refine V_icmp_lt (tgt := 16) dX5_sort_3 (by decide) (by omega) (by omega) (fun h3 => ?_) (fun h3 => ?_)
  · refine V_iload_n dX5_sort_16 rfl ?_
    refine V_bipush dX5_sort_17 rfl ?_
    refine V_icmp_lt (tgt := 32) dX5_sort_19 (by decide) (by omega) (by omega) (fun h19 => ?_) (fun h19 => ?_)
    · refine V_iconst dX5_sort_32 ?_
      exact V_iret dX5_sort_33 rfl ⟨by unfold srt; (repeat' split) <;> omega, rfl⟩
    · refine V_iload_n dX5_sort_22 rfl ?_
      refine V_bipush dX5_sort_23 rfl ?_
      refine V_icmp_gt (tgt := 32) dX5_sort_25 (by decide) (by omega) (by omega) (fun h25 => ?_) (fun h25 => ?_)
      · refine V_iconst dX5_sort_32 ?_
        exact V_iret dX5_sort_33 rfl ⟨by unfold srt; (repeat' split) <;> omega, rfl⟩
      · refine V_iconst dX5_sort_28 ?_
        refine V_goto (tgt := 33) dX5_sort_29 (by decide) ?_
        exact V_iret dX5_sort_33 rfl ⟨by unfold srt; (repeat' split) <;> omega, rfl⟩
  · refine V_iload_n dX5_sort_6 rfl ?_
    refine V_bipush dX5_sort_7 rfl ?_
    refine V_icmp_gt (tgt := 16) dX5_sort_9 (by decide) (by omega) (by omega) (fun h9 => ?_) (fun h9 => ?_)
    · refine V_iload_n dX5_sort_16 rfl ?_
      refine V_bipush dX5_sort_17 rfl ?_
      refine V_icmp_lt (tgt := 32) dX5_sort_19 (by decide) (by omega) (by omega) (fun h19 => ?_) (fun h19 => ?_)
      · refine V_iconst dX5_sort_32 ?_
        exact V_iret dX5_sort_33 rfl ⟨by unfold srt; (repeat' split) <;> omega, rfl⟩
      · refine V_iload_n dX5_sort_22 rfl ?_
        refine V_bipush dX5_sort_23 rfl ?_
        refine V_icmp_gt (tgt := 32) dX5_sort_25 (by decide) (by omega) (by omega) (fun h25 => ?_) (fun h25 => ?_)
        · refine V_iconst dX5_sort_32 ?_
          exact V_iret dX5_sort_33 rfl ⟨by unfold srt; (repeat' split) <;> omega, rfl⟩
        · refine V_iconst dX5_sort_28 ?_
          refine V_goto (tgt := 33) dX5_sort_29 (by decide) ?_
          exact V_iret dX5_sort_33 rfl ⟨by unfold srt; (repeat' split) <;> omega, rfl⟩
    · refine V_iconst dX5_sort_12 ?_
      refine V_goto (tgt := 33) dX5_sort_13 (by decide) ?_
      exact V_iret dX5_sort_33 rfl ⟨by unfold srt; (repeat' split) <;> omega, rfl⟩
set_option maxRecDepth 100000 in
set_option maxHeartbeats 4000000 in
theorem c_X5_placeOf (G : Gb) (l : Launch) {w : Wd} {o k q : Int} : Ci G l yX5_placeOf mX5_placeOf [.int (iZ o), .int (iZ k), .int (iZ q)] w (fun z w' => z = o + 15 + 5 * k + q ∧ w = w') := by
  refine V_start 0 (by decide) rfl rfl (Nat.le_of_ble_eq_true rfl) ?_
  show V G l mX5_placeOf _ 0 [some (.int (iZ o)), some (.int (iZ k)), some (.int (iZ q))] [] w
  refine V_iload_n dX5_placeOf_0 rfl ?_
  refine V_bipush dX5_placeOf_1 rfl ?_
  refine V_iadd dX5_placeOf_3 ?_
  refine V_iconst dX5_placeOf_4 ?_
  refine V_iload_n dX5_placeOf_5 rfl ?_
  refine V_imul dX5_placeOf_6 ?_
  refine V_iadd dX5_placeOf_7 ?_
  refine V_iload_n dX5_placeOf_8 rfl ?_
  refine V_iadd dX5_placeOf_9 ?_
  exact V_iret dX5_placeOf_10 rfl ⟨rfl, rfl⟩
set_option maxRecDepth 100000 in
set_option maxHeartbeats 4000000 in
theorem c_X5_few (G : Gb) (l : Launch) {w : Wd} {v : Int} (hv : inR v) : Ci G l yX5_few mX5_few [.int (iZ v)] w (fun z w' => z = min v 99 ∧ w = w') := by
  refine V_start 0 (by decide) rfl rfl (Nat.le_of_ble_eq_true rfl) ?_
  show V G l mX5_few _ 0 [some (.int (iZ v))] [] w
  refine V_iload_n dX5_few_0 rfl ?_
  refine V_bipush dX5_few_1 rfl ?_
  refine V_icmp_le (tgt := 11) dX5_few_3 (by decide) (by omega) (by omega) (fun h3 => ?_) (fun h3 => ?_)
  · refine V_iload_n dX5_few_11 rfl ?_
    exact V_iret dX5_few_12 rfl ⟨by omega, rfl⟩
  · refine V_bipush dX5_few_6 rfl ?_
    refine V_goto (tgt := 12) dX5_few_8 (by decide) ?_
    exact V_iret dX5_few_12 rfl ⟨by omega, rfl⟩
set_option maxRecDepth 100000 in
set_option maxHeartbeats 4000000 in
theorem c_X5_lives (G : Gb) (l : Launch) {w : Wd} {t : Int} (ht : 0 ≤ t ∧ t < 6) (hf : inR (w 72 (8 + t))) : Ci G l yX5_lives mX5_lives [.ref (gA G 71), .int (iZ t)] w (fun z w' => z = (if w 72 (8 + t) = 0 then 1 else 0) ∧ w = w') := by
  refine V_start 0 (by decide) rfl rfl (Nat.le_of_ble_eq_true rfl) ?_
  show V G l mX5_lives _ 0 [some (.ref (gA G 71)), some (.int (iZ t))] [] w
  refine V_aload_n dX5_lives_0 rfl ?_
  refine V_getR (ci := 5) (j := 0) dX5_lives_1 s_71 rfl rfl i_X5_lives_X5 (by decide) f_X5_lives_7 ?_
  refine V_bipush dX5_lives_4 rfl ?_
  refine V_iload_n dX5_lives_6 rfl ?_
  refine V_iadd dX5_lives_7 ?_
  refine V_iald dX5_lives_8 s_72 (by omega) ?_
  refine V_if_ne (tgt := 16) dX5_lives_9 (by decide) (by omega) (fun h9 => ?_) (fun h9 => ?_)
  · refine V_iconst dX5_lives_16 ?_
    exact V_zret dX5_lives_17 rfl (by omega) ⟨by first | rw [if_pos h9] | rw [if_neg h9], rfl⟩
  · refine V_iconst dX5_lives_12 ?_
    refine V_goto (tgt := 17) dX5_lives_13 (by decide) ?_
    exact V_zret dX5_lives_17 rfl (by omega) ⟨by first | rw [if_pos h9] | rw [if_neg h9], rfl⟩
set_option maxRecDepth 100000 in
set_option maxHeartbeats 4000000 in
theorem c_X5_isTree (G : Gb) (l : Launch) {w : Wd} {t : Int} (ht : inR t) (hn : 0 ≤ w 71 10 ∧ w 71 10 ≤ 6) : Ci G l yX5_isTree mX5_isTree [.ref (gA G 71), .int (iZ t)] w (fun z w' => z = (if 0 ≤ t ∧ t < w 71 10 then 1 else 0) ∧ w = w') := by
  refine V_start 0 (by decide) rfl rfl (Nat.le_of_ble_eq_true rfl) ?_
  show V G l mX5_isTree _ 0 [some (.ref (gA G 71)), some (.int (iZ t))] [] w
  refine V_iload_n dX5_isTree_0 rfl ?_
  refine V_i2l dX5_isTree_1 (iZ_l (by omega)) ?_
  refine V_lconst (v := lZ 0) dX5_isTree_2 rfl ?_
  refine V_aload_n dX5_isTree_3 rfl ?_
  refine V_getI (ci := 5) (j := 10) (ji := 10) dX5_isTree_4 s_71 rfl rfl i_X5_isTree_X5 (by decide) f_X5_isTree_115 rfl ?_
  refine V_iconst dX5_isTree_7 ?_
  refine V_isub dX5_isTree_8 ?_
  refine V_i2l dX5_isTree_9 (iZ_l (by omega)) ?_
  refine V_iS3 dX5_isTree_10 o_X5_isTree_50 (Nat.le_of_ble_eq_true rfl) (c_X5_in G l (by omega) (by omega) (by omega)) ?_
  rintro _ _ ⟨rfl, rfl⟩
  exact V_zret dX5_isTree_13 rfl (by split <;> simp) ⟨by (repeat' split) <;> omega, rfl⟩
set_option maxRecDepth 100000 in
set_option maxHeartbeats 4000000 in
theorem c_X5_isTreeWord (G : Gb) (l : Launch) {w : Wd} {t : Int} (ht : inR t) : Ci G l yX5_isTreeWord mX5_isTreeWord [.int (iZ t)] w (fun z w' => z = (if 1 ≤ t ∧ t ≤ 4 then 1 else 0) ∧ w = w') := by
  refine V_start 0 (by decide) rfl rfl (Nat.le_of_ble_eq_true rfl) ?_
  show V G l mX5_isTreeWord _ 0 [some (.int (iZ t))] [] w
  refine V_iload_n dX5_isTreeWord_0 rfl ?_
  refine V_i2l dX5_isTreeWord_1 (iZ_l (by omega)) ?_
  refine V_lconst (v := lZ 1) dX5_isTreeWord_2 rfl ?_
  refine V_ldc2 (v := (lZ 4)) dX5_isTreeWord_3 (List.mem_of_getElem? (i := 1) rfl) ?_
  refine V_iS3 dX5_isTreeWord_6 o_X5_isTreeWord_50 (Nat.le_of_ble_eq_true rfl) (c_X5_in G l (by omega) (by omega) (by omega)) ?_
  rintro _ _ ⟨rfl, rfl⟩
  exact V_zret dX5_isTreeWord_9 rfl (by split <;> simp) ⟨rfl, rfl⟩
theorem mulB {a b : Int} (ha : 0 ≤ a ∧ a ≤ 1000000) (hb : 0 ≤ b ∧ b ≤ 99) : 0 ≤ a * b ∧ a * b ≤ 99000000 := by
  have h1 : 0 ≤ a * b := Int.mul_nonneg ha.1 hb.1
  have h2 : a * b ≤ 1000000 * 99 := Int.mul_le_mul ha.2 hb.2 hb.1 (by omega)
  omega
set_option maxRecDepth 100000 in
set_option maxHeartbeats 4000000 in
theorem c_X5_grown (G : Gb) (l : Launch) {w : Wd} {t o n : Int} (ht : 0 ≤ t ∧ t < 6) (ho : 0 ≤ o ∧ o ≤ 1000000) (hn : 0 ≤ n ∧ n ≤ 99) (hk : 0 ≤ w 76 t ∧ w 76 t ≤ 3) (hr : 0 ≤ w 77 t ∧ w 77 t ≤ 50) : Ci G l yX5_grown mX5_grown [.ref (gA G 71), .int (iZ t), .int (iZ o), .int (iZ n)] w (fun z w' => z = grw (w 76 t) (w 77 t) o n ∧ w = w') := by
  refine V_start 2 (by decide) rfl rfl (Nat.le_of_ble_eq_true rfl) ?_
  show V G l mX5_grown _ 0 [some (.ref (gA G 71)), some (.int (iZ t)), some (.int (iZ o)), some (.int (iZ n)), none, none] [] w
  have q1 := mulB (a := o) (b := w 77 t) ho (by omega)
  have q2 := mulB (a := o) (b := w 77 t / 2) ho (by omega)
  have q3 := mulB (a := w 77 t) (b := n) (by omega) hn
  have q4 := mulB (a := w 77 t / 2) (b := n) (by omega) hn
  unfold grw
  refine V_aload_n dX5_grown_0 rfl ?_
  refine V_getR (ci := 5) (j := 6) dX5_grown_1 s_71 rfl rfl i_X5_grown_X5 (by decide) f_X5_grown_23 ?_
  refine V_iload_n dX5_grown_4 rfl ?_
  refine V_iald dX5_grown_5 s_76 (by omega) ?_
  refine V_iconst dX5_grown_6 ?_
  refine V_icmp_ne (tgt := 21) dX5_grown_7 (by decide) (by omega) (by omega) (fun h7 => ?_) (fun h7 => ?_)
  · refine V_aload_n dX5_grown_21 rfl ?_
    refine V_getR (ci := 5) (j := 7) dX5_grown_22 s_71 rfl rfl i_X5_grown_X5 (by decide) f_X5_grown_26 ?_
    refine V_iload_n dX5_grown_25 rfl ?_
    refine V_iald dX5_grown_26 s_77 (by omega) ?_
    refine V_istore dX5_grown_27 (by decide) rfl ?_
    refine V_aload_n dX5_grown_29 rfl ?_
    refine V_getR (ci := 5) (j := 6) dX5_grown_30 s_71 rfl rfl i_X5_grown_X5 (by decide) f_X5_grown_23 ?_
    refine V_iload_n dX5_grown_33 rfl ?_
    refine V_iald dX5_grown_34 s_76 (by omega) ?_
    refine V_iconst dX5_grown_35 ?_
    refine V_icmp_ne (tgt := 48) dX5_grown_36 (by decide) (by omega) (by omega) (fun h36 => ?_) (fun h36 => ?_)
    · refine V_iload_n dX5_grown_48 rfl ?_
      refine V_iload_n dX5_grown_49 rfl ?_
      refine V_iload dX5_grown_50 rfl ?_
      refine V_imul dX5_grown_52 ?_
      refine V_bipush dX5_grown_53 rfl ?_
      refine V_idiv dX5_grown_55 (by omega) (by omega) ?_
      refine V_iadd dX5_grown_56 ?_
      refine V_istore dX5_grown_57 (by decide) rfl ?_
      refine V_iload dX5_grown_59 rfl ?_
      refine V_ldc (n := 1000000) dX5_grown_61 (List.mem_of_getElem? (i := 3) rfl) ?_
      refine V_icmp_le (tgt := 71) dX5_grown_63 (by decide) (by omega) (by omega) (fun h63 => ?_) (fun h63 => ?_)
      · refine V_iload dX5_grown_71 rfl ?_
        exact V_iret dX5_grown_73 rfl ⟨by first | (rw [if_pos (by omega)]; omega) | (rw [if_neg (by omega), if_pos (by omega)]; omega) | (rw [if_neg (by omega), if_neg (by omega)]; omega), rfl⟩
      · refine V_ldc (n := 1000000) dX5_grown_66 (List.mem_of_getElem? (i := 3) rfl) ?_
        refine V_goto (tgt := 73) dX5_grown_68 (by decide) ?_
        exact V_iret dX5_grown_73 rfl ⟨by first | (rw [if_pos (by omega)]; omega) | (rw [if_neg (by omega), if_pos (by omega)]; omega) | (rw [if_neg (by omega), if_neg (by omega)]; omega), rfl⟩
    · refine V_iload_n dX5_grown_39 rfl ?_
      refine V_iload dX5_grown_40 rfl ?_
      refine V_iload_n dX5_grown_42 rfl ?_
      refine V_imul dX5_grown_43 ?_
      refine V_iadd dX5_grown_44 ?_
      refine V_goto (tgt := 57) dX5_grown_45 (by decide) ?_
      refine V_istore dX5_grown_57 (by decide) rfl ?_
      refine V_iload dX5_grown_59 rfl ?_
      refine V_ldc (n := 1000000) dX5_grown_61 (List.mem_of_getElem? (i := 3) rfl) ?_
      refine V_icmp_le (tgt := 71) dX5_grown_63 (by decide) (by omega) (by omega) (fun h63 => ?_) (fun h63 => ?_)
      · refine V_iload dX5_grown_71 rfl ?_
        exact V_iret dX5_grown_73 rfl ⟨by first | (rw [if_pos (by omega)]; omega) | (rw [if_neg (by omega), if_pos (by omega)]; omega) | (rw [if_neg (by omega), if_neg (by omega)]; omega), rfl⟩
      · refine V_ldc (n := 1000000) dX5_grown_66 (List.mem_of_getElem? (i := 3) rfl) ?_
        refine V_goto (tgt := 73) dX5_grown_68 (by decide) ?_
        exact V_iret dX5_grown_73 rfl ⟨by first | (rw [if_pos (by omega)]; omega) | (rw [if_neg (by omega), if_pos (by omega)]; omega) | (rw [if_neg (by omega), if_neg (by omega)]; omega), rfl⟩
  · refine V_aload_n dX5_grown_10 rfl ?_
    refine V_getR (ci := 5) (j := 7) dX5_grown_11 s_71 rfl rfl i_X5_grown_X5 (by decide) f_X5_grown_26 ?_
    refine V_iload_n dX5_grown_14 rfl ?_
    refine V_iald dX5_grown_15 s_77 (by omega) ?_
    refine V_iconst dX5_grown_16 ?_
    refine V_idiv dX5_grown_17 (by omega) (by omega) ?_
    refine V_goto (tgt := 27) dX5_grown_18 (by decide) ?_
    refine V_istore dX5_grown_27 (by decide) rfl ?_
    refine V_aload_n dX5_grown_29 rfl ?_
    refine V_getR (ci := 5) (j := 6) dX5_grown_30 s_71 rfl rfl i_X5_grown_X5 (by decide) f_X5_grown_23 ?_
    refine V_iload_n dX5_grown_33 rfl ?_
    refine V_iald dX5_grown_34 s_76 (by omega) ?_
    refine V_iconst dX5_grown_35 ?_
    refine V_icmp_ne (tgt := 48) dX5_grown_36 (by decide) (by omega) (by omega) (fun h36 => ?_) (fun h36 => ?_)
    · refine V_iload_n dX5_grown_48 rfl ?_
      refine V_iload_n dX5_grown_49 rfl ?_
      refine V_iload dX5_grown_50 rfl ?_
      refine V_imul dX5_grown_52 ?_
      refine V_bipush dX5_grown_53 rfl ?_
      refine V_idiv dX5_grown_55 (by omega) (by omega) ?_
      refine V_iadd dX5_grown_56 ?_
      refine V_istore dX5_grown_57 (by decide) rfl ?_
      refine V_iload dX5_grown_59 rfl ?_
      refine V_ldc (n := 1000000) dX5_grown_61 (List.mem_of_getElem? (i := 3) rfl) ?_
      refine V_icmp_le (tgt := 71) dX5_grown_63 (by decide) (by omega) (by omega) (fun h63 => ?_) (fun h63 => ?_)
      · refine V_iload dX5_grown_71 rfl ?_
        exact V_iret dX5_grown_73 rfl ⟨by first | (rw [if_pos (by omega)]; omega) | (rw [if_neg (by omega), if_pos (by omega)]; omega) | (rw [if_neg (by omega), if_neg (by omega)]; omega), rfl⟩
      · refine V_ldc (n := 1000000) dX5_grown_66 (List.mem_of_getElem? (i := 3) rfl) ?_
        refine V_goto (tgt := 73) dX5_grown_68 (by decide) ?_
        exact V_iret dX5_grown_73 rfl ⟨by first | (rw [if_pos (by omega)]; omega) | (rw [if_neg (by omega), if_pos (by omega)]; omega) | (rw [if_neg (by omega), if_neg (by omega)]; omega), rfl⟩
    · refine V_iload_n dX5_grown_39 rfl ?_
      refine V_iload dX5_grown_40 rfl ?_
      refine V_iload_n dX5_grown_42 rfl ?_
      refine V_imul dX5_grown_43 ?_
      refine V_iadd dX5_grown_44 ?_
      refine V_goto (tgt := 57) dX5_grown_45 (by decide) ?_
      refine V_istore dX5_grown_57 (by decide) rfl ?_
      refine V_iload dX5_grown_59 rfl ?_
      refine V_ldc (n := 1000000) dX5_grown_61 (List.mem_of_getElem? (i := 3) rfl) ?_
      refine V_icmp_le (tgt := 71) dX5_grown_63 (by decide) (by omega) (by omega) (fun h63 => ?_) (fun h63 => ?_)
      · refine V_iload dX5_grown_71 rfl ?_
        exact V_iret dX5_grown_73 rfl ⟨by first | (rw [if_pos (by omega)]; omega) | (rw [if_neg (by omega), if_pos (by omega)]; omega) | (rw [if_neg (by omega), if_neg (by omega)]; omega), rfl⟩
      · refine V_ldc (n := 1000000) dX5_grown_66 (List.mem_of_getElem? (i := 3) rfl) ?_
        refine V_goto (tgt := 73) dX5_grown_68 (by decide) ?_
        exact V_iret dX5_grown_73 rfl ⟨by first | (rw [if_pos (by omega)]; omega) | (rw [if_neg (by omega), if_pos (by omega)]; omega) | (rw [if_neg (by omega), if_neg (by omega)]; omega), rfl⟩

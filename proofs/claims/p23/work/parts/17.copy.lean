/-! ===== 17 copies, Told that changes, burn, hand over ===== -/
theorem cpA_ne {w : Wd} {a0 a1 k : Nat} {n j : Int} (h : k ≠ a1) : cpA w a0 a1 n k j = w k j := by
  unfold cpA
  rw [if_neg (fun z => h z.1)]
theorem cpA_in {w : Wd} {a0 a1 : Nat} {n j : Int} (h : 0 ≤ j ∧ j < n) : cpA w a0 a1 n a1 j = w a0 j := by
  unfold cpA
  rw [if_pos ⟨rfl, h⟩]
/-- what is told, as lists -/
abbrev TS : Type := Int × List Int × List Int × List Int × List Int × List Int × List (Int × Int) × Int
def tAS (w : Wd) (d : Nat) : TS := (w d 0, gl w (d + 1) 0 6, gl w (d + 2) 0 6, gl w (d + 3) 0 6, gl w (d + 4) 0 6, gl w (d + 5) 0 6, qsC w d, w d 9)
theorem qsC_eq {w w' : Wd} {d d' : Nat} (h6 : w d 6 = w' d' 6) (h : ∀ j : Int, 0 ≤ j → j < w d 6 → w (d + 6) j = w' (d' + 6) j ∧ w (d + 7) j = w' (d' + 7) j) : qsC w d = qsC w' d' := by
  unfold qsC
  rw [← h6]
  apply List.map_congr_left
  intro i hi
  have hi2 := List.mem_range.mp hi
  have q := h i (by omega) (by omega)
  rw [q.1, q.2]
/-- nothing but the Told at d has changed -/
def frt (d : Nat) (w w' : Wd) : Prop := ∀ (k : Nat) (j : Int), (k < d ∨ d + 7 < k) → w' k j = w k j
def cpS (w : Wd) (b2 b : Nat) : Wd := up (cpA (cpA (cpA (cpA (cpA (up (cpA (cpA (up w b 0 (w b2 0)) (b2 + 1) (b + 1) 6) (b2 + 2) (b + 2) 6) b 3 (w b2 3)) (b2 + 3) (b + 3) 12) (b2 + 4) (b + 4) 12) (b2 + 5) (b + 5) 12) (b2 + 6) (b + 6) 12) (b2 + 7) (b + 7) 12) b 9 (w b2 9)
theorem cpS_ok {w : Wd} {b b2 : Nat} {c : Int} (hb : IsSt b) (hb2 : IsSt b2) (hne : b ≠ b2) (ho : okC c w b2) : okC c (cpS w b2 b) b ∧ cAS (cpS w b2 b) b = cAS w b2 ∧ frm b w (cpS w b2 b) := by
  have hn := ho.n
  have e20 : cpS w b2 b b 0 = w b2 0 := (by unfold cpS; rw [up_ne (by omega), cpA_ne (by omega), cpA_ne (by omega), cpA_ne (by omega), cpA_ne (by omega), cpA_ne (by omega), up_ne (by omega), cpA_ne (by omega), cpA_ne (by omega), up_eq])
  have e1 : ∀ i : Int, 0 ≤ i → i < 6 → cpS w b2 b (b + 1) i = w (b2 + 1) i := fun i g0 g1 => (by unfold cpS; rw [up_ne (by omega), cpA_ne (by omega), cpA_ne (by omega), cpA_ne (by omega), cpA_ne (by omega), cpA_ne (by omega), up_ne (by omega), cpA_ne (by omega), cpA_in (by omega), up_ne (by omega)])
  have e2 : ∀ i : Int, 0 ≤ i → i < 6 → cpS w b2 b (b + 2) i = w (b2 + 2) i := fun i g0 g1 => (by unfold cpS; rw [up_ne (by omega), cpA_ne (by omega), cpA_ne (by omega), cpA_ne (by omega), cpA_ne (by omega), cpA_ne (by omega), up_ne (by omega), cpA_in (by omega), cpA_ne (by omega), up_ne (by omega)])
  have e23 : cpS w b2 b b 3 = w b2 3 := (by unfold cpS; rw [up_ne (by omega), cpA_ne (by omega), cpA_ne (by omega), cpA_ne (by omega), cpA_ne (by omega), cpA_ne (by omega), up_eq])
  have e3 : ∀ i : Int, 0 ≤ i → i < 12 → cpS w b2 b (b + 3) i = w (b2 + 3) i := fun i g0 g1 => (by unfold cpS; rw [up_ne (by omega), cpA_ne (by omega), cpA_ne (by omega), cpA_ne (by omega), cpA_ne (by omega), cpA_in (by omega), up_ne (by omega), cpA_ne (by omega), cpA_ne (by omega), up_ne (by omega)])
  have e4 : ∀ i : Int, 0 ≤ i → i < 12 → cpS w b2 b (b + 4) i = w (b2 + 4) i := fun i g0 g1 => (by unfold cpS; rw [up_ne (by omega), cpA_ne (by omega), cpA_ne (by omega), cpA_ne (by omega), cpA_in (by omega), cpA_ne (by omega), up_ne (by omega), cpA_ne (by omega), cpA_ne (by omega), up_ne (by omega)])
  have e5 : ∀ i : Int, 0 ≤ i → i < 12 → cpS w b2 b (b + 5) i = w (b2 + 5) i := fun i g0 g1 => (by unfold cpS; rw [up_ne (by omega), cpA_ne (by omega), cpA_ne (by omega), cpA_in (by omega), cpA_ne (by omega), cpA_ne (by omega), up_ne (by omega), cpA_ne (by omega), cpA_ne (by omega), up_ne (by omega)])
  have e6 : ∀ i : Int, 0 ≤ i → i < 12 → cpS w b2 b (b + 6) i = w (b2 + 6) i := fun i g0 g1 => (by unfold cpS; rw [up_ne (by omega), cpA_ne (by omega), cpA_in (by omega), cpA_ne (by omega), cpA_ne (by omega), cpA_ne (by omega), up_ne (by omega), cpA_ne (by omega), cpA_ne (by omega), up_ne (by omega)])
  have e7 : ∀ i : Int, 0 ≤ i → i < 12 → cpS w b2 b (b + 7) i = w (b2 + 7) i := fun i g0 g1 => (by unfold cpS; rw [up_ne (by omega), cpA_in (by omega), cpA_ne (by omega), cpA_ne (by omega), cpA_ne (by omega), cpA_ne (by omega), up_ne (by omega), cpA_ne (by omega), cpA_ne (by omega), up_ne (by omega)])
  have e29 : cpS w b2 b b 9 = w b2 9 := (by unfold cpS; rw [up_eq])
  have ef : frm b w (cpS w b2 b) := fun k j q => (by unfold cpS; rw [up_ne (by omega), cpA_ne (by omega), cpA_ne (by omega), cpA_ne (by omega), cpA_ne (by omega), cpA_ne (by omega), up_ne (by omega), cpA_ne (by omega), cpA_ne (by omega), up_ne (by omega)])
  have hL : cLs (cpS w b2 b) b = cLs w b2 := by
    apply cLs_eq
    · exact e23
    · intro k j q1 q2 q3 q4
      rw [e23] at q4
      rcases (show k = 3 ∨ k = 4 ∨ k = 5 ∨ k = 6 ∨ k = 7 by omega) with rfl | rfl | rfl | rfl | rfl
      · exact e3 j q3 (by omega)
      · exact e4 j q3 (by omega)
      · exact e5 j q3 (by omega)
      · exact e6 j q3 (by omega)
      · exact e7 j q3 (by omega)
  have hA : cAS (cpS w b2 b) b = cAS w b2 := by
    unfold cAS
    rw [e20, e29, hL, gl_eq (w := cpS w b2 b) (k := b + 1) (w' := w) (k' := b2 + 1) (o' := 0) (fun i g0 g1 => by rw [Int.zero_add]; exact e1 i g0 g1), gl_eq (w := cpS w b2 b) (k := b + 2) (w' := w) (k' := b2 + 2) (o' := 0) (fun i g0 g1 => by rw [Int.zero_add]; exact e2 i g0 g1)]
  exact ⟨⟨by rw [e23]; exact hn.1, by rw [hA]; exact ho.2⟩, hA, ef⟩
set_option maxRecDepth 100000 in
set_option maxHeartbeats 4000000 in
theorem c_X1_copyFrom (G : Gb) (l : Launch) {w : Wd} {b b2 : Nat} (hb : IsSt b) (hb2 : IsSt b2) (hne : b ≠ b2) {c : Int} (ho : okC c w b2) : Cv G l yX1_copyFrom mX1_copyFrom [.ref (gA G b), .ref (gA G b2)] w (fun w' => okC c w' b ∧ cAS w' b = cAS w b2 ∧ frm b w w') := by
  refine V_start 0 (by decide) rfl rfl (Nat.le_of_ble_eq_true rfl) ?_
  show V G l mX1_copyFrom _ 0 [some (.ref (gA G b)), some (.ref (gA G b2))] [] w
  refine V_aload_n dX1_copyFrom_0 rfl ?_
  refine V_aload_n dX1_copyFrom_1 rfl ?_
  refine V_getI (ci := 1) (j := 0) (ji := 0) dX1_copyFrom_2 (sSt_0 hb2) rfl rfl i_X1_copyFrom_X1 (by decide) f_X1_copyFrom_33 rfl ?_
  refine V_putI (ci := 1) (j := 0) (ji := 0) dX1_copyFrom_5 (sSt_0 hb) rfl rfl i_X1_copyFrom_X1 tyX1_ok nmX1 (by decide) f_X1_copyFrom_33 rfl rfl rfl ?_
  refine V_aload_n dX1_copyFrom_8 rfl ?_
  refine V_getR (ci := 1) (j := 1) dX1_copyFrom_9 (sSt_0 hb2) rfl rfl i_X1_copyFrom_X1 (by decide) f_X1_copyFrom_9 ?_
  refine V_iconst dX1_copyFrom_12 ?_
  refine V_aload_n dX1_copyFrom_13 rfl ?_
  refine V_getR (ci := 1) (j := 1) dX1_copyFrom_14 (sSt_0 hb) rfl rfl i_X1_copyFrom_X1 (by decide) f_X1_copyFrom_9 ?_
  refine V_iconst dX1_copyFrom_17 ?_
  refine V_bipush dX1_copyFrom_18 rfl ?_
  refine V_copy dX1_copyFrom_20 (sSt_1 hb2) (sSt_1 hb) (by omega) (List.mem_of_getElem? (i := 3) rfl) (List.mem_of_getElem? (i := 4) rfl) (List.mem_of_getElem? (i := 5) rfl) (List.mem_of_getElem? (i := 6) rfl) (Nat.le_of_ble_eq_true rfl) (Nat.le_of_ble_eq_true rfl) ?_
  refine V_aload_n dX1_copyFrom_23 rfl ?_
  refine V_getR (ci := 1) (j := 2) dX1_copyFrom_24 (sSt_0 hb2) rfl rfl i_X1_copyFrom_X1 (by decide) f_X1_copyFrom_15 ?_
  refine V_iconst dX1_copyFrom_27 ?_
  refine V_aload_n dX1_copyFrom_28 rfl ?_
  refine V_getR (ci := 1) (j := 2) dX1_copyFrom_29 (sSt_0 hb) rfl rfl i_X1_copyFrom_X1 (by decide) f_X1_copyFrom_15 ?_
  refine V_iconst dX1_copyFrom_32 ?_
  refine V_bipush dX1_copyFrom_33 rfl ?_
  refine V_copy dX1_copyFrom_35 (sSt_2 hb2) (sSt_2 hb) (by omega) (List.mem_of_getElem? (i := 3) rfl) (List.mem_of_getElem? (i := 4) rfl) (List.mem_of_getElem? (i := 5) rfl) (List.mem_of_getElem? (i := 6) rfl) (Nat.le_of_ble_eq_true rfl) (Nat.le_of_ble_eq_true rfl) ?_
  refine V_aload_n dX1_copyFrom_38 rfl ?_
  refine V_aload_n dX1_copyFrom_39 rfl ?_
  refine V_getIE (ci := 1) (j := 3) (ji := 3) (z := w b2 3) dX1_copyFrom_40 (sSt_0 hb2) rfl rfl i_X1_copyFrom_X1 (by decide) f_X1_copyFrom_37 rfl (by rw [cpA_ne (by omega), cpA_ne (by omega), up_ne (by omega)]) ?_
  refine V_putI (ci := 1) (j := 3) (ji := 3) dX1_copyFrom_43 (sSt_0 hb) rfl rfl i_X1_copyFrom_X1 tyX1_ok nmX1 (by decide) f_X1_copyFrom_37 rfl rfl rfl ?_
  refine V_aload_n dX1_copyFrom_46 rfl ?_
  refine V_getR (ci := 1) (j := 4) dX1_copyFrom_47 (sSt_0 hb2) rfl rfl i_X1_copyFrom_X1 (by decide) f_X1_copyFrom_18 ?_
  refine V_iconst dX1_copyFrom_50 ?_
  refine V_aload_n dX1_copyFrom_51 rfl ?_
  refine V_getR (ci := 1) (j := 4) dX1_copyFrom_52 (sSt_0 hb) rfl rfl i_X1_copyFrom_X1 (by decide) f_X1_copyFrom_18 ?_
  refine V_iconst dX1_copyFrom_55 ?_
  refine V_bipush dX1_copyFrom_56 rfl ?_
  refine V_copy dX1_copyFrom_58 (sSt_3 hb2) (sSt_3 hb) (by omega) (List.mem_of_getElem? (i := 3) rfl) (List.mem_of_getElem? (i := 4) rfl) (List.mem_of_getElem? (i := 5) rfl) (List.mem_of_getElem? (i := 6) rfl) (Nat.le_of_ble_eq_true rfl) (Nat.le_of_ble_eq_true rfl) ?_
  refine V_aload_n dX1_copyFrom_61 rfl ?_
  refine V_getR (ci := 1) (j := 5) dX1_copyFrom_62 (sSt_0 hb2) rfl rfl i_X1_copyFrom_X1 (by decide) f_X1_copyFrom_21 ?_
  refine V_iconst dX1_copyFrom_65 ?_
  refine V_aload_n dX1_copyFrom_66 rfl ?_
  refine V_getR (ci := 1) (j := 5) dX1_copyFrom_67 (sSt_0 hb) rfl rfl i_X1_copyFrom_X1 (by decide) f_X1_copyFrom_21 ?_
  refine V_iconst dX1_copyFrom_70 ?_
  refine V_bipush dX1_copyFrom_71 rfl ?_
  refine V_copy dX1_copyFrom_73 (sSt_4 hb2) (sSt_4 hb) (by omega) (List.mem_of_getElem? (i := 3) rfl) (List.mem_of_getElem? (i := 4) rfl) (List.mem_of_getElem? (i := 5) rfl) (List.mem_of_getElem? (i := 6) rfl) (Nat.le_of_ble_eq_true rfl) (Nat.le_of_ble_eq_true rfl) ?_
  refine V_aload_n dX1_copyFrom_76 rfl ?_
  refine V_getR (ci := 1) (j := 6) dX1_copyFrom_77 (sSt_0 hb2) rfl rfl i_X1_copyFrom_X1 (by decide) f_X1_copyFrom_24 ?_
  refine V_iconst dX1_copyFrom_80 ?_
  refine V_aload_n dX1_copyFrom_81 rfl ?_
  refine V_getR (ci := 1) (j := 6) dX1_copyFrom_82 (sSt_0 hb) rfl rfl i_X1_copyFrom_X1 (by decide) f_X1_copyFrom_24 ?_
  refine V_iconst dX1_copyFrom_85 ?_
  refine V_bipush dX1_copyFrom_86 rfl ?_
  refine V_copy dX1_copyFrom_88 (sSt_5 hb2) (sSt_5 hb) (by omega) (List.mem_of_getElem? (i := 3) rfl) (List.mem_of_getElem? (i := 4) rfl) (List.mem_of_getElem? (i := 5) rfl) (List.mem_of_getElem? (i := 6) rfl) (Nat.le_of_ble_eq_true rfl) (Nat.le_of_ble_eq_true rfl) ?_
  refine V_aload_n dX1_copyFrom_91 rfl ?_
  refine V_getR (ci := 1) (j := 7) dX1_copyFrom_92 (sSt_0 hb2) rfl rfl i_X1_copyFrom_X1 (by decide) f_X1_copyFrom_27 ?_
  refine V_iconst dX1_copyFrom_95 ?_
  refine V_aload_n dX1_copyFrom_96 rfl ?_
  refine V_getR (ci := 1) (j := 7) dX1_copyFrom_97 (sSt_0 hb) rfl rfl i_X1_copyFrom_X1 (by decide) f_X1_copyFrom_27 ?_
  refine V_iconst dX1_copyFrom_100 ?_
  refine V_bipush dX1_copyFrom_101 rfl ?_
  refine V_copy dX1_copyFrom_103 (sSt_6 hb2) (sSt_6 hb) (by omega) (List.mem_of_getElem? (i := 3) rfl) (List.mem_of_getElem? (i := 4) rfl) (List.mem_of_getElem? (i := 5) rfl) (List.mem_of_getElem? (i := 6) rfl) (Nat.le_of_ble_eq_true rfl) (Nat.le_of_ble_eq_true rfl) ?_
  refine V_aload_n dX1_copyFrom_106 rfl ?_
  refine V_getR (ci := 1) (j := 8) dX1_copyFrom_107 (sSt_0 hb2) rfl rfl i_X1_copyFrom_X1 (by decide) f_X1_copyFrom_30 ?_
  refine V_iconst dX1_copyFrom_110 ?_
  refine V_aload_n dX1_copyFrom_111 rfl ?_
  refine V_getR (ci := 1) (j := 8) dX1_copyFrom_112 (sSt_0 hb) rfl rfl i_X1_copyFrom_X1 (by decide) f_X1_copyFrom_30 ?_
  refine V_iconst dX1_copyFrom_115 ?_
  refine V_bipush dX1_copyFrom_116 rfl ?_
  refine V_copy dX1_copyFrom_118 (sSt_7 hb2) (sSt_7 hb) (by omega) (List.mem_of_getElem? (i := 3) rfl) (List.mem_of_getElem? (i := 4) rfl) (List.mem_of_getElem? (i := 5) rfl) (List.mem_of_getElem? (i := 6) rfl) (Nat.le_of_ble_eq_true rfl) (Nat.le_of_ble_eq_true rfl) ?_
  refine V_aload_n dX1_copyFrom_121 rfl ?_
  refine V_aload_n dX1_copyFrom_122 rfl ?_
  refine V_getIE (ci := 1) (j := 9) (ji := 9) (z := w b2 9) dX1_copyFrom_123 (sSt_0 hb2) rfl rfl i_X1_copyFrom_X1 (by decide) f_X1_copyFrom_40 rfl (by rw [cpA_ne (by omega), cpA_ne (by omega), cpA_ne (by omega), cpA_ne (by omega), cpA_ne (by omega), up_ne (by omega), cpA_ne (by omega), cpA_ne (by omega), up_ne (by omega)]) ?_
  refine V_putI (ci := 1) (j := 9) (ji := 9) dX1_copyFrom_126 (sSt_0 hb) rfl rfl i_X1_copyFrom_X1 tyX1_ok nmX1 (by decide) f_X1_copyFrom_40 rfl rfl rfl ?_
  exact V_vret dX1_copyFrom_129 rfl (cpS_ok hb hb2 hne ho)
def cpT (w : Wd) (d2 d : Nat) : Wd := up (cpA (cpA (up (cpA (cpA (cpA (cpA (cpA (up w d 0 (w d2 0)) (d2 + 1) (d + 1) 6) (d2 + 2) (d + 2) 6) (d2 + 3) (d + 3) 6) (d2 + 4) (d + 4) 6) (d2 + 5) (d + 5) 6) d 6 (w d2 6)) (d2 + 6) (d + 6) 6) (d2 + 7) (d + 7) 6) d 9 (w d2 9)
theorem cpT_ok {w : Wd} {d d2 : Nat} (hd : IsTd d) (hd2 : IsTd d2) (hne : d ≠ d2) (hT : okT w d2) : okT (cpT w d2 d) d ∧ tAS (cpT w d2 d) d = tAS w d2 ∧ frt d w (cpT w d2 d) := by
  have e20 : cpT w d2 d d 0 = w d2 0 := (by unfold cpT; rw [up_ne (by omega), cpA_ne (by omega), cpA_ne (by omega), up_ne (by omega), cpA_ne (by omega), cpA_ne (by omega), cpA_ne (by omega), cpA_ne (by omega), cpA_ne (by omega), up_eq])
  have e1 : ∀ i : Int, 0 ≤ i → i < 6 → cpT w d2 d (d + 1) i = w (d2 + 1) i := fun i g0 g1 => (by unfold cpT; rw [up_ne (by omega), cpA_ne (by omega), cpA_ne (by omega), up_ne (by omega), cpA_ne (by omega), cpA_ne (by omega), cpA_ne (by omega), cpA_ne (by omega), cpA_in (by omega), up_ne (by omega)])
  have e2 : ∀ i : Int, 0 ≤ i → i < 6 → cpT w d2 d (d + 2) i = w (d2 + 2) i := fun i g0 g1 => (by unfold cpT; rw [up_ne (by omega), cpA_ne (by omega), cpA_ne (by omega), up_ne (by omega), cpA_ne (by omega), cpA_ne (by omega), cpA_ne (by omega), cpA_in (by omega), cpA_ne (by omega), up_ne (by omega)])
  have e3 : ∀ i : Int, 0 ≤ i → i < 6 → cpT w d2 d (d + 3) i = w (d2 + 3) i := fun i g0 g1 => (by unfold cpT; rw [up_ne (by omega), cpA_ne (by omega), cpA_ne (by omega), up_ne (by omega), cpA_ne (by omega), cpA_ne (by omega), cpA_in (by omega), cpA_ne (by omega), cpA_ne (by omega), up_ne (by omega)])
  have e4 : ∀ i : Int, 0 ≤ i → i < 6 → cpT w d2 d (d + 4) i = w (d2 + 4) i := fun i g0 g1 => (by unfold cpT; rw [up_ne (by omega), cpA_ne (by omega), cpA_ne (by omega), up_ne (by omega), cpA_ne (by omega), cpA_in (by omega), cpA_ne (by omega), cpA_ne (by omega), cpA_ne (by omega), up_ne (by omega)])
  have e5 : ∀ i : Int, 0 ≤ i → i < 6 → cpT w d2 d (d + 5) i = w (d2 + 5) i := fun i g0 g1 => (by unfold cpT; rw [up_ne (by omega), cpA_ne (by omega), cpA_ne (by omega), up_ne (by omega), cpA_in (by omega), cpA_ne (by omega), cpA_ne (by omega), cpA_ne (by omega), cpA_ne (by omega), up_ne (by omega)])
  have e26 : cpT w d2 d d 6 = w d2 6 := (by unfold cpT; rw [up_ne (by omega), cpA_ne (by omega), cpA_ne (by omega), up_eq])
  have e6 : ∀ i : Int, 0 ≤ i → i < 6 → cpT w d2 d (d + 6) i = w (d2 + 6) i := fun i g0 g1 => (by unfold cpT; rw [up_ne (by omega), cpA_ne (by omega), cpA_in (by omega), up_ne (by omega), cpA_ne (by omega), cpA_ne (by omega), cpA_ne (by omega), cpA_ne (by omega), cpA_ne (by omega), up_ne (by omega)])
  have e7 : ∀ i : Int, 0 ≤ i → i < 6 → cpT w d2 d (d + 7) i = w (d2 + 7) i := fun i g0 g1 => (by unfold cpT; rw [up_ne (by omega), cpA_in (by omega), cpA_ne (by omega), up_ne (by omega), cpA_ne (by omega), cpA_ne (by omega), cpA_ne (by omega), cpA_ne (by omega), cpA_ne (by omega), up_ne (by omega)])
  have e29 : cpT w d2 d d 9 = w d2 9 := (by unfold cpT; rw [up_eq])
  have ef : frt d w (cpT w d2 d) := fun k j q => (by unfold cpT; rw [up_ne (by omega), cpA_ne (by omega), cpA_ne (by omega), up_ne (by omega), cpA_ne (by omega), cpA_ne (by omega), cpA_ne (by omega), cpA_ne (by omega), cpA_ne (by omega), up_ne (by omega)])
  have hQ : qsC (cpT w d2 d) d = qsC w d2 := qsC_eq e26 (fun j g0 g1 => ⟨e6 j g0 (by have := hT.2.1; omega), e7 j g0 (by have := hT.2.1; omega)⟩)
  refine ⟨⟨by rw [e20]; exact hT.1, by rw [e26]; exact hT.2.1, by rw [e29]; exact hT.2.2.1, fun t g0 g1 => ?_, fun q g0 g1 => ?_⟩, ?_, ef⟩
  · rw [e1 t g0 g1, e2 t g0 g1, e3 t g0 g1, e4 t g0 g1, e5 t g0 g1]
    exact hT.2.2.2.1 t g0 g1
  · rw [e26] at g1
    rw [e6 q g0 (by have := hT.2.1; omega), e7 q g0 (by have := hT.2.1; omega)]
    exact hT.2.2.2.2 q g0 g1
  · unfold tAS
    rw [e20, e29, hQ, gl_eq (w := cpT w d2 d) (k := d + 1) (w' := w) (k' := d2 + 1) (o' := 0) (fun i g0 g1 => by rw [Int.zero_add]; exact e1 i g0 g1), gl_eq (w := cpT w d2 d) (k := d + 2) (w' := w) (k' := d2 + 2) (o' := 0) (fun i g0 g1 => by rw [Int.zero_add]; exact e2 i g0 g1), gl_eq (w := cpT w d2 d) (k := d + 3) (w' := w) (k' := d2 + 3) (o' := 0) (fun i g0 g1 => by rw [Int.zero_add]; exact e3 i g0 g1), gl_eq (w := cpT w d2 d) (k := d + 4) (w' := w) (k' := d2 + 4) (o' := 0) (fun i g0 g1 => by rw [Int.zero_add]; exact e4 i g0 g1), gl_eq (w := cpT w d2 d) (k := d + 5) (w' := w) (k' := d2 + 5) (o' := 0) (fun i g0 g1 => by rw [Int.zero_add]; exact e5 i g0 g1)]
set_option maxRecDepth 100000 in
set_option maxHeartbeats 4000000 in
theorem c_X3_copyFrom (G : Gb) (l : Launch) {w : Wd} {d d2 : Nat} (hd : IsTd d) (hd2 : IsTd d2) (hne : d ≠ d2) (hT : okT w d2) : Cv G l yX3_copyFrom mX3_copyFrom [.ref (gA G d), .ref (gA G d2)] w (fun w' => okT w' d ∧ tAS w' d = tAS w d2 ∧ frt d w w') := by
  refine V_start 0 (by decide) rfl rfl (Nat.le_of_ble_eq_true rfl) ?_
  show V G l mX3_copyFrom _ 0 [some (.ref (gA G d)), some (.ref (gA G d2))] [] w
  refine V_aload_n dX3_copyFrom_0 rfl ?_
  refine V_aload_n dX3_copyFrom_1 rfl ?_
  refine V_getI (ci := 3) (j := 0) (ji := 0) dX3_copyFrom_2 (sTd_0 hd2) rfl rfl i_X3_copyFrom_X3 (by decide) f_X3_copyFrom_37 rfl ?_
  refine V_putI (ci := 3) (j := 0) (ji := 0) dX3_copyFrom_5 (sTd_0 hd) rfl rfl i_X3_copyFrom_X3 tyX3_ok nmX3 (by decide) f_X3_copyFrom_37 rfl rfl rfl ?_
  refine V_aload_n dX3_copyFrom_8 rfl ?_
  refine V_getR (ci := 3) (j := 1) dX3_copyFrom_9 (sTd_0 hd2) rfl rfl i_X3_copyFrom_X3 (by decide) f_X3_copyFrom_9 ?_
  refine V_iconst dX3_copyFrom_12 ?_
  refine V_aload_n dX3_copyFrom_13 rfl ?_
  refine V_getR (ci := 3) (j := 1) dX3_copyFrom_14 (sTd_0 hd) rfl rfl i_X3_copyFrom_X3 (by decide) f_X3_copyFrom_9 ?_
  refine V_iconst dX3_copyFrom_17 ?_
  refine V_bipush dX3_copyFrom_18 rfl ?_
  refine V_copy dX3_copyFrom_20 (sTd_1 hd2) (sTd_1 hd) (by omega) (List.mem_of_getElem? (i := 3) rfl) (List.mem_of_getElem? (i := 4) rfl) (List.mem_of_getElem? (i := 5) rfl) (List.mem_of_getElem? (i := 6) rfl) (Nat.le_of_ble_eq_true rfl) (Nat.le_of_ble_eq_true rfl) ?_
  refine V_aload_n dX3_copyFrom_23 rfl ?_
  refine V_getR (ci := 3) (j := 2) dX3_copyFrom_24 (sTd_0 hd2) rfl rfl i_X3_copyFrom_X3 (by decide) f_X3_copyFrom_15 ?_
  refine V_iconst dX3_copyFrom_27 ?_
  refine V_aload_n dX3_copyFrom_28 rfl ?_
  refine V_getR (ci := 3) (j := 2) dX3_copyFrom_29 (sTd_0 hd) rfl rfl i_X3_copyFrom_X3 (by decide) f_X3_copyFrom_15 ?_
  refine V_iconst dX3_copyFrom_32 ?_
  refine V_bipush dX3_copyFrom_33 rfl ?_
  refine V_copy dX3_copyFrom_35 (sTd_2 hd2) (sTd_2 hd) (by omega) (List.mem_of_getElem? (i := 3) rfl) (List.mem_of_getElem? (i := 4) rfl) (List.mem_of_getElem? (i := 5) rfl) (List.mem_of_getElem? (i := 6) rfl) (Nat.le_of_ble_eq_true rfl) (Nat.le_of_ble_eq_true rfl) ?_
  refine V_aload_n dX3_copyFrom_38 rfl ?_
  refine V_getR (ci := 3) (j := 3) dX3_copyFrom_39 (sTd_0 hd2) rfl rfl i_X3_copyFrom_X3 (by decide) f_X3_copyFrom_18 ?_
  refine V_iconst dX3_copyFrom_42 ?_
  refine V_aload_n dX3_copyFrom_43 rfl ?_
  refine V_getR (ci := 3) (j := 3) dX3_copyFrom_44 (sTd_0 hd) rfl rfl i_X3_copyFrom_X3 (by decide) f_X3_copyFrom_18 ?_
  refine V_iconst dX3_copyFrom_47 ?_
  refine V_bipush dX3_copyFrom_48 rfl ?_
  refine V_copy dX3_copyFrom_50 (sTd_3 hd2) (sTd_3 hd) (by omega) (List.mem_of_getElem? (i := 3) rfl) (List.mem_of_getElem? (i := 4) rfl) (List.mem_of_getElem? (i := 5) rfl) (List.mem_of_getElem? (i := 6) rfl) (Nat.le_of_ble_eq_true rfl) (Nat.le_of_ble_eq_true rfl) ?_
  refine V_aload_n dX3_copyFrom_53 rfl ?_
  refine V_getR (ci := 3) (j := 4) dX3_copyFrom_54 (sTd_0 hd2) rfl rfl i_X3_copyFrom_X3 (by decide) f_X3_copyFrom_21 ?_
  refine V_iconst dX3_copyFrom_57 ?_
  refine V_aload_n dX3_copyFrom_58 rfl ?_
  refine V_getR (ci := 3) (j := 4) dX3_copyFrom_59 (sTd_0 hd) rfl rfl i_X3_copyFrom_X3 (by decide) f_X3_copyFrom_21 ?_
  refine V_iconst dX3_copyFrom_62 ?_
  refine V_bipush dX3_copyFrom_63 rfl ?_
  refine V_copy dX3_copyFrom_65 (sTd_4 hd2) (sTd_4 hd) (by omega) (List.mem_of_getElem? (i := 3) rfl) (List.mem_of_getElem? (i := 4) rfl) (List.mem_of_getElem? (i := 5) rfl) (List.mem_of_getElem? (i := 6) rfl) (Nat.le_of_ble_eq_true rfl) (Nat.le_of_ble_eq_true rfl) ?_
  refine V_aload_n dX3_copyFrom_68 rfl ?_
  refine V_getR (ci := 3) (j := 5) dX3_copyFrom_69 (sTd_0 hd2) rfl rfl i_X3_copyFrom_X3 (by decide) f_X3_copyFrom_24 ?_
  refine V_iconst dX3_copyFrom_72 ?_
  refine V_aload_n dX3_copyFrom_73 rfl ?_
  refine V_getR (ci := 3) (j := 5) dX3_copyFrom_74 (sTd_0 hd) rfl rfl i_X3_copyFrom_X3 (by decide) f_X3_copyFrom_24 ?_
  refine V_iconst dX3_copyFrom_77 ?_
  refine V_bipush dX3_copyFrom_78 rfl ?_
  refine V_copy dX3_copyFrom_80 (sTd_5 hd2) (sTd_5 hd) (by omega) (List.mem_of_getElem? (i := 3) rfl) (List.mem_of_getElem? (i := 4) rfl) (List.mem_of_getElem? (i := 5) rfl) (List.mem_of_getElem? (i := 6) rfl) (Nat.le_of_ble_eq_true rfl) (Nat.le_of_ble_eq_true rfl) ?_
  refine V_aload_n dX3_copyFrom_83 rfl ?_
  refine V_aload_n dX3_copyFrom_84 rfl ?_
  refine V_getIE (ci := 3) (j := 6) (ji := 6) (z := w d2 6) dX3_copyFrom_85 (sTd_0 hd2) rfl rfl i_X3_copyFrom_X3 (by decide) f_X3_copyFrom_40 rfl (by rw [cpA_ne (by omega), cpA_ne (by omega), cpA_ne (by omega), cpA_ne (by omega), cpA_ne (by omega), up_ne (by omega)]) ?_
  refine V_putI (ci := 3) (j := 6) (ji := 6) dX3_copyFrom_88 (sTd_0 hd) rfl rfl i_X3_copyFrom_X3 tyX3_ok nmX3 (by decide) f_X3_copyFrom_40 rfl rfl rfl ?_
  refine V_aload_n dX3_copyFrom_91 rfl ?_
  refine V_getR (ci := 3) (j := 7) dX3_copyFrom_92 (sTd_0 hd2) rfl rfl i_X3_copyFrom_X3 (by decide) f_X3_copyFrom_27 ?_
  refine V_iconst dX3_copyFrom_95 ?_
  refine V_aload_n dX3_copyFrom_96 rfl ?_
  refine V_getR (ci := 3) (j := 7) dX3_copyFrom_97 (sTd_0 hd) rfl rfl i_X3_copyFrom_X3 (by decide) f_X3_copyFrom_27 ?_
  refine V_iconst dX3_copyFrom_100 ?_
  refine V_bipush dX3_copyFrom_101 rfl ?_
  refine V_copy dX3_copyFrom_103 (sTd_6 hd2) (sTd_6 hd) (by omega) (List.mem_of_getElem? (i := 3) rfl) (List.mem_of_getElem? (i := 4) rfl) (List.mem_of_getElem? (i := 5) rfl) (List.mem_of_getElem? (i := 6) rfl) (Nat.le_of_ble_eq_true rfl) (Nat.le_of_ble_eq_true rfl) ?_
  refine V_aload_n dX3_copyFrom_106 rfl ?_
  refine V_getR (ci := 3) (j := 8) dX3_copyFrom_107 (sTd_0 hd2) rfl rfl i_X3_copyFrom_X3 (by decide) f_X3_copyFrom_30 ?_
  refine V_iconst dX3_copyFrom_110 ?_
  refine V_aload_n dX3_copyFrom_111 rfl ?_
  refine V_getR (ci := 3) (j := 8) dX3_copyFrom_112 (sTd_0 hd) rfl rfl i_X3_copyFrom_X3 (by decide) f_X3_copyFrom_30 ?_
  refine V_iconst dX3_copyFrom_115 ?_
  refine V_bipush dX3_copyFrom_116 rfl ?_
  refine V_copy dX3_copyFrom_118 (sTd_7 hd2) (sTd_7 hd) (by omega) (List.mem_of_getElem? (i := 3) rfl) (List.mem_of_getElem? (i := 4) rfl) (List.mem_of_getElem? (i := 5) rfl) (List.mem_of_getElem? (i := 6) rfl) (Nat.le_of_ble_eq_true rfl) (Nat.le_of_ble_eq_true rfl) ?_
  refine V_aload_n dX3_copyFrom_121 rfl ?_
  refine V_aload_n dX3_copyFrom_122 rfl ?_
  refine V_getIE (ci := 3) (j := 9) (ji := 9) (z := w d2 9) dX3_copyFrom_123 (sTd_0 hd2) rfl rfl i_X3_copyFrom_X3 (by decide) f_X3_copyFrom_33 rfl (by rw [cpA_ne (by omega), cpA_ne (by omega), up_ne (by omega), cpA_ne (by omega), cpA_ne (by omega), cpA_ne (by omega), cpA_ne (by omega), cpA_ne (by omega), up_ne (by omega)]) ?_
  refine V_putI (ci := 3) (j := 9) (ji := 9) dX3_copyFrom_126 (sTd_0 hd) rfl rfl i_X3_copyFrom_X3 tyX3_ok nmX3 (by decide) f_X3_copyFrom_33 rfl rfl rfl ?_
  exact V_vret dX3_copyFrom_129 rfl (cpT_ok hd hd2 hne hT)
set_option maxRecDepth 100000 in
set_option maxHeartbeats 4000000 in
theorem c_X3_forget (G : Gb) (l : Launch) {w : Wd} {d : Nat} (hd : IsTd d) : Cv G l yX3_forget mX3_forget [.ref (gA G d)] w (fun w' => w' = up (up (up w d 0 0) d 6 0) d 9 5) := by
  refine V_start 0 (by decide) rfl rfl (Nat.le_of_ble_eq_true rfl) ?_
  show V G l mX3_forget _ 0 [some (.ref (gA G d))] [] w
  refine V_aload_n dX3_forget_0 rfl ?_
  refine V_iconst dX3_forget_1 ?_
  refine V_putI (ci := 3) (j := 0) (ji := 0) dX3_forget_2 (sTd_0 hd) rfl rfl i_X3_forget_X3 tyX3_ok nmX3 (by decide) f_X3_forget_37 rfl rfl rfl ?_
  refine V_aload_n dX3_forget_5 rfl ?_
  refine V_iconst dX3_forget_6 ?_
  refine V_putI (ci := 3) (j := 6) (ji := 6) dX3_forget_7 (sTd_0 hd) rfl rfl i_X3_forget_X3 tyX3_ok nmX3 (by decide) f_X3_forget_40 rfl rfl rfl ?_
  refine V_aload_n dX3_forget_10 rfl ?_
  refine V_iconst dX3_forget_11 ?_
  refine V_putI (ci := 3) (j := 9) (ji := 9) dX3_forget_12 (sTd_0 hd) rfl rfl i_X3_forget_X3 tyX3_ok nmX3 (by decide) f_X3_forget_33 rfl rfl rfl ?_
  exact V_vret dX3_forget_15 rfl rfl
def atW (w : Wd) (d : Nat) (k n r t : Int) : Wd := up (up (up (up (up (up w (d + 1) (w d 0) k) (d + 2) (w d 0) n) (d + 3) (w d 0) r) (d + 4) (w d 0) t) (d + 5) (w d 0) 0) d 0 (w d 0 + 1)
def aqW (w : Wd) (d : Nat) (a o : Int) : Wd := up (up (up w (d + 6) (w d 6) a) (d + 7) (w d 6) o) d 6 (w d 6 + 1)
set_option maxRecDepth 100000 in
set_option maxHeartbeats 4000000 in
theorem c_X3_addTree (G : Gb) (l : Launch) {w : Wd} {d : Nat} (hd : IsTd d) {k n r t : Int} (h0 : 0 ≤ w d 0 ∧ w d 0 < 6) : Cv G l yX3_addTree mX3_addTree [.ref (gA G d), .int (iZ k), .int (iZ n), .int (iZ r), .int (iZ t)] w (fun w' => w' = atW w d k n r t) := by
  refine V_start 0 (by decide) rfl rfl (Nat.le_of_ble_eq_true rfl) ?_
  show V G l mX3_addTree _ 0 [some (.ref (gA G d)), some (.int (iZ k)), some (.int (iZ n)), some (.int (iZ r)), some (.int (iZ t))] [] w
  refine V_aload_n dX3_addTree_0 rfl ?_
  refine V_getI (ci := 3) (j := 0) (ji := 0) dX3_addTree_1 (sTd_0 hd) rfl rfl i_X3_addTree_X3 (by decide) f_X3_addTree_37 rfl ?_
  refine V_bipush dX3_addTree_4 rfl ?_
  refine V_icmp_lt (tgt := 10) dX3_addTree_6 (by decide) (by omega) (by omega) (fun h6 => ?_) (fun h6 => ?_)
  · refine V_aload_n dX3_addTree_10 rfl ?_
    refine V_getR (ci := 3) (j := 1) dX3_addTree_11 (sTd_0 hd) rfl rfl i_X3_addTree_X3 (by decide) f_X3_addTree_9 ?_
    refine V_aload_n dX3_addTree_14 rfl ?_
    refine V_getI (ci := 3) (j := 0) (ji := 0) dX3_addTree_15 (sTd_0 hd) rfl rfl i_X3_addTree_X3 (by decide) f_X3_addTree_37 rfl ?_
    refine V_iload_n dX3_addTree_18 rfl ?_
    refine V_iast dX3_addTree_19 (sTd_1 hd) (by omega) ?_
    refine V_aload_n dX3_addTree_20 rfl ?_
    refine V_getR (ci := 3) (j := 2) dX3_addTree_21 (sTd_0 hd) rfl rfl i_X3_addTree_X3 (by decide) f_X3_addTree_15 ?_
    refine V_aload_n dX3_addTree_24 rfl ?_
    refine V_getIE (ci := 3) (j := 0) (ji := 0) (z := w d 0) dX3_addTree_25 (sTd_0 hd) rfl rfl i_X3_addTree_X3 (by decide) f_X3_addTree_37 rfl (by rw [up_ne (by omega)]) ?_
    refine V_iload_n dX3_addTree_28 rfl ?_
    refine V_iast dX3_addTree_29 (sTd_2 hd) (by omega) ?_
    refine V_aload_n dX3_addTree_30 rfl ?_
    refine V_getR (ci := 3) (j := 3) dX3_addTree_31 (sTd_0 hd) rfl rfl i_X3_addTree_X3 (by decide) f_X3_addTree_18 ?_
    refine V_aload_n dX3_addTree_34 rfl ?_
    refine V_getIE (ci := 3) (j := 0) (ji := 0) (z := w d 0) dX3_addTree_35 (sTd_0 hd) rfl rfl i_X3_addTree_X3 (by decide) f_X3_addTree_37 rfl (by rw [up_ne (by omega), up_ne (by omega)]) ?_
    refine V_iload_n dX3_addTree_38 rfl ?_
    refine V_iast dX3_addTree_39 (sTd_3 hd) (by omega) ?_
    refine V_aload_n dX3_addTree_40 rfl ?_
    refine V_getR (ci := 3) (j := 4) dX3_addTree_41 (sTd_0 hd) rfl rfl i_X3_addTree_X3 (by decide) f_X3_addTree_21 ?_
    refine V_aload_n dX3_addTree_44 rfl ?_
    refine V_getIE (ci := 3) (j := 0) (ji := 0) (z := w d 0) dX3_addTree_45 (sTd_0 hd) rfl rfl i_X3_addTree_X3 (by decide) f_X3_addTree_37 rfl (by rw [up_ne (by omega), up_ne (by omega), up_ne (by omega)]) ?_
    refine V_iload dX3_addTree_48 rfl ?_
    refine V_iast dX3_addTree_50 (sTd_4 hd) (by omega) ?_
    refine V_aload_n dX3_addTree_51 rfl ?_
    refine V_getR (ci := 3) (j := 5) dX3_addTree_52 (sTd_0 hd) rfl rfl i_X3_addTree_X3 (by decide) f_X3_addTree_24 ?_
    refine V_aload_n dX3_addTree_55 rfl ?_
    refine V_getIE (ci := 3) (j := 0) (ji := 0) (z := w d 0) dX3_addTree_56 (sTd_0 hd) rfl rfl i_X3_addTree_X3 (by decide) f_X3_addTree_37 rfl (by rw [up_ne (by omega), up_ne (by omega), up_ne (by omega), up_ne (by omega)]) ?_
    refine V_iconst dX3_addTree_59 ?_
    refine V_iast dX3_addTree_60 (sTd_5 hd) (by omega) ?_
    refine V_aload_n dX3_addTree_61 rfl ?_
    refine V_dup dX3_addTree_62 rfl ?_
    refine V_getIE (ci := 3) (j := 0) (ji := 0) (z := w d 0) dX3_addTree_63 (sTd_0 hd) rfl rfl i_X3_addTree_X3 (by decide) f_X3_addTree_37 rfl (by rw [up_ne (by omega), up_ne (by omega), up_ne (by omega), up_ne (by omega), up_ne (by omega)]) ?_
    refine V_iconst dX3_addTree_66 ?_
    refine V_iadd dX3_addTree_67 ?_
    refine V_putI (ci := 3) (j := 0) (ji := 0) dX3_addTree_68 (sTd_0 hd) rfl rfl i_X3_addTree_X3 tyX3_ok nmX3 (by decide) f_X3_addTree_37 rfl rfl rfl ?_
    exact V_vret dX3_addTree_71 rfl rfl
  · exact absurd h6 (by omega)
set_option maxRecDepth 100000 in
set_option maxHeartbeats 4000000 in
theorem c_X3_addQuarrel (G : Gb) (l : Launch) {w : Wd} {d : Nat} (hd : IsTd d) {a o : Int} (h0 : 0 ≤ w d 6 ∧ w d 6 < 6) : Cv G l yX3_addQuarrel mX3_addQuarrel [.ref (gA G d), .int (iZ a), .int (iZ o)] w (fun w' => w' = aqW w d a o) := by
  refine V_start 0 (by decide) rfl rfl (Nat.le_of_ble_eq_true rfl) ?_
  show V G l mX3_addQuarrel _ 0 [some (.ref (gA G d)), some (.int (iZ a)), some (.int (iZ o))] [] w
  refine V_aload_n dX3_addQuarrel_0 rfl ?_
  refine V_getI (ci := 3) (j := 6) (ji := 6) dX3_addQuarrel_1 (sTd_0 hd) rfl rfl i_X3_addQuarrel_X3 (by decide) f_X3_addQuarrel_40 rfl ?_
  refine V_bipush dX3_addQuarrel_4 rfl ?_
  refine V_icmp_lt (tgt := 10) dX3_addQuarrel_6 (by decide) (by omega) (by omega) (fun h6 => ?_) (fun h6 => ?_)
  · refine V_aload_n dX3_addQuarrel_10 rfl ?_
    refine V_getR (ci := 3) (j := 7) dX3_addQuarrel_11 (sTd_0 hd) rfl rfl i_X3_addQuarrel_X3 (by decide) f_X3_addQuarrel_27 ?_
    refine V_aload_n dX3_addQuarrel_14 rfl ?_
    refine V_getI (ci := 3) (j := 6) (ji := 6) dX3_addQuarrel_15 (sTd_0 hd) rfl rfl i_X3_addQuarrel_X3 (by decide) f_X3_addQuarrel_40 rfl ?_
    refine V_iload_n dX3_addQuarrel_18 rfl ?_
    refine V_iast dX3_addQuarrel_19 (sTd_6 hd) (by omega) ?_
    refine V_aload_n dX3_addQuarrel_20 rfl ?_
    refine V_getR (ci := 3) (j := 8) dX3_addQuarrel_21 (sTd_0 hd) rfl rfl i_X3_addQuarrel_X3 (by decide) f_X3_addQuarrel_30 ?_
    refine V_aload_n dX3_addQuarrel_24 rfl ?_
    refine V_getIE (ci := 3) (j := 6) (ji := 6) (z := w d 6) dX3_addQuarrel_25 (sTd_0 hd) rfl rfl i_X3_addQuarrel_X3 (by decide) f_X3_addQuarrel_40 rfl (by rw [up_ne (by omega)]) ?_
    refine V_iload_n dX3_addQuarrel_28 rfl ?_
    refine V_iast dX3_addQuarrel_29 (sTd_7 hd) (by omega) ?_
    refine V_aload_n dX3_addQuarrel_30 rfl ?_
    refine V_dup dX3_addQuarrel_31 rfl ?_
    refine V_getIE (ci := 3) (j := 6) (ji := 6) (z := w d 6) dX3_addQuarrel_32 (sTd_0 hd) rfl rfl i_X3_addQuarrel_X3 (by decide) f_X3_addQuarrel_40 rfl (by rw [up_ne (by omega), up_ne (by omega)]) ?_
    refine V_iconst dX3_addQuarrel_35 ?_
    refine V_iadd dX3_addQuarrel_36 ?_
    refine V_putI (ci := 3) (j := 6) (ji := 6) dX3_addQuarrel_37 (sTd_0 hd) rfl rfl i_X3_addQuarrel_X3 tyX3_ok nmX3 (by decide) f_X3_addQuarrel_40 rfl rfl rfl ?_
    exact V_vret dX3_addQuarrel_40 rfl rfl
  · exact absurd h6 (by omega)

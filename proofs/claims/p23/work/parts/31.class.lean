/-! ===== 31 TreeDebts: calls that change the wood ===== -/
theorem SC.now {c : Int} {σ : SG} {w w' : Wd} {a : AS} (h : SC c σ w) (g : frm 21 w w') (e : cAS w' 21 = a) (ho : okC (c + 1) w' 21) (hd : w' 21 0 ≤ 9999) : SC (c + 1) (σ.1, σ.2.1, a, σ.2.2.2) w' := by
  have h9 : SC (c + 1) σ w := h.same
  obtain ⟨h1, ⟨h2, h3⟩, h4, h7, h8⟩ := h9
  exact ⟨h1.keep (g _ _ (by omega)) (fun i => g _ _ (by omega)), ⟨by rw [tAS_eq (fun k j _ _ => g k j (by omega))]; exact h2, okT_sl h3 (fun k j _ => g k j (by omega))⟩, ⟨e, ho, hd⟩, kpR_keep h7 (g _ _ (by omega)) (fun k j _ _ => g k j (by omega)), kpR_keep h8 (g _ _ (by omega)) (fun k j _ _ => g k j (by omega))⟩
theorem frm.c {w w' : Wd} (h : frm 21 w w') : frC w w' := fun k j q => h k j (by omega)
theorem dysS_day (K R : List Int) (hd : Int) : ∀ (n : Nat) (a : AS), (dysS K R hd n a).1 = a.1 + n
  | 0, a => by rw [dysS]; simp
  | n + 1, a => by
    rw [dysS, dysS_day K R hd n]
    show a.1 + 1 + (n : Int) = a.1 + ((n + 1 : Nat) : Int)
    omega
theorem bo_ok {c : Int} {σ : SG} {w : Wd} {i n z : Int} (h : SC c σ w) (y : hasS σ.2.1 i) (hn : 1 ≤ n ∧ n ≤ 99) (hh : n ≤ σ.2.2.1.2.2.1.getD i.toNat 0) (hl : ((σ.2.2.1.2.2.2.2.length : Nat) : Int) < 12) (hz : z = w 21 3) :
    z = ((σ.2.2.1.2.2.2.2.length : Nat) : Int) ∧ SC (c + 1) (σ.1, σ.2.1, lnS i n (dueS σ.2.1 σ.2.2.1 i) σ.2.2.1, σ.2.2.2) (lnW w 21 i n (if w (5 + 1) i = 1 then w 21 0 + 1 else w 21 0 + w (5 + 4) i)) ∧ frC w (lnW w 21 i n (if w (5 + 1) i = 1 then w 21 0 + 1 else w 21 0 + w (5 + 4) i)) := by
  have hT := h.2.1.2
  have hO := h.2.2.1.2.1
  have kt := hT.1
  have eN := h.tN
  have y1 := y.1
  have y2 := y.2
  have eK : w (5 + 1) i = σ.2.1.2.1.getD i.toNat 0 := h.tK y1 (by omega)
  have eM : w (5 + 4) i = σ.2.1.2.2.2.2.1.getD i.toNat 0 := h.tM y1 (by omega)
  have kk := hT.2.2.2.1 i y1 (by omega)
  have e : (if w (5 + 1) i = 1 then w 21 0 + 1 else w 21 0 + w (5 + 4) i) = dueS σ.2.1 σ.2.2.1 i := by rw [eK, eM, h.aD]; rfl
  have hdu : 0 ≤ dueS σ.2.1 σ.2.2.1 i ∧ dueS σ.2.1 σ.2.2.1 i ≤ 20000 := by
    rw [← e]
    have k0 := hO.day
    have k9 := h.2.2.1.2.2
    have kM : 0 ≤ w (5 + 4) i ∧ w (5 + 4) i ≤ 99 := kk.2.2.2.1
    split <;> omega
  rw [e]
  have hA := cAS_ln (w := w) (b := 21) (t := i) (n := n) (due := dueS σ.2.1 σ.2.2.1 i) hO.1 ⟨y1, by omega⟩
  rw [h.2.2.1.1] at hA
  have hf : frm 21 w (lnW w 21 i n (dueS σ.2.1 σ.2.2.1 i)) := fun k j q => lnW_ne (by omega)
  have e3 : lnW w 21 i n (dueS σ.2.1 σ.2.2.1 i) 21 3 = w 21 3 + 1 := by unfold lnW; rw [up_eq]
  have e0 : lnW w 21 i n (dueS σ.2.1 σ.2.2.1 i) 21 0 = w 21 0 := lnW_ne (by omega)
  have ok0 : okAS c σ.2.2.1 := by rw [← h.2.2.1.1]; exact hO.2
  refine ⟨hz.trans h.aN, h.now hf hA ⟨by rw [e3]; have := hO.1; omega, ?_⟩ (by rw [e0]; exact h.2.2.1.2.2), hf.c⟩
  rw [hA]
  exact lnS_ok ok0 ⟨y1, by omega⟩ hn hh hdu (by omega)
set_option maxRecDepth 100000 in
set_option maxHeartbeats 4000000 in
theorem c_X4_borrow (G : Gb) (l : Launch) {w : Wd} {c : Int} {σ : SG} (h : SC c σ w) {i : Int} (hi : inR i) {n : Int} (hn : inR n) : Ci G l yX4_borrow mX4_borrow [.ref (gA G 0), .int (iZ i), .int (iZ n)] w (fun z w' => z = (aBorrow σ.2.1 σ.2.2.1 i n).1 ∧ SC (c + 1) (σ.1, σ.2.1, (aBorrow σ.2.1 σ.2.2.1 i n).2, σ.2.2.2) w' ∧ frC w w') := by
  refine V_start 0 (by decide) rfl rfl (Nat.le_of_ble_eq_true rfl) ?_
  show V G l mX4_borrow _ 0 [some (.ref (gA G 0)), some (.int (iZ i)), some (.int (iZ n))] [] w
  have hT := h.2.1.2
  have hO := h.2.2.1.2.1
  have kt := hT.1
  have kn := hO.n
  have eN := h.tN
  have eL := h.aN
  refine V_aload_n dX4_borrow_0 rfl ?_
  refine V_getR (ci := 4) (j := 1) dX4_borrow_1 s_0 rfl rfl i_X4_borrow_X4 (by decide) f_X4_borrow_19 ?_
  refine V_iload_n dX4_borrow_4 rfl ?_
  refine V_iV1 dX4_borrow_5 o_X4_borrow_75 s_5 rfl (Nat.le_of_ble_eq_true rfl) (c_X3_has G l (d := 5) (Or.inl rfl) (by omega) (by omega)) ?_
  rintro z _ ⟨hz, rfl⟩
  have rz : z = 0 ∨ z = 1 := by rw [hz]; split <;> simp
  refine V_if_ne (tgt := 14) dX4_borrow_8 (by decide) (by omega) (fun h8 => ?_) (fun h8 => ?_)
  · have yz : hasS σ.2.1 i := by
      by_cases q9 : 0 ≤ i ∧ i < w 5 0
      · exact ⟨q9.1, by omega⟩
      · rw [if_neg q9] at hz; omega
    have bz := yz.2
    have dz := yz.1
    have eF := h.aF dz (by omega : i < 6)
    have eH := h.aH dz (by omega : i < 6)
    refine V_iload_n dX4_borrow_14 rfl ?_
    refine V_iconst dX4_borrow_15 ?_
    refine V_icmp_lt (tgt := 25) dX4_borrow_16 (by decide) (by omega) (by omega) (fun h16 => ?_) (fun h16 => ?_)
    · refine V_bipush dX4_borrow_25 rfl ?_
      exact V_iret dX4_borrow_27 rfl (by rw [aBorrow, if_pos yz, if_neg (by omega)]; exact ⟨rfl, h.same, fun _ _ _ => rfl⟩)
    · refine V_iload_n dX4_borrow_19 rfl ?_
      refine V_bipush dX4_borrow_20 rfl ?_
      refine V_icmp_le (tgt := 28) dX4_borrow_22 (by decide) (by omega) (by omega) (fun h22 => ?_) (fun h22 => ?_)
      · refine V_aload_n dX4_borrow_28 rfl ?_
        refine V_getR (ci := 4) (j := 2) dX4_borrow_29 s_0 rfl rfl i_X4_borrow_X4 (by decide) f_X4_borrow_26 ?_
        refine V_aload_n dX4_borrow_32 rfl ?_
        refine V_getR (ci := 4) (j := 1) dX4_borrow_33 s_0 rfl rfl i_X4_borrow_X4 (by decide) f_X4_borrow_19 ?_
        refine V_iload_n dX4_borrow_36 rfl ?_
        refine V_iV2 dX4_borrow_37 o_X4_borrow_135 s_21 rfl (Nat.le_of_ble_eq_true rfl) (c_X1_lends G l (b := 21) (d := 5) (Or.inl rfl) (Or.inl rfl) ⟨dz, by omega⟩ hO hT) ?_
        rintro z3 _ ⟨hz3, rfl⟩
        have rz3 : z3 = 0 ∨ z3 = 1 := by rw [hz3]; split <;> simp
        have eF2 : w (21 + 2) i = σ.2.2.1.2.2.2.1.getD i.toNat 0 := eF
        rw [eF2, h.aL, h.tQ] at hz3
        refine V_if_eq (tgt := 56) dX4_borrow_40 (by decide) (by omega) (fun h40 => ?_) (fun h40 => ?_)
        · have nl : ¬ (ldS i (σ.2.2.1.2.2.2.1.getD i.toNat 0) σ.2.2.1.2.2.2.2 σ.2.1.2.2.2.2.2.2.1 = true ∧ n ≤ σ.2.2.1.2.2.1.getD i.toNat 0) := fun q9 => by rw [if_pos q9.1] at hz3; omega
          refine V_bipush dX4_borrow_56 rfl ?_
          exact V_iret dX4_borrow_58 rfl (by rw [aBorrow, if_pos yz, if_pos (by omega), if_neg nl]; exact ⟨rfl, h.same, fun _ _ _ => rfl⟩)
        · have yl : ldS i (σ.2.2.1.2.2.2.1.getD i.toNat 0) σ.2.2.1.2.2.2.2 σ.2.1.2.2.2.2.2.2.1 = true := by
            cases q9 : ldS i (σ.2.2.1.2.2.2.1.getD i.toNat 0) σ.2.2.1.2.2.2.2 σ.2.1.2.2.2.2.2.2.1
            · rw [q9] at hz3; simp at hz3; omega
            · rfl
          have kh := hO.has dz (by omega : i < 6)
          have kh2 : 0 ≤ w 22 i ∧ w 22 i ≤ 99 := kh
          refine V_iload_n dX4_borrow_43 rfl ?_
          refine V_aload_n dX4_borrow_44 rfl ?_
          refine V_getR (ci := 4) (j := 2) dX4_borrow_45 s_0 rfl rfl i_X4_borrow_X4 (by decide) f_X4_borrow_26 ?_
          refine V_getR (ci := 1) (j := 1) dX4_borrow_48 s_21 rfl rfl i_X4_borrow_X1 (by decide) f_X4_borrow_83 ?_
          refine V_iload_n dX4_borrow_51 rfl ?_
          refine V_iald dX4_borrow_52 s_22 (by omega) ?_
          refine V_icmp_le (tgt := 59) dX4_borrow_53 (by decide) (by omega) (by omega) (fun h53 => ?_) (fun h53 => ?_)
          · have yl2 : ldS i (σ.2.2.1.2.2.2.1.getD i.toNat 0) σ.2.2.1.2.2.2.2 σ.2.1.2.2.2.2.2.2.1 = true ∧ n ≤ σ.2.2.1.2.2.1.getD i.toNat 0 := ⟨yl, by omega⟩
            refine V_aload_n dX4_borrow_59 rfl ?_
            refine V_getR (ci := 4) (j := 2) dX4_borrow_60 s_0 rfl rfl i_X4_borrow_X4 (by decide) f_X4_borrow_26 ?_
            refine V_getI (ci := 1) (j := 3) (ji := 3) dX4_borrow_63 s_21 rfl rfl i_X4_borrow_X1 (by decide) f_X4_borrow_106 rfl ?_
            refine V_bipush dX4_borrow_66 rfl ?_
            refine V_icmp_lt (tgt := 74) dX4_borrow_68 (by decide) (by omega) (by omega) (fun h68 => ?_) (fun h68 => ?_)
            · refine V_aload_n dX4_borrow_74 rfl ?_
              refine V_getR (ci := 4) (j := 2) dX4_borrow_75 s_0 rfl rfl i_X4_borrow_X4 (by decide) f_X4_borrow_26 ?_
              refine V_aload_n dX4_borrow_78 rfl ?_
              refine V_getR (ci := 4) (j := 1) dX4_borrow_79 s_0 rfl rfl i_X4_borrow_X4 (by decide) f_X4_borrow_19 ?_
              refine V_iload_n dX4_borrow_82 rfl ?_
              refine V_iload_n dX4_borrow_83 rfl ?_
              refine V_iV3 dX4_borrow_84 o_X4_borrow_138 s_21 rfl (Nat.le_of_ble_eq_true rfl) (c_X1_lend G l (b := 21) (d := 5) (Or.inl rfl) (Or.inl rfl) ⟨dz, by omega⟩ hO hT (by omega)) ?_
              rintro z4 w' ⟨hz4, rfl⟩
              exact V_iret dX4_borrow_87 rfl (by rw [aBorrow, if_pos yz, if_pos (by omega), if_pos yl2, if_pos (by omega)]; exact bo_ok h yz (by omega) yl2.2 (by omega) hz4)
            · refine V_bipush dX4_borrow_71 rfl ?_
              exact V_iret dX4_borrow_73 rfl (by rw [aBorrow, if_pos yz, if_pos (by omega), if_pos yl2, if_neg (by omega)]; exact ⟨rfl, h.same, fun _ _ _ => rfl⟩)
          · have nl : ¬ (ldS i (σ.2.2.1.2.2.2.1.getD i.toNat 0) σ.2.2.1.2.2.2.2 σ.2.1.2.2.2.2.2.2.1 = true ∧ n ≤ σ.2.2.1.2.2.1.getD i.toNat 0) := fun q9 => by have := q9.2; omega
            refine V_bipush dX4_borrow_56 rfl ?_
            exact V_iret dX4_borrow_58 rfl (by rw [aBorrow, if_pos yz, if_pos (by omega), if_neg nl]; exact ⟨rfl, h.same, fun _ _ _ => rfl⟩)
      · refine V_bipush dX4_borrow_25 rfl ?_
        exact V_iret dX4_borrow_27 rfl (by rw [aBorrow, if_pos yz, if_neg (by omega)]; exact ⟨rfl, h.same, fun _ _ _ => rfl⟩)
  · have yz : ¬ hasS σ.2.1 i := fun q9 => by rw [if_pos ⟨q9.1, by have := q9.2; omega⟩] at hz; omega
    refine V_bipush dX4_borrow_11 rfl ?_
    exact V_iret dX4_borrow_13 rfl (by rw [aBorrow, if_neg yz]; exact ⟨rfl, h.same, fun _ _ _ => rfl⟩)
set_option maxRecDepth 100000 in
set_option maxHeartbeats 4000000 in
theorem c_X4_days (G : Gb) (l : Launch) {w : Wd} {c : Int} {σ : SG} (h : SC c σ w) {n : Int} (hn : inR n) : Ci G l yX4_days mX4_days [.ref (gA G 0), .int (iZ n)] w (fun z w' => z = (aDays σ.2.1 σ.2.2.1 n).1 ∧ SC (c + 1) (σ.1, σ.2.1, (aDays σ.2.1 σ.2.2.1 n).2, σ.2.2.2) w' ∧ frC w w') := by
  refine V_start 0 (by decide) rfl rfl (Nat.le_of_ble_eq_true rfl) ?_
  show V G l mX4_days _ 0 [some (.ref (gA G 0)), some (.int (iZ n))] [] w
  have hT := h.2.1.2
  have hO := h.2.2.1.2.1
  have kt := hT.1
  have kn := hO.n
  have eN := h.tN
  have eL := h.aN
  refine V_iload_n dX4_days_0 rfl ?_
  refine V_iconst dX4_days_1 ?_
  refine V_icmp_lt (tgt := 11) dX4_days_2 (by decide) (by omega) (by omega) (fun h2 => ?_) (fun h2 => ?_)
  · refine V_bipush dX4_days_11 rfl ?_
    exact V_iret dX4_days_13 rfl (by rw [aDays, if_neg (by omega)]; exact ⟨rfl, h.same, fun _ _ _ => rfl⟩)
  · refine V_iload_n dX4_days_5 rfl ?_
    refine V_bipush dX4_days_6 rfl ?_
    refine V_icmp_le (tgt := 14) dX4_days_8 (by decide) (by omega) (by omega) (fun h8 => ?_) (fun h8 => ?_)
    · refine V_aload_n dX4_days_14 rfl ?_
      have eD := h.aD
      have kd9 := h.2.2.1.2.2
      have kd0 := hO.day
      refine V_getR (ci := 4) (j := 2) dX4_days_15 s_0 rfl rfl i_X4_days_X4 (by decide) f_X4_days_26 ?_
      refine V_getI (ci := 1) (j := 0) (ji := 0) dX4_days_18 s_21 rfl rfl i_X4_days_X1 (by decide) f_X4_days_142 rfl ?_
      refine V_iload_n dX4_days_21 rfl ?_
      refine V_iadd dX4_days_22 ?_
      refine V_sipush dX4_days_23 rfl ?_
      refine V_icmp_le (tgt := 32) dX4_days_26 (by decide) (by omega) (by omega) (fun h26 => ?_) (fun h26 => ?_)
      · refine V_aload_n dX4_days_32 rfl ?_
        refine V_getR (ci := 4) (j := 2) dX4_days_33 s_0 rfl rfl i_X4_days_X4 (by decide) f_X4_days_26 ?_
        refine V_aload_n dX4_days_36 rfl ?_
        refine V_getR (ci := 4) (j := 1) dX4_days_37 s_0 rfl rfl i_X4_days_X4 (by decide) f_X4_days_19 ?_
        refine V_aload_n dX4_days_40 rfl ?_
        refine V_getR (ci := 4) (j := 1) dX4_days_41 s_0 rfl rfl i_X4_days_X4 (by decide) f_X4_days_19 ?_
        refine V_getI (ci := 3) (j := 9) (ji := 9) dX4_days_44 s_5 rfl rfl i_X4_days_X3 (by decide) f_X4_days_145 rfl ?_
        refine V_iload_n dX4_days_47 rfl ?_
        have kh : 0 ≤ w 5 9 ∧ w 5 9 ≤ 99 := hT.2.2.1
        refine V_vV3 dX4_days_48 o_X4_days_148 s_21 rfl (Nat.le_of_ble_eq_true rfl) (c_X1_passDays G l (b := 21) (d := 5) (Or.inl rfl) (Or.inl rfl) kh (by omega) hO hT (by omega)) ?_
        rintro w' ⟨y1, y2, y3⟩
        have ea : dysS (gl w (5 + 1) 0 6) (gl w (5 + 3) 0 6) (w 5 9) n.toNat (cAS w 21) = dysS σ.2.1.2.1 σ.2.1.2.2.2.1 σ.2.1.2.2.2.2.2.2.2 n.toNat σ.2.2.1 := by rw [h.2.2.1.1, h.tH, ← h.tK', ← h.tR']
        rw [ea] at y2
        have e0 : w' 21 0 = (dysS σ.2.1.2.1 σ.2.1.2.2.2.1 σ.2.1.2.2.2.2.2.2.2 n.toNat σ.2.2.1).1 := congrArg (fun t : AS => t.1) y2
        have e1 := dysS_day σ.2.1.2.1 σ.2.1.2.2.2.1 σ.2.1.2.2.2.2.2.2.2 n.toNat σ.2.2.1
        refine V_aload_n dX4_days_51 rfl ?_
        refine V_getR (ci := 4) (j := 2) dX4_days_52 s_0 rfl rfl i_X4_days_X4 (by decide) f_X4_days_26 ?_
        refine V_getI (ci := 1) (j := 0) (ji := 0) dX4_days_55 s_21 rfl rfl i_X4_days_X1 (by decide) f_X4_days_142 rfl ?_
        exact V_iret dX4_days_58 rfl (by rw [aDays, if_pos (by omega), if_pos (by omega)]; exact ⟨e0, h.now y3 y2 (okC_mono y1 (by omega)) (by omega), y3.c⟩)
      · refine V_bipush dX4_days_29 rfl ?_
        exact V_iret dX4_days_31 rfl (by rw [aDays, if_pos (by omega), if_neg (by omega)]; exact ⟨rfl, h.same, fun _ _ _ => rfl⟩)
    · refine V_bipush dX4_days_11 rfl ?_
      exact V_iret dX4_days_13 rfl (by rw [aDays, if_neg (by omega)]; exact ⟨rfl, h.same, fun _ _ _ => rfl⟩)
set_option maxRecDepth 100000 in
set_option maxHeartbeats 4000000 in
theorem c_X4_fire (G : Gb) (l : Launch) {w : Wd} {c : Int} {σ : SG} (h : SC c σ w) {p : Int} (hp : inR p) : Ci G l yX4_fire mX4_fire [.ref (gA G 0), .int (iZ p)] w (fun z w' => z = (aFire σ.2.1 σ.2.2.1 p).1 ∧ SC (c + 1) (σ.1, σ.2.1, (aFire σ.2.1 σ.2.2.1 p).2, σ.2.2.2) w' ∧ frC w w') := by
  refine V_start 0 (by decide) rfl rfl (Nat.le_of_ble_eq_true rfl) ?_
  show V G l mX4_fire _ 0 [some (.ref (gA G 0)), some (.int (iZ p))] [] w
  have hT := h.2.1.2
  have hO := h.2.2.1.2.1
  have kt := hT.1
  have kn := hO.n
  have eN := h.tN
  have eL := h.aN
  refine V_iload_n dX4_fire_0 rfl ?_
  refine V_if_lt (tgt := 10) dX4_fire_1 (by decide) (by omega) (fun h1 => ?_) (fun h1 => ?_)
  · refine V_bipush dX4_fire_10 rfl ?_
    exact V_iret dX4_fire_12 rfl (by rw [aFire, if_neg (by omega)]; exact ⟨rfl, h.same, fun _ _ _ => rfl⟩)
  · refine V_iload_n dX4_fire_4 rfl ?_
    refine V_bipush dX4_fire_5 rfl ?_
    refine V_icmp_le (tgt := 13) dX4_fire_7 (by decide) (by omega) (by omega) (fun h7 => ?_) (fun h7 => ?_)
    · refine V_aload_n dX4_fire_13 rfl ?_
      refine V_getR (ci := 4) (j := 2) dX4_fire_14 s_0 rfl rfl i_X4_fire_X4 (by decide) f_X4_fire_26 ?_
      refine V_aload_n dX4_fire_17 rfl ?_
      refine V_getR (ci := 4) (j := 1) dX4_fire_18 s_0 rfl rfl i_X4_fire_X4 (by decide) f_X4_fire_19 ?_
      refine V_iload_n dX4_fire_21 rfl ?_
      refine V_iV2 dX4_fire_22 o_X4_fire_152 s_21 rfl (Nat.le_of_ble_eq_true rfl) (c_X1_burn G l (b := 21) (d := 5) (Or.inl rfl) (Or.inl rfl) hp hO hT) ?_
      rintro z w' ⟨hz, y1, y2, y3, y4⟩
      have eF : gl w (21 + 2) 0 6 = σ.2.2.1.2.2.2.1 := congrArg (fun t : AS => t.2.2.2.1) h.2.2.1.1
      have eP : gl w (5 + 5) 0 6 = σ.2.1.2.2.2.2.2.1 := h.tP'
      rw [eF, eP, h.aL, eN] at hz y2
      have e0 : w' 21 0 = w 21 0 := y3.1
      have eA : cAS w' 21 = (σ.2.2.1.1, σ.2.2.1.2.1, σ.2.2.1.2.2.1, (brS σ.2.1.2.2.2.2.2.1 p σ.2.1.1.toNat 0 (σ.2.2.1.2.2.2.1, σ.2.2.1.2.2.2.2)).1, (brS σ.2.1.2.2.2.2.2.1 p σ.2.1.1.toNat 0 (σ.2.2.1.2.2.2.1, σ.2.2.1.2.2.2.2)).2) := by
        unfold cAS
        rw [y3.1, y3.2.1, y3.2.2, h.aD, h.aX, ← y2]
        have eH : gl w (21 + 1) 0 6 = σ.2.2.1.2.2.1 := congrArg (fun t : AS => t.2.2.1) h.2.2.1.1
        rw [eH]
      exact V_iret dX4_fire_25 rfl (by rw [aFire, if_pos (by omega)]; exact ⟨hz, h.now y4 eA (okC_mono y1 (by omega)) (by rw [e0]; exact h.2.2.1.2.2), y4.c⟩)
    · refine V_bipush dX4_fire_10 rfl ?_
      exact V_iret dX4_fire_12 rfl (by rw [aFire, if_neg (by omega)]; exact ⟨rfl, h.same, fun _ _ _ => rfl⟩)
set_option maxRecDepth 100000 in
set_option maxHeartbeats 4000000 in
theorem c_X4_sell (G : Gb) (l : Launch) {w : Wd} {c : Int} {σ : SG} (h : SC c σ w) {i : Int} (hi : inR i) {q : Int} (hq : inR q) : Ci G l yX4_sell mX4_sell [.ref (gA G 0), .int (iZ i), .int (iZ q)] w (fun z w' => z = (aSell σ.2.1 σ.2.2.1 i q).1 ∧ SC (c + 1) (σ.1, σ.2.1, (aSell σ.2.1 σ.2.2.1 i q).2, σ.2.2.2) w' ∧ frC w w') := by
  refine V_start 0 (by decide) rfl rfl (Nat.le_of_ble_eq_true rfl) ?_
  show V G l mX4_sell _ 0 [some (.ref (gA G 0)), some (.int (iZ i)), some (.int (iZ q))] [] w
  have hT := h.2.1.2
  have hO := h.2.2.1.2.1
  have kt := hT.1
  have kn := hO.n
  have eN := h.tN
  have eL := h.aN
  refine V_aload_n dX4_sell_0 rfl ?_
  refine V_getR (ci := 4) (j := 1) dX4_sell_1 s_0 rfl rfl i_X4_sell_X4 (by decide) f_X4_sell_19 ?_
  refine V_iload_n dX4_sell_4 rfl ?_
  refine V_iV1 dX4_sell_5 o_X4_sell_75 s_5 rfl (Nat.le_of_ble_eq_true rfl) (c_X3_has G l (d := 5) (Or.inl rfl) (by omega) (by omega)) ?_
  rintro z _ ⟨hz, rfl⟩
  have rz : z = 0 ∨ z = 1 := by rw [hz]; split <;> simp
  refine V_if_eq (tgt := 22) dX4_sell_8 (by decide) (by omega) (fun h8 => ?_) (fun h8 => ?_)
  · have yz : ¬ hasS σ.2.1 i := fun q9 => by rw [if_pos ⟨q9.1, by have := q9.2; omega⟩] at hz; omega
    have ny : ¬ (hasS σ.2.1 i ∧ hasS σ.2.1 q) := fun q9 => yz q9.1
    refine V_bipush dX4_sell_22 rfl ?_
    exact V_iret dX4_sell_24 rfl (by rw [aSell, if_neg ny]; exact ⟨rfl, h.same, fun _ _ _ => rfl⟩)
  · have yz : hasS σ.2.1 i := by
      by_cases q9 : 0 ≤ i ∧ i < w 5 0
      · exact ⟨q9.1, by omega⟩
      · rw [if_neg q9] at hz; omega
    have bz := yz.2
    have dz := yz.1
    refine V_aload_n dX4_sell_11 rfl ?_
    refine V_getR (ci := 4) (j := 1) dX4_sell_12 s_0 rfl rfl i_X4_sell_X4 (by decide) f_X4_sell_19 ?_
    refine V_iload_n dX4_sell_15 rfl ?_
    refine V_iV1 dX4_sell_16 o_X4_sell_75 s_5 rfl (Nat.le_of_ble_eq_true rfl) (c_X3_has G l (d := 5) (Or.inl rfl) (by omega) (by omega)) ?_
    rintro x _ ⟨hx, rfl⟩
    have rx : x = 0 ∨ x = 1 := by rw [hx]; split <;> simp
    refine V_if_ne (tgt := 25) dX4_sell_19 (by decide) (by omega) (fun h19 => ?_) (fun h19 => ?_)
    · have yx : hasS σ.2.1 q := by
        by_cases q9 : 0 ≤ q ∧ q < w 5 0
        · exact ⟨q9.1, by omega⟩
        · rw [if_neg q9] at hx; omega
      have bx := yx.2
      have dx := yx.1
      have eFi := h.aF dz (by omega : i < 6)
      have eFq := h.aF dx (by omega : q < 6)
      have kfi : 0 ≤ w 23 i ∧ w 23 i ≤ 2 := hO.fate dz (by omega : i < 6)
      have kfq : 0 ≤ w 23 q ∧ w 23 q ≤ 2 := hO.fate dx (by omega : q < 6)
      refine V_iload_n dX4_sell_25 rfl ?_
      refine V_iload_n dX4_sell_26 rfl ?_
      refine V_icmp_ne (tgt := 33) dX4_sell_27 (by decide) (by omega) (by omega) (fun h27 => ?_) (fun h27 => ?_)
      · refine V_aload_n dX4_sell_33 rfl ?_
        refine V_getR (ci := 4) (j := 2) dX4_sell_34 s_0 rfl rfl i_X4_sell_X4 (by decide) f_X4_sell_26 ?_
        refine V_getR (ci := 1) (j := 2) dX4_sell_37 s_21 rfl rfl i_X4_sell_X1 (by decide) f_X4_sell_99 ?_
        refine V_iload_n dX4_sell_40 rfl ?_
        refine V_iald dX4_sell_41 s_23 (by omega) ?_
        refine V_if_ne (tgt := 57) dX4_sell_42 (by decide) (by omega) (fun h42 => ?_) (fun h42 => ?_)
        · refine V_bipush dX4_sell_57 rfl ?_
          exact V_iret dX4_sell_59 rfl (by rw [aSell, if_pos ⟨yz, yx⟩, if_neg h27, if_neg (by omega)]; exact ⟨rfl, h.same, fun _ _ _ => rfl⟩)
        · refine V_aload_n dX4_sell_45 rfl ?_
          refine V_getR (ci := 4) (j := 2) dX4_sell_46 s_0 rfl rfl i_X4_sell_X4 (by decide) f_X4_sell_26 ?_
          refine V_getR (ci := 1) (j := 2) dX4_sell_49 s_21 rfl rfl i_X4_sell_X1 (by decide) f_X4_sell_99 ?_
          refine V_iload_n dX4_sell_52 rfl ?_
          refine V_iald dX4_sell_53 s_23 (by omega) ?_
          refine V_if_eq (tgt := 60) dX4_sell_54 (by decide) (by omega) (fun h54 => ?_) (fun h54 => ?_)
          · refine V_aload_n dX4_sell_60 rfl ?_
            refine V_getR (ci := 4) (j := 2) dX4_sell_61 s_0 rfl rfl i_X4_sell_X4 (by decide) f_X4_sell_26 ?_
            refine V_iload_n dX4_sell_64 rfl ?_
            refine V_iload_n dX4_sell_65 rfl ?_
            refine V_iV2 dX4_sell_66 o_X4_sell_156 s_21 rfl (Nat.le_of_ble_eq_true rfl) (c_X1_handOver G l (b := 21) (Or.inl rfl) ⟨dz, by omega⟩ ⟨dx, by omega⟩ hO) ?_
            rintro z4 w' ⟨hz4, rfl⟩
            obtain ⟨y1, y2, y3⟩ := soW_ok hO ⟨dz, by omega⟩ ⟨dx, by omega⟩ h27
            rw [h.aL] at hz4
            rw [h.2.2.1.1] at y2
            have e0 : soW w 21 i q 21 0 = σ.2.2.1.1 := congrArg (fun t : AS => t.1) y2
            exact V_iret dX4_sell_69 rfl (by rw [aSell, if_pos ⟨yz, yx⟩, if_neg h27, if_pos (by omega)]; exact ⟨hz4, h.now y3 y2 (okC_mono y1 (by omega)) (by rw [e0, ← h.aD]; exact h.2.2.1.2.2), y3.c⟩)
          · refine V_bipush dX4_sell_57 rfl ?_
            exact V_iret dX4_sell_59 rfl (by rw [aSell, if_pos ⟨yz, yx⟩, if_neg h27, if_neg (by omega)]; exact ⟨rfl, h.same, fun _ _ _ => rfl⟩)
      · refine V_bipush dX4_sell_30 rfl ?_
        exact V_iret dX4_sell_32 rfl (by rw [aSell, if_pos ⟨yz, yx⟩, if_pos h27]; exact ⟨rfl, h.same, fun _ _ _ => rfl⟩)
    · have yx : ¬ hasS σ.2.1 q := fun q9 => by rw [if_pos ⟨q9.1, by have := q9.2; omega⟩] at hx; omega
      have ny : ¬ (hasS σ.2.1 i ∧ hasS σ.2.1 q) := fun q9 => yx q9.2
      refine V_bipush dX4_sell_22 rfl ?_
      exact V_iret dX4_sell_24 rfl (by rw [aSell, if_neg ny]; exact ⟨rfl, h.same, fun _ _ _ => rfl⟩)

/-! ===== 33 TreeDebts: wood, and what is foretold ===== -/
def aWood (σ : SG) : Int × SG :=
  if (prP σ.1 12 (sk σ.1 0) σ.2.1).1 = -1 then ((((prP σ.1 12 (sk σ.1 0) σ.2.1).2.length : Nat) : Int), ([], (prP σ.1 12 (sk σ.1 0) σ.2.1).2.foldl (fun t x => apL x t) σ.2.1, (0, 0, ((prP σ.1 12 (sk σ.1 0) σ.2.1).2.foldl (fun t x => apL x t) σ.2.1).2.2.1, [0, 0, 0, 0, 0, 0], []), none, none)) else (-4, σ)
theorem okC.c0 {c : Int} {w : Wd} {b : Nat} (h : okC c w b) : 0 ≤ c := by
  have := h.2.2.1
  omega
theorem wd_ok {c : Int} {σ : SG} {w w2 : Wd} (h : SC c σ w) (p1 : (prP σ.1 12 (sk σ.1 0) σ.2.1).1 = -1) (t2 : tAS w2 5 = (prP σ.1 12 (sk σ.1 0) σ.2.1).2.foldl (fun t x => apL x t) σ.2.1) (o2 : okT w2 5) (l2 : w2 1 3 = (((prP σ.1 12 (sk σ.1 0) σ.2.1).2.length : Nat) : Int)) (g : ∀ (k : Nat) (j : Int), 71 ≤ k → w2 k j = w k j) :
    (up (up (bgS (up w2 1 1 0) 21 5) 4 0 0) 4 (0 + 1) 0) 1 3 = (aWood σ).1 ∧ SC (c + 1) (aWood σ).2 (up (up (bgS (up w2 1 1 0) 21 5) 4 0 0) 4 (0 + 1) 0) ∧ frC w (up (up (bgS (up w2 1 1 0) 21 5) 4 0 0) 4 (0 + 1) 0) := by
  have hc := h.2.2.1.2.1.c0
  have o3 : okT (up w2 1 1 0) 5 := okT_sl o2 (fun k j q => up_ne (by omega))
  obtain ⟨y1, y2, y3⟩ := bgS_ok (b := 21) (d := 5) (Or.inl rfl) (Or.inl rfl) o3 (c := c + 1) (by omega)
  have gg : ∀ (k : Nat) (j : Int), (k < 21 ∨ 28 < k) → (k ≠ 1 ∨ j ≠ 1) → k ≠ 4 → (up (up (bgS (up w2 1 1 0) 21 5) 4 0 0) 4 (0 + 1) 0) k j = w2 k j := by
    intro k j q1 q2 q3
    rw [up_ne (by omega), up_ne (by omega), y3 k j (by omega), up_ne (by omega)]
  have gA : ∀ (k : Nat) (j : Int), 21 ≤ k → k ≤ 28 → (up (up (bgS (up w2 1 1 0) 21 5) 4 0 0) 4 (0 + 1) 0) k j = bgS (up w2 1 1 0) 21 5 k j := by
    intro k j q1 q2
    rw [up_ne (by omega), up_ne (by omega)]
  have eB : gl (up w2 1 1 0) (5 + 2) 0 6 = (tAS w2 5).2.2.1 := gl_eq (fun i _ _ => up_ne (by omega))
  rw [aWood, if_pos p1]
  refine ⟨by rw [gg _ _ (by omega) (by omega) (by omega)]; exact l2, ⟨⟨?_, by simp, fun i g0 g1 => by simp at g1; omega⟩, ⟨?_, okT_sl o2 (fun k j q => gg k j (by omega) (by omega) (by omega))⟩, ⟨?_, okC_eq y1 (fun k j q1 q2 => gA k j q1 q2), ?_⟩, Or.inl ⟨?_, rfl⟩, Or.inl ⟨?_, rfl⟩⟩, fun k j q => ?_⟩
  · rw [up_ne (by omega), up_ne (by omega), y3 _ _ (by omega), up_eq]; rfl
  · rw [tAS_eq (w := w2) (fun k j _ _ => gg k j (by omega) (by omega) (by omega))]; exact t2
  · rw [cAS_eq (w := bgS (up w2 1 1 0) 21 5) (fun k j q1 q2 => gA k j q1 q2), y2, eB, t2]
  · rw [gA _ _ (by omega) (by omega), show bgS (up w2 1 1 0) 21 5 21 0 = 0 from congrArg (fun t : AS => t.1) y2]; omega
  · rw [up_ne (by omega), up_eq]
  · exact up_eq _ _ _ _
  · rw [gg k j (by omega) (by omega) (by omega)]; exact g k j q
def fS (σ : SG) (n : Nat) : AS := dysS σ.2.1.2.1 σ.2.1.2.2.2.1 σ.2.1.2.2.2.2.2.2.2 n σ.2.2.1
theorem frm.k {c : Int} {σ : SG} {w w' : Wd} (h : SC c σ w) (g : frm 29 w w') : SC c σ w' := h.keep (by omega) (fun k j q => g k j (by omega))
theorem frm.c9 {w w' : Wd} (h : frm 29 w w') : frC w w' := fun k j q => h k j (by omega)
theorem frm.tr {b : Nat} {w w1 w2 : Wd} (h : frm b w w1) (g : frm b w1 w2) : frm b w w2 := fun k j q => (g k j q).trans (h k j q)
def aLater (σ : SG) (i t : Int) : Int := if hasS σ.2.1 i then (if 0 ≤ t ∧ t ≤ 99 then owL i (fS σ t.toNat).2.2.2.2 else -3) else -2
def aAll (σ : SG) (t q : Int) : Int := if 0 ≤ t ∧ t ≤ 99 ∧ 0 ≤ q ∧ q ≤ 1 then (if q = 0 then oaL (fS σ t.toNat).2.2.2.2 else (fS σ t.toNat).2.1) else -3
def clN (K R : List Int) (hd : Int) : Nat → Int → AS → Int
  | 0, _, _ => -1
  | n + 1, t, a => if a.2.2.2.2 = [] then t else clN K R hd n (t + 1) (dyS K R hd a)
def aClear (σ : SG) : Int := clN σ.2.1.2.1 σ.2.1.2.2.2.1 σ.2.1.2.2.2.2.2.2.2 1000 0 σ.2.2.1
def gsN (H F : List Int) : Nat → Int → Int → Int
  | 0, _, s => s
  | n + 1, i, s => gsN H F n (i + 1) (if F.getD i.toNat 0 = 0 then s + H.getD i.toNat 0 else s)
def aGrand (σ : SG) (t : Int) : Int := if 0 ≤ t ∧ t ≤ 99 then gsN (fS σ t.toNat).2.2.1 (fS σ t.toNat).2.2.2.1 σ.2.1.1.toNat 0 0 else -3
def twN (K R F : List Int) (b t v : Int) : Nat → Int → Int → Int
  | 0, _, s => s
  | n + 1, i, s => twN K R F b t v n (i + 1) (if F.getD i.toNat 0 = 0 ∧ grI (K.getD i.toNat 0) (R.getD i.toNat 0) b t.toNat (100 * b) = v then bOr s (bShl 1 i) else s)
def aWhom (σ : SG) (b t v : Int) : Int := if (1 ≤ b ∧ b ≤ 99) ∧ (0 ≤ t ∧ t ≤ 30) ∧ 0 ≤ v ∧ v ≤ 1000000 then twN σ.2.1.2.1 σ.2.1.2.2.2.1 σ.2.2.1.2.2.2.1 b t v σ.2.1.1.toNat 0 0 else -3
def afN (K R : List Int) (hd : Int) : Nat → AS → Int → Bool
  | 0, _, _ => false
  | n + 1, a, f => if f < (dyS K R hd a).2.1 then true else afN K R hd n (dyS K R hd a) f
def enN (f : Int → Bool) : Nat → Int → Int → Int
  | 0, _, hi => hi
  | n + 1, lo, hi => if lo < hi then (if f ((lo + hi) / 2) = true then enN f n ((lo + hi) / 2 + 1) hi else enN f n lo ((lo + hi) / 2)) else hi
def afS (σ : SG) (t : Int) (hd : Int) : Bool := afN σ.2.1.2.1 σ.2.1.2.2.2.1 hd t.toNat σ.2.2.1 σ.2.2.1.2.1
def aEnough (σ : SG) (t : Int) : Int := if 1 ≤ t ∧ t ≤ 99 then (if afS σ t 99 = true then -1 else enN (afS σ t) 99 0 99) else -3
set_option maxRecDepth 100000 in
set_option maxHeartbeats 4000000 in
theorem c_X4_wood (G : Gb) (l : Launch) {w : Wd} {c : Int} {σ : SG} (h : SC c σ w) : Ci G l yX4_wood mX4_wood [.ref (gA G 0)] w (fun z w' => z = (aWood σ).1 ∧ SC (c + 1) (aWood σ).2 w' ∧ frC w w') := by
  refine V_start 1 (by decide) rfl rfl (Nat.le_of_ble_eq_true rfl) ?_
  show V G l mX4_wood _ 0 [some (.ref (gA G 0)), none] [] w
  refine V_aload_n dX4_wood_0 rfl ?_
  refine V_getR (ci := 4) (j := 0) dX4_wood_1 s_0 rfl rfl i_X4_wood_X4 (by decide) f_X4_wood_10 ?_
  refine V_aload_n dX4_wood_4 rfl ?_
  refine V_getR (ci := 4) (j := 1) dX4_wood_5 s_0 rfl rfl i_X4_wood_X4 (by decide) f_X4_wood_19 ?_
  refine V_iV1 dX4_wood_8 o_X4_wood_58 s_1 rfl (Nat.le_of_ble_eq_true rfl) (c_X2_read G l h.1 h.2.1.2) ?_
  rintro z w1 ⟨r1, r2, r3, r4, r5⟩
  rw [h.2.1.1] at r1 r3
  refine V_iconst dX4_wood_11 ?_
  refine V_icmp_eq (tgt := 18) dX4_wood_12 (by decide) (by omega) (by omega) (fun h12 => ?_) (fun h12 => ?_)
  · have p1 : (prP σ.1 12 (sk σ.1 0) σ.2.1).1 = -1 := r1.symm.trans h12
    refine V_aload_n dX4_wood_18 rfl ?_
    refine V_getR (ci := 4) (j := 1) dX4_wood_19 s_0 rfl rfl i_X4_wood_X4 (by decide) f_X4_wood_19 ?_
    refine V_aload_n dX4_wood_22 rfl ?_
    refine V_getR (ci := 4) (j := 0) dX4_wood_23 s_0 rfl rfl i_X4_wood_X4 (by decide) f_X4_wood_10 ?_
    refine V_getR (ci := 2) (j := 2) dX4_wood_26 s_1 rfl rfl i_X4_wood_X2 (by decide) f_X4_wood_62 ?_
    refine V_vV1 dX4_wood_29 o_X4_wood_65 s_5 rfl (Nat.le_of_ble_eq_true rfl) (c_X3_copyFrom G l (d := 5) (d2 := 13) (Or.inl rfl) (Or.inr rfl) (by omega) r2) ?_
    rintro w2 ⟨x1, x2, x3⟩
    refine V_aload_n dX4_wood_32 rfl ?_
    refine V_getR (ci := 4) (j := 0) dX4_wood_33 s_0 rfl rfl i_X4_wood_X4 (by decide) f_X4_wood_10 ?_
    refine V_iconst dX4_wood_36 ?_
    refine V_putI (ci := 2) (j := 1) (ji := 1) dX4_wood_37 s_1 rfl rfl i_X4_wood_X2 tyX2_ok nmX2 (by decide) f_X4_wood_48 rfl rfl rfl ?_
    refine V_aload_n dX4_wood_40 rfl ?_
    refine V_getR (ci := 4) (j := 2) dX4_wood_41 s_0 rfl rfl i_X4_wood_X4 (by decide) f_X4_wood_26 ?_
    refine V_aload_n dX4_wood_44 rfl ?_
    refine V_getR (ci := 4) (j := 1) dX4_wood_45 s_0 rfl rfl i_X4_wood_X4 (by decide) f_X4_wood_19 ?_
    refine V_vV1 dX4_wood_48 o_X4_wood_69 s_21 rfl (Nat.le_of_ble_eq_true rfl) (c_X1_begin G l (b := 21) (d := 5) (Or.inl rfl) (Or.inl rfl)) ?_
    rintro _ rfl
    refine V_iconst dX4_wood_51 ?_
    refine V_istore_n dX4_wood_52 (by decide) rfl ?_
    refine V_iload_n dX4_wood_53 rfl ?_
    refine V_aload_n dX4_wood_54 rfl ?_
    refine V_getR (ci := 4) (j := 5) dX4_wood_55 s_0 rfl rfl i_X4_wood_X4 (by decide) f_X4_wood_37 ?_
    refine V_alen (nz := 2) dX4_wood_58 s_4 (by decide) rfl ?_
    refine V_icmp_ge (tgt := 75) dX4_wood_59 (by decide) (by omega) (by omega) (fun h59 => ?_) (fun h59 => ?_)
    · exact absurd h59 (by omega)
    · refine V_aload_n dX4_wood_62 rfl ?_
      refine V_getR (ci := 4) (j := 5) dX4_wood_63 s_0 rfl rfl i_X4_wood_X4 (by decide) f_X4_wood_37 ?_
      refine V_iload_n dX4_wood_66 rfl ?_
      refine V_iconst dX4_wood_67 ?_
      refine V_zast dX4_wood_68 s_4 (by omega) (by omega) ?_
      refine V_iinc dX4_wood_69 rfl (by decide) rfl ?_
      refine V_goto (tgt := 53) dX4_wood_72 (by decide) ?_
      refine V_iload_n dX4_wood_53 rfl ?_
      refine V_aload_n dX4_wood_54 rfl ?_
      refine V_getR (ci := 4) (j := 5) dX4_wood_55 s_0 rfl rfl i_X4_wood_X4 (by decide) f_X4_wood_37 ?_
      refine V_alen (nz := 2) dX4_wood_58 s_4 (by decide) rfl ?_
      refine V_icmp_ge (tgt := 75) dX4_wood_59 (by decide) (by omega) (by omega) (fun h59 => ?_) (fun h59 => ?_)
      · exact absurd h59 (by omega)
      · refine V_aload_n dX4_wood_62 rfl ?_
        refine V_getR (ci := 4) (j := 5) dX4_wood_63 s_0 rfl rfl i_X4_wood_X4 (by decide) f_X4_wood_37 ?_
        refine V_iload_n dX4_wood_66 rfl ?_
        refine V_iconst dX4_wood_67 ?_
        refine V_zast dX4_wood_68 s_4 (by omega) (by omega) ?_
        refine V_iinc dX4_wood_69 rfl (by decide) rfl ?_
        refine V_goto (tgt := 53) dX4_wood_72 (by decide) ?_
        refine V_iload_n dX4_wood_53 rfl ?_
        refine V_aload_n dX4_wood_54 rfl ?_
        refine V_getR (ci := 4) (j := 5) dX4_wood_55 s_0 rfl rfl i_X4_wood_X4 (by decide) f_X4_wood_37 ?_
        refine V_alen (nz := 2) dX4_wood_58 s_4 (by decide) rfl ?_
        refine V_icmp_ge (tgt := 75) dX4_wood_59 (by decide) (by omega) (by omega) (fun h59 => ?_) (fun h59 => ?_)
        · refine V_aload_n dX4_wood_75 rfl ?_
          refine V_getR (ci := 4) (j := 0) dX4_wood_76 s_0 rfl rfl i_X4_wood_X4 (by decide) f_X4_wood_10 ?_
          refine V_getI (ci := 2) (j := 3) (ji := 3) dX4_wood_79 s_1 rfl rfl i_X4_wood_X2 (by decide) f_X4_wood_72 rfl ?_
          exact V_iret dX4_wood_82 rfl (wd_ok h p1 (x2.trans (r3 h12).1) x1 (by rw [x3 _ _ (by omega)]; exact (r3 h12).2) (fun k j q => by rw [x3 k j (by omega)]; exact r4 k j (by omega) (by omega)))
        · exact absurd h59 (by omega)
  · refine V_bipush dX4_wood_15 rfl ?_
    exact V_iret dX4_wood_17 rfl (by rw [aWood, if_neg (fun q => h12 (r1.trans q))]; exact ⟨rfl, h.keep (by omega) (fun k j q => r4 k j (by omega) (by omega)), fun k j q => r4 k j (by omega) (by omega)⟩)
set_option maxRecDepth 100000 in
set_option maxHeartbeats 4000000 in
theorem c_X4_foretell (G : Gb) (l : Launch) {w : Wd} {c : Int} {σ : SG} (h : SC c σ w) {t : Int} (ht : 0 ≤ t ∧ t ≤ 99) : Cv G l yX4_foretell mX4_foretell [.ref (gA G 0), .int (iZ t)] w (fun w' => okC c w' 29 ∧ cAS w' 29 = fS σ t.toNat ∧ frm 29 w w') := by
  refine V_start 0 (by decide) rfl rfl (Nat.le_of_ble_eq_true rfl) ?_
  show V G l mX4_foretell _ 0 [some (.ref (gA G 0)), some (.int (iZ t))] [] w
  refine V_aload_n dX4_foretell_0 rfl ?_
  refine V_getR (ci := 4) (j := 3) dX4_foretell_1 s_0 rfl rfl i_X4_foretell_X4 (by decide) f_X4_foretell_30 ?_
  refine V_aload_n dX4_foretell_4 rfl ?_
  refine V_getR (ci := 4) (j := 2) dX4_foretell_5 s_0 rfl rfl i_X4_foretell_X4 (by decide) f_X4_foretell_26 ?_
  refine V_vV1 dX4_foretell_8 o_X4_foretell_160 s_29 rfl (Nat.le_of_ble_eq_true rfl) (c_X1_copyFrom G l (b := 29) (b2 := 21) (Or.inr (Or.inl rfl)) (Or.inl rfl) (by omega) h.2.2.1.2.1) ?_
  rintro w1 ⟨y1, y2, y3⟩
  have h1 := frm.k h y3
  have e0 : w1 29 0 = w 21 0 := congrArg (fun t : AS => t.1) y2
  have k9 := h.2.2.1.2.2
  have kh : 0 ≤ w1 5 9 ∧ w1 5 9 ≤ 99 := h1.2.1.2.2.2.1
  refine V_aload_n dX4_foretell_11 rfl ?_
  refine V_getR (ci := 4) (j := 3) dX4_foretell_12 s_0 rfl rfl i_X4_foretell_X4 (by decide) f_X4_foretell_30 ?_
  refine V_aload_n dX4_foretell_15 rfl ?_
  refine V_getR (ci := 4) (j := 1) dX4_foretell_16 s_0 rfl rfl i_X4_foretell_X4 (by decide) f_X4_foretell_19 ?_
  refine V_aload_n dX4_foretell_19 rfl ?_
  refine V_getR (ci := 4) (j := 1) dX4_foretell_20 s_0 rfl rfl i_X4_foretell_X4 (by decide) f_X4_foretell_19 ?_
  refine V_getI (ci := 3) (j := 9) (ji := 9) dX4_foretell_23 s_5 rfl rfl i_X4_foretell_X3 (by decide) f_X4_foretell_145 rfl ?_
  refine V_iload_n dX4_foretell_26 rfl ?_
  refine V_vV3 dX4_foretell_27 o_X4_foretell_148 s_29 rfl (Nat.le_of_ble_eq_true rfl) (c_X1_passDays G l (b := 29) (d := 5) (Or.inr (Or.inl rfl)) (Or.inl rfl) kh (by omega) y1 h1.2.1.2 (by omega)) ?_
  rintro w2 ⟨x1, x2, x3⟩
  exact V_vret dX4_foretell_30 rfl ⟨x1, by rw [x2, y2, h.2.2.1.1, h1.tH]; show dysS (gl w1 6 0 6) (gl w1 8 0 6) _ _ _ = _; rw [h1.tK', h1.tR']; rfl, y3.tr x3⟩
set_option maxRecDepth 100000 in
set_option maxHeartbeats 4000000 in
theorem c_X4_later (G : Gb) (l : Launch) {w : Wd} {c : Int} {σ : SG} (h : SC c σ w) {i : Int} (hi : inR i) {t : Int} (ht : inR t) : Ci G l yX4_later mX4_later [.ref (gA G 0), .int (iZ i), .int (iZ t)] w (fun z w' => z = aLater σ i t ∧ SC (c + 1) σ w' ∧ frC w w') := by
  refine V_start 0 (by decide) rfl rfl (Nat.le_of_ble_eq_true rfl) ?_
  show V G l mX4_later _ 0 [some (.ref (gA G 0)), some (.int (iZ i)), some (.int (iZ t))] [] w
  have hT := h.2.1.2
  have hO := h.2.2.1.2.1
  have kt := hT.1
  have kn := hO.n
  have eN := h.tN
  have eL := h.aN
  refine V_aload_n dX4_later_0 rfl ?_
  refine V_getR (ci := 4) (j := 1) dX4_later_1 s_0 rfl rfl i_X4_later_X4 (by decide) f_X4_later_19 ?_
  refine V_iload_n dX4_later_4 rfl ?_
  refine V_iV1 dX4_later_5 o_X4_later_75 s_5 rfl (Nat.le_of_ble_eq_true rfl) (c_X3_has G l (d := 5) (Or.inl rfl) (by omega) (by omega)) ?_
  rintro z _ ⟨hz, rfl⟩
  have rz : z = 0 ∨ z = 1 := by rw [hz]; split <;> simp
  refine V_if_ne (tgt := 14) dX4_later_8 (by decide) (by omega) (fun h8 => ?_) (fun h8 => ?_)
  · have yz : hasS σ.2.1 i := by
      by_cases q9 : 0 ≤ i ∧ i < w 5 0
      · exact ⟨q9.1, by omega⟩
      · rw [if_neg q9] at hz; omega
    have bz := yz.2
    have dz := yz.1
    refine V_iload_n dX4_later_14 rfl ?_
    refine V_if_lt (tgt := 24) dX4_later_15 (by decide) (by omega) (fun h15 => ?_) (fun h15 => ?_)
    · refine V_bipush dX4_later_24 rfl ?_
      exact V_iret dX4_later_26 rfl (by rw [aLater, if_pos yz, if_neg (by omega)]; exact ⟨rfl, h.same, fun _ _ _ => rfl⟩)
    · refine V_iload_n dX4_later_18 rfl ?_
      refine V_bipush dX4_later_19 rfl ?_
      refine V_icmp_le (tgt := 27) dX4_later_21 (by decide) (by omega) (by omega) (fun h21 => ?_) (fun h21 => ?_)
      · refine V_aload_n dX4_later_27 rfl ?_
        refine V_iload_n dX4_later_28 rfl ?_
        refine V_vV1 dX4_later_29 o_X4_later_163 s_0 rfl (Nat.le_of_ble_eq_true rfl) (c_X4_foretell G l h (t := t) (by omega)) ?_
        rintro w' ⟨y1, y2, y3⟩
        have e9 : w' 29 9 = (fS σ (t).toNat).2.1 := congrArg (fun t : AS => t.2.1) y2
        have eL9 : cLs w' 29 = (fS σ (t).toNat).2.2.2.2 := congrArg (fun t : AS => t.2.2.2.2) y2
        refine V_aload_n dX4_later_32 rfl ?_
        refine V_getR (ci := 4) (j := 3) dX4_later_33 s_0 rfl rfl i_X4_later_X4 (by decide) f_X4_later_30 ?_
        refine V_iload_n dX4_later_36 rfl ?_
        refine V_iV1 dX4_later_37 o_X4_later_95 s_29 rfl (Nat.le_of_ble_eq_true rfl) (c_X1_owedTo G l (b := 29) (Or.inr (Or.inl rfl)) (by omega) y1.n (fun i g0 g1 => by have q := y1.ln g0 g1; omega)) ?_
        rintro _ _ ⟨rfl, rfl⟩
        exact V_iret dX4_later_40 rfl ⟨by rw [aLater, if_pos yz, if_pos (by omega), ← eL9], (frm.k h y3).same, y3.c9⟩
      · refine V_bipush dX4_later_24 rfl ?_
        exact V_iret dX4_later_26 rfl (by rw [aLater, if_pos yz, if_neg (by omega)]; exact ⟨rfl, h.same, fun _ _ _ => rfl⟩)
  · have yz : ¬ hasS σ.2.1 i := fun q9 => by rw [if_pos ⟨q9.1, by have := q9.2; omega⟩] at hz; omega
    refine V_bipush dX4_later_11 rfl ?_
    exact V_iret dX4_later_13 rfl (by rw [aLater, if_neg yz]; exact ⟨rfl, h.same, fun _ _ _ => rfl⟩)
set_option maxRecDepth 100000 in
set_option maxHeartbeats 4000000 in
theorem c_X4_all (G : Gb) (l : Launch) {w : Wd} {c : Int} {σ : SG} (h : SC c σ w) {t : Int} (ht : inR t) {q : Int} (hq : inR q) : Ci G l yX4_all mX4_all [.ref (gA G 0), .int (iZ t), .int (iZ q)] w (fun z w' => z = aAll σ t q ∧ SC (c + 1) σ w' ∧ frC w w') := by
  refine V_start 0 (by decide) rfl rfl (Nat.le_of_ble_eq_true rfl) ?_
  show V G l mX4_all _ 0 [some (.ref (gA G 0)), some (.int (iZ t)), some (.int (iZ q))] [] w
  refine V_iload_n dX4_all_0 rfl ?_
  refine V_if_lt (tgt := 19) dX4_all_1 (by decide) (by omega) (fun h1 => ?_) (fun h1 => ?_)
  · refine V_bipush dX4_all_19 rfl ?_
    exact V_iret dX4_all_21 rfl (by rw [aAll, if_neg (by omega)]; exact ⟨rfl, h.same, fun _ _ _ => rfl⟩)
  · refine V_iload_n dX4_all_4 rfl ?_
    refine V_bipush dX4_all_5 rfl ?_
    refine V_icmp_gt (tgt := 19) dX4_all_7 (by decide) (by omega) (by omega) (fun h7 => ?_) (fun h7 => ?_)
    · refine V_bipush dX4_all_19 rfl ?_
      exact V_iret dX4_all_21 rfl (by rw [aAll, if_neg (by omega)]; exact ⟨rfl, h.same, fun _ _ _ => rfl⟩)
    · refine V_iload_n dX4_all_10 rfl ?_
      refine V_if_lt (tgt := 19) dX4_all_11 (by decide) (by omega) (fun h11 => ?_) (fun h11 => ?_)
      · refine V_bipush dX4_all_19 rfl ?_
        exact V_iret dX4_all_21 rfl (by rw [aAll, if_neg (by omega)]; exact ⟨rfl, h.same, fun _ _ _ => rfl⟩)
      · refine V_iload_n dX4_all_14 rfl ?_
        refine V_iconst dX4_all_15 ?_
        refine V_icmp_le (tgt := 22) dX4_all_16 (by decide) (by omega) (by omega) (fun h16 => ?_) (fun h16 => ?_)
        · refine V_aload_n dX4_all_22 rfl ?_
          refine V_iload_n dX4_all_23 rfl ?_
          refine V_vV1 dX4_all_24 o_X4_all_163 s_0 rfl (Nat.le_of_ble_eq_true rfl) (c_X4_foretell G l h (t := t) (by omega)) ?_
          rintro w' ⟨y1, y2, y3⟩
          have e9 : w' 29 9 = (fS σ (t).toNat).2.1 := congrArg (fun t : AS => t.2.1) y2
          have eL9 : cLs w' 29 = (fS σ (t).toNat).2.2.2.2 := congrArg (fun t : AS => t.2.2.2.2) y2
          refine V_iload_n dX4_all_27 rfl ?_
          refine V_if_ne (tgt := 41) dX4_all_28 (by decide) (by omega) (fun h28 => ?_) (fun h28 => ?_)
          · refine V_aload_n dX4_all_41 rfl ?_
            refine V_getR (ci := 4) (j := 3) dX4_all_42 s_0 rfl rfl i_X4_all_X4 (by decide) f_X4_all_30 ?_
            refine V_getI (ci := 1) (j := 9) (ji := 9) dX4_all_45 s_29 rfl rfl i_X4_all_X1 (by decide) f_X4_all_170 rfl ?_
            exact V_iret dX4_all_48 rfl ⟨by rw [aAll, if_pos (by omega)]; first | (rw [if_pos (by omega), ← eL9]) | (rw [if_neg (by omega)]; exact e9), (frm.k h y3).same, y3.c9⟩
          · refine V_aload_n dX4_all_31 rfl ?_
            refine V_getR (ci := 4) (j := 3) dX4_all_32 s_0 rfl rfl i_X4_all_X4 (by decide) f_X4_all_30 ?_
            refine V_iV0 dX4_all_35 o_X4_all_166 s_29 rfl (Nat.le_of_ble_eq_true rfl) (c_X1_owedInAll G l (b := 29) (Or.inr (Or.inl rfl)) y1.n) ?_
            rintro _ _ ⟨rfl, rfl⟩
            refine V_goto (tgt := 48) dX4_all_38 (by decide) ?_
            exact V_iret dX4_all_48 rfl ⟨by rw [aAll, if_pos (by omega)]; first | (rw [if_pos (by omega), ← eL9]) | (rw [if_neg (by omega)]; exact e9), (frm.k h y3).same, y3.c9⟩
        · refine V_bipush dX4_all_19 rfl ?_
          exact V_iret dX4_all_21 rfl (by rw [aAll, if_neg (by omega)]; exact ⟨rfl, h.same, fun _ _ _ => rfl⟩)
set_option maxRecDepth 100000 in
set_option maxHeartbeats 4000000 in
theorem l_X4_clear (G : Gb) (l : Launch) {w0 : Wd} {c : Int} {σ : SG} (h : SC c σ w0) {Post : Int → Wd → Prop} : ∀ (k : Nat) (t : Int) (w : Wd) (a : AS), 0 ≤ t → t + k = 1000 → okC c w 29 → cAS w 29 = a → frm 29 w0 w → w 29 0 + k ≤ 20000 → (∀ w', frm 29 w0 w' → Post (clN σ.2.1.2.1 σ.2.1.2.2.2.1 σ.2.1.2.2.2.2.2.2.2 k t a) w') → V G l mX4_clear (Qi G Post) 7 [some (.ref (gA G 0)), some (.int (iZ t))] [] w := by
  intro k
  induction k with
  | zero =>
    intro t w a h0 h1 ho he hf hy hp
    refine V_iload_n dX4_clear_7 rfl ?_
    refine V_sipush dX4_clear_8 rfl ?_
    refine V_icmp_gt (tgt := 51) dX4_clear_11 (by decide) (by omega) (by omega) (fun h11 => ?_) (fun h11 => ?_)
    · refine V_iconst dX4_clear_51 ?_
      exact V_iret dX4_clear_52 rfl (hp w hf)
    · exact absurd h11 (by omega)
  | succ k ih =>
    intro t w a h0 h1 ho he hf hy hp
    have hs := frm.k h hf
    have kn := ho.n
    have kh : 0 ≤ w 5 9 ∧ w 5 9 ≤ 99 := hs.2.1.2.2.2.1
    have eL : ((a.2.2.2.2.length : Nat) : Int) = w 29 3 := by rw [← he]; show (((cLs w 29).length : Nat) : Int) = _; rw [cLs_len]; omega
    have hk := ho.day
    refine V_iload_n dX4_clear_7 rfl ?_
    refine V_sipush dX4_clear_8 rfl ?_
    refine V_icmp_gt (tgt := 51) dX4_clear_11 (by decide) (by omega) (by omega) (fun h11 => ?_) (fun h11 => ?_)
    · exact absurd h11 (by omega)
    · refine V_aload_n dX4_clear_14 rfl ?_
      refine V_getR (ci := 4) (j := 3) dX4_clear_15 s_0 rfl rfl i_X4_clear_X4 (by decide) f_X4_clear_30 ?_
      refine V_getI (ci := 1) (j := 3) (ji := 3) dX4_clear_18 s_29 rfl rfl i_X4_clear_X1 (by decide) f_X4_clear_106 rfl ?_
      refine V_if_ne (tgt := 26) dX4_clear_21 (by decide) (by omega) (fun h21 => ?_) (fun h21 => ?_)
      · refine V_aload_n dX4_clear_26 rfl ?_
        refine V_getR (ci := 4) (j := 3) dX4_clear_27 s_0 rfl rfl i_X4_clear_X4 (by decide) f_X4_clear_30 ?_
        refine V_aload_n dX4_clear_30 rfl ?_
        refine V_getR (ci := 4) (j := 1) dX4_clear_31 s_0 rfl rfl i_X4_clear_X4 (by decide) f_X4_clear_19 ?_
        refine V_aload_n dX4_clear_34 rfl ?_
        refine V_getR (ci := 4) (j := 1) dX4_clear_35 s_0 rfl rfl i_X4_clear_X4 (by decide) f_X4_clear_19 ?_
        refine V_getI (ci := 3) (j := 9) (ji := 9) dX4_clear_38 s_5 rfl rfl i_X4_clear_X3 (by decide) f_X4_clear_145 rfl ?_
        refine V_iconst dX4_clear_41 ?_
        refine V_vV3 dX4_clear_42 o_X4_clear_148 s_29 rfl (Nat.le_of_ble_eq_true rfl) (c_X1_passDays G l (b := 29) (d := 5) (q := 1) (Or.inr (Or.inl rfl)) (Or.inl rfl) kh (by omega) ho hs.2.1.2 (by omega)) ?_
        rintro w2 ⟨x1, x2, x3⟩
        have x4 : cAS w2 29 = dyS σ.2.1.2.1 σ.2.1.2.2.2.1 σ.2.1.2.2.2.2.2.2.2 a := by
          rw [x2, he, hs.tH]
          show dysS (gl w 6 0 6) (gl w 8 0 6) _ 1 a = _
          rw [hs.tK', hs.tR']
          rfl
        have e0 : w2 29 0 = w 29 0 + 1 := by
          rw [show w2 29 0 = (cAS w2 29).1 from rfl, x4, show w 29 0 = (cAS w 29).1 from rfl, he]
          rfl
        refine V_iinc dX4_clear_45 rfl (by decide) rfl ?_
        refine V_goto (tgt := 7) dX4_clear_48 (by decide) ?_
        refine ih (t + 1) w2 _ (by omega) (by omega) x1 x4 (hf.tr x3) (by omega) (fun w' h5 => ?_)
        have q := hp w' h5
        rw [clN, if_neg (fun q9 => by rw [q9] at eL; exact h21 (by simpa using eL.symm))] at q
        exact q
      · refine V_iload_n dX4_clear_24 rfl ?_
        exact V_iret dX4_clear_25 rfl (by have q := hp w hf; rw [clN, if_pos (List.length_eq_zero_iff.mp (by omega))] at q; exact q)
set_option maxRecDepth 100000 in
set_option maxHeartbeats 4000000 in
theorem c_X4_clear (G : Gb) (l : Launch) {w : Wd} {c : Int} {σ : SG} (h : SC c σ w) : Ci G l yX4_clear mX4_clear [.ref (gA G 0)] w (fun z w' => z = aClear σ ∧ SC (c + 1) σ w' ∧ frC w w') := by
  refine V_start 1 (by decide) rfl rfl (Nat.le_of_ble_eq_true rfl) ?_
  show V G l mX4_clear _ 0 [some (.ref (gA G 0)), none] [] w
  refine V_aload_n dX4_clear_0 rfl ?_
  refine V_iconst dX4_clear_1 ?_
  refine V_vV1 dX4_clear_2 o_X4_clear_163 s_0 rfl (Nat.le_of_ble_eq_true rfl) (c_X4_foretell G l h (t := 0) (by omega)) ?_
  rintro w' ⟨y1, y2, y3⟩
  have e0 : w' 29 0 = σ.2.2.1.1 := congrArg (fun t : AS => t.1) y2
  have k9 := h.2.2.1.2.2
  rw [h.aD] at k9
  refine V_iconst dX4_clear_5 ?_
  refine V_istore_n dX4_clear_6 (by decide) rfl ?_
  exact l_X4_clear G l h 1000 0 w' _ (by omega) (by omega) y1 y2 y3 (by omega) (fun w2 h5 => ⟨rfl, (frm.k h h5).same, h5.c9⟩)
set_option maxRecDepth 100000 in
set_option maxHeartbeats 4000000 in
theorem l_X4_grandson (G : Gb) (l : Launch) {t : Int} {w : Wd} {c : Int} {σ : SG} (h : SC c σ w) (ho : okC c w 29) {Post : Int → Wd → Prop} : ∀ (k : Nat) (i s : Int), 0 ≤ i → i + k = σ.2.1.1 → Post (gsN (gl w 30 0 6) (gl w 31 0 6) k i s) w → V G l mX4_grandson (Qi G Post) 22 [some (.ref (gA G 0)), some (.int (iZ t)), some (.int (iZ s)), some (.int (iZ i))] [] w := by
  have kt := h.2.1.2.1
  have eN := h.tN
  intro k
  induction k with
  | zero =>
    intro i s h0 h1 hp
    refine V_iload_n dX4_grandson_22 rfl ?_
    refine V_aload_n dX4_grandson_23 rfl ?_
    refine V_getR (ci := 4) (j := 1) dX4_grandson_24 s_0 rfl rfl i_X4_grandson_X4 (by decide) f_X4_grandson_19 ?_
    refine V_getI (ci := 3) (j := 0) (ji := 0) dX4_grandson_27 s_5 rfl rfl i_X4_grandson_X3 (by decide) f_X4_grandson_192 rfl ?_
    refine V_icmp_ge (tgt := 63) dX4_grandson_30 (by decide) (by omega) (by omega) (fun h30 => ?_) (fun h30 => ?_)
    · refine V_iload_n dX4_grandson_63 rfl ?_
      exact V_iret dX4_grandson_64 rfl hp
    · exact absurd h30 (by omega)
  | succ k ih =>
    intro i s h0 h1 hp
    have kf : 0 ≤ w 31 i ∧ w 31 i ≤ 2 := ho.fate h0 (by omega)
    rw [gsN, ← gl_0 (w := w) (k := 31) (n := 6) h0 (by omega), ← gl_0 (w := w) (k := 30) (n := 6) h0 (by omega)] at hp
    refine V_iload_n dX4_grandson_22 rfl ?_
    refine V_aload_n dX4_grandson_23 rfl ?_
    refine V_getR (ci := 4) (j := 1) dX4_grandson_24 s_0 rfl rfl i_X4_grandson_X4 (by decide) f_X4_grandson_19 ?_
    refine V_getI (ci := 3) (j := 0) (ji := 0) dX4_grandson_27 s_5 rfl rfl i_X4_grandson_X3 (by decide) f_X4_grandson_192 rfl ?_
    refine V_icmp_ge (tgt := 63) dX4_grandson_30 (by decide) (by omega) (by omega) (fun h30 => ?_) (fun h30 => ?_)
    · exact absurd h30 (by omega)
    · refine V_aload_n dX4_grandson_33 rfl ?_
      refine V_getR (ci := 4) (j := 3) dX4_grandson_34 s_0 rfl rfl i_X4_grandson_X4 (by decide) f_X4_grandson_30 ?_
      refine V_getR (ci := 1) (j := 2) dX4_grandson_37 s_29 rfl rfl i_X4_grandson_X1 (by decide) f_X4_grandson_99 ?_
      refine V_iload_n dX4_grandson_40 rfl ?_
      refine V_iald dX4_grandson_41 s_31 (by omega) ?_
      refine V_if_ne (tgt := 57) dX4_grandson_42 (by decide) (by omega) (fun h42 => ?_) (fun h42 => ?_)
      · rw [if_neg (by omega)] at hp
        refine V_iinc dX4_grandson_57 rfl (by decide) rfl ?_
        refine V_goto (tgt := 22) dX4_grandson_60 (by decide) ?_
        exact ih (i + 1) _ (by omega) (by omega) hp
      · rw [if_pos (by omega)] at hp
        refine V_iload_n dX4_grandson_45 rfl ?_
        refine V_aload_n dX4_grandson_46 rfl ?_
        refine V_getR (ci := 4) (j := 3) dX4_grandson_47 s_0 rfl rfl i_X4_grandson_X4 (by decide) f_X4_grandson_30 ?_
        refine V_getR (ci := 1) (j := 1) dX4_grandson_50 s_29 rfl rfl i_X4_grandson_X1 (by decide) f_X4_grandson_83 ?_
        refine V_iload_n dX4_grandson_53 rfl ?_
        refine V_iald dX4_grandson_54 s_30 (by omega) ?_
        refine V_iadd dX4_grandson_55 ?_
        refine V_istore_n dX4_grandson_56 (by decide) rfl ?_
        refine V_iinc dX4_grandson_57 rfl (by decide) rfl ?_
        refine V_goto (tgt := 22) dX4_grandson_60 (by decide) ?_
        exact ih (i + 1) _ (by omega) (by omega) hp
set_option maxRecDepth 100000 in
set_option maxHeartbeats 4000000 in
theorem c_X4_grandson (G : Gb) (l : Launch) {w : Wd} {c : Int} {σ : SG} (h : SC c σ w) {t : Int} (ht : inR t) : Ci G l yX4_grandson mX4_grandson [.ref (gA G 0), .int (iZ t)] w (fun z w' => z = aGrand σ t ∧ SC (c + 1) σ w' ∧ frC w w') := by
  refine V_start 2 (by decide) rfl rfl (Nat.le_of_ble_eq_true rfl) ?_
  show V G l mX4_grandson _ 0 [some (.ref (gA G 0)), some (.int (iZ t)), none, none] [] w
  have hT := h.2.1.2
  have hO := h.2.2.1.2.1
  have kt := hT.1
  have kn := hO.n
  have eN := h.tN
  have eL := h.aN
  refine V_iload_n dX4_grandson_0 rfl ?_
  refine V_if_lt (tgt := 10) dX4_grandson_1 (by decide) (by omega) (fun h1 => ?_) (fun h1 => ?_)
  · refine V_bipush dX4_grandson_10 rfl ?_
    exact V_iret dX4_grandson_12 rfl (by rw [aGrand, if_neg (by omega)]; exact ⟨rfl, h.same, fun _ _ _ => rfl⟩)
  · refine V_iload_n dX4_grandson_4 rfl ?_
    refine V_bipush dX4_grandson_5 rfl ?_
    refine V_icmp_le (tgt := 13) dX4_grandson_7 (by decide) (by omega) (by omega) (fun h7 => ?_) (fun h7 => ?_)
    · refine V_aload_n dX4_grandson_13 rfl ?_
      refine V_iload_n dX4_grandson_14 rfl ?_
      refine V_vV1 dX4_grandson_15 o_X4_grandson_163 s_0 rfl (Nat.le_of_ble_eq_true rfl) (c_X4_foretell G l h (t := t) (by omega)) ?_
      rintro w' ⟨y1, y2, y3⟩
      have e9 : w' 29 9 = (fS σ (t).toNat).2.1 := congrArg (fun t : AS => t.2.1) y2
      have eL9 : cLs w' 29 = (fS σ (t).toNat).2.2.2.2 := congrArg (fun t : AS => t.2.2.2.2) y2
      refine V_iconst dX4_grandson_18 ?_
      refine V_istore_n dX4_grandson_19 (by decide) rfl ?_
      refine V_iconst dX4_grandson_20 ?_
      refine V_istore_n dX4_grandson_21 (by decide) rfl ?_
      refine l_X4_grandson G l (frm.k h y3) y1 σ.2.1.1.toNat 0 0 (by omega) (by omega) ?_
      refine ⟨?_, (frm.k h y3).same, y3.c9⟩
      rw [aGrand, if_pos (by omega), show gl w' 30 0 6 = (fS σ t.toNat).2.2.1 from congrArg (fun t : AS => t.2.2.1) y2, show gl w' 31 0 6 = (fS σ t.toNat).2.2.2.1 from congrArg (fun t : AS => t.2.2.2.1) y2]
    · refine V_bipush dX4_grandson_10 rfl ?_
      exact V_iret dX4_grandson_12 rfl (by rw [aGrand, if_neg (by omega)]; exact ⟨rfl, h.same, fun _ _ _ => rfl⟩)
set_option maxRecDepth 100000 in
set_option maxHeartbeats 4000000 in
theorem l_X4_toWhom (G : Gb) (l : Launch) {b t v : Int} (hb : 1 ≤ b ∧ b ≤ 99) (ht : 0 ≤ t ∧ t ≤ 30) (hv : 0 ≤ v ∧ v ≤ 1000000) {w : Wd} {c : Int} {σ : SG} (h : SC c σ w) {Post : Int → Wd → Prop} : ∀ (k : Nat) (i s : Int), 0 ≤ i → i + k = σ.2.1.1 → Post (twN σ.2.1.2.1 σ.2.1.2.2.2.1 σ.2.2.1.2.2.2.1 b t v k i s) w → V G l mX4_toWhom (Qi G Post) 40 [some (.ref (gA G 0)), some (.int (iZ b)), some (.int (iZ t)), some (.int (iZ v)), some (.int (iZ s)), some (.int (iZ i))] [] w := by
  have hT := h.2.1.2
  have kt := hT.1
  have eN := h.tN
  intro k
  induction k with
  | zero =>
    intro i s h0 h1 hp
    refine V_iload dX4_toWhom_40 rfl ?_
    refine V_aload_n dX4_toWhom_42 rfl ?_
    refine V_getR (ci := 4) (j := 1) dX4_toWhom_43 s_0 rfl rfl i_X4_toWhom_X4 (by decide) f_X4_toWhom_19 ?_
    refine V_getI (ci := 3) (j := 0) (ji := 0) dX4_toWhom_46 s_5 rfl rfl i_X4_toWhom_X3 (by decide) f_X4_toWhom_192 rfl ?_
    refine V_icmp_ge (tgt := 95) dX4_toWhom_49 (by decide) (by omega) (by omega) (fun h49 => ?_) (fun h49 => ?_)
    · refine V_iload dX4_toWhom_95 rfl ?_
      exact V_iret dX4_toWhom_97 rfl hp
    · exact absurd h49 (by omega)
  | succ k ih =>
    intro i s h0 h1 hp
    have kf : 0 ≤ w 23 i ∧ w 23 i ≤ 2 := h.2.2.1.2.1.fate h0 (by omega)
    have kk := hT.2.2.2.1 i h0 (by omega)
    rw [twN, ← h.aF h0 (by omega), ← h.tK h0 (by omega), ← h.tR h0 (by omega)] at hp
    refine V_iload dX4_toWhom_40 rfl ?_
    refine V_aload_n dX4_toWhom_42 rfl ?_
    refine V_getR (ci := 4) (j := 1) dX4_toWhom_43 s_0 rfl rfl i_X4_toWhom_X4 (by decide) f_X4_toWhom_19 ?_
    refine V_getI (ci := 3) (j := 0) (ji := 0) dX4_toWhom_46 s_5 rfl rfl i_X4_toWhom_X3 (by decide) f_X4_toWhom_192 rfl ?_
    refine V_icmp_ge (tgt := 95) dX4_toWhom_49 (by decide) (by omega) (by omega) (fun h49 => ?_) (fun h49 => ?_)
    · exact absurd h49 (by omega)
    · refine V_aload_n dX4_toWhom_52 rfl ?_
      refine V_getR (ci := 4) (j := 2) dX4_toWhom_53 s_0 rfl rfl i_X4_toWhom_X4 (by decide) f_X4_toWhom_26 ?_
      refine V_getR (ci := 1) (j := 2) dX4_toWhom_56 s_21 rfl rfl i_X4_toWhom_X1 (by decide) f_X4_toWhom_99 ?_
      refine V_iload dX4_toWhom_59 rfl ?_
      refine V_iald dX4_toWhom_61 s_23 (by omega) ?_
      refine V_if_ne (tgt := 89) dX4_toWhom_62 (by decide) (by omega) (fun h62 => ?_) (fun h62 => ?_)
      · rw [if_neg (by omega)] at hp
        refine V_iinc dX4_toWhom_89 rfl (by decide) rfl ?_
        refine V_goto (tgt := 40) dX4_toWhom_92 (by decide) ?_
        exact ih (i + 1) _ (by omega) (by omega) hp
      · refine V_aload_n dX4_toWhom_65 rfl ?_
        refine V_getR (ci := 4) (j := 1) dX4_toWhom_66 s_0 rfl rfl i_X4_toWhom_X4 (by decide) f_X4_toWhom_19 ?_
        refine V_iload dX4_toWhom_69 rfl ?_
        refine V_iload_n dX4_toWhom_71 rfl ?_
        refine V_iload_n dX4_toWhom_72 rfl ?_
        refine V_iV3 dX4_toWhom_73 o_X4_toWhom_131 s_5 rfl (Nat.le_of_ble_eq_true rfl) (c_X3_grownIn G l (d := 5) (n := b) (q := t) (Or.inl rfl) (by omega) (by omega) kk.1 kk.2.2.1 (by omega)) ?_
        rintro z _ ⟨hz, rfl⟩
        have hz : z = grI (w 6 i) (w 8 i) b t.toNat (100 * b) := hz
        rw [← hz] at hp
        have rg := grI_bd (k := w 6 i) (n := b) (r := w 8 i) (by omega) kk.2.2.1 t.toNat (100 * b) (by omega)
        have rz : inR z := by omega
        refine V_iload_n dX4_toWhom_76 rfl ?_
        refine V_icmp_ne (tgt := 89) dX4_toWhom_77 (by decide) rz (by omega) (fun h77 => ?_) (fun h77 => ?_)
        · rw [if_neg (fun q => h77 q.2)] at hp
          refine V_iinc dX4_toWhom_89 rfl (by decide) rfl ?_
          refine V_goto (tgt := 40) dX4_toWhom_92 (by decide) ?_
          exact ih (i + 1) _ (by omega) (by omega) hp
        · rw [if_pos ⟨by omega, h77⟩] at hp
          refine V_iload dX4_toWhom_80 rfl ?_
          refine V_iconst dX4_toWhom_82 ?_
          refine V_iload dX4_toWhom_83 rfl ?_
          refine V_ishl dX4_toWhom_85 ?_
          refine V_ior dX4_toWhom_86 ?_
          refine V_istore dX4_toWhom_87 (by decide) rfl ?_
          refine V_iinc dX4_toWhom_89 rfl (by decide) rfl ?_
          refine V_goto (tgt := 40) dX4_toWhom_92 (by decide) ?_
          exact ih (i + 1) _ (by omega) (by omega) hp
set_option maxRecDepth 100000 in
set_option maxHeartbeats 4000000 in
theorem c_X4_toWhom (G : Gb) (l : Launch) {w : Wd} {c : Int} {σ : SG} (h : SC c σ w) {b : Int} (hb : inR b) {t : Int} (ht : inR t) {v : Int} (hv : inR v) : Ci G l yX4_toWhom mX4_toWhom [.ref (gA G 0), .int (iZ b), .int (iZ t), .int (iZ v)] w (fun z w' => z = aWhom σ b t v ∧ SC (c + 1) σ w' ∧ frC w w') := by
  refine V_start 2 (by decide) rfl rfl (Nat.le_of_ble_eq_true rfl) ?_
  show V G l mX4_toWhom _ 0 [some (.ref (gA G 0)), some (.int (iZ b)), some (.int (iZ t)), some (.int (iZ v)), none, none] [] w
  have hT := h.2.1.2
  have hO := h.2.2.1.2.1
  have kt := hT.1
  have kn := hO.n
  have eN := h.tN
  have eL := h.aN
  refine V_iload_n dX4_toWhom_0 rfl ?_
  refine V_iconst dX4_toWhom_1 ?_
  refine V_icmp_lt (tgt := 31) dX4_toWhom_2 (by decide) (by omega) (by omega) (fun h2 => ?_) (fun h2 => ?_)
  · refine V_bipush dX4_toWhom_31 rfl ?_
    exact V_iret dX4_toWhom_33 rfl (by rw [aWhom, if_neg (by omega)]; exact ⟨rfl, h.same, fun _ _ _ => rfl⟩)
  · refine V_iload_n dX4_toWhom_5 rfl ?_
    refine V_bipush dX4_toWhom_6 rfl ?_
    refine V_icmp_gt (tgt := 31) dX4_toWhom_8 (by decide) (by omega) (by omega) (fun h8 => ?_) (fun h8 => ?_)
    · refine V_bipush dX4_toWhom_31 rfl ?_
      exact V_iret dX4_toWhom_33 rfl (by rw [aWhom, if_neg (by omega)]; exact ⟨rfl, h.same, fun _ _ _ => rfl⟩)
    · refine V_iload_n dX4_toWhom_11 rfl ?_
      refine V_if_lt (tgt := 31) dX4_toWhom_12 (by decide) (by omega) (fun h12 => ?_) (fun h12 => ?_)
      · refine V_bipush dX4_toWhom_31 rfl ?_
        exact V_iret dX4_toWhom_33 rfl (by rw [aWhom, if_neg (by omega)]; exact ⟨rfl, h.same, fun _ _ _ => rfl⟩)
      · refine V_iload_n dX4_toWhom_15 rfl ?_
        refine V_bipush dX4_toWhom_16 rfl ?_
        refine V_icmp_gt (tgt := 31) dX4_toWhom_18 (by decide) (by omega) (by omega) (fun h18 => ?_) (fun h18 => ?_)
        · refine V_bipush dX4_toWhom_31 rfl ?_
          exact V_iret dX4_toWhom_33 rfl (by rw [aWhom, if_neg (by omega)]; exact ⟨rfl, h.same, fun _ _ _ => rfl⟩)
        · refine V_iload_n dX4_toWhom_21 rfl ?_
          refine V_if_lt (tgt := 31) dX4_toWhom_22 (by decide) (by omega) (fun h22 => ?_) (fun h22 => ?_)
          · refine V_bipush dX4_toWhom_31 rfl ?_
            exact V_iret dX4_toWhom_33 rfl (by rw [aWhom, if_neg (by omega)]; exact ⟨rfl, h.same, fun _ _ _ => rfl⟩)
          · refine V_iload_n dX4_toWhom_25 rfl ?_
            refine V_ldc (n := 1000000) dX4_toWhom_26 (List.mem_of_getElem? (i := 1) rfl) ?_
            refine V_icmp_le (tgt := 34) dX4_toWhom_28 (by decide) (by omega) (by omega) (fun h28 => ?_) (fun h28 => ?_)
            · refine V_iconst dX4_toWhom_34 ?_
              refine V_istore dX4_toWhom_35 (by decide) rfl ?_
              refine V_iconst dX4_toWhom_37 ?_
              refine V_istore dX4_toWhom_38 (by decide) rfl ?_
              refine l_X4_toWhom G l (by omega) (by omega) (by omega) h σ.2.1.1.toNat 0 0 (by omega) (by omega) ?_
              rw [aWhom, if_pos (by omega)]
              exact ⟨rfl, h.same, fun _ _ _ => rfl⟩
            · refine V_bipush dX4_toWhom_31 rfl ?_
              exact V_iret dX4_toWhom_33 rfl (by rw [aWhom, if_neg (by omega)]; exact ⟨rfl, h.same, fun _ _ _ => rfl⟩)
set_option maxRecDepth 100000 in
set_option maxHeartbeats 4000000 in
theorem l_X4_anyFails (G : Gb) (l : Launch) {w0 : Wd} {c : Int} {σ : SG} (h : SC c σ w0) {hd t : Int} (kh : 0 ≤ hd ∧ hd ≤ 99) (ht : t ≤ 99) (hc : c ≤ 100000) {Post : Int → Wd → Prop} : ∀ (k : Nat) (i : Int) (w : Wd) (a : AS), 0 ≤ i → i + k = t → okC c w 29 → cAS w 29 = a → frm 29 w0 w → w 29 0 + k ≤ 20000 → (∀ w', frm 29 w0 w' → Post (if afN σ.2.1.2.1 σ.2.1.2.2.2.1 hd k a σ.2.2.1.2.1 = true then 1 else 0) w') → V G l mX4_anyFails (Qi G Post) 13 [some (.ref (gA G 0)), some (.int (iZ hd)), some (.int (iZ t)), some (.int (iZ i))] [] w := by
  intro k
  induction k with
  | zero =>
    intro i w a h0 h1 ho he hf hy hp
    refine V_iload_n dX4_anyFails_13 rfl ?_
    refine V_iload_n dX4_anyFails_14 rfl ?_
    refine V_icmp_ge (tgt := 56) dX4_anyFails_15 (by decide) (by omega) (by omega) (fun h15 => ?_) (fun h15 => ?_)
    · refine V_iconst dX4_anyFails_56 ?_
      exact V_zret dX4_anyFails_57 rfl (by omega) (hp w hf)
    · exact absurd h15 (by omega)
  | succ k ih =>
    intro i w a h0 h1 ho he hf hy hp
    have hs := frm.k h hf
    have hk := ho.day
    refine V_iload_n dX4_anyFails_13 rfl ?_
    refine V_iload_n dX4_anyFails_14 rfl ?_
    refine V_icmp_ge (tgt := 56) dX4_anyFails_15 (by decide) (by omega) (by omega) (fun h15 => ?_) (fun h15 => ?_)
    · exact absurd h15 (by omega)
    · refine V_aload_n dX4_anyFails_18 rfl ?_
      refine V_getR (ci := 4) (j := 3) dX4_anyFails_19 s_0 rfl rfl i_X4_anyFails_X4 (by decide) f_X4_anyFails_30 ?_
      refine V_aload_n dX4_anyFails_22 rfl ?_
      refine V_getR (ci := 4) (j := 1) dX4_anyFails_23 s_0 rfl rfl i_X4_anyFails_X4 (by decide) f_X4_anyFails_19 ?_
      refine V_iload_n dX4_anyFails_26 rfl ?_
      refine V_iconst dX4_anyFails_27 ?_
      refine V_vV3 dX4_anyFails_28 o_X4_anyFails_148 s_29 rfl (Nat.le_of_ble_eq_true rfl) (c_X1_passDays G l (b := 29) (d := 5) (q := 1) (Or.inr (Or.inl rfl)) (Or.inl rfl) kh (by omega) ho hs.2.1.2 (by omega)) ?_
      rintro w2 ⟨x1, x2, x3⟩
      have x4 : cAS w2 29 = dyS σ.2.1.2.1 σ.2.1.2.2.2.1 hd a := by
        rw [x2, he]
        show dysS (gl w 6 0 6) (gl w 8 0 6) _ 1 a = _
        rw [hs.tK', hs.tR']
        rfl
      have e0 : w2 29 0 = w 29 0 + 1 := by
        rw [show w2 29 0 = (cAS w2 29).1 from rfl, x4, show w 29 0 = (cAS w 29).1 from rfl, he]
        rfl
      have hs2 := frm.k hs x3
      have e9 : w2 29 9 = (dyS σ.2.1.2.1 σ.2.1.2.2.2.1 hd a).2.1 := congrArg (fun t : AS => t.2.1) x4
      have eX := hs2.aX
      have b9 : 0 ≤ w2 29 9 ∧ w2 29 9 ≤ c := by have := x1.2.2.1; exact ⟨this.1, by have q := this.2; show (cAS w2 29).2.1 ≤ c; omega⟩
      have b8 : 0 ≤ w2 21 9 ∧ w2 21 9 ≤ c := by have := hs2.2.2.1.2.1.2.2.1; exact ⟨this.1, by have q := this.2; show (cAS w2 21).2.1 ≤ c; omega⟩
      refine V_aload_n dX4_anyFails_31 rfl ?_
      refine V_getR (ci := 4) (j := 3) dX4_anyFails_32 s_0 rfl rfl i_X4_anyFails_X4 (by decide) f_X4_anyFails_30 ?_
      refine V_getI (ci := 1) (j := 9) (ji := 9) dX4_anyFails_35 s_29 rfl rfl i_X4_anyFails_X1 (by decide) f_X4_anyFails_170 rfl ?_
      refine V_aload_n dX4_anyFails_38 rfl ?_
      refine V_getR (ci := 4) (j := 2) dX4_anyFails_39 s_0 rfl rfl i_X4_anyFails_X4 (by decide) f_X4_anyFails_26 ?_
      refine V_getI (ci := 1) (j := 9) (ji := 9) dX4_anyFails_42 s_21 rfl rfl i_X4_anyFails_X1 (by decide) f_X4_anyFails_170 rfl ?_
      refine V_icmp_le (tgt := 50) dX4_anyFails_45 (by decide) (by omega) (by omega) (fun h45 => ?_) (fun h45 => ?_)
      · refine V_iinc dX4_anyFails_50 rfl (by decide) rfl ?_
        refine V_goto (tgt := 13) dX4_anyFails_53 (by decide) ?_
        refine ih (i + 1) w2 _ (by omega) (by omega) x1 x4 (hf.tr x3) (by omega) (fun w' h5 => ?_)
        have q := hp w' h5
        rw [show afN σ.2.1.2.1 σ.2.1.2.2.2.1 hd (k + 1) a σ.2.2.1.2.1 = afN σ.2.1.2.1 σ.2.1.2.2.2.1 hd k (dyS σ.2.1.2.1 σ.2.1.2.2.2.1 hd a) σ.2.2.1.2.1 by rw [afN, if_neg (by omega)]] at q
        exact q
      · refine V_iconst dX4_anyFails_48 ?_
        exact V_zret dX4_anyFails_49 rfl (by omega) (by have q := hp w2 (hf.tr x3); rw [show afN σ.2.1.2.1 σ.2.1.2.2.2.1 hd (k + 1) a σ.2.2.1.2.1 = true by rw [afN, if_pos (by omega)]] at q; exact q)
set_option maxRecDepth 100000 in
set_option maxHeartbeats 4000000 in
theorem c_X4_anyFails (G : Gb) (l : Launch) {w : Wd} {c : Int} {σ : SG} (h : SC c σ w) {hd t : Int} (kh : 0 ≤ hd ∧ hd ≤ 99) (ht : 1 ≤ t ∧ t ≤ 99) (hc : c ≤ 100000) : Ci G l yX4_anyFails mX4_anyFails [.ref (gA G 0), .int (iZ hd), .int (iZ t)] w (fun z w' => z = (if afS σ t hd = true then 1 else 0) ∧ frm 29 w w') := by
  refine V_start 1 (by decide) rfl rfl (Nat.le_of_ble_eq_true rfl) ?_
  show V G l mX4_anyFails _ 0 [some (.ref (gA G 0)), some (.int (iZ hd)), some (.int (iZ t)), none] [] w
  refine V_aload_n dX4_anyFails_0 rfl ?_
  refine V_getR (ci := 4) (j := 3) dX4_anyFails_1 s_0 rfl rfl i_X4_anyFails_X4 (by decide) f_X4_anyFails_30 ?_
  refine V_aload_n dX4_anyFails_4 rfl ?_
  refine V_getR (ci := 4) (j := 2) dX4_anyFails_5 s_0 rfl rfl i_X4_anyFails_X4 (by decide) f_X4_anyFails_26 ?_
  refine V_vV1 dX4_anyFails_8 o_X4_anyFails_160 s_29 rfl (Nat.le_of_ble_eq_true rfl) (c_X1_copyFrom G l (b := 29) (b2 := 21) (Or.inr (Or.inl rfl)) (Or.inl rfl) (by omega) h.2.2.1.2.1) ?_
  rintro w1 ⟨y1, y2, y3⟩
  have e0 : w1 29 0 = w 21 0 := congrArg (fun t : AS => t.1) y2
  have k9 := h.2.2.1.2.2
  refine V_iconst dX4_anyFails_11 ?_
  refine V_istore_n dX4_anyFails_12 (by decide) rfl ?_
  exact l_X4_anyFails G l h kh (by omega) hc t.toNat 0 w1 _ (by omega) (by omega) y1 (y2.trans h.2.2.1.1) y3 (by omega) (fun w2 h5 => ⟨rfl, h5⟩)
set_option maxRecDepth 100000 in
set_option maxHeartbeats 4000000 in
theorem l_X4_enough (G : Gb) (l : Launch) {w0 : Wd} {c : Int} {σ : SG} (h : SC c σ w0) {t : Int} (ht : 1 ≤ t ∧ t ≤ 99) (hc : c ≤ 100000) {Post : Int → Wd → Prop} : ∀ (k : Nat) (lo hi st : Int) (m : Option Value) (w : Wd), 0 ≤ st → st + k = 99 → 0 ≤ lo → lo ≤ hi → hi ≤ 99 → frm 29 w0 w → (∀ w', frm 29 w0 w' → Post (enN (afS σ t) k lo hi) w') → V G l mX4_enough (Qi G Post) 34 [some (.ref (gA G 0)), some (.int (iZ t)), some (.int (iZ lo)), some (.int (iZ hi)), some (.int (iZ st)), m] [] w := by
  intro k
  induction k with
  | zero =>
    intro lo hi st m w g0 g1 g2 g3 g4 hf hp
    refine V_iload dX4_enough_34 rfl ?_
    refine V_bipush dX4_enough_36 rfl ?_
    refine V_icmp_ge (tgt := 80) dX4_enough_38 (by decide) (by omega) (by omega) (fun h38 => ?_) (fun h38 => ?_)
    · refine V_iload_n dX4_enough_80 rfl ?_
      exact V_iret dX4_enough_81 rfl (hp w hf)
    · exact absurd h38 (by omega)
  | succ k ih =>
    intro lo hi st m w g0 g1 g2 g3 g4 hf hp
    have hs := frm.k h hf
    refine V_iload dX4_enough_34 rfl ?_
    refine V_bipush dX4_enough_36 rfl ?_
    refine V_icmp_ge (tgt := 80) dX4_enough_38 (by decide) (by omega) (by omega) (fun h38 => ?_) (fun h38 => ?_)
    · exact absurd h38 (by omega)
    · refine V_iload_n dX4_enough_41 rfl ?_
      refine V_iload_n dX4_enough_42 rfl ?_
      refine V_icmp_ge (tgt := 80) dX4_enough_43 (by decide) (by omega) (by omega) (fun h43 => ?_) (fun h43 => ?_)
      · refine V_iload_n dX4_enough_80 rfl ?_
        exact V_iret dX4_enough_81 rfl (by have q := hp w hf; rw [enN, if_neg (by omega)] at q; exact q)
      · refine V_iload_n dX4_enough_46 rfl ?_
        refine V_iload_n dX4_enough_47 rfl ?_
        refine V_iadd dX4_enough_48 ?_
        refine V_iconst dX4_enough_49 ?_
        refine V_idiv dX4_enough_50 (by omega) (by omega) ?_
        refine V_istore dX4_enough_51 (by decide) rfl ?_
        refine V_aload_n dX4_enough_53 rfl ?_
        refine V_iload dX4_enough_54 rfl ?_
        refine V_iload_n dX4_enough_56 rfl ?_
        refine V_iV2 dX4_enough_57 o_X4_enough_183 s_0 rfl (Nat.le_of_ble_eq_true rfl) (c_X4_anyFails G l (hd := (lo + hi) / 2) (t := t) hs (by omega) (by omega) hc) ?_
        rintro z w1 ⟨hz, y3⟩
        have rz : z = 0 ∨ z = 1 := by rw [hz]; split <;> simp
        refine V_if_eq (tgt := 71) dX4_enough_60 (by decide) (by omega) (fun h60 => ?_) (fun h60 => ?_)
        · have nf : ¬ afS σ t ((lo + hi) / 2) = true := fun q => by rw [if_pos q] at hz; omega
          refine V_iload dX4_enough_71 rfl ?_
          refine V_istore_n dX4_enough_73 (by decide) rfl ?_
          refine V_iinc dX4_enough_74 rfl (by decide) rfl ?_
          refine V_goto (tgt := 34) dX4_enough_77 (by decide) ?_
          first
            | exact ih _ _ _ _ w1 (by omega) (by omega) (by omega) (by omega) (by omega) (hf.tr y3) (fun w' h5 => by have q := hp w' h5; rw [enN, if_pos (by omega), if_pos yf] at q; exact q)
            | exact ih _ _ _ _ w1 (by omega) (by omega) (by omega) (by omega) (by omega) (hf.tr y3) (fun w' h5 => by have q := hp w' h5; rw [enN, if_pos (by omega), if_neg nf] at q; exact q)
        · have yf : afS σ t ((lo + hi) / 2) = true := by
            cases q : afS σ t ((lo + hi) / 2)
            · rw [q] at hz; simp at hz; omega
            · rfl
          refine V_iload dX4_enough_63 rfl ?_
          refine V_iconst dX4_enough_65 ?_
          refine V_iadd dX4_enough_66 ?_
          refine V_istore_n dX4_enough_67 (by decide) rfl ?_
          refine V_goto (tgt := 74) dX4_enough_68 (by decide) ?_
          refine V_iinc dX4_enough_74 rfl (by decide) rfl ?_
          refine V_goto (tgt := 34) dX4_enough_77 (by decide) ?_
          first
            | exact ih _ _ _ _ w1 (by omega) (by omega) (by omega) (by omega) (by omega) (hf.tr y3) (fun w' h5 => by have q := hp w' h5; rw [enN, if_pos (by omega), if_pos yf] at q; exact q)
            | exact ih _ _ _ _ w1 (by omega) (by omega) (by omega) (by omega) (by omega) (hf.tr y3) (fun w' h5 => by have q := hp w' h5; rw [enN, if_pos (by omega), if_neg nf] at q; exact q)
set_option maxRecDepth 100000 in
set_option maxHeartbeats 4000000 in
theorem c_X4_enough (G : Gb) (l : Launch) {w : Wd} {c : Int} {σ : SG} (h : SC c σ w) (hc : c ≤ 100000) {t : Int} (ht : inR t) : Ci G l yX4_enough mX4_enough [.ref (gA G 0), .int (iZ t)] w (fun z w' => z = aEnough σ t ∧ SC (c + 1) σ w' ∧ frC w w') := by
  refine V_start 4 (by decide) rfl rfl (Nat.le_of_ble_eq_true rfl) ?_
  show V G l mX4_enough _ 0 [some (.ref (gA G 0)), some (.int (iZ t)), none, none, none, none] [] w
  have hs := h
  refine V_iload_n dX4_enough_0 rfl ?_
  refine V_iconst dX4_enough_1 ?_
  refine V_icmp_lt (tgt := 11) dX4_enough_2 (by decide) (by omega) (by omega) (fun h2 => ?_) (fun h2 => ?_)
  · refine V_bipush dX4_enough_11 rfl ?_
    exact V_iret dX4_enough_13 rfl (by rw [aEnough, if_neg (by omega)]; exact ⟨rfl, h.same, fun _ _ _ => rfl⟩)
  · refine V_iload_n dX4_enough_5 rfl ?_
    refine V_bipush dX4_enough_6 rfl ?_
    refine V_icmp_le (tgt := 14) dX4_enough_8 (by decide) (by omega) (by omega) (fun h8 => ?_) (fun h8 => ?_)
    · refine V_aload_n dX4_enough_14 rfl ?_
      refine V_bipush dX4_enough_15 rfl ?_
      refine V_iload_n dX4_enough_17 rfl ?_
      refine V_iV2 dX4_enough_18 o_X4_enough_183 s_0 rfl (Nat.le_of_ble_eq_true rfl) (c_X4_anyFails G l (hd := 99) (t := t) hs (by omega) (by omega) hc) ?_
      rintro z w1 ⟨hz, y3⟩
      have rz : z = 0 ∨ z = 1 := by rw [hz]; split <;> simp
      refine V_if_eq (tgt := 26) dX4_enough_21 (by decide) (by omega) (fun h21 => ?_) (fun h21 => ?_)
      · have nf : ¬ afS σ t 99 = true := fun q => by rw [if_pos q] at hz; omega
        refine V_iconst dX4_enough_26 ?_
        refine V_istore_n dX4_enough_27 (by decide) rfl ?_
        refine V_bipush dX4_enough_28 rfl ?_
        refine V_istore_n dX4_enough_30 (by decide) rfl ?_
        refine V_iconst dX4_enough_31 ?_
        refine V_istore dX4_enough_32 (by decide) rfl ?_
        refine l_X4_enough G l h (by omega) hc 99 0 99 0 none w1 (by omega) (by omega) (by omega) (by omega) (by omega) y3 (fun w' h5 => ?_)
        rw [aEnough, if_pos (by omega), if_neg nf]
        exact ⟨rfl, (frm.k h h5).same, h5.c9⟩
      · have yf : afS σ t 99 = true := by
          cases q : afS σ t 99
          · rw [q] at hz; simp at hz; omega
          · rfl
        refine V_iconst dX4_enough_24 ?_
        exact V_iret dX4_enough_25 rfl (by rw [aEnough, if_pos (by omega), if_pos yf]; exact ⟨rfl, (frm.k h y3).same, y3.c9⟩)
    · refine V_bipush dX4_enough_11 rfl ?_
      exact V_iret dX4_enough_13 rfl (by rw [aEnough, if_neg (by omega)]; exact ⟨rfl, h.same, fun _ _ _ => rfl⟩)

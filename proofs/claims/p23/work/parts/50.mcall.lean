/-! ===== 50 the reference's calls: what is foretold ===== -/
theorem tr_ok {c : Int} {σ : SG} {w : Wd} (h : SM c σ w) : okM c (cpM w 0 225 0) 225 ∧ mAS (cpM w 0 225 0) 225 = σ.2.2.1 ∧ frO 225 w (cpM w 0 225 0) := by
  obtain ⟨a1, a2⟩ := okM_eq h.2.2.1.2.1 (w' := cpM w 0 225 0) (o' := 225) (fun j q0 q1 => by rw [cpM_at ⟨q0, q1⟩])
  exact ⟨a1, a2.trans h.2.2.1.1, fun k j q => cpM_ne (by omega)⟩
theorem frO.k {c : Int} {σ : SG} {w w' : Wd} (h : SM c σ w) (g : frO 225 w w') : SM c σ w' := h.keep (by omega) (fun k j q => g k j (by omega))
theorem frO.tr {o : Int} {w w1 w2 : Wd} (h : frO o w w1) (g : frO o w1 w2) : frO o w w2 := fun k j q => (g k j q).trans (h k j q)
/-- the row that is tried, n days on, with so many hands -/
def tdR (c : Int) (σ : SG) (v : Int) (n : Nat) (w w' : Wd) : Prop := okM c w' 225 ∧ mAS w' 225 = dysS σ.2.1.2.1 σ.2.1.2.2.2.1 v n σ.2.2.1 ∧ frO 225 w w'
set_option maxRecDepth 100000 in
set_option maxHeartbeats 4000000 in
theorem l_X5_tryDays (G : Gb) (l : Launch) {c t v : Int} (rv : 0 ≤ v ∧ v ≤ 99) (ht : inR t) {Post : Wd → Prop} : ∀ (m : Nat) (i : Int) (w : Wd), 0 ≤ i → i + m = t → okM c w 225 → okTm w → w 72 225 + m ≤ 20000 → (∀ w', dyM c 225 v m w w' → Post w') → V G l mX5_tryDays (Qv G Post) 10 [some (.ref (gA G 71)), some (.int (iZ t)), some (.int (iZ v)), some (.int (iZ i))] [] w := by
  intro m
  induction m with
  | zero =>
    intro i w h0 h1 hO hT hy hp
    refine V_iload_n dX5_tryDays_10 rfl ?_
    refine V_iload_n dX5_tryDays_11 rfl ?_
    refine V_icmp_ge (tgt := 29) dX5_tryDays_12 (by decide) (by omega) (by omega) (fun h12 => ?_) (fun h12 => ?_)
    · exact V_vret dX5_tryDays_29 rfl (hp _ (dyM_0 hO))
    · exact absurd h12 (by omega)
  | succ m ih =>
    intro i w h0 h1 hO hT hy hp
    refine V_iload_n dX5_tryDays_10 rfl ?_
    refine V_iload_n dX5_tryDays_11 rfl ?_
    refine V_icmp_ge (tgt := 29) dX5_tryDays_12 (by decide) (by omega) (by omega) (fun h12 => ?_) (fun h12 => ?_)
    · exact absurd h12 (by omega)
    · refine V_aload_n dX5_tryDays_15 rfl ?_
      refine V_sipush dX5_tryDays_16 rfl ?_
      refine V_iload_n dX5_tryDays_19 rfl ?_
      refine V_vV2 dX5_tryDays_20 o_X5_tryDays_174 s_71 rfl (Nat.le_of_ble_eq_true rfl) (c_X5_day G l (c := c) (o := 225) (by omega) rv hO hT (by omega)) ?_
      rintro w1 x1
      have e1 := dyM_day x1
      refine V_iinc dX5_tryDays_23 rfl (by decide) rfl ?_
      refine V_goto (tgt := 10) dX5_tryDays_26 (by decide) ?_
      exact ih (i + 1) w1 (by omega) (by omega) x1.1 (okTm_frO (by omega) hT x1.2.2) (by omega) (fun w' h => hp w' (dyM_s (by omega) x1 h))
set_option maxRecDepth 100000 in
set_option maxHeartbeats 4000000 in
theorem c_X5_tryDays (G : Gb) (l : Launch) {w : Wd} {c : Int} {σ : SG} (h : SM c σ w) {t v : Int} (ht : 0 ≤ t ∧ t ≤ 99) (rv : 0 ≤ v ∧ v ≤ 99) : Cv G l yX5_tryDays mX5_tryDays [.ref (gA G 71), .int (iZ t), .int (iZ v)] w (fun w' => tdR c σ v t.toNat w w') := by
  refine V_start 1 (by decide) rfl rfl (Nat.le_of_ble_eq_true rfl) ?_
  show V G l mX5_tryDays _ 0 [some (.ref (gA G 71)), some (.int (iZ t)), some (.int (iZ v)), none] [] w
  obtain ⟨a1, a2, a3⟩ := tr_ok h
  have k9 := h.2.2.1.2.2
  have e0 : cpM w 0 225 0 72 225 = w 72 0 := (congrArg (fun t : AS => t.1) a2).trans h.aD.symm
  refine V_aload_n dX5_tryDays_0 rfl ?_
  refine V_iconst dX5_tryDays_1 ?_
  refine V_sipush dX5_tryDays_2 rfl ?_
  refine V_vV2 dX5_tryDays_5 o_X5_tryDays_132 s_71 rfl (Nat.le_of_ble_eq_true rfl) (c_X5_copy G l (a := 0) (b := 225) (by omega) (by omega) (by omega)) ?_
  rintro _ rfl
  refine V_iconst dX5_tryDays_8 ?_
  refine V_istore_n dX5_tryDays_9 (by decide) rfl ?_
  refine l_X5_tryDays G l (c := c) rv (by omega) t.toNat 0 _ (by omega) (by omega) a1 (okTm_frO (by omega) h.2.1.2.1 a3) (by omega) (fun w' x => ?_)
  have h2 := frO.k h a3
  refine ⟨x.1, ?_, a3.tr x.2.2⟩
  rw [x.2.1, a2, h2.tK', h2.tR']
set_option maxRecDepth 100000 in
set_option maxHeartbeats 4000000 in
theorem c_X5_later (G : Gb) (l : Launch) {w : Wd} {c : Int} {σ : SG} (h : SM c σ w) {i : Int} (hi : inR i) {t : Int} (ht : inR t) : Ci G l yX5_later mX5_later [.ref (gA G 71), .int (iZ i), .int (iZ t)] w (fun z w' => z = aLater σ i t ∧ SM (c + 1) σ w' ∧ frM w w') := by
  refine V_start 0 (by decide) rfl rfl (Nat.le_of_ble_eq_true rfl) ?_
  show V G l mX5_later _ 0 [some (.ref (gA G 71)), some (.int (iZ i)), some (.int (iZ t))] [] w
  have hT := h.2.1.2.1
  have hO := h.2.2.1.2.1
  have kt := hT.1
  have kn : 0 ≤ w 72 14 ∧ w 72 14 ≤ 12 := hO.n
  have eN := h.tN
  have eL := h.aN
  refine V_aload_n dX5_later_0 rfl ?_
  refine V_iload_n dX5_later_1 rfl ?_
  refine V_iV1 dX5_later_2 o_X5_later_166 s_71 rfl (Nat.le_of_ble_eq_true rfl) (c_X5_isTree G l (by omega) kt) ?_
  rintro z _ ⟨hz, rfl⟩
  have rz : z = 0 ∨ z = 1 := by rw [hz]; split <;> simp
  refine V_if_ne (tgt := 11) dX5_later_5 (by decide) (by omega) (fun h5 => ?_) (fun h5 => ?_)
  · have yz : hasS σ.2.1 i := by
      by_cases q9 : 0 ≤ i ∧ i < w 71 10
      · exact ⟨q9.1, by omega⟩
      · rw [if_neg q9] at hz; omega
    have bz := yz.2
    have dz := yz.1
    refine V_iload_n dX5_later_11 rfl ?_
    refine V_i2l dX5_later_12 (iZ_l (by omega)) ?_
    refine V_lconst (v := lZ 0) dX5_later_13 rfl ?_
    refine V_ldc2 (v := (lZ 99)) dX5_later_14 (List.mem_of_getElem? (i := 1) rfl) ?_
    refine V_iS3 dX5_later_17 o_X5_later_50 (Nat.le_of_ble_eq_true rfl) (c_X5_in G l (by omega) (by omega) (by omega)) ?_
    rintro x _ ⟨hx, rfl⟩
    have rx : x = 0 ∨ x = 1 := by rw [hx]; split <;> simp
    refine V_if_ne (tgt := 26) dX5_later_20 (by decide) (by omega) (fun h20 => ?_) (fun h20 => ?_)
    · have yx : 0 ≤ t ∧ t ≤ 99 := by
        by_cases q9 : 0 ≤ t ∧ t ≤ 99
        · exact q9
        · rw [if_neg q9] at hx; omega
      refine V_aload_n dX5_later_26 rfl ?_
      refine V_iload_n dX5_later_27 rfl ?_
      refine V_aload_n dX5_later_28 rfl ?_
      refine V_getI (ci := 5) (j := 13) (ji := 13) dX5_later_29 s_71 rfl rfl i_X5_later_X5 (by decide) f_X5_later_38 rfl ?_
      have kh : 0 ≤ w 71 13 ∧ w 71 13 ≤ 99 := hT.2.2.1
      refine V_vV2 dX5_later_32 o_X5_later_182 s_71 rfl (Nat.le_of_ble_eq_true rfl) (c_X5_tryDays G l h (t := t) (by omega) kh) ?_
      rintro w' ⟨y1, y2, y3⟩
      rw [h.tH] at y2
      have e9 : w' 72 226 = (fS σ (t).toNat).2.1 := congrArg (fun t : AS => t.2.1) y2
      have eL9 : mLs w' 225 = (fS σ (t).toNat).2.2.2.2 := congrArg (fun t : AS => t.2.2.2.2) y2
      refine V_aload_n dX5_later_35 rfl ?_
      refine V_sipush dX5_later_36 rfl ?_
      refine V_iload_n dX5_later_39 rfl ?_
      refine V_iV2 dX5_later_40 o_X5_later_140 s_71 rfl (Nat.le_of_ble_eq_true rfl) (c_X5_owedTo G l (o := 225) (by omega) (by omega) y1.n (fun i g0 g1 => by have q := y1.ln g0 g1; omega)) ?_
      rintro _ _ ⟨rfl, rfl⟩
      exact V_iret dX5_later_43 rfl ⟨by rw [aLater, if_pos yz, if_pos yx, ← eL9], (frO.k h y3).same, y3.m⟩
    · have yx : ¬ (0 ≤ t ∧ t ≤ 99) := fun q9 => by rw [if_pos q9] at hx; omega
      refine V_bipush dX5_later_23 rfl ?_
      exact V_iret dX5_later_25 rfl (by rw [aLater, if_pos yz, if_neg yx]; exact ⟨rfl, h.same, fun _ _ _ => rfl⟩)
  · have yz : ¬ hasS σ.2.1 i := fun q9 => by rw [if_pos ⟨q9.1, by have := q9.2; omega⟩] at hz; omega
    refine V_bipush dX5_later_8 rfl ?_
    exact V_iret dX5_later_10 rfl (by rw [aLater, if_neg yz]; exact ⟨rfl, h.same, fun _ _ _ => rfl⟩)
set_option maxRecDepth 100000 in
set_option maxHeartbeats 4000000 in
theorem c_X5_all (G : Gb) (l : Launch) {w : Wd} {c : Int} {σ : SG} (h : SM c σ w) {t : Int} (ht : inR t) {q : Int} (hq : inR q) : Ci G l yX5_all mX5_all [.ref (gA G 71), .int (iZ t), .int (iZ q)] w (fun z w' => z = aAll σ t q ∧ SM (c + 1) σ w' ∧ frM w w') := by
  refine V_start 0 (by decide) rfl rfl (Nat.le_of_ble_eq_true rfl) ?_
  show V G l mX5_all _ 0 [some (.ref (gA G 71)), some (.int (iZ t)), some (.int (iZ q))] [] w
  have hT := h.2.1.2.1
  have hO := h.2.2.1.2.1
  have kt := hT.1
  have kn : 0 ≤ w 72 14 ∧ w 72 14 ≤ 12 := hO.n
  have eN := h.tN
  have eL := h.aN
  refine V_iload_n dX5_all_0 rfl ?_
  refine V_i2l dX5_all_1 (iZ_l (by omega)) ?_
  refine V_lconst (v := lZ 0) dX5_all_2 rfl ?_
  refine V_ldc2 (v := (lZ 99)) dX5_all_3 (List.mem_of_getElem? (i := 1) rfl) ?_
  refine V_iS3 dX5_all_6 o_X5_all_50 (Nat.le_of_ble_eq_true rfl) (c_X5_in G l (by omega) (by omega) (by omega)) ?_
  rintro z _ ⟨hz, rfl⟩
  have rz : z = 0 ∨ z = 1 := by rw [hz]; split <;> simp
  refine V_if_eq (tgt := 22) dX5_all_9 (by decide) (by omega) (fun h9 => ?_) (fun h9 => ?_)
  · have yz : ¬ (0 ≤ t ∧ t ≤ 99) := fun q9 => by rw [if_pos q9] at hz; omega
    have na : ¬ (0 ≤ t ∧ t ≤ 99 ∧ 0 ≤ q ∧ q ≤ 1) := fun q9 => yz ⟨q9.1, q9.2.1⟩
    refine V_bipush dX5_all_22 rfl ?_
    exact V_iret dX5_all_24 rfl (by rw [aAll, if_neg na]; exact ⟨rfl, h.same, fun _ _ _ => rfl⟩)
  · have yz : 0 ≤ t ∧ t ≤ 99 := by
      by_cases q9 : 0 ≤ t ∧ t ≤ 99
      · exact q9
      · rw [if_neg q9] at hz; omega
    refine V_iload_n dX5_all_12 rfl ?_
    refine V_i2l dX5_all_13 (iZ_l (by omega)) ?_
    refine V_lconst (v := lZ 0) dX5_all_14 rfl ?_
    refine V_lconst (v := lZ 1) dX5_all_15 rfl ?_
    refine V_iS3 dX5_all_16 o_X5_all_50 (Nat.le_of_ble_eq_true rfl) (c_X5_in G l (by omega) (by omega) (by omega)) ?_
    rintro x _ ⟨hx, rfl⟩
    have rx : x = 0 ∨ x = 1 := by rw [hx]; split <;> simp
    refine V_if_ne (tgt := 25) dX5_all_19 (by decide) (by omega) (fun h19 => ?_) (fun h19 => ?_)
    · have yx : 0 ≤ q ∧ q ≤ 1 := by
        by_cases q9 : 0 ≤ q ∧ q ≤ 1
        · exact q9
        · rw [if_neg q9] at hx; omega
      refine V_aload_n dX5_all_25 rfl ?_
      refine V_iload_n dX5_all_26 rfl ?_
      refine V_aload_n dX5_all_27 rfl ?_
      refine V_getI (ci := 5) (j := 13) (ji := 13) dX5_all_28 s_71 rfl rfl i_X5_all_X5 (by decide) f_X5_all_38 rfl ?_
      have kh : 0 ≤ w 71 13 ∧ w 71 13 ≤ 99 := hT.2.2.1
      refine V_vV2 dX5_all_31 o_X5_all_182 s_71 rfl (Nat.le_of_ble_eq_true rfl) (c_X5_tryDays G l h (t := t) (by omega) kh) ?_
      rintro w' ⟨y1, y2, y3⟩
      rw [h.tH] at y2
      have e9 : w' 72 226 = (fS σ (t).toNat).2.1 := congrArg (fun t : AS => t.2.1) y2
      have eL9 : mLs w' 225 = (fS σ (t).toNat).2.2.2.2 := congrArg (fun t : AS => t.2.2.2.2) y2
      refine V_iload_n dX5_all_34 rfl ?_
      refine V_if_ne (tgt := 48) dX5_all_35 (by decide) (by omega) (fun h35 => ?_) (fun h35 => ?_)
      · refine V_aload_n dX5_all_48 rfl ?_
        refine V_getR (ci := 5) (j := 0) dX5_all_49 s_71 rfl rfl i_X5_all_X5 (by decide) f_X5_all_7 ?_
        refine V_sipush dX5_all_52 rfl ?_
        refine V_iald dX5_all_55 s_72 (by omega) ?_
        exact V_iret dX5_all_56 rfl ⟨by rw [aAll, if_pos (by omega)]; first | (rw [if_pos (by omega), ← eL9]) | (rw [if_neg (by omega)]; exact e9), (frO.k h y3).same, y3.m⟩
      · refine V_aload_n dX5_all_38 rfl ?_
        refine V_sipush dX5_all_39 rfl ?_
        refine V_iV1 dX5_all_42 o_X5_all_185 s_71 rfl (Nat.le_of_ble_eq_true rfl) (c_X5_owedAll G l (o := 225) (by omega) y1.n) ?_
        rintro _ _ ⟨rfl, rfl⟩
        refine V_goto (tgt := 56) dX5_all_45 (by decide) ?_
        exact V_iret dX5_all_56 rfl ⟨by rw [aAll, if_pos (by omega)]; first | (rw [if_pos (by omega), ← eL9]) | (rw [if_neg (by omega)]; exact e9), (frO.k h y3).same, y3.m⟩
    · have yx : ¬ (0 ≤ q ∧ q ≤ 1) := fun q9 => by rw [if_pos q9] at hx; omega
      have na : ¬ (0 ≤ t ∧ t ≤ 99 ∧ 0 ≤ q ∧ q ≤ 1) := fun q9 => yx q9.2.2
      refine V_bipush dX5_all_22 rfl ?_
      exact V_iret dX5_all_24 rfl (by rw [aAll, if_neg na]; exact ⟨rfl, h.same, fun _ _ _ => rfl⟩)
set_option maxRecDepth 100000 in
set_option maxHeartbeats 4000000 in
theorem l_X5_clear (G : Gb) (l : Launch) {w0 : Wd} {c : Int} {σ : SG} (h : SM c σ w0) {Post : Int → Wd → Prop} : ∀ (k : Nat) (t : Int) (w : Wd) (a : AS), 0 ≤ t → t + k = 999 → okM c w 225 → mAS w 225 = a → frO 225 w0 w → w 72 225 + k ≤ 20000 → (∀ w', frO 225 w0 w' → Post (clN σ.2.1.2.1 σ.2.1.2.2.2.1 σ.2.1.2.2.2.2.2.2.2 (k + 1) t a) w') → V G l mX5_clear (Qi G Post) 10 [some (.ref (gA G 71)), some (.int (iZ t))] [] w := by
  intro k
  induction k with
  | zero =>
    intro t w a h0 h1 ho he hf hy hp
    have hs := frO.k h hf
    have kn : 0 ≤ w 72 239 ∧ w 72 239 ≤ 12 := ho.n
    have kh : 0 ≤ w 71 13 ∧ w 71 13 ≤ 99 := hs.2.1.2.1.2.2.1
    have eL : ((a.2.2.2.2.length : Nat) : Int) = w 72 239 := by
      rw [← he]
      show (((mLs w 225).length : Nat) : Int) = _
      rw [mLs_len]
      show ((w 72 239).toNat : Int) = _
      omega
    have hk := ho.day
    refine V_iload_n dX5_clear_10 rfl ?_
    refine V_sipush dX5_clear_11 rfl ?_
    refine V_icmp_ge (tgt := 45) dX5_clear_14 (by decide) (by omega) (by omega) (fun h14 => ?_) (fun h14 => ?_)
    · refine V_aload_n dX5_clear_45 rfl ?_
      refine V_getR (ci := 5) (j := 0) dX5_clear_46 s_71 rfl rfl i_X5_clear_X5 (by decide) f_X5_clear_7 ?_
      refine V_sipush dX5_clear_49 rfl ?_
      refine V_iald dX5_clear_52 s_72 (by omega) ?_
      refine V_if_ne (tgt := 60) dX5_clear_53 (by decide) (by omega) (fun h53 => ?_) (fun h53 => ?_)
      · refine V_iconst dX5_clear_60 ?_
        exact V_iret dX5_clear_61 rfl (by have q := hp w hf; first | (rw [clN, if_pos (List.length_eq_zero_iff.mp (by omega))] at q; exact q) | (rw [clN, if_neg (fun q9 => by rw [q9] at eL; simp at eL; omega), clN] at q; exact q))
      · refine V_iload_n dX5_clear_56 rfl ?_
        refine V_goto (tgt := 61) dX5_clear_57 (by decide) ?_
        exact V_iret dX5_clear_61 rfl (by have q := hp w hf; first | (rw [clN, if_pos (List.length_eq_zero_iff.mp (by omega))] at q; exact q) | (rw [clN, if_neg (fun q9 => by rw [q9] at eL; simp at eL; omega), clN] at q; exact q))
    · exact absurd h14 (by omega)
  | succ k ih =>
    intro t w a h0 h1 ho he hf hy hp
    have hs := frO.k h hf
    have kn : 0 ≤ w 72 239 ∧ w 72 239 ≤ 12 := ho.n
    have kh : 0 ≤ w 71 13 ∧ w 71 13 ≤ 99 := hs.2.1.2.1.2.2.1
    have eL : ((a.2.2.2.2.length : Nat) : Int) = w 72 239 := by
      rw [← he]
      show (((mLs w 225).length : Nat) : Int) = _
      rw [mLs_len]
      show ((w 72 239).toNat : Int) = _
      omega
    have hk := ho.day
    refine V_iload_n dX5_clear_10 rfl ?_
    refine V_sipush dX5_clear_11 rfl ?_
    refine V_icmp_ge (tgt := 45) dX5_clear_14 (by decide) (by omega) (by omega) (fun h14 => ?_) (fun h14 => ?_)
    · exact absurd h14 (by omega)
    · refine V_aload_n dX5_clear_17 rfl ?_
      refine V_getR (ci := 5) (j := 0) dX5_clear_18 s_71 rfl rfl i_X5_clear_X5 (by decide) f_X5_clear_7 ?_
      refine V_sipush dX5_clear_21 rfl ?_
      refine V_iald dX5_clear_24 s_72 (by omega) ?_
      refine V_if_le (tgt := 45) dX5_clear_25 (by decide) (by omega) (fun h25 => ?_) (fun h25 => ?_)
      · refine V_aload_n dX5_clear_45 rfl ?_
        refine V_getR (ci := 5) (j := 0) dX5_clear_46 s_71 rfl rfl i_X5_clear_X5 (by decide) f_X5_clear_7 ?_
        refine V_sipush dX5_clear_49 rfl ?_
        refine V_iald dX5_clear_52 s_72 (by omega) ?_
        refine V_if_ne (tgt := 60) dX5_clear_53 (by decide) (by omega) (fun h53 => ?_) (fun h53 => ?_)
        · exact absurd h53 (by omega)
        · refine V_iload_n dX5_clear_56 rfl ?_
          refine V_goto (tgt := 61) dX5_clear_57 (by decide) ?_
          exact V_iret dX5_clear_61 rfl (by have q := hp w hf; rw [clN, if_pos (List.length_eq_zero_iff.mp (by omega))] at q; exact q)
      · refine V_aload_n dX5_clear_28 rfl ?_
        refine V_sipush dX5_clear_29 rfl ?_
        refine V_aload_n dX5_clear_32 rfl ?_
        refine V_getI (ci := 5) (j := 13) (ji := 13) dX5_clear_33 s_71 rfl rfl i_X5_clear_X5 (by decide) f_X5_clear_38 rfl ?_
        refine V_vV2 dX5_clear_36 o_X5_clear_174 s_71 rfl (Nat.le_of_ble_eq_true rfl) (c_X5_day G l (c := c) (o := 225) (by omega) kh ho hs.2.1.2.1 (by omega)) ?_
        rintro w2 x
        have e0 := dyM_day x
        obtain ⟨x1, x2, x3⟩ := x
        have x4 : mAS w2 225 = dyS σ.2.1.2.1 σ.2.1.2.2.2.1 σ.2.1.2.2.2.2.2.2.2 a := by
          rw [x2, he, hs.tH, hs.tK', hs.tR']
          rfl
        refine V_iinc dX5_clear_39 rfl (by decide) rfl ?_
        refine V_goto (tgt := 10) dX5_clear_42 (by decide) ?_
        refine ih (t + 1) w2 _ (by omega) (by omega) x1 x4 (hf.tr x3) (by omega) (fun w' h5 => ?_)
        have q := hp w' h5
        rw [clN, if_neg (fun q9 => by rw [q9] at eL; simp at eL; omega)] at q
        exact q
set_option maxRecDepth 100000 in
set_option maxHeartbeats 4000000 in
theorem c_X5_clear (G : Gb) (l : Launch) {w : Wd} {c : Int} {σ : SG} (h : SM c σ w) : Ci G l yX5_clear mX5_clear [.ref (gA G 71)] w (fun z w' => z = aClear σ ∧ SM (c + 1) σ w' ∧ frM w w') := by
  refine V_start 1 (by decide) rfl rfl (Nat.le_of_ble_eq_true rfl) ?_
  show V G l mX5_clear _ 0 [some (.ref (gA G 71)), none] [] w
  obtain ⟨a1, a2, a3⟩ := tr_ok h
  have k9 := h.2.2.1.2.2
  have e0 : cpM w 0 225 0 72 225 = w 72 0 := (congrArg (fun t : AS => t.1) a2).trans h.aD.symm
  refine V_aload_n dX5_clear_0 rfl ?_
  refine V_iconst dX5_clear_1 ?_
  refine V_sipush dX5_clear_2 rfl ?_
  refine V_vV2 dX5_clear_5 o_X5_clear_132 s_71 rfl (Nat.le_of_ble_eq_true rfl) (c_X5_copy G l (a := 0) (b := 225) (by omega) (by omega) (by omega)) ?_
  rintro _ rfl
  refine V_iconst dX5_clear_8 ?_
  refine V_istore_n dX5_clear_9 (by decide) rfl ?_
  exact l_X5_clear G l h 999 0 _ _ (by omega) (by omega) a1 a2 a3 (by omega) (fun w2 h5 => ⟨rfl, (frO.k h h5).same, h5.m⟩)
theorem dysS_fate (K R : List Int) (hd : Int) : ∀ (n : Nat) (a : AS), (dysS K R hd n a).2.2.2.1 = a.2.2.2.1
  | 0, a => rfl
  | n + 1, a => by
    rw [dysS, dysS_fate K R hd n]
    rfl
set_option maxRecDepth 100000 in
set_option maxHeartbeats 4000000 in
theorem l_X5_grandson (G : Gb) (l : Launch) {t : Int} {w : Wd} {c : Int} {σ : SG} (h : SM c σ w) (ho : okM c w 225) {Post : Int → Wd → Prop} : ∀ (k : Nat) (i s : Int), 0 ≤ i → i + k = σ.2.1.1 → Post (gsN (gl w 72 227 6) σ.2.2.1.2.2.2.1 k i s) w → V G l mX5_grandson (Qi G Post) 28 [some (.ref (gA G 71)), some (.int (iZ t)), some (.int (iZ s)), some (.int (iZ i))] [] w := by
  have kt := h.2.1.2.1.1
  have eN := h.tN
  intro k
  induction k with
  | zero =>
    intro i s h0 h1 hp
    refine V_iload_n dX5_grandson_28 rfl ?_
    refine V_aload_n dX5_grandson_29 rfl ?_
    refine V_getI (ci := 5) (j := 10) (ji := 10) dX5_grandson_30 s_71 rfl rfl i_X5_grandson_X5 (by decide) f_X5_grandson_115 rfl ?_
    refine V_icmp_ge (tgt := 67) dX5_grandson_33 (by decide) (by omega) (by omega) (fun h33 => ?_) (fun h33 => ?_)
    · refine V_iload_n dX5_grandson_67 rfl ?_
      exact V_iret dX5_grandson_68 rfl hp
    · exact absurd h33 (by omega)
  | succ k ih =>
    intro i s h0 h1 hp
    have kf := h.fate0 h0 (by omega : i < 6)
    rw [gsN, ← h.aF h0 (by omega), gl_D h0 (by omega)] at hp
    refine V_iload_n dX5_grandson_28 rfl ?_
    refine V_aload_n dX5_grandson_29 rfl ?_
    refine V_getI (ci := 5) (j := 10) (ji := 10) dX5_grandson_30 s_71 rfl rfl i_X5_grandson_X5 (by decide) f_X5_grandson_115 rfl ?_
    refine V_icmp_ge (tgt := 67) dX5_grandson_33 (by decide) (by omega) (by omega) (fun h33 => ?_) (fun h33 => ?_)
    · exact absurd h33 (by omega)
    · refine V_iload_n dX5_grandson_36 rfl ?_
      refine V_aload_n dX5_grandson_37 rfl ?_
      refine V_iload_n dX5_grandson_38 rfl ?_
      refine V_iV1 dX5_grandson_39 o_X5_grandson_144 s_71 rfl (Nat.le_of_ble_eq_true rfl) (c_X5_lives G l ⟨h0, by omega⟩ (by omega)) ?_
      rintro z _ ⟨hz, rfl⟩
      have rz : z = 0 ∨ z = 1 := by rw [hz]; split <;> simp
      refine V_if_eq (tgt := 58) dX5_grandson_42 (by decide) (by omega) (fun h42 => ?_) (fun h42 => ?_)
      · have yz : ¬ (w 72 (8 + i) = 0) := fun q9 => by rw [if_pos q9] at hz; omega
        rw [if_neg yz] at hp
        refine V_iconst dX5_grandson_58 ?_
        refine V_iadd dX5_grandson_59 ?_
        refine V_istore_n dX5_grandson_60 (by decide) rfl ?_
        refine V_iinc dX5_grandson_61 rfl (by decide) rfl ?_
        refine V_goto (tgt := 28) dX5_grandson_64 (by decide) ?_
        first
          | exact ih (i + 1) _ (by omega) (by omega) hp
          | (rw [Int.add_zero]; exact ih (i + 1) _ (by omega) (by omega) hp)
      · have yz : w 72 (8 + i) = 0 := by
          by_cases q9 : w 72 (8 + i) = 0
          · exact q9
          · rw [if_neg q9] at hz; omega
        rw [if_pos yz] at hp
        refine V_aload_n dX5_grandson_45 rfl ?_
        refine V_getR (ci := 5) (j := 0) dX5_grandson_46 s_71 rfl rfl i_X5_grandson_X5 (by decide) f_X5_grandson_7 ?_
        refine V_sipush dX5_grandson_49 rfl ?_
        refine V_iload_n dX5_grandson_52 rfl ?_
        refine V_iadd dX5_grandson_53 ?_
        refine V_iald dX5_grandson_54 s_72 (by omega) ?_
        refine V_goto (tgt := 59) dX5_grandson_55 (by decide) ?_
        refine V_iadd dX5_grandson_59 ?_
        refine V_istore_n dX5_grandson_60 (by decide) rfl ?_
        refine V_iinc dX5_grandson_61 rfl (by decide) rfl ?_
        refine V_goto (tgt := 28) dX5_grandson_64 (by decide) ?_
        first
          | exact ih (i + 1) _ (by omega) (by omega) hp
          | (rw [Int.add_zero]; exact ih (i + 1) _ (by omega) (by omega) hp)
set_option maxRecDepth 100000 in
set_option maxHeartbeats 4000000 in
theorem c_X5_grandson (G : Gb) (l : Launch) {w : Wd} {c : Int} {σ : SG} (h : SM c σ w) {t : Int} (ht : inR t) : Ci G l yX5_grandson mX5_grandson [.ref (gA G 71), .int (iZ t)] w (fun z w' => z = aGrand σ t ∧ SM (c + 1) σ w' ∧ frM w w') := by
  refine V_start 2 (by decide) rfl rfl (Nat.le_of_ble_eq_true rfl) ?_
  show V G l mX5_grandson _ 0 [some (.ref (gA G 71)), some (.int (iZ t)), none, none] [] w
  have hT := h.2.1.2.1
  have hO := h.2.2.1.2.1
  have kt := hT.1
  have kn : 0 ≤ w 72 14 ∧ w 72 14 ≤ 12 := hO.n
  have eN := h.tN
  have eL := h.aN
  refine V_iload_n dX5_grandson_0 rfl ?_
  refine V_i2l dX5_grandson_1 (iZ_l (by omega)) ?_
  refine V_lconst (v := lZ 0) dX5_grandson_2 rfl ?_
  refine V_ldc2 (v := (lZ 99)) dX5_grandson_3 (List.mem_of_getElem? (i := 1) rfl) ?_
  refine V_iS3 dX5_grandson_6 o_X5_grandson_50 (Nat.le_of_ble_eq_true rfl) (c_X5_in G l (by omega) (by omega) (by omega)) ?_
  rintro z _ ⟨hz, rfl⟩
  have rz : z = 0 ∨ z = 1 := by rw [hz]; split <;> simp
  refine V_if_ne (tgt := 15) dX5_grandson_9 (by decide) (by omega) (fun h9 => ?_) (fun h9 => ?_)
  · have yz : 0 ≤ t ∧ t ≤ 99 := by
      by_cases q9 : 0 ≤ t ∧ t ≤ 99
      · exact q9
      · rw [if_neg q9] at hz; omega
    refine V_aload_n dX5_grandson_15 rfl ?_
    refine V_iload_n dX5_grandson_16 rfl ?_
    refine V_aload_n dX5_grandson_17 rfl ?_
    refine V_getI (ci := 5) (j := 13) (ji := 13) dX5_grandson_18 s_71 rfl rfl i_X5_grandson_X5 (by decide) f_X5_grandson_38 rfl ?_
    have kh : 0 ≤ w 71 13 ∧ w 71 13 ≤ 99 := hT.2.2.1
    refine V_vV2 dX5_grandson_21 o_X5_grandson_182 s_71 rfl (Nat.le_of_ble_eq_true rfl) (c_X5_tryDays G l h (t := t) (by omega) kh) ?_
    rintro w' ⟨y1, y2, y3⟩
    rw [h.tH] at y2
    have e9 : w' 72 226 = (fS σ (t).toNat).2.1 := congrArg (fun t : AS => t.2.1) y2
    have eL9 : mLs w' 225 = (fS σ (t).toNat).2.2.2.2 := congrArg (fun t : AS => t.2.2.2.2) y2
    refine V_iconst dX5_grandson_24 ?_
    refine V_istore_n dX5_grandson_25 (by decide) rfl ?_
    refine V_iconst dX5_grandson_26 ?_
    refine V_istore_n dX5_grandson_27 (by decide) rfl ?_
    refine l_X5_grandson G l (frO.k h y3) y1 σ.2.1.1.toNat 0 0 (by omega) (by omega) ?_
    refine ⟨?_, (frO.k h y3).same, y3.m⟩
    rw [aGrand, if_pos yz, show gl w' 72 227 6 = (fS σ t.toNat).2.2.1 from congrArg (fun t : AS => t.2.2.1) y2, show (fS σ t.toNat).2.2.2.1 = σ.2.2.1.2.2.2.1 from dysS_fate _ _ _ _ _]
  · have yz : ¬ (0 ≤ t ∧ t ≤ 99) := fun q9 => by rw [if_pos q9] at hz; omega
    refine V_bipush dX5_grandson_12 rfl ?_
    exact V_iret dX5_grandson_14 rfl (by rw [aGrand, if_neg yz]; exact ⟨rfl, h.same, fun _ _ _ => rfl⟩)
set_option maxRecDepth 100000 in
set_option maxHeartbeats 4000000 in
theorem l_X5_owedFor (G : Gb) (l : Launch) {w : Wd} {t n q : Int} (ht : 0 ≤ t ∧ t < 6) (hn : 0 ≤ n ∧ n ≤ 99) (hk : 0 ≤ w 76 t ∧ w 76 t ≤ 3) (hr : 0 ≤ w 77 t ∧ w 77 t ≤ 50) (hq : 0 ≤ q ∧ q ≤ 30) {Post : Int → Wd → Prop} : ∀ (j : Nat) (o i : Int), 0 ≤ o ∧ o ≤ 1000000 → 0 ≤ i → i + j = q → Post (grI (w 76 t) (w 77 t) n j o) w → V G l mX5_owedFor (Qi G Post) 9 [some (.ref (gA G 71)), some (.int (iZ t)), some (.int (iZ n)), some (.int (iZ q)), some (.int (iZ o)), some (.int (iZ i))] [] w := by
  intro j
  induction j with
  | zero =>
    intro o i ho h0 h1 hp
    refine V_iload dX5_owedFor_9 rfl ?_
    refine V_iload_n dX5_owedFor_11 rfl ?_
    refine V_icmp_ge (tgt := 31) dX5_owedFor_12 (by decide) (by omega) (by omega) (fun h12 => ?_) (fun h12 => ?_)
    · refine V_iload dX5_owedFor_31 rfl ?_
      exact V_iret dX5_owedFor_33 rfl hp
    · exact absurd h12 (by omega)
  | succ j ih =>
    intro o i ho h0 h1 hp
    have hb := grw_bd (k := w 76 t) (r := w 77 t) (o := o) (n := n) ho hn hr
    refine V_iload dX5_owedFor_9 rfl ?_
    refine V_iload_n dX5_owedFor_11 rfl ?_
    refine V_icmp_ge (tgt := 31) dX5_owedFor_12 (by decide) (by omega) (by omega) (fun h12 => ?_) (fun h12 => ?_)
    · exact absurd h12 (by omega)
    · refine V_aload_n dX5_owedFor_15 rfl ?_
      refine V_iload_n dX5_owedFor_16 rfl ?_
      refine V_iload dX5_owedFor_17 rfl ?_
      refine V_iload_n dX5_owedFor_19 rfl ?_
      refine V_iV3 dX5_owedFor_20 o_X5_owedFor_160 s_71 rfl (Nat.le_of_ble_eq_true rfl) (c_X5_grown G l ht ho hn hk hr) ?_
      rintro _ _ ⟨rfl, rfl⟩
      refine V_istore dX5_owedFor_23 (by decide) rfl ?_
      refine V_iinc dX5_owedFor_25 rfl (by decide) rfl ?_
      refine V_goto (tgt := 9) dX5_owedFor_28 (by decide) ?_
      exact ih _ (i + 1) (by omega) (by omega) (by omega) hp
set_option maxRecDepth 100000 in
set_option maxHeartbeats 4000000 in
theorem c_X5_owedFor (G : Gb) (l : Launch) {w : Wd} {t n q : Int} (ht : 0 ≤ t ∧ t < 6) (hn : 0 ≤ n ∧ n ≤ 99) (hk : 0 ≤ w 76 t ∧ w 76 t ≤ 3) (hr : 0 ≤ w 77 t ∧ w 77 t ≤ 50) (hq : 0 ≤ q ∧ q ≤ 30) : Ci G l yX5_owedFor mX5_owedFor [.ref (gA G 71), .int (iZ t), .int (iZ n), .int (iZ q)] w (fun z w' => z = grI (w 76 t) (w 77 t) n q.toNat (100 * n) ∧ w = w') := by
  refine V_start 2 (by decide) rfl rfl (Nat.le_of_ble_eq_true rfl) ?_
  show V G l mX5_owedFor _ 0 [some (.ref (gA G 71)), some (.int (iZ t)), some (.int (iZ n)), some (.int (iZ q)), none, none] [] w
  refine V_bipush dX5_owedFor_0 rfl ?_
  refine V_iload_n dX5_owedFor_2 rfl ?_
  refine V_imul dX5_owedFor_3 ?_
  refine V_istore dX5_owedFor_4 (by decide) rfl ?_
  refine V_iconst dX5_owedFor_6 ?_
  refine V_istore dX5_owedFor_7 (by decide) rfl ?_
  exact l_X5_owedFor G l ht hn hk hr hq q.toNat _ 0 (by omega) (by omega) (by omega) ⟨rfl, rfl⟩
theorem bOr_0 {s : Int} (h : inR s) : bOr s 0 = s := by
  unfold bOr
  rw [show iZ s ||| iZ 0 = iZ s by show iZ s ||| 0 = iZ s; exact Int32.or_zero, iZ_toInt h]
theorem bOr_r (a b : Int) : inR (bOr a b) := iZ_rng _
set_option maxRecDepth 100000 in
set_option maxHeartbeats 4000000 in
theorem l_X5_toWhom (G : Gb) (l : Launch) {b t v : Int} (hb : 1 ≤ b ∧ b ≤ 99) (ht : 0 ≤ t ∧ t ≤ 30) (hv : 0 ≤ v ∧ v ≤ 1000000) {w : Wd} {c : Int} {σ : SG} (h : SM c σ w) {Post : Int → Wd → Prop} : ∀ (k : Nat) (i s : Int), inR s → 0 ≤ i → i + k = σ.2.1.1 → Post (twN σ.2.1.2.1 σ.2.1.2.2.2.1 σ.2.2.1.2.2.2.1 b t v k i s) w → V G l mX5_toWhom (Qi G Post) 45 [some (.ref (gA G 71)), some (.int (iZ b)), some (.int (iZ t)), some (.int (iZ v)), some (.int (iZ s)), some (.int (iZ i))] [] w := by
  have hT := h.2.1.2.1
  have kt := hT.1
  have eN := h.tN
  intro k
  induction k with
  | zero =>
    intro i s rs h0 h1 hp
    refine V_iload dX5_toWhom_45 rfl ?_
    refine V_aload_n dX5_toWhom_47 rfl ?_
    refine V_getI (ci := 5) (j := 10) (ji := 10) dX5_toWhom_48 s_71 rfl rfl i_X5_toWhom_X5 (by decide) f_X5_toWhom_115 rfl ?_
    refine V_icmp_ge (tgt := 94) dX5_toWhom_51 (by decide) (by omega) (by omega) (fun h51 => ?_) (fun h51 => ?_)
    · refine V_iload dX5_toWhom_94 rfl ?_
      exact V_iret dX5_toWhom_96 rfl hp
    · exact absurd h51 (by omega)
  | succ k ih =>
    intro i s rs h0 h1 hp
    have kf := h.fate0 h0 (by omega : i < 6)
    have kk := hT.2.2.2.1 i h0 (by omega)
    rw [twN, ← h.aF h0 (by omega), ← h.tK h0 (by omega), ← h.tR h0 (by omega)] at hp
    refine V_iload dX5_toWhom_45 rfl ?_
    refine V_aload_n dX5_toWhom_47 rfl ?_
    refine V_getI (ci := 5) (j := 10) (ji := 10) dX5_toWhom_48 s_71 rfl rfl i_X5_toWhom_X5 (by decide) f_X5_toWhom_115 rfl ?_
    refine V_icmp_ge (tgt := 94) dX5_toWhom_51 (by decide) (by omega) (by omega) (fun h51 => ?_) (fun h51 => ?_)
    · exact absurd h51 (by omega)
    · refine V_iload dX5_toWhom_54 rfl ?_
      refine V_aload_n dX5_toWhom_56 rfl ?_
      refine V_iload dX5_toWhom_57 rfl ?_
      refine V_iV1 dX5_toWhom_59 o_X5_toWhom_144 s_71 rfl (Nat.le_of_ble_eq_true rfl) (c_X5_lives G l ⟨h0, by omega⟩ (by omega)) ?_
      rintro z _ ⟨hz, rfl⟩
      have rz : z = 0 ∨ z = 1 := by rw [hz]; split <;> simp
      refine V_if_eq (tgt := 84) dX5_toWhom_62 (by decide) (by omega) (fun h62 => ?_) (fun h62 => ?_)
      · have yz : ¬ (w 72 (8 + i) = 0) := fun q9 => by rw [if_pos q9] at hz; omega
        rw [if_neg (fun q => yz q.1)] at hp
        refine V_iconst dX5_toWhom_84 ?_
        refine V_ior dX5_toWhom_85 ?_
        refine V_istore dX5_toWhom_86 (by decide) rfl ?_
        refine V_iinc dX5_toWhom_88 rfl (by decide) rfl ?_
        refine V_goto (tgt := 45) dX5_toWhom_91 (by decide) ?_
        first
          | exact ih (i + 1) _ (bOr_r _ _) (by omega) (by omega) hp
          | (rw [bOr_0 rs]; exact ih (i + 1) _ rs (by omega) (by omega) hp)
      · have yz : w 72 (8 + i) = 0 := by
          by_cases q9 : w 72 (8 + i) = 0
          · exact q9
          · rw [if_neg q9] at hz; omega
        refine V_aload_n dX5_toWhom_65 rfl ?_
        refine V_iload dX5_toWhom_66 rfl ?_
        refine V_iload_n dX5_toWhom_68 rfl ?_
        refine V_iload_n dX5_toWhom_69 rfl ?_
        refine V_iV3 dX5_toWhom_70 o_X5_toWhom_188 s_71 rfl (Nat.le_of_ble_eq_true rfl) (c_X5_owedFor G l (n := b) (q := t) ⟨h0, by omega⟩ (by omega) kk.1 kk.2.2.1 ht) ?_
        rintro y _ ⟨hy, rfl⟩
        rw [← hy] at hp
        have rg := grI_bd (k := w 76 i) (n := b) (r := w 77 i) (by omega) kk.2.2.1 t.toNat (100 * b) (by omega)
        have ry : inR y := by omega
        refine V_iload_n dX5_toWhom_73 rfl ?_
        refine V_icmp_ne (tgt := 84) dX5_toWhom_74 (by decide) ry (by omega) (fun h74 => ?_) (fun h74 => ?_)
        · rw [if_neg (fun q => h74 q.2)] at hp
          refine V_iconst dX5_toWhom_84 ?_
          refine V_ior dX5_toWhom_85 ?_
          refine V_istore dX5_toWhom_86 (by decide) rfl ?_
          refine V_iinc dX5_toWhom_88 rfl (by decide) rfl ?_
          refine V_goto (tgt := 45) dX5_toWhom_91 (by decide) ?_
          first
            | exact ih (i + 1) _ (bOr_r _ _) (by omega) (by omega) hp
            | (rw [bOr_0 rs]; exact ih (i + 1) _ rs (by omega) (by omega) hp)
        · rw [if_pos ⟨yz, h74⟩] at hp
          refine V_iconst dX5_toWhom_77 ?_
          refine V_iload dX5_toWhom_78 rfl ?_
          refine V_ishl dX5_toWhom_80 ?_
          refine V_goto (tgt := 85) dX5_toWhom_81 (by decide) ?_
          refine V_ior dX5_toWhom_85 ?_
          refine V_istore dX5_toWhom_86 (by decide) rfl ?_
          refine V_iinc dX5_toWhom_88 rfl (by decide) rfl ?_
          refine V_goto (tgt := 45) dX5_toWhom_91 (by decide) ?_
          first
            | exact ih (i + 1) _ (bOr_r _ _) (by omega) (by omega) hp
            | (rw [bOr_0 rs]; exact ih (i + 1) _ rs (by omega) (by omega) hp)
set_option maxRecDepth 100000 in
set_option maxHeartbeats 4000000 in
theorem c_X5_toWhom (G : Gb) (l : Launch) {w : Wd} {c : Int} {σ : SG} (h : SM c σ w) {b : Int} (hb : inR b) {t : Int} (ht : inR t) {v : Int} (hv : inR v) : Ci G l yX5_toWhom mX5_toWhom [.ref (gA G 71), .int (iZ b), .int (iZ t), .int (iZ v)] w (fun z w' => z = aWhom σ b t v ∧ SM (c + 1) σ w' ∧ frM w w') := by
  refine V_start 2 (by decide) rfl rfl (Nat.le_of_ble_eq_true rfl) ?_
  show V G l mX5_toWhom _ 0 [some (.ref (gA G 71)), some (.int (iZ b)), some (.int (iZ t)), some (.int (iZ v)), none, none] [] w
  have hT := h.2.1.2.1
  have hO := h.2.2.1.2.1
  have kt := hT.1
  have kn : 0 ≤ w 72 14 ∧ w 72 14 ≤ 12 := hO.n
  have eN := h.tN
  have eL := h.aN
  refine V_iload_n dX5_toWhom_0 rfl ?_
  refine V_i2l dX5_toWhom_1 (iZ_l (by omega)) ?_
  refine V_lconst (v := lZ 1) dX5_toWhom_2 rfl ?_
  refine V_ldc2 (v := (lZ 99)) dX5_toWhom_3 (List.mem_of_getElem? (i := 1) rfl) ?_
  refine V_iS3 dX5_toWhom_6 o_X5_toWhom_50 (Nat.le_of_ble_eq_true rfl) (c_X5_in G l (by omega) (by omega) (by omega)) ?_
  rintro z _ ⟨hz, rfl⟩
  have rz : z = 0 ∨ z = 1 := by rw [hz]; split <;> simp
  refine V_if_eq (tgt := 36) dX5_toWhom_9 (by decide) (by omega) (fun h9 => ?_) (fun h9 => ?_)
  · have yz : ¬ (1 ≤ b ∧ b ≤ 99) := fun q9 => by rw [if_pos q9] at hz; omega
    have na : ¬ ((1 ≤ b ∧ b ≤ 99) ∧ (0 ≤ t ∧ t ≤ 30) ∧ 0 ≤ v ∧ v ≤ 1000000) := fun q9 => yz q9.1
    refine V_bipush dX5_toWhom_36 rfl ?_
    exact V_iret dX5_toWhom_38 rfl (by rw [aWhom, if_neg na]; exact ⟨rfl, h.same, fun _ _ _ => rfl⟩)
  · have yz : 1 ≤ b ∧ b ≤ 99 := by
      by_cases q9 : 1 ≤ b ∧ b ≤ 99
      · exact q9
      · rw [if_neg q9] at hz; omega
    refine V_iload_n dX5_toWhom_12 rfl ?_
    refine V_i2l dX5_toWhom_13 (iZ_l (by omega)) ?_
    refine V_lconst (v := lZ 0) dX5_toWhom_14 rfl ?_
    refine V_ldc2 (v := (lZ 30)) dX5_toWhom_15 (List.mem_of_getElem? (i := 2) rfl) ?_
    refine V_iS3 dX5_toWhom_18 o_X5_toWhom_50 (Nat.le_of_ble_eq_true rfl) (c_X5_in G l (by omega) (by omega) (by omega)) ?_
    rintro x _ ⟨hx, rfl⟩
    have rx : x = 0 ∨ x = 1 := by rw [hx]; split <;> simp
    refine V_if_eq (tgt := 36) dX5_toWhom_21 (by decide) (by omega) (fun h21 => ?_) (fun h21 => ?_)
    · have yx : ¬ (0 ≤ t ∧ t ≤ 30) := fun q9 => by rw [if_pos q9] at hx; omega
      have na : ¬ ((1 ≤ b ∧ b ≤ 99) ∧ (0 ≤ t ∧ t ≤ 30) ∧ 0 ≤ v ∧ v ≤ 1000000) := fun q9 => yx q9.2.1
      refine V_bipush dX5_toWhom_36 rfl ?_
      exact V_iret dX5_toWhom_38 rfl (by rw [aWhom, if_neg na]; exact ⟨rfl, h.same, fun _ _ _ => rfl⟩)
    · have yx : 0 ≤ t ∧ t ≤ 30 := by
        by_cases q9 : 0 ≤ t ∧ t ≤ 30
        · exact q9
        · rw [if_neg q9] at hx; omega
      refine V_iload_n dX5_toWhom_24 rfl ?_
      refine V_i2l dX5_toWhom_25 (iZ_l (by omega)) ?_
      refine V_lconst (v := lZ 0) dX5_toWhom_26 rfl ?_
      refine V_ldc2 (v := (lZ 1000000)) dX5_toWhom_27 (List.mem_of_getElem? (i := 3) rfl) ?_
      refine V_iS3 dX5_toWhom_30 o_X5_toWhom_50 (Nat.le_of_ble_eq_true rfl) (c_X5_in G l (by omega) (by omega) (by omega)) ?_
      rintro u _ ⟨hu, rfl⟩
      have ru : u = 0 ∨ u = 1 := by rw [hu]; split <;> simp
      refine V_if_ne (tgt := 39) dX5_toWhom_33 (by decide) (by omega) (fun h33 => ?_) (fun h33 => ?_)
      · have yu : 0 ≤ v ∧ v ≤ 1000000 := by
          by_cases q9 : 0 ≤ v ∧ v ≤ 1000000
          · exact q9
          · rw [if_neg q9] at hu; omega
        refine V_iconst dX5_toWhom_39 ?_
        refine V_istore dX5_toWhom_40 (by decide) rfl ?_
        refine V_iconst dX5_toWhom_42 ?_
        refine V_istore dX5_toWhom_43 (by decide) rfl ?_
        refine l_X5_toWhom G l yz yx yu h σ.2.1.1.toNat 0 0 (by omega) (by omega) (by omega) ?_
        rw [aWhom, if_pos ⟨yz, yx, yu⟩]
        exact ⟨rfl, h.same, fun _ _ _ => rfl⟩
      · have yu : ¬ (0 ≤ v ∧ v ≤ 1000000) := fun q9 => by rw [if_pos q9] at hu; omega
        have na : ¬ ((1 ≤ b ∧ b ≤ 99) ∧ (0 ≤ t ∧ t ≤ 30) ∧ 0 ≤ v ∧ v ≤ 1000000) := fun q9 => yu q9.2.2
        refine V_bipush dX5_toWhom_36 rfl ?_
        exact V_iret dX5_toWhom_38 rfl (by rw [aWhom, if_neg na]; exact ⟨rfl, h.same, fun _ _ _ => rfl⟩)
/-- the fewest hands, one by one -/
def emN (σ : SG) (t : Nat) : Nat → Int → Int
  | 0, _ => -1
  | m + 1, n => if (dysS σ.2.1.2.1 σ.2.1.2.2.2.1 n t σ.2.2.1).2.1 = σ.2.2.1.2.1 then n else emN σ t m (n + 1)
def aEnoughM (σ : SG) (t : Int) : Int := if 1 ≤ t ∧ t ≤ 99 then emN σ t.toNat 100 0 else -3
theorem okM.fl {c : Int} {w : Wd} {o : Int} (h : okM c w o) : 0 ≤ w 72 (o + 1) ∧ w 72 (o + 1) ≤ c := by
  have := h.2.2.1
  exact ⟨this.1, by have q := this.2; show (mAS w o).2.1 ≤ c; omega⟩
set_option maxRecDepth 100000 in
set_option maxHeartbeats 4000000 in
theorem l_X5_enough (G : Gb) (l : Launch) {w0 : Wd} {c : Int} {σ : SG} (h : SM c σ w0) {t : Int} (ht : 1 ≤ t ∧ t ≤ 99) (hc : c ≤ 100000) {Post : Int → Wd → Prop} : ∀ (k : Nat) (n : Int) (w : Wd), 0 ≤ n → n + k = 100 → frO 225 w0 w → (∀ w', frO 225 w0 w' → Post (emN σ t.toNat k n) w') → V G l mX5_enough (Qi G Post) 17 [some (.ref (gA G 71)), some (.int (iZ t)), some (.int (iZ n))] [] w := by
  intro k
  induction k with
  | zero =>
    intro n w h0 h1 hf hp
    refine V_iload_n dX5_enough_17 rfl ?_
    refine V_bipush dX5_enough_18 rfl ?_
    refine V_icmp_ge (tgt := 54) dX5_enough_20 (by decide) (by omega) (by omega) (fun h20 => ?_) (fun h20 => ?_)
    · refine V_iconst dX5_enough_54 ?_
      exact V_iret dX5_enough_55 rfl (hp w hf)
    · exact absurd h20 (by omega)
  | succ k ih =>
    intro n w h0 h1 hf hp
    have hs := frO.k h hf
    refine V_iload_n dX5_enough_17 rfl ?_
    refine V_bipush dX5_enough_18 rfl ?_
    refine V_icmp_ge (tgt := 54) dX5_enough_20 (by decide) (by omega) (by omega) (fun h20 => ?_) (fun h20 => ?_)
    · exact absurd h20 (by omega)
    · refine V_aload_n dX5_enough_23 rfl ?_
      refine V_iload_n dX5_enough_24 rfl ?_
      refine V_iload_n dX5_enough_25 rfl ?_
      refine V_vV2 dX5_enough_26 o_X5_enough_182 s_71 rfl (Nat.le_of_ble_eq_true rfl) (c_X5_tryDays G l hs (t := t) (v := n) (by omega) (by omega)) ?_
      rintro w1 ⟨y1, y2, y3⟩
      have e9 : w1 72 226 = (dysS σ.2.1.2.1 σ.2.1.2.2.2.1 n t.toNat σ.2.2.1).2.1 := congrArg (fun t : AS => t.2.1) y2
      have hs1 := frO.k hs y3
      have e1 := hs1.aX
      have b1 : 0 ≤ w1 72 226 ∧ w1 72 226 ≤ c := y1.fl
      have b2 : 0 ≤ w1 72 1 ∧ w1 72 1 ≤ c := hs1.2.2.1.2.1.fl
      refine V_aload_n dX5_enough_29 rfl ?_
      refine V_getR (ci := 5) (j := 0) dX5_enough_30 s_71 rfl rfl i_X5_enough_X5 (by decide) f_X5_enough_7 ?_
      refine V_sipush dX5_enough_33 rfl ?_
      refine V_iald dX5_enough_36 s_72 (by omega) ?_
      refine V_aload_n dX5_enough_37 rfl ?_
      refine V_getR (ci := 5) (j := 0) dX5_enough_38 s_71 rfl rfl i_X5_enough_X5 (by decide) f_X5_enough_7 ?_
      refine V_iconst dX5_enough_41 ?_
      refine V_iald dX5_enough_42 s_72 (by omega) ?_
      refine V_icmp_ne (tgt := 48) dX5_enough_43 (by decide) (by omega) (by omega) (fun h43 => ?_) (fun h43 => ?_)
      · refine V_iinc dX5_enough_48 rfl (by decide) rfl ?_
        refine V_goto (tgt := 17) dX5_enough_51 (by decide) ?_
        refine ih (n + 1) w1 (by omega) (by omega) (hf.tr y3) (fun w' h5 => ?_)
        have q := hp w' h5
        rw [emN, if_neg (by omega)] at q
        exact q
      · refine V_iload_n dX5_enough_46 rfl ?_
        exact V_iret dX5_enough_47 rfl (by have q := hp w1 (hf.tr y3); rw [emN, if_pos (by omega)] at q; exact q)
set_option maxRecDepth 100000 in
set_option maxHeartbeats 4000000 in
theorem c_X5_enough (G : Gb) (l : Launch) {w : Wd} {c : Int} {σ : SG} (h : SM c σ w) (hc : c ≤ 100000) {t : Int} (ht : inR t) : Ci G l yX5_enough mX5_enough [.ref (gA G 71), .int (iZ t)] w (fun z w' => z = aEnoughM σ t ∧ SM (c + 1) σ w' ∧ frM w w') := by
  refine V_start 1 (by decide) rfl rfl (Nat.le_of_ble_eq_true rfl) ?_
  show V G l mX5_enough _ 0 [some (.ref (gA G 71)), some (.int (iZ t)), none] [] w
  refine V_iload_n dX5_enough_0 rfl ?_
  refine V_i2l dX5_enough_1 (iZ_l (by omega)) ?_
  refine V_lconst (v := lZ 1) dX5_enough_2 rfl ?_
  refine V_ldc2 (v := (lZ 99)) dX5_enough_3 (List.mem_of_getElem? (i := 1) rfl) ?_
  refine V_iS3 dX5_enough_6 o_X5_enough_50 (Nat.le_of_ble_eq_true rfl) (c_X5_in G l (by omega) (by omega) (by omega)) ?_
  rintro z _ ⟨hz, rfl⟩
  have rz : z = 0 ∨ z = 1 := by rw [hz]; split <;> simp
  refine V_if_ne (tgt := 15) dX5_enough_9 (by decide) (by omega) (fun h9 => ?_) (fun h9 => ?_)
  · have yz : 1 ≤ t ∧ t ≤ 99 := by
      by_cases q9 : 1 ≤ t ∧ t ≤ 99
      · exact q9
      · rw [if_neg q9] at hz; omega
    refine V_iconst dX5_enough_15 ?_
    refine V_istore_n dX5_enough_16 (by decide) rfl ?_
    refine l_X5_enough G l h yz hc 100 0 w (by omega) (by omega) (fun _ _ _ => rfl) (fun w' h5 => ?_)
    rw [aEnoughM, if_pos yz]
    exact ⟨rfl, (frO.k h h5).same, h5.m⟩
  · have yz : ¬ (1 ≤ t ∧ t ≤ 99) := fun q9 => by rw [if_pos q9] at hz; omega
    refine V_bipush dX5_enough_12 rfl ?_
    exact V_iret dX5_enough_14 rfl (by rw [aEnoughM, if_neg yz]; exact ⟨rfl, h.same, fun _ _ _ => rfl⟩)

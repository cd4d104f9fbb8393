/-! ===== 22 lines: numbers, words, the class's readers ===== -/
theorem exN_all (T : List Int) (s : Int) : ∀ (n : Nat) (e j : Int), e ≤ j → j < exN T s n e → srt (ch T j) = s
  | 0, e, j, h1, h2 => by rw [exN] at h2; omega
  | n + 1, e, j, h1, h2 => by
    rw [exN] at h2
    split at h2
    · by_cases hj : j = e
      · subst hj; assumption
      · exact exN_all T s n (e + 1) j (by omega) h2
    · omega
theorem srt_2 {c : Int} (h : srt c = 2) : 48 ≤ c ∧ c ≤ 57 := by
  unfold srt at h
  split at h
  · omega
  · split at h
    · assumption
    · omega
theorem vl_bd {T : List Int} {s : Int} (h0 : 0 ≤ s) (h : s < (T.length : Int)) (hs : srt (ch T s) = 2) (h2 : tkE T s - s ≤ 2) : 0 ≤ vl T s ∧ vl T s ≤ 99 := by
  have h1 := tkE_lt h0 h
  have hd : ∀ j : Int, s ≤ j → j < tkE T s → 48 ≤ ch T j ∧ ch T j ≤ 57 := by
    intro j g0 g1
    unfold tkE at g1
    rw [if_pos h, if_neg (by omega), hs] at g1
    exact srt_2 (exN_all T 2 _ s j g0 g1)
  have d0 := hd s (by omega) (by omega)
  unfold vl
  rcases (show (tkE T s - s).toNat = 1 ∨ (tkE T s - s).toNat = 2 by omega) with e | e
  · rw [e]
    show 0 ≤ 10 * 0 + ch T s - 48 ∧ 10 * 0 + ch T s - 48 ≤ 99
    omega
  · have d1 := hd (s + 1) (by omega) (by omega)
    rw [e]
    show 0 ≤ 10 * (10 * 0 + ch T s - 48) + ch T (s + 1) - 48 ∧ 10 * (10 * 0 + ch T s - 48) + ch T (s + 1) - 48 ≤ 99
    omega
theorem kd_2 {T : List Int} {s : Int} : kd T s = 2 ↔ s < (T.length : Int) ∧ srt (ch T s) = 2 := by
  unfold kd
  by_cases h : s < (T.length : Int)
  · rw [if_pos h]
    by_cases h1 : srt (ch T s) = 1
    · rw [if_pos h1]; omega
    · rw [if_neg h1]
      by_cases h2 : srt (ch T s) = 2
      · rw [if_pos h2]; exact ⟨fun _ => ⟨h, h2⟩, fun _ => rfl⟩
      · rw [if_neg h2]; omega
  · rw [if_neg h]; omega
theorem kd_bd (T : List Int) (s : Int) : 0 ≤ kd T s ∧ kd T s ≤ 3 := by unfold kd; split <;> (try split) <;> (try split) <;> omega
/-- a number that can stand at s -/
abbrev okN (T : List Int) (s lo hi : Int) : Prop := s < (T.length : Int) ∧ srt (ch T s) = 2 ∧ tkE T s - s ≤ 2 ∧ lo ≤ vl T s ∧ vl T s ≤ hi
def nx (T : List Int) (s : Int) : Int := sk T (tkE T s)
theorem nx_bd {T : List Int} {s : Int} (h0 : 0 ≤ s) (h : s ≤ (T.length : Int)) : 0 ≤ nx T s ∧ nx T s ≤ (T.length : Int) := by
  have h1 := tkE_bd h0 h
  have h2 := sk_bd (T := T) (i := tkE T s) (by omega) h1.2
  unfold nx
  omega
theorem frk.tx {w w' : Wd} {T : List Int} (h : frk w w') (hT : TX w T) : TX w' T := hT.keep (h _ _ (by omega)) (fun i => h _ _ (by omega))
theorem tokA.nx5 {w : Wd} {T : List Int} {p : Int} (h : tokA w T p) : 0 ≤ w 1 5 ∧ w 1 5 ≤ (T.length : Int) := by
  have h1 := tkE_bd h.1.1 h.1.2
  have h2 := h.1
  rw [h.2.2.1]
  omega
theorem okT_frk {w w' : Wd} {d : Nat} (hd : IsTd d) (h : okT w d) (hf : frk w w') : okT w' d := by
  have g : ∀ (k : Nat) (j : Int), k ≠ 1 → w' k j = w k j := fun k j q => hf k j (Or.inl q)
  obtain ⟨h1, h2, h3, h4, h5⟩ := h
  refine ⟨by rw [g _ _ (by omega)]; exact h1, by rw [g _ _ (by omega)]; exact h2, by rw [g _ _ (by omega)]; exact h3, fun t q0 q1 => ?_, fun q q0 q1 => ?_⟩
  · rw [g _ _ (by omega), g _ _ (by omega), g _ _ (by omega), g _ _ (by omega), g _ _ (by omega)]
    exact h4 t q0 q1
  · rw [g _ _ (by omega)] at q1
    rw [g _ _ (by omega), g _ _ (by omega)]
    exact h5 q q0 q1
theorem tAS_eq {w w' : Wd} {d : Nat} (h : ∀ (k : Nat) (j : Int), d ≤ k → k ≤ d + 7 → w' k j = w k j) : tAS w' d = tAS w d := by
  unfold tAS
  rw [h d 0 (by omega) (by omega), h d 9 (by omega) (by omega), gl_eq (w := w') (k := d + 1) (w' := w) (k' := d + 1) (o' := 0) (fun i _ _ => h _ _ (by omega) (by omega)), gl_eq (w := w') (k := d + 2) (w' := w) (k' := d + 2) (o' := 0) (fun i _ _ => h _ _ (by omega) (by omega)), gl_eq (w := w') (k := d + 3) (w' := w) (k' := d + 3) (o' := 0) (fun i _ _ => h _ _ (by omega) (by omega)), gl_eq (w := w') (k := d + 4) (w' := w) (k' := d + 4) (o' := 0) (fun i _ _ => h _ _ (by omega) (by omega)), gl_eq (w := w') (k := d + 5) (w' := w) (k' := d + 5) (o' := 0) (fun i _ _ => h _ _ (by omega) (by omega)), qsC_eq (w := w') (w' := w) (d := d) (d' := d) (h _ _ (by omega) (by omega)) (fun j _ _ => ⟨h _ _ (by omega) (by omega), h _ _ (by omega) (by omega)⟩)]
set_option maxRecDepth 100000 in
set_option maxHeartbeats 4000000 in
theorem c_X2_readNumber (G : Gb) (l : Launch) {w : Wd} {T : List Int} (hT : TX w T) {p : Int} (hk : tokA w T p) {lo hi : Int} (hlo : inR lo) (hhi : inR hi) : Ci G l yX2_readNumber mX2_readNumber [.ref (gA G 1), .int (iZ lo), .int (iZ hi)] w (fun z w' => (okN T p lo hi → z = vl T p ∧ tokA w' T (nx T p)) ∧ (¬ okN T p lo hi → z = -1 ∧ w' = w) ∧ frk w w') := by
  refine V_start 1 (by decide) rfl rfl (Nat.le_of_ble_eq_true rfl) ?_
  show V G l mX2_readNumber _ 0 [some (.ref (gA G 1)), some (.int (iZ lo)), some (.int (iZ hi)), none] [] w
  have hk0 := hk.1
  have k2 := hT.2.1
  have kb := kd_bd T p
  have e4 := hk.2.1
  have e5 := hk.2.2.1
  have e6 := hk.2.2.2.1
  have tb := tkE_bd hk.1.1 hk.1.2
  refine V_aload_n dX2_readNumber_0 rfl ?_
  refine V_getIE (ci := 2) (j := 6) (ji := 6) (z := kd T p) dX2_readNumber_1 s_1 rfl rfl i_X2_readNumber_X2 (by decide) f_X2_readNumber_46 rfl e6 ?_
  refine V_iconst dX2_readNumber_4 ?_
  refine V_icmp_ne (tgt := 37) dX2_readNumber_5 (by decide) (by omega) (by omega) (fun h5 => ?_) (fun h5 => ?_)
  · refine V_iconst dX2_readNumber_37 ?_
    exact V_iret dX2_readNumber_38 rfl ⟨fun z => by first | exact absurd (kd_2.mpr ⟨z.1, z.2.1⟩) h5 | omega, fun _ => ⟨rfl, rfl⟩, fun _ _ _ => rfl⟩
  · refine V_aload_n dX2_readNumber_8 rfl ?_
    refine V_getIE (ci := 2) (j := 5) (ji := 5) (z := tkE T p) dX2_readNumber_9 s_1 rfl rfl i_X2_readNumber_X2 (by decide) f_X2_readNumber_33 rfl e5 ?_
    refine V_aload_n dX2_readNumber_12 rfl ?_
    refine V_getIE (ci := 2) (j := 4) (ji := 4) (z := p) dX2_readNumber_13 s_1 rfl rfl i_X2_readNumber_X2 (by decide) f_X2_readNumber_43 rfl e4 ?_
    refine V_isub dX2_readNumber_16 ?_
    refine V_iconst dX2_readNumber_17 ?_
    refine V_icmp_gt (tgt := 37) dX2_readNumber_18 (by decide) (by omega) (by omega) (fun h18 => ?_) (fun h18 => ?_)
    · refine V_iconst dX2_readNumber_37 ?_
      exact V_iret dX2_readNumber_38 rfl ⟨fun z => by first | exact absurd (kd_2.mpr ⟨z.1, z.2.1⟩) h5 | omega, fun _ => ⟨rfl, rfl⟩, fun _ _ _ => rfl⟩
    · refine V_aload_n dX2_readNumber_21 rfl ?_
      have hg := kd_2.mp h5
      have hv := vl_bd hk.1.1 hg.1 hg.2 h18
      have e7 := hk.2.2.2.2 h5
      refine V_getIE (ci := 2) (j := 7) (ji := 7) (z := vl T p) dX2_readNumber_22 s_1 rfl rfl i_X2_readNumber_X2 (by decide) f_X2_readNumber_108 rfl e7 ?_
      refine V_iload_n dX2_readNumber_25 rfl ?_
      refine V_icmp_lt (tgt := 37) dX2_readNumber_26 (by decide) (by omega) (by omega) (fun h26 => ?_) (fun h26 => ?_)
      · refine V_iconst dX2_readNumber_37 ?_
        exact V_iret dX2_readNumber_38 rfl ⟨fun z => by first | exact absurd (kd_2.mpr ⟨z.1, z.2.1⟩) h5 | omega, fun _ => ⟨rfl, rfl⟩, fun _ _ _ => rfl⟩
      · refine V_aload_n dX2_readNumber_29 rfl ?_
        refine V_getIE (ci := 2) (j := 7) (ji := 7) (z := vl T p) dX2_readNumber_30 s_1 rfl rfl i_X2_readNumber_X2 (by decide) f_X2_readNumber_108 rfl e7 ?_
        refine V_iload_n dX2_readNumber_33 rfl ?_
        refine V_icmp_le (tgt := 39) dX2_readNumber_34 (by decide) (by omega) (by omega) (fun h34 => ?_) (fun h34 => ?_)
        · refine V_aload_n dX2_readNumber_39 rfl ?_
          refine V_getIE (ci := 2) (j := 7) (ji := 7) (z := vl T p) dX2_readNumber_40 s_1 rfl rfl i_X2_readNumber_X2 (by decide) f_X2_readNumber_108 rfl e7 ?_
          refine V_istore_n dX2_readNumber_43 (by decide) rfl ?_
          refine V_aload_n dX2_readNumber_44 rfl ?_
          refine V_vV0 dX2_readNumber_45 o_X2_readNumber_36 s_1 rfl (Nat.le_of_ble_eq_true rfl) (c_X2_nextToken G l hT hk.nx5) ?_
          rintro w2 ⟨a1, a2⟩
          rw [e5] at a1
          refine V_iload_n dX2_readNumber_48 rfl ?_
          exact V_iret dX2_readNumber_49 rfl ⟨fun _ => ⟨rfl, a1⟩, fun z => absurd (show okN T p lo hi from ⟨hg.1, hg.2, h18, h26, h34⟩) z, a2⟩
        · refine V_iconst dX2_readNumber_37 ?_
          exact V_iret dX2_readNumber_38 rfl ⟨fun z => by first | exact absurd (kd_2.mpr ⟨z.1, z.2.1⟩) h5 | omega, fun _ => ⟨rfl, rfl⟩, fun _ _ _ => rfl⟩
/-- the token's letters -/
def slc (T : List Int) (s : Int) : List Int := (T.drop s.toNat).take (tkE T s - s).toNat
def scI (i : Nat) : List Int := (scByt.getD i []).map Int32.toInt
theorem scI_len : ∀ i : Nat, i < 8 → (scI i).length = scLen.getD i 0 := by decide
theorem scI_at {i j : Nat} (hi : i < 8) (h : j < scLen.getD i 0) : (scI i)[j]? = some (scC i (j : Int)) := by
  have h1 := scI_len i hi
  unfold scI at h1 ⊢
  rw [List.length_map] at h1
  unfold scC
  rw [show ((j : Int)).toNat = j by omega]
  generalize scByt.getD i [] = Bs at h1 ⊢
  rw [List.getElem?_map, List.getD_eq_getElem?_getD, List.getElem?_eq_getElem (by omega)]
  rfl
theorem slc_len {T : List Int} {s : Int} (h0 : 0 ≤ s) (h : s ≤ (T.length : Int)) : (slc T s).length = (tkE T s - s).toNat := by
  have := tkE_bd h0 h
  unfold slc
  rw [List.length_take, List.length_drop]
  omega
theorem slc_at {T : List Int} {s : Int} {j : Nat} (h0 : 0 ≤ s) (h : s + (j : Int) < tkE T s) (h2 : s ≤ (T.length : Int)) : (slc T s)[j]? = some (ch T (s + (j : Int))) := by
  have := tkE_bd h0 h2
  unfold slc ch
  rw [List.getElem?_take, if_pos (by omega), List.getElem?_drop, List.getD_eq_getElem?_getD, show (s + (j : Int)).toNat = s.toNat + j by omega, List.getElem?_eq_getElem (by omega)]
  rfl
theorem slc_eq {T : List Int} {s : Int} {i : Nat} (h0 : 0 ≤ s) (h : s ≤ (T.length : Int)) (hi : i < 8) (hl : tkE T s - s = ((scLen.getD i 0 : Nat) : Int)) (hc : ∀ j : Int, 0 ≤ j → j < ((scLen.getD i 0 : Nat) : Int) → ch T (s + j) = scC i j) : slc T s = scI i := by
  apply List.ext_getElem?
  intro j
  by_cases hj : j < scLen.getD i 0
  · rw [slc_at h0 (by omega) h, scI_at hi hj, hc j (by omega) (by omega)]
  · rw [List.getElem?_eq_none (by rw [slc_len h0 h]; omega), List.getElem?_eq_none (by rw [scI_len i hi]; omega)]
theorem slc_ne {T : List Int} {s : Int} {i : Nat} (h0 : 0 ≤ s) (h : s ≤ (T.length : Int)) (hi : i < 8) {j : Int} (hj : 0 ≤ j ∧ j < ((scLen.getD i 0 : Nat) : Int)) (hl : tkE T s - s = ((scLen.getD i 0 : Nat) : Int)) (hc : ch T (s + j) ≠ scC i j) : slc T s ≠ scI i := by
  intro e
  have h1 := slc_at (T := T) (s := s) (j := j.toNat) h0 (by omega) h
  have h2 := scI_at (i := i) (j := j.toNat) hi (by omega)
  rw [e, h2, show ((j.toNat : Nat) : Int) = j by omega] at h1
  exact hc (Option.some.inj h1).symm
theorem slc_nl {T : List Int} {s : Int} {i : Nat} (h0 : 0 ≤ s) (h : s ≤ (T.length : Int)) (hi : i < 8) (hl : tkE T s - s ≠ ((scLen.getD i 0 : Nat) : Int)) : slc T s ≠ scI i := by
  intro e
  have h1 := congrArg List.length e
  rw [slc_len h0 h, scI_len i hi] at h1
  have := tkE_bd h0 h
  omega
set_option maxRecDepth 100000 in
set_option maxHeartbeats 4000000 in
theorem l_X2_isWord (G : Gb) (l : Launch) {w : Wd} {T : List Int} (hT : TX w T) {p : Int} (hk : tokA w T p) {i : Nat} (hi : i < 8) (hl : tkE T p - p = ((scLen.getD i 0 : Nat) : Int)) {Post : Int → Wd → Prop} (hp : Post (if slc T p = scI i then 1 else 0) w) : ∀ (n : Nat) (j : Int), 0 ≤ j → j + n = ((scLen.getD i 0 : Nat) : Int) → (∀ k : Int, 0 ≤ k → k < j → ch T (p + k) = scC i k) → V G l mX2_isWord (Qi G Post) 20 [some (.ref (gA G 1)), some (.ref (gK G i)), some (.int (iZ j))] [] w := by
  have h7 := sc_le i hi
  have k2 := hT.2.1
  have tb := tkE_bd hk.1.1 hk.1.2
  have e4 := hk.2.1
  have hk0 := hk.1
  intro n
  induction n with
  | zero =>
    intro j h0 h1 hc
    refine V_iload_n dX2_isWord_20 rfl ?_
    refine V_aload_n dX2_isWord_21 rfl ?_
    refine V_iK0 dX2_isWord_22 o_X2_isWord_126 hi (Nat.le_of_ble_eq_true rfl) (c_strlen G l hi) ?_
    rintro _ _ ⟨rfl, rfl⟩
    refine V_icmp_ge (tgt := 55) dX2_isWord_25 (by decide) (by omega) (by omega) (fun _ => ?_) (fun h => absurd h (by omega))
    refine V_iconst dX2_isWord_55 ?_
    exact V_zret dX2_isWord_56 rfl (by omega) (by rw [if_pos (slc_eq hk.1.1 hk.1.2 hi hl (fun k g0 g1 => hc k g0 (by omega)))] at hp; exact hp)
  | succ n ih =>
    intro j h0 h1 hc
    have hch := sc_ch i hi j.toNat (by omega)
    rw [show ((j.toNat : Nat) : Int) = j by omega] at hch
    have q := hT.2.2 (p + j) (by have := hk.1.1; omega) (by omega)
    refine V_iload_n dX2_isWord_20 rfl ?_
    refine V_aload_n dX2_isWord_21 rfl ?_
    refine V_iK0 dX2_isWord_22 o_X2_isWord_126 hi (Nat.le_of_ble_eq_true rfl) (c_strlen G l hi) ?_
    rintro _ _ ⟨rfl, rfl⟩
    refine V_icmp_ge (tgt := 55) dX2_isWord_25 (by decide) (by omega) (by omega) (fun h => absurd h (by omega)) (fun _ => ?_)
    refine V_aload_n dX2_isWord_28 rfl ?_
    refine V_getR (ci := 2) (j := 0) dX2_isWord_29 s_1 rfl rfl i_X2_isWord_X2 (by decide) f_X2_isWord_9 ?_
    refine V_aload_n dX2_isWord_32 rfl ?_
    refine V_getIE (ci := 2) (j := 4) (ji := 4) (z := p) dX2_isWord_33 s_1 rfl rfl i_X2_isWord_X2 (by decide) f_X2_isWord_43 rfl e4 ?_
    refine V_iload_n dX2_isWord_36 rfl ?_
    refine V_iadd dX2_isWord_37 ?_
    refine V_ialdE (z := ch T (p + j)) dX2_isWord_38 s_2 (by have := hk.1.1; omega) q.1 ?_
    refine V_aload_n dX2_isWord_39 rfl ?_
    refine V_iload_n dX2_isWord_40 rfl ?_
    refine V_iK1 dX2_isWord_41 o_X2_isWord_131 hi (Nat.le_of_ble_eq_true rfl) (c_chrAt G l hi (by omega)) ?_
    rintro _ _ ⟨rfl, rfl⟩
    refine V_icmp_eq (tgt := 49) dX2_isWord_44 (by decide) (by omega) (by omega) (fun h44 => ?_) (fun h44 => ?_)
    · refine V_iinc dX2_isWord_49 rfl (by decide) rfl ?_
      refine V_goto (tgt := 20) dX2_isWord_52 (by decide) ?_
      refine ih (j + 1) (by omega) (by omega) (fun k g0 g1 => ?_)
      by_cases e : k = j
      · subst e; exact h44
      · exact hc k g0 (by omega)
    · refine V_iconst dX2_isWord_47 ?_
      exact V_zret dX2_isWord_48 rfl (by omega) (by rw [if_neg (slc_ne hk.1.1 hk.1.2 hi ⟨h0, by omega⟩ hl h44)] at hp; exact hp)
set_option maxRecDepth 100000 in
set_option maxHeartbeats 4000000 in
theorem c_X2_isWord (G : Gb) (l : Launch) {w : Wd} {T : List Int} (hT : TX w T) {p : Int} (hk : tokA w T p) {i : Nat} (hi : i < 8) : Ci G l yX2_isWord mX2_isWord [.ref (gA G 1), .ref (gK G i)] w (fun z w' => z = (if slc T p = scI i then 1 else 0) ∧ w = w') := by
  have h7 := sc_le i hi
  have k2 := hT.2.1
  have tb := tkE_bd hk.1.1 hk.1.2
  have hk0 := hk.1
  refine V_start 1 (by decide) rfl rfl (Nat.le_of_ble_eq_true rfl) ?_
  show V G l mX2_isWord _ 0 [some (.ref (gA G 1)), some (.ref (gK G i)), none] [] w
  refine V_aload_n dX2_isWord_0 rfl ?_
  refine V_getIE (ci := 2) (j := 5) (ji := 5) (z := tkE T p) dX2_isWord_1 s_1 rfl rfl i_X2_isWord_X2 (by decide) f_X2_isWord_33 rfl hk.2.2.1 ?_
  refine V_aload_n dX2_isWord_4 rfl ?_
  refine V_getIE (ci := 2) (j := 4) (ji := 4) (z := p) dX2_isWord_5 s_1 rfl rfl i_X2_isWord_X2 (by decide) f_X2_isWord_43 rfl hk.2.1 ?_
  refine V_isub dX2_isWord_8 ?_
  refine V_aload_n dX2_isWord_9 rfl ?_
  refine V_iK0 dX2_isWord_10 o_X2_isWord_126 hi (Nat.le_of_ble_eq_true rfl) (c_strlen G l hi) ?_
  rintro _ _ ⟨rfl, rfl⟩
  refine V_icmp_eq (tgt := 18) dX2_isWord_13 (by decide) (by omega) (by omega) (fun h13 => ?_) (fun h13 => ?_)
  · refine V_iconst dX2_isWord_18 ?_
    refine V_istore_n dX2_isWord_19 (by decide) rfl ?_
    exact l_X2_isWord G l hT hk hi h13 ⟨rfl, rfl⟩ (scLen.getD i 0) 0 (by omega) (by omega) (fun k g0 g1 => absurd g1 (by omega))
  · refine V_iconst dX2_isWord_16 ?_
    exact V_zret dX2_isWord_17 rfl (by omega) ⟨by rw [if_neg (slc_nl hk.1.1 hk.1.2 hi h13)], rfl⟩
theorem kd_3 {T : List Int} {s : Int} : (kd T s = 3 ∧ ch T s = 59) ↔ (s < (T.length : Int) ∧ ch T s = 59) := by
  constructor
  · rintro ⟨h1, h2⟩
    refine ⟨?_, h2⟩
    unfold kd at h1
    split at h1
    · assumption
    · omega
  · rintro ⟨h1, h2⟩
    refine ⟨?_, h2⟩
    unfold kd
    rw [if_pos h1, h2]
    rfl
set_option maxRecDepth 100000 in
set_option maxHeartbeats 4000000 in
theorem c_X2_isAtSemicolon (G : Gb) (l : Launch) {w : Wd} {T : List Int} (hT : TX w T) {p : Int} (hk : tokA w T p) : Ci G l yX2_isAtSemicolon mX2_isAtSemicolon [.ref (gA G 1)] w (fun z w' => z = (if p < (T.length : Int) ∧ ch T p = 59 then 1 else 0) ∧ w = w') := by
  refine V_start 0 (by decide) rfl rfl (Nat.le_of_ble_eq_true rfl) ?_
  show V G l mX2_isAtSemicolon _ 0 [some (.ref (gA G 1))] [] w
  have hk0 := hk.1
  have k2 := hT.2.1
  have kb := kd_bd T p
  have e4 := hk.2.1
  have e5 := hk.2.2.1
  have e6 := hk.2.2.2.1
  have tb := tkE_bd hk.1.1 hk.1.2
  refine V_aload_n dX2_isAtSemicolon_0 rfl ?_
  refine V_getIE (ci := 2) (j := 6) (ji := 6) (z := kd T p) dX2_isAtSemicolon_1 s_1 rfl rfl i_X2_isAtSemicolon_X2 (by decide) f_X2_isAtSemicolon_46 rfl e6 ?_
  refine V_iconst dX2_isAtSemicolon_4 ?_
  refine V_icmp_ne (tgt := 26) dX2_isAtSemicolon_5 (by decide) (by omega) (by omega) (fun h5 => ?_) (fun h5 => ?_)
  · refine V_iconst dX2_isAtSemicolon_26 ?_
    exact V_zret dX2_isAtSemicolon_27 rfl (by omega) ⟨by first | rw [if_pos (kd_3.mp ⟨h5, h19⟩)] | rw [if_neg (fun z => h5 (kd_3.mpr z).1)] | rw [if_neg (fun z => h19 z.2)], rfl⟩
  · refine V_aload_n dX2_isAtSemicolon_8 rfl ?_
    refine V_getR (ci := 2) (j := 0) dX2_isAtSemicolon_9 s_1 rfl rfl i_X2_isAtSemicolon_X2 (by decide) f_X2_isAtSemicolon_9 ?_
    refine V_aload_n dX2_isAtSemicolon_12 rfl ?_
    refine V_getIE (ci := 2) (j := 4) (ji := 4) (z := p) dX2_isAtSemicolon_13 s_1 rfl rfl i_X2_isAtSemicolon_X2 (by decide) f_X2_isAtSemicolon_43 rfl e4 ?_
    have hlt : p < (T.length : Int) := by
      unfold kd at h5
      split at h5
      · assumption
      · omega
    have q := hT.2.2 p hk.1.1 hlt
    refine V_ialdE (z := ch T p) dX2_isAtSemicolon_16 s_2 (by omega) q.1 ?_
    refine V_bipush dX2_isAtSemicolon_17 rfl ?_
    refine V_icmp_ne (tgt := 26) dX2_isAtSemicolon_19 (by decide) (by omega) (by omega) (fun h19 => ?_) (fun h19 => ?_)
    · refine V_iconst dX2_isAtSemicolon_26 ?_
      exact V_zret dX2_isAtSemicolon_27 rfl (by omega) ⟨by first | rw [if_pos (kd_3.mp ⟨h5, h19⟩)] | rw [if_neg (fun z => h5 (kd_3.mpr z).1)] | rw [if_neg (fun z => h19 z.2)], rfl⟩
    · refine V_iconst dX2_isAtSemicolon_22 ?_
      refine V_goto (tgt := 27) dX2_isAtSemicolon_23 (by decide) ?_
      exact V_zret dX2_isAtSemicolon_27 rfl (by omega) ⟨by first | rw [if_pos (kd_3.mp ⟨h5, h19⟩)] | rw [if_neg (fun z => h5 (kd_3.mpr z).1)] | rw [if_neg (fun z => h19 z.2)], rfl⟩

/-! ===== 23 a line, the whole text: the class's reader ===== -/
/-- a line that was read: its word (0 wood, 1 oak .. 4 hollow, 5 part, 6 quarrel, 7 hands), its numbers -/
abbrev Li : Type := Int × Int × Int × Int
/-- can the line stand, where is the token behind it (or at fault), the line -/
abbrev LR : Type := Bool × Int × Li
def lfail (s : Int) : LR := (false, s, 0, 0, 0, 0)
def nmP (T : List Int) (s lo hi : Int) (k : Int → Int → LR) : LR := if okN T s lo hi then k (vl T s) (nx T s) else lfail s
theorem nmP_y {T : List Int} {s lo hi : Int} {k : Int → Int → LR} (h : okN T s lo hi) : nmP T s lo hi k = k (vl T s) (nx T s) := if_pos h
theorem nmP_n {T : List Int} {s lo hi : Int} {k : Int → Int → LR} (h : ¬ okN T s lo hi) : nmP T s lo hi k = lfail s := if_neg h
def trP (T : List Int) (nt s c : Int) : LR := if nt = 6 then lfail s else nmP T (nx T s) 0 99 (fun a s1 => nmP T s1 0 50 (fun b s2 => nmP T s2 1 99 (fun e s3 => (true, s3, c, a, b, e))))
def paP (T : List Int) (nt s : Int) : LR := nmP T (nx T s) 0 (nt - 1) (fun a s1 => nmP T s1 0 9 (fun b s2 => (true, s2, 5, a, b, 0)))
def quP (T : List Int) (nt nq s : Int) : LR := if nq = 6 then lfail s else nmP T (nx T s) 0 (nt - 1) (fun a s1 => if okN T s1 0 (nt - 1) ∧ vl T s1 ≠ a then (true, nx T s1, 6, a, vl T s1, 0) else lfail s1)
def haP (T : List Int) (s : Int) : LR := nmP T (nx T s) 0 99 (fun a s1 => (true, s1, 7, a, 0, 0))
def woP (T : List Int) (s : Int) : LR := (true, nx T s, 0, 0, 0, 0)
def wdS (T : List Int) (s : Int) : Int := if slc T s = scI 1 then 1 else if slc T s = scI 2 then 2 else if slc T s = scI 3 then 3 else if slc T s = scI 4 then 4 else if slc T s = scI 0 then 0 else if slc T s = scI 5 then 5 else if slc T s = scI 6 then 6 else if slc T s = scI 7 then 7 else -1
def lnP (T : List Int) (nt nq s : Int) : LR := if wdS T s = -1 then lfail s else if wdS T s = 0 then woP T s else if wdS T s = 5 then paP T nt s else if wdS T s = 6 then quP T nt nq s else if wdS T s = 7 then haP T s else trP T nt s (wdS T s)
/-- what a line does to what is told -/
def apL (x : Li) (t : TS) : TS :=
  if x.1 = 0 then (0, t.2.1, t.2.2.1, t.2.2.2.1, t.2.2.2.2.1, t.2.2.2.2.2.1, [], 5)
  else if x.1 = 5 then (t.1, t.2.1, t.2.2.1, t.2.2.2.1, t.2.2.2.2.1, t.2.2.2.2.2.1.set x.2.1.toNat x.2.2.1, t.2.2.2.2.2.2.1, t.2.2.2.2.2.2.2)
  else if x.1 = 6 then (t.1, t.2.1, t.2.2.1, t.2.2.2.1, t.2.2.2.2.1, t.2.2.2.2.2.1, t.2.2.2.2.2.2.1 ++ [(x.2.1, x.2.2.1)], t.2.2.2.2.2.2.2)
  else if x.1 = 7 then (t.1, t.2.1, t.2.2.1, t.2.2.2.1, t.2.2.2.2.1, t.2.2.2.2.2.1, t.2.2.2.2.2.2.1, x.2.1)
  else (t.1 + 1, t.2.1.set t.1.toNat (x.1 - 1), t.2.2.1.set t.1.toNat x.2.1, t.2.2.2.1.set t.1.toNat x.2.2.1, t.2.2.2.2.1.set t.1.toNat x.2.2.2, t.2.2.2.2.2.1.set t.1.toNat 0, t.2.2.2.2.2.2.1, t.2.2.2.2.2.2.2)
/-- nothing but the token and the draft has changed -/
def frX (w w' : Wd) : Prop := ∀ (k : Nat) (j : Int), (k ≠ 1 ∨ j < 4 ∨ 7 < j) → (k < 13 ∨ 20 < k) → w' k j = w k j
theorem frk.x {w w' : Wd} (h : frk w w') : frX w w' := fun k j q1 _ => h k j q1
theorem frX.t {w1 w2 w3 : Wd} (h1 : frX w1 w2) (h2 : frX w2 w3) : frX w1 w3 := fun k j q1 q2 => (h2 k j q1 q2).trans (h1 k j q1 q2)
theorem frk.t {w1 w2 w3 : Wd} (h1 : frk w1 w2) (h2 : frk w2 w3) : frk w1 w3 := fun k j q1 => (h2 k j q1).trans (h1 k j q1)
theorem frX.tx {w w' : Wd} {T : List Int} (h : frX w w') (hT : TX w T) : TX w' T := hT.keep (h _ _ (by omega) (by omega)) (fun i => h _ _ (by omega) (by omega))
theorem frk.as {w w' : Wd} {d : Nat} (hd : IsTd d) (h : frk w w') : tAS w' d = tAS w d := tAS_eq (fun k j q1 q2 => h k j (by omega))
/-- behind a line's reading -/
def liR (T : List Int) (r : LR) (w w' : Wd) (z : Int) : Prop := z = (if r.1 = true then 1 else 0) ∧ tokA w' T r.2.1 ∧ okT w' 13 ∧ tAS w' 13 = (if r.1 = true then apL r.2.2 (tAS w 13) else tAS w 13) ∧ frX w w'
theorem li_fail {T : List Int} {s : Int} {w w' : Wd} (hk : tokA w' T s) (ho : okT w 13) (hf : frk w w') : liR T (lfail s) w w' 0 :=
  ⟨rfl, hk, okT_frk (Or.inr rfl) ho hf, hf.as (Or.inr rfl), hf.x⟩
/-- the draft's changes -/
theorem tAS_fg {w : Wd} : tAS (up (up (up w 13 0 0) 13 6 0) 13 9 5) 13 = apL (0, 0, 0, 0) (tAS w 13) := by
  have g : ∀ (k : Nat) (j : Int), k ≠ 13 → up (up (up w 13 0 0) 13 6 0) 13 9 5 k j = w k j := fun k j q => by rw [up_ne (by omega), up_ne (by omega), up_ne (by omega)]
  have eq : qsC (up (up (up w 13 0 0) 13 6 0) 13 9 5) 13 = [] := by
    unfold qsC
    rw [up_ne (by omega), up_eq]
    rfl
  unfold tAS apL
  dsimp only
  rw [if_pos rfl, eq, up_eq, up_ne (by omega), up_ne (by omega), up_eq, gl_eq (w' := w) (k' := 13 + 1) (o' := 0) (fun i _ _ => g _ _ (by omega)), gl_eq (w' := w) (k' := 13 + 2) (o' := 0) (k := 13 + 2) (fun i _ _ => g _ _ (by omega)), gl_eq (w' := w) (k' := 13 + 3) (o' := 0) (k := 13 + 3) (fun i _ _ => g _ _ (by omega)), gl_eq (w' := w) (k' := 13 + 4) (o' := 0) (k := 13 + 4) (fun i _ _ => g _ _ (by omega)), gl_eq (w' := w) (k' := 13 + 5) (o' := 0) (k := 13 + 5) (fun i _ _ => g _ _ (by omega))]
theorem okT_fg {w : Wd} (h : okT w 13) : okT (up (up (up w 13 0 0) 13 6 0) 13 9 5) 13 := by
  have g : ∀ (k : Nat) (j : Int), k ≠ 13 → up (up (up w 13 0 0) 13 6 0) 13 9 5 k j = w k j := fun k j q => by rw [up_ne (by omega), up_ne (by omega), up_ne (by omega)]
  have e6 : up (up (up w 13 0 0) 13 6 0) 13 9 5 13 6 = 0 := by rw [up_ne (by omega), up_eq]
  refine ⟨by rw [up_ne (by omega), up_ne (by omega), up_eq]; omega, by rw [e6]; omega, by rw [up_eq]; omega, fun t q0 q1 => ?_, fun q q0 q1 => ?_⟩
  · rw [g _ _ (by omega), g _ _ (by omega), g _ _ (by omega), g _ _ (by omega), g _ _ (by omega)]
    exact h.2.2.2.1 t q0 q1
  · rw [e6] at q1
    omega
theorem gl_up_ne {w : Wd} {k k2 : Nat} {o j z : Int} {n : Nat} (h : k ≠ k2) : gl (up w k2 j z) k o n = gl w k o n := gl_eq (fun i _ _ => up_ne (Or.inl h))
theorem gl_up {w : Wd} {k : Nat} {j z : Int} {n : Nat} (h : 0 ≤ j) : gl (up w k j z) k 0 n = (gl w k 0 n).set j.toNat z := by
  have := gl_set (w := w) (k := k) (o := 0) (t := j) (z := z) (n := n) h
  rwa [Int.zero_add] at this
theorem qsC_up {w : Wd} {d k : Nat} {j z : Int} (h : k ≠ d + 6 ∧ k ≠ d + 7) (h2 : k ≠ d ∨ j ≠ 6) : qsC (up w k j z) d = qsC w d := qsC_eq (up_ne (by omega)) (fun i _ _ => ⟨up_ne (by omega), up_ne (by omega)⟩)
theorem tAS_at {w : Wd} {c a b e : Int} (h : 0 ≤ w 13 0) (hc : 1 ≤ c ∧ c ≤ 4) : tAS (atW w 13 (c - 1) a b e) 13 = apL (c, a, b, e) (tAS w 13) := by
  unfold tAS apL atW
  dsimp only
  rw [if_neg (by omega), if_neg (by omega), if_neg (by omega), if_neg (by omega)]
  rw [up_eq, gl_up_ne (by omega), gl_up_ne (by omega), gl_up_ne (by omega), gl_up_ne (by omega), gl_up_ne (by omega), gl_up h,
    gl_up_ne (k := 13 + 2) (by omega), gl_up_ne (k := 13 + 2) (by omega), gl_up_ne (k := 13 + 2) (by omega), gl_up_ne (k := 13 + 2) (by omega), gl_up h, gl_up_ne (k := 13 + 2) (by omega),
    gl_up_ne (k := 13 + 3) (by omega), gl_up_ne (k := 13 + 3) (by omega), gl_up_ne (k := 13 + 3) (by omega), gl_up h, gl_up_ne (k := 13 + 3) (by omega), gl_up_ne (k := 13 + 3) (by omega),
    gl_up_ne (k := 13 + 4) (by omega), gl_up_ne (k := 13 + 4) (by omega), gl_up h, gl_up_ne (k := 13 + 4) (by omega), gl_up_ne (k := 13 + 4) (by omega), gl_up_ne (k := 13 + 4) (by omega),
    gl_up_ne (k := 13 + 5) (by omega), gl_up h, gl_up_ne (k := 13 + 5) (by omega), gl_up_ne (k := 13 + 5) (by omega), gl_up_ne (k := 13 + 5) (by omega), gl_up_ne (k := 13 + 5) (by omega),
    qsC_up (by omega) (by omega), qsC_up (by omega) (by omega), qsC_up (by omega) (by omega), qsC_up (by omega) (by omega), qsC_up (by omega) (by omega), qsC_up (by omega) (by omega),
    up_ne (j' := 9) (by omega), up_ne (j' := 9) (by omega), up_ne (j' := 9) (by omega), up_ne (j' := 9) (by omega), up_ne (j' := 9) (by omega), up_ne (j' := 9) (by omega)]
theorem okT_up {w : Wd} {d k : Nat} {j z : Int} (h : okT w d) (hz : (k = d + 1 → 0 ≤ z ∧ z ≤ 3) ∧ (k = d + 2 → 0 ≤ z ∧ z ≤ 99) ∧ (k = d + 3 → 0 ≤ z ∧ z ≤ 50) ∧ (k = d + 4 → 0 ≤ z ∧ z ≤ 99) ∧ (k = d + 5 → 0 ≤ z ∧ z ≤ 9) ∧ (k = d → j = 0 → 0 ≤ z ∧ z ≤ 6) ∧ (k = d → j ≠ 6) ∧ (k = d → j = 9 → 0 ≤ z ∧ z ≤ 99) ∧ k ≠ d + 6 ∧ k ≠ d + 7) : okT (up w k j z) d := by
  obtain ⟨h1, h2, h3, h4, h5⟩ := h
  obtain ⟨z1, z2, z3, z4, z5, z6, z7, z8, z9, z10⟩ := hz
  have c1 : ∀ (k' : Nat) (j' : Int) (P : Int → Prop), P (w k' j') → (k = k' → j = j' → P z) → P (up w k j z k' j') := by
    intro k' j' P q1 q2
    by_cases e : k' = k ∧ j' = j
    · rw [e.1, e.2, up_eq]
      exact q2 e.1.symm e.2.symm
    · rw [up_ne (by omega)]
      exact q1
  refine ⟨c1 d 0 (fun x => 0 ≤ x ∧ x ≤ 6) h1 z6, c1 d 6 (fun x => 0 ≤ x ∧ x ≤ 6) h2 (fun a b => absurd b (z7 a)), c1 d 9 (fun x => 0 ≤ x ∧ x ≤ 99) h3 z8, fun t q0 q1 => ?_, fun q q0 q1 => ?_⟩
  · obtain ⟨a1, a2, a3, a4, a5⟩ := h4 t q0 q1
    exact ⟨c1 _ _ (fun x => 0 ≤ x ∧ x ≤ 3) a1 (fun a _ => z1 a), c1 _ _ (fun x => 0 ≤ x ∧ x ≤ 99) a2 (fun a _ => z2 a), c1 _ _ (fun x => 0 ≤ x ∧ x ≤ 50) a3 (fun a _ => z3 a), c1 _ _ (fun x => 0 ≤ x ∧ x ≤ 99) a4 (fun a _ => z4 a), c1 _ _ (fun x => 0 ≤ x ∧ x ≤ 9) a5 (fun a _ => z5 a)⟩
  · rw [up_ne (by omega)] at q1
    rw [up_ne (by omega), up_ne (by omega)]
    exact h5 q q0 q1
theorem okT_at {w : Wd} {c a b e : Int} (h : okT w 13) (h6 : w 13 0 < 6) (hc : 1 ≤ c ∧ c ≤ 4) (ha : 0 ≤ a ∧ a ≤ 99) (hb : 0 ≤ b ∧ b ≤ 50) (he : 0 ≤ e ∧ e ≤ 99) : okT (atW w 13 (c - 1) a b e) 13 := by
  have h0 := h.1
  unfold atW
  refine okT_up (okT_up (okT_up (okT_up (okT_up (okT_up h ?_) ?_) ?_) ?_) ?_) ?_ <;> omega
theorem tAS_pa {w : Wd} {a b : Int} (h : 0 ≤ a) : tAS (up w 18 a b) 13 = apL (5, a, b, 0) (tAS w 13) := by
  unfold tAS apL
  dsimp only
  rw [if_neg (by omega), if_pos rfl, up_ne (by omega), up_ne (by omega), gl_up_ne (k := 13 + 1) (by omega), gl_up_ne (k := 13 + 2) (by omega), gl_up_ne (k := 13 + 3) (by omega), gl_up_ne (k := 13 + 4) (by omega), gl_up (k := 13 + 5) h, qsC_up (by omega) (by omega)]
theorem tAS_ha {w : Wd} {a : Int} : tAS (up w 13 9 a) 13 = apL (7, a, 0, 0) (tAS w 13) := by
  unfold tAS apL
  dsimp only
  rw [if_neg (by omega), if_neg (by omega), if_neg (by omega), if_pos rfl, up_ne (by omega), up_eq, gl_up_ne (by omega), gl_up_ne (k := 13 + 2) (by omega), gl_up_ne (k := 13 + 3) (by omega), gl_up_ne (k := 13 + 4) (by omega), gl_up_ne (k := 13 + 5) (by omega), qsC_up (by omega) (by omega)]
theorem qsC_aq {w : Wd} {d : Nat} {a o : Int} (h : 0 ≤ w d 6) : qsC (aqW w d a o) d = qsC w d ++ [(a, o)] := by
  have e6 : aqW w d a o d 6 = w d 6 + 1 := by unfold aqW; rw [up_eq]
  have g : ∀ (k : Nat) (j : Int), j ≠ w d 6 → (k = d + 6 ∨ k = d + 7) → aqW w d a o k j = w k j := by
    intro k j q1 q2
    unfold aqW
    rw [up_ne (by omega), up_ne (by omega), up_ne (by omega)]
  unfold qsC
  rw [e6, show (w d 6 + 1).toNat = (w d 6).toNat + 1 by omega, List.range_succ, List.map_append, List.map_cons, List.map_nil]
  congr 1
  · apply List.map_congr_left
    intro i hi
    have hi2 := List.mem_range.mp hi
    rw [g _ _ (by omega) (by omega), g _ _ (by omega) (by omega)]
  · rw [show (((w d 6).toNat : Nat) : Int) = w d 6 by omega]
    unfold aqW
    rw [up_ne (by omega), up_ne (by omega), up_eq, up_ne (by omega), up_eq]
theorem tAS_aq {w : Wd} {a o : Int} (h : 0 ≤ w 13 6) : tAS (aqW w 13 a o) 13 = apL (6, a, o, 0) (tAS w 13) := by
  have g : ∀ (k : Nat) (j : Int), k ≠ 13 + 6 → k ≠ 13 + 7 → (k ≠ 13 ∨ j ≠ 6) → aqW w 13 a o k j = w k j := by
    intro k j q1 q2 q3
    unfold aqW
    rw [up_ne (by omega), up_ne (by omega), up_ne (by omega)]
  unfold tAS apL
  dsimp only
  rw [if_neg (by omega), if_neg (by omega), if_pos rfl, qsC_aq h, g _ _ (by omega) (by omega) (by omega), g 13 9 (by omega) (by omega) (by omega), gl_eq (w := aqW w 13 a o) (k := 13 + 1) (w' := w) (k' := 13 + 1) (o' := 0) (fun i _ _ => g _ _ (by omega) (by omega) (by omega)), gl_eq (w := aqW w 13 a o) (k := 13 + 2) (w' := w) (k' := 13 + 2) (o' := 0) (fun i _ _ => g _ _ (by omega) (by omega) (by omega)), gl_eq (w := aqW w 13 a o) (k := 13 + 3) (w' := w) (k' := 13 + 3) (o' := 0) (fun i _ _ => g _ _ (by omega) (by omega) (by omega)), gl_eq (w := aqW w 13 a o) (k := 13 + 4) (w' := w) (k' := 13 + 4) (o' := 0) (fun i _ _ => g _ _ (by omega) (by omega) (by omega)), gl_eq (w := aqW w 13 a o) (k := 13 + 5) (w' := w) (k' := 13 + 5) (o' := 0) (fun i _ _ => g _ _ (by omega) (by omega) (by omega))]
theorem okT_aq {w : Wd} {a o : Int} (h : okT w 13) (h6 : w 13 6 < 6) (ha : 0 ≤ a ∧ a < 6) (ho : 0 ≤ o ∧ o < 6) : okT (aqW w 13 a o) 13 := by
  obtain ⟨h1, h2, h3, h4, h5⟩ := h
  have g : ∀ (k : Nat) (j : Int), (k ≠ 13 + 6 ∧ k ≠ 13 + 7 ∨ j ≠ w 13 6) → (k ≠ 13 ∨ j ≠ 6) → aqW w 13 a o k j = w k j := by
    intro k j q1 q3
    unfold aqW
    rw [up_ne (by omega), up_ne (by omega), up_ne (by omega)]
  have e6 : aqW w 13 a o 13 6 = w 13 6 + 1 := by unfold aqW; rw [up_eq]
  refine ⟨by rw [g _ _ (by omega) (by omega)]; exact h1, by rw [e6]; omega, by rw [g _ _ (by omega) (by omega)]; exact h3, fun t q0 q1 => ?_, fun q q0 q1 => ?_⟩
  · rw [g _ _ (by omega) (by omega), g _ _ (by omega) (by omega), g _ _ (by omega) (by omega), g _ _ (by omega) (by omega), g _ _ (by omega) (by omega)]
    exact h4 t q0 q1
  · rw [e6] at q1
    by_cases e : q = w 13 6
    · subst e
      unfold aqW
      rw [up_ne (by omega), up_ne (by omega), up_eq, up_ne (by omega), up_eq]
      exact ⟨ha, ho⟩
    · rw [g _ _ (by omega) (by omega), g _ _ (by omega) (by omega)]
      exact h5 q q0 (by omega)
set_option maxRecDepth 100000 in
set_option maxHeartbeats 4000000 in
theorem c_X2_readWood (G : Gb) (l : Launch) {w : Wd} {T : List Int} (hT : TX w T) {p : Int} (hk : tokA w T p) (ho : okT w 13) : Ci G l yX2_readWood mX2_readWood [.ref (gA G 1)] w (fun z w' => liR T (woP T p) w w' z) := by
  refine V_start 0 (by decide) rfl rfl (Nat.le_of_ble_eq_true rfl) ?_
  show V G l mX2_readWood _ 0 [some (.ref (gA G 1))] [] w
  refine V_aload_n dX2_readWood_0 rfl ?_
  refine V_getR (ci := 2) (j := 2) dX2_readWood_1 s_1 rfl rfl i_X2_readWood_X2 (by decide) f_X2_readWood_18 ?_
  refine V_vV0 dX2_readWood_4 o_X2_readWood_88 s_13 rfl (Nat.le_of_ble_eq_true rfl) (c_X3_forget G l (Or.inr rfl)) ?_
  rintro _ rfl
  generalize hu : up (up (up w 13 0 0) 13 6 0) 13 9 5 = u
  have gu : ∀ (k : Nat) (j : Int), k ≠ 13 → u k j = w k j := fun k j q => by rw [← hu, up_ne (by omega), up_ne (by omega), up_ne (by omega)]
  have hTu : TX u T := hT.keep (gu _ _ (by omega)) (fun i => gu _ _ (by omega))
  have ou : okT u 13 := by rw [← hu]; exact okT_fg ho
  have au : tAS u 13 = apL (0, 0, 0, 0) (tAS w 13) := by rw [← hu]; exact tAS_fg
  refine V_aload_n dX2_readWood_7 rfl ?_
  refine V_vV0 dX2_readWood_8 o_X2_readWood_36 s_1 rfl (Nat.le_of_ble_eq_true rfl) (c_X2_nextToken G l hTu (by rw [gu _ _ (by omega)]; exact hk.nx5)) ?_
  rintro w1 ⟨t1, f1⟩
  rw [gu _ _ (by omega), hk.2.2.1] at t1
  refine V_iconst dX2_readWood_11 ?_
  exact V_zret dX2_readWood_12 rfl (by omega) ⟨rfl, t1, okT_frk (Or.inr rfl) ou f1, (f1.as (Or.inr rfl)).trans au, fun k j q1 q2 => (f1 k j q1).trans (gu _ _ (by omega))⟩
theorem hands_tok {w : Wd} {T : List Int} {s z : Int} (h : tokA w T s) : tokA (up w 13 9 z) T s := by
  unfold tokA
  rw [up_ne (by omega), up_ne (by omega), up_ne (by omega), up_ne (by omega)]
  exact h
theorem tok_keep {w w' : Wd} {T : List Int} {s : Int} (h : tokA w T s) (hf : ∀ j : Int, w' 1 j = w 1 j) : tokA w' T s := by
  unfold tokA
  rw [hf, hf, hf, hf]
  exact h
set_option maxRecDepth 100000 in
set_option maxHeartbeats 4000000 in
theorem c_X2_readHands (G : Gb) (l : Launch) {w : Wd} {T : List Int} (hT : TX w T) {p : Int} (hk : tokA w T p) (ho : okT w 13) : Ci G l yX2_readHands mX2_readHands [.ref (gA G 1)] w (fun z w' => liR T (haP T p) w w' z) := by
  refine V_start 1 (by decide) rfl rfl (Nat.le_of_ble_eq_true rfl) ?_
  show V G l mX2_readHands _ 0 [some (.ref (gA G 1)), none] [] w
  refine V_aload_n dX2_readHands_0 rfl ?_
  refine V_vV0 dX2_readHands_1 o_X2_readHands_36 s_1 rfl (Nat.le_of_ble_eq_true rfl) (c_X2_nextToken G l hT hk.nx5) ?_
  rintro w1 ⟨t1, f1⟩
  rw [hk.2.2.1] at t1
  change tokA w1 T (nx T p) at t1
  have T1 := f1.tx hT
  have o1 := okT_frk (Or.inr rfl) ho f1
  refine V_aload_n dX2_readHands_4 rfl ?_
  refine V_iconst dX2_readHands_5 ?_
  refine V_bipush dX2_readHands_6 rfl ?_
  refine V_iV2 dX2_readHands_8 o_X2_readHands_94 s_1 rfl (Nat.le_of_ble_eq_true rfl) (c_X2_readNumber G l T1 t1 (by omega) (by omega)) ?_
  rintro z1 w2 ⟨a1, b1, f2⟩
  have T2 := f2.tx T1
  have o2 := okT_frk (Or.inr rfl) o1 f2
  have rz1 : inR z1 := by
    by_cases q9 : okN T (nx T p) 0 99
    · have := (a1 q9).1; have := q9.2.2.2; omega
    · have := (b1 q9).1; omega
  refine V_istore_n dX2_readHands_11 (by decide) rfl ?_
  refine V_iload_n dX2_readHands_12 rfl ?_
  refine V_iconst dX2_readHands_13 ?_
  refine V_icmp_ne (tgt := 19) dX2_readHands_14 (by decide) (by omega) (by omega) (fun h14 => ?_) (fun h14 => ?_)
  · have g1 : okN T (nx T p) 0 99 := by
      by_cases q9 : okN T (nx T p) 0 99
      · exact q9
      · exact absurd (b1 q9).1 (by omega)
    obtain ⟨v1, t2⟩ := a1 g1
    subst v1
    refine V_aload_n dX2_readHands_19 rfl ?_
    refine V_getR (ci := 2) (j := 2) dX2_readHands_20 s_1 rfl rfl i_X2_readHands_X2 (by decide) f_X2_readHands_18 ?_
    refine V_iload_n dX2_readHands_23 rfl ?_
    refine V_putI (ci := 3) (j := 9) (ji := 9) dX2_readHands_24 s_13 rfl rfl i_X2_readHands_X3 tyX3_ok nmX3 (by decide) f_X2_readHands_115 rfl rfl rfl ?_
    refine V_iconst dX2_readHands_27 ?_
    exact V_zret dX2_readHands_28 rfl (by omega) (by unfold haP; rw [nmP_y g1]; have q1 := hands_tok t2 (z := vl T (nx T p)); exact ⟨rfl, q1, okT_up o2 (by have := g1.2.2.2; omega), tAS_ha.trans (by rw [(f1.t f2).as (Or.inr rfl)]; rfl), fun k j q1 q2 => by rw [up_ne (by omega)]; exact (f1.t f2) k j q1⟩)
  · have g1 : ¬ okN T (nx T p) 0 99 := fun q9 => by have q8 := (a1 q9).1; have := q9.2.2.2; omega
    obtain ⟨-, hw1⟩ := b1 g1
    subst hw1
    refine V_iconst dX2_readHands_17 ?_
    exact V_zret dX2_readHands_18 rfl (by omega) (by unfold haP; rw [nmP_n g1]; exact li_fail t1 ho f1)
set_option maxRecDepth 100000 in
set_option maxHeartbeats 4000000 in
theorem c_X2_readPart (G : Gb) (l : Launch) {w : Wd} {T : List Int} (hT : TX w T) {p : Int} (hk : tokA w T p) (ho : okT w 13) : Ci G l yX2_readPart mX2_readPart [.ref (gA G 1)] w (fun z w' => liR T (paP T (w 13 0) p) w w' z) := by
  refine V_start 2 (by decide) rfl rfl (Nat.le_of_ble_eq_true rfl) ?_
  show V G l mX2_readPart _ 0 [some (.ref (gA G 1)), none, none] [] w
  refine V_aload_n dX2_readPart_0 rfl ?_
  refine V_vV0 dX2_readPart_1 o_X2_readPart_36 s_1 rfl (Nat.le_of_ble_eq_true rfl) (c_X2_nextToken G l hT hk.nx5) ?_
  rintro w1 ⟨t1, f1⟩
  rw [hk.2.2.1] at t1
  change tokA w1 T (nx T p) at t1
  have T1 := f1.tx hT
  have o1 := okT_frk (Or.inr rfl) ho f1
  refine V_aload_n dX2_readPart_4 rfl ?_
  refine V_iconst dX2_readPart_5 ?_
  refine V_aload_n dX2_readPart_6 rfl ?_
  refine V_getR (ci := 2) (j := 2) dX2_readPart_7 s_1 rfl rfl i_X2_readPart_X2 (by decide) f_X2_readPart_18 ?_
  refine V_getIE (ci := 3) (j := 0) (ji := 0) (z := w 13 0) dX2_readPart_10 s_13 rfl rfl i_X2_readPart_X3 (by decide) f_X2_readPart_91 rfl (f1 _ _ (by omega)) ?_
  refine V_iconst dX2_readPart_13 ?_
  refine V_isub dX2_readPart_14 ?_
  have ht := ho.1
  refine V_iV2 dX2_readPart_15 o_X2_readPart_94 s_1 rfl (Nat.le_of_ble_eq_true rfl) (c_X2_readNumber G l T1 t1 (by omega) (by omega)) ?_
  rintro z1 w2 ⟨a1, b1, f2⟩
  have T2 := f2.tx T1
  have o2 := okT_frk (Or.inr rfl) o1 f2
  have rz1 : inR z1 := by
    by_cases q9 : okN T (nx T p) 0 (w 13 0 - 1)
    · have := (a1 q9).1; have := q9.2.2.2; omega
    · have := (b1 q9).1; omega
  refine V_istore_n dX2_readPart_18 (by decide) rfl ?_
  refine V_iload_n dX2_readPart_19 rfl ?_
  refine V_iconst dX2_readPart_20 ?_
  refine V_icmp_ne (tgt := 26) dX2_readPart_21 (by decide) (by omega) (by omega) (fun h21 => ?_) (fun h21 => ?_)
  · have g1 : okN T (nx T p) 0 (w 13 0 - 1) := by
      by_cases q9 : okN T (nx T p) 0 (w 13 0 - 1)
      · exact q9
      · exact absurd (b1 q9).1 (by omega)
    obtain ⟨v1, t2⟩ := a1 g1
    subst v1
    refine V_aload_n dX2_readPart_26 rfl ?_
    refine V_iconst dX2_readPart_27 ?_
    refine V_bipush dX2_readPart_28 rfl ?_
    refine V_iV2 dX2_readPart_30 o_X2_readPart_94 s_1 rfl (Nat.le_of_ble_eq_true rfl) (c_X2_readNumber G l T2 t2 (by omega) (by omega)) ?_
    rintro z2 w3 ⟨a2, b2, f3⟩
    have T3 := f3.tx T2
    have o3 := okT_frk (Or.inr rfl) o2 f3
    have rz2 : inR z2 := by
      by_cases q9 : okN T (nx T (nx T p)) 0 9
      · have := (a2 q9).1; have := q9.2.2.2; omega
      · have := (b2 q9).1; omega
    refine V_istore_n dX2_readPart_33 (by decide) rfl ?_
    refine V_iload_n dX2_readPart_34 rfl ?_
    refine V_iconst dX2_readPart_35 ?_
    refine V_icmp_ne (tgt := 41) dX2_readPart_36 (by decide) (by omega) (by omega) (fun h36 => ?_) (fun h36 => ?_)
    · have g2 : okN T (nx T (nx T p)) 0 9 := by
        by_cases q9 : okN T (nx T (nx T p)) 0 9
        · exact q9
        · exact absurd (b2 q9).1 (by omega)
      obtain ⟨v2, t3⟩ := a2 g2
      subst v2
      refine V_aload_n dX2_readPart_41 rfl ?_
      refine V_getR (ci := 2) (j := 2) dX2_readPart_42 s_1 rfl rfl i_X2_readPart_X2 (by decide) f_X2_readPart_18 ?_
      refine V_getR (ci := 3) (j := 5) dX2_readPart_45 s_13 rfl rfl i_X2_readPart_X3 (by decide) f_X2_readPart_102 ?_
      refine V_iload_n dX2_readPart_48 rfl ?_
      refine V_iload_n dX2_readPart_49 rfl ?_
      have g1r := g1.2.2.2
      have g2r := g2.2.2.2
      refine V_iast dX2_readPart_50 s_18 (by omega) ?_
      refine V_iconst dX2_readPart_51 ?_
      exact V_zret dX2_readPart_52 rfl (by omega) (by unfold paP; rw [nmP_y g1, nmP_y g2]; exact ⟨rfl, tok_keep t3 (fun j => up_ne (by omega)), okT_up o3 (by omega), (tAS_pa (by omega)).trans (by rw [((f1.t f2).t f3).as (Or.inr rfl)]; rfl), fun k j q1 q2 => by rw [up_ne (by omega)]; exact ((f1.t f2).t f3) k j q1⟩)
    · have g2 : ¬ okN T (nx T (nx T p)) 0 9 := fun q9 => by have q8 := (a2 q9).1; have := q9.2.2.2; omega
      obtain ⟨-, hw2⟩ := b2 g2
      subst hw2
      refine V_iconst dX2_readPart_39 ?_
      exact V_zret dX2_readPart_40 rfl (by omega) (by unfold paP; rw [nmP_y g1, nmP_n g2]; exact li_fail t2 ho (f1.t f2))
  · have g1 : ¬ okN T (nx T p) 0 (w 13 0 - 1) := fun q9 => by have q8 := (a1 q9).1; have := q9.2.2.2; omega
    obtain ⟨-, hw1⟩ := b1 g1
    subst hw1
    refine V_iconst dX2_readPart_24 ?_
    exact V_zret dX2_readPart_25 rfl (by omega) (by unfold paP; rw [nmP_n g1]; exact li_fail t1 ho f1)
set_option maxRecDepth 100000 in
set_option maxHeartbeats 4000000 in
theorem c_X2_readTree (G : Gb) (l : Launch) {w : Wd} {T : List Int} (hT : TX w T) {p : Int} (hk : tokA w T p) (ho : okT w 13) {c : Int} (hc : 1 ≤ c ∧ c ≤ 4) : Ci G l yX2_readTree mX2_readTree [.ref (gA G 1), .int (iZ (c - 1))] w (fun z w' => liR T (trP T (w 13 0) p c) w w' z) := by
  refine V_start 3 (by decide) rfl rfl (Nat.le_of_ble_eq_true rfl) ?_
  show V G l mX2_readTree _ 0 [some (.ref (gA G 1)), some (.int (iZ (c - 1))), none, none, none] [] w
  refine V_aload_n dX2_readTree_0 rfl ?_
  refine V_getR (ci := 2) (j := 2) dX2_readTree_1 s_1 rfl rfl i_X2_readTree_X2 (by decide) f_X2_readTree_18 ?_
  have ht := ho.1
  refine V_getI (ci := 3) (j := 0) (ji := 0) dX2_readTree_4 s_13 rfl rfl i_X2_readTree_X3 (by decide) f_X2_readTree_91 rfl ?_
  refine V_bipush dX2_readTree_7 rfl ?_
  refine V_icmp_lt (tgt := 14) dX2_readTree_9 (by decide) (by omega) (by omega) (fun h9 => ?_) (fun h9 => ?_)
  · refine V_aload_n dX2_readTree_14 rfl ?_
    refine V_vV0 dX2_readTree_15 o_X2_readTree_36 s_1 rfl (Nat.le_of_ble_eq_true rfl) (c_X2_nextToken G l hT hk.nx5) ?_
    rintro w1 ⟨t1, f1⟩
    rw [hk.2.2.1] at t1
    change tokA w1 T (nx T p) at t1
    have T1 := f1.tx hT
    have o1 := okT_frk (Or.inr rfl) ho f1
    refine V_aload_n dX2_readTree_18 rfl ?_
    refine V_iconst dX2_readTree_19 ?_
    refine V_bipush dX2_readTree_20 rfl ?_
    refine V_iV2 dX2_readTree_22 o_X2_readTree_94 s_1 rfl (Nat.le_of_ble_eq_true rfl) (c_X2_readNumber G l T1 t1 (by omega) (by omega)) ?_
    rintro z1 w2 ⟨a1, b1, f2⟩
    have T2 := f2.tx T1
    have o2 := okT_frk (Or.inr rfl) o1 f2
    have rz1 : inR z1 := by
      by_cases q9 : okN T (nx T p) 0 99
      · have := (a1 q9).1; have := q9.2.2.2; omega
      · have := (b1 q9).1; omega
    refine V_istore_n dX2_readTree_25 (by decide) rfl ?_
    refine V_iload_n dX2_readTree_26 rfl ?_
    refine V_iconst dX2_readTree_27 ?_
    refine V_icmp_ne (tgt := 33) dX2_readTree_28 (by decide) (by omega) (by omega) (fun h28 => ?_) (fun h28 => ?_)
    · have g1 : okN T (nx T p) 0 99 := by
        by_cases q9 : okN T (nx T p) 0 99
        · exact q9
        · exact absurd (b1 q9).1 (by omega)
      obtain ⟨v1, t2⟩ := a1 g1
      subst v1
      refine V_aload_n dX2_readTree_33 rfl ?_
      refine V_iconst dX2_readTree_34 ?_
      refine V_bipush dX2_readTree_35 rfl ?_
      refine V_iV2 dX2_readTree_37 o_X2_readTree_94 s_1 rfl (Nat.le_of_ble_eq_true rfl) (c_X2_readNumber G l T2 t2 (by omega) (by omega)) ?_
      rintro z2 w3 ⟨a2, b2, f3⟩
      have T3 := f3.tx T2
      have o3 := okT_frk (Or.inr rfl) o2 f3
      have rz2 : inR z2 := by
        by_cases q9 : okN T (nx T (nx T p)) 0 50
        · have := (a2 q9).1; have := q9.2.2.2; omega
        · have := (b2 q9).1; omega
      refine V_istore_n dX2_readTree_40 (by decide) rfl ?_
      refine V_iload_n dX2_readTree_41 rfl ?_
      refine V_iconst dX2_readTree_42 ?_
      refine V_icmp_ne (tgt := 48) dX2_readTree_43 (by decide) (by omega) (by omega) (fun h43 => ?_) (fun h43 => ?_)
      · have g2 : okN T (nx T (nx T p)) 0 50 := by
          by_cases q9 : okN T (nx T (nx T p)) 0 50
          · exact q9
          · exact absurd (b2 q9).1 (by omega)
        obtain ⟨v2, t3⟩ := a2 g2
        subst v2
        refine V_aload_n dX2_readTree_48 rfl ?_
        refine V_iconst dX2_readTree_49 ?_
        refine V_bipush dX2_readTree_50 rfl ?_
        refine V_iV2 dX2_readTree_52 o_X2_readTree_94 s_1 rfl (Nat.le_of_ble_eq_true rfl) (c_X2_readNumber G l T3 t3 (by omega) (by omega)) ?_
        rintro z3 w4 ⟨a3, b3, f4⟩
        have T4 := f4.tx T3
        have o4 := okT_frk (Or.inr rfl) o3 f4
        have rz3 : inR z3 := by
          by_cases q9 : okN T (nx T (nx T (nx T p))) 1 99
          · have := (a3 q9).1; have := q9.2.2.2; omega
          · have := (b3 q9).1; omega
        refine V_istore dX2_readTree_55 (by decide) rfl ?_
        refine V_iload dX2_readTree_57 rfl ?_
        refine V_iconst dX2_readTree_59 ?_
        refine V_icmp_ne (tgt := 65) dX2_readTree_60 (by decide) (by omega) (by omega) (fun h60 => ?_) (fun h60 => ?_)
        · have g3 : okN T (nx T (nx T (nx T p))) 1 99 := by
            by_cases q9 : okN T (nx T (nx T (nx T p))) 1 99
            · exact q9
            · exact absurd (b3 q9).1 (by omega)
          obtain ⟨v3, t4⟩ := a3 g3
          subst v3
          refine V_aload_n dX2_readTree_65 rfl ?_
          refine V_getR (ci := 2) (j := 2) dX2_readTree_66 s_1 rfl rfl i_X2_readTree_X2 (by decide) f_X2_readTree_18 ?_
          refine V_iload_n dX2_readTree_69 rfl ?_
          refine V_iload_n dX2_readTree_70 rfl ?_
          refine V_iload_n dX2_readTree_71 rfl ?_
          refine V_iload dX2_readTree_72 rfl ?_
          have g1r := g1.2.2.2
          have g2r := g2.2.2.2
          have g3r := g3.2.2.2
          have fa := ((f1.t f2).t f3).t f4
          have e0 : w4 13 0 = w 13 0 := fa _ _ (by omega)
          refine V_vV4 dX2_readTree_74 o_X2_readTree_98 s_13 rfl (Nat.le_of_ble_eq_true rfl) (c_X3_addTree G l (Or.inr rfl) (by rw [e0]; omega)) ?_
          rintro _ rfl
          refine V_iconst dX2_readTree_77 ?_
          exact V_zret dX2_readTree_78 rfl (by omega) (by unfold trP; rw [if_neg (by omega), nmP_y g1, nmP_y g2, nmP_y g3]; exact ⟨rfl, tok_keep t4 (fun j => by unfold atW; rw [up_ne (by omega), up_ne (by omega), up_ne (by omega), up_ne (by omega), up_ne (by omega), up_ne (by omega)]), okT_at o4 (by omega) hc (by omega) (by omega) (by omega), (tAS_at (by omega) hc).trans (by rw [fa.as (Or.inr rfl)]; rfl), fun k j q1 q2 => by unfold atW; rw [up_ne (by omega), up_ne (by omega), up_ne (by omega), up_ne (by omega), up_ne (by omega), up_ne (by omega)]; exact fa k j q1⟩)
        · have g3 : ¬ okN T (nx T (nx T (nx T p))) 1 99 := fun q9 => by have q8 := (a3 q9).1; have := q9.2.2.2; omega
          obtain ⟨-, hw3⟩ := b3 g3
          subst hw3
          refine V_iconst dX2_readTree_63 ?_
          exact V_zret dX2_readTree_64 rfl (by omega) (by unfold trP; rw [if_neg (by omega), nmP_y g1, nmP_y g2, nmP_n g3]; exact li_fail t3 ho ((f1.t f2).t f3))
      · have g2 : ¬ okN T (nx T (nx T p)) 0 50 := fun q9 => by have q8 := (a2 q9).1; have := q9.2.2.2; omega
        obtain ⟨-, hw2⟩ := b2 g2
        subst hw2
        refine V_iconst dX2_readTree_46 ?_
        exact V_zret dX2_readTree_47 rfl (by omega) (by unfold trP; rw [if_neg (by omega), nmP_y g1, nmP_n g2]; exact li_fail t2 ho (f1.t f2))
    · have g1 : ¬ okN T (nx T p) 0 99 := fun q9 => by have q8 := (a1 q9).1; have := q9.2.2.2; omega
      obtain ⟨-, hw1⟩ := b1 g1
      subst hw1
      refine V_iconst dX2_readTree_31 ?_
      exact V_zret dX2_readTree_32 rfl (by omega) (by unfold trP; rw [if_neg (by omega), nmP_n g1]; exact li_fail t1 ho f1)
  · refine V_iconst dX2_readTree_12 ?_
    exact V_zret dX2_readTree_13 rfl (by omega) (by unfold trP; rw [if_pos (by omega)]; exact li_fail hk ho (fun _ _ _ => rfl))

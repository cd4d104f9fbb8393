/-! ===== 15 State: a day, days ===== -/
theorem wk1_ok {left : Int} {hl : List Int × List Ln} (h1 : ∀ x ∈ hl.2, okLn x) (h2 : hl.1.length = 6 ∧ ∀ x ∈ hl.1, 0 ≤ x ∧ x ≤ 99) (hl0 : 0 < left) (hne : hl.2 ≠ []) :
    (∀ x ∈ (wk1 left hl).2.2, okLn x) ∧ ((wk1 left hl).2.1.length = 6 ∧ ∀ x ∈ (wk1 left hl).2.1, 0 ≤ x ∧ x ≤ 99) ∧ (wk1 left hl).2.2.length ≤ hl.2.length ∧ (wk1 left hl).2.2.countP (fun x => decide (x.2.2.2.2 = 0)) ≤ hl.2.countP (fun x => decide (x.2.2.2.2 = 0)) := by
  have hk := fdL_lt hne
  have hx : hl.2.getD (fdL hl.2) ln0 ∈ hl.2 := by
    rw [List.getD_eq_getElem?_getD, List.getElem?_eq_getElem hk]
    exact List.getElem_mem hk
  have hok := h1 _ hx
  have hg : hl.2[fdL hl.2]? = some (hl.2.getD (fdL hl.2) ln0) := by
    rw [List.getD_eq_getElem?_getD, List.getElem?_eq_getElem hk]
    rfl
  unfold wk1
  dsimp only
  generalize hl.2.getD (fdL hl.2) ln0 = y at hx hok hg ⊢
  obtain ⟨o1, o2, o3, o4, o5⟩ := hok
  split
  · refine ⟨fun x hm => h1 x (List.mem_of_mem_eraseIdx hm), ⟨by simpa using h2.1, fun x hm => ?_⟩, ?_, ?_⟩
    · rcases List.mem_or_eq_of_mem_set hm with h | h
      · exact h2.2 x h
      · subst h
        have h9 : 0 ≤ hl.1.getD y.1.toNat 0 := by
          rw [List.getD_eq_getElem?_getD, List.getElem?_eq_getElem (by omega)]
          exact (h2.2 _ (List.getElem_mem _)).1
        omega
    · rw [List.length_eraseIdx_of_lt hk]
      omega
    · exact List.Sublist.countP_le (List.eraseIdx_sublist _ _)
  · rename_i hne2
    refine ⟨fun x hm => ?_, h2, by simp, ?_⟩
    · rcases List.mem_or_eq_of_mem_set hm with h | h
      · exact h1 x h
      · subst h
        exact ⟨o1, o2, by dsimp only; omega, o4, o5⟩
    · have hp : ∀ (q : List Ln) (k : Nat) (a b : Ln), q[k]? = some a → a.2.2.2.2 = b.2.2.2.2 → (q.set k b).countP (fun x => decide (x.2.2.2.2 = 0)) = q.countP (fun x => decide (x.2.2.2.2 = 0)) := by
        intro q
        induction q with
        | nil => intro k a b h; simp at h
        | cons z q ih =>
          intro k a b h e
          cases k with
          | zero =>
            simp only [List.getElem?_cons_zero, Option.some.injEq] at h
            subst h
            rw [List.set_cons_zero, List.countP_cons, List.countP_cons, e]
          | succ k =>
            rw [List.getElem?_cons_succ] at h
            rw [List.set_cons_succ, List.countP_cons, List.countP_cons, ih k a b h e]
      exact Nat.le_of_eq (hp hl.2 (fdL hl.2) y (y.1, y.2.1, y.2.2.1 - min left y.2.2.1, y.2.2.2.1, y.2.2.2.2) hg rfl)
theorem wkN_ok : ∀ (n : Nat) (left : Int) (hl : List Int × List Ln), (∀ x ∈ hl.2, okLn x) → (hl.1.length = 6 ∧ ∀ x ∈ hl.1, 0 ≤ x ∧ x ≤ 99) →
    (∀ x ∈ (wkN n left hl).2, okLn x) ∧ ((wkN n left hl).1.length = 6 ∧ ∀ x ∈ (wkN n left hl).1, 0 ≤ x ∧ x ≤ 99) ∧ (wkN n left hl).2.length ≤ hl.2.length ∧ (wkN n left hl).2.countP (fun x => decide (x.2.2.2.2 = 0)) ≤ hl.2.countP (fun x => decide (x.2.2.2.2 = 0))
  | 0, left, hl, h1, h2 => ⟨h1, h2, Nat.le_refl _, Nat.le_refl _⟩
  | n + 1, left, hl, h1, h2 => by
    rw [wkN]
    split
    · rename_i hc
      obtain ⟨a1, a2, a3, a4⟩ := wk1_ok (left := left) h1 h2 hc.1 hc.2
      obtain ⟨b1, b2, b3, b4⟩ := wkN_ok n (wk1 left hl).1 (wk1 left hl).2 a1 a2
      exact ⟨b1, b2, by omega, by omega⟩
    · exact ⟨h1, h2, Nat.le_refl _, Nat.le_refl _⟩
/-- kinds and rates that are sound -/
def okKR (K R : List Int) : Prop := (K.length = 6 ∧ ∀ x ∈ K, 0 ≤ x ∧ x ≤ 3) ∧ (R.length = 6 ∧ ∀ x ∈ R, 0 ≤ x ∧ x ≤ 50)
theorem getD_mem {L : List Int} {i : Nat} (h : i < L.length) : L.getD i 0 ∈ L := by
  rw [List.getD_eq_getElem?_getD, List.getElem?_eq_getElem h]
  exact List.getElem_mem h
theorem grL_ok {K R : List Int} (hk : okKR K R) {x : Ln} (h : okLn x) : okLn (grL K R x) := by
  obtain ⟨o1, o2, o3, o4, o5⟩ := h
  have hr := hk.2.2 _ (getD_mem (L := R) (i := x.1.toNat) (by have := hk.2.1; omega))
  have hb := grw_bd (k := K.getD x.1.toNat 0) (r := R.getD x.1.toNat 0) (o := x.2.2.1) (n := x.2.1) (by omega) (by omega) hr
  exact ⟨o1, o2, by show 0 < grw _ _ _ _ ∧ grw _ _ _ _ ≤ 1000000; omega, o4, o5⟩
theorem flL_ok {y : Int} {x : Ln} (h : okLn x) : okLn (flL y x) := by
  unfold flL
  split
  · exact ⟨h.1, h.2.1, h.2.2.1, h.2.2.2.1, Or.inr rfl⟩
  · exact h
theorem fl_cnt (y : Int) : ∀ q : List Ln, (q.countP (flP y) : Nat) + (q.map (flL y)).countP (fun x => decide (x.2.2.2.2 = 0)) = q.countP (fun x => decide (x.2.2.2.2 = 0))
  | [] => rfl
  | x :: q => by
    have ih := fl_cnt y q
    rw [List.map_cons, List.countP_cons, List.countP_cons, List.countP_cons]
    generalize (q.map (flL y)).countP (fun x => decide (x.2.2.2.2 = 0)) = A at ih ⊢
    generalize q.countP (flP y) = A2 at ih ⊢
    generalize q.countP (fun x => decide (x.2.2.2.2 = 0)) = A3 at ih ⊢
    by_cases hp : flP y x = true
    · have h2 : x.2.2.2.2 = 0 := by
        unfold flP at hp
        exact (of_decide_eq_true hp).2
      have h3 : flL y x = (x.1, x.2.1, x.2.2.1, x.2.2.2.1, 1) := by unfold flL; rw [if_pos hp]
      rw [h3]
      simp [hp, h2]
      omega
    · have h3 : flL y x = x := by unfold flL; rw [if_neg hp]
      rw [h3]
      simp only [hp]
      by_cases h4 : x.2.2.2.2 = 0
      · simp [h4]; omega
      · simp [h4]; omega
theorem map_cnt (K R : List Int) : ∀ q : List Ln, (q.map (grL K R)).countP (fun x => decide (x.2.2.2.2 = 0)) = q.countP (fun x => decide (x.2.2.2.2 = 0))
  | [] => rfl
  | x :: q => by rw [List.map_cons, List.countP_cons, List.countP_cons, map_cnt K R q]; rfl
theorem dyS_ok {c : Int} {K R : List Int} {hands : Int} {a : AS} (hk : okKR K R) (h : okAS c a) (hy : a.1 < 20000) : okAS c (dyS K R hands a) := by
  obtain ⟨h1, h2, h3, h4, h5, h6⟩ := h
  obtain ⟨b1, b2, b3, b4⟩ := wkN_ok 12 (hands * 100) (a.2.2.1, a.2.2.2.2.map (grL K R)) (fun x hx => by
    obtain ⟨z, hz, rfl⟩ := List.mem_map.mp hx
    exact grL_ok hk (h6 z hz)) h3
  have e1 := fl_cnt a.1 (wkN 12 (hands * 100) (a.2.2.1, a.2.2.2.2.map (grL K R))).2
  have e2 := map_cnt K R a.2.2.2.2
  simp only [List.length_map] at b3
  refine ⟨by show 0 ≤ a.1 + 1 ∧ a.1 + 1 ≤ 20000; omega, ?_, b2, h4, ?_, ?_⟩
  · show 0 ≤ a.2.1 + _ ∧ a.2.1 + _ + (((List.map _ _).countP _ : Nat) : Int) ≤ c
    dsimp only at b4
    omega
  · show (List.map _ _).length ≤ 12
    rw [List.length_map]
    omega
  · intro x hx
    obtain ⟨z, hz, rfl⟩ := List.mem_map.mp hx
    exact flL_ok (b1 z hz)
/-- a sound State in the world -/
def okC (c : Int) (w : Wd) (b : Nat) : Prop := 0 ≤ w b 3 ∧ okAS c (cAS w b)
theorem okC.n {c : Int} {w : Wd} {b : Nat} (h : okC c w b) : 0 ≤ w b 3 ∧ w b 3 ≤ 12 := by
  have h1 := h.2.2.2.2.2.1
  have h2 := cLs_len w b
  have h3 : (cLs w b).length ≤ 12 := h1
  have := h.1
  omega
theorem okC.ln {c : Int} {w : Wd} {b : Nat} (h : okC c w b) {i : Int} (h0 : 0 ≤ i) (h1 : i < w b 3) : (0 ≤ w (b + 3) i ∧ w (b + 3) i < 6) ∧ (1 ≤ w (b + 4) i ∧ w (b + 4) i ≤ 99) ∧ (0 < w (b + 5) i ∧ w (b + 5) i ≤ 1000000) ∧ (0 ≤ w (b + 6) i ∧ w (b + 6) i ≤ 20000) ∧ (w (b + 7) i = 0 ∨ w (b + 7) i = 1) :=
  h.2.2.2.2.2.2 _ (List.mem_of_getElem? (cLs_at h0 h1))
theorem okC.has {c : Int} {w : Wd} {b : Nat} (h : okC c w b) {t : Int} (h0 : 0 ≤ t) (h1 : t < 6) : 0 ≤ w (b + 1) t ∧ w (b + 1) t ≤ 99 := by
  have h2 := h.2.2.2.1.2 _ (List.mem_of_getElem? (gl_at (w := w) (k := b + 1) (o := 0) (n := 6) (i := t.toNat) (by omega)))
  rwa [show (0 : Int) + ((t.toNat : Nat) : Int) = t by omega] at h2
theorem okC.fate {c : Int} {w : Wd} {b : Nat} (h : okC c w b) {t : Int} (h0 : 0 ≤ t) (h1 : t < 6) : 0 ≤ w (b + 2) t ∧ w (b + 2) t ≤ 2 := by
  have h2 := h.2.2.2.2.1.2 _ (List.mem_of_getElem? (gl_at (w := w) (k := b + 2) (o := 0) (n := 6) (i := t.toNat) (by omega)))
  rwa [show (0 : Int) + ((t.toNat : Nat) : Int) = t by omega] at h2
theorem okC.day {c : Int} {w : Wd} {b : Nat} (h : okC c w b) : 0 ≤ w b 0 ∧ w b 0 ≤ 20000 := h.2.1
/-- what is told is sound -/
def okT (w : Wd) (d : Nat) : Prop := (0 ≤ w d 0 ∧ w d 0 ≤ 6) ∧ (0 ≤ w d 6 ∧ w d 6 ≤ 6) ∧ (0 ≤ w d 9 ∧ w d 9 ≤ 99) ∧ (∀ t : Int, 0 ≤ t → t < 6 → (0 ≤ w (d + 1) t ∧ w (d + 1) t ≤ 3) ∧ (0 ≤ w (d + 2) t ∧ w (d + 2) t ≤ 99) ∧ (0 ≤ w (d + 3) t ∧ w (d + 3) t ≤ 50) ∧ (0 ≤ w (d + 4) t ∧ w (d + 4) t ≤ 99) ∧ (0 ≤ w (d + 5) t ∧ w (d + 5) t ≤ 9)) ∧ ∀ q : Int, 0 ≤ q → q < w d 6 → (0 ≤ w (d + 6) q ∧ w (d + 6) q < 6) ∧ (0 ≤ w (d + 7) q ∧ w (d + 7) q < 6)
theorem gl_mem {w : Wd} {k : Nat} {o : Int} {n : Nat} {x : Int} (h : x ∈ gl w k o n) : ∃ i : Int, 0 ≤ i ∧ i < (n : Int) ∧ x = w k (o + i) := by
  unfold gl at h
  obtain ⟨i, hi, rfl⟩ := List.mem_map.mp h
  exact ⟨i, by omega, by have := List.mem_range.mp hi; omega, rfl⟩
theorem okT.kr {w : Wd} {d : Nat} (h : okT w d) : okKR (gl w (d + 1) 0 6) (gl w (d + 3) 0 6) := by
  refine ⟨⟨gl_len _ _ _ _, fun x hx => ?_⟩, ⟨gl_len _ _ _ _, fun x hx => ?_⟩⟩
  · obtain ⟨i, h0, h1, rfl⟩ := gl_mem hx
    rw [Int.zero_add]
    exact (h.2.2.2.1 i h0 h1).1
  · obtain ⟨i, h0, h1, rfl⟩ := gl_mem hx
    rw [Int.zero_add]
    exact (h.2.2.2.1 i h0 h1).2.2.1
/-- nothing but the State at b has changed -/
def frm (b : Nat) (w w' : Wd) : Prop := ∀ (k : Nat) (j : Int), (k < b ∨ b + 7 < k) → w' k j = w k j
theorem cLs_gw {w : Wd} {b d : Nat} (hb : IsSt b) (hd : IsTd d) (hs : ∀ i : Int, 0 ≤ i → i < w b 3 → 0 ≤ w (b + 3) i ∧ w (b + 3) i < 6) : cLs (gwS w b d 0) b = (cLs w b).map (grL (gl w (d + 1) 0 6) (gl w (d + 3) 0 6)) := by
  have g : ∀ (k : Nat) (j : Int), k ≠ b + 5 → gwS w b d 0 k j = w k j := by
    intro k j h
    unfold gwS
    rw [if_neg (by omega)]
  unfold cLs
  rw [g b 3 (by omega), List.map_map]
  apply List.map_congr_left
  intro i hi
  have hi2 := List.mem_range.mp hi
  have q := hs i (by omega) (by omega)
  show cLn (gwS w b d 0) b i = grL _ _ (cLn w b i)
  unfold cLn grL
  dsimp only
  rw [g (b + 3) _ (by omega), g (b + 4) _ (by omega), g (b + 6) _ (by omega), g (b + 7) _ (by omega), gl_D q.1 (by omega), gl_D q.1 (by omega), Int.zero_add]
  congr 3
  unfold gwS
  rw [if_pos (by omega)]
theorem fcS_cnt {w : Wd} {b : Nat} : ∀ (n : Nat) (i : Int), 0 ≤ i → i + n = w b 3 → fcS w b n i = ((((cLs w b).drop i.toNat).countP (flP (w b 0)) : Nat) : Int)
  | 0, i, h0, h1 => by rw [cLs_end (by omega)]; rfl
  | n + 1, i, h0, h1 => by
    rw [cLs_drop h0 (by omega), List.countP_cons, fcS, fcS_cnt n (i + 1) (by omega) (by omega)]
    unfold flP
    dsimp only
    by_cases h : w (b + 6) i ≤ w b 0 ∧ w (b + 7) i = 0
    · rw [if_pos h, if_pos (by simpa using h)]
      omega
    · rw [if_neg h, if_neg (by simpa using h)]
      omega
theorem cLs_fw {w : Wd} {b : Nat} (h : 0 ≤ w b 3) : cLs (fwS w b 0 (w b 3).toNat) b = (cLs w b).map (flL (w b 0)) := by
  have g : ∀ (k : Nat) (j : Int), k ≠ b + 7 → (k ≠ b ∨ j ≠ 9) → fwS w b 0 (w b 3).toNat k j = w k j := by
    intro k j h1 h2
    unfold fwS
    rw [if_neg (fun z => h1 z.1), if_neg (by omega)]
  unfold cLs
  rw [g b 3 (by omega) (by omega), List.map_map]
  apply List.map_congr_left
  intro i hi
  have hi2 := List.mem_range.mp hi
  show cLn (fwS w b 0 (w b 3).toNat) b i = flL (w b 0) (cLn w b i)
  unfold cLn
  rw [g (b + 3) _ (by omega) (by omega), g (b + 4) _ (by omega) (by omega), g (b + 5) _ (by omega) (by omega), g (b + 6) _ (by omega) (by omega)]
  unfold flL flP
  dsimp only
  unfold fwS
  by_cases hc : w (b + 6) (i : Int) ≤ w b 0 ∧ w (b + 7) (i : Int) = 0
  · rw [if_pos ⟨rfl, by omega, hc⟩, if_pos (by simpa using hc)]
  · rw [if_neg (fun z => hc z.2.2), if_neg (by omega), if_neg (by simpa using hc)]
/-- the State at b behind n days -/
def dyR (c : Int) (b d : Nat) (hands : Int) (n : Nat) (w w' : Wd) : Prop := okC c w' b ∧ cAS w' b = dysS (gl w (d + 1) 0 6) (gl w (d + 3) 0 6) hands n (cAS w b) ∧ frm b w w'
theorem dyR_0 {c : Int} {b d : Nat} {hands : Int} {w : Wd} (h : okC c w b) : dyR c b d hands 0 w w := ⟨h, rfl, fun _ _ _ => rfl⟩
theorem dyR_s {c : Int} {b d n : Nat} {hands : Int} {w w1 w' : Wd} (hb : IsSt b) (hd : IsTd d) (h1 : dyR c b d hands 1 w w1) (h2 : dyR c b d hands n w1 w') : dyR c b d hands (n + 1) w w' := by
  obtain ⟨a1, a2, a3⟩ := h1
  obtain ⟨b1, b2, b3⟩ := h2
  refine ⟨b1, ?_, fun k j q => (b3 k j q).trans (a3 k j q)⟩
  have e1 : gl w1 (d + 1) 0 6 = gl w (d + 1) 0 6 := gl_eq (fun i _ _ => a3 _ _ (by omega))
  have e3 : gl w1 (d + 3) 0 6 = gl w (d + 3) 0 6 := gl_eq (fun i _ _ => a3 _ _ (by omega))
  rw [b2, e1, e3, a2]
  rfl
theorem okT.frm {w w' : Wd} {b d : Nat} (hb : IsSt b) (hd : IsTd d) (h : okT w d) (hf : frm b w w') : okT w' d := by
  have g : ∀ (k : Nat) (j : Int), k ≤ d + 7 → w' k j = w k j := fun k j q => hf k j (by omega)
  obtain ⟨h1, h2, h3, h4, h5⟩ := h
  refine ⟨by rw [g _ _ (by omega)]; exact h1, by rw [g _ _ (by omega)]; exact h2, by rw [g _ _ (by omega)]; exact h3, fun t q0 q1 => ?_, fun q q0 q1 => ?_⟩
  · rw [g _ _ (by omega), g _ _ (by omega), g _ _ (by omega), g _ _ (by omega), g _ _ (by omega)]
    exact h4 t q0 q1
  · rw [g _ _ (by omega)] at q1
    rw [g _ _ (by omega), g _ _ (by omega)]
    exact h5 q q0 q1
/-- grown, worked, failed, the day counted: one day -/
theorem dy_step {c hands : Int} {w w2 : Wd} {b d : Nat} (hb : IsSt b) (hd : IsTd d) (ho : okC c w b) (ht : okT w d) (hy : w b 0 < 20000) (h2 : wkR b 12 (hands * 100) (gwS w b d 0) w2) :
    dyR c b d hands 1 w (up (fwS w2 b 0 (w2 b 3).toNat) b 0 (w2 b 0 + 1)) := by
  obtain ⟨a1, a2, a3⟩ := h2
  have g : ∀ (k : Nat) (j : Int), k ≠ b + 5 → gwS w b d 0 k j = w k j := by
    intro k j h
    unfold gwS
    rw [if_neg (by omega)]
  have eL := cLs_gw (w := w) hb hd (fun i q0 q1 => (ho.ln q0 q1).1)
  have eH : gl (gwS w b d 0) (b + 1) 0 6 = gl w (b + 1) 0 6 := gl_eq (fun i _ _ => g _ _ (by omega))
  rw [eL, eH] at a2
  have e0 : w2 b 0 = w b 0 := by rw [a3 _ _ (by omega), g _ _ (by omega)]
  have e9 : w2 b 9 = w b 9 := by rw [a3 _ _ (by omega), g _ _ (by omega)]
  have f : ∀ (k : Nat) (j : Int), k ≠ b + 7 → (k ≠ b ∨ j ≠ 9) → fwS w2 b 0 (w2 b 3).toNat k j = w2 k j := by
    intro k j q1 q2
    unfold fwS
    rw [if_neg (fun z => q1 z.1), if_neg (by omega)]
  have f9 : fwS w2 b 0 (w2 b 3).toNat b 9 = w b 9 + (((cLs w2 b).countP (flP (w b 0)) : Nat) : Int) := by
    unfold fwS
    rw [if_neg (fun z => by have := z.1; omega), if_pos ⟨rfl, rfl⟩, e9, fcS_cnt _ 0 (by omega) (by have := a1.1; omega), e0]
    rfl
  have hL : cLs (up (fwS w2 b 0 (w2 b 3).toNat) b 0 (w2 b 0 + 1)) b = (cLs w2 b).map (flL (w b 0)) := by
    rw [← e0, ← cLs_fw a1.1.1]
    apply cLs_eq
    · exact up_ne (Or.inr (by omega))
    · intro k j q1 q2 q3 q4
      exact up_ne (Or.inl (by omega))
  have hA : cAS (up (fwS w2 b 0 (w2 b 3).toNat) b 0 (w2 b 0 + 1)) b = dyS (gl w (d + 1) 0 6) (gl w (d + 3) 0 6) hands (cAS w b) := by
    have ea : gl (up (fwS w2 b 0 (w2 b 3).toNat) b 0 (w2 b 0 + 1)) (b + 1) 0 6 = gl w2 (b + 1) 0 6 := gl_eq (fun i _ _ => by rw [up_ne (Or.inl (by omega)), f _ _ (by omega) (by omega)])
    have eb : gl (up (fwS w2 b 0 (w2 b 3).toNat) b 0 (w2 b 0 + 1)) (b + 2) 0 6 = gl w (b + 2) 0 6 := gl_eq (fun i _ _ => by rw [up_ne (Or.inl (by omega)), f _ _ (by omega) (by omega), a3 _ _ (by omega), g _ _ (by omega)])
    have p1 := congrArg Prod.fst a2
    have p2 := congrArg Prod.snd a2
    dsimp only at p1 p2
    unfold dyS cAS
    dsimp only
    rw [hL, ea, eb, up_eq, e0, up_ne (Or.inr (by omega)), f9, p1, p2]
  refine ⟨⟨?_, ?_⟩, hA, fun k j q => ?_⟩
  · rw [up_ne (Or.inr (by omega)), f _ _ (by omega) (by omega)]
    exact a1.1.1
  · rw [hA]
    exact dyS_ok ht.kr ho.2 hy
  · rw [up_ne (by omega), f _ _ (by omega) (by omega), a3 _ _ (by omega), g _ _ (by omega)]
theorem gw_ok {c : Int} {w : Wd} {b d : Nat} (hb : IsSt b) (hd : IsTd d) (ho : okC c w b) (ht : okT w d) : okW (gwS w b d 0) b := by
  have g : ∀ (k : Nat) (j : Int), k ≠ b + 5 → gwS w b d 0 k j = w k j := by
    intro k j h
    unfold gwS
    rw [if_neg (by omega)]
  refine ⟨by rw [g _ _ (by omega)]; exact ho.n, fun i q0 q1 => ?_, fun t q0 q1 => ?_⟩
  · rw [g _ _ (by omega)] at q1
    have q := ho.ln q0 q1
    rw [g (b + 3) _ (by omega), g (b + 4) _ (by omega), g (b + 6) _ (by omega)]
    have q2 := ht.2.2.2.1 _ q.1.1 q.1.2
    have hb := grw_bd (k := w (d + 1) (w (b + 3) i)) (r := w (d + 3) (w (b + 3) i)) (o := w (b + 5) i) (n := w (b + 4) i) (by omega) (by omega) q2.2.2.1
    refine ⟨q.1, by omega, ?_, by omega⟩
    unfold gwS
    rw [if_pos (by omega)]
    omega
  · rw [g _ _ (by omega)]
    exact ho.has q0 q1
/-- behind work the loans are sound yet -/
theorem wk_ok {c hands : Int} {w w2 : Wd} {b d : Nat} (hb : IsSt b) (hd : IsTd d) (ho : okC c w b) (ht : okT w d) (h2 : wkR b 12 hands (gwS w b d 0) w2) : ∀ i : Int, 0 ≤ i → i < w2 b 3 → inR (w2 (b + 6) i) ∧ (w2 (b + 7) i = 0 ∨ w2 (b + 7) i = 1) := by
  obtain ⟨a1, a2, a3⟩ := h2
  have g : ∀ (k : Nat) (j : Int), k ≠ b + 5 → gwS w b d 0 k j = w k j := by
    intro k j h
    unfold gwS
    rw [if_neg (by omega)]
  have eL := cLs_gw (w := w) hb hd (fun i q0 q1 => (ho.ln q0 q1).1)
  have eH : gl (gwS w b d 0) (b + 1) 0 6 = gl w (b + 1) 0 6 := gl_eq (fun i _ _ => g _ _ (by omega))
  rw [eL, eH] at a2
  have hk := (wkN_ok 12 hands (gl w (b + 1) 0 6, (cLs w b).map (grL (gl w (d + 1) 0 6) (gl w (d + 3) 0 6))) (fun x hx => by
    obtain ⟨z, hz, rfl⟩ := List.mem_map.mp hx
    exact grL_ok ht.kr (ho.2.2.2.2.2.2 z hz)) ho.2.2.2.1).1
  intro i q0 q1
  have p2 := congrArg Prod.snd a2
  dsimp only at p2
  have hm := List.mem_of_getElem? (cLs_at q0 q1)
  rw [p2] at hm
  have q := hk _ hm
  obtain ⟨o1, o2, o3, o4, o5⟩ := q
  dsimp only at o4 o5
  exact ⟨by omega, o5⟩
set_option maxRecDepth 100000 in
set_option maxHeartbeats 4000000 in
theorem l_X1_passDays (G : Gb) (l : Launch) {b d : Nat} (hb : IsSt b) (hd : IsTd d) {c h q : Int} (hh : 0 ≤ h ∧ h ≤ 99) (hq : inR q) {Post : Wd → Prop} : ∀ (n : Nat) (i : Int) (w : Wd), 0 ≤ i → i + n = q → okC c w b → okT w d → w b 0 + n ≤ 20000 → (∀ w', dyR c b d h n w w' → Post w') → V G l mX1_passDays (Qv G Post) 3 [some (.ref (gA G b)), some (.ref (gA G d)), some (.int (iZ h)), some (.int (iZ q)), some (.int (iZ i))] [] w := by
  intro n
  induction n with
  | zero =>
    intro i w h0 h1 ho ht hy hp
    refine V_iload dX1_passDays_3 rfl ?_
    refine V_iload_n dX1_passDays_5 rfl ?_
    refine V_icmp_ge (tgt := 42) dX1_passDays_6 (by decide) (by omega) (by omega) (fun h6 => ?_) (fun h6 => ?_)
    · exact V_vret dX1_passDays_42 rfl (hp _ (dyR_0 ho))
    · exact absurd h6 (by omega)
  | succ n ih =>
    intro i w h0 h1 ho ht hy hp
    refine V_iload dX1_passDays_3 rfl ?_
    refine V_iload_n dX1_passDays_5 rfl ?_
    refine V_icmp_ge (tgt := 42) dX1_passDays_6 (by decide) (by omega) (by omega) (fun h6 => ?_) (fun h6 => ?_)
    · exact absurd h6 (by omega)
    · refine V_aload_n dX1_passDays_9 rfl ?_
      refine V_aload_n dX1_passDays_10 rfl ?_
      refine V_vV1 dX1_passDays_11 o_X1_passDays_78 (sSt_0 hb) rfl (Nat.le_of_ble_eq_true rfl) (c_X1_growLoans G l hb hd ho.n (fun i g0 g1 => by have q := ho.ln g0 g1; exact ⟨q.1, by omega, by omega⟩) (fun t g0 g1 => ⟨(ht.2.2.2.1 t g0 g1).1, (ht.2.2.2.1 t g0 g1).2.2.1⟩)) ?_
      rintro _ rfl
      refine V_aload_n dX1_passDays_14 rfl ?_
      refine V_iload_n dX1_passDays_15 rfl ?_
      refine V_bipush dX1_passDays_16 rfl ?_
      refine V_imul dX1_passDays_18 ?_
      refine V_vV1 dX1_passDays_19 o_X1_passDays_82 (sSt_0 hb) rfl (Nat.le_of_ble_eq_true rfl) (c_X1_workOff G l hb (by omega) (gw_ok hb hd ho ht)) ?_
      intro w2 hw2
      have e0 : w2 b 0 = w b 0 := by rw [hw2.2.2 _ _ (by omega)]; unfold gwS; rw [if_neg (by omega)]
      refine V_aload_n dX1_passDays_22 rfl ?_
      refine V_vV0 dX1_passDays_23 o_X1_passDays_86 (sSt_0 hb) rfl (Nat.le_of_ble_eq_true rfl) (c_X1_failDueLoans G l hb hw2.1.1 (by have := ho.day; omega) (wk_ok hb hd ho ht hw2)) ?_
      rintro _ rfl
      refine V_aload_n dX1_passDays_26 rfl ?_
      refine V_dup dX1_passDays_27 rfl ?_
      refine V_getIE (ci := 1) (j := 0) (ji := 0) (z := w2 b 0) dX1_passDays_28 (sSt_0 hb) rfl rfl i_X1_passDays_X1 (by decide) f_X1_passDays_33 rfl (by unfold fwS; rw [if_neg (fun z => by have := z.1; omega), if_neg (by omega)]) ?_
      refine V_iconst dX1_passDays_31 ?_
      refine V_iadd dX1_passDays_32 ?_
      refine V_putI (ci := 1) (j := 0) (ji := 0) dX1_passDays_33 (sSt_0 hb) rfl rfl i_X1_passDays_X1 tyX1_ok nmX1 (by decide) f_X1_passDays_33 rfl rfl rfl ?_
      refine V_iinc dX1_passDays_36 rfl (by decide) rfl ?_
      refine V_goto (tgt := 3) dX1_passDays_39 (by decide) ?_
      have hs := dy_step hb hd ho ht (by omega) hw2
      exact ih (i + 1) _ (by omega) (by omega) hs.1 (ht.frm hb hd hs.2.2) (by rw [up_eq]; omega) (fun w' h => hp w' (dyR_s hb hd hs h))
set_option maxRecDepth 100000 in
set_option maxHeartbeats 4000000 in
theorem c_X1_passDays (G : Gb) (l : Launch) {w : Wd} {b d : Nat} (hb : IsSt b) (hd : IsTd d) {c h q : Int} (hh : 0 ≤ h ∧ h ≤ 99) (hq : 0 ≤ q ∧ q ≤ 1000) (ho : okC c w b) (ht : okT w d) (hy : w b 0 + q ≤ 20000) : Cv G l yX1_passDays mX1_passDays [.ref (gA G b), .ref (gA G d), .int (iZ h), .int (iZ q)] w (fun w' => dyR c b d h q.toNat w w') := by
  refine V_start 1 (by decide) rfl rfl (Nat.le_of_ble_eq_true rfl) ?_
  show V G l mX1_passDays _ 0 [some (.ref (gA G b)), some (.ref (gA G d)), some (.int (iZ h)), some (.int (iZ q)), none] [] w
  refine V_iconst dX1_passDays_0 ?_
  refine V_istore dX1_passDays_1 (by decide) rfl ?_
  exact l_X1_passDays G l hb hd hh (by omega) q.toNat 0 w (by omega) (by omega) ho ht (by omega) (fun _ h => h)

/-! ===== 15 State: a day, days ===== -/
theorem wk1_ok {left : Int} {hl : List Int × List Ln} (h1 : ∀ x ∈ hl.2, okLn x) (h2 : hl.1.length = 6 ∧ ∀ x ∈ hl.1, 0 ≤ x ∧ x ≤ 99) (hl0 : 0 < left) (hne : hl.2 ≠ []) :
    (∀ x ∈ (wk1 left hl).2.2, okLn x) ∧ ((wk1 left hl).2.1.length = 6 ∧ ∀ x ∈ (wk1 left hl).2.1, 0 ≤ x ∧ x ≤ 99) ∧ (wk1 left hl).2.2.length ≤ hl.2.length ∧ (wk1 left hl).2.2.countP (fun x => decide (x.2.2.2.2 = 0)) ≤ hl.2.countP (fun x => decide (x.2.2.2.2 = 0)) := by
  have hk := fdL_lt hne
  have hx : hl.2.getD (fdL hl.2) ln0 ∈ hl.2 := by
    rw [List.getD_eq_getElem?_getD, List.getElem?_eq_getElem hk]
    exact List.getElem_mem hk
  have hok := h1 _ hx
  have hg : hl.2[fdL hl.2]? = some (hl.2.getD (fdL hl.2) ln0) := by
    rw [List.getD_eq_getElem?_getD, List.getElem?_eq_getElem hk]
    rfl
  unfold wk1
  dsimp only
  generalize hl.2.getD (fdL hl.2) ln0 = y at hx hok hg ⊢
  obtain ⟨o1, o2, o3, o4, o5⟩ := hok
  split
  · refine ⟨fun x hm => h1 x (List.mem_of_mem_eraseIdx hm), ⟨by simpa using h2.1, fun x hm => ?_⟩, ?_, ?_⟩
    · rcases List.mem_or_eq_of_mem_set hm with h | h
      · exact h2.2 x h
      · subst h
        have h9 : 0 ≤ hl.1.getD y.1.toNat 0 := by
          rw [List.getD_eq_getElem?_getD, List.getElem?_eq_getElem (by omega)]
          exact (h2.2 _ (List.getElem_mem _)).1
        omega
    · rw [List.length_eraseIdx_of_lt hk]
      omega
    · exact List.Sublist.countP_le (List.eraseIdx_sublist _ _)
  · rename_i hne2
    refine ⟨fun x hm => ?_, h2, by simp, ?_⟩
    · rcases List.mem_or_eq_of_mem_set hm with h | h
      · exact h1 x h
      · subst h
        exact ⟨o1, o2, by dsimp only; omega, o4, o5⟩
    · have hp : ∀ (q : List Ln) (k : Nat) (a b : Ln), q[k]? = some a → a.2.2.2.2 = b.2.2.2.2 → (q.set k b).countP (fun x => decide (x.2.2.2.2 = 0)) = q.countP (fun x => decide (x.2.2.2.2 = 0)) := by
        intro q
        induction q with
        | nil => intro k a b h; simp at h
        | cons z q ih =>
          intro k a b h e
          cases k with
          | zero =>
            simp only [List.getElem?_cons_zero, Option.some.injEq] at h
            subst h
            rw [List.set_cons_zero, List.countP_cons, List.countP_cons, e]
          | succ k =>
            rw [List.getElem?_cons_succ] at h
            rw [List.set_cons_succ, List.countP_cons, List.countP_cons, ih k a b h e]
      rw [hp _ _ _ _ hg rfl]
      exact Nat.le_refl _
theorem wkN_ok : ∀ (n : Nat) (left : Int) (hl : List Int × List Ln), (∀ x ∈ hl.2, okLn x) → (hl.1.length = 6 ∧ ∀ x ∈ hl.1, 0 ≤ x ∧ x ≤ 99) →
    (∀ x ∈ (wkN n left hl).2, okLn x) ∧ ((wkN n left hl).1.length = 6 ∧ ∀ x ∈ (wkN n left hl).1, 0 ≤ x ∧ x ≤ 99) ∧ (wkN n left hl).2.length ≤ hl.2.length ∧ (wkN n left hl).2.countP (fun x => decide (x.2.2.2.2 = 0)) ≤ hl.2.countP (fun x => decide (x.2.2.2.2 = 0))
  | 0, left, hl, h1, h2 => ⟨h1, h2, Nat.le_refl _, Nat.le_refl _⟩
  | n + 1, left, hl, h1, h2 => by
    rw [wkN]
    split
    · rename_i hc
      obtain ⟨a1, a2, a3, a4⟩ := wk1_ok (left := left) h1 h2 hc.1 hc.2
      obtain ⟨b1, b2, b3, b4⟩ := wkN_ok n (wk1 left hl).1 (wk1 left hl).2 a1 a2
      exact ⟨b1, b2, by omega, by omega⟩
    · exact ⟨h1, h2, Nat.le_refl _, Nat.le_refl _⟩
/-- kinds and rates that are sound -/
def okKR (K R : List Int) : Prop := (K.length = 6 ∧ ∀ x ∈ K, 0 ≤ x ∧ x ≤ 3) ∧ (R.length = 6 ∧ ∀ x ∈ R, 0 ≤ x ∧ x ≤ 50)
theorem getD_mem {L : List Int} {i : Nat} (h : i < L.length) : L.getD i 0 ∈ L := by
  rw [List.getD_eq_getElem?_getD, List.getElem?_eq_getElem h]
  exact List.getElem_mem h
theorem grL_ok {K R : List Int} (hk : okKR K R) {x : Ln} (h : okLn x) : okLn (grL K R x) := by
  obtain ⟨o1, o2, o3, o4, o5⟩ := h
  have hr := hk.2.2 _ (getD_mem (L := R) (i := x.1.toNat) (by have := hk.2.1; omega))
  have hb := grw_bd (k := K.getD x.1.toNat 0) (r := R.getD x.1.toNat 0) (o := x.2.2.1) (n := x.2.1) (by omega) (by omega) hr
  exact ⟨o1, o2, by show 0 < grw _ _ _ _ ∧ grw _ _ _ _ ≤ 1000000; omega, o4, o5⟩
theorem flL_ok {y : Int} {x : Ln} (h : okLn x) : okLn (flL y x) := by
  unfold flL
  split
  · exact ⟨h.1, h.2.1, h.2.2.1, h.2.2.2.1, Or.inr rfl⟩
  · exact h
theorem fl_cnt (y : Int) : ∀ q : List Ln, (q.countP (flP y) : Nat) + (q.map (flL y)).countP (fun x => decide (x.2.2.2.2 = 0)) = q.countP (fun x => decide (x.2.2.2.2 = 0))
  | [] => rfl
  | x :: q => by
    have ih := fl_cnt y q
    rw [List.map_cons, List.countP_cons, List.countP_cons, List.countP_cons]
    by_cases hp : flP y x = true
    · have h2 : x.2.2.2.2 = 0 := by
        unfold flP at hp
        exact (of_decide_eq_true hp).2
      have h3 : flL y x = (x.1, x.2.1, x.2.2.1, x.2.2.2.1, 1) := by unfold flL; rw [if_pos hp]
      rw [h3]
      simp [hp, h2]
      omega
    · have h3 : flL y x = x := by unfold flL; rw [if_neg hp]
      rw [h3]
      simp only [hp]
      by_cases h4 : x.2.2.2.2 = 0
      · simp [h4]; omega
      · simp [h4]; omega
theorem map_cnt (K R : List Int) : ∀ q : List Ln, (q.map (grL K R)).countP (fun x => decide (x.2.2.2.2 = 0)) = q.countP (fun x => decide (x.2.2.2.2 = 0))
  | [] => rfl
  | x :: q => by rw [List.map_cons, List.countP_cons, List.countP_cons, map_cnt K R q]; rfl
theorem dyS_ok {c : Int} {K R : List Int} {hands : Int} {a : AS} (hk : okKR K R) (h : okAS c a) (hy : a.1 < 20000) : okAS c (dyS K R hands a) := by
  obtain ⟨h1, h2, h3, h4, h5, h6⟩ := h
  obtain ⟨b1, b2, b3, b4⟩ := wkN_ok 12 (hands * 100) (a.2.2.1, a.2.2.2.2.map (grL K R)) (fun x hx => by
    obtain ⟨z, hz, rfl⟩ := List.mem_map.mp hx
    exact grL_ok hk (h6 z hz)) h3
  have e1 := fl_cnt a.1 (wkN 12 (hands * 100) (a.2.2.1, a.2.2.2.2.map (grL K R))).2
  have e2 := map_cnt K R a.2.2.2.2
  simp only [List.length_map] at b3
  refine ⟨by show 0 ≤ a.1 + 1 ∧ a.1 + 1 ≤ 20000; omega, ?_, b2, h4, ?_, ?_⟩
  · show 0 ≤ a.2.1 + _ ∧ a.2.1 + _ + (((List.map _ _).countP _ : Nat) : Int) ≤ c
    dsimp only at b4
    omega
  · show (List.map _ _).length ≤ 12
    rw [List.length_map]
    omega
  · intro x hx
    obtain ⟨z, hz, rfl⟩ := List.mem_map.mp hx
    exact flL_ok (b1 z hz)
/-- a sound State in the world -/
def okC (c : Int) (w : Wd) (b : Nat) : Prop := 0 ≤ w b 3 ∧ okAS c (cAS w b)
theorem okC.n {c : Int} {w : Wd} {b : Nat} (h : okC c w b) : 0 ≤ w b 3 ∧ w b 3 ≤ 12 := by
  have h1 := h.2.2.2.2.2.1
  have h2 := cLs_len w b
  have h3 : (cLs w b).length ≤ 12 := h1
  have := h.1
  omega
theorem okC.ln {c : Int} {w : Wd} {b : Nat} (h : okC c w b) {i : Int} (h0 : 0 ≤ i) (h1 : i < w b 3) : (0 ≤ w (b + 3) i ∧ w (b + 3) i < 6) ∧ (1 ≤ w (b + 4) i ∧ w (b + 4) i ≤ 99) ∧ (0 < w (b + 5) i ∧ w (b + 5) i ≤ 1000000) ∧ (0 ≤ w (b + 6) i ∧ w (b + 6) i ≤ 20000) ∧ (w (b + 7) i = 0 ∨ w (b + 7) i = 1) :=
  h.2.2.2.2.2.2 _ (List.mem_of_getElem? (cLs_at h0 h1))
theorem okC.has {c : Int} {w : Wd} {b : Nat} (h : okC c w b) {t : Int} (h0 : 0 ≤ t) (h1 : t < 6) : 0 ≤ w (b + 1) t ∧ w (b + 1) t ≤ 99 := by
  have h2 := h.2.2.2.1.2 _ (List.mem_of_getElem? (gl_at (w := w) (k := b + 1) (o := 0) (n := 6) (i := t.toNat) (by omega)))
  rwa [show (0 : Int) + ((t.toNat : Nat) : Int) = t by omega] at h2
theorem okC.fate {c : Int} {w : Wd} {b : Nat} (h : okC c w b) {t : Int} (h0 : 0 ≤ t) (h1 : t < 6) : 0 ≤ w (b + 2) t ∧ w (b + 2) t ≤ 2 := by
  have h2 := h.2.2.2.2.1.2 _ (List.mem_of_getElem? (gl_at (w := w) (k := b + 2) (o := 0) (n := 6) (i := t.toNat) (by omega)))
  rwa [show (0 : Int) + ((t.toNat : Nat) : Int) = t by omega] at h2
theorem okC.day {c : Int} {w : Wd} {b : Nat} (h : okC c w b) : 0 ≤ w b 0 ∧ w b 0 ≤ 20000 := h.2.1
/-- what is told is sound -/
def okT (w : Wd) (d : Nat) : Prop := (0 ≤ w d 0 ∧ w d 0 ≤ 6) ∧ (0 ≤ w d 6 ∧ w d 6 ≤ 6) ∧ (0 ≤ w d 9 ∧ w d 9 ≤ 99) ∧ (∀ t : Int, 0 ≤ t → t < 6 → (0 ≤ w (d + 1) t ∧ w (d + 1) t ≤ 3) ∧ (0 ≤ w (d + 2) t ∧ w (d + 2) t ≤ 99) ∧ (0 ≤ w (d + 3) t ∧ w (d + 3) t ≤ 50) ∧ (0 ≤ w (d + 4) t ∧ w (d + 4) t ≤ 99) ∧ (0 ≤ w (d + 5) t ∧ w (d + 5) t ≤ 9)) ∧ ∀ q : Int, 0 ≤ q → q < w d 6 → (0 ≤ w (d + 6) q ∧ w (d + 6) q < 6) ∧ (0 ≤ w (d + 7) q ∧ w (d + 7) q < 6)
theorem gl_mem {w : Wd} {k : Nat} {o : Int} {n : Nat} {x : Int} (h : x ∈ gl w k o n) : ∃ i : Int, 0 ≤ i ∧ i < (n : Int) ∧ x = w k (o + i) := by
  unfold gl at h
  obtain ⟨i, hi, rfl⟩ := List.mem_map.mp h
  exact ⟨i, by omega, by have := List.mem_range.mp hi; omega, rfl⟩
theorem okT.kr {w : Wd} {d : Nat} (h : okT w d) : okKR (gl w (d + 1) 0 6) (gl w (d + 3) 0 6) := by
  refine ⟨⟨gl_len _ _ _ _, fun x hx => ?_⟩, ⟨gl_len _ _ _ _, fun x hx => ?_⟩⟩
  · obtain ⟨i, h0, h1, rfl⟩ := gl_mem hx
    rw [Int.zero_add]
    exact (h.2.2.2.1 i h0 h1).1
  · obtain ⟨i, h0, h1, rfl⟩ := gl_mem hx
    rw [Int.zero_add]
    exact (h.2.2.2.1 i h0 h1).2.2.1
/-- nothing but the State at b has changed -/
def frm (b : Nat) (w w' : Wd) : Prop := ∀ (k : Nat) (j : Int), (k < b ∨ b + 7 < k) → w' k j = w k j
theorem cLs_gw {w : Wd} {b d : Nat} (hb : IsSt b) (hd : IsTd d) (hs : ∀ i : Int, 0 ≤ i → i < w b 3 → 0 ≤ w (b + 3) i ∧ w (b + 3) i < 6) : cLs (gwS w b d 0) b = (cLs w b).map (grL (gl w (d + 1) 0 6) (gl w (d + 3) 0 6)) := by
  have g : ∀ (k : Nat) (j : Int), k ≠ b + 5 → gwS w b d 0 k j = w k j := by
    intro k j h
    unfold gwS
    rw [if_neg (by omega)]
  unfold cLs
  rw [g b 3 (by omega), List.map_map]
  apply List.map_congr_left
  intro i hi
  have hi2 := List.mem_range.mp hi
  have q := hs i (by omega) (by omega)
  show cLn (gwS w b d 0) b i = grL _ _ (cLn w b i)
  unfold cLn grL
  dsimp only
  rw [g (b + 3) _ (by omega), g (b + 4) _ (by omega), g (b + 6) _ (by omega), g (b + 7) _ (by omega), gl_D q.1 (by omega), gl_D q.1 (by omega), Int.zero_add]
  congr 3
  unfold gwS
  rw [if_pos (by omega)]
theorem fcS_cnt {w : Wd} {b : Nat} : ∀ (n : Nat) (i : Int), 0 ≤ i → i + n = w b 3 → fcS w b n i = ((((cLs w b).drop i.toNat).countP (flP (w b 0)) : Nat) : Int)
  | 0, i, h0, h1 => by rw [cLs_end (by omega)]; rfl
  | n + 1, i, h0, h1 => by
    rw [cLs_drop h0 (by omega), List.countP_cons, fcS, fcS_cnt n (i + 1) (by omega) (by omega)]
    unfold flP
    dsimp only
    by_cases h : w (b + 6) i ≤ w b 0 ∧ w (b + 7) i = 0
    · rw [if_pos h, if_pos (by simpa using h)]
      omega
    · rw [if_neg h, if_neg (by simpa using h)]
      omega
theorem cLs_fw {w : Wd} {b : Nat} (h : 0 ≤ w b 3) : cLs (fwS w b 0 (w b 3).toNat) b = (cLs w b).map (flL (w b 0)) := by
  have g : ∀ (k : Nat) (j : Int), k ≠ b + 7 → (k ≠ b ∨ j ≠ 9) → fwS w b 0 (w b 3).toNat k j = w k j := by
    intro k j h1 h2
    unfold fwS
    rw [if_neg (fun z => h1 z.1), if_neg (by omega)]
  unfold cLs
  rw [g b 3 (by omega) (by omega), List.map_map]
  apply List.map_congr_left
  intro i hi
  have hi2 := List.mem_range.mp hi
  show cLn (fwS w b 0 (w b 3).toNat) b i = flL (w b 0) (cLn w b i)
  unfold cLn
  rw [g (b + 3) _ (by omega) (by omega), g (b + 4) _ (by omega) (by omega), g (b + 5) _ (by omega) (by omega), g (b + 6) _ (by omega) (by omega)]
  unfold flL flP
  dsimp only
  unfold fwS
  by_cases hc : w (b + 6) (i : Int) ≤ w b 0 ∧ w (b + 7) (i : Int) = 0
  · rw [if_pos ⟨rfl, by omega, hc⟩, if_pos (by simpa using hc)]
  · rw [if_neg (fun z => hc z.2.2), if_neg (by omega), if_neg (by simpa using hc)]

/-! ===== 07 the wood as lists: what days do to it ===== -/
/-- a loan: of which tree, branches, owed, due, 1 if it failed -/
abbrev Ln : Type := Int × Int × Int × Int × Int
/-- the day, how many failed, branches, fates, loans -/
abbrev AS : Type := Int × Int × List Int × List Int × List Ln
/-- n cells of the world from place o on of cell k, as a list -/
def gl (w : Wd) (k : Nat) (o : Int) (n : Nat) : List Int := (List.range n).map (fun i : Nat => w k (o + (i : Int)))
theorem gl_len (w : Wd) (k : Nat) (o : Int) (n : Nat) : (gl w k o n).length = n := by simp [gl]
theorem gl_at {w : Wd} {k : Nat} {o : Int} {n i : Nat} (h : i < n) : (gl w k o n)[i]? = some (w k (o + (i : Int))) := by
  simp [gl, h]
theorem gl_D {w : Wd} {k : Nat} {o : Int} {n : Nat} {t : Int} (h0 : 0 ≤ t) (h : t < (n : Int)) : (gl w k o n).getD t.toNat 0 = w k (o + t) := by
  have h1 : t.toNat < n := by omega
  rw [List.getD_eq_getElem?_getD, gl_at h1]
  simp only [Option.getD_some]
  congr 1
  omega
theorem gl_eq {w w' : Wd} {k k' : Nat} {o o' : Int} {n : Nat} (h : ∀ i : Int, 0 ≤ i → i < (n : Int) → w k (o + i) = w' k' (o' + i)) : gl w k o n = gl w' k' o' n := by
  unfold gl
  apply List.map_congr_left
  intro i hi
  exact h i (by omega) (by have := List.mem_range.mp hi; omega)
/-- what is owed, grown once -/
def grw (kind rate owed lent : Int) : Int := min (owed + (if kind = 2 then owed * (rate / 2) / 100 else if kind = 3 then rate * lent else owed * rate / 100)) 1000000
def grL (K R : List Int) (x : Ln) : Ln := (x.1, x.2.1, grw (K.getD x.1.toNat 0) (R.getD x.1.toNat 0) x.2.2.1 x.2.1, x.2.2.2.1, x.2.2.2.2)
/-- the first of the loans that are due first -/
def fdF (best : Nat) (bd : Int) : Nat → List Ln → Nat
  | _, [] => best
  | i, x :: r => if x.2.2.2.1 < bd then fdF i x.2.2.2.1 (i + 1) r else fdF best bd (i + 1) r
def fdL (l : List Ln) : Nat := match l with
  | [] => 0
  | x :: r => fdF 0 x.2.2.2.1 1 r
theorem fdF_lt (best : Nat) (bd : Int) : ∀ (r : List Ln) (i : Nat), best < i → fdF best bd i r < i + r.length
  | [], i, h => by simp [fdF]; omega
  | x :: r, i, h => by
    unfold fdF
    split
    · have := fdF_lt i x.2.2.2.1 r (i + 1) (by omega)
      simp only [List.length_cons]; omega
    · have := fdF_lt best bd r (i + 1) (by omega)
      simp only [List.length_cons]; omega
theorem fdL_lt {l : List Ln} (h : l ≠ []) : fdL l < l.length := by
  cases l with
  | nil => exact absurd rfl h
  | cons x r =>
    have := fdF_lt 0 x.2.2.2.1 r 1 (by omega)
    simp only [fdL, List.length_cons]; omega
def ln0 : Ln := (0, 0, 0, 0, 0)
/-- one loan is worked at -/
def wk1 (left : Int) (hl : List Int × List Ln) : Int × (List Int × List Ln) :=
  let k := fdL hl.2
  let x := hl.2.getD k ln0
  let by_ := min left x.2.2.1
  (left - by_, if x.2.2.1 - by_ = 0 then (hl.1.set x.1.toNat (min (hl.1.getD x.1.toNat 0 + x.2.1) 99), hl.2.eraseIdx k) else (hl.1, hl.2.set k (x.1, x.2.1, x.2.2.1 - by_, x.2.2.2.1, x.2.2.2.2)))
/-- work, as many rounds as there may be -/
def wkN : Nat → Int → List Int × List Ln → List Int × List Ln
  | 0, _, hl => hl
  | n + 1, left, hl => if 0 < left ∧ hl.2 ≠ [] then wkN n (wk1 left hl).1 (wk1 left hl).2 else hl
theorem wkN_stop {left : Int} {hl : List Int × List Ln} (h : ¬ (0 < left ∧ hl.2 ≠ [])) : ∀ n, wkN n left hl = hl
  | 0 => rfl
  | n + 1 => by rw [wkN, if_neg h]
/-- a round pays a loan off, or nothing is left to work -/
theorem wk1_down {left : Int} {hl : List Int × List Ln} (h2 : hl.2 ≠ []) : (wk1 left hl).2.2.length + 1 = hl.2.length ∨ (¬ 0 < (wk1 left hl).1 ∧ (wk1 left hl).2.2.length = hl.2.length) := by
  have hk := fdL_lt h2
  unfold wk1
  dsimp only
  split
  · left
    rw [List.length_eraseIdx_of_lt hk]
    omega
  · rename_i hne
    right
    refine ⟨?_, by simp⟩
    omega
theorem wkN_more : ∀ (n : Nat) (left : Int) (hl : List Int × List Ln), hl.2.length ≤ n → wkN n left hl = wkN hl.2.length left hl
  | 0, left, hl, h => by rw [show hl.2.length = 0 by omega]
  | n + 1, left, hl, h => by
    by_cases hc : 0 < left ∧ hl.2 ≠ []
    · obtain ⟨m, hm⟩ : ∃ m, hl.2.length = m + 1 := ⟨hl.2.length - 1, by have := List.length_pos_iff.mpr hc.2; omega⟩
      rw [hm, wkN, wkN, if_pos hc, if_pos hc]
      rcases wk1_down (left := left) hc.2 with h1 | ⟨h1, h2⟩
      · rw [wkN_more n _ _ (by omega), show m = (wk1 left hl).2.2.length by omega]
      · rw [wkN_stop (fun z => h1 z.1), wkN_stop (fun z => h1 z.1)]
    · rw [wkN_stop hc, wkN_stop hc]
/-- loans that are due and have not failed yet fail -/
def flP (day : Int) (x : Ln) : Bool := decide (x.2.2.2.1 ≤ day ∧ x.2.2.2.2 = 0)
def flL (day : Int) (x : Ln) : Ln := if flP day x then (x.1, x.2.1, x.2.2.1, x.2.2.2.1, 1) else x
/-- one day -/
def dyS (K R : List Int) (hands : Int) (a : AS) : AS :=
  let r := wkN 12 (hands * 100) (a.2.2.1, a.2.2.2.2.map (grL K R))
  (a.1 + 1, a.2.1 + ((r.2.countP (flP a.1) : Nat) : Int), r.1, a.2.2.2.1, r.2.map (flL a.1))
def dysS (K R : List Int) (hands : Int) : Nat → AS → AS
  | 0, a => a
  | n + 1, a => dysS K R hands n (dyS K R hands a)
/-- owed to a tree, in all -/
def owL (t : Int) : List Ln → Int
  | [] => 0
  | x :: r => (if x.1 = t then x.2.2.1 else 0) + owL t r
def oaL : List Ln → Int
  | [] => 0
  | x :: r => x.2.2.1 + oaL r
/-- the class's State at b, the reference's row from o on -/
def cLn (w : Wd) (b : Nat) (i : Nat) : Ln := (w (b + 3) (i : Int), w (b + 4) (i : Int), w (b + 5) (i : Int), w (b + 6) (i : Int), w (b + 7) (i : Int))
def cLs (w : Wd) (b : Nat) : List Ln := (List.range (w b 3).toNat).map (cLn w b)
def cAS (w : Wd) (b : Nat) : AS := (w b 0, w b 9, gl w (b + 1) 0 6, gl w (b + 2) 0 6, cLs w b)
def mLn (w : Wd) (o : Int) (i : Nat) : Ln := (w 72 (o + 15 + 5 * (i : Int)), w 72 (o + 16 + 5 * (i : Int)), w 72 (o + 17 + 5 * (i : Int)), w 72 (o + 18 + 5 * (i : Int)), w 72 (o + 19 + 5 * (i : Int)))
def mLs (w : Wd) (o : Int) : List Ln := (List.range (w 72 (o + 14)).toNat).map (mLn w o)
def mAS (w : Wd) (o : Int) : AS := (w 72 o, w 72 (o + 1), gl w 72 (o + 2) 6, gl w 72 (o + 8) 6, mLs w o)
/-- a list made by places, from place i on -/
theorem rg_drop {α : Type} (g : Nat → α) {n i : Nat} (h : i < n) : ((List.range n).map g).drop i = g i :: ((List.range n).map g).drop (i + 1) := by
  have hl : i < ((List.range n).map g).length := by simpa using h
  rw [List.drop_eq_getElem_cons hl]
  simp
theorem rg_end {α : Type} (g : Nat → α) (n : Nat) : ((List.range n).map g).drop n = [] := by
  apply List.drop_eq_nil_of_le
  simp
/-- a sound loan, a sound state -/
def okLn (x : Ln) : Prop := (0 ≤ x.1 ∧ x.1 < 6) ∧ (1 ≤ x.2.1 ∧ x.2.1 ≤ 99) ∧ (0 < x.2.2.1 ∧ x.2.2.1 ≤ 1000000) ∧ (0 ≤ x.2.2.2.1 ∧ x.2.2.2.1 ≤ 20000) ∧ (x.2.2.2.2 = 0 ∨ x.2.2.2.2 = 1)
def okAS (c : Int) (a : AS) : Prop := (0 ≤ a.1 ∧ a.1 ≤ 20000) ∧ (0 ≤ a.2.1 ∧ a.2.1 + ((a.2.2.2.2.countP (fun x => decide (x.2.2.2.2 = 0)) : Nat) : Int) ≤ c) ∧ (a.2.2.1.length = 6 ∧ ∀ x ∈ a.2.2.1, 0 ≤ x ∧ x ≤ 99) ∧ (a.2.2.2.1.length = 6 ∧ ∀ x ∈ a.2.2.2.1, 0 ≤ x ∧ x ≤ 2) ∧ a.2.2.2.2.length ≤ 12 ∧ ∀ x ∈ a.2.2.2.2, okLn x

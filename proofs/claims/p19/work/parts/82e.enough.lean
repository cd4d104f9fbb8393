/-! ===== 82e enough: more hands never fail a loan that fewer do not ===== -/
/-- one loan no worse than another: the same but for what is owed -/
def lnLe (y x : Ln) : Prop := y.1 = x.1 ∧ y.2.1 = x.2.1 ∧ y.2.2.1 ≤ x.2.2.1 ∧ y.2.2.2.1 = x.2.2.2.1 ∧ y.2.2.2.2 = x.2.2.2.2
/-- fewer loans, each no worse -/
def Sb : List Ln → List Ln → Prop
  | [], _ => True
  | _ :: _, [] => False
  | y :: l, x :: r => (lnLe y x ∧ Sb l r) ∨ Sb (y :: l) r
theorem lnLe.rf (x : Ln) : lnLe x x := ⟨rfl, rfl, Int.le_refl _, rfl, rfl⟩
theorem lnLe.tr {z y x : Ln} (h : lnLe z y) (g : lnLe y x) : lnLe z x := ⟨h.1.trans g.1, h.2.1.trans g.2.1, Int.le_trans h.2.2.1 g.2.2.1, h.2.2.2.1.trans g.2.2.2.1, h.2.2.2.2.trans g.2.2.2.2⟩
theorem Sb.nil (r : List Ln) : Sb [] r := by cases r <;> trivial
theorem Sb.keep {y x : Ln} {l r : List Ln} (h : lnLe y x) (g : Sb l r) : Sb (y :: l) (x :: r) := Or.inl ⟨h, g⟩
theorem Sb.drop {x : Ln} {l r : List Ln} (g : Sb l r) : Sb l (x :: r) := by
  cases l with
  | nil => exact Sb.nil _
  | cons y l => exact Or.inr g
theorem Sb.rf : ∀ l : List Ln, Sb l l
  | [] => Sb.nil _
  | x :: l => Sb.keep (lnLe.rf x) (Sb.rf l)
theorem Sb.tr : ∀ (r m l : List Ln), Sb l m → Sb m r → Sb l r
  | [], m, l, h, g => by
    cases m with
    | nil => exact h
    | cons _ _ => exact g.elim
  | x :: r, [], l, h, g => by
    cases l with
    | nil => exact Sb.nil _
    | cons _ _ => exact h.elim
  | x :: r, y :: m, l, h, g => by
    rcases g with ⟨g1, g2⟩ | g
    · cases l with
      | nil => exact Sb.nil _
      | cons z l =>
        rcases h with ⟨h1, h2⟩ | h
        · exact Sb.keep (h1.tr g1) (Sb.tr r m l h2 g2)
        · exact Sb.drop (Sb.tr r m (z :: l) h g2)
    · exact Sb.drop (Sb.tr r (y :: m) l h g)
theorem Sb.app : ∀ {r r' l l' : List Ln}, Sb l r → Sb l' r' → Sb (l ++ l') (r ++ r')
  | [], r', l, l', h, g => by
    cases l with
    | nil => exact g
    | cons _ _ => exact h.elim
  | x :: r, r', l, l', h, g => by
    cases l with
    | nil => exact Sb.drop (Sb.app (Sb.nil r) g)
    | cons y l =>
      rcases h with ⟨h1, h2⟩ | h
      · exact Sb.keep h1 (Sb.app h2 g)
      · exact Sb.drop (Sb.app (l := y :: l) h g)
/-- split at a place of the right side -/
theorem Sb.split : ∀ (A : List Ln) {B l : List Ln}, Sb l (A ++ B) → ∃ A2 B2, l = A2 ++ B2 ∧ Sb A2 A ∧ Sb B2 B
  | [], B, l, h => ⟨[], l, rfl, Sb.nil _, h⟩
  | x :: A, B, l, h => by
    cases l with
    | nil => exact ⟨[], [], rfl, Sb.nil _, Sb.nil _⟩
    | cons y l =>
      rcases h with ⟨h1, h2⟩ | h
      · obtain ⟨A2, B2, e, q1, q2⟩ := Sb.split A h2
        exact ⟨y :: A2, B2, by rw [e]; rfl, Sb.keep h1 q1, q2⟩
      · obtain ⟨A2, B2, e, q1, q2⟩ := Sb.split A h
        exact ⟨A2, B2, e, Sb.drop q1, q2⟩
theorem Sb.all {p : Ln → Prop} (hp : ∀ y x, lnLe y x → p x → p y) : ∀ {r l : List Ln}, Sb l r → (∀ x ∈ r, p x) → ∀ y ∈ l, p y
  | [], l, h, _, y, hy => by
    cases l with
    | nil => cases hy
    | cons _ _ => exact h.elim
  | x :: r, l, h, g, y, hy => by
    cases l with
    | nil => cases hy
    | cons z l =>
      rcases h with ⟨h1, h2⟩ | h
      · rcases List.mem_cons.mp hy with e | q
        · rw [e]; exact hp z x h1 (g x List.mem_cons_self)
        · exact Sb.all hp h2 (fun u hu => g u (List.mem_cons_of_mem _ hu)) y q
      · exact Sb.all hp h (fun u hu => g u (List.mem_cons_of_mem _ hu)) y hy
theorem Sb.map {f : Ln → Ln} (hf : ∀ y x, lnLe y x → lnLe (f y) (f x)) : ∀ {r l : List Ln}, Sb l r → Sb (l.map f) (r.map f)
  | [], l, h => by
    cases l with
    | nil => exact Sb.nil _
    | cons _ _ => exact h.elim
  | x :: r, l, h => by
    cases l with
    | nil => exact Sb.nil _
    | cons y l =>
      rcases h with ⟨h1, h2⟩ | h
      · exact Sb.keep (hf y x h1) (Sb.map hf h2)
      · exact Sb.drop (Sb.map hf (l := y :: l) h)
/-- which loan is due first -/
theorem fdF_spec (l0 : List Ln) : ∀ (r : List Ln) (i best : Nat) (x : Ln), best < i → l0.drop i = r → l0[best]? = some x → (∀ j, j < best → ∀ y, l0[j]? = some y → x.2.2.2.1 < y.2.2.2.1) → (∀ j, best < j → j < i → ∀ y, l0[j]? = some y → x.2.2.2.1 ≤ y.2.2.2.1) → ∃ z, l0[fdF best x.2.2.2.1 i r]? = some z ∧ (∀ j, j < fdF best x.2.2.2.1 i r → ∀ y, l0[j]? = some y → z.2.2.2.1 < y.2.2.2.1) ∧ (∀ j, fdF best x.2.2.2.1 i r < j → ∀ y, l0[j]? = some y → z.2.2.2.1 ≤ y.2.2.2.1)
  | [], i, best, x, hb, hd, hx, h1, h2 => by
    refine ⟨x, hx, h1, fun j hj y hy => h2 j hj ?_ y hy⟩
    have := List.drop_eq_nil_iff.mp hd
    have := (List.getElem?_eq_some_iff.mp hy).1
    omega
  | u :: r, i, best, x, hb, hd, hx, h1, h2 => by
    have hi : l0[i]? = some u := by
      have := congrArg (fun t : List Ln => t[0]?) hd
      simpa using this
    have hd' : l0.drop (i + 1) = r := by rw [← List.drop_drop, hd]; rfl
    unfold fdF
    split
    · rename_i hlt
      refine fdF_spec l0 r (i + 1) i u (by omega) hd' hi (fun j hj y hy => ?_) (fun j g1 g2 => by omega)
      rcases Nat.lt_trichotomy j best with q | q | q
      · have := h1 j q y hy; omega
      · subst q
        rw [hx] at hy
        cases hy
        exact hlt
      · have := h2 j q hj y hy; omega
    · rename_i hge
      refine fdF_spec l0 r (i + 1) best x (by omega) hd' hx h1 (fun j g1 g2 y hy => ?_)
      rcases Nat.lt_or_ge j i with q | q
      · exact h2 j g1 q y hy
      · rw [show j = i by omega, hi] at hy
        cases hy
        omega
theorem fdL_spec {l : List Ln} (h : l ≠ []) : ∃ A x B, l = A ++ x :: B ∧ fdL l = A.length ∧ (∀ a ∈ A, x.2.2.2.1 < a.2.2.2.1) ∧ ∀ b ∈ B, x.2.2.2.1 ≤ b.2.2.2.1 := by
  cases l with
  | nil => exact absurd rfl h
  | cons u r =>
    obtain ⟨z, q1, q2, q3⟩ := fdF_spec (u :: r) r 1 0 u (by omega) rfl rfl (fun j hj => by omega) (fun j g1 g2 => by omega)
    have e : fdL (u :: r) = fdF 0 u.2.2.2.1 1 r := rfl
    rw [← e] at q1 q2 q3
    generalize fdL (u :: r) = k at q1 q2 q3
    generalize u :: r = l at q1 q2 q3
    obtain ⟨hk, hz⟩ := List.getElem?_eq_some_iff.mp q1
    refine ⟨l.take k, z, l.drop (k + 1), ?_, by rw [List.length_take]; omega, fun a ha => ?_, fun b hb => ?_⟩
    · rw [← hz, List.getElem_cons_drop, List.take_append_drop]
    · obtain ⟨j, hj⟩ := List.getElem?_of_mem ha
      rw [List.getElem?_take] at hj
      split at hj
      · rename_i hlt; exact q2 j hlt a hj
      · cases hj
    · obtain ⟨j, hj⟩ := List.getElem?_of_mem hb
      rw [List.getElem?_drop] at hj
      exact q3 (k + 1 + j) (by omega) b hj
theorem fdL_uniq {A B : List Ln} {x : Ln} (hA : ∀ a ∈ A, x.2.2.2.1 < a.2.2.2.1) (hB : ∀ b ∈ B, x.2.2.2.1 ≤ b.2.2.2.1) : fdL (A ++ x :: B) = A.length := by
  obtain ⟨A', x', B', e, e2, hA', hB'⟩ := fdL_spec (l := A ++ x :: B) (by simp)
  rw [e2]
  have at1 : (A ++ x :: B)[A.length]? = some x := by simp
  have at2 : (A ++ x :: B)[A'.length]? = some x' := by rw [e]; simp
  rcases Nat.lt_trichotomy A'.length A.length with q | q | q
  · have m : x' ∈ A := by
      rw [List.getElem?_append_left q] at at2
      exact List.mem_of_getElem? at2
    have n : x ∈ B' := by
      rw [e, List.getElem?_append_right (by omega)] at at1
      rw [show A.length - A'.length = (A.length - A'.length - 1) + 1 by omega, List.getElem?_cons_succ] at at1
      exact List.mem_of_getElem? at1
    have := hA x' m
    have := hB' x n
    omega
  · exact q
  · have m : x ∈ A' := by
      rw [e, List.getElem?_append_left q] at at1
      exact List.mem_of_getElem? at1
    have n : x' ∈ B := by
      rw [List.getElem?_append_right (by omega)] at at2
      rw [show A'.length - A.length = (A'.length - A.length - 1) + 1 by omega, List.getElem?_cons_succ] at at2
      exact List.mem_of_getElem? at2
    have := hA' x m
    have := hB x' n
    omega
theorem Sb.len : ∀ {r l : List Ln}, Sb l r → l.length ≤ r.length
  | [], l, h => by
    cases l with
    | nil => exact Nat.le_refl _
    | cons _ _ => exact h.elim
  | x :: r, l, h => by
    cases l with
    | nil => exact Nat.zero_le _
    | cons y l =>
      rcases h with ⟨-, h2⟩ | h
      · exact Nat.succ_le_succ (Sb.len h2)
      · exact Nat.le_succ_of_le (Sb.len (l := y :: l) h)
/-- something is owed of each -/
def psL (l : List Ln) : Prop := ∀ x ∈ l, 0 < x.2.2.1
theorem psL.app {A B : List Ln} (h : psL (A ++ B)) : psL A ∧ psL B := ⟨fun x hx => h x (List.mem_append_left _ hx), fun x hx => h x (List.mem_append_right _ hx)⟩
theorem psL.mk {A B : List Ln} (h : psL A) (g : psL B) : psL (A ++ B) := fun x hx => (List.mem_append.mp hx).elim (h x) (g x)
theorem psL.hd {B : List Ln} {x : Ln} (h : psL (x :: B)) : 0 < x.2.2.1 ∧ psL B := ⟨h x List.mem_cons_self, fun y hy => h y (List.mem_cons_of_mem _ hy)⟩
theorem psL.cs {B : List Ln} {x : Ln} (h : 0 < x.2.2.1) (g : psL B) : psL (x :: B) := fun y hy => (List.mem_cons.mp hy).elim (fun e => e ▸ h) (g y)
/-- a loan, lessened -/
def lsL (x : Ln) (b : Int) : Ln := (x.1, x.2.1, x.2.2.1 - b, x.2.2.2.1, x.2.2.2.2)
theorem wk1_pay {left : Int} {hl : List Int × List Ln} {A B : List Ln} {x : Ln} (e : hl.2 = A ++ x :: B) (ef : fdL hl.2 = A.length) (h : x.2.2.1 ≤ left) : (wk1 left hl).1 = left - x.2.2.1 ∧ (wk1 left hl).2.2 = A ++ B := by
  have e1 : hl.2.getD (fdL hl.2) ln0 = x := by rw [ef, e]; simp
  have e2 : hl.2.eraseIdx (fdL hl.2) = A ++ B := by
    rw [ef, e, List.eraseIdx_append_of_length_le (Nat.le_refl _)]
    simp
  unfold wk1
  dsimp only
  rw [e1, e2, show min left x.2.2.1 = x.2.2.1 by omega, if_pos (by omega)]
  exact ⟨rfl, rfl⟩
theorem wk1_part {left : Int} {hl : List Int × List Ln} {A B : List Ln} {x : Ln} (e : hl.2 = A ++ x :: B) (ef : fdL hl.2 = A.length) (h : left < x.2.2.1) : (wk1 left hl).1 = 0 ∧ (wk1 left hl).2.2 = A ++ lsL x left :: B := by
  have e1 : hl.2.getD (fdL hl.2) ln0 = x := by rw [ef, e]; simp
  unfold wk1
  dsimp only
  rw [e1, ef, show min left x.2.2.1 = left by omega, if_neg (by omega)]
  refine ⟨by omega, ?_⟩
  dsimp only
  rw [e]
  simp [lsL]
theorem lnLe.ls {x : Ln} {b : Int} (h : 0 ≤ b) : lnLe (lsL x b) x := ⟨rfl, rfl, by show x.2.2.1 - b ≤ x.2.2.1; omega, rfl, rfl⟩
theorem wkN_sb : ∀ (n : Nat) (left : Int) (hl : List Int × List Ln), psL hl.2 → Sb (wkN n left hl).2 hl.2 ∧ psL (wkN n left hl).2
  | 0, left, hl, h => ⟨Sb.rf _, h⟩
  | n + 1, left, hl, h => by
    by_cases hc : 0 < left ∧ hl.2 ≠ []
    · rw [wkN, if_pos hc]
      obtain ⟨A, x, B, e, ef, -, -⟩ := fdL_spec hc.2
      have hp := h
      rw [e] at hp
      obtain ⟨pA, pB⟩ := hp.app
      by_cases hq : x.2.2.1 ≤ left
      · obtain ⟨-, e2⟩ := wk1_pay e ef hq
        obtain ⟨i1, i2⟩ := wkN_sb n (wk1 left hl).1 (wk1 left hl).2 (by rw [e2]; exact pA.mk pB.hd.2)
        refine ⟨Sb.tr _ _ _ i1 ?_, i2⟩
        rw [e2, e]
        exact Sb.app (Sb.rf A) (Sb.drop (Sb.rf B))
      · obtain ⟨-, e2⟩ := wk1_part (left := left) e ef (by omega)
        obtain ⟨i1, i2⟩ := wkN_sb n (wk1 left hl).1 (wk1 left hl).2 (by
          rw [e2]
          exact pA.mk (psL.cs (by show 0 < x.2.2.1 - left; omega) pB.hd.2))
        refine ⟨Sb.tr _ _ _ i1 ?_, i2⟩
        rw [e2, e]
        exact Sb.app (Sb.rf A) (Sb.keep (lnLe.ls (by omega)) (Sb.rf B))
    · rw [wkN_stop hc]
      exact ⟨Sb.rf _, h⟩
/-- more work over fewer loans leaves fewer loans -/
theorem wkN_mono : ∀ (n1 : Nat) (f1 : Int) (h1 : List Int × List Ln) (n2 : Nat) (f2 : Int) (h2 : List Int × List Ln), h2.2.length ≤ n2 → f1 ≤ f2 → Sb h2.2 h1.2 → psL h1.2 → psL h2.2 → Sb (wkN n2 f2 h2).2 (wkN n1 f1 h1).2
  | 0, f1, h1, n2, f2, h2, hl2, hf, hs, p1, p2 => Sb.tr _ _ _ (wkN_sb n2 f2 h2 p2).1 hs
  | n1 + 1, f1, h1, n2, f2, h2, hl2, hf, hs, p1, p2 => by
    by_cases hc : 0 < f1 ∧ h1.2 ≠ []
    · rw [wkN.eq_def (n1 + 1), ]
      dsimp only
      rw [if_pos hc]
      obtain ⟨A, x, B, e, ef, hA, hB⟩ := fdL_spec hc.2
      have hp := p1
      rw [e] at hp
      obtain ⟨pA, pB⟩ := hp.app
      have hs' := hs
      rw [e] at hs'
      obtain ⟨A2, R2, e2, sA, sR⟩ := Sb.split A hs'
      -- the loan has no like on the other side, or it has
      have key : Sb R2 B ∨ ∃ y B2, R2 = y :: B2 ∧ lnLe y x ∧ Sb B2 B := by
        cases R2 with
        | nil => exact Or.inl (Sb.nil _)
        | cons y B2 =>
          rcases sR with ⟨q1, q2⟩ | q
          · exact Or.inr ⟨y, B2, rfl, q1, q2⟩
          · exact Or.inl q
      rcases key with q | ⟨y, B2, rfl, qy, qB⟩
      · by_cases hq : x.2.2.1 ≤ f1
        · obtain ⟨g1, g2⟩ := wk1_pay e ef hq
          refine wkN_mono n1 _ _ n2 f2 h2 hl2 (by rw [g1]; have := pB.hd.1; omega) (by rw [g2, e2]; exact Sb.app sA q) (by rw [g2]; exact pA.mk pB.hd.2) p2
        · obtain ⟨g1, g2⟩ := wk1_part (left := f1) e ef (by omega)
          rw [wkN_stop (hl := (wk1 f1 h1).2) (fun z => by rw [g1] at z; omega), g2]
          refine Sb.tr _ _ _ (wkN_sb n2 f2 h2 p2).1 ?_
          rw [e2]
          exact Sb.app sA (Sb.drop q)
      · have hA2 : ∀ a ∈ A2, y.2.2.2.1 < a.2.2.2.1 := Sb.all (p := fun a : Ln => y.2.2.2.1 < a.2.2.2.1) (fun u v h g => by rw [h.2.2.2.1]; exact g) sA (fun a ha => by rw [qy.2.2.2.1]; exact hA a ha)
        have hB2 : ∀ b ∈ B2, y.2.2.2.1 ≤ b.2.2.2.1 := Sb.all (p := fun a : Ln => y.2.2.2.1 ≤ a.2.2.2.1) (fun u v h g => by rw [h.2.2.2.1]; exact g) qB (fun b hb => by rw [qy.2.2.2.1]; exact hB b hb)
        have ef2 : fdL h2.2 = A2.length := by rw [e2]; exact fdL_uniq hA2 hB2
        have hp2 := p2
        rw [e2] at hp2
        obtain ⟨pA2, pB2⟩ := hp2.app
        have hy := qy.2.2.1
        have c2 : 0 < f2 ∧ h2.2 ≠ [] := ⟨by omega, by rw [e2]; simp⟩
        obtain ⟨m2, rfl⟩ : ∃ m, n2 = m + 1 := ⟨n2 - 1, by rw [e2] at hl2; simp at hl2; omega⟩
        have len2 : A2.length + B2.length ≤ m2 := by rw [e2] at hl2; simp at hl2; omega
        rw [wkN.eq_def (m2 + 1)]
        dsimp only
        rw [if_pos c2]
        by_cases hq : x.2.2.1 ≤ f1
        · obtain ⟨g1, g2⟩ := wk1_pay e ef hq
          obtain ⟨k1, k2⟩ := wk1_pay e2 ef2 (left := f2) (by omega)
          exact wkN_mono n1 _ _ m2 _ _ (by rw [k2]; simp; omega) (by rw [g1, k1]; omega) (by rw [g2, k2]; exact Sb.app sA qB) (by rw [g2]; exact pA.mk pB.hd.2) (by rw [k2]; exact pA2.mk pB2.hd.2)
        · obtain ⟨g1, g2⟩ := wk1_part (left := f1) e ef (by omega)
          rw [wkN_stop (hl := (wk1 f1 h1).2) (fun z => by rw [g1] at z; omega), g2]
          by_cases hr : y.2.2.1 ≤ f2
          · obtain ⟨k1, k2⟩ := wk1_pay e2 ef2 hr
            refine Sb.tr _ _ _ (wkN_sb m2 _ _ (by rw [k2]; exact pA2.mk pB2.hd.2)).1 ?_
            rw [k2]
            exact Sb.app sA (Sb.drop qB)
          · obtain ⟨k1, k2⟩ := wk1_part (left := f2) e2 ef2 (by omega)
            rw [wkN_stop (hl := (wk1 f2 h2).2) (fun z => by rw [k1] at z; omega), k2]
            exact Sb.app sA (Sb.keep ⟨qy.1, qy.2.1, by show y.2.2.1 - f2 ≤ x.2.2.1 - f1; omega, qy.2.2.2.1, qy.2.2.2.2⟩ qB)
    · rw [wkN_stop hc]
      exact Sb.tr _ _ _ (wkN_sb n2 f2 h2 p2).1 hs
/-- growing -/
theorem grw_mono {k r o o' n : Int} (hr : 0 ≤ r) (ho : o ≤ o') : grw k r o n ≤ grw k r o' n := by
  have h1 : o * (r / 2) / 100 ≤ o' * (r / 2) / 100 := Int.ediv_le_ediv (by omega) (Int.mul_le_mul_of_nonneg_right ho (by omega))
  have h2 : o * r / 100 ≤ o' * r / 100 := Int.ediv_le_ediv (by omega) (Int.mul_le_mul_of_nonneg_right ho hr)
  unfold grw
  split
  · omega
  · split <;> omega
theorem grL_mono {K R : List Int} (hR : ∀ x ∈ R, 0 ≤ x) {y x : Ln} (h : lnLe y x) : lnLe (grL K R y) (grL K R x) := by
  obtain ⟨e1, e2, h3, e4, e5⟩ := h
  refine ⟨e1, e2, ?_, e4, e5⟩
  show grw _ _ y.2.2.1 y.2.1 ≤ grw _ _ x.2.2.1 x.2.1
  rw [e1, e2]
  refine grw_mono ?_ h3
  rw [List.getD_eq_getElem?_getD]
  cases hq : R[x.1.toNat]? with
  | none => exact Int.le_refl _
  | some v => exact hR v (List.mem_of_getElem? hq)
/-- nobody fails -/
theorem flP_le {d : Int} {y x : Ln} (h : lnLe y x) (q : flP d x = false) : flP d y = false := by
  unfold flP at q ⊢
  rw [h.2.2.2.1, h.2.2.2.2]
  exact q
theorem flL_id {d : Int} : ∀ {l : List Ln}, l.countP (flP d) = 0 → l.map (flL d) = l
  | [], _ => rfl
  | x :: l, h => by
    have hx : flP d x = false := by
      cases e : flP d x with
      | false => rfl
      | true => rw [List.countP_cons_of_pos e] at h; omega
    rw [List.countP_cons_of_neg (by rw [hx]; decide)] at h
    rw [List.map_cons, flL_id h]
    unfold flL
    rw [hx]
    rfl
theorem cnt0 {d : Int} {l r : List Ln} (h : Sb l r) (q : r.countP (flP d) = 0) : l.countP (flP d) = 0 := by
  rw [List.countP_eq_zero] at q ⊢
  exact Sb.all (p := fun x : Ln => ¬ flP d x = true) (fun y x g qx => by
    have := flP_le (d := d) g (by simpa using qx)
    simp [this]) h q
theorem grw_ge {k r o n : Int} (hr : 0 ≤ r) (hn : 0 ≤ n) (ho : 0 < o ∧ o ≤ 1000000) : 0 < grw k r o n ∧ grw k r o n ≤ 1000000 := by
  have h1 : 0 ≤ o * (r / 2) / 100 := Int.ediv_nonneg (Int.mul_nonneg (by omega) (by omega)) (by omega)
  have h2 : 0 ≤ o * r / 100 := Int.ediv_nonneg (Int.mul_nonneg (by omega) hr) (by omega)
  have h3 : 0 ≤ r * n := Int.mul_nonneg hr hn
  unfold grw
  split
  · omega
  · split <;> omega
/-- a loan as it may be -/
def okO (x : Ln) : Prop := 0 < x.2.2.1 ∧ x.2.2.1 ≤ 1000000 ∧ 0 ≤ x.2.1
theorem okO.le {y x : Ln} (h : lnLe y x) (q : okO x) (p : 0 < y.2.2.1) : okO y := ⟨p, Int.le_trans h.2.2.1 q.2.1, by rw [h.2.1]; exact q.2.2⟩
theorem getD_nn {R : List Int} (hR : ∀ x ∈ R, 0 ≤ x) (i : Nat) : 0 ≤ R.getD i 0 := by
  rw [List.getD_eq_getElem?_getD]
  cases hq : R[i]? with
  | none => exact Int.le_refl _
  | some v => exact hR v (List.mem_of_getElem? hq)
theorem grO_ok {K R : List Int} (hR : ∀ x ∈ R, 0 ≤ x) {l : List Ln} (h : ∀ x ∈ l, okO x) : ∀ x ∈ l.map (grL K R), okO x := by
  intro x hx
  obtain ⟨y, hy, rfl⟩ := List.mem_map.mp hx
  obtain ⟨a, b, c⟩ := h y hy
  obtain ⟨q1, q2⟩ := grw_ge (k := K.getD y.1.toNat 0) (r := R.getD y.1.toNat 0) (getD_nn hR _) c ⟨a, b⟩
  exact ⟨q1, q2, c⟩
theorem wkO_ok {n : Nat} {f : Int} {hl : List Int × List Ln} (h : ∀ x ∈ hl.2, okO x) : ∀ x ∈ (wkN n f hl).2, okO x := by
  obtain ⟨s1, s2⟩ := wkN_sb n f hl (fun x hx => (h x hx).1)
  intro x hx
  exact ⟨s2 x hx, Sb.all (p := fun u : Ln => u.2.2.1 ≤ 1000000 ∧ 0 ≤ u.2.1) (fun u v g q => ⟨Int.le_trans g.2.2.1 q.1, by rw [g.2.1]; exact q.2⟩) s1 (fun u hu => (h u hu).2) x hx⟩
/-- a day with more hands, if none fails with fewer -/
theorem dyS_mono {K R : List Int} (hR : ∀ x ∈ R, 0 ≤ x) {n1 n2 : Int} (hn : n1 ≤ n2) {a1 a2 : AS} (hd : a2.1 = a1.1) (hf : a2.2.1 = a1.2.1) (hs : Sb a2.2.2.2.2 a1.2.2.2.2) (l2 : a2.2.2.2.2.length ≤ 12) (o1 : ∀ x ∈ a1.2.2.2.2, okO x) (o2 : ∀ x ∈ a2.2.2.2.2, okO x) (hno : (dyS K R n1 a1).2.1 = a1.2.1) :
    (dyS K R n2 a2).1 = (dyS K R n1 a1).1 ∧ (dyS K R n2 a2).2.1 = a2.2.1 ∧ Sb (dyS K R n2 a2).2.2.2.2 (dyS K R n1 a1).2.2.2.2 ∧ (dyS K R n2 a2).2.2.2.2.length ≤ 12 ∧ (∀ x ∈ (dyS K R n1 a1).2.2.2.2, okO x) ∧ ∀ x ∈ (dyS K R n2 a2).2.2.2.2, okO x := by
  have g1 := grO_ok (K := K) hR o1
  have g2 := grO_ok (K := K) hR o2
  have m := wkN_mono 12 (n1 * 100) (a1.2.2.1, a1.2.2.2.2.map (grL K R)) 12 (n2 * 100) (a2.2.2.1, a2.2.2.2.2.map (grL K R)) (by simpa using l2) (by omega) (Sb.map (fun _ _ h => grL_mono hR h) hs) (fun x hx => (g1 x hx).1) (fun x hx => (g2 x hx).1)
  have k1 := wkO_ok (n := 12) (f := n1 * 100) (hl := (a1.2.2.1, a1.2.2.2.2.map (grL K R))) g1
  have k2 := wkO_ok (n := 12) (f := n2 * 100) (hl := (a2.2.2.1, a2.2.2.2.2.map (grL K R))) g2
  have ln := (wkN_sb 12 (n2 * 100) (a2.2.2.1, a2.2.2.2.2.map (grL K R)) (fun x hx => (g2 x hx).1)).1
  have c1 : (wkN 12 (n1 * 100) (a1.2.2.1, a1.2.2.2.2.map (grL K R))).2.countP (flP a1.1) = 0 := by
    have : a1.2.1 + (((wkN 12 (n1 * 100) (a1.2.2.1, a1.2.2.2.2.map (grL K R))).2.countP (flP a1.1) : Nat) : Int) = a1.2.1 := hno
    omega
  have c2 := cnt0 m c1
  have q1 := flL_id c1
  have q2 := flL_id c2
  have e1 : (dyS K R n1 a1).2.2.2.2 = (wkN 12 (n1 * 100) (a1.2.2.1, a1.2.2.2.2.map (grL K R))).2 := q1
  have e2 : (dyS K R n2 a2).2.2.2.2 = (wkN 12 (n2 * 100) (a2.2.2.1, a2.2.2.2.2.map (grL K R))).2 := by
    show (wkN 12 (n2 * 100) (a2.2.2.1, a2.2.2.2.2.map (grL K R))).2.map (flL a2.1) = _
    rw [hd]
    exact q2
  rw [e1, e2]
  refine ⟨by show a2.1 + 1 = a1.1 + 1; rw [hd], ?_, m, ?_, k1, k2⟩
  · show a2.2.1 + (((wkN 12 (n2 * 100) (a2.2.2.1, a2.2.2.2.2.map (grL K R))).2.countP (flP a2.1) : Nat) : Int) = a2.2.1
    rw [hd, c2]
    simp
  · refine Nat.le_trans (Sb.len ln) ?_
    simpa using l2
/-- counts never fall -/
theorem dyS_up (K R : List Int) (n : Int) (a : AS) : a.2.1 ≤ (dyS K R n a).2.1 := by
  show a.2.1 ≤ a.2.1 + ((List.countP _ _ : Nat) : Int)
  omega
theorem dysS_up (K R : List Int) (n : Int) : ∀ (t : Nat) (a : AS), a.2.1 ≤ (dysS K R n t a).2.1
  | 0, a => Int.le_refl _
  | t + 1, a => Int.le_trans (dyS_up K R n a) (dysS_up K R n t _)
/-- some loan fails within so many days: the last day's count tells -/
theorem afN_iff (K R : List Int) (n : Int) : ∀ (t : Nat) (a : AS) (f : Int), a.2.1 ≤ f → (afN K R n t a f = true ↔ f < (dysS K R n t a).2.1)
  | 0, a, f, h => by
    show (false = true) ↔ f < a.2.1
    exact ⟨(fun q => by cases q), (fun q => by omega)⟩
  | t + 1, a, f, h => by
    unfold afN
    split
    · rename_i q
      exact ⟨fun _ => Int.lt_of_lt_of_le q (dysS_up K R n t _), fun _ => rfl⟩
    · rename_i q
      exact afN_iff K R n t _ f (by omega)
theorem dys_mono {K R : List Int} (hR : ∀ x ∈ R, 0 ≤ x) {n1 n2 : Int} (hn : n1 ≤ n2) : ∀ (t : Nat) (a1 a2 : AS), a2.1 = a1.1 → a2.2.1 = a1.2.1 → Sb a2.2.2.2.2 a1.2.2.2.2 → a2.2.2.2.2.length ≤ 12 → (∀ x ∈ a1.2.2.2.2, okO x) → (∀ x ∈ a2.2.2.2.2, okO x) → (dysS K R n1 t a1).2.1 = a1.2.1 → (dysS K R n2 t a2).2.1 = a2.2.1
  | 0, a1, a2, hd, hf, hs, l2, o1, o2, h => rfl
  | t + 1, a1, a2, hd, hf, hs, l2, o1, o2, h => by
    have u1 := dyS_up K R n1 a1
    have u2 := dysS_up K R n1 t (dyS K R n1 a1)
    have h' : (dysS K R n1 t (dyS K R n1 a1)).2.1 = a1.2.1 := h
    have e1 : (dyS K R n1 a1).2.1 = a1.2.1 := by omega
    obtain ⟨q1, q2, q3, q4, q5, q6⟩ := dyS_mono hR hn hd hf hs l2 o1 o2 e1
    have := dys_mono hR hn t _ _ q1 (by rw [q2, e1, hf]) q3 q4 q5 q6 (by rw [h', e1])
    show (dysS K R n2 t (dyS K R n2 a2)).2.1 = a2.2.1
    rw [this, q2]
/-- the least of 0 .. 99 that doesn't fail, by halving and one by one -/
theorem enN_ok {f : Int → Bool} (hm : ∀ a b : Int, a ≤ b → f b = true → f a = true) : ∀ (n : Nat) (lo hi : Int), hi - lo ≤ n → lo ≤ hi → f hi = false → (∀ a : Int, a < lo → f a = true) → f (enN f n lo hi) = false ∧ (∀ a : Int, a < enN f n lo hi → f a = true) ∧ lo ≤ enN f n lo hi ∧ enN f n lo hi ≤ hi
  | 0, lo, hi, h, hl, h0, h1 => ⟨h0, fun a ha => h1 a (by have : a < hi := ha; omega), hl, Int.le_refl _⟩
  | n + 1, lo, hi, h, hl, h0, h1 => by
    unfold enN
    split
    · rename_i q
      split
      · rename_i g
        obtain ⟨i1, i2, i3, i4⟩ := enN_ok hm n ((lo + hi) / 2 + 1) hi (by omega) (by omega) h0 (fun a ha => hm a ((lo + hi) / 2) (by omega) g)
        exact ⟨i1, i2, by omega, i4⟩
      · rename_i g
        obtain ⟨i1, i2, i3, i4⟩ := enN_ok hm n lo ((lo + hi) / 2) (by omega) (by omega) (by simpa using g) h1
        exact ⟨i1, i2, i3, by omega⟩
    · rename_i q
      exact ⟨h0, fun a ha => h1 a (by omega), hl, Int.le_refl _⟩
theorem enN_0 {f : Int → Bool} (hm : ∀ a b : Int, a ≤ b → f b = true → f a = true) (h0 : f 0 = false) : ∀ (n : Nat) (hi : Int), hi ≤ n → 0 ≤ hi → enN f n 0 hi = 0
  | 0, hi, h, hl => by show hi = 0; omega
  | n + 1, hi, h, hl => by
    unfold enN
    split
    · rename_i q
      split
      · rename_i g
        have := hm 0 ((0 + hi) / 2) (by omega) g
        rw [h0] at this
        cases this
      · exact enN_0 hm h0 n ((0 + hi) / 2) (by omega) (by omega)
    · omega
theorem emN_at {σ : SG} {t : Nat} : ∀ (m : Nat) (n r : Int), n ≤ r → r < n + m → (dysS σ.2.1.2.1 σ.2.1.2.2.2.1 r t σ.2.2.1).2.1 = σ.2.2.1.2.1 → (∀ k : Int, n ≤ k → k < r → (dysS σ.2.1.2.1 σ.2.1.2.2.2.1 k t σ.2.2.1).2.1 ≠ σ.2.2.1.2.1) → emN σ t m n = r
  | 0, n, r, h0, h1, _, _ => by omega
  | m + 1, n, r, h0, h1, h2, h3 => by
    unfold emN
    by_cases e : n = r
    · subst e
      rw [if_pos h2]
    · rw [if_neg (h3 n (Int.le_refl _) (by omega))]
      exact emN_at m (n + 1) r (by omega) (by omega) h2 (fun k g0 g1 => h3 k (by omega) g1)
theorem emN_none {σ : SG} {t : Nat} : ∀ (m : Nat) (n : Int), (∀ k : Int, n ≤ k → k < n + m → (dysS σ.2.1.2.1 σ.2.1.2.2.2.1 k t σ.2.2.1).2.1 ≠ σ.2.2.1.2.1) → emN σ t m n = -1
  | 0, n, _ => rfl
  | m + 1, n, h => by
    unfold emN
    rw [if_neg (h n (Int.le_refl _) (by omega))]
    exact emN_none m (n + 1) (fun k g0 g1 => h k (by omega) (by omega))
theorem en_eq {σ : SG} {t : Int} (hR : ∀ x ∈ σ.2.1.2.2.2.1, 0 ≤ x) (hl : σ.2.2.1.2.2.2.2.length ≤ 12) (ho : ∀ x ∈ σ.2.2.1.2.2.2.2, okO x) : aEnough σ t = aEnoughM σ t := by
  unfold aEnough aEnoughM
  by_cases ht : 1 ≤ t ∧ t ≤ 99
  · rw [if_pos ht, if_pos ht]
    have iff : ∀ n : Int, afS σ t n = true ↔ (dysS σ.2.1.2.1 σ.2.1.2.2.2.1 n t.toNat σ.2.2.1).2.1 ≠ σ.2.2.1.2.1 := fun n => by
      unfold afS
      rw [afN_iff _ _ n t.toNat σ.2.2.1 _ (Int.le_refl _)]
      have := dysS_up σ.2.1.2.1 σ.2.1.2.2.2.1 n t.toNat σ.2.2.1
      omega
    have hm : ∀ a b : Int, a ≤ b → afS σ t b = true → afS σ t a = true := fun a b hab hb => by
      rw [iff] at hb ⊢
      exact fun q => hb (dys_mono hR hab t.toNat σ.2.2.1 σ.2.2.1 rfl rfl (Sb.rf _) hl ho ho q)
    by_cases h9 : afS σ t 99 = true
    · rw [if_pos h9]
      exact (emN_none 100 0 (fun k g0 g1 => (iff k).mp (hm k 99 (by omega) h9))).symm
    · rw [if_neg h9]
      have hlow : ∀ a : Int, a < 0 → afS σ t 0 = true → afS σ t a = true := fun a ha q => hm a 0 (by omega) q
      by_cases h0 : afS σ t 0 = true
      · obtain ⟨i1, i2, i3, i4⟩ := enN_ok hm 99 0 99 (by omega) (by omega) (by simpa using h9) (fun a ha => hlow a ha h0)
        exact (emN_at 100 0 _ i3 (by omega) (by
          by_cases q : (dysS σ.2.1.2.1 σ.2.1.2.2.2.1 (enN (afS σ t) 99 0 99) t.toNat σ.2.2.1).2.1 = σ.2.2.1.2.1
          · exact q
          · rw [(iff _).mpr q] at i1; cases i1) (fun k g0 g1 => (iff k).mp (i2 k g1))).symm
      · have e0 : enN (afS σ t) 99 0 99 = 0 := enN_0 hm (by simpa using h0) 99 99 (by omega) (by omega)
        rw [e0]
        exact (emN_at 100 0 0 (by omega) (by omega) (by
          by_cases q : (dysS σ.2.1.2.1 σ.2.1.2.2.2.1 0 t.toNat σ.2.2.1).2.1 = σ.2.2.1.2.1
          · exact q
          · exact absurd ((iff 0).mpr q) h0) (fun k g0 g1 => by omega)).symm
  · rw [if_neg ht, if_neg ht]
theorem gl_mem6 {w : Wd} {k : Nat} {v : Int} (h : v ∈ gl w k 0 6) : ∃ i : Int, 0 ≤ i ∧ i < 6 ∧ w k i = v := by
  unfold gl at h
  obtain ⟨i, hi, e⟩ := List.mem_map.mp h
  have h6 := List.mem_range.mp hi
  exact ⟨(i : Int), by omega, by omega, by rw [← e, Int.zero_add]⟩
theorem aEnough_eq {c : Int} {σ : SG} {w : Wd} (hc : SC c σ w) (t : Int) : aEnough σ t = aEnoughM σ t := by
  have ho : okAS c σ.2.2.1 := by rw [← hc.2.2.1.1]; exact hc.2.2.1.2.1.2
  refine en_eq (fun x hx => ?_) ho.2.2.2.2.1 (fun x hx => ?_)
  · rw [← hc.tR'] at hx
    obtain ⟨i, h0, h1, rfl⟩ := gl_mem6 hx
    exact (hc.2.1.2.2.2.2.1 i h0 h1).2.2.1.1
  · obtain ⟨q1, q2, q3, q4, q5⟩ := ho.2.2.2.2.2 x hx
    exact ⟨q3.1, q3.2, by omega⟩

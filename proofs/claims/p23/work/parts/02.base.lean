/-! ===== 02 base: the world as numbers, and the walk V over it ===== -/
abbrev Wd : Type := Nat → Int → Int
def iZ (z : Int) : Int32 := Int32.ofInt z
abbrev inR (a : Int) : Prop := -2147483648 ≤ a ∧ a ≤ 2147483647
theorem iZ_add (a b : Int) : iZ a + iZ b = iZ (a + b) := (Int32.ofInt_add a b).symm
theorem iZ_sub (a b : Int) : iZ a - iZ b = iZ (a - b) := (Int32.ofInt_sub a b).symm
theorem iZ_mul (a b : Int) : iZ a * iZ b = iZ (a * b) := (Int32.ofInt_mul a b).symm
theorem iZ_toInt {a : Int} (h : inR a) : (iZ a).toInt = a := by
  unfold iZ
  rw [Int32.toInt_ofInt]
  exact Int.bmod_eq_of_le (by show -(((4294967296 : Nat) : Int) / 2) ≤ a; omega) (by show a < (((4294967296 : Nat) : Int) + 1) / 2; omega)
theorem iZ_self (x : Int32) : iZ x.toInt = x := Int32.ofInt_toInt x
theorem iZ_rng (x : Int32) : inR x.toInt := by
  have h1 := Int32.le_toInt x
  have h2 := Int32.toInt_lt x
  constructor <;> omega
theorem iZ_lt {a b : Int} (ha : inR a) (hb : inR b) : iZ a < iZ b ↔ a < b := by rw [Int32.lt_iff_toInt_lt, iZ_toInt ha, iZ_toInt hb]
theorem iZ_le {a b : Int} (ha : inR a) (hb : inR b) : iZ a ≤ iZ b ↔ a ≤ b := by rw [Int32.le_iff_toInt_le, iZ_toInt ha, iZ_toInt hb]
theorem iZ_eq {a b : Int} (ha : inR a) (hb : inR b) : iZ a = iZ b ↔ a = b := by
  constructor
  · intro h
    have h1 := congrArg Int32.toInt h
    rwa [iZ_toInt ha, iZ_toInt hb] at h1
  · rintro rfl; rfl
theorem iZ_0 : (0 : Int32) = iZ 0 := rfl
theorem iZ_clamp {a : Int} (h : inR a) : (iZ a).toNatClampNeg = a.toNat := by
  show (iZ a).toInt.toNat = a.toNat
  rw [iZ_toInt h]
theorem iZ_in {a : Int} {n : Nat} (h : 0 ≤ a ∧ a < (n : Int)) (hn : n ≤ 2000) : vp_in (iZ a) n := by
  rw [vp_in_iff, iZ_toInt (by omega)]
  exact h
/-- one cell of the world changed -/
def up (w : Wd) (k : Nat) (j z : Int) : Wd := fun k' j' => if k' = k ∧ j' = j then z else w k' j'
theorem up_eq (w : Wd) (k : Nat) (j z : Int) : up w k j z k j = z := by simp [up]
theorem up_ne {w : Wd} {k k' : Nat} {j j' z : Int} (h : k' ≠ k ∨ j' ≠ j) : up w k j z k' j' = w k' j' := by
  unfold up
  rw [if_neg]
  rintro ⟨rfl, rfl⟩
  rcases h with h | h <;> exact h rfl
/-- shapes: an object (its class's number; of each field: none a number, some q the cell q), an array of numbers (type, length), an array of cells -/
abbrev Sh : Type := (Nat × List (Option Nat)) ⊕ ((Nat × Nat) ⊕ (Nat × List Nat))
abbrev shO (ci : Nat) (fl : List (Option Nat)) : Sh := Sum.inl (ci, fl)
abbrev shA (t n : Nat) : Sh := Sum.inr (Sum.inl (t, n))
abbrev shR (t : Nat) (qs : List Nat) : Sh := Sum.inr (Sum.inr (t, qs))
/-- a Told at b: itself, kinds, branches, rates, terms, parts, ones, others -/
abbrev shTd (b : Nat) : Sh := shO 3 [none, some (b + 1), some (b + 2), some (b + 3), some (b + 4), some (b + 5), none, some (b + 6), some (b + 7), none]
/-- a State at b: itself, branches, fates, lenders, lent, owed, dues, failed -/
abbrev shSt (b : Nat) : Sh := shO 1 [none, some (b + 1), some (b + 2), none, some (b + 3), some (b + 4), some (b + 5), some (b + 6), some (b + 7), none]
def shL : List Sh := [
  shO 4 [some 1, some 5, some 21, some 29, some 3, some 4, some 53],
  shO 2 [some 2, none, some 13, none, none, none, none, none], shA 0 200, shR 2 [37, 45], shA 1 2,
  shTd 5, shA 0 6, shA 0 6, shA 0 6, shA 0 6, shA 0 6, shA 0 6, shA 0 6,
  shTd 13, shA 0 6, shA 0 6, shA 0 6, shA 0 6, shA 0 6, shA 0 6, shA 0 6,
  shSt 21, shA 0 6, shA 0 6, shA 0 12, shA 0 12, shA 0 12, shA 0 12, shA 0 12,
  shSt 29, shA 0 6, shA 0 6, shA 0 12, shA 0 12, shA 0 12, shA 0 12, shA 0 12,
  shSt 37, shA 0 6, shA 0 6, shA 0 12, shA 0 12, shA 0 12, shA 0 12, shA 0 12,
  shSt 45, shA 0 6, shA 0 6, shA 0 12, shA 0 12, shA 0 12, shA 0 12, shA 0 12,
  shO 0 [some 54, some 55, some 56, some 57, none], shR 3 [58, 59, 60, 61, 62, 63, 64], shR 3 [65, 66, 67, 68, 69, 70], shA 0 100, shA 0 6,
  shA 0 100, shA 0 100, shA 0 100, shA 0 100, shA 0 100, shA 0 100, shA 0 100,
  shA 0 100, shA 0 100, shA 0 100, shA 0 100, shA 0 100, shA 0 100,
  shO 5 [some 72, some 73, some 74, none, some 75, none, some 76, some 77, some 78, some 79, none, some 80, none, none, none, none, none, none, none, some 81, some 82],
  shA 0 375, shA 1 2, shA 0 200, shA 0 48, shA 0 6, shA 0 6, shA 0 6, shA 0 6, shA 0 12, shA 0 600, shA 0 700]
theorem shL_len : shL.length = 83 := rfl
theorem shL_arr : ∀ x ∈ shL, ∀ t n, x = shA t n → n ≤ 2000 := by
  have h : shL.all (fun x => match x with | Sum.inr (Sum.inl (_, n)) => decide (n ≤ 2000) | _ => true) = true := by decide +kernel
  intro x hx t n e
  have h1 := List.all_eq_true.mp h x hx
  rw [e] at h1
  simpa using h1
theorem shL_ref : ∀ x ∈ shL, ∀ t qs, x = shR t qs → qs.length ≤ 2000 := by
  have h : shL.all (fun x => match x with | Sum.inr (Sum.inr (_, qs)) => decide (qs.length ≤ 2000) | _ => true) = true := by decide +kernel
  intro x hx t n e
  have h1 := List.all_eq_true.mp h x hx
  rw [e] at h1
  simpa using h1
theorem sh_n {k t n : Nat} (h : shL[k]? = some (shA t n)) : n ≤ 2000 := shL_arr _ (List.mem_of_getElem? h) t n rfl
theorem sh_q {k t : Nat} {qs : List Nat} (h : shL[k]? = some (shR t qs)) : qs.length ≤ 2000 := shL_ref _ (List.mem_of_getElem? h) t qs rfl
theorem sh_lt {k : Nat} {x : Sh} (h : shL[k]? = some x) : k < 83 := by
  have := (List.getElem?_eq_some_iff.mp h).1
  rwa [shL_len] at this
/-- where the world lies: classes and slots, addresses, array classes, String constants, their bytes, the static array -/
abbrev Gb : Type := va_G × (Nat → Nat) × (Nat → ClassId) × (Nat → Nat) × (Nat → Nat) × Nat
abbrev gD (G : Gb) : va_G := G.1
abbrev gA (G : Gb) : Nat → Nat := G.2.1
abbrev gC (G : Gb) : Nat → ClassId := G.2.2.1
abbrev gK (G : Gb) : Nat → Nat := G.2.2.2.1
abbrev gV (G : Gb) : Nat → Nat := G.2.2.2.2.1
abbrev gO (G : Gb) : Nat := G.2.2.2.2.2
def gT (G : Gb) : List (ClassId × FieldType) := [(gC G 0, .int), (gC G 1, .boolean), (gC G 2, .object "TreeDebts$State"), (gC G 3, .array .int)]
def gAw (G : Gb) : Nat → Prop := fun q => ∃ k : Nat, k < 83 ∧ gA G k = q
def feE (G : Gb) (w : Wd) (k j : Nat) (o : Option Nat) : Value := match o with
  | none => .int (iZ (w k (j : Int)))
  | some q => .ref (gA G q)
def ceE (G : Gb) (w : Wd) (k : Nat) (x : Sh) : va_E := match x with
  | Sum.inl (ci, fl) => .inr (ci, fl.mapIdx (fun j o => feE G w k j o))
  | Sum.inr (Sum.inl (t, n)) => .inl (gC G t, n, .inl (fun j : Nat => iZ (w k (j : Int))))
  | Sum.inr (Sum.inr (t, qs)) => .inl (gC G t, qs.length, .inr (.inr (.inr (.inr (fun j : Nat => (qs[j]?).map (gA G))))))
def ces (G : Gb) (w : Wd) : va_W := shL.mapIdx (fun k x => (gA G k, ceE G w k x))
theorem ces_at (G : Gb) (w : Wd) (k : Nat) : (ces G w)[k]? = (shL[k]?).map (fun x => (gA G k, ceE G w k x)) := by
  unfold ces
  rw [List.getElem?_mapIdx]
theorem ces_of {G : Gb} {w : Wd} {k : Nat} {x : Sh} (h : shL[k]? = some x) : (ces G w)[k]? = some (gA G k, ceE G w k x) := by rw [ces_at, h]; rfl
theorem ces_len (G : Gb) (w : Wd) : (ces G w).length = 83 := by
  unfold ces
  rw [List.length_mapIdx]
  rfl
theorem ces_D {G : Gb} (h : ∀ i j : Nat, i < 83 → j < 83 → gA G i = gA G j → i = j) (w : Wd) : va_D (gAw G) (ces G w) := by
  refine ⟨fun i j p q hi hj e => ?_, fun k q hk => ?_⟩
  · have li := (List.getElem?_eq_some_iff.mp hi).1
    have lj := (List.getElem?_eq_some_iff.mp hj).1
    rw [ces_len] at li lj
    rw [ces_at] at hi hj
    cases h1 : shL[i]? with
    | none => rw [h1] at hi; cases hi
    | some x =>
      cases h2 : shL[j]? with
      | none => rw [h2] at hj; cases hj
      | some y =>
        rw [h1] at hi
        rw [h2] at hj
        cases hi
        cases hj
        exact h i j li lj e
  · have lk := (List.getElem?_eq_some_iff.mp hk).1
    rw [ces_len] at lk
    rw [ces_at] at hk
    cases h1 : shL[k]? with
    | none => rw [h1] at hk; cases hk
    | some x =>
      rw [h1] at hk
      cases hk
      exact ⟨k, lk, rfl⟩
/-- a field that is a number is written -/
theorem ces_putF {G : Gb} {w : Wd} {k ci j : Nat} {fl : List (Option Nat)} {z : Int} (hs : shL[k]? = some (shO ci fl)) (hf : fl[j]? = some none) :
    (ces G w).set k (gA G k, .inr (ci, (fl.mapIdx (fun j o => feE G w k j o)).set j (.int (iZ z)))) = ces G (up w k (j : Int) z) := by
  apply List.ext_getElem?
  intro i
  rw [List.getElem?_set, ces_at, ces_at]
  by_cases hi : k = i
  · subst hi
    have hlt : k < (ces G w).length := by rw [ces_len]; exact sh_lt hs
    rw [if_pos rfl, if_pos hlt, hs]
    show some _ = some _
    refine congrArg some (congrArg (Prod.mk (gA G k)) ?_)
    show Sum.inr _ = Sum.inr _
    refine congrArg Sum.inr (congrArg (Prod.mk ci) ?_)
    apply List.ext_getElem?
    intro q
    rw [List.getElem?_set, List.getElem?_mapIdx, List.getElem?_mapIdx]
    have hjl : j < fl.length := (List.getElem?_eq_some_iff.mp hf).1
    by_cases hq : j = q
    · subst hq
      rw [if_pos rfl, if_pos (by rw [List.length_mapIdx]; exact hjl), hf]
      show some _ = some (feE G (up w k (j : Int) z) k j none)
      show some _ = some (Value.int (iZ (up w k (j : Int) z k (j : Int))))
      rw [up_eq]
    · rw [if_neg hq]
      cases ho : fl[q]? with
      | none => rfl
      | some o =>
        cases o with
        | some c => rfl
        | none =>
          show some (Value.int (iZ (w k (q : Int)))) = some (Value.int (iZ (up w k (j : Int) z k (q : Int))))
          rw [up_ne (Or.inr (by omega))]
  · rw [if_neg hi]
    cases hx : shL[i]? with
    | none => rfl
    | some x =>
      show some _ = some _
      refine congrArg some (congrArg (Prod.mk (gA G i)) ?_)
      have hw : ∀ j' : Int, up w k (j : Int) z i j' = w i j' := fun j' => up_ne (Or.inl (fun e => hi e.symm))
      rcases x with ⟨c, fl'⟩ | ⟨t, n⟩ | ⟨t, qs⟩
      · show Sum.inr _ = Sum.inr _
        refine congrArg Sum.inr (congrArg (Prod.mk c) ?_)
        apply List.ext_getElem?
        intro q
        rw [List.getElem?_mapIdx, List.getElem?_mapIdx]
        cases ho : fl'[q]? with
        | none => rfl
        | some o =>
          cases o with
          | some c => rfl
          | none =>
            show some (Value.int (iZ (w i (q : Int)))) = some (Value.int (iZ (up w k (j : Int) z i (q : Int))))
            rw [hw]
      · show Sum.inl _ = Sum.inl _
        refine congrArg Sum.inl (congrArg (Prod.mk _) (congrArg (Prod.mk n) (congrArg Sum.inl (funext fun q => ?_))))
        rw [hw]
      · rfl
/-- an array of numbers is another one -/
theorem ces_putA {G : Gb} {w w' : Wd} {k t n : Nat} {f : Nat → Int32} (hs : shL[k]? = some (shA t n)) (hf : ∀ j : Nat, f j = iZ (w' k (j : Int))) (hw : ∀ (i : Nat) (j : Int), i ≠ k → w' i j = w i j) :
    (ces G w).set k (gA G k, .inl (gC G t, n, .inl f)) = ces G w' := by
  apply List.ext_getElem?
  intro i
  rw [List.getElem?_set, ces_at, ces_at]
  by_cases hi : k = i
  · subst hi
    have hlt : k < (ces G w).length := by rw [ces_len]; exact sh_lt hs
    rw [if_pos rfl, if_pos hlt, hs]
    show some _ = some _
    refine congrArg some (congrArg (Prod.mk (gA G k)) ?_)
    show Sum.inl _ = Sum.inl _
    exact congrArg Sum.inl (congrArg (Prod.mk _) (congrArg (Prod.mk n) (congrArg Sum.inl (funext hf))))
  · rw [if_neg hi]
    cases hx : shL[i]? with
    | none => rfl
    | some x =>
      show some _ = some _
      refine congrArg some (congrArg (Prod.mk (gA G i)) ?_)
      have hw' : ∀ j' : Int, w' i j' = w i j' := fun j' => hw i j' (fun e => hi e.symm)
      rcases x with ⟨c, fl'⟩ | ⟨t, n⟩ | ⟨t, qs⟩
      · show Sum.inr _ = Sum.inr _
        refine congrArg Sum.inr (congrArg (Prod.mk c) ?_)
        apply List.ext_getElem?
        intro q
        rw [List.getElem?_mapIdx, List.getElem?_mapIdx]
        cases ho : fl'[q]? with
        | none => rfl
        | some o =>
          cases o with
          | some c => rfl
          | none =>
            show some (Value.int (iZ (w i (q : Int)))) = some (Value.int (iZ (w' i (q : Int))))
            rw [hw']
      · show Sum.inl _ = Sum.inl _
        refine congrArg Sum.inl (congrArg (Prod.mk _) (congrArg (Prod.mk n) (congrArg Sum.inl (funext fun q => ?_))))
        rw [hw']
      · rfl
/-- the eight words: their places among Text's constants, their texts, their bytes -/
def scIx : List Nat := [52, 61, 67, 69, 71, 73, 78, 83]
def scTx : List String := ["wood", "oak", "birch", "twin", "hollow", "part", "quarrel", "hands"]
def scLen : List Nat := [4, 3, 5, 4, 6, 4, 7, 5]
def scByt : List (List Int32) := [[119, 111, 111, 100], [111, 97, 107], [98, 105, 114, 99, 104], [116, 119, 105, 110], [104, 111, 108, 108, 111, 119], [112, 97, 114, 116], [113, 117, 97, 114, 114, 101, 108], [104, 97, 110, 100, 115]]
def ovL : List Int := [0, 0, 1, 1, 0]
def gStr (G : Gb) (U : State) : Prop := vk_S 8 scLen scByt (gK G) (gV G) (gAw G) U U.heap ∧ (∀ i : Nat, i < 8 → vk_R RX2 (scIx.getD i 0) (scTx.getD i "") (gK G i) U) ∧ va_Z "java/lang/String" "COMPACT_STRINGS" "Z" (.int 1) (gAw G) U U.heap ∧ va_Zq "jdk/internal/util/Preconditions" "SIOOBE_FORMATTER" "Ljava/util/function/BiFunction;" (gAw G) U U.heap
/-- what holds of the tables and of what nobody writes -/
def gGl (G : Gb) (U : State) : Prop := va_K (gD G) vwCl (gT G) U ∧ (∀ i j : Nat, i < 83 → j < 83 → gA G i = gA G j → i = j) ∧ va_Z "TreeDebts" "OVER" "[I" (.ref (gO G)) (gAw G) U U.heap ∧ va_T .int (gO G) 5 (fun j => .int (iZ (ovL.getD j 0))) (gAw G) U U.heap ∧ va_Nw (.fieldLinkNest RX3 49 "TreeDebts" "OVER" "[I" "TreeDebts") U ∧ gStr G U
theorem gGl.next {G : Gb} {s U : State} (h : gGl G s) (hW : s.WarmedH U.vm) (hq : ∀ a : Nat, a < s.heap.size → ¬ gAw G a → U.heap[a]? = s.heap[a]?) : gGl G U := by
  obtain ⟨h1, h2, h3, h4, h5, h6, h7, h8, h9⟩ := h
  exact ⟨va_K.moved hW.alike h1, h2, (va_Z.moved hW.alike h3).kept hq, (va_T.moved hW.alike h4).kept hq, va_Nw.warmF hW h5, (vk_S.moved hW.alike h6).kept hq, fun i hi => vk_R.warm hW (h7 i hi), (va_Z.moved hW.alike h8).kept hq, (va_Zq.moved hW.alike h9).kept hq⟩
theorem gGl.same {G : Gb} {s U : State} (h : gGl G s) (hv : U.vm = s.vm) (hh : U.heap = s.heap) : gGl G U := by
  obtain ⟨h1, h2, h3, h4, h5, h6, h7, h8, h9⟩ := h
  have hA : s.vm.Alike U.vm := by rw [hv]; exact Vm.Alike.refl _
  have hq : ∀ a : Nat, a < s.heap.size → ¬ gAw G a → U.heap[a]? = s.heap[a]? := fun a _ _ => by rw [hh]
  exact ⟨va_K.moved hA h1, h2, (va_Z.moved hA h3).kept hq, (va_T.moved hA h4).kept hq, va_Nw.same rfl hv.symm h5, (vk_S.moved hA h6).kept hq, fun i hi => vk_R.same hv (h7 i hi), (va_Z.moved hA h8).kept hq, (va_Zq.moved hA h9).kept hq⟩

/-! ===== BEGIN words of one list among another's, by their places ===== -/
theorem goodIn_r {big : List Cond} (ws : List Cond) (ps : List Nat) (hp : ws = ps.filterMap (fun i => big[i]?)) (h : ws.all goodWord = true) : GoodIn big ws := by
  intro w hw
  have h1 := List.all_eq_true.mp h w hw
  rw [hp] at hw
  obtain ⟨i, -, hi⟩ := List.mem_filterMap.mp hw
  have hm : w ∈ big := by first | exact List.mem_of_getElem? hi | exact List.getElem?_mem hi
  exact ⟨hm, good_of_word h1⟩
theorem goodIn_app {big a b : List Cond} (ha : GoodIn big a) (hb : GoodIn big b) : GoodIn big (a ++ b) := fun w h => (List.mem_append.mp h).elim (ha w) (hb w)
theorem goodIn_ca {big a b : List Cond} {c : Cond} (ha : GoodIn big (c :: a)) (hb : GoodIn big b) : GoodIn big (c :: (a ++ b)) := fun w h => (List.mem_cons.mp h).elim (fun e => ha w (List.mem_cons.mpr (Or.inl e))) (fun h => (List.mem_append.mp h).elim (fun h => ha w (List.mem_cons.mpr (Or.inr h))) (hb w))
theorem goodIn_sub {big ws : List Cond} (hm : ∀ w ∈ ws, w ∈ big) (h : ws.all goodWord = true) : GoodIn big ws := fun w hw => ⟨hm w hw, good_of_word (List.all_eq_true.mp h w hw)⟩
/-! ===== END ===== -/

/-! ===== BEGIN new T[n][m]: the outer array a place, the inner ones among the pooled ===== -/
/-- f, but v at every address of l -/
def vr_up {α : Type} (f : Nat → α) (l : List Nat) (v : α) : Nat → α := fun a => if a ∈ l then v else f a
theorem vr_up_in {α : Type} {f : Nat → α} {l : List Nat} {v : α} {a : Nat} (h : a ∈ l) : vr_up f l v a = v := if_pos h
theorem vr_up_ne {α : Type} {f : Nat → α} {l : List Nat} {v : α} {a : Nat} (h : a ∉ l) : vr_up f l v a = f a := if_neg h
theorem vr_rows {L l : List Nat} {f : Nat → va_E} {e : va_E} (h : ∀ a, a ∈ l → a ∉ L) : va_pl L f ++ l.map (fun a => (a, e)) = va_pl (L ++ l) (vr_up f l e) := by
  unfold va_pl
  rw [List.map_append]
  congr 1
  · apply List.map_congr_left
    intro a ha
    rw [vr_up_ne (fun q => h a q ha)]
  · apply List.map_congr_left
    intro a ha
    rw [vr_up_in ha]
theorem vr_lay {X rows : va_W} {x : Nat × va_E} {pl : va_W} {D : va_G} {cl : List vw_C} {H : Heap} (hP : va_P D cl (((X ++ pl) ++ [x]) ++ rows) H) : va_P D cl ((X ++ [x]) ++ (pl ++ rows)) H := by
  rw [List.append_assoc (X ++ pl)] at hP
  have h := va_P.swap hP
  rw [← List.append_assoc X] at h
  have h2 := va_P.swap h
  rw [List.append_assoc (X ++ [x])] at h2
  exact h2
theorem vr_layD {X rows : va_W} {x : Nat × va_E} {pl : va_W} {A : Nat → Prop} (hD : va_D A (((X ++ pl) ++ [x]) ++ rows)) : va_D A ((X ++ [x]) ++ (pl ++ rows)) := by
  rw [List.append_assoc (X ++ pl)] at hD
  have h := va_D.swap hD
  rw [← List.append_assoc X] at h
  have h2 := va_D.swap h
  rw [List.append_assoc (X ++ [x])] at h2
  exact h2
theorem vr_outer (c : ClassId) (N h0 : Nat) : ∀ i : Nat, Jvm.Free.Multi.outerC c N h0 i = arrV c N (fun j => va_rf (if j < i then some (h0 + 1 + j) else none))
  | 0 => by
    show ({ cls := c, slots := Array.replicate N .null, vm := .none } : Cell) = _
    rw [arrV_new]
    refine congrArg (arrV c N) (funext fun j => ?_)
    simp [va_rf]
  | i + 1 => by
    show (Jvm.Free.Multi.outerC c N h0 i).setSlot i (.ref (h0 + 1 + i)) = _
    rw [vr_outer c N h0 i, arrV_store]
    refine congrArg (arrV c N) (funext fun j => ?_)
    by_cases e : j = i
    · subst e
      simp [updV, va_rf]
    · by_cases h : j < i
      · simp [updV, e, h, Nat.lt_succ_of_lt h]
      · simp [updV, e, h, show ¬ j < i + 1 by omega]
section VGM
variable {p : Program} {l : Launch} {e : Env} {R : Room} {s : State} {m : MethodId} {args : Array Value} {below : List Frame} {meth : Method} {c : Code} {H : Heap} {locs : List Loc} {cells slots : Nat} {Q : State → Prop}
variable {cc : ByteArray} {pc : Nat} {ls : Array Slot} {rest : List Value} {D : va_G} {cl : List vw_C} {A : Nat → Prop} {a : Nat} {tys : List (ClassId × FieldType)} {ws : va_W} {H0 : Heap}
theorem va_mna {X : va_W} {L : List Nat} {f : Nat → va_E} {cc : ByteArray} (hexec : p.tables.exec = Jvm.exec) (hb : c.code = cc) {own : String} {index : Nat} {ty : FieldType} {cy : ClassId} (hown : s.vm.findClass own = some m.cls) (hclink : (Cond.classLink own index ("[" ++ (FieldType.array ty).toString)).before args s = true) (hover : va_AOA ty s) (harr : (Cond.arrayClass ty).before args s = true) (hcy : s.vm.findClass (FieldType.array ty).toString = some cy)
    (hK : va_K D cl tys s) (hP : va_P D cl (X ++ va_pl L f) H) (hD : va_D A (X ++ va_pl L f)) (hS : va_S A H0 H locs) (hA : ∀ q, H0.size ≤ q → A q) {n k : Int32} {N' K' : Nat} {z : vp_A} (hn : ¬ n < 0) (hk : ¬ k < 0) (hN : n.toNatClampNeg = N') (hM : k.toNatClampNeg = K')
    (hb1 : N' * 4 ≤ 536870912) (hb2 : K' * componentBytes ty ≤ 536870912) (hb3 : K' ≤ 536870912) (hdf : fits ty (defaultValue ty) = true) (hdd : (defaultValue ty).isDefault = true) (hcells : cells + (1 + N') ≤ R.cells) (hslots : slots + (N' + N' * K') ≤ R.slots) (hz : ∀ c : ClassId, Jvm.Free.Multi.innerC c K' (defaultValue ty) = vp_cell c z) (hdg : decode cc pc = .ok (.multianewarray index 2, 4))
    (kk : ∀ (q : Nat) (r : Nat → Nat) (cA : ClassId) (H1 : Heap), (∀ i j : Nat, i < N' → j < N' → r i = r j → i = j) → (∀ i : Nat, i < N' → r i ∉ L) → va_K D cl (tys ++ [(cA, .array ty)]) s →
      va_P D cl ((X ++ [(q, .inl (cA, N', .inr (.inr (.inr (.inr (fun i => if i < N' then some (r i) else none))))))]) ++ va_pl (L ++ (List.range N').map r) (vr_up f ((List.range N').map r) (.inl (cy, z)))) H1 → va_D A ((X ++ [(q, .inl (cA, N', .inr (.inr (.inr (.inr (fun i => if i < N' then some (r i) else none))))))]) ++ va_pl (L ++ (List.range N').map r) (vr_up f ((List.range N').map r) (.inl (cy, z)))) → va_S A H0 H1 locs →
      W p l e R s m args below meth c H1 locs (cells + 1 + N') (slots + N' + N' * K') Q (F0 m (pc + 4) ls (.ref q :: rest))) : W p l e R s m args below meth c H locs cells slots Q (F0 m pc ls (.int k :: .int n :: rest)) := by
  subst hN
  subst hM
  intro T hT Xs
  obtain ⟨vm₁, cA, comp, -, fA, fC, hO, -, X', step⟩ := Xs.multianewarray2F hexec hown hclink (va_AOA.use hover) harr (g := F0 m pc ls (.int k :: .int n :: rest)) rfl (by rw [hb]; exact hdg) rfl hn hk hb1 hb2 hb3 hdf hdd hcells hslots
  have ec : some cy = some comp := hcy.symm.trans fC
  cases ec
  generalize hF : Jvm.Free.Multi.fill (T.setVm vm₁) cA cy n.toNatClampNeg k.toNatClampNeg (defaultValue ty) n.toNatClampNeg = F at X' step
  have hTh : (T.setVm vm₁).heap = H := hT
  obtain ⟨f1, f2, -, -⟩ := Jvm.Free.Multi.fill_facts (T.setVm vm₁) cA cy n.toNatClampNeg k.toNatClampNeg (defaultValue ty) n.toNatClampNeg
  rw [hF, hTh] at f1 f2
  have hold : ∀ x : Nat, x < H.size → F.heap[x]? = H[x]? := fun x hx => by
    have := Jvm.Free.Multi.fill_old (T.setVm vm₁) cA cy n.toNatClampNeg k.toNatClampNeg (defaultValue ty) (a := x) (by rw [hTh]; exact hx) n.toNatClampNeg
    rw [hF, hTh] at this
    exact this
  have hrow : ∀ j : Nat, j < n.toNatClampNeg → F.heap[H.size + 1 + j]? = some (vp_cell cy z) := fun j hj => by
    have := Jvm.Free.Multi.fill_inner (T.setVm vm₁) cA cy n.toNatClampNeg k.toNatClampNeg (defaultValue ty) n.toNatClampNeg j hj
    rw [hF, hTh, hz] at this
    exact this
  have hout : Jvm.Free.Multi.outerC cA n.toNatClampNeg H.size n.toNatClampNeg = vp_cell cA (n.toNatClampNeg, .inr (.inr (.inr (.inr (fun i => if i < n.toNatClampNeg then some (H.size + 1 + i) else none))))) := by
    rw [vp_cell_q]
    exact vr_outer cA n.toNatClampNeg H.size n.toNatClampNeg
  rw [hout] at f2
  have hlt : ∀ a, a ∈ L → a < H.size := fun a ha => by
    obtain ⟨k9, hk9⟩ := va_pl_get (X := X) (f := f) ha
    exact (hP k9 _ hk9).lt
  have hnl : ∀ i : Nat, i < n.toNatClampNeg → H.size + 1 + i ∉ L := fun i _ h => by
    have := hlt _ h
    omega
  have hnm : ∀ a, a ∈ (List.range n.toNatClampNeg).map (fun i => H.size + 1 + i) → a ∉ L := fun a ha h => by
    obtain ⟨i, -, rfl⟩ := List.mem_map.mp ha
    have := hlt _ h
    omega
  have hP0 : va_P D cl (X ++ va_pl L f) F.heap := hP.kept (fun k9 x hx => hold x.1 ((hP k9 x hx).lt))
  have hP1 : va_P D cl ((X ++ va_pl L f) ++ [(H.size, .inl (cA, n.toNatClampNeg, .inr (.inr (.inr (.inr (fun i => if i < n.toNatClampNeg then some (H.size + 1 + i) else none))))))]) F.heap := hP0.app (fun k9 x hx => by
    have h0 : k9 < 1 := (List.getElem?_eq_some_iff.mp hx).1
    rw [show k9 = 0 by omega] at hx
    cases hx
    exact f2)
  have hP2 : va_P D cl (((X ++ va_pl L f) ++ [(H.size, .inl (cA, n.toNatClampNeg, .inr (.inr (.inr (.inr (fun i => if i < n.toNatClampNeg then some (H.size + 1 + i) else none))))))]) ++ ((List.range n.toNatClampNeg).map (fun i => H.size + 1 + i)).map (fun a => (a, .inl (cy, z)))) F.heap := hP1.app (fun k9 x hx => by
    obtain ⟨a, ha, rfl⟩ := List.mem_map.mp (List.mem_of_getElem? hx)
    obtain ⟨i, hi, rfl⟩ := List.mem_map.mp ha
    exact hrow i (List.mem_range.mp hi))
  have hD2 : va_D A (((X ++ va_pl L f) ++ [(H.size, .inl (cA, n.toNatClampNeg, .inr (.inr (.inr (.inr (fun i => if i < n.toNatClampNeg then some (H.size + 1 + i) else none))))))]) ++ ((List.range n.toNatClampNeg).map (fun i => H.size + 1 + i)).map (fun a => (a, .inl (cy, z)))) := by
    have hD1 := hD.push (e := .inl (cA, n.toNatClampNeg, .inr (.inr (.inr (.inr (fun i => if i < n.toNatClampNeg then some (H.size + 1 + i) else none)))))) hP rfl (hA _ hS.1)
    generalize hW1 : (X ++ va_pl L f) ++ [(H.size, .inl (cA, n.toNatClampNeg, .inr (.inr (.inr (.inr (fun i => if i < n.toNatClampNeg then some (H.size + 1 + i) else none))))))] = W1 at hD1 hP1 ⊢
    have hle : ∀ (k9 : Nat) (x : Nat × va_E), W1[k9]? = some x → x.1 ≤ H.size := fun k9 x hx => by
      rw [← hW1] at hx
      by_cases hl : k9 < (X ++ va_pl L f).length
      · rw [List.getElem?_append_left hl] at hx
        exact Nat.le_of_lt ((hP k9 x hx).lt)
      · rw [List.getElem?_append_right (by omega)] at hx
        have h0 : k9 - (X ++ va_pl L f).length < 1 := (List.getElem?_eq_some_iff.mp hx).1
        rw [show k9 - (X ++ va_pl L f).length = 0 by omega] at hx
        cases hx
        exact Nat.le_refl _
    have hr : ∀ (k9 : Nat) (x : Nat × va_E), (((List.range n.toNatClampNeg).map (fun i => H.size + 1 + i)).map (fun a => ((a, .inl (cy, z)) : Nat × va_E)))[k9]? = some x → x.1 = H.size + 1 + k9 := fun k9 x hx => by
      rw [List.getElem?_map, List.getElem?_map] at hx
      by_cases h9 : k9 < n.toNatClampNeg
      · rw [List.getElem?_range h9] at hx
        cases hx
        rfl
      · have hn0 : (List.range n.toNatClampNeg)[k9]? = none := List.getElem?_eq_none (by rw [List.length_range]; omega)
        rw [hn0] at hx
        cases hx
    refine ⟨fun i j x y hi hj hxy => ?_, fun k9 x hx => ?_⟩
    · by_cases h1 : i < W1.length <;> by_cases h2 : j < W1.length
      · rw [List.getElem?_append_left h1] at hi
        rw [List.getElem?_append_left h2] at hj
        exact hD1.1 i j x y hi hj hxy
      · rw [List.getElem?_append_left h1] at hi
        rw [List.getElem?_append_right (by omega)] at hj
        have := hle _ _ hi
        have := hr _ _ hj
        omega
      · rw [List.getElem?_append_right (by omega)] at hi
        rw [List.getElem?_append_left h2] at hj
        have := hle _ _ hj
        have := hr _ _ hi
        omega
      · rw [List.getElem?_append_right (by omega)] at hi hj
        have := hr _ _ hi
        have := hr _ _ hj
        omega
    · by_cases h1 : k9 < W1.length
      · rw [List.getElem?_append_left h1] at hx
        exact hD1.2 k9 x hx
      · rw [List.getElem?_append_right (by omega)] at hx
        have := hr _ _ hx
        exact hA _ (by have := hS.1; omega)
  have hAr : ArrOfT s cA (.array ty) := fun N9 z9 => by
    obtain ⟨-, k9, hk9, cm9, hkk9⟩ := (hO 0 0 0).1
    exact ⟨(fun q hq => by cases hq), k9, hk9, cm9, hkk9⟩
  have hK2 : va_K D cl (tys ++ [(cA, .array ty)]) s := ⟨hK.1, fun k9 x hx => by
    by_cases hl : k9 < tys.length
    · rw [List.getElem?_append_left hl] at hx
      exact hK.2 k9 x hx
    · rw [List.getElem?_append_right (by omega)] at hx
      have h0 : k9 - tys.length < 1 := (List.getElem?_eq_some_iff.mp hx).1
      rw [show k9 - tys.length = 0 by omega] at hx
      cases hx
      exact ⟨hAr, fA⟩⟩
  obtain ⟨t, a1, b1⟩ := kk H.size (fun i => H.size + 1 + i) cA F.heap (fun i j _ _ h => by have h9 : H.size + 1 + i = H.size + 1 + j := h; omega) hnl hK2 (by rw [← vr_rows hnm]; exact vr_lay hP2) (by rw [← vr_rows hnm]; exact vr_layD hD2) ⟨by rw [f1]; have := hS.1; omega, fun x h1 h2 => (hold x (Nat.lt_of_lt_of_le h1 hS.1)).trans (hS.2.1 x h1 h2), hS.2.2⟩ F rfl X'
  refine ⟨t, step t ?_, b1⟩
  have e : T.heap.size = H.size := by rw [hT]
  rw [e]
  exact a1
end VGM
/-! ===== END ===== -/

/-! ===== BEGIN printed: names, fields, word lists, decode rows ===== -/
def RX0 : String := "TreeDebts$HutPlan"
def TX0 : u_T := fun k => match k with
  | 0 => ("TreeDebts$HutPlan", "least", "[[I", true)
  | 1 => ("TreeDebts$HutPlan", "choice", "[[I", true)
  | 2 => ("TreeDebts$HutPlan", "costs", "[I", true)
  | 3 => ("TreeDebts$HutPlan", "from", "[I", true)
  | _ => ("TreeDebts$HutPlan", "hutBranches", "I", false)
def tyX0 : Nat → FieldType := fun k => match k with
  | 0 => .array (.array .int)
  | 1 => .array (.array .int)
  | 2 => .array .int
  | 3 => .array .int
  | _ => .int
abbrev wsX00 : List Cond := u_ws RX0 TX0 5
theorem nmX0 : ∀ a, a < 5 → ∀ b, b < 5 → a ≠ b → (TX0 a).2.1 ≠ (TX0 b).2.1 := by decide +kernel
theorem tyX0_ok : ∀ k, k < 5 → parseFieldDescriptor (TX0 k).2.2.1 = some (tyX0 k) := by decide +kernel
abbrev cX0_init : ByteArray := prog_2_method_1_code
def yX0_init : MethodName := ⟨RX0, "<init>", "()V"⟩
abbrev cX0_find : ByteArray := prog_2_method_2_code
def yX0_find : MethodName := ⟨RX0, "find", "(LTreeDebts$Told;LTreeDebts$State;II)Z"⟩
abbrev cX0_owedTogether : ByteArray := prog_2_method_3_code
def yX0_owedTogether : MethodName := ⟨RX0, "owedTogether", "()I"⟩
abbrev cX0_chooseFrom : ByteArray := prog_2_method_4_code
def yX0_chooseFrom : MethodName := ⟨RX0, "chooseFrom", "(III)V"⟩
abbrev cX0_followChoices : ByteArray := prog_2_method_5_code
def yX0_followChoices : MethodName := ⟨RX0, "followChoices", "(I)V"⟩
def RX1 : String := "TreeDebts$State"
def TX1 : u_T := fun k => match k with
  | 0 => ("TreeDebts$State", "day", "I", false)
  | 1 => ("TreeDebts$State", "branches", "[I", true)
  | 2 => ("TreeDebts$State", "fates", "[I", true)
  | 3 => ("TreeDebts$State", "loans", "I", false)
  | 4 => ("TreeDebts$State", "lenders", "[I", true)
  | 5 => ("TreeDebts$State", "lent", "[I", true)
  | 6 => ("TreeDebts$State", "owed", "[I", true)
  | 7 => ("TreeDebts$State", "dues", "[I", true)
  | 8 => ("TreeDebts$State", "failed", "[I", true)
  | _ => ("TreeDebts$State", "failures", "I", false)
def tyX1 : Nat → FieldType := fun k => match k with
  | 0 => .int
  | 1 => .array .int
  | 2 => .array .int
  | 3 => .int
  | 4 => .array .int
  | 5 => .array .int
  | 6 => .array .int
  | 7 => .array .int
  | 8 => .array .int
  | _ => .int
abbrev wsX10 : List Cond := u_ws RX1 TX1 10
theorem nmX1 : ∀ a, a < 10 → ∀ b, b < 10 → a ≠ b → (TX1 a).2.1 ≠ (TX1 b).2.1 := by decide +kernel
theorem tyX1_ok : ∀ k, k < 10 → parseFieldDescriptor (TX1 k).2.2.1 = some (tyX1 k) := by decide +kernel
abbrev cX1_init : ByteArray := prog_3_method_1_code
def yX1_init : MethodName := ⟨RX1, "<init>", "()V"⟩
abbrev cX1_begin : ByteArray := prog_3_method_2_code
def yX1_begin : MethodName := ⟨RX1, "begin", "(LTreeDebts$Told;)V"⟩
abbrev cX1_copyFrom : ByteArray := prog_3_method_3_code
def yX1_copyFrom : MethodName := ⟨RX1, "copyFrom", "(LTreeDebts$State;)V"⟩
abbrev cX1_owedTo : ByteArray := prog_3_method_4_code
def yX1_owedTo : MethodName := ⟨RX1, "owedTo", "(I)I"⟩
abbrev cX1_owedInAll : ByteArray := prog_3_method_5_code
def yX1_owedInAll : MethodName := ⟨RX1, "owedInAll", "()I"⟩
abbrev cX1_isCross : ByteArray := prog_3_method_6_code
def yX1_isCross : MethodName := ⟨RX1, "isCross", "(LTreeDebts$Told;I)Z"⟩
abbrev cX1_lends : ByteArray := prog_3_method_7_code
def yX1_lends : MethodName := ⟨RX1, "lends", "(LTreeDebts$Told;I)Z"⟩
abbrev cX1_lend : ByteArray := prog_3_method_8_code
def yX1_lend : MethodName := ⟨RX1, "lend", "(LTreeDebts$Told;II)I"⟩
abbrev cX1_addBranches : ByteArray := prog_3_method_9_code
def yX1_addBranches : MethodName := ⟨RX1, "addBranches", "(II)V"⟩
abbrev cX1_passDays : ByteArray := prog_3_method_10_code
def yX1_passDays : MethodName := ⟨RX1, "passDays", "(LTreeDebts$Told;II)V"⟩
abbrev cX1_growLoans : ByteArray := prog_3_method_11_code
def yX1_growLoans : MethodName := ⟨RX1, "growLoans", "(LTreeDebts$Told;)V"⟩
abbrev cX1_workOff : ByteArray := prog_3_method_12_code
def yX1_workOff : MethodName := ⟨RX1, "workOff", "(I)V"⟩
abbrev cX1_firstDue : ByteArray := prog_3_method_13_code
def yX1_firstDue : MethodName := ⟨RX1, "firstDue", "()I"⟩
abbrev cX1_failDueLoans : ByteArray := prog_3_method_14_code
def yX1_failDueLoans : MethodName := ⟨RX1, "failDueLoans", "()V"⟩
abbrev cX1_removeLoan : ByteArray := prog_3_method_15_code
def yX1_removeLoan : MethodName := ⟨RX1, "removeLoan", "(I)V"⟩
abbrev cX1_burn : ByteArray := prog_3_method_16_code
def yX1_burn : MethodName := ⟨RX1, "burn", "(LTreeDebts$Told;I)I"⟩
abbrev cX1_removeLoansOf : ByteArray := prog_3_method_17_code
def yX1_removeLoansOf : MethodName := ⟨RX1, "removeLoansOf", "(I)V"⟩
abbrev cX1_handOver : ByteArray := prog_3_method_18_code
def yX1_handOver : MethodName := ⟨RX1, "handOver", "(II)I"⟩
abbrev cX1_partsWithLoans : ByteArray := prog_3_method_19_code
def yX1_partsWithLoans : MethodName := ⟨RX1, "partsWithLoans", "(LTreeDebts$Told;)I"⟩
def RX2 : String := "TreeDebts$Text"
def TX2 : u_T := fun k => match k with
  | 0 => ("TreeDebts$Text", "bytes", "[I", true)
  | 1 => ("TreeDebts$Text", "length", "I", false)
  | 2 => ("TreeDebts$Text", "draft", "LTreeDebts$Told;", true)
  | 3 => ("TreeDebts$Text", "lines", "I", false)
  | 4 => ("TreeDebts$Text", "start", "I", false)
  | 5 => ("TreeDebts$Text", "end", "I", false)
  | 6 => ("TreeDebts$Text", "token", "I", false)
  | _ => ("TreeDebts$Text", "value", "I", false)
def tyX2 : Nat → FieldType := fun k => match k with
  | 0 => .array .int
  | 1 => .int
  | 2 => .object "TreeDebts$Told"
  | 3 => .int
  | 4 => .int
  | 5 => .int
  | 6 => .int
  | _ => .int
abbrev wsX20 : List Cond := u_ws RX2 TX2 8
theorem nmX2 : ∀ a, a < 8 → ∀ b, b < 8 → a ≠ b → (TX2 a).2.1 ≠ (TX2 b).2.1 := by decide +kernel
theorem tyX2_ok : ∀ k, k < 8 → parseFieldDescriptor (TX2 k).2.2.1 = some (tyX2 k) := by decide +kernel
abbrev cX2_init : ByteArray := prog_4_method_1_code
def yX2_init : MethodName := ⟨RX2, "<init>", "()V"⟩
abbrev cX2_add : ByteArray := prog_4_method_2_code
def yX2_add : MethodName := ⟨RX2, "add", "(I)V"⟩
abbrev cX2_read : ByteArray := prog_4_method_3_code
def yX2_read : MethodName := ⟨RX2, "read", "(LTreeDebts$Told;)I"⟩
abbrev cX2_isAtSemicolon : ByteArray := prog_4_method_4_code
def yX2_isAtSemicolon : MethodName := ⟨RX2, "isAtSemicolon", "()Z"⟩
abbrev cX2_readLine : ByteArray := prog_4_method_5_code
def yX2_readLine : MethodName := ⟨RX2, "readLine", "()Z"⟩
abbrev cX2_readWood : ByteArray := prog_4_method_6_code
def yX2_readWood : MethodName := ⟨RX2, "readWood", "()Z"⟩
abbrev cX2_readTree : ByteArray := prog_4_method_7_code
def yX2_readTree : MethodName := ⟨RX2, "readTree", "(I)Z"⟩
abbrev cX2_readPart : ByteArray := prog_4_method_8_code
def yX2_readPart : MethodName := ⟨RX2, "readPart", "()Z"⟩
abbrev cX2_readQuarrel : ByteArray := prog_4_method_9_code
def yX2_readQuarrel : MethodName := ⟨RX2, "readQuarrel", "()Z"⟩
abbrev cX2_readHands : ByteArray := prog_4_method_10_code
def yX2_readHands : MethodName := ⟨RX2, "readHands", "()Z"⟩
abbrev cX2_readNumber : ByteArray := prog_4_method_11_code
def yX2_readNumber : MethodName := ⟨RX2, "readNumber", "(II)I"⟩
abbrev cX2_nextToken : ByteArray := prog_4_method_12_code
def yX2_nextToken : MethodName := ⟨RX2, "nextToken", "()V"⟩
abbrev cX2_readDigits : ByteArray := prog_4_method_13_code
def yX2_readDigits : MethodName := ⟨RX2, "readDigits", "()V"⟩
abbrev cX2_isWord : ByteArray := prog_4_method_14_code
def yX2_isWord : MethodName := ⟨RX2, "isWord", "(Ljava/lang/String;)Z"⟩
abbrev cX2_isLetter : ByteArray := prog_4_method_15_code
def yX2_isLetter : MethodName := ⟨RX2, "isLetter", "(I)Z"⟩
abbrev cX2_isDigit : ByteArray := prog_4_method_16_code
def yX2_isDigit : MethodName := ⟨RX2, "isDigit", "(I)Z"⟩
def RX3 : String := "TreeDebts$Told"
def TX3 : u_T := fun k => match k with
  | 0 => ("TreeDebts$Told", "trees", "I", false)
  | 1 => ("TreeDebts$Told", "kinds", "[I", true)
  | 2 => ("TreeDebts$Told", "branches", "[I", true)
  | 3 => ("TreeDebts$Told", "rates", "[I", true)
  | 4 => ("TreeDebts$Told", "terms", "[I", true)
  | 5 => ("TreeDebts$Told", "parts", "[I", true)
  | 6 => ("TreeDebts$Told", "quarrels", "I", false)
  | 7 => ("TreeDebts$Told", "ones", "[I", true)
  | 8 => ("TreeDebts$Told", "others", "[I", true)
  | _ => ("TreeDebts$Told", "hands", "I", false)
def tyX3 : Nat → FieldType := fun k => match k with
  | 0 => .int
  | 1 => .array .int
  | 2 => .array .int
  | 3 => .array .int
  | 4 => .array .int
  | 5 => .array .int
  | 6 => .int
  | 7 => .array .int
  | 8 => .array .int
  | _ => .int
abbrev wsX30 : List Cond := u_ws RX3 TX3 10
theorem nmX3 : ∀ a, a < 10 → ∀ b, b < 10 → a ≠ b → (TX3 a).2.1 ≠ (TX3 b).2.1 := by decide +kernel
theorem tyX3_ok : ∀ k, k < 10 → parseFieldDescriptor (TX3 k).2.2.1 = some (tyX3 k) := by decide +kernel
abbrev cX3_init : ByteArray := prog_5_method_1_code
def yX3_init : MethodName := ⟨RX3, "<init>", "()V"⟩
abbrev cX3_has : ByteArray := prog_5_method_2_code
def yX3_has : MethodName := ⟨RX3, "has", "(I)Z"⟩
abbrev cX3_forget : ByteArray := prog_5_method_3_code
def yX3_forget : MethodName := ⟨RX3, "forget", "()V"⟩
abbrev cX3_copyFrom : ByteArray := prog_5_method_4_code
def yX3_copyFrom : MethodName := ⟨RX3, "copyFrom", "(LTreeDebts$Told;)V"⟩
abbrev cX3_addTree : ByteArray := prog_5_method_5_code
def yX3_addTree : MethodName := ⟨RX3, "addTree", "(IIII)V"⟩
abbrev cX3_addQuarrel : ByteArray := prog_5_method_6_code
def yX3_addQuarrel : MethodName := ⟨RX3, "addQuarrel", "(II)V"⟩
abbrev cX3_isOfKind : ByteArray := prog_5_method_7_code
def yX3_isOfKind : MethodName := ⟨RX3, "isOfKind", "(II)Z"⟩
abbrev cX3_dueOf : ByteArray := prog_5_method_8_code
def yX3_dueOf : MethodName := ⟨RX3, "dueOf", "(II)I"⟩
abbrev cX3_grownOnce : ByteArray := prog_5_method_9_code
def yX3_grownOnce : MethodName := ⟨RX3, "grownOnce", "(III)I"⟩
abbrev cX3_grownIn : ByteArray := prog_5_method_10_code
def yX3_grownIn : MethodName := ⟨RX3, "grownIn", "(III)I"⟩
def RX4 : String := "TreeDebts"
def TX4 : u_T := fun k => match k with
  | 0 => ("TreeDebts", "text", "LTreeDebts$Text;", true)
  | 1 => ("TreeDebts", "told", "LTreeDebts$Told;", true)
  | 2 => ("TreeDebts", "now", "LTreeDebts$State;", true)
  | 3 => ("TreeDebts", "foretold", "LTreeDebts$State;", true)
  | 4 => ("TreeDebts", "kept", "[LTreeDebts$State;", true)
  | 5 => ("TreeDebts", "isKept", "[Z", true)
  | _ => ("TreeDebts", "hutPlan", "LTreeDebts$HutPlan;", true)
def tyX4 : Nat → FieldType := fun k => match k with
  | 0 => .object "TreeDebts$Text"
  | 1 => .object "TreeDebts$Told"
  | 2 => .object "TreeDebts$State"
  | 3 => .object "TreeDebts$State"
  | 4 => .array (.object "TreeDebts$State")
  | 5 => .array .boolean
  | _ => .object "TreeDebts$HutPlan"
abbrev wsX40 : List Cond := u_ws RX4 TX4 7
theorem nmX4 : ∀ a, a < 7 → ∀ b, b < 7 → a ≠ b → (TX4 a).2.1 ≠ (TX4 b).2.1 := by decide +kernel
theorem tyX4_ok : ∀ k, k < 7 → parseFieldDescriptor (TX4 k).2.2.1 = some (tyX4 k) := by decide +kernel
abbrev cX4_init : ByteArray := prog_1_method_1_code
def yX4_init : MethodName := ⟨RX4, "<init>", "()V"⟩
abbrev cX4_write : ByteArray := prog_1_method_2_code
def yX4_write : MethodName := ⟨RX4, "write", "(JI)I"⟩
abbrev cX4_erase : ByteArray := prog_1_method_3_code
def yX4_erase : MethodName := ⟨RX4, "erase", "()I"⟩
abbrev cX4_fault : ByteArray := prog_1_method_4_code
def yX4_fault : MethodName := ⟨RX4, "fault", "()I"⟩
abbrev cX4_wood : ByteArray := prog_1_method_5_code
def yX4_wood : MethodName := ⟨RX4, "wood", "()I"⟩
abbrev cX4_tree : ByteArray := prog_1_method_6_code
def yX4_tree : MethodName := ⟨RX4, "tree", "(II)I"⟩
abbrev cX4_loan : ByteArray := prog_1_method_7_code
def yX4_loan : MethodName := ⟨RX4, "loan", "(II)I"⟩
abbrev cX4_as : ByteArray := prog_1_method_8_code
def yX4_as : MethodName := ⟨RX4, "as", "(II)I"⟩
abbrev cX4_borrow : ByteArray := prog_1_method_9_code
def yX4_borrow : MethodName := ⟨RX4, "borrow", "(II)I"⟩
abbrev cX4_days : ByteArray := prog_1_method_10_code
def yX4_days : MethodName := ⟨RX4, "days", "(I)I"⟩
abbrev cX4_fire : ByteArray := prog_1_method_11_code
def yX4_fire : MethodName := ⟨RX4, "fire", "(I)I"⟩
abbrev cX4_sell : ByteArray := prog_1_method_12_code
def yX4_sell : MethodName := ⟨RX4, "sell", "(II)I"⟩
abbrev cX4_keep : ByteArray := prog_1_method_13_code
def yX4_keep : MethodName := ⟨RX4, "keep", "(I)I"⟩
abbrev cX4_back : ByteArray := prog_1_method_14_code
def yX4_back : MethodName := ⟨RX4, "back", "(I)I"⟩
abbrev cX4_later : ByteArray := prog_1_method_15_code
def yX4_later : MethodName := ⟨RX4, "later", "(II)I"⟩
abbrev cX4_all : ByteArray := prog_1_method_16_code
def yX4_all : MethodName := ⟨RX4, "all", "(II)I"⟩
abbrev cX4_clear : ByteArray := prog_1_method_17_code
def yX4_clear : MethodName := ⟨RX4, "clear", "()I"⟩
abbrev cX4_hut : ByteArray := prog_1_method_18_code
def yX4_hut : MethodName := ⟨RX4, "hut", "(III)I"⟩
abbrev cX4_enough : ByteArray := prog_1_method_19_code
def yX4_enough : MethodName := ⟨RX4, "enough", "(I)I"⟩
abbrev cX4_rid : ByteArray := prog_1_method_20_code
def yX4_rid : MethodName := ⟨RX4, "rid", "(II)I"⟩
abbrev cX4_grandson : ByteArray := prog_1_method_21_code
def yX4_grandson : MethodName := ⟨RX4, "grandson", "(I)I"⟩
abbrev cX4_toWhom : ByteArray := prog_1_method_22_code
def yX4_toWhom : MethodName := ⟨RX4, "toWhom", "(III)I"⟩
abbrev cX4_count : ByteArray := prog_1_method_23_code
def yX4_count : MethodName := ⟨RX4, "count", "(I)I"⟩
abbrev cX4_foretell : ByteArray := prog_1_method_24_code
def yX4_foretell : MethodName := ⟨RX4, "foretell", "(I)V"⟩
abbrev cX4_anyFails : ByteArray := prog_1_method_25_code
def yX4_anyFails : MethodName := ⟨RX4, "anyFails", "(II)Z"⟩
abbrev cX4_commonWithTen : ByteArray := prog_1_method_26_code
def yX4_commonWithTen : MethodName := ⟨RX4, "commonWithTen", "(I)I"⟩
def RX5 : String := "TreeDebtsModel"
def TX5 : u_T := fun k => match k with
  | 0 => ("TreeDebtsModel", "row", "[I", true)
  | 1 => ("TreeDebtsModel", "isKept", "[Z", true)
  | 2 => ("TreeDebtsModel", "text", "[I", true)
  | 3 => ("TreeDebtsModel", "length", "I", false)
  | 4 => ("TreeDebtsModel", "read", "[I", true)
  | 5 => ("TreeDebtsModel", "readMany", "I", false)
  | 6 => ("TreeDebtsModel", "kinds", "[I", true)
  | 7 => ("TreeDebtsModel", "rates", "[I", true)
  | 8 => ("TreeDebtsModel", "terms", "[I", true)
  | 9 => ("TreeDebtsModel", "parts", "[I", true)
  | 10 => ("TreeDebtsModel", "many", "I", false)
  | 11 => ("TreeDebtsModel", "quarrels", "[I", true)
  | 12 => ("TreeDebtsModel", "quarrelMany", "I", false)
  | 13 => ("TreeDebtsModel", "hands", "I", false)
  | 14 => ("TreeDebtsModel", "at", "I", false)
  | 15 => ("TreeDebtsModel", "place", "I", false)
  | 16 => ("TreeDebtsModel", "end", "I", false)
  | 17 => ("TreeDebtsModel", "readTrees", "I", false)
  | 18 => ("TreeDebtsModel", "readQuarrels", "I", false)
  | 19 => ("TreeDebtsModel", "prices", "[I", true)
  | _ => ("TreeDebtsModel", "leasts", "[I", true)
def tyX5 : Nat → FieldType := fun k => match k with
  | 0 => .array .int
  | 1 => .array .boolean
  | 2 => .array .int
  | 3 => .int
  | 4 => .array .int
  | 5 => .int
  | 6 => .array .int
  | 7 => .array .int
  | 8 => .array .int
  | 9 => .array .int
  | 10 => .int
  | 11 => .array .int
  | 12 => .int
  | 13 => .int
  | 14 => .int
  | 15 => .int
  | 16 => .int
  | 17 => .int
  | 18 => .int
  | 19 => .array .int
  | _ => .array .int
abbrev wsX50 : List Cond := u_ws RX5 TX5 21
theorem nmX5 : ∀ a, a < 21 → ∀ b, b < 21 → a ≠ b → (TX5 a).2.1 ≠ (TX5 b).2.1 := by decide +kernel
theorem tyX5_ok : ∀ k, k < 21 → parseFieldDescriptor (TX5 k).2.2.1 = some (tyX5 k) := by decide +kernel
abbrev cX5_init : ByteArray := prog_7_method_1_code
def yX5_init : MethodName := ⟨RX5, "<init>", "()V"⟩
abbrev cX5_in : ByteArray := prog_7_method_2_code
def yX5_in : MethodName := ⟨RX5, "in", "(JJJ)Z"⟩
abbrev cX5_copy : ByteArray := prog_7_method_3_code
def yX5_copy : MethodName := ⟨RX5, "copy", "(II)V"⟩
abbrev cX5_write : ByteArray := prog_7_method_4_code
def yX5_write : MethodName := ⟨RX5, "write", "(JI)I"⟩
abbrev cX5_erase : ByteArray := prog_7_method_5_code
def yX5_erase : MethodName := ⟨RX5, "erase", "()I"⟩
abbrev cX5_sort : ByteArray := prog_7_method_6_code
def yX5_sort : MethodName := ⟨RX5, "sort", "(I)I"⟩
abbrev cX5_token : ByteArray := prog_7_method_7_code
def yX5_token : MethodName := ⟨RX5, "token", "()V"⟩
abbrev cX5_isWord : ByteArray := prog_7_method_8_code
def yX5_isWord : MethodName := ⟨RX5, "isWord", "(III)Z"⟩
abbrev cX5_treeWord : ByteArray := prog_7_method_9_code
def yX5_treeWord : MethodName := ⟨RX5, "treeWord", "()I"⟩
abbrev cX5_wordOf : ByteArray := prog_7_method_10_code
def yX5_wordOf : MethodName := ⟨RX5, "wordOf", "()I"⟩
abbrev cX5_reads : ByteArray := prog_7_method_11_code
def yX5_reads : MethodName := ⟨RX5, "reads", "(IIII)Z"⟩
abbrev cX5_readsRest : ByteArray := prog_7_method_12_code
def yX5_readsRest : MethodName := ⟨RX5, "readsRest", "(I)Z"⟩
abbrev cX5_isTreeWord : ByteArray := prog_7_method_13_code
def yX5_isTreeWord : MethodName := ⟨RX5, "isTreeWord", "(I)Z"⟩
abbrev cX5_readsLine : ByteArray := prog_7_method_14_code
def yX5_readsLine : MethodName := ⟨RX5, "readsLine", "()Z"⟩
abbrev cX5_fault : ByteArray := prog_7_method_15_code
def yX5_fault : MethodName := ⟨RX5, "fault", "()I"⟩
abbrev cX5_tell : ByteArray := prog_7_method_16_code
def yX5_tell : MethodName := ⟨RX5, "tell", "(I)V"⟩
abbrev cX5_wood : ByteArray := prog_7_method_17_code
def yX5_wood : MethodName := ⟨RX5, "wood", "()I"⟩
abbrev cX5_isTree : ByteArray := prog_7_method_18_code
def yX5_isTree : MethodName := ⟨RX5, "isTree", "(I)Z"⟩
abbrev cX5_lives : ByteArray := prog_7_method_19_code
def yX5_lives : MethodName := ⟨RX5, "lives", "(I)Z"⟩
abbrev cX5_placeOf : ByteArray := prog_7_method_20_code
def yX5_placeOf : MethodName := ⟨RX5, "placeOf", "(III)I"⟩
abbrev cX5_owedTo : ByteArray := prog_7_method_21_code
def yX5_owedTo : MethodName := ⟨RX5, "owedTo", "(II)I"⟩
abbrev cX5_owedAll : ByteArray := prog_7_method_22_code
def yX5_owedAll : MethodName := ⟨RX5, "owedAll", "(I)I"⟩
abbrev cX5_isCross : ByteArray := prog_7_method_23_code
def yX5_isCross : MethodName := ⟨RX5, "isCross", "(I)Z"⟩
abbrev cX5_lends : ByteArray := prog_7_method_24_code
def yX5_lends : MethodName := ⟨RX5, "lends", "(I)Z"⟩
abbrev cX5_grown : ByteArray := prog_7_method_25_code
def yX5_grown : MethodName := ⟨RX5, "grown", "(III)I"⟩
abbrev cX5_remove : ByteArray := prog_7_method_26_code
def yX5_remove : MethodName := ⟨RX5, "remove", "(II)V"⟩
abbrev cX5_few : ByteArray := prog_7_method_27_code
def yX5_few : MethodName := ⟨RX5, "few", "(I)I"⟩
abbrev cX5_firstDue : ByteArray := prog_7_method_28_code
def yX5_firstDue : MethodName := ⟨RX5, "firstDue", "(I)I"⟩
abbrev cX5_work : ByteArray := prog_7_method_29_code
def yX5_work : MethodName := ⟨RX5, "work", "(II)V"⟩
abbrev cX5_day : ByteArray := prog_7_method_30_code
def yX5_day : MethodName := ⟨RX5, "day", "(II)V"⟩
abbrev cX5_tree : ByteArray := prog_7_method_31_code
def yX5_tree : MethodName := ⟨RX5, "tree", "(II)I"⟩
abbrev cX5_loan : ByteArray := prog_7_method_32_code
def yX5_loan : MethodName := ⟨RX5, "loan", "(II)I"⟩
abbrev cX5_as : ByteArray := prog_7_method_33_code
def yX5_as : MethodName := ⟨RX5, "as", "(II)I"⟩
abbrev cX5_borrow : ByteArray := prog_7_method_34_code
def yX5_borrow : MethodName := ⟨RX5, "borrow", "(II)I"⟩
abbrev cX5_days : ByteArray := prog_7_method_35_code
def yX5_days : MethodName := ⟨RX5, "days", "(I)I"⟩
abbrev cX5_burn : ByteArray := prog_7_method_36_code
def yX5_burn : MethodName := ⟨RX5, "burn", "(I)V"⟩
abbrev cX5_fire : ByteArray := prog_7_method_37_code
def yX5_fire : MethodName := ⟨RX5, "fire", "(I)I"⟩
abbrev cX5_sell : ByteArray := prog_7_method_38_code
def yX5_sell : MethodName := ⟨RX5, "sell", "(II)I"⟩
abbrev cX5_keep : ByteArray := prog_7_method_39_code
def yX5_keep : MethodName := ⟨RX5, "keep", "(I)I"⟩
abbrev cX5_back : ByteArray := prog_7_method_40_code
def yX5_back : MethodName := ⟨RX5, "back", "(I)I"⟩
abbrev cX5_tryDays : ByteArray := prog_7_method_41_code
def yX5_tryDays : MethodName := ⟨RX5, "tryDays", "(II)V"⟩
abbrev cX5_later : ByteArray := prog_7_method_42_code
def yX5_later : MethodName := ⟨RX5, "later", "(II)I"⟩
abbrev cX5_all : ByteArray := prog_7_method_43_code
def yX5_all : MethodName := ⟨RX5, "all", "(II)I"⟩
abbrev cX5_clear : ByteArray := prog_7_method_44_code
def yX5_clear : MethodName := ⟨RX5, "clear", "()I"⟩
abbrev cX5_owedFor : ByteArray := prog_7_method_45_code
def yX5_owedFor : MethodName := ⟨RX5, "owedFor", "(III)I"⟩
abbrev cX5_layPrices : ByteArray := prog_7_method_46_code
def yX5_layPrices : MethodName := ⟨RX5, "layPrices", "(I)V"⟩
abbrev cX5_by : ByteArray := prog_7_method_47_code
def yX5_by : MethodName := ⟨RX5, "by", "(III)I"⟩
abbrev cX5_layLeasts : ByteArray := prog_7_method_48_code
def yX5_layLeasts : MethodName := ⟨RX5, "layLeasts", "()V"⟩
abbrev cX5_hut : ByteArray := prog_7_method_49_code
def yX5_hut : MethodName := ⟨RX5, "hut", "(III)I"⟩
abbrev cX5_enough : ByteArray := prog_7_method_50_code
def yX5_enough : MethodName := ⟨RX5, "enough", "(I)I"⟩
abbrev cX5_rid : ByteArray := prog_7_method_51_code
def yX5_rid : MethodName := ⟨RX5, "rid", "(II)I"⟩
abbrev cX5_grandson : ByteArray := prog_7_method_52_code
def yX5_grandson : MethodName := ⟨RX5, "grandson", "(I)I"⟩
abbrev cX5_toWhom : ByteArray := prog_7_method_53_code
def yX5_toWhom : MethodName := ⟨RX5, "toWhom", "(III)I"⟩
abbrev cX5_count : ByteArray := prog_7_method_54_code
def yX5_count : MethodName := ⟨RX5, "count", "(I)I"⟩
def RJ6 : String := "java/lang/Integer"
def TJ6 : u_T := fun k => match k with
  | _ => ("", "", "", false)
def tyJ6 : Nat → FieldType := fun k => match k with
  | _ => .int
abbrev wsJ60 : List Cond := u_ws RJ6 TJ6 0
theorem nmJ6 : ∀ a, a < 0 → ∀ b, b < 0 → a ≠ b → (TJ6 a).2.1 ≠ (TJ6 b).2.1 := by decide +kernel
theorem tyJ6_ok : ∀ k, k < 0 → parseFieldDescriptor (TJ6 k).2.2.1 = some (tyJ6 k) := by decide +kernel
abbrev cJ6_bitCount_0f7a4 : ByteArray := prog_8_method_49_code
def yJ6_bitCount_0f7a4 : MethodName := ⟨RJ6, "bitCount", "(I)I"⟩
def RJ9 : String := "java/lang/Math"
def TJ9 : u_T := fun k => match k with
  | _ => ("", "", "", false)
def tyJ9 : Nat → FieldType := fun k => match k with
  | _ => .int
abbrev wsJ90 : List Cond := u_ws RJ9 TJ9 0
theorem nmJ9 : ∀ a, a < 0 → ∀ b, b < 0 → a ≠ b → (TJ9 a).2.1 ≠ (TJ9 b).2.1 := by decide +kernel
theorem tyJ9_ok : ∀ k, k < 0 → parseFieldDescriptor (TJ9 k).2.2.1 = some (tyJ9 k) := by decide +kernel
abbrev cJ9_min_7cf53 : ByteArray := prog_9_method_69_code
def yJ9_min_7cf53 : MethodName := ⟨RJ9, "min", "(II)I"⟩
def RJ0 : String := "java/lang/String"
def TJ0 : u_T := fun k => match k with
  | _ => ("", "", "", false)
def tyJ0 : Nat → FieldType := fun k => match k with
  | _ => .int
abbrev wsJ00 : List Cond := u_ws RJ0 TJ0 0
theorem nmJ0 : ∀ a, a < 0 → ∀ b, b < 0 → a ≠ b → (TJ0 a).2.1 ≠ (TJ0 b).2.1 := by decide +kernel
theorem tyJ0_ok : ∀ k, k < 0 → parseFieldDescriptor (TJ0 k).2.2.1 = some (tyJ0 k) := by decide +kernel
abbrev cJ0_length_8abf5 : ByteArray := prog_10_method_54_code
def yJ0_length_8abf5 : MethodName := ⟨RJ0, "length", "()I"⟩
abbrev cJ0_charAt_5068e : ByteArray := prog_10_method_56_code
def yJ0_charAt_5068e : MethodName := ⟨RJ0, "charAt", "(I)C"⟩
abbrev cJ0_coder_7d493 : ByteArray := prog_10_method_152_code
def yJ0_coder_7d493 : MethodName := ⟨RJ0, "coder", "()B"⟩
abbrev cJ0_isLatin1_aae02 : ByteArray := prog_10_method_154_code
def yJ0_isLatin1_aae02 : MethodName := ⟨RJ0, "isLatin1", "()Z"⟩
abbrev cJ0_checkIndex_df160 : ByteArray := prog_10_method_155_code
def yJ0_checkIndex_df160 : MethodName := ⟨RJ0, "checkIndex", "(II)V"⟩
def RJ1 : String := "java/lang/StringLatin1"
def TJ1 : u_T := fun k => match k with
  | _ => ("", "", "", false)
def tyJ1 : Nat → FieldType := fun k => match k with
  | _ => .int
abbrev wsJ10 : List Cond := u_ws RJ1 TJ1 0
theorem nmJ1 : ∀ a, a < 0 → ∀ b, b < 0 → a ≠ b → (TJ1 a).2.1 ≠ (TJ1 b).2.1 := by decide +kernel
theorem tyJ1_ok : ∀ k, k < 0 → parseFieldDescriptor (TJ1 k).2.2.1 = some (tyJ1 k) := by decide +kernel
abbrev cJ1_charAt_3b067 : ByteArray := prog_11_method_2_code
def yJ1_charAt_3b067 : MethodName := ⟨RJ1, "charAt", "([BI)C"⟩
def RJ2 : String := "java/lang/StringUTF16"
def TJ2 : u_T := fun k => match k with
  | _ => ("", "", "", false)
def tyJ2 : Nat → FieldType := fun k => match k with
  | _ => .int
abbrev wsJ20 : List Cond := u_ws RJ2 TJ2 0
theorem nmJ2 : ∀ a, a < 0 → ∀ b, b < 0 → a ≠ b → (TJ2 a).2.1 ≠ (TJ2 b).2.1 := by decide +kernel
theorem tyJ2_ok : ∀ k, k < 0 → parseFieldDescriptor (TJ2 k).2.2.1 = some (tyJ2 k) := by decide +kernel
abbrev cJ2_getChar_3b067 : ByteArray := prog_12_method_5_code
def yJ2_getChar_3b067 : MethodName := ⟨RJ2, "getChar", "([BI)C"⟩
abbrev cJ2_length_9d52b : ByteArray := prog_12_method_6_code
def yJ2_length_9d52b : MethodName := ⟨RJ2, "length", "([B)I"⟩
abbrev cJ2_charAt_3b067 : ByteArray := prog_12_method_83_code
def yJ2_charAt_3b067 : MethodName := ⟨RJ2, "charAt", "([BI)C"⟩
abbrev cJ2_checkIndex_2214a : ByteArray := prog_12_method_91_code
def yJ2_checkIndex_2214a : MethodName := ⟨RJ2, "checkIndex", "(I[B)V"⟩
def RJ10 : String := "java/lang/System"
def TJ10 : u_T := fun k => match k with
  | _ => ("", "", "", false)
def tyJ10 : Nat → FieldType := fun k => match k with
  | _ => .int
abbrev wsJ100 : List Cond := u_ws RJ10 TJ10 0
theorem nmJ10 : ∀ a, a < 0 → ∀ b, b < 0 → a ≠ b → (TJ10 a).2.1 ≠ (TJ10 b).2.1 := by decide +kernel
theorem tyJ10_ok : ∀ k, k < 0 → parseFieldDescriptor (TJ10 k).2.2.1 = some (tyJ10 k) := by decide +kernel
def RJ3 : String := "jdk/internal/util/Preconditions"
def TJ3 : u_T := fun k => match k with
  | _ => ("", "", "", false)
def tyJ3 : Nat → FieldType := fun k => match k with
  | _ => .int
abbrev wsJ30 : List Cond := u_ws RJ3 TJ3 0
theorem nmJ3 : ∀ a, a < 0 → ∀ b, b < 0 → a ≠ b → (TJ3 a).2.1 ≠ (TJ3 b).2.1 := by decide +kernel
theorem tyJ3_ok : ∀ k, k < 0 → parseFieldDescriptor (TJ3 k).2.2.1 = some (tyJ3 k) := by decide +kernel
abbrev cJ3_checkIndex_8e157 : ByteArray := prog_14_method_11_code
def yJ3_checkIndex_8e157 : MethodName := ⟨RJ3, "checkIndex", "(IILjava/util/function/BiFunction;)I"⟩
def RL : String := "TreeDebtsLaw"
abbrev cL_law : ByteArray := code
def yL_law : MethodName := ⟨RL, "law", "([I)Z"⟩
def wsX0_init : List Cond := .code yX0_init cX0_init 1 none :: ([.methodLink RX0 3 objectInit, .instanceMethod objectInit, .code objectInit ⟨#[0xb1]⟩ 1 none, .classLink RX0 9 "[[I", .arrayClass .int, .fieldLink RX0 11 "TreeDebts$HutPlan" "least" "[[I", .fieldLink RX0 16 "TreeDebts$HutPlan" "choice" "[[I", .fieldLink RX0 19 "TreeDebts$HutPlan" "costs" "[I", .fieldLink RX0 23 "TreeDebts$HutPlan" "from" "[I"] ++ wsX00)
def wsX1_owedTo : List Cond := .code yX1_owedTo cX1_owedTo 4 (some .int) :: ([.fieldLink RX1 37 "TreeDebts$State" "loans" "I", .fieldLink RX1 18 "TreeDebts$State" "lenders" "[I", .fieldLink RX1 24 "TreeDebts$State" "owed" "[I"] ++ wsX10)
def wsX1_isCross : List Cond := .code yX1_isCross cX1_isCross 5 (some .boolean) :: ([.fieldLink RX1 56 "TreeDebts$Told" "quarrels" "I", .fieldLink RX1 59 "TreeDebts$Told" "ones" "[I", .fieldLink RX1 62 "TreeDebts$Told" "others" "[I", .methodLink RX1 52 yX1_owedTo, .instanceMethod yX1_owedTo, .selects RX1 yX1_owedTo yX1_owedTo, .initialized RX1, .code yX1_owedTo cX1_owedTo 4 (some .int), .fieldLink RX1 37 "TreeDebts$State" "loans" "I", .fieldLink RX1 18 "TreeDebts$State" "lenders" "[I", .fieldLink RX1 24 "TreeDebts$State" "owed" "[I"] ++ wsX30 ++ wsX10)
def wsX1_lends : List Cond := .code yX1_lends cX1_lends 3 (some .boolean) :: ([.fieldLink RX1 15 "TreeDebts$State" "fates" "[I", .methodLink RX1 65 yX1_isCross, .instanceMethod yX1_isCross, .selects RX1 yX1_isCross yX1_isCross, .initialized RX1, .code yX1_isCross cX1_isCross 5 (some .boolean), .fieldLink RX1 56 "TreeDebts$Told" "quarrels" "I", .fieldLink RX1 59 "TreeDebts$Told" "ones" "[I", .fieldLink RX1 62 "TreeDebts$Told" "others" "[I", .methodLink RX1 52 yX1_owedTo, .instanceMethod yX1_owedTo, .selects RX1 yX1_owedTo yX1_owedTo, .code yX1_owedTo cX1_owedTo 4 (some .int), .fieldLink RX1 37 "TreeDebts$State" "loans" "I", .fieldLink RX1 18 "TreeDebts$State" "lenders" "[I", .fieldLink RX1 24 "TreeDebts$State" "owed" "[I"] ++ wsX10 ++ wsX30)
def wsX3_grownOnce : List Cond := .code yX3_grownOnce cX3_grownOnce 6 (some .int) :: ([.fieldLink RX3 18 "TreeDebts$Told" "rates" "[I", .fieldLink RX3 9 "TreeDebts$Told" "kinds" "[I", .constant RX3 52 (1000000), .methodLink RX3 53 Lib.Math.min.name, .static Lib.Math.min.name, .initialized "java/lang/Math", .code Lib.Math.min.name Lib.Math.min.code 2 (some .int)] ++ wsX30)
def wsX3_grownIn : List Cond := .code yX3_grownIn cX3_grownIn 6 (some .int) :: ([.methodLink RX3 59 yX3_grownOnce, .instanceMethod yX3_grownOnce, .selects RX3 yX3_grownOnce yX3_grownOnce, .initialized RX3, .code yX3_grownOnce cX3_grownOnce 6 (some .int), .fieldLink RX3 18 "TreeDebts$Told" "rates" "[I", .fieldLink RX3 9 "TreeDebts$Told" "kinds" "[I", .constant RX3 52 (1000000), .methodLink RX3 53 Lib.Math.min.name, .static Lib.Math.min.name, .initialized "java/lang/Math", .code Lib.Math.min.name Lib.Math.min.code 2 (some .int)] ++ wsX30)
def wsX0_chooseFrom : List Cond := .code yX0_chooseFrom cX0_chooseFrom 8 none :: ([.constant RX0 35 (100000000), .fieldLink RX0 19 "TreeDebts$HutPlan" "costs" "[I", .fieldLink RX0 11 "TreeDebts$HutPlan" "least" "[[I", .fieldLink RX0 16 "TreeDebts$HutPlan" "choice" "[[I"] ++ wsX00)
def wsX0_owedTogether : List Cond := .code yX0_owedTogether cX0_owedTogether 1 (some .int) :: ([.fieldLink RX0 11 "TreeDebts$HutPlan" "least" "[[I", .fieldLink RX0 26 "TreeDebts$HutPlan" "hutBranches" "I"] ++ wsX00)
def wsX0_followChoices : List Cond := .code yX0_followChoices cX0_followChoices 4 none :: ([.fieldLink RX0 26 "TreeDebts$HutPlan" "hutBranches" "I", .fieldLink RX0 23 "TreeDebts$HutPlan" "from" "[I", .fieldLink RX0 16 "TreeDebts$HutPlan" "choice" "[[I"] ++ wsX00)
def wsX0_find_r1 : List Cond := [Cond.fieldLink RX0 26 "TreeDebts$HutPlan" "hutBranches" "I", Cond.fieldLink RX0 11 "TreeDebts$HutPlan" "least" "[[I", Cond.fieldLink RX0 30 "TreeDebts$Told" "trees" "I", Cond.constant RX0 35 (100000000), Cond.fieldLink RX0 42 "TreeDebts$State" "branches" "[I", Cond.methodLink RX0 45 Lib.Math.min.name, Cond.static Lib.Math.min.name, Cond.initialized "java/lang/Math", Cond.code Lib.Math.min.name Lib.Math.min.code 2 (some .int), Cond.fieldLink RX0 19 "TreeDebts$HutPlan" "costs" "[I", Cond.methodLink RX0 36 yX1_lends, Cond.instanceMethod yX1_lends, Cond.selects RX1 yX1_lends yX1_lends, Cond.initialized RX1, Cond.code yX1_lends cX1_lends 3 (some .boolean), Cond.fieldLink RX1 15 "TreeDebts$State" "fates" "[I", Cond.methodLink RX1 65 yX1_isCross, Cond.instanceMethod yX1_isCross, Cond.selects RX1 yX1_isCross yX1_isCross, Cond.code yX1_isCross cX1_isCross 5 (some .boolean), Cond.fieldLink RX1 56 "TreeDebts$Told" "quarrels" "I", Cond.fieldLink RX1 59 "TreeDebts$Told" "ones" "[I", Cond.fieldLink RX1 62 "TreeDebts$Told" "others" "[I", Cond.methodLink RX1 52 yX1_owedTo]
def wsX0_find_r2 : List Cond := [Cond.instanceMethod yX1_owedTo, Cond.selects RX1 yX1_owedTo yX1_owedTo, Cond.code yX1_owedTo cX1_owedTo 4 (some .int), Cond.fieldLink RX1 37 "TreeDebts$State" "loans" "I", Cond.fieldLink RX1 18 "TreeDebts$State" "lenders" "[I", Cond.fieldLink RX1 24 "TreeDebts$State" "owed" "[I", Cond.methodLink RX0 51 yX3_grownIn, Cond.instanceMethod yX3_grownIn, Cond.selects RX3 yX3_grownIn yX3_grownIn, Cond.initialized RX3, Cond.code yX3_grownIn cX3_grownIn 6 (some .int), Cond.methodLink RX3 59 yX3_grownOnce, Cond.instanceMethod yX3_grownOnce, Cond.selects RX3 yX3_grownOnce yX3_grownOnce, Cond.code yX3_grownOnce cX3_grownOnce 6 (some .int), Cond.fieldLink RX3 18 "TreeDebts$Told" "rates" "[I", Cond.fieldLink RX3 9 "TreeDebts$Told" "kinds" "[I", Cond.constant RX3 52 (1000000), Cond.methodLink RX3 53 Lib.Math.min.name, Cond.methodLink RX0 55 yX0_chooseFrom, Cond.instanceMethod yX0_chooseFrom, Cond.selects RX0 yX0_chooseFrom yX0_chooseFrom, Cond.initialized RX0, Cond.code yX0_chooseFrom cX0_chooseFrom 8 none]
def wsX0_find_r3 : List Cond := [Cond.fieldLink RX0 16 "TreeDebts$HutPlan" "choice" "[[I", Cond.methodLink RX0 59 yX0_owedTogether, Cond.instanceMethod yX0_owedTogether, Cond.selects RX0 yX0_owedTogether yX0_owedTogether, Cond.code yX0_owedTogether cX0_owedTogether 1 (some .int), Cond.methodLink RX0 63 yX0_followChoices, Cond.instanceMethod yX0_followChoices, Cond.selects RX0 yX0_followChoices yX0_followChoices, Cond.code yX0_followChoices cX0_followChoices 4 none, Cond.fieldLink RX0 23 "TreeDebts$HutPlan" "from" "[I"]
def wsX0_find : List Cond := .code yX0_find cX0_find 8 (some .boolean) :: ((wsX0_find_r1 ++ (wsX0_find_r2 ++ wsX0_find_r3)) ++ wsX00 ++ wsX30 ++ wsX10)
def wsX1_init : List Cond := .code yX1_init cX1_init 1 none :: ([.methodLink RX1 3 objectInit, .instanceMethod objectInit, .code objectInit ⟨#[0xb1]⟩ 1 none, .arrayClass .int, .fieldLink RX1 9 "TreeDebts$State" "branches" "[I", .fieldLink RX1 15 "TreeDebts$State" "fates" "[I", .fieldLink RX1 18 "TreeDebts$State" "lenders" "[I", .fieldLink RX1 21 "TreeDebts$State" "lent" "[I", .fieldLink RX1 24 "TreeDebts$State" "owed" "[I", .fieldLink RX1 27 "TreeDebts$State" "dues" "[I", .fieldLink RX1 30 "TreeDebts$State" "failed" "[I"] ++ wsX10)
def wsX1_begin : List Cond := .code yX1_begin cX1_begin 3 none :: ([.fieldLink RX1 33 "TreeDebts$State" "day" "I", .fieldLink RX1 37 "TreeDebts$State" "loans" "I", .fieldLink RX1 40 "TreeDebts$State" "failures" "I", .fieldLink RX1 9 "TreeDebts$State" "branches" "[I", .fieldLink RX1 43 "TreeDebts$Told" "branches" "[I", .fieldLink RX1 15 "TreeDebts$State" "fates" "[I"] ++ wsX10 ++ wsX30)
def wsX1_copyFrom : List Cond := .code yX1_copyFrom cX1_copyFrom 2 none :: ([.fieldLink RX1 33 "TreeDebts$State" "day" "I", .fieldLink RX1 9 "TreeDebts$State" "branches" "[I", .methodLink RX1 46 arraycopyName, .native arraycopyName, .static arraycopyName, .initialized "java/lang/System", .fieldLink RX1 15 "TreeDebts$State" "fates" "[I", .fieldLink RX1 37 "TreeDebts$State" "loans" "I", .fieldLink RX1 18 "TreeDebts$State" "lenders" "[I", .fieldLink RX1 21 "TreeDebts$State" "lent" "[I", .fieldLink RX1 24 "TreeDebts$State" "owed" "[I", .fieldLink RX1 27 "TreeDebts$State" "dues" "[I", .fieldLink RX1 30 "TreeDebts$State" "failed" "[I", .fieldLink RX1 40 "TreeDebts$State" "failures" "I"] ++ wsX10)
def wsX1_owedInAll : List Cond := .code yX1_owedInAll cX1_owedInAll 3 (some .int) :: ([.fieldLink RX1 37 "TreeDebts$State" "loans" "I", .fieldLink RX1 24 "TreeDebts$State" "owed" "[I"] ++ wsX10)
def wsX3_dueOf : List Cond := .code yX3_dueOf cX3_dueOf 3 (some .int) :: ([.fieldLink RX3 9 "TreeDebts$Told" "kinds" "[I", .fieldLink RX3 21 "TreeDebts$Told" "terms" "[I"] ++ wsX30)
def wsX1_lend : List Cond := .code yX1_lend cX1_lend 5 (some .int) :: ([.fieldLink RX1 37 "TreeDebts$State" "loans" "I", .fieldLink RX1 18 "TreeDebts$State" "lenders" "[I", .fieldLink RX1 21 "TreeDebts$State" "lent" "[I", .fieldLink RX1 24 "TreeDebts$State" "owed" "[I", .fieldLink RX1 27 "TreeDebts$State" "dues" "[I", .fieldLink RX1 33 "TreeDebts$State" "day" "I", .fieldLink RX1 30 "TreeDebts$State" "failed" "[I", .fieldLink RX1 9 "TreeDebts$State" "branches" "[I", .methodLink RX1 69 yX3_dueOf, .instanceMethod yX3_dueOf, .selects RX3 yX3_dueOf yX3_dueOf, .initialized RX3, .code yX3_dueOf cX3_dueOf 3 (some .int), .fieldLink RX3 9 "TreeDebts$Told" "kinds" "[I", .fieldLink RX3 21 "TreeDebts$Told" "terms" "[I"] ++ wsX10 ++ wsX30)
def wsX1_addBranches : List Cond := .code yX1_addBranches cX1_addBranches 3 none :: ([.fieldLink RX1 9 "TreeDebts$State" "branches" "[I", .methodLink RX1 73 Lib.Math.min.name, .static Lib.Math.min.name, .initialized "java/lang/Math", .code Lib.Math.min.name Lib.Math.min.code 2 (some .int)] ++ wsX10)
def wsX1_growLoans : List Cond := .code yX1_growLoans cX1_growLoans 3 none :: ([.fieldLink RX1 37 "TreeDebts$State" "loans" "I", .fieldLink RX1 24 "TreeDebts$State" "owed" "[I", .fieldLink RX1 18 "TreeDebts$State" "lenders" "[I", .fieldLink RX1 21 "TreeDebts$State" "lent" "[I", .methodLink RX1 89 yX3_grownOnce, .instanceMethod yX3_grownOnce, .selects RX3 yX3_grownOnce yX3_grownOnce, .initialized RX3, .code yX3_grownOnce cX3_grownOnce 6 (some .int), .fieldLink RX3 18 "TreeDebts$Told" "rates" "[I", .fieldLink RX3 9 "TreeDebts$Told" "kinds" "[I", .constant RX3 52 (1000000), .methodLink RX3 53 Lib.Math.min.name, .static Lib.Math.min.name, .initialized "java/lang/Math", .code Lib.Math.min.name Lib.Math.min.code 2 (some .int)] ++ wsX10 ++ wsX30)
def wsX1_firstDue : List Cond := .code yX1_firstDue cX1_firstDue 3 (some .int) :: ([.fieldLink RX1 37 "TreeDebts$State" "loans" "I", .fieldLink RX1 27 "TreeDebts$State" "dues" "[I"] ++ wsX10)
def wsX1_removeLoan : List Cond := .code yX1_removeLoan cX1_removeLoan 3 none :: ([.fieldLink RX1 37 "TreeDebts$State" "loans" "I", .fieldLink RX1 18 "TreeDebts$State" "lenders" "[I", .fieldLink RX1 21 "TreeDebts$State" "lent" "[I", .fieldLink RX1 24 "TreeDebts$State" "owed" "[I", .fieldLink RX1 27 "TreeDebts$State" "dues" "[I", .fieldLink RX1 30 "TreeDebts$State" "failed" "[I"] ++ wsX10)
def wsX1_workOff : List Cond := .code yX1_workOff cX1_workOff 6 none :: ([.fieldLink RX1 37 "TreeDebts$State" "loans" "I", .fieldLink RX1 24 "TreeDebts$State" "owed" "[I", .methodLink RX1 73 Lib.Math.min.name, .static Lib.Math.min.name, .initialized "java/lang/Math", .code Lib.Math.min.name Lib.Math.min.code 2 (some .int), .fieldLink RX1 18 "TreeDebts$State" "lenders" "[I", .fieldLink RX1 21 "TreeDebts$State" "lent" "[I", .methodLink RX1 93 yX1_firstDue, .instanceMethod yX1_firstDue, .selects RX1 yX1_firstDue yX1_firstDue, .initialized RX1, .code yX1_firstDue cX1_firstDue 3 (some .int), .fieldLink RX1 27 "TreeDebts$State" "dues" "[I", .methodLink RX1 97 yX1_addBranches, .instanceMethod yX1_addBranches, .selects RX1 yX1_addBranches yX1_addBranches, .code yX1_addBranches cX1_addBranches 3 none, .fieldLink RX1 9 "TreeDebts$State" "branches" "[I", .methodLink RX1 101 yX1_removeLoan, .instanceMethod yX1_removeLoan, .selects RX1 yX1_removeLoan yX1_removeLoan, .code yX1_removeLoan cX1_removeLoan 3 none, .fieldLink RX1 30 "TreeDebts$State" "failed" "[I"] ++ wsX10)
def wsX1_failDueLoans : List Cond := .code yX1_failDueLoans cX1_failDueLoans 2 none :: ([.fieldLink RX1 37 "TreeDebts$State" "loans" "I", .fieldLink RX1 27 "TreeDebts$State" "dues" "[I", .fieldLink RX1 33 "TreeDebts$State" "day" "I", .fieldLink RX1 30 "TreeDebts$State" "failed" "[I", .fieldLink RX1 40 "TreeDebts$State" "failures" "I"] ++ wsX10)
def wsX1_passDays_r1 : List Cond := [Cond.fieldLink RX1 33 "TreeDebts$State" "day" "I", Cond.methodLink RX1 78 yX1_growLoans, Cond.instanceMethod yX1_growLoans, Cond.selects RX1 yX1_growLoans yX1_growLoans, Cond.initialized RX1, Cond.code yX1_growLoans cX1_growLoans 3 none, Cond.fieldLink RX1 37 "TreeDebts$State" "loans" "I", Cond.fieldLink RX1 24 "TreeDebts$State" "owed" "[I", Cond.fieldLink RX1 18 "TreeDebts$State" "lenders" "[I", Cond.fieldLink RX1 21 "TreeDebts$State" "lent" "[I", Cond.methodLink RX1 89 yX3_grownOnce, Cond.instanceMethod yX3_grownOnce, Cond.selects RX3 yX3_grownOnce yX3_grownOnce, Cond.initialized RX3, Cond.code yX3_grownOnce cX3_grownOnce 6 (some .int), Cond.fieldLink RX3 18 "TreeDebts$Told" "rates" "[I", Cond.fieldLink RX3 9 "TreeDebts$Told" "kinds" "[I", Cond.constant RX3 52 (1000000), Cond.methodLink RX3 53 Lib.Math.min.name, Cond.static Lib.Math.min.name, Cond.initialized "java/lang/Math", Cond.code Lib.Math.min.name Lib.Math.min.code 2 (some .int), Cond.methodLink RX1 82 yX1_workOff, Cond.instanceMethod yX1_workOff]
def wsX1_passDays_r2 : List Cond := [Cond.selects RX1 yX1_workOff yX1_workOff, Cond.code yX1_workOff cX1_workOff 6 none, Cond.methodLink RX1 73 Lib.Math.min.name, Cond.methodLink RX1 93 yX1_firstDue, Cond.instanceMethod yX1_firstDue, Cond.selects RX1 yX1_firstDue yX1_firstDue, Cond.code yX1_firstDue cX1_firstDue 3 (some .int), Cond.fieldLink RX1 27 "TreeDebts$State" "dues" "[I", Cond.methodLink RX1 97 yX1_addBranches, Cond.instanceMethod yX1_addBranches, Cond.selects RX1 yX1_addBranches yX1_addBranches, Cond.code yX1_addBranches cX1_addBranches 3 none, Cond.fieldLink RX1 9 "TreeDebts$State" "branches" "[I", Cond.methodLink RX1 101 yX1_removeLoan, Cond.instanceMethod yX1_removeLoan, Cond.selects RX1 yX1_removeLoan yX1_removeLoan, Cond.code yX1_removeLoan cX1_removeLoan 3 none, Cond.fieldLink RX1 30 "TreeDebts$State" "failed" "[I", Cond.methodLink RX1 86 yX1_failDueLoans, Cond.instanceMethod yX1_failDueLoans, Cond.selects RX1 yX1_failDueLoans yX1_failDueLoans, Cond.code yX1_failDueLoans cX1_failDueLoans 2 none, Cond.fieldLink RX1 40 "TreeDebts$State" "failures" "I"]
def wsX1_passDays : List Cond := .code yX1_passDays cX1_passDays 5 none :: ((wsX1_passDays_r1 ++ wsX1_passDays_r2) ++ wsX10 ++ wsX30)
def wsX1_removeLoansOf : List Cond := .code yX1_removeLoansOf cX1_removeLoansOf 3 none :: ([.fieldLink RX1 37 "TreeDebts$State" "loans" "I", .fieldLink RX1 18 "TreeDebts$State" "lenders" "[I", .methodLink RX1 101 yX1_removeLoan, .instanceMethod yX1_removeLoan, .selects RX1 yX1_removeLoan yX1_removeLoan, .initialized RX1, .code yX1_removeLoan cX1_removeLoan 3 none, .fieldLink RX1 21 "TreeDebts$State" "lent" "[I", .fieldLink RX1 24 "TreeDebts$State" "owed" "[I", .fieldLink RX1 27 "TreeDebts$State" "dues" "[I", .fieldLink RX1 30 "TreeDebts$State" "failed" "[I"] ++ wsX10)
def wsX1_burn : List Cond := .code yX1_burn cX1_burn 5 (some .int) :: ([.fieldLink RX1 104 "TreeDebts$Told" "trees" "I", .fieldLink RX1 107 "TreeDebts$Told" "parts" "[I", .fieldLink RX1 15 "TreeDebts$State" "fates" "[I", .methodLink RX1 110 yX1_removeLoansOf, .instanceMethod yX1_removeLoansOf, .selects RX1 yX1_removeLoansOf yX1_removeLoansOf, .initialized RX1, .code yX1_removeLoansOf cX1_removeLoansOf 3 none, .fieldLink RX1 37 "TreeDebts$State" "loans" "I", .fieldLink RX1 18 "TreeDebts$State" "lenders" "[I", .methodLink RX1 101 yX1_removeLoan, .instanceMethod yX1_removeLoan, .selects RX1 yX1_removeLoan yX1_removeLoan, .code yX1_removeLoan cX1_removeLoan 3 none, .fieldLink RX1 21 "TreeDebts$State" "lent" "[I", .fieldLink RX1 24 "TreeDebts$State" "owed" "[I", .fieldLink RX1 27 "TreeDebts$State" "dues" "[I", .fieldLink RX1 30 "TreeDebts$State" "failed" "[I"] ++ wsX30 ++ wsX10)
def wsX1_handOver : List Cond := .code yX1_handOver cX1_handOver 5 (some .int) :: ([.fieldLink RX1 37 "TreeDebts$State" "loans" "I", .fieldLink RX1 18 "TreeDebts$State" "lenders" "[I", .fieldLink RX1 9 "TreeDebts$State" "branches" "[I", .fieldLink RX1 15 "TreeDebts$State" "fates" "[I", .methodLink RX1 97 yX1_addBranches, .instanceMethod yX1_addBranches, .selects RX1 yX1_addBranches yX1_addBranches, .initialized RX1, .code yX1_addBranches cX1_addBranches 3 none, .methodLink RX1 73 Lib.Math.min.name, .static Lib.Math.min.name, .initialized "java/lang/Math", .code Lib.Math.min.name Lib.Math.min.code 2 (some .int)] ++ wsX10)
def wsJ6_bitCount_0f7a4 : List Cond := .code yJ6_bitCount_0f7a4 cJ6_bitCount_0f7a4 1 (some .int) :: ([.constant RJ6 265 (1431655765), .constant RJ6 266 (858993459), .constant RJ6 267 (252645135)])
def wsX1_partsWithLoans : List Cond := .code yX1_partsWithLoans cX1_partsWithLoans 4 (some .int) :: ([.fieldLink RX1 37 "TreeDebts$State" "loans" "I", .fieldLink RX1 107 "TreeDebts$Told" "parts" "[I", .fieldLink RX1 18 "TreeDebts$State" "lenders" "[I", .methodLink RX1 113 yJ6_bitCount_0f7a4, .static yJ6_bitCount_0f7a4, .initialized RJ6, .code yJ6_bitCount_0f7a4 cJ6_bitCount_0f7a4 1 (some .int), .constant RJ6 265 (1431655765), .constant RJ6 266 (858993459), .constant RJ6 267 (252645135)] ++ wsX10 ++ wsX30)
def wsX3_init : List Cond := .code yX3_init cX3_init 1 none :: ([.methodLink RX3 3 objectInit, .instanceMethod objectInit, .code objectInit ⟨#[0xb1]⟩ 1 none, .arrayClass .int, .fieldLink RX3 9 "TreeDebts$Told" "kinds" "[I", .fieldLink RX3 15 "TreeDebts$Told" "branches" "[I", .fieldLink RX3 18 "TreeDebts$Told" "rates" "[I", .fieldLink RX3 21 "TreeDebts$Told" "terms" "[I", .fieldLink RX3 24 "TreeDebts$Told" "parts" "[I", .fieldLink RX3 27 "TreeDebts$Told" "ones" "[I", .fieldLink RX3 30 "TreeDebts$Told" "others" "[I", .fieldLink RX3 33 "TreeDebts$Told" "hands" "I"] ++ wsX30)
def wsX2_init : List Cond := .code yX2_init cX2_init 1 none :: ([.methodLink RX2 3 objectInit, .instanceMethod objectInit, .code objectInit ⟨#[0xb1]⟩ 1 none, .arrayClass .int, .fieldLink RX2 9 "TreeDebts$Text" "bytes" "[I", .classLink RX2 15 RX3, .instantiable RX3 10, .initialized RX3, .fieldLink RX2 18 "TreeDebts$Text" "draft" "LTreeDebts$Told;", .instanceMethod yX3_init, .code yX3_init cX3_init 1 none, .methodLink RX3 3 objectInit, .fieldLink RX3 9 "TreeDebts$Told" "kinds" "[I", .fieldLink RX3 15 "TreeDebts$Told" "branches" "[I", .fieldLink RX3 18 "TreeDebts$Told" "rates" "[I", .fieldLink RX3 21 "TreeDebts$Told" "terms" "[I", .fieldLink RX3 24 "TreeDebts$Told" "parts" "[I", .fieldLink RX3 27 "TreeDebts$Told" "ones" "[I", .fieldLink RX3 30 "TreeDebts$Told" "others" "[I", .fieldLink RX3 33 "TreeDebts$Told" "hands" "I"] ++ wsX20 ++ wsX30)
def wsX2_add : List Cond := .code yX2_add cX2_add 2 none :: ([.fieldLink RX2 22 "TreeDebts$Text" "length" "I", .fieldLink RX2 9 "TreeDebts$Text" "bytes" "[I"] ++ wsX20)
def wsX3_copyFrom : List Cond := .code yX3_copyFrom cX3_copyFrom 2 none :: ([.fieldLink RX3 37 "TreeDebts$Told" "trees" "I", .fieldLink RX3 9 "TreeDebts$Told" "kinds" "[I", .methodLink RX3 43 arraycopyName, .native arraycopyName, .static arraycopyName, .initialized "java/lang/System", .fieldLink RX3 15 "TreeDebts$Told" "branches" "[I", .fieldLink RX3 18 "TreeDebts$Told" "rates" "[I", .fieldLink RX3 21 "TreeDebts$Told" "terms" "[I", .fieldLink RX3 24 "TreeDebts$Told" "parts" "[I", .fieldLink RX3 40 "TreeDebts$Told" "quarrels" "I", .fieldLink RX3 27 "TreeDebts$Told" "ones" "[I", .fieldLink RX3 30 "TreeDebts$Told" "others" "[I", .fieldLink RX3 33 "TreeDebts$Told" "hands" "I"] ++ wsX30)
def wsX2_isLetter : List Cond := .code yX2_isLetter cX2_isLetter 1 (some .boolean) :: ([])
def wsX2_isDigit : List Cond := .code yX2_isDigit cX2_isDigit 1 (some .boolean) :: ([])
def wsX2_readDigits : List Cond := .code yX2_readDigits cX2_readDigits 1 none :: ([.fieldLink RX2 108 "TreeDebts$Text" "value" "I", .fieldLink RX2 33 "TreeDebts$Text" "end" "I", .fieldLink RX2 22 "TreeDebts$Text" "length" "I", .fieldLink RX2 9 "TreeDebts$Text" "bytes" "[I", .methodLink RX2 120 yX2_isDigit, .static yX2_isDigit, .initialized RX2, .code yX2_isDigit cX2_isDigit 1 (some .boolean)] ++ wsX20)
def wsX2_nextToken : List Cond := .code yX2_nextToken cX2_nextToken 1 none :: ([.fieldLink RX2 33 "TreeDebts$Text" "end" "I", .fieldLink RX2 43 "TreeDebts$Text" "start" "I", .fieldLink RX2 22 "TreeDebts$Text" "length" "I", .fieldLink RX2 9 "TreeDebts$Text" "bytes" "[I", .fieldLink RX2 46 "TreeDebts$Text" "token" "I", .methodLink RX2 117 yX2_isLetter, .static yX2_isLetter, .initialized RX2, .code yX2_isLetter cX2_isLetter 1 (some .boolean), .methodLink RX2 120 yX2_isDigit, .static yX2_isDigit, .code yX2_isDigit cX2_isDigit 1 (some .boolean), .methodLink RX2 123 yX2_readDigits, .instanceMethod yX2_readDigits, .selects RX2 yX2_readDigits yX2_readDigits, .code yX2_readDigits cX2_readDigits 1 none, .fieldLink RX2 108 "TreeDebts$Text" "value" "I"] ++ wsX20)
def wsJ0_coder_7d493 : List Cond := .code yJ0_coder_7d493 cJ0_coder_7d493 1 (some .byte) :: ([.fieldLink RJ0 38 "java/lang/String" "COMPACT_STRINGS" "Z", .fieldLink RJ0 15 "java/lang/String" "coder" "B"])
def wsJ0_length_8abf5 : List Cond := .code yJ0_length_8abf5 cJ0_length_8abf5 1 (some .int) :: ([.fieldLink RJ0 9 "java/lang/String" "value" "[B", .methodLink RJ0 335 yJ0_coder_7d493, .instanceMethod yJ0_coder_7d493, .selects RJ0 yJ0_coder_7d493 yJ0_coder_7d493, .initialized RJ0, .code yJ0_coder_7d493 cJ0_coder_7d493 1 (some .byte), .fieldLink RJ0 38 "java/lang/String" "COMPACT_STRINGS" "Z", .fieldLink RJ0 15 "java/lang/String" "coder" "B"])
def wsJ0_isLatin1_aae02 : List Cond := .code yJ0_isLatin1_aae02 cJ0_isLatin1_aae02 1 (some .boolean) :: ([.fieldLink RJ0 38 "java/lang/String" "COMPACT_STRINGS" "Z", .fieldLink RJ0 15 "java/lang/String" "coder" "B"])
def wsJ3_checkIndex_8e157 : List Cond := .code yJ3_checkIndex_8e157 cJ3_checkIndex_8e157 3 (some .int) :: ([])
def wsJ0_checkIndex_df160 : List Cond := .code yJ0_checkIndex_df160 cJ0_checkIndex_df160 2 none :: ([.fieldLink RJ0 1053 "jdk/internal/util/Preconditions" "SIOOBE_FORMATTER" "Ljava/util/function/BiFunction;", .methodLink RJ0 1059 yJ3_checkIndex_8e157, .static yJ3_checkIndex_8e157, .initialized RJ3, .code yJ3_checkIndex_8e157 cJ3_checkIndex_8e157 3 (some .int)])
def wsJ1_charAt_3b067 : List Cond := .code yJ1_charAt_3b067 cJ1_charAt_3b067 2 (some .char) :: ([.methodLink RJ1 9 yJ0_checkIndex_df160, .static yJ0_checkIndex_df160, .initialized RJ0, .code yJ0_checkIndex_df160 cJ0_checkIndex_df160 2 none, .fieldLink RJ0 1053 "jdk/internal/util/Preconditions" "SIOOBE_FORMATTER" "Ljava/util/function/BiFunction;", .methodLink RJ0 1059 yJ3_checkIndex_8e157, .static yJ3_checkIndex_8e157, .initialized RJ3, .code yJ3_checkIndex_8e157 cJ3_checkIndex_8e157 3 (some .int)])
def wsJ2_length_9d52b : List Cond := .code yJ2_length_9d52b cJ2_length_9d52b 1 (some .int) :: ([])
def wsJ2_checkIndex_2214a : List Cond := .code yJ2_checkIndex_2214a cJ2_checkIndex_2214a 2 none :: ([.methodLink RJ2 48 yJ2_length_9d52b, .static yJ2_length_9d52b, .initialized RJ2, .code yJ2_length_9d52b cJ2_length_9d52b 1 (some .int), .methodLink RJ2 414 yJ0_checkIndex_df160, .static yJ0_checkIndex_df160, .initialized RJ0, .code yJ0_checkIndex_df160 cJ0_checkIndex_df160 2 none, .fieldLink RJ0 1053 "jdk/internal/util/Preconditions" "SIOOBE_FORMATTER" "Ljava/util/function/BiFunction;", .methodLink RJ0 1059 yJ3_checkIndex_8e157, .static yJ3_checkIndex_8e157, .initialized RJ3, .code yJ3_checkIndex_8e157 cJ3_checkIndex_8e157 3 (some .int)])
def wsJ2_getChar_3b067 : List Cond := .code yJ2_getChar_3b067 cJ2_getChar_3b067 2 (some .char) :: ([.fieldLink RJ2 44 "java/lang/StringUTF16" "$assertionsDisabled" "Z", .fieldLink RJ2 59 "java/lang/StringUTF16" "HI_BYTE_SHIFT" "I", .fieldLink RJ2 63 "java/lang/StringUTF16" "LO_BYTE_SHIFT" "I", .methodLink RJ2 48 yJ2_length_9d52b, .static yJ2_length_9d52b, .initialized RJ2, .code yJ2_length_9d52b cJ2_length_9d52b 1 (some .int)])
def wsJ2_charAt_3b067 : List Cond := .code yJ2_charAt_3b067 cJ2_charAt_3b067 2 (some .char) :: ([.methodLink RJ2 67 yJ2_checkIndex_2214a, .static yJ2_checkIndex_2214a, .initialized RJ2, .code yJ2_checkIndex_2214a cJ2_checkIndex_2214a 2 none, .methodLink RJ2 48 yJ2_length_9d52b, .static yJ2_length_9d52b, .code yJ2_length_9d52b cJ2_length_9d52b 1 (some .int), .methodLink RJ2 414 yJ0_checkIndex_df160, .static yJ0_checkIndex_df160, .initialized RJ0, .code yJ0_checkIndex_df160 cJ0_checkIndex_df160 2 none, .fieldLink RJ0 1053 "jdk/internal/util/Preconditions" "SIOOBE_FORMATTER" "Ljava/util/function/BiFunction;", .methodLink RJ0 1059 yJ3_checkIndex_8e157, .static yJ3_checkIndex_8e157, .initialized RJ3, .code yJ3_checkIndex_8e157 cJ3_checkIndex_8e157 3 (some .int), .methodLink RJ2 71 yJ2_getChar_3b067, .static yJ2_getChar_3b067, .code yJ2_getChar_3b067 cJ2_getChar_3b067 2 (some .char), .fieldLink RJ2 44 "java/lang/StringUTF16" "$assertionsDisabled" "Z", .fieldLink RJ2 59 "java/lang/StringUTF16" "HI_BYTE_SHIFT" "I", .fieldLink RJ2 63 "java/lang/StringUTF16" "LO_BYTE_SHIFT" "I"])
def wsJ0_charAt_5068e_r1 : List Cond := [Cond.fieldLink RJ0 9 "java/lang/String" "value" "[B", Cond.methodLink RJ0 492 yJ0_isLatin1_aae02, Cond.instanceMethod yJ0_isLatin1_aae02, Cond.selects RJ0 yJ0_isLatin1_aae02 yJ0_isLatin1_aae02, Cond.initialized RJ0, Cond.code yJ0_isLatin1_aae02 cJ0_isLatin1_aae02 1 (some .boolean), Cond.fieldLink RJ0 38 "java/lang/String" "COMPACT_STRINGS" "Z", Cond.fieldLink RJ0 15 "java/lang/String" "coder" "B", Cond.methodLink RJ0 495 yJ1_charAt_3b067, Cond.static yJ1_charAt_3b067, Cond.initialized RJ1, Cond.code yJ1_charAt_3b067 cJ1_charAt_3b067 2 (some .char), Cond.methodLink RJ1 9 yJ0_checkIndex_df160, Cond.static yJ0_checkIndex_df160, Cond.code yJ0_checkIndex_df160 cJ0_checkIndex_df160 2 none, Cond.fieldLink RJ0 1053 "jdk/internal/util/Preconditions" "SIOOBE_FORMATTER" "Ljava/util/function/BiFunction;", Cond.methodLink RJ0 1059 yJ3_checkIndex_8e157, Cond.static yJ3_checkIndex_8e157, Cond.initialized RJ3, Cond.code yJ3_checkIndex_8e157 cJ3_checkIndex_8e157 3 (some .int), Cond.methodLink RJ0 498 yJ2_charAt_3b067, Cond.static yJ2_charAt_3b067, Cond.initialized RJ2, Cond.code yJ2_charAt_3b067 cJ2_charAt_3b067 2 (some .char)]
def wsJ0_charAt_5068e_r2 : List Cond := [Cond.methodLink RJ2 67 yJ2_checkIndex_2214a, Cond.static yJ2_checkIndex_2214a, Cond.code yJ2_checkIndex_2214a cJ2_checkIndex_2214a 2 none, Cond.methodLink RJ2 48 yJ2_length_9d52b, Cond.static yJ2_length_9d52b, Cond.code yJ2_length_9d52b cJ2_length_9d52b 1 (some .int), Cond.methodLink RJ2 414 yJ0_checkIndex_df160, Cond.methodLink RJ2 71 yJ2_getChar_3b067, Cond.static yJ2_getChar_3b067, Cond.code yJ2_getChar_3b067 cJ2_getChar_3b067 2 (some .char), Cond.fieldLink RJ2 44 "java/lang/StringUTF16" "$assertionsDisabled" "Z", Cond.fieldLink RJ2 59 "java/lang/StringUTF16" "HI_BYTE_SHIFT" "I", Cond.fieldLink RJ2 63 "java/lang/StringUTF16" "LO_BYTE_SHIFT" "I"]
def wsJ0_charAt_5068e : List Cond := .code yJ0_charAt_5068e cJ0_charAt_5068e 2 (some .char) :: ((wsJ0_charAt_5068e_r1 ++ wsJ0_charAt_5068e_r2))
def wsX2_isWord_r1 : List Cond := [Cond.fieldLink RX2 33 "TreeDebts$Text" "end" "I", Cond.fieldLink RX2 43 "TreeDebts$Text" "start" "I", Cond.fieldLink RX2 9 "TreeDebts$Text" "bytes" "[I", Cond.methodLink RX2 126 yJ0_length_8abf5, Cond.instanceMethod yJ0_length_8abf5, Cond.selects RJ0 yJ0_length_8abf5 yJ0_length_8abf5, Cond.initialized RJ0, Cond.code yJ0_length_8abf5 cJ0_length_8abf5 1 (some .int), Cond.fieldLink RJ0 9 "java/lang/String" "value" "[B", Cond.methodLink RJ0 335 yJ0_coder_7d493, Cond.instanceMethod yJ0_coder_7d493, Cond.selects RJ0 yJ0_coder_7d493 yJ0_coder_7d493, Cond.code yJ0_coder_7d493 cJ0_coder_7d493 1 (some .byte), Cond.fieldLink RJ0 38 "java/lang/String" "COMPACT_STRINGS" "Z", Cond.fieldLink RJ0 15 "java/lang/String" "coder" "B", Cond.methodLink RX2 131 yJ0_charAt_5068e, Cond.instanceMethod yJ0_charAt_5068e, Cond.selects RJ0 yJ0_charAt_5068e yJ0_charAt_5068e, Cond.code yJ0_charAt_5068e cJ0_charAt_5068e 2 (some .char), Cond.methodLink RJ0 492 yJ0_isLatin1_aae02, Cond.instanceMethod yJ0_isLatin1_aae02, Cond.selects RJ0 yJ0_isLatin1_aae02 yJ0_isLatin1_aae02, Cond.code yJ0_isLatin1_aae02 cJ0_isLatin1_aae02 1 (some .boolean), Cond.methodLink RJ0 495 yJ1_charAt_3b067]
def wsX2_isWord_r2 : List Cond := [Cond.static yJ1_charAt_3b067, Cond.initialized RJ1, Cond.code yJ1_charAt_3b067 cJ1_charAt_3b067 2 (some .char), Cond.methodLink RJ1 9 yJ0_checkIndex_df160, Cond.static yJ0_checkIndex_df160, Cond.code yJ0_checkIndex_df160 cJ0_checkIndex_df160 2 none, Cond.fieldLink RJ0 1053 "jdk/internal/util/Preconditions" "SIOOBE_FORMATTER" "Ljava/util/function/BiFunction;", Cond.methodLink RJ0 1059 yJ3_checkIndex_8e157, Cond.static yJ3_checkIndex_8e157, Cond.initialized RJ3, Cond.code yJ3_checkIndex_8e157 cJ3_checkIndex_8e157 3 (some .int), Cond.methodLink RJ0 498 yJ2_charAt_3b067, Cond.static yJ2_charAt_3b067, Cond.initialized RJ2, Cond.code yJ2_charAt_3b067 cJ2_charAt_3b067 2 (some .char), Cond.methodLink RJ2 67 yJ2_checkIndex_2214a, Cond.static yJ2_checkIndex_2214a, Cond.code yJ2_checkIndex_2214a cJ2_checkIndex_2214a 2 none, Cond.methodLink RJ2 48 yJ2_length_9d52b, Cond.static yJ2_length_9d52b, Cond.code yJ2_length_9d52b cJ2_length_9d52b 1 (some .int), Cond.methodLink RJ2 414 yJ0_checkIndex_df160, Cond.methodLink RJ2 71 yJ2_getChar_3b067, Cond.static yJ2_getChar_3b067]
def wsX2_isWord_r3 : List Cond := [Cond.code yJ2_getChar_3b067 cJ2_getChar_3b067 2 (some .char), Cond.fieldLink RJ2 44 "java/lang/StringUTF16" "$assertionsDisabled" "Z", Cond.fieldLink RJ2 59 "java/lang/StringUTF16" "HI_BYTE_SHIFT" "I", Cond.fieldLink RJ2 63 "java/lang/StringUTF16" "LO_BYTE_SHIFT" "I"]
def wsX2_isWord : List Cond := .code yX2_isWord cX2_isWord 3 (some .boolean) :: ((wsX2_isWord_r1 ++ (wsX2_isWord_r2 ++ wsX2_isWord_r3)) ++ wsX20)
def wsX3_forget : List Cond := .code yX3_forget cX3_forget 1 none :: ([.fieldLink RX3 37 "TreeDebts$Told" "trees" "I", .fieldLink RX3 40 "TreeDebts$Told" "quarrels" "I", .fieldLink RX3 33 "TreeDebts$Told" "hands" "I"] ++ wsX30)
def wsX2_readWood_r1 : List Cond := [Cond.fieldLink RX2 18 "TreeDebts$Text" "draft" "LTreeDebts$Told;", Cond.methodLink RX2 88 yX3_forget, Cond.instanceMethod yX3_forget, Cond.selects RX3 yX3_forget yX3_forget, Cond.initialized RX3, Cond.code yX3_forget cX3_forget 1 none, Cond.fieldLink RX3 37 "TreeDebts$Told" "trees" "I", Cond.fieldLink RX3 40 "TreeDebts$Told" "quarrels" "I", Cond.fieldLink RX3 33 "TreeDebts$Told" "hands" "I", Cond.methodLink RX2 36 yX2_nextToken, Cond.instanceMethod yX2_nextToken, Cond.selects RX2 yX2_nextToken yX2_nextToken, Cond.initialized RX2, Cond.code yX2_nextToken cX2_nextToken 1 none, Cond.fieldLink RX2 33 "TreeDebts$Text" "end" "I", Cond.fieldLink RX2 43 "TreeDebts$Text" "start" "I", Cond.fieldLink RX2 22 "TreeDebts$Text" "length" "I", Cond.fieldLink RX2 9 "TreeDebts$Text" "bytes" "[I", Cond.fieldLink RX2 46 "TreeDebts$Text" "token" "I", Cond.methodLink RX2 117 yX2_isLetter, Cond.static yX2_isLetter, Cond.code yX2_isLetter cX2_isLetter 1 (some .boolean), Cond.methodLink RX2 120 yX2_isDigit, Cond.static yX2_isDigit]
def wsX2_readWood_r2 : List Cond := [Cond.code yX2_isDigit cX2_isDigit 1 (some .boolean), Cond.methodLink RX2 123 yX2_readDigits, Cond.instanceMethod yX2_readDigits, Cond.selects RX2 yX2_readDigits yX2_readDigits, Cond.code yX2_readDigits cX2_readDigits 1 none, Cond.fieldLink RX2 108 "TreeDebts$Text" "value" "I"]
def wsX2_readWood : List Cond := .code yX2_readWood cX2_readWood 1 (some .boolean) :: ((wsX2_readWood_r1 ++ wsX2_readWood_r2) ++ wsX20 ++ wsX30)
def wsX2_readNumber : List Cond := .code yX2_readNumber cX2_readNumber 4 (some .int) :: ([.fieldLink RX2 46 "TreeDebts$Text" "token" "I", .fieldLink RX2 33 "TreeDebts$Text" "end" "I", .fieldLink RX2 43 "TreeDebts$Text" "start" "I", .fieldLink RX2 108 "TreeDebts$Text" "value" "I", .methodLink RX2 36 yX2_nextToken, .instanceMethod yX2_nextToken, .selects RX2 yX2_nextToken yX2_nextToken, .initialized RX2, .code yX2_nextToken cX2_nextToken 1 none, .fieldLink RX2 22 "TreeDebts$Text" "length" "I", .fieldLink RX2 9 "TreeDebts$Text" "bytes" "[I", .methodLink RX2 117 yX2_isLetter, .static yX2_isLetter, .code yX2_isLetter cX2_isLetter 1 (some .boolean), .methodLink RX2 120 yX2_isDigit, .static yX2_isDigit, .code yX2_isDigit cX2_isDigit 1 (some .boolean), .methodLink RX2 123 yX2_readDigits, .instanceMethod yX2_readDigits, .selects RX2 yX2_readDigits yX2_readDigits, .code yX2_readDigits cX2_readDigits 1 none] ++ wsX20)
def wsX3_addTree : List Cond := .code yX3_addTree cX3_addTree 5 none :: ([.fieldLink RX3 37 "TreeDebts$Told" "trees" "I", .fieldLink RX3 9 "TreeDebts$Told" "kinds" "[I", .fieldLink RX3 15 "TreeDebts$Told" "branches" "[I", .fieldLink RX3 18 "TreeDebts$Told" "rates" "[I", .fieldLink RX3 21 "TreeDebts$Told" "terms" "[I", .fieldLink RX3 24 "TreeDebts$Told" "parts" "[I"] ++ wsX30)
def wsX2_readTree_r1 : List Cond := [Cond.fieldLink RX2 18 "TreeDebts$Text" "draft" "LTreeDebts$Told;", Cond.fieldLink RX2 91 "TreeDebts$Told" "trees" "I", Cond.methodLink RX2 36 yX2_nextToken, Cond.instanceMethod yX2_nextToken, Cond.selects RX2 yX2_nextToken yX2_nextToken, Cond.initialized RX2, Cond.code yX2_nextToken cX2_nextToken 1 none, Cond.fieldLink RX2 33 "TreeDebts$Text" "end" "I", Cond.fieldLink RX2 43 "TreeDebts$Text" "start" "I", Cond.fieldLink RX2 22 "TreeDebts$Text" "length" "I", Cond.fieldLink RX2 9 "TreeDebts$Text" "bytes" "[I", Cond.fieldLink RX2 46 "TreeDebts$Text" "token" "I", Cond.methodLink RX2 117 yX2_isLetter, Cond.static yX2_isLetter, Cond.code yX2_isLetter cX2_isLetter 1 (some .boolean), Cond.methodLink RX2 120 yX2_isDigit, Cond.static yX2_isDigit, Cond.code yX2_isDigit cX2_isDigit 1 (some .boolean), Cond.methodLink RX2 123 yX2_readDigits, Cond.instanceMethod yX2_readDigits, Cond.selects RX2 yX2_readDigits yX2_readDigits, Cond.code yX2_readDigits cX2_readDigits 1 none, Cond.fieldLink RX2 108 "TreeDebts$Text" "value" "I", Cond.methodLink RX2 94 yX2_readNumber]
def wsX2_readTree_r2 : List Cond := [Cond.instanceMethod yX2_readNumber, Cond.selects RX2 yX2_readNumber yX2_readNumber, Cond.code yX2_readNumber cX2_readNumber 4 (some .int), Cond.methodLink RX2 98 yX3_addTree, Cond.instanceMethod yX3_addTree, Cond.selects RX3 yX3_addTree yX3_addTree, Cond.initialized RX3, Cond.code yX3_addTree cX3_addTree 5 none, Cond.fieldLink RX3 37 "TreeDebts$Told" "trees" "I", Cond.fieldLink RX3 9 "TreeDebts$Told" "kinds" "[I", Cond.fieldLink RX3 15 "TreeDebts$Told" "branches" "[I", Cond.fieldLink RX3 18 "TreeDebts$Told" "rates" "[I", Cond.fieldLink RX3 21 "TreeDebts$Told" "terms" "[I", Cond.fieldLink RX3 24 "TreeDebts$Told" "parts" "[I"]
def wsX2_readTree : List Cond := .code yX2_readTree cX2_readTree 5 (some .boolean) :: ((wsX2_readTree_r1 ++ wsX2_readTree_r2) ++ wsX20 ++ wsX30)
def wsX2_readPart_r1 : List Cond := [Cond.fieldLink RX2 18 "TreeDebts$Text" "draft" "LTreeDebts$Told;", Cond.fieldLink RX2 91 "TreeDebts$Told" "trees" "I", Cond.fieldLink RX2 102 "TreeDebts$Told" "parts" "[I", Cond.methodLink RX2 36 yX2_nextToken, Cond.instanceMethod yX2_nextToken, Cond.selects RX2 yX2_nextToken yX2_nextToken, Cond.initialized RX2, Cond.code yX2_nextToken cX2_nextToken 1 none, Cond.fieldLink RX2 33 "TreeDebts$Text" "end" "I", Cond.fieldLink RX2 43 "TreeDebts$Text" "start" "I", Cond.fieldLink RX2 22 "TreeDebts$Text" "length" "I", Cond.fieldLink RX2 9 "TreeDebts$Text" "bytes" "[I", Cond.fieldLink RX2 46 "TreeDebts$Text" "token" "I", Cond.methodLink RX2 117 yX2_isLetter, Cond.static yX2_isLetter, Cond.code yX2_isLetter cX2_isLetter 1 (some .boolean), Cond.methodLink RX2 120 yX2_isDigit, Cond.static yX2_isDigit, Cond.code yX2_isDigit cX2_isDigit 1 (some .boolean), Cond.methodLink RX2 123 yX2_readDigits, Cond.instanceMethod yX2_readDigits, Cond.selects RX2 yX2_readDigits yX2_readDigits, Cond.code yX2_readDigits cX2_readDigits 1 none, Cond.fieldLink RX2 108 "TreeDebts$Text" "value" "I"]
def wsX2_readPart_r2 : List Cond := [Cond.methodLink RX2 94 yX2_readNumber, Cond.instanceMethod yX2_readNumber, Cond.selects RX2 yX2_readNumber yX2_readNumber, Cond.code yX2_readNumber cX2_readNumber 4 (some .int)]
def wsX2_readPart : List Cond := .code yX2_readPart cX2_readPart 3 (some .boolean) :: ((wsX2_readPart_r1 ++ wsX2_readPart_r2) ++ wsX20 ++ wsX30)
def wsX3_addQuarrel : List Cond := .code yX3_addQuarrel cX3_addQuarrel 3 none :: ([.fieldLink RX3 40 "TreeDebts$Told" "quarrels" "I", .fieldLink RX3 27 "TreeDebts$Told" "ones" "[I", .fieldLink RX3 30 "TreeDebts$Told" "others" "[I"] ++ wsX30)
def wsX2_readQuarrel_r1 : List Cond := [Cond.fieldLink RX2 18 "TreeDebts$Text" "draft" "LTreeDebts$Told;", Cond.fieldLink RX2 105 "TreeDebts$Told" "quarrels" "I", Cond.fieldLink RX2 91 "TreeDebts$Told" "trees" "I", Cond.fieldLink RX2 46 "TreeDebts$Text" "token" "I", Cond.fieldLink RX2 108 "TreeDebts$Text" "value" "I", Cond.methodLink RX2 36 yX2_nextToken, Cond.instanceMethod yX2_nextToken, Cond.selects RX2 yX2_nextToken yX2_nextToken, Cond.initialized RX2, Cond.code yX2_nextToken cX2_nextToken 1 none, Cond.fieldLink RX2 33 "TreeDebts$Text" "end" "I", Cond.fieldLink RX2 43 "TreeDebts$Text" "start" "I", Cond.fieldLink RX2 22 "TreeDebts$Text" "length" "I", Cond.fieldLink RX2 9 "TreeDebts$Text" "bytes" "[I", Cond.methodLink RX2 117 yX2_isLetter, Cond.static yX2_isLetter, Cond.code yX2_isLetter cX2_isLetter 1 (some .boolean), Cond.methodLink RX2 120 yX2_isDigit, Cond.static yX2_isDigit, Cond.code yX2_isDigit cX2_isDigit 1 (some .boolean), Cond.methodLink RX2 123 yX2_readDigits, Cond.instanceMethod yX2_readDigits, Cond.selects RX2 yX2_readDigits yX2_readDigits, Cond.code yX2_readDigits cX2_readDigits 1 none]
def wsX2_readQuarrel_r2 : List Cond := [Cond.methodLink RX2 94 yX2_readNumber, Cond.instanceMethod yX2_readNumber, Cond.selects RX2 yX2_readNumber yX2_readNumber, Cond.code yX2_readNumber cX2_readNumber 4 (some .int), Cond.methodLink RX2 111 yX3_addQuarrel, Cond.instanceMethod yX3_addQuarrel, Cond.selects RX3 yX3_addQuarrel yX3_addQuarrel, Cond.initialized RX3, Cond.code yX3_addQuarrel cX3_addQuarrel 3 none, Cond.fieldLink RX3 40 "TreeDebts$Told" "quarrels" "I", Cond.fieldLink RX3 27 "TreeDebts$Told" "ones" "[I", Cond.fieldLink RX3 30 "TreeDebts$Told" "others" "[I"]
def wsX2_readQuarrel : List Cond := .code yX2_readQuarrel cX2_readQuarrel 3 (some .boolean) :: ((wsX2_readQuarrel_r1 ++ wsX2_readQuarrel_r2) ++ wsX20 ++ wsX30)
def wsX2_readHands_r1 : List Cond := [Cond.fieldLink RX2 18 "TreeDebts$Text" "draft" "LTreeDebts$Told;", Cond.fieldLink RX2 115 "TreeDebts$Told" "hands" "I", Cond.methodLink RX2 36 yX2_nextToken, Cond.instanceMethod yX2_nextToken, Cond.selects RX2 yX2_nextToken yX2_nextToken, Cond.initialized RX2, Cond.code yX2_nextToken cX2_nextToken 1 none, Cond.fieldLink RX2 33 "TreeDebts$Text" "end" "I", Cond.fieldLink RX2 43 "TreeDebts$Text" "start" "I", Cond.fieldLink RX2 22 "TreeDebts$Text" "length" "I", Cond.fieldLink RX2 9 "TreeDebts$Text" "bytes" "[I", Cond.fieldLink RX2 46 "TreeDebts$Text" "token" "I", Cond.methodLink RX2 117 yX2_isLetter, Cond.static yX2_isLetter, Cond.code yX2_isLetter cX2_isLetter 1 (some .boolean), Cond.methodLink RX2 120 yX2_isDigit, Cond.static yX2_isDigit, Cond.code yX2_isDigit cX2_isDigit 1 (some .boolean), Cond.methodLink RX2 123 yX2_readDigits, Cond.instanceMethod yX2_readDigits, Cond.selects RX2 yX2_readDigits yX2_readDigits, Cond.code yX2_readDigits cX2_readDigits 1 none, Cond.fieldLink RX2 108 "TreeDebts$Text" "value" "I", Cond.methodLink RX2 94 yX2_readNumber]
def wsX2_readHands_r2 : List Cond := [Cond.instanceMethod yX2_readNumber, Cond.selects RX2 yX2_readNumber yX2_readNumber, Cond.code yX2_readNumber cX2_readNumber 4 (some .int)]
def wsX2_readHands : List Cond := .code yX2_readHands cX2_readHands 2 (some .boolean) :: ((wsX2_readHands_r1 ++ wsX2_readHands_r2) ++ wsX20 ++ wsX30)
def wsX2_readLine_r1 : List Cond := [Cond.fieldLink RX2 46 "TreeDebts$Text" "token" "I", Cond.methodLink RX2 54 yX2_isWord, Cond.instanceMethod yX2_isWord, Cond.selects RX2 yX2_isWord yX2_isWord, Cond.initialized RX2, Cond.code yX2_isWord cX2_isWord 3 (some .boolean), Cond.fieldLink RX2 33 "TreeDebts$Text" "end" "I", Cond.fieldLink RX2 43 "TreeDebts$Text" "start" "I", Cond.fieldLink RX2 9 "TreeDebts$Text" "bytes" "[I", Cond.methodLink RX2 126 yJ0_length_8abf5, Cond.instanceMethod yJ0_length_8abf5, Cond.selects RJ0 yJ0_length_8abf5 yJ0_length_8abf5, Cond.initialized RJ0, Cond.code yJ0_length_8abf5 cJ0_length_8abf5 1 (some .int), Cond.fieldLink RJ0 9 "java/lang/String" "value" "[B", Cond.methodLink RJ0 335 yJ0_coder_7d493, Cond.instanceMethod yJ0_coder_7d493, Cond.selects RJ0 yJ0_coder_7d493 yJ0_coder_7d493, Cond.code yJ0_coder_7d493 cJ0_coder_7d493 1 (some .byte), Cond.fieldLink RJ0 38 "java/lang/String" "COMPACT_STRINGS" "Z", Cond.fieldLink RJ0 15 "java/lang/String" "coder" "B", Cond.methodLink RX2 131 yJ0_charAt_5068e, Cond.instanceMethod yJ0_charAt_5068e, Cond.selects RJ0 yJ0_charAt_5068e yJ0_charAt_5068e]
def wsX2_readLine_r2 : List Cond := [Cond.code yJ0_charAt_5068e cJ0_charAt_5068e 2 (some .char), Cond.methodLink RJ0 492 yJ0_isLatin1_aae02, Cond.instanceMethod yJ0_isLatin1_aae02, Cond.selects RJ0 yJ0_isLatin1_aae02 yJ0_isLatin1_aae02, Cond.code yJ0_isLatin1_aae02 cJ0_isLatin1_aae02 1 (some .boolean), Cond.methodLink RJ0 495 yJ1_charAt_3b067, Cond.static yJ1_charAt_3b067, Cond.initialized RJ1, Cond.code yJ1_charAt_3b067 cJ1_charAt_3b067 2 (some .char), Cond.methodLink RJ1 9 yJ0_checkIndex_df160, Cond.static yJ0_checkIndex_df160, Cond.code yJ0_checkIndex_df160 cJ0_checkIndex_df160 2 none, Cond.fieldLink RJ0 1053 "jdk/internal/util/Preconditions" "SIOOBE_FORMATTER" "Ljava/util/function/BiFunction;", Cond.methodLink RJ0 1059 yJ3_checkIndex_8e157, Cond.static yJ3_checkIndex_8e157, Cond.initialized RJ3, Cond.code yJ3_checkIndex_8e157 cJ3_checkIndex_8e157 3 (some .int), Cond.methodLink RJ0 498 yJ2_charAt_3b067, Cond.static yJ2_charAt_3b067, Cond.initialized RJ2, Cond.code yJ2_charAt_3b067 cJ2_charAt_3b067 2 (some .char), Cond.methodLink RJ2 67 yJ2_checkIndex_2214a, Cond.static yJ2_checkIndex_2214a, Cond.code yJ2_checkIndex_2214a cJ2_checkIndex_2214a 2 none]
def wsX2_readLine_r3 : List Cond := [Cond.methodLink RJ2 48 yJ2_length_9d52b, Cond.static yJ2_length_9d52b, Cond.code yJ2_length_9d52b cJ2_length_9d52b 1 (some .int), Cond.methodLink RJ2 414 yJ0_checkIndex_df160, Cond.methodLink RJ2 71 yJ2_getChar_3b067, Cond.static yJ2_getChar_3b067, Cond.code yJ2_getChar_3b067 cJ2_getChar_3b067 2 (some .char), Cond.fieldLink RJ2 44 "java/lang/StringUTF16" "$assertionsDisabled" "Z", Cond.fieldLink RJ2 59 "java/lang/StringUTF16" "HI_BYTE_SHIFT" "I", Cond.fieldLink RJ2 63 "java/lang/StringUTF16" "LO_BYTE_SHIFT" "I", Cond.methodLink RX2 58 yX2_readWood, Cond.instanceMethod yX2_readWood, Cond.selects RX2 yX2_readWood yX2_readWood, Cond.code yX2_readWood cX2_readWood 1 (some .boolean), Cond.fieldLink RX2 18 "TreeDebts$Text" "draft" "LTreeDebts$Told;", Cond.methodLink RX2 88 yX3_forget, Cond.instanceMethod yX3_forget, Cond.selects RX3 yX3_forget yX3_forget, Cond.initialized RX3, Cond.code yX3_forget cX3_forget 1 none, Cond.fieldLink RX3 37 "TreeDebts$Told" "trees" "I", Cond.fieldLink RX3 40 "TreeDebts$Told" "quarrels" "I", Cond.fieldLink RX3 33 "TreeDebts$Told" "hands" "I", Cond.methodLink RX2 36 yX2_nextToken]
def wsX2_readLine_r4 : List Cond := [Cond.instanceMethod yX2_nextToken, Cond.selects RX2 yX2_nextToken yX2_nextToken, Cond.code yX2_nextToken cX2_nextToken 1 none, Cond.fieldLink RX2 22 "TreeDebts$Text" "length" "I", Cond.methodLink RX2 117 yX2_isLetter, Cond.static yX2_isLetter, Cond.code yX2_isLetter cX2_isLetter 1 (some .boolean), Cond.methodLink RX2 120 yX2_isDigit, Cond.static yX2_isDigit, Cond.code yX2_isDigit cX2_isDigit 1 (some .boolean), Cond.methodLink RX2 123 yX2_readDigits, Cond.instanceMethod yX2_readDigits, Cond.selects RX2 yX2_readDigits yX2_readDigits, Cond.code yX2_readDigits cX2_readDigits 1 none, Cond.fieldLink RX2 108 "TreeDebts$Text" "value" "I", Cond.methodLink RX2 63 yX2_readTree, Cond.instanceMethod yX2_readTree, Cond.selects RX2 yX2_readTree yX2_readTree, Cond.code yX2_readTree cX2_readTree 5 (some .boolean), Cond.fieldLink RX2 91 "TreeDebts$Told" "trees" "I", Cond.methodLink RX2 94 yX2_readNumber, Cond.instanceMethod yX2_readNumber, Cond.selects RX2 yX2_readNumber yX2_readNumber, Cond.code yX2_readNumber cX2_readNumber 4 (some .int)]
def wsX2_readLine_r5 : List Cond := [Cond.methodLink RX2 98 yX3_addTree, Cond.instanceMethod yX3_addTree, Cond.selects RX3 yX3_addTree yX3_addTree, Cond.code yX3_addTree cX3_addTree 5 none, Cond.fieldLink RX3 9 "TreeDebts$Told" "kinds" "[I", Cond.fieldLink RX3 15 "TreeDebts$Told" "branches" "[I", Cond.fieldLink RX3 18 "TreeDebts$Told" "rates" "[I", Cond.fieldLink RX3 21 "TreeDebts$Told" "terms" "[I", Cond.fieldLink RX3 24 "TreeDebts$Told" "parts" "[I", Cond.methodLink RX2 75 yX2_readPart, Cond.instanceMethod yX2_readPart, Cond.selects RX2 yX2_readPart yX2_readPart, Cond.code yX2_readPart cX2_readPart 3 (some .boolean), Cond.fieldLink RX2 102 "TreeDebts$Told" "parts" "[I", Cond.methodLink RX2 80 yX2_readQuarrel, Cond.instanceMethod yX2_readQuarrel, Cond.selects RX2 yX2_readQuarrel yX2_readQuarrel, Cond.code yX2_readQuarrel cX2_readQuarrel 3 (some .boolean), Cond.fieldLink RX2 105 "TreeDebts$Told" "quarrels" "I", Cond.methodLink RX2 111 yX3_addQuarrel, Cond.instanceMethod yX3_addQuarrel, Cond.selects RX3 yX3_addQuarrel yX3_addQuarrel, Cond.code yX3_addQuarrel cX3_addQuarrel 3 none, Cond.fieldLink RX3 27 "TreeDebts$Told" "ones" "[I"]
def wsX2_readLine_r6 : List Cond := [Cond.fieldLink RX3 30 "TreeDebts$Told" "others" "[I", Cond.methodLink RX2 85 yX2_readHands, Cond.instanceMethod yX2_readHands, Cond.selects RX2 yX2_readHands yX2_readHands, Cond.code yX2_readHands cX2_readHands 2 (some .boolean), Cond.fieldLink RX2 115 "TreeDebts$Told" "hands" "I"]
def wsX2_readLine : List Cond := .code yX2_readLine cX2_readLine 1 (some .boolean) :: ((wsX2_readLine_r1 ++ (wsX2_readLine_r2 ++ (wsX2_readLine_r3 ++ (wsX2_readLine_r4 ++ (wsX2_readLine_r5 ++ wsX2_readLine_r6))))) ++ wsX20 ++ wsX30)
def wsX2_isAtSemicolon : List Cond := .code yX2_isAtSemicolon cX2_isAtSemicolon 1 (some .boolean) :: ([.fieldLink RX2 46 "TreeDebts$Text" "token" "I", .fieldLink RX2 9 "TreeDebts$Text" "bytes" "[I", .fieldLink RX2 43 "TreeDebts$Text" "start" "I"] ++ wsX20)
def wsX2_read_r1 : List Cond := [Cond.fieldLink RX2 18 "TreeDebts$Text" "draft" "LTreeDebts$Told;", Cond.fieldLink RX2 30 "TreeDebts$Text" "lines" "I", Cond.fieldLink RX2 33 "TreeDebts$Text" "end" "I", Cond.fieldLink RX2 43 "TreeDebts$Text" "start" "I", Cond.fieldLink RX2 46 "TreeDebts$Text" "token" "I", Cond.methodLink RX2 26 yX3_copyFrom, Cond.instanceMethod yX3_copyFrom, Cond.selects RX3 yX3_copyFrom yX3_copyFrom, Cond.initialized RX3, Cond.code yX3_copyFrom cX3_copyFrom 2 none, Cond.fieldLink RX3 37 "TreeDebts$Told" "trees" "I", Cond.fieldLink RX3 9 "TreeDebts$Told" "kinds" "[I", Cond.methodLink RX3 43 arraycopyName, Cond.native arraycopyName, Cond.static arraycopyName, Cond.initialized "java/lang/System", Cond.fieldLink RX3 15 "TreeDebts$Told" "branches" "[I", Cond.fieldLink RX3 18 "TreeDebts$Told" "rates" "[I", Cond.fieldLink RX3 21 "TreeDebts$Told" "terms" "[I", Cond.fieldLink RX3 24 "TreeDebts$Told" "parts" "[I", Cond.fieldLink RX3 40 "TreeDebts$Told" "quarrels" "I", Cond.fieldLink RX3 27 "TreeDebts$Told" "ones" "[I", Cond.fieldLink RX3 30 "TreeDebts$Told" "others" "[I", Cond.fieldLink RX3 33 "TreeDebts$Told" "hands" "I"]
def wsX2_read_r2 : List Cond := [Cond.methodLink RX2 36 yX2_nextToken, Cond.instanceMethod yX2_nextToken, Cond.selects RX2 yX2_nextToken yX2_nextToken, Cond.initialized RX2, Cond.code yX2_nextToken cX2_nextToken 1 none, Cond.fieldLink RX2 22 "TreeDebts$Text" "length" "I", Cond.fieldLink RX2 9 "TreeDebts$Text" "bytes" "[I", Cond.methodLink RX2 117 yX2_isLetter, Cond.static yX2_isLetter, Cond.code yX2_isLetter cX2_isLetter 1 (some .boolean), Cond.methodLink RX2 120 yX2_isDigit, Cond.static yX2_isDigit, Cond.code yX2_isDigit cX2_isDigit 1 (some .boolean), Cond.methodLink RX2 123 yX2_readDigits, Cond.instanceMethod yX2_readDigits, Cond.selects RX2 yX2_readDigits yX2_readDigits, Cond.code yX2_readDigits cX2_readDigits 1 none, Cond.fieldLink RX2 108 "TreeDebts$Text" "value" "I", Cond.methodLink RX2 39 yX2_readLine, Cond.instanceMethod yX2_readLine, Cond.selects RX2 yX2_readLine yX2_readLine, Cond.code yX2_readLine cX2_readLine 1 (some .boolean), Cond.methodLink RX2 54 yX2_isWord, Cond.instanceMethod yX2_isWord]
def wsX2_read_r3 : List Cond := [Cond.selects RX2 yX2_isWord yX2_isWord, Cond.code yX2_isWord cX2_isWord 3 (some .boolean), Cond.methodLink RX2 126 yJ0_length_8abf5, Cond.instanceMethod yJ0_length_8abf5, Cond.selects RJ0 yJ0_length_8abf5 yJ0_length_8abf5, Cond.initialized RJ0, Cond.code yJ0_length_8abf5 cJ0_length_8abf5 1 (some .int), Cond.fieldLink RJ0 9 "java/lang/String" "value" "[B", Cond.methodLink RJ0 335 yJ0_coder_7d493, Cond.instanceMethod yJ0_coder_7d493, Cond.selects RJ0 yJ0_coder_7d493 yJ0_coder_7d493, Cond.code yJ0_coder_7d493 cJ0_coder_7d493 1 (some .byte), Cond.fieldLink RJ0 38 "java/lang/String" "COMPACT_STRINGS" "Z", Cond.fieldLink RJ0 15 "java/lang/String" "coder" "B", Cond.methodLink RX2 131 yJ0_charAt_5068e, Cond.instanceMethod yJ0_charAt_5068e, Cond.selects RJ0 yJ0_charAt_5068e yJ0_charAt_5068e, Cond.code yJ0_charAt_5068e cJ0_charAt_5068e 2 (some .char), Cond.methodLink RJ0 492 yJ0_isLatin1_aae02, Cond.instanceMethod yJ0_isLatin1_aae02, Cond.selects RJ0 yJ0_isLatin1_aae02 yJ0_isLatin1_aae02, Cond.code yJ0_isLatin1_aae02 cJ0_isLatin1_aae02 1 (some .boolean), Cond.methodLink RJ0 495 yJ1_charAt_3b067, Cond.static yJ1_charAt_3b067]
def wsX2_read_r4 : List Cond := [Cond.initialized RJ1, Cond.code yJ1_charAt_3b067 cJ1_charAt_3b067 2 (some .char), Cond.methodLink RJ1 9 yJ0_checkIndex_df160, Cond.static yJ0_checkIndex_df160, Cond.code yJ0_checkIndex_df160 cJ0_checkIndex_df160 2 none, Cond.fieldLink RJ0 1053 "jdk/internal/util/Preconditions" "SIOOBE_FORMATTER" "Ljava/util/function/BiFunction;", Cond.methodLink RJ0 1059 yJ3_checkIndex_8e157, Cond.static yJ3_checkIndex_8e157, Cond.initialized RJ3, Cond.code yJ3_checkIndex_8e157 cJ3_checkIndex_8e157 3 (some .int), Cond.methodLink RJ0 498 yJ2_charAt_3b067, Cond.static yJ2_charAt_3b067, Cond.initialized RJ2, Cond.code yJ2_charAt_3b067 cJ2_charAt_3b067 2 (some .char), Cond.methodLink RJ2 67 yJ2_checkIndex_2214a, Cond.static yJ2_checkIndex_2214a, Cond.code yJ2_checkIndex_2214a cJ2_checkIndex_2214a 2 none, Cond.methodLink RJ2 48 yJ2_length_9d52b, Cond.static yJ2_length_9d52b, Cond.code yJ2_length_9d52b cJ2_length_9d52b 1 (some .int), Cond.methodLink RJ2 414 yJ0_checkIndex_df160, Cond.methodLink RJ2 71 yJ2_getChar_3b067, Cond.static yJ2_getChar_3b067, Cond.code yJ2_getChar_3b067 cJ2_getChar_3b067 2 (some .char)]
def wsX2_read_r5 : List Cond := [Cond.fieldLink RJ2 44 "java/lang/StringUTF16" "$assertionsDisabled" "Z", Cond.fieldLink RJ2 59 "java/lang/StringUTF16" "HI_BYTE_SHIFT" "I", Cond.fieldLink RJ2 63 "java/lang/StringUTF16" "LO_BYTE_SHIFT" "I", Cond.methodLink RX2 58 yX2_readWood, Cond.instanceMethod yX2_readWood, Cond.selects RX2 yX2_readWood yX2_readWood, Cond.code yX2_readWood cX2_readWood 1 (some .boolean), Cond.methodLink RX2 88 yX3_forget, Cond.instanceMethod yX3_forget, Cond.selects RX3 yX3_forget yX3_forget, Cond.code yX3_forget cX3_forget 1 none, Cond.methodLink RX2 63 yX2_readTree, Cond.instanceMethod yX2_readTree, Cond.selects RX2 yX2_readTree yX2_readTree, Cond.code yX2_readTree cX2_readTree 5 (some .boolean), Cond.fieldLink RX2 91 "TreeDebts$Told" "trees" "I", Cond.methodLink RX2 94 yX2_readNumber, Cond.instanceMethod yX2_readNumber, Cond.selects RX2 yX2_readNumber yX2_readNumber, Cond.code yX2_readNumber cX2_readNumber 4 (some .int), Cond.methodLink RX2 98 yX3_addTree, Cond.instanceMethod yX3_addTree, Cond.selects RX3 yX3_addTree yX3_addTree, Cond.code yX3_addTree cX3_addTree 5 none]
def wsX2_read_r6 : List Cond := [Cond.methodLink RX2 75 yX2_readPart, Cond.instanceMethod yX2_readPart, Cond.selects RX2 yX2_readPart yX2_readPart, Cond.code yX2_readPart cX2_readPart 3 (some .boolean), Cond.fieldLink RX2 102 "TreeDebts$Told" "parts" "[I", Cond.methodLink RX2 80 yX2_readQuarrel, Cond.instanceMethod yX2_readQuarrel, Cond.selects RX2 yX2_readQuarrel yX2_readQuarrel, Cond.code yX2_readQuarrel cX2_readQuarrel 3 (some .boolean), Cond.fieldLink RX2 105 "TreeDebts$Told" "quarrels" "I", Cond.methodLink RX2 111 yX3_addQuarrel, Cond.instanceMethod yX3_addQuarrel, Cond.selects RX3 yX3_addQuarrel yX3_addQuarrel, Cond.code yX3_addQuarrel cX3_addQuarrel 3 none, Cond.methodLink RX2 85 yX2_readHands, Cond.instanceMethod yX2_readHands, Cond.selects RX2 yX2_readHands yX2_readHands, Cond.code yX2_readHands cX2_readHands 2 (some .boolean), Cond.fieldLink RX2 115 "TreeDebts$Told" "hands" "I", Cond.methodLink RX2 49 yX2_isAtSemicolon, Cond.instanceMethod yX2_isAtSemicolon, Cond.selects RX2 yX2_isAtSemicolon yX2_isAtSemicolon, Cond.code yX2_isAtSemicolon cX2_isAtSemicolon 1 (some .boolean)]
def wsX2_read : List Cond := .code yX2_read cX2_read 3 (some .int) :: ((wsX2_read_r1 ++ (wsX2_read_r2 ++ (wsX2_read_r3 ++ (wsX2_read_r4 ++ (wsX2_read_r5 ++ wsX2_read_r6))))) ++ wsX20 ++ wsX30)
def wsX3_has : List Cond := .code yX3_has cX3_has 2 (some .boolean) :: ([.fieldLink RX3 37 "TreeDebts$Told" "trees" "I"] ++ wsX30)
def wsX3_isOfKind : List Cond := .code yX3_isOfKind cX3_isOfKind 5 (some .boolean) :: ([.fieldLink RX3 9 "TreeDebts$Told" "kinds" "[I"] ++ wsX30)
def wsX4_init_r1 : List Cond := [Cond.methodLink RX4 1 objectInit, Cond.instanceMethod objectInit, Cond.code objectInit ⟨#[0xb1]⟩ 1 none, Cond.classLink RX4 7 RX2, Cond.instantiable RX2 8, Cond.initialized RX2, Cond.fieldLink RX4 10 "TreeDebts" "text" "LTreeDebts$Text;", Cond.classLink RX4 16 RX3, Cond.instantiable RX3 10, Cond.initialized RX3, Cond.fieldLink RX4 19 "TreeDebts" "told" "LTreeDebts$Told;", Cond.classLink RX4 23 RX1, Cond.instantiable RX1 10, Cond.initialized RX1, Cond.fieldLink RX4 26 "TreeDebts" "now" "LTreeDebts$State;", Cond.fieldLink RX4 30 "TreeDebts" "foretold" "LTreeDebts$State;", Cond.fieldLink RX4 33 "TreeDebts" "kept" "[LTreeDebts$State;", Cond.arrayClass .boolean, Cond.fieldLink RX4 37 "TreeDebts" "isKept" "[Z", Cond.classLink RX4 41 RX0, Cond.instantiable RX0 5, Cond.initialized RX0, Cond.fieldLink RX4 44 "TreeDebts" "hutPlan" "LTreeDebts$HutPlan;", Cond.instanceMethod yX2_init]
def wsX4_init_r2 : List Cond := [Cond.code yX2_init cX2_init 1 none, Cond.methodLink RX2 3 objectInit, Cond.arrayClass .int, Cond.fieldLink RX2 9 "TreeDebts$Text" "bytes" "[I", Cond.classLink RX2 15 RX3, Cond.fieldLink RX2 18 "TreeDebts$Text" "draft" "LTreeDebts$Told;", Cond.instanceMethod yX3_init, Cond.code yX3_init cX3_init 1 none, Cond.methodLink RX3 3 objectInit, Cond.fieldLink RX3 9 "TreeDebts$Told" "kinds" "[I", Cond.fieldLink RX3 15 "TreeDebts$Told" "branches" "[I", Cond.fieldLink RX3 18 "TreeDebts$Told" "rates" "[I", Cond.fieldLink RX3 21 "TreeDebts$Told" "terms" "[I", Cond.fieldLink RX3 24 "TreeDebts$Told" "parts" "[I", Cond.fieldLink RX3 27 "TreeDebts$Told" "ones" "[I", Cond.fieldLink RX3 30 "TreeDebts$Told" "others" "[I", Cond.fieldLink RX3 33 "TreeDebts$Told" "hands" "I", Cond.instanceMethod yX1_init, Cond.code yX1_init cX1_init 1 none, Cond.methodLink RX1 3 objectInit, Cond.fieldLink RX1 9 "TreeDebts$State" "branches" "[I", Cond.fieldLink RX1 15 "TreeDebts$State" "fates" "[I", Cond.fieldLink RX1 18 "TreeDebts$State" "lenders" "[I", Cond.fieldLink RX1 21 "TreeDebts$State" "lent" "[I"]
def wsX4_init_r3 : List Cond := [Cond.fieldLink RX1 24 "TreeDebts$State" "owed" "[I", Cond.fieldLink RX1 27 "TreeDebts$State" "dues" "[I", Cond.fieldLink RX1 30 "TreeDebts$State" "failed" "[I", Cond.instanceMethod yX0_init, Cond.code yX0_init cX0_init 1 none, Cond.methodLink RX0 3 objectInit, Cond.classLink RX0 9 "[[I", Cond.fieldLink RX0 11 "TreeDebts$HutPlan" "least" "[[I", Cond.fieldLink RX0 16 "TreeDebts$HutPlan" "choice" "[[I", Cond.fieldLink RX0 19 "TreeDebts$HutPlan" "costs" "[I", Cond.fieldLink RX0 23 "TreeDebts$HutPlan" "from" "[I"]
def wsX4_init : List Cond := .code yX4_init cX4_init 1 none :: ((wsX4_init_r1 ++ (wsX4_init_r2 ++ wsX4_init_r3)) ++ wsX20 ++ wsX40 ++ wsX30 ++ wsX10 ++ wsX00)
def wsX4_write : List Cond := .code yX4_write cX4_write 5 (some .int) :: ([.fieldLink RX4 10 "TreeDebts" "text" "LTreeDebts$Text;", .fieldLink RX4 48 "TreeDebts$Text" "length" "I", .constantLong RX4 52 (255), .methodLink RX4 54 yX2_add, .instanceMethod yX2_add, .selects RX2 yX2_add yX2_add, .initialized RX2, .code yX2_add cX2_add 2 none, .fieldLink RX2 22 "TreeDebts$Text" "length" "I", .fieldLink RX2 9 "TreeDebts$Text" "bytes" "[I"] ++ wsX40 ++ wsX20)
def wsX4_erase : List Cond := .code yX4_erase cX4_erase 2 (some .int) :: ([.fieldLink RX4 10 "TreeDebts" "text" "LTreeDebts$Text;", .fieldLink RX4 48 "TreeDebts$Text" "length" "I"] ++ wsX40 ++ wsX20)
def wsX4_fault_r1 : List Cond := [Cond.fieldLink RX4 10 "TreeDebts" "text" "LTreeDebts$Text;", Cond.fieldLink RX4 19 "TreeDebts" "told" "LTreeDebts$Told;", Cond.methodLink RX4 58 yX2_read, Cond.instanceMethod yX2_read, Cond.selects RX2 yX2_read yX2_read, Cond.initialized RX2, Cond.code yX2_read cX2_read 3 (some .int), Cond.fieldLink RX2 18 "TreeDebts$Text" "draft" "LTreeDebts$Told;", Cond.fieldLink RX2 30 "TreeDebts$Text" "lines" "I", Cond.fieldLink RX2 33 "TreeDebts$Text" "end" "I", Cond.fieldLink RX2 43 "TreeDebts$Text" "start" "I", Cond.fieldLink RX2 46 "TreeDebts$Text" "token" "I", Cond.methodLink RX2 26 yX3_copyFrom, Cond.instanceMethod yX3_copyFrom, Cond.selects RX3 yX3_copyFrom yX3_copyFrom, Cond.initialized RX3, Cond.code yX3_copyFrom cX3_copyFrom 2 none, Cond.fieldLink RX3 37 "TreeDebts$Told" "trees" "I", Cond.fieldLink RX3 9 "TreeDebts$Told" "kinds" "[I", Cond.methodLink RX3 43 arraycopyName, Cond.native arraycopyName, Cond.static arraycopyName, Cond.initialized "java/lang/System", Cond.fieldLink RX3 15 "TreeDebts$Told" "branches" "[I"]
def wsX4_fault_r2 : List Cond := [Cond.fieldLink RX3 18 "TreeDebts$Told" "rates" "[I", Cond.fieldLink RX3 21 "TreeDebts$Told" "terms" "[I", Cond.fieldLink RX3 24 "TreeDebts$Told" "parts" "[I", Cond.fieldLink RX3 40 "TreeDebts$Told" "quarrels" "I", Cond.fieldLink RX3 27 "TreeDebts$Told" "ones" "[I", Cond.fieldLink RX3 30 "TreeDebts$Told" "others" "[I", Cond.fieldLink RX3 33 "TreeDebts$Told" "hands" "I", Cond.methodLink RX2 36 yX2_nextToken, Cond.instanceMethod yX2_nextToken, Cond.selects RX2 yX2_nextToken yX2_nextToken, Cond.code yX2_nextToken cX2_nextToken 1 none, Cond.fieldLink RX2 22 "TreeDebts$Text" "length" "I", Cond.fieldLink RX2 9 "TreeDebts$Text" "bytes" "[I", Cond.methodLink RX2 117 yX2_isLetter, Cond.static yX2_isLetter, Cond.code yX2_isLetter cX2_isLetter 1 (some .boolean), Cond.methodLink RX2 120 yX2_isDigit, Cond.static yX2_isDigit, Cond.code yX2_isDigit cX2_isDigit 1 (some .boolean), Cond.methodLink RX2 123 yX2_readDigits, Cond.instanceMethod yX2_readDigits, Cond.selects RX2 yX2_readDigits yX2_readDigits, Cond.code yX2_readDigits cX2_readDigits 1 none, Cond.fieldLink RX2 108 "TreeDebts$Text" "value" "I"]
def wsX4_fault_r3 : List Cond := [Cond.methodLink RX2 39 yX2_readLine, Cond.instanceMethod yX2_readLine, Cond.selects RX2 yX2_readLine yX2_readLine, Cond.code yX2_readLine cX2_readLine 1 (some .boolean), Cond.methodLink RX2 54 yX2_isWord, Cond.instanceMethod yX2_isWord, Cond.selects RX2 yX2_isWord yX2_isWord, Cond.code yX2_isWord cX2_isWord 3 (some .boolean), Cond.methodLink RX2 126 yJ0_length_8abf5, Cond.instanceMethod yJ0_length_8abf5, Cond.selects RJ0 yJ0_length_8abf5 yJ0_length_8abf5, Cond.initialized RJ0, Cond.code yJ0_length_8abf5 cJ0_length_8abf5 1 (some .int), Cond.fieldLink RJ0 9 "java/lang/String" "value" "[B", Cond.methodLink RJ0 335 yJ0_coder_7d493, Cond.instanceMethod yJ0_coder_7d493, Cond.selects RJ0 yJ0_coder_7d493 yJ0_coder_7d493, Cond.code yJ0_coder_7d493 cJ0_coder_7d493 1 (some .byte), Cond.fieldLink RJ0 38 "java/lang/String" "COMPACT_STRINGS" "Z", Cond.fieldLink RJ0 15 "java/lang/String" "coder" "B", Cond.methodLink RX2 131 yJ0_charAt_5068e, Cond.instanceMethod yJ0_charAt_5068e, Cond.selects RJ0 yJ0_charAt_5068e yJ0_charAt_5068e, Cond.code yJ0_charAt_5068e cJ0_charAt_5068e 2 (some .char)]
def wsX4_fault_r4 : List Cond := [Cond.methodLink RJ0 492 yJ0_isLatin1_aae02, Cond.instanceMethod yJ0_isLatin1_aae02, Cond.selects RJ0 yJ0_isLatin1_aae02 yJ0_isLatin1_aae02, Cond.code yJ0_isLatin1_aae02 cJ0_isLatin1_aae02 1 (some .boolean), Cond.methodLink RJ0 495 yJ1_charAt_3b067, Cond.static yJ1_charAt_3b067, Cond.initialized RJ1, Cond.code yJ1_charAt_3b067 cJ1_charAt_3b067 2 (some .char), Cond.methodLink RJ1 9 yJ0_checkIndex_df160, Cond.static yJ0_checkIndex_df160, Cond.code yJ0_checkIndex_df160 cJ0_checkIndex_df160 2 none, Cond.fieldLink RJ0 1053 "jdk/internal/util/Preconditions" "SIOOBE_FORMATTER" "Ljava/util/function/BiFunction;", Cond.methodLink RJ0 1059 yJ3_checkIndex_8e157, Cond.static yJ3_checkIndex_8e157, Cond.initialized RJ3, Cond.code yJ3_checkIndex_8e157 cJ3_checkIndex_8e157 3 (some .int), Cond.methodLink RJ0 498 yJ2_charAt_3b067, Cond.static yJ2_charAt_3b067, Cond.initialized RJ2, Cond.code yJ2_charAt_3b067 cJ2_charAt_3b067 2 (some .char), Cond.methodLink RJ2 67 yJ2_checkIndex_2214a, Cond.static yJ2_checkIndex_2214a, Cond.code yJ2_checkIndex_2214a cJ2_checkIndex_2214a 2 none, Cond.methodLink RJ2 48 yJ2_length_9d52b]
def wsX4_fault_r5 : List Cond := [Cond.static yJ2_length_9d52b, Cond.code yJ2_length_9d52b cJ2_length_9d52b 1 (some .int), Cond.methodLink RJ2 414 yJ0_checkIndex_df160, Cond.methodLink RJ2 71 yJ2_getChar_3b067, Cond.static yJ2_getChar_3b067, Cond.code yJ2_getChar_3b067 cJ2_getChar_3b067 2 (some .char), Cond.fieldLink RJ2 44 "java/lang/StringUTF16" "$assertionsDisabled" "Z", Cond.fieldLink RJ2 59 "java/lang/StringUTF16" "HI_BYTE_SHIFT" "I", Cond.fieldLink RJ2 63 "java/lang/StringUTF16" "LO_BYTE_SHIFT" "I", Cond.methodLink RX2 58 yX2_readWood, Cond.instanceMethod yX2_readWood, Cond.selects RX2 yX2_readWood yX2_readWood, Cond.code yX2_readWood cX2_readWood 1 (some .boolean), Cond.methodLink RX2 88 yX3_forget, Cond.instanceMethod yX3_forget, Cond.selects RX3 yX3_forget yX3_forget, Cond.code yX3_forget cX3_forget 1 none, Cond.methodLink RX2 63 yX2_readTree, Cond.instanceMethod yX2_readTree, Cond.selects RX2 yX2_readTree yX2_readTree, Cond.code yX2_readTree cX2_readTree 5 (some .boolean), Cond.fieldLink RX2 91 "TreeDebts$Told" "trees" "I", Cond.methodLink RX2 94 yX2_readNumber, Cond.instanceMethod yX2_readNumber]
def wsX4_fault_r6 : List Cond := [Cond.selects RX2 yX2_readNumber yX2_readNumber, Cond.code yX2_readNumber cX2_readNumber 4 (some .int), Cond.methodLink RX2 98 yX3_addTree, Cond.instanceMethod yX3_addTree, Cond.selects RX3 yX3_addTree yX3_addTree, Cond.code yX3_addTree cX3_addTree 5 none, Cond.methodLink RX2 75 yX2_readPart, Cond.instanceMethod yX2_readPart, Cond.selects RX2 yX2_readPart yX2_readPart, Cond.code yX2_readPart cX2_readPart 3 (some .boolean), Cond.fieldLink RX2 102 "TreeDebts$Told" "parts" "[I", Cond.methodLink RX2 80 yX2_readQuarrel, Cond.instanceMethod yX2_readQuarrel, Cond.selects RX2 yX2_readQuarrel yX2_readQuarrel, Cond.code yX2_readQuarrel cX2_readQuarrel 3 (some .boolean), Cond.fieldLink RX2 105 "TreeDebts$Told" "quarrels" "I", Cond.methodLink RX2 111 yX3_addQuarrel, Cond.instanceMethod yX3_addQuarrel, Cond.selects RX3 yX3_addQuarrel yX3_addQuarrel, Cond.code yX3_addQuarrel cX3_addQuarrel 3 none, Cond.methodLink RX2 85 yX2_readHands, Cond.instanceMethod yX2_readHands, Cond.selects RX2 yX2_readHands yX2_readHands, Cond.code yX2_readHands cX2_readHands 2 (some .boolean)]
def wsX4_fault_r7 : List Cond := [Cond.fieldLink RX2 115 "TreeDebts$Told" "hands" "I", Cond.methodLink RX2 49 yX2_isAtSemicolon, Cond.instanceMethod yX2_isAtSemicolon, Cond.selects RX2 yX2_isAtSemicolon yX2_isAtSemicolon, Cond.code yX2_isAtSemicolon cX2_isAtSemicolon 1 (some .boolean)]
def wsX4_fault : List Cond := .code yX4_fault cX4_fault 1 (some .int) :: ((wsX4_fault_r1 ++ (wsX4_fault_r2 ++ (wsX4_fault_r3 ++ (wsX4_fault_r4 ++ (wsX4_fault_r5 ++ (wsX4_fault_r6 ++ wsX4_fault_r7)))))) ++ wsX40 ++ wsX20 ++ wsX30)
def wsX4_wood_r1 : List Cond := [Cond.fieldLink RX4 10 "TreeDebts" "text" "LTreeDebts$Text;", Cond.fieldLink RX4 19 "TreeDebts" "told" "LTreeDebts$Told;", Cond.fieldLink RX4 62 "TreeDebts$Text" "draft" "LTreeDebts$Told;", Cond.fieldLink RX4 48 "TreeDebts$Text" "length" "I", Cond.fieldLink RX4 26 "TreeDebts" "now" "LTreeDebts$State;", Cond.fieldLink RX4 37 "TreeDebts" "isKept" "[Z", Cond.fieldLink RX4 72 "TreeDebts$Text" "lines" "I", Cond.methodLink RX4 58 yX2_read, Cond.instanceMethod yX2_read, Cond.selects RX2 yX2_read yX2_read, Cond.initialized RX2, Cond.code yX2_read cX2_read 3 (some .int), Cond.fieldLink RX2 18 "TreeDebts$Text" "draft" "LTreeDebts$Told;", Cond.fieldLink RX2 30 "TreeDebts$Text" "lines" "I", Cond.fieldLink RX2 33 "TreeDebts$Text" "end" "I", Cond.fieldLink RX2 43 "TreeDebts$Text" "start" "I", Cond.fieldLink RX2 46 "TreeDebts$Text" "token" "I", Cond.methodLink RX2 26 yX3_copyFrom, Cond.instanceMethod yX3_copyFrom, Cond.selects RX3 yX3_copyFrom yX3_copyFrom, Cond.initialized RX3, Cond.code yX3_copyFrom cX3_copyFrom 2 none, Cond.fieldLink RX3 37 "TreeDebts$Told" "trees" "I", Cond.fieldLink RX3 9 "TreeDebts$Told" "kinds" "[I"]
def wsX4_wood_r2 : List Cond := [Cond.methodLink RX3 43 arraycopyName, Cond.native arraycopyName, Cond.static arraycopyName, Cond.initialized "java/lang/System", Cond.fieldLink RX3 15 "TreeDebts$Told" "branches" "[I", Cond.fieldLink RX3 18 "TreeDebts$Told" "rates" "[I", Cond.fieldLink RX3 21 "TreeDebts$Told" "terms" "[I", Cond.fieldLink RX3 24 "TreeDebts$Told" "parts" "[I", Cond.fieldLink RX3 40 "TreeDebts$Told" "quarrels" "I", Cond.fieldLink RX3 27 "TreeDebts$Told" "ones" "[I", Cond.fieldLink RX3 30 "TreeDebts$Told" "others" "[I", Cond.fieldLink RX3 33 "TreeDebts$Told" "hands" "I", Cond.methodLink RX2 36 yX2_nextToken, Cond.instanceMethod yX2_nextToken, Cond.selects RX2 yX2_nextToken yX2_nextToken, Cond.code yX2_nextToken cX2_nextToken 1 none, Cond.fieldLink RX2 22 "TreeDebts$Text" "length" "I", Cond.fieldLink RX2 9 "TreeDebts$Text" "bytes" "[I", Cond.methodLink RX2 117 yX2_isLetter, Cond.static yX2_isLetter, Cond.code yX2_isLetter cX2_isLetter 1 (some .boolean), Cond.methodLink RX2 120 yX2_isDigit, Cond.static yX2_isDigit, Cond.code yX2_isDigit cX2_isDigit 1 (some .boolean)]
def wsX4_wood_r3 : List Cond := [Cond.methodLink RX2 123 yX2_readDigits, Cond.instanceMethod yX2_readDigits, Cond.selects RX2 yX2_readDigits yX2_readDigits, Cond.code yX2_readDigits cX2_readDigits 1 none, Cond.fieldLink RX2 108 "TreeDebts$Text" "value" "I", Cond.methodLink RX2 39 yX2_readLine, Cond.instanceMethod yX2_readLine, Cond.selects RX2 yX2_readLine yX2_readLine, Cond.code yX2_readLine cX2_readLine 1 (some .boolean), Cond.methodLink RX2 54 yX2_isWord, Cond.instanceMethod yX2_isWord, Cond.selects RX2 yX2_isWord yX2_isWord, Cond.code yX2_isWord cX2_isWord 3 (some .boolean), Cond.methodLink RX2 126 yJ0_length_8abf5, Cond.instanceMethod yJ0_length_8abf5, Cond.selects RJ0 yJ0_length_8abf5 yJ0_length_8abf5, Cond.initialized RJ0, Cond.code yJ0_length_8abf5 cJ0_length_8abf5 1 (some .int), Cond.fieldLink RJ0 9 "java/lang/String" "value" "[B", Cond.methodLink RJ0 335 yJ0_coder_7d493, Cond.instanceMethod yJ0_coder_7d493, Cond.selects RJ0 yJ0_coder_7d493 yJ0_coder_7d493, Cond.code yJ0_coder_7d493 cJ0_coder_7d493 1 (some .byte), Cond.fieldLink RJ0 38 "java/lang/String" "COMPACT_STRINGS" "Z"]
def wsX4_wood_r4 : List Cond := [Cond.fieldLink RJ0 15 "java/lang/String" "coder" "B", Cond.methodLink RX2 131 yJ0_charAt_5068e, Cond.instanceMethod yJ0_charAt_5068e, Cond.selects RJ0 yJ0_charAt_5068e yJ0_charAt_5068e, Cond.code yJ0_charAt_5068e cJ0_charAt_5068e 2 (some .char), Cond.methodLink RJ0 492 yJ0_isLatin1_aae02, Cond.instanceMethod yJ0_isLatin1_aae02, Cond.selects RJ0 yJ0_isLatin1_aae02 yJ0_isLatin1_aae02, Cond.code yJ0_isLatin1_aae02 cJ0_isLatin1_aae02 1 (some .boolean), Cond.methodLink RJ0 495 yJ1_charAt_3b067, Cond.static yJ1_charAt_3b067, Cond.initialized RJ1, Cond.code yJ1_charAt_3b067 cJ1_charAt_3b067 2 (some .char), Cond.methodLink RJ1 9 yJ0_checkIndex_df160, Cond.static yJ0_checkIndex_df160, Cond.code yJ0_checkIndex_df160 cJ0_checkIndex_df160 2 none, Cond.fieldLink RJ0 1053 "jdk/internal/util/Preconditions" "SIOOBE_FORMATTER" "Ljava/util/function/BiFunction;", Cond.methodLink RJ0 1059 yJ3_checkIndex_8e157, Cond.static yJ3_checkIndex_8e157, Cond.initialized RJ3, Cond.code yJ3_checkIndex_8e157 cJ3_checkIndex_8e157 3 (some .int), Cond.methodLink RJ0 498 yJ2_charAt_3b067, Cond.static yJ2_charAt_3b067, Cond.initialized RJ2]
def wsX4_wood_r5 : List Cond := [Cond.code yJ2_charAt_3b067 cJ2_charAt_3b067 2 (some .char), Cond.methodLink RJ2 67 yJ2_checkIndex_2214a, Cond.static yJ2_checkIndex_2214a, Cond.code yJ2_checkIndex_2214a cJ2_checkIndex_2214a 2 none, Cond.methodLink RJ2 48 yJ2_length_9d52b, Cond.static yJ2_length_9d52b, Cond.code yJ2_length_9d52b cJ2_length_9d52b 1 (some .int), Cond.methodLink RJ2 414 yJ0_checkIndex_df160, Cond.methodLink RJ2 71 yJ2_getChar_3b067, Cond.static yJ2_getChar_3b067, Cond.code yJ2_getChar_3b067 cJ2_getChar_3b067 2 (some .char), Cond.fieldLink RJ2 44 "java/lang/StringUTF16" "$assertionsDisabled" "Z", Cond.fieldLink RJ2 59 "java/lang/StringUTF16" "HI_BYTE_SHIFT" "I", Cond.fieldLink RJ2 63 "java/lang/StringUTF16" "LO_BYTE_SHIFT" "I", Cond.methodLink RX2 58 yX2_readWood, Cond.instanceMethod yX2_readWood, Cond.selects RX2 yX2_readWood yX2_readWood, Cond.code yX2_readWood cX2_readWood 1 (some .boolean), Cond.methodLink RX2 88 yX3_forget, Cond.instanceMethod yX3_forget, Cond.selects RX3 yX3_forget yX3_forget, Cond.code yX3_forget cX3_forget 1 none, Cond.methodLink RX2 63 yX2_readTree, Cond.instanceMethod yX2_readTree]
def wsX4_wood_r6 : List Cond := [Cond.selects RX2 yX2_readTree yX2_readTree, Cond.code yX2_readTree cX2_readTree 5 (some .boolean), Cond.fieldLink RX2 91 "TreeDebts$Told" "trees" "I", Cond.methodLink RX2 94 yX2_readNumber, Cond.instanceMethod yX2_readNumber, Cond.selects RX2 yX2_readNumber yX2_readNumber, Cond.code yX2_readNumber cX2_readNumber 4 (some .int), Cond.methodLink RX2 98 yX3_addTree, Cond.instanceMethod yX3_addTree, Cond.selects RX3 yX3_addTree yX3_addTree, Cond.code yX3_addTree cX3_addTree 5 none, Cond.methodLink RX2 75 yX2_readPart, Cond.instanceMethod yX2_readPart, Cond.selects RX2 yX2_readPart yX2_readPart, Cond.code yX2_readPart cX2_readPart 3 (some .boolean), Cond.fieldLink RX2 102 "TreeDebts$Told" "parts" "[I", Cond.methodLink RX2 80 yX2_readQuarrel, Cond.instanceMethod yX2_readQuarrel, Cond.selects RX2 yX2_readQuarrel yX2_readQuarrel, Cond.code yX2_readQuarrel cX2_readQuarrel 3 (some .boolean), Cond.fieldLink RX2 105 "TreeDebts$Told" "quarrels" "I", Cond.methodLink RX2 111 yX3_addQuarrel, Cond.instanceMethod yX3_addQuarrel, Cond.selects RX3 yX3_addQuarrel yX3_addQuarrel]
def wsX4_wood_r7 : List Cond := [Cond.code yX3_addQuarrel cX3_addQuarrel 3 none, Cond.methodLink RX2 85 yX2_readHands, Cond.instanceMethod yX2_readHands, Cond.selects RX2 yX2_readHands yX2_readHands, Cond.code yX2_readHands cX2_readHands 2 (some .boolean), Cond.fieldLink RX2 115 "TreeDebts$Told" "hands" "I", Cond.methodLink RX2 49 yX2_isAtSemicolon, Cond.instanceMethod yX2_isAtSemicolon, Cond.selects RX2 yX2_isAtSemicolon yX2_isAtSemicolon, Cond.code yX2_isAtSemicolon cX2_isAtSemicolon 1 (some .boolean), Cond.methodLink RX4 65 yX3_copyFrom, Cond.methodLink RX4 69 yX1_begin, Cond.instanceMethod yX1_begin, Cond.selects RX1 yX1_begin yX1_begin, Cond.initialized RX1, Cond.code yX1_begin cX1_begin 3 none, Cond.fieldLink RX1 33 "TreeDebts$State" "day" "I", Cond.fieldLink RX1 37 "TreeDebts$State" "loans" "I", Cond.fieldLink RX1 40 "TreeDebts$State" "failures" "I", Cond.fieldLink RX1 9 "TreeDebts$State" "branches" "[I", Cond.fieldLink RX1 43 "TreeDebts$Told" "branches" "[I", Cond.fieldLink RX1 15 "TreeDebts$State" "fates" "[I"]
def wsX4_wood : List Cond := .code yX4_wood cX4_wood 2 (some .int) :: ((wsX4_wood_r1 ++ (wsX4_wood_r2 ++ (wsX4_wood_r3 ++ (wsX4_wood_r4 ++ (wsX4_wood_r5 ++ (wsX4_wood_r6 ++ wsX4_wood_r7)))))) ++ wsX40 ++ wsX20 ++ wsX30 ++ wsX10)
def wsX4_tree_r1 : List Cond := [Cond.fieldLink RX4 19 "TreeDebts" "told" "LTreeDebts$Told;", Cond.fieldLink RX4 79 "TreeDebts$Told" "kinds" "[I", Cond.fieldLink RX4 26 "TreeDebts" "now" "LTreeDebts$State;", Cond.fieldLink RX4 83 "TreeDebts$State" "branches" "[I", Cond.fieldLink RX4 86 "TreeDebts$Told" "rates" "[I", Cond.fieldLink RX4 89 "TreeDebts$Told" "terms" "[I", Cond.fieldLink RX4 92 "TreeDebts$Told" "parts" "[I", Cond.fieldLink RX4 99 "TreeDebts$State" "fates" "[I", Cond.methodLink RX4 75 yX3_has, Cond.instanceMethod yX3_has, Cond.selects RX3 yX3_has yX3_has, Cond.initialized RX3, Cond.code yX3_has cX3_has 2 (some .boolean), Cond.fieldLink RX3 37 "TreeDebts$Told" "trees" "I", Cond.methodLink RX4 95 yX1_owedTo, Cond.instanceMethod yX1_owedTo, Cond.selects RX1 yX1_owedTo yX1_owedTo, Cond.initialized RX1, Cond.code yX1_owedTo cX1_owedTo 4 (some .int), Cond.fieldLink RX1 37 "TreeDebts$State" "loans" "I", Cond.fieldLink RX1 18 "TreeDebts$State" "lenders" "[I", Cond.fieldLink RX1 24 "TreeDebts$State" "owed" "[I", Cond.methodLink RX4 102 yX1_isCross, Cond.instanceMethod yX1_isCross]
def wsX4_tree_r2 : List Cond := [Cond.selects RX1 yX1_isCross yX1_isCross, Cond.code yX1_isCross cX1_isCross 5 (some .boolean), Cond.fieldLink RX1 56 "TreeDebts$Told" "quarrels" "I", Cond.fieldLink RX1 59 "TreeDebts$Told" "ones" "[I", Cond.fieldLink RX1 62 "TreeDebts$Told" "others" "[I", Cond.methodLink RX1 52 yX1_owedTo]
def wsX4_tree : List Cond := .code yX4_tree cX4_tree 3 (some .int) :: ((wsX4_tree_r1 ++ wsX4_tree_r2) ++ wsX40 ++ wsX30 ++ wsX10)
def wsX4_loan : List Cond := .code yX4_loan cX4_loan 3 (some .int) :: ([.fieldLink RX4 26 "TreeDebts" "now" "LTreeDebts$State;", .fieldLink RX4 106 "TreeDebts$State" "loans" "I", .fieldLink RX4 109 "TreeDebts$State" "lenders" "[I", .fieldLink RX4 112 "TreeDebts$State" "lent" "[I", .fieldLink RX4 115 "TreeDebts$State" "owed" "[I", .fieldLink RX4 118 "TreeDebts$State" "dues" "[I", .fieldLink RX4 121 "TreeDebts$State" "failed" "[I"] ++ wsX40 ++ wsX10)
def wsX4_as_r1 : List Cond := [Cond.fieldLink RX4 19 "TreeDebts" "told" "LTreeDebts$Told;", Cond.fieldLink RX4 124 "TreeDebts" "OVER" "[I", Cond.methodLink RX4 75 yX3_has, Cond.instanceMethod yX3_has, Cond.selects RX3 yX3_has yX3_has, Cond.initialized RX3, Cond.code yX3_has cX3_has 2 (some .boolean), Cond.fieldLink RX3 37 "TreeDebts$Told" "trees" "I", Cond.methodLink RX4 127 yX3_isOfKind, Cond.instanceMethod yX3_isOfKind, Cond.selects RX3 yX3_isOfKind yX3_isOfKind, Cond.code yX3_isOfKind cX3_isOfKind 5 (some .boolean), Cond.fieldLink RX3 9 "TreeDebts$Told" "kinds" "[I", Cond.methodLink RX4 131 yX3_grownIn, Cond.instanceMethod yX3_grownIn, Cond.selects RX3 yX3_grownIn yX3_grownIn, Cond.code yX3_grownIn cX3_grownIn 6 (some .int), Cond.methodLink RX3 59 yX3_grownOnce, Cond.instanceMethod yX3_grownOnce, Cond.selects RX3 yX3_grownOnce yX3_grownOnce, Cond.code yX3_grownOnce cX3_grownOnce 6 (some .int), Cond.fieldLink RX3 18 "TreeDebts$Told" "rates" "[I", Cond.constant RX3 52 (1000000), Cond.methodLink RX3 53 Lib.Math.min.name]
def wsX4_as_r2 : List Cond := [Cond.static Lib.Math.min.name, Cond.initialized "java/lang/Math", Cond.code Lib.Math.min.name Lib.Math.min.code 2 (some .int)]
def wsX4_as : List Cond := .code yX4_as cX4_as 3 (some .int) :: ((wsX4_as_r1 ++ wsX4_as_r2) ++ wsX40 ++ wsX30)
def wsX4_borrow_r1 : List Cond := [Cond.fieldLink RX4 19 "TreeDebts" "told" "LTreeDebts$Told;", Cond.fieldLink RX4 26 "TreeDebts" "now" "LTreeDebts$State;", Cond.fieldLink RX4 83 "TreeDebts$State" "branches" "[I", Cond.fieldLink RX4 106 "TreeDebts$State" "loans" "I", Cond.methodLink RX4 75 yX3_has, Cond.instanceMethod yX3_has, Cond.selects RX3 yX3_has yX3_has, Cond.initialized RX3, Cond.code yX3_has cX3_has 2 (some .boolean), Cond.fieldLink RX3 37 "TreeDebts$Told" "trees" "I", Cond.methodLink RX4 135 yX1_lends, Cond.instanceMethod yX1_lends, Cond.selects RX1 yX1_lends yX1_lends, Cond.initialized RX1, Cond.code yX1_lends cX1_lends 3 (some .boolean), Cond.fieldLink RX1 15 "TreeDebts$State" "fates" "[I", Cond.methodLink RX1 65 yX1_isCross, Cond.instanceMethod yX1_isCross, Cond.selects RX1 yX1_isCross yX1_isCross, Cond.code yX1_isCross cX1_isCross 5 (some .boolean), Cond.fieldLink RX1 56 "TreeDebts$Told" "quarrels" "I", Cond.fieldLink RX1 59 "TreeDebts$Told" "ones" "[I", Cond.fieldLink RX1 62 "TreeDebts$Told" "others" "[I", Cond.methodLink RX1 52 yX1_owedTo]
def wsX4_borrow_r2 : List Cond := [Cond.instanceMethod yX1_owedTo, Cond.selects RX1 yX1_owedTo yX1_owedTo, Cond.code yX1_owedTo cX1_owedTo 4 (some .int), Cond.fieldLink RX1 37 "TreeDebts$State" "loans" "I", Cond.fieldLink RX1 18 "TreeDebts$State" "lenders" "[I", Cond.fieldLink RX1 24 "TreeDebts$State" "owed" "[I", Cond.methodLink RX4 138 yX1_lend, Cond.instanceMethod yX1_lend, Cond.selects RX1 yX1_lend yX1_lend, Cond.code yX1_lend cX1_lend 5 (some .int), Cond.fieldLink RX1 21 "TreeDebts$State" "lent" "[I", Cond.fieldLink RX1 27 "TreeDebts$State" "dues" "[I", Cond.fieldLink RX1 33 "TreeDebts$State" "day" "I", Cond.fieldLink RX1 30 "TreeDebts$State" "failed" "[I", Cond.fieldLink RX1 9 "TreeDebts$State" "branches" "[I", Cond.methodLink RX1 69 yX3_dueOf, Cond.instanceMethod yX3_dueOf, Cond.selects RX3 yX3_dueOf yX3_dueOf, Cond.code yX3_dueOf cX3_dueOf 3 (some .int), Cond.fieldLink RX3 9 "TreeDebts$Told" "kinds" "[I", Cond.fieldLink RX3 21 "TreeDebts$Told" "terms" "[I"]
def wsX4_borrow : List Cond := .code yX4_borrow cX4_borrow 3 (some .int) :: ((wsX4_borrow_r1 ++ wsX4_borrow_r2) ++ wsX40 ++ wsX10 ++ wsX30)
def wsX4_days_r1 : List Cond := [Cond.fieldLink RX4 26 "TreeDebts" "now" "LTreeDebts$State;", Cond.fieldLink RX4 142 "TreeDebts$State" "day" "I", Cond.fieldLink RX4 19 "TreeDebts" "told" "LTreeDebts$Told;", Cond.fieldLink RX4 145 "TreeDebts$Told" "hands" "I", Cond.methodLink RX4 148 yX1_passDays, Cond.instanceMethod yX1_passDays, Cond.selects RX1 yX1_passDays yX1_passDays, Cond.initialized RX1, Cond.code yX1_passDays cX1_passDays 5 none, Cond.fieldLink RX1 33 "TreeDebts$State" "day" "I", Cond.methodLink RX1 78 yX1_growLoans, Cond.instanceMethod yX1_growLoans, Cond.selects RX1 yX1_growLoans yX1_growLoans, Cond.code yX1_growLoans cX1_growLoans 3 none, Cond.fieldLink RX1 37 "TreeDebts$State" "loans" "I", Cond.fieldLink RX1 24 "TreeDebts$State" "owed" "[I", Cond.fieldLink RX1 18 "TreeDebts$State" "lenders" "[I", Cond.fieldLink RX1 21 "TreeDebts$State" "lent" "[I", Cond.methodLink RX1 89 yX3_grownOnce, Cond.instanceMethod yX3_grownOnce, Cond.selects RX3 yX3_grownOnce yX3_grownOnce, Cond.initialized RX3, Cond.code yX3_grownOnce cX3_grownOnce 6 (some .int), Cond.fieldLink RX3 18 "TreeDebts$Told" "rates" "[I"]
def wsX4_days_r2 : List Cond := [Cond.fieldLink RX3 9 "TreeDebts$Told" "kinds" "[I", Cond.constant RX3 52 (1000000), Cond.methodLink RX3 53 Lib.Math.min.name, Cond.static Lib.Math.min.name, Cond.initialized "java/lang/Math", Cond.code Lib.Math.min.name Lib.Math.min.code 2 (some .int), Cond.methodLink RX1 82 yX1_workOff, Cond.instanceMethod yX1_workOff, Cond.selects RX1 yX1_workOff yX1_workOff, Cond.code yX1_workOff cX1_workOff 6 none, Cond.methodLink RX1 73 Lib.Math.min.name, Cond.methodLink RX1 93 yX1_firstDue, Cond.instanceMethod yX1_firstDue, Cond.selects RX1 yX1_firstDue yX1_firstDue, Cond.code yX1_firstDue cX1_firstDue 3 (some .int), Cond.fieldLink RX1 27 "TreeDebts$State" "dues" "[I", Cond.methodLink RX1 97 yX1_addBranches, Cond.instanceMethod yX1_addBranches, Cond.selects RX1 yX1_addBranches yX1_addBranches, Cond.code yX1_addBranches cX1_addBranches 3 none, Cond.fieldLink RX1 9 "TreeDebts$State" "branches" "[I", Cond.methodLink RX1 101 yX1_removeLoan, Cond.instanceMethod yX1_removeLoan, Cond.selects RX1 yX1_removeLoan yX1_removeLoan]
def wsX4_days_r3 : List Cond := [Cond.code yX1_removeLoan cX1_removeLoan 3 none, Cond.fieldLink RX1 30 "TreeDebts$State" "failed" "[I", Cond.methodLink RX1 86 yX1_failDueLoans, Cond.instanceMethod yX1_failDueLoans, Cond.selects RX1 yX1_failDueLoans yX1_failDueLoans, Cond.code yX1_failDueLoans cX1_failDueLoans 2 none, Cond.fieldLink RX1 40 "TreeDebts$State" "failures" "I"]
def wsX4_days : List Cond := .code yX4_days cX4_days 2 (some .int) :: ((wsX4_days_r1 ++ (wsX4_days_r2 ++ wsX4_days_r3)) ++ wsX40 ++ wsX10 ++ wsX30)
def wsX4_fire : List Cond := .code yX4_fire cX4_fire 2 (some .int) :: ([.fieldLink RX4 26 "TreeDebts" "now" "LTreeDebts$State;", .fieldLink RX4 19 "TreeDebts" "told" "LTreeDebts$Told;", .methodLink RX4 152 yX1_burn, .instanceMethod yX1_burn, .selects RX1 yX1_burn yX1_burn, .initialized RX1, .code yX1_burn cX1_burn 5 (some .int), .fieldLink RX1 104 "TreeDebts$Told" "trees" "I", .fieldLink RX1 107 "TreeDebts$Told" "parts" "[I", .fieldLink RX1 15 "TreeDebts$State" "fates" "[I", .methodLink RX1 110 yX1_removeLoansOf, .instanceMethod yX1_removeLoansOf, .selects RX1 yX1_removeLoansOf yX1_removeLoansOf, .code yX1_removeLoansOf cX1_removeLoansOf 3 none, .fieldLink RX1 37 "TreeDebts$State" "loans" "I", .fieldLink RX1 18 "TreeDebts$State" "lenders" "[I", .methodLink RX1 101 yX1_removeLoan, .instanceMethod yX1_removeLoan, .selects RX1 yX1_removeLoan yX1_removeLoan, .code yX1_removeLoan cX1_removeLoan 3 none, .fieldLink RX1 21 "TreeDebts$State" "lent" "[I", .fieldLink RX1 24 "TreeDebts$State" "owed" "[I", .fieldLink RX1 27 "TreeDebts$State" "dues" "[I", .fieldLink RX1 30 "TreeDebts$State" "failed" "[I"] ++ wsX40 ++ wsX30 ++ wsX10)
def wsX4_sell_r1 : List Cond := [Cond.fieldLink RX4 19 "TreeDebts" "told" "LTreeDebts$Told;", Cond.fieldLink RX4 26 "TreeDebts" "now" "LTreeDebts$State;", Cond.fieldLink RX4 99 "TreeDebts$State" "fates" "[I", Cond.methodLink RX4 75 yX3_has, Cond.instanceMethod yX3_has, Cond.selects RX3 yX3_has yX3_has, Cond.initialized RX3, Cond.code yX3_has cX3_has 2 (some .boolean), Cond.fieldLink RX3 37 "TreeDebts$Told" "trees" "I", Cond.methodLink RX4 156 yX1_handOver, Cond.instanceMethod yX1_handOver, Cond.selects RX1 yX1_handOver yX1_handOver, Cond.initialized RX1, Cond.code yX1_handOver cX1_handOver 5 (some .int), Cond.fieldLink RX1 37 "TreeDebts$State" "loans" "I", Cond.fieldLink RX1 18 "TreeDebts$State" "lenders" "[I", Cond.fieldLink RX1 9 "TreeDebts$State" "branches" "[I", Cond.fieldLink RX1 15 "TreeDebts$State" "fates" "[I", Cond.methodLink RX1 97 yX1_addBranches, Cond.instanceMethod yX1_addBranches, Cond.selects RX1 yX1_addBranches yX1_addBranches, Cond.code yX1_addBranches cX1_addBranches 3 none, Cond.methodLink RX1 73 Lib.Math.min.name, Cond.static Lib.Math.min.name]
def wsX4_sell_r2 : List Cond := [Cond.initialized "java/lang/Math", Cond.code Lib.Math.min.name Lib.Math.min.code 2 (some .int)]
def wsX4_sell : List Cond := .code yX4_sell cX4_sell 3 (some .int) :: ((wsX4_sell_r1 ++ wsX4_sell_r2) ++ wsX40 ++ wsX10 ++ wsX30)
def wsX4_keep : List Cond := .code yX4_keep cX4_keep 2 (some .int) :: ([.fieldLink RX4 33 "TreeDebts" "kept" "[LTreeDebts$State;", .fieldLink RX4 26 "TreeDebts" "now" "LTreeDebts$State;", .fieldLink RX4 37 "TreeDebts" "isKept" "[Z", .fieldLink RX4 142 "TreeDebts$State" "day" "I", .methodLink RX4 160 yX1_copyFrom, .instanceMethod yX1_copyFrom, .selects RX1 yX1_copyFrom yX1_copyFrom, .initialized RX1, .code yX1_copyFrom cX1_copyFrom 2 none, .fieldLink RX1 33 "TreeDebts$State" "day" "I", .fieldLink RX1 9 "TreeDebts$State" "branches" "[I", .methodLink RX1 46 arraycopyName, .native arraycopyName, .static arraycopyName, .initialized "java/lang/System", .fieldLink RX1 15 "TreeDebts$State" "fates" "[I", .fieldLink RX1 37 "TreeDebts$State" "loans" "I", .fieldLink RX1 18 "TreeDebts$State" "lenders" "[I", .fieldLink RX1 21 "TreeDebts$State" "lent" "[I", .fieldLink RX1 24 "TreeDebts$State" "owed" "[I", .fieldLink RX1 27 "TreeDebts$State" "dues" "[I", .fieldLink RX1 30 "TreeDebts$State" "failed" "[I", .fieldLink RX1 40 "TreeDebts$State" "failures" "I"] ++ wsX40 ++ wsX10)
def wsX4_back : List Cond := .code yX4_back cX4_back 2 (some .int) :: ([.fieldLink RX4 33 "TreeDebts" "kept" "[LTreeDebts$State;", .fieldLink RX4 37 "TreeDebts" "isKept" "[Z", .fieldLink RX4 26 "TreeDebts" "now" "LTreeDebts$State;", .fieldLink RX4 142 "TreeDebts$State" "day" "I", .methodLink RX4 160 yX1_copyFrom, .instanceMethod yX1_copyFrom, .selects RX1 yX1_copyFrom yX1_copyFrom, .initialized RX1, .code yX1_copyFrom cX1_copyFrom 2 none, .fieldLink RX1 33 "TreeDebts$State" "day" "I", .fieldLink RX1 9 "TreeDebts$State" "branches" "[I", .methodLink RX1 46 arraycopyName, .native arraycopyName, .static arraycopyName, .initialized "java/lang/System", .fieldLink RX1 15 "TreeDebts$State" "fates" "[I", .fieldLink RX1 37 "TreeDebts$State" "loans" "I", .fieldLink RX1 18 "TreeDebts$State" "lenders" "[I", .fieldLink RX1 21 "TreeDebts$State" "lent" "[I", .fieldLink RX1 24 "TreeDebts$State" "owed" "[I", .fieldLink RX1 27 "TreeDebts$State" "dues" "[I", .fieldLink RX1 30 "TreeDebts$State" "failed" "[I", .fieldLink RX1 40 "TreeDebts$State" "failures" "I"] ++ wsX40 ++ wsX10)
def wsX4_foretell_r1 : List Cond := [Cond.fieldLink RX4 30 "TreeDebts" "foretold" "LTreeDebts$State;", Cond.fieldLink RX4 26 "TreeDebts" "now" "LTreeDebts$State;", Cond.fieldLink RX4 19 "TreeDebts" "told" "LTreeDebts$Told;", Cond.fieldLink RX4 145 "TreeDebts$Told" "hands" "I", Cond.methodLink RX4 160 yX1_copyFrom, Cond.instanceMethod yX1_copyFrom, Cond.selects RX1 yX1_copyFrom yX1_copyFrom, Cond.initialized RX1, Cond.code yX1_copyFrom cX1_copyFrom 2 none, Cond.fieldLink RX1 33 "TreeDebts$State" "day" "I", Cond.fieldLink RX1 9 "TreeDebts$State" "branches" "[I", Cond.methodLink RX1 46 arraycopyName, Cond.native arraycopyName, Cond.static arraycopyName, Cond.initialized "java/lang/System", Cond.fieldLink RX1 15 "TreeDebts$State" "fates" "[I", Cond.fieldLink RX1 37 "TreeDebts$State" "loans" "I", Cond.fieldLink RX1 18 "TreeDebts$State" "lenders" "[I", Cond.fieldLink RX1 21 "TreeDebts$State" "lent" "[I", Cond.fieldLink RX1 24 "TreeDebts$State" "owed" "[I", Cond.fieldLink RX1 27 "TreeDebts$State" "dues" "[I", Cond.fieldLink RX1 30 "TreeDebts$State" "failed" "[I", Cond.fieldLink RX1 40 "TreeDebts$State" "failures" "I", Cond.methodLink RX4 148 yX1_passDays]
def wsX4_foretell_r2 : List Cond := [Cond.instanceMethod yX1_passDays, Cond.selects RX1 yX1_passDays yX1_passDays, Cond.code yX1_passDays cX1_passDays 5 none, Cond.methodLink RX1 78 yX1_growLoans, Cond.instanceMethod yX1_growLoans, Cond.selects RX1 yX1_growLoans yX1_growLoans, Cond.code yX1_growLoans cX1_growLoans 3 none, Cond.methodLink RX1 89 yX3_grownOnce, Cond.instanceMethod yX3_grownOnce, Cond.selects RX3 yX3_grownOnce yX3_grownOnce, Cond.initialized RX3, Cond.code yX3_grownOnce cX3_grownOnce 6 (some .int), Cond.fieldLink RX3 18 "TreeDebts$Told" "rates" "[I", Cond.fieldLink RX3 9 "TreeDebts$Told" "kinds" "[I", Cond.constant RX3 52 (1000000), Cond.methodLink RX3 53 Lib.Math.min.name, Cond.static Lib.Math.min.name, Cond.initialized "java/lang/Math", Cond.code Lib.Math.min.name Lib.Math.min.code 2 (some .int), Cond.methodLink RX1 82 yX1_workOff, Cond.instanceMethod yX1_workOff, Cond.selects RX1 yX1_workOff yX1_workOff, Cond.code yX1_workOff cX1_workOff 6 none, Cond.methodLink RX1 73 Lib.Math.min.name]
def wsX4_foretell_r3 : List Cond := [Cond.methodLink RX1 93 yX1_firstDue, Cond.instanceMethod yX1_firstDue, Cond.selects RX1 yX1_firstDue yX1_firstDue, Cond.code yX1_firstDue cX1_firstDue 3 (some .int), Cond.methodLink RX1 97 yX1_addBranches, Cond.instanceMethod yX1_addBranches, Cond.selects RX1 yX1_addBranches yX1_addBranches, Cond.code yX1_addBranches cX1_addBranches 3 none, Cond.methodLink RX1 101 yX1_removeLoan, Cond.instanceMethod yX1_removeLoan, Cond.selects RX1 yX1_removeLoan yX1_removeLoan, Cond.code yX1_removeLoan cX1_removeLoan 3 none, Cond.methodLink RX1 86 yX1_failDueLoans, Cond.instanceMethod yX1_failDueLoans, Cond.selects RX1 yX1_failDueLoans yX1_failDueLoans, Cond.code yX1_failDueLoans cX1_failDueLoans 2 none]
def wsX4_foretell : List Cond := .code yX4_foretell cX4_foretell 2 none :: ((wsX4_foretell_r1 ++ (wsX4_foretell_r2 ++ wsX4_foretell_r3)) ++ wsX40 ++ wsX30 ++ wsX10)
def wsX4_later_r1 : List Cond := [Cond.fieldLink RX4 19 "TreeDebts" "told" "LTreeDebts$Told;", Cond.fieldLink RX4 30 "TreeDebts" "foretold" "LTreeDebts$State;", Cond.methodLink RX4 75 yX3_has, Cond.instanceMethod yX3_has, Cond.selects RX3 yX3_has yX3_has, Cond.initialized RX3, Cond.code yX3_has cX3_has 2 (some .boolean), Cond.fieldLink RX3 37 "TreeDebts$Told" "trees" "I", Cond.methodLink RX4 163 yX4_foretell, Cond.instanceMethod yX4_foretell, Cond.selects RX4 yX4_foretell yX4_foretell, Cond.initialized RX4, Cond.code yX4_foretell cX4_foretell 2 none, Cond.fieldLink RX4 26 "TreeDebts" "now" "LTreeDebts$State;", Cond.fieldLink RX4 145 "TreeDebts$Told" "hands" "I", Cond.methodLink RX4 160 yX1_copyFrom, Cond.instanceMethod yX1_copyFrom, Cond.selects RX1 yX1_copyFrom yX1_copyFrom, Cond.initialized RX1, Cond.code yX1_copyFrom cX1_copyFrom 2 none, Cond.fieldLink RX1 33 "TreeDebts$State" "day" "I", Cond.fieldLink RX1 9 "TreeDebts$State" "branches" "[I", Cond.methodLink RX1 46 arraycopyName, Cond.native arraycopyName]
def wsX4_later_r2 : List Cond := [Cond.static arraycopyName, Cond.initialized "java/lang/System", Cond.fieldLink RX1 15 "TreeDebts$State" "fates" "[I", Cond.fieldLink RX1 37 "TreeDebts$State" "loans" "I", Cond.fieldLink RX1 18 "TreeDebts$State" "lenders" "[I", Cond.fieldLink RX1 21 "TreeDebts$State" "lent" "[I", Cond.fieldLink RX1 24 "TreeDebts$State" "owed" "[I", Cond.fieldLink RX1 27 "TreeDebts$State" "dues" "[I", Cond.fieldLink RX1 30 "TreeDebts$State" "failed" "[I", Cond.fieldLink RX1 40 "TreeDebts$State" "failures" "I", Cond.methodLink RX4 148 yX1_passDays, Cond.instanceMethod yX1_passDays, Cond.selects RX1 yX1_passDays yX1_passDays, Cond.code yX1_passDays cX1_passDays 5 none, Cond.methodLink RX1 78 yX1_growLoans, Cond.instanceMethod yX1_growLoans, Cond.selects RX1 yX1_growLoans yX1_growLoans, Cond.code yX1_growLoans cX1_growLoans 3 none, Cond.methodLink RX1 89 yX3_grownOnce, Cond.instanceMethod yX3_grownOnce, Cond.selects RX3 yX3_grownOnce yX3_grownOnce, Cond.code yX3_grownOnce cX3_grownOnce 6 (some .int), Cond.fieldLink RX3 18 "TreeDebts$Told" "rates" "[I", Cond.fieldLink RX3 9 "TreeDebts$Told" "kinds" "[I"]
def wsX4_later_r3 : List Cond := [Cond.constant RX3 52 (1000000), Cond.methodLink RX3 53 Lib.Math.min.name, Cond.static Lib.Math.min.name, Cond.initialized "java/lang/Math", Cond.code Lib.Math.min.name Lib.Math.min.code 2 (some .int), Cond.methodLink RX1 82 yX1_workOff, Cond.instanceMethod yX1_workOff, Cond.selects RX1 yX1_workOff yX1_workOff, Cond.code yX1_workOff cX1_workOff 6 none, Cond.methodLink RX1 73 Lib.Math.min.name, Cond.methodLink RX1 93 yX1_firstDue, Cond.instanceMethod yX1_firstDue, Cond.selects RX1 yX1_firstDue yX1_firstDue, Cond.code yX1_firstDue cX1_firstDue 3 (some .int), Cond.methodLink RX1 97 yX1_addBranches, Cond.instanceMethod yX1_addBranches, Cond.selects RX1 yX1_addBranches yX1_addBranches, Cond.code yX1_addBranches cX1_addBranches 3 none, Cond.methodLink RX1 101 yX1_removeLoan, Cond.instanceMethod yX1_removeLoan, Cond.selects RX1 yX1_removeLoan yX1_removeLoan, Cond.code yX1_removeLoan cX1_removeLoan 3 none, Cond.methodLink RX1 86 yX1_failDueLoans, Cond.instanceMethod yX1_failDueLoans]
def wsX4_later_r4 : List Cond := [Cond.selects RX1 yX1_failDueLoans yX1_failDueLoans, Cond.code yX1_failDueLoans cX1_failDueLoans 2 none, Cond.methodLink RX4 95 yX1_owedTo, Cond.instanceMethod yX1_owedTo, Cond.selects RX1 yX1_owedTo yX1_owedTo, Cond.code yX1_owedTo cX1_owedTo 4 (some .int)]
def wsX4_later : List Cond := .code yX4_later cX4_later 3 (some .int) :: ((wsX4_later_r1 ++ (wsX4_later_r2 ++ (wsX4_later_r3 ++ wsX4_later_r4))) ++ wsX40 ++ wsX30 ++ wsX10)
def wsX4_all_r1 : List Cond := [Cond.fieldLink RX4 30 "TreeDebts" "foretold" "LTreeDebts$State;", Cond.fieldLink RX4 170 "TreeDebts$State" "failures" "I", Cond.methodLink RX4 163 yX4_foretell, Cond.instanceMethod yX4_foretell, Cond.selects RX4 yX4_foretell yX4_foretell, Cond.initialized RX4, Cond.code yX4_foretell cX4_foretell 2 none, Cond.fieldLink RX4 26 "TreeDebts" "now" "LTreeDebts$State;", Cond.fieldLink RX4 19 "TreeDebts" "told" "LTreeDebts$Told;", Cond.fieldLink RX4 145 "TreeDebts$Told" "hands" "I", Cond.methodLink RX4 160 yX1_copyFrom, Cond.instanceMethod yX1_copyFrom, Cond.selects RX1 yX1_copyFrom yX1_copyFrom, Cond.initialized RX1, Cond.code yX1_copyFrom cX1_copyFrom 2 none, Cond.fieldLink RX1 33 "TreeDebts$State" "day" "I", Cond.fieldLink RX1 9 "TreeDebts$State" "branches" "[I", Cond.methodLink RX1 46 arraycopyName, Cond.native arraycopyName, Cond.static arraycopyName, Cond.initialized "java/lang/System", Cond.fieldLink RX1 15 "TreeDebts$State" "fates" "[I", Cond.fieldLink RX1 37 "TreeDebts$State" "loans" "I", Cond.fieldLink RX1 18 "TreeDebts$State" "lenders" "[I"]
def wsX4_all_r2 : List Cond := [Cond.fieldLink RX1 21 "TreeDebts$State" "lent" "[I", Cond.fieldLink RX1 24 "TreeDebts$State" "owed" "[I", Cond.fieldLink RX1 27 "TreeDebts$State" "dues" "[I", Cond.fieldLink RX1 30 "TreeDebts$State" "failed" "[I", Cond.fieldLink RX1 40 "TreeDebts$State" "failures" "I", Cond.methodLink RX4 148 yX1_passDays, Cond.instanceMethod yX1_passDays, Cond.selects RX1 yX1_passDays yX1_passDays, Cond.code yX1_passDays cX1_passDays 5 none, Cond.methodLink RX1 78 yX1_growLoans, Cond.instanceMethod yX1_growLoans, Cond.selects RX1 yX1_growLoans yX1_growLoans, Cond.code yX1_growLoans cX1_growLoans 3 none, Cond.methodLink RX1 89 yX3_grownOnce, Cond.instanceMethod yX3_grownOnce, Cond.selects RX3 yX3_grownOnce yX3_grownOnce, Cond.initialized RX3, Cond.code yX3_grownOnce cX3_grownOnce 6 (some .int), Cond.fieldLink RX3 18 "TreeDebts$Told" "rates" "[I", Cond.fieldLink RX3 9 "TreeDebts$Told" "kinds" "[I", Cond.constant RX3 52 (1000000), Cond.methodLink RX3 53 Lib.Math.min.name, Cond.static Lib.Math.min.name, Cond.initialized "java/lang/Math"]
def wsX4_all_r3 : List Cond := [Cond.code Lib.Math.min.name Lib.Math.min.code 2 (some .int), Cond.methodLink RX1 82 yX1_workOff, Cond.instanceMethod yX1_workOff, Cond.selects RX1 yX1_workOff yX1_workOff, Cond.code yX1_workOff cX1_workOff 6 none, Cond.methodLink RX1 73 Lib.Math.min.name, Cond.methodLink RX1 93 yX1_firstDue, Cond.instanceMethod yX1_firstDue, Cond.selects RX1 yX1_firstDue yX1_firstDue, Cond.code yX1_firstDue cX1_firstDue 3 (some .int), Cond.methodLink RX1 97 yX1_addBranches, Cond.instanceMethod yX1_addBranches, Cond.selects RX1 yX1_addBranches yX1_addBranches, Cond.code yX1_addBranches cX1_addBranches 3 none, Cond.methodLink RX1 101 yX1_removeLoan, Cond.instanceMethod yX1_removeLoan, Cond.selects RX1 yX1_removeLoan yX1_removeLoan, Cond.code yX1_removeLoan cX1_removeLoan 3 none, Cond.methodLink RX1 86 yX1_failDueLoans, Cond.instanceMethod yX1_failDueLoans, Cond.selects RX1 yX1_failDueLoans yX1_failDueLoans, Cond.code yX1_failDueLoans cX1_failDueLoans 2 none, Cond.methodLink RX4 166 yX1_owedInAll, Cond.instanceMethod yX1_owedInAll]
def wsX4_all_r4 : List Cond := [Cond.selects RX1 yX1_owedInAll yX1_owedInAll, Cond.code yX1_owedInAll cX1_owedInAll 3 (some .int)]
def wsX4_all : List Cond := .code yX4_all cX4_all 3 (some .int) :: ((wsX4_all_r1 ++ (wsX4_all_r2 ++ (wsX4_all_r3 ++ wsX4_all_r4))) ++ wsX40 ++ wsX10 ++ wsX30)
def wsX4_clear_r1 : List Cond := [Cond.fieldLink RX4 30 "TreeDebts" "foretold" "LTreeDebts$State;", Cond.fieldLink RX4 106 "TreeDebts$State" "loans" "I", Cond.fieldLink RX4 19 "TreeDebts" "told" "LTreeDebts$Told;", Cond.fieldLink RX4 145 "TreeDebts$Told" "hands" "I", Cond.methodLink RX4 163 yX4_foretell, Cond.instanceMethod yX4_foretell, Cond.selects RX4 yX4_foretell yX4_foretell, Cond.initialized RX4, Cond.code yX4_foretell cX4_foretell 2 none, Cond.fieldLink RX4 26 "TreeDebts" "now" "LTreeDebts$State;", Cond.methodLink RX4 160 yX1_copyFrom, Cond.instanceMethod yX1_copyFrom, Cond.selects RX1 yX1_copyFrom yX1_copyFrom, Cond.initialized RX1, Cond.code yX1_copyFrom cX1_copyFrom 2 none, Cond.fieldLink RX1 33 "TreeDebts$State" "day" "I", Cond.fieldLink RX1 9 "TreeDebts$State" "branches" "[I", Cond.methodLink RX1 46 arraycopyName, Cond.native arraycopyName, Cond.static arraycopyName, Cond.initialized "java/lang/System", Cond.fieldLink RX1 15 "TreeDebts$State" "fates" "[I", Cond.fieldLink RX1 37 "TreeDebts$State" "loans" "I", Cond.fieldLink RX1 18 "TreeDebts$State" "lenders" "[I"]
def wsX4_clear_r2 : List Cond := [Cond.fieldLink RX1 21 "TreeDebts$State" "lent" "[I", Cond.fieldLink RX1 24 "TreeDebts$State" "owed" "[I", Cond.fieldLink RX1 27 "TreeDebts$State" "dues" "[I", Cond.fieldLink RX1 30 "TreeDebts$State" "failed" "[I", Cond.fieldLink RX1 40 "TreeDebts$State" "failures" "I", Cond.methodLink RX4 148 yX1_passDays, Cond.instanceMethod yX1_passDays, Cond.selects RX1 yX1_passDays yX1_passDays, Cond.code yX1_passDays cX1_passDays 5 none, Cond.methodLink RX1 78 yX1_growLoans, Cond.instanceMethod yX1_growLoans, Cond.selects RX1 yX1_growLoans yX1_growLoans, Cond.code yX1_growLoans cX1_growLoans 3 none, Cond.methodLink RX1 89 yX3_grownOnce, Cond.instanceMethod yX3_grownOnce, Cond.selects RX3 yX3_grownOnce yX3_grownOnce, Cond.initialized RX3, Cond.code yX3_grownOnce cX3_grownOnce 6 (some .int), Cond.fieldLink RX3 18 "TreeDebts$Told" "rates" "[I", Cond.fieldLink RX3 9 "TreeDebts$Told" "kinds" "[I", Cond.constant RX3 52 (1000000), Cond.methodLink RX3 53 Lib.Math.min.name, Cond.static Lib.Math.min.name, Cond.initialized "java/lang/Math"]
def wsX4_clear_r3 : List Cond := [Cond.code Lib.Math.min.name Lib.Math.min.code 2 (some .int), Cond.methodLink RX1 82 yX1_workOff, Cond.instanceMethod yX1_workOff, Cond.selects RX1 yX1_workOff yX1_workOff, Cond.code yX1_workOff cX1_workOff 6 none, Cond.methodLink RX1 73 Lib.Math.min.name, Cond.methodLink RX1 93 yX1_firstDue, Cond.instanceMethod yX1_firstDue, Cond.selects RX1 yX1_firstDue yX1_firstDue, Cond.code yX1_firstDue cX1_firstDue 3 (some .int), Cond.methodLink RX1 97 yX1_addBranches, Cond.instanceMethod yX1_addBranches, Cond.selects RX1 yX1_addBranches yX1_addBranches, Cond.code yX1_addBranches cX1_addBranches 3 none, Cond.methodLink RX1 101 yX1_removeLoan, Cond.instanceMethod yX1_removeLoan, Cond.selects RX1 yX1_removeLoan yX1_removeLoan, Cond.code yX1_removeLoan cX1_removeLoan 3 none, Cond.methodLink RX1 86 yX1_failDueLoans, Cond.instanceMethod yX1_failDueLoans, Cond.selects RX1 yX1_failDueLoans yX1_failDueLoans, Cond.code yX1_failDueLoans cX1_failDueLoans 2 none]
def wsX4_clear : List Cond := .code yX4_clear cX4_clear 2 (some .int) :: ((wsX4_clear_r1 ++ (wsX4_clear_r2 ++ wsX4_clear_r3)) ++ wsX40 ++ wsX10 ++ wsX30)
def wsX4_hut_r1 : List Cond := [Cond.fieldLink RX4 19 "TreeDebts" "told" "LTreeDebts$Told;", Cond.fieldLink RX4 44 "TreeDebts" "hutPlan" "LTreeDebts$HutPlan;", Cond.fieldLink RX4 26 "TreeDebts" "now" "LTreeDebts$State;", Cond.fieldLink RX4 180 "TreeDebts$HutPlan" "from" "[I", Cond.methodLink RX4 75 yX3_has, Cond.instanceMethod yX3_has, Cond.selects RX3 yX3_has yX3_has, Cond.initialized RX3, Cond.code yX3_has cX3_has 2 (some .boolean), Cond.fieldLink RX3 37 "TreeDebts$Told" "trees" "I", Cond.methodLink RX4 173 yX0_find, Cond.instanceMethod yX0_find, Cond.selects RX0 yX0_find yX0_find, Cond.initialized RX0, Cond.code yX0_find cX0_find 8 (some .boolean), Cond.fieldLink RX0 26 "TreeDebts$HutPlan" "hutBranches" "I", Cond.fieldLink RX0 11 "TreeDebts$HutPlan" "least" "[[I", Cond.fieldLink RX0 30 "TreeDebts$Told" "trees" "I", Cond.constant RX0 35 (100000000), Cond.fieldLink RX0 42 "TreeDebts$State" "branches" "[I", Cond.methodLink RX0 45 Lib.Math.min.name, Cond.static Lib.Math.min.name, Cond.initialized "java/lang/Math", Cond.code Lib.Math.min.name Lib.Math.min.code 2 (some .int)]
def wsX4_hut_r2 : List Cond := [Cond.fieldLink RX0 19 "TreeDebts$HutPlan" "costs" "[I", Cond.methodLink RX0 36 yX1_lends, Cond.instanceMethod yX1_lends, Cond.selects RX1 yX1_lends yX1_lends, Cond.initialized RX1, Cond.code yX1_lends cX1_lends 3 (some .boolean), Cond.fieldLink RX1 15 "TreeDebts$State" "fates" "[I", Cond.methodLink RX1 65 yX1_isCross, Cond.instanceMethod yX1_isCross, Cond.selects RX1 yX1_isCross yX1_isCross, Cond.code yX1_isCross cX1_isCross 5 (some .boolean), Cond.fieldLink RX1 56 "TreeDebts$Told" "quarrels" "I", Cond.fieldLink RX1 59 "TreeDebts$Told" "ones" "[I", Cond.fieldLink RX1 62 "TreeDebts$Told" "others" "[I", Cond.methodLink RX1 52 yX1_owedTo, Cond.instanceMethod yX1_owedTo, Cond.selects RX1 yX1_owedTo yX1_owedTo, Cond.code yX1_owedTo cX1_owedTo 4 (some .int), Cond.fieldLink RX1 37 "TreeDebts$State" "loans" "I", Cond.fieldLink RX1 18 "TreeDebts$State" "lenders" "[I", Cond.fieldLink RX1 24 "TreeDebts$State" "owed" "[I", Cond.methodLink RX0 51 yX3_grownIn, Cond.instanceMethod yX3_grownIn, Cond.selects RX3 yX3_grownIn yX3_grownIn]
def wsX4_hut_r3 : List Cond := [Cond.code yX3_grownIn cX3_grownIn 6 (some .int), Cond.methodLink RX3 59 yX3_grownOnce, Cond.instanceMethod yX3_grownOnce, Cond.selects RX3 yX3_grownOnce yX3_grownOnce, Cond.code yX3_grownOnce cX3_grownOnce 6 (some .int), Cond.fieldLink RX3 18 "TreeDebts$Told" "rates" "[I", Cond.fieldLink RX3 9 "TreeDebts$Told" "kinds" "[I", Cond.constant RX3 52 (1000000), Cond.methodLink RX3 53 Lib.Math.min.name, Cond.methodLink RX0 55 yX0_chooseFrom, Cond.instanceMethod yX0_chooseFrom, Cond.selects RX0 yX0_chooseFrom yX0_chooseFrom, Cond.code yX0_chooseFrom cX0_chooseFrom 8 none, Cond.fieldLink RX0 16 "TreeDebts$HutPlan" "choice" "[[I", Cond.methodLink RX0 59 yX0_owedTogether, Cond.instanceMethod yX0_owedTogether, Cond.selects RX0 yX0_owedTogether yX0_owedTogether, Cond.code yX0_owedTogether cX0_owedTogether 1 (some .int), Cond.methodLink RX0 63 yX0_followChoices, Cond.instanceMethod yX0_followChoices, Cond.selects RX0 yX0_followChoices yX0_followChoices, Cond.code yX0_followChoices cX0_followChoices 4 none, Cond.fieldLink RX0 23 "TreeDebts$HutPlan" "from" "[I", Cond.methodLink RX4 177 yX0_owedTogether]
def wsX4_hut : List Cond := .code yX4_hut cX4_hut 4 (some .int) :: ((wsX4_hut_r1 ++ (wsX4_hut_r2 ++ wsX4_hut_r3)) ++ wsX40 ++ wsX00 ++ wsX30 ++ wsX10)
def wsX4_anyFails_r1 : List Cond := [Cond.fieldLink RX4 30 "TreeDebts" "foretold" "LTreeDebts$State;", Cond.fieldLink RX4 26 "TreeDebts" "now" "LTreeDebts$State;", Cond.fieldLink RX4 19 "TreeDebts" "told" "LTreeDebts$Told;", Cond.fieldLink RX4 170 "TreeDebts$State" "failures" "I", Cond.methodLink RX4 160 yX1_copyFrom, Cond.instanceMethod yX1_copyFrom, Cond.selects RX1 yX1_copyFrom yX1_copyFrom, Cond.initialized RX1, Cond.code yX1_copyFrom cX1_copyFrom 2 none, Cond.fieldLink RX1 33 "TreeDebts$State" "day" "I", Cond.fieldLink RX1 9 "TreeDebts$State" "branches" "[I", Cond.methodLink RX1 46 arraycopyName, Cond.native arraycopyName, Cond.static arraycopyName, Cond.initialized "java/lang/System", Cond.fieldLink RX1 15 "TreeDebts$State" "fates" "[I", Cond.fieldLink RX1 37 "TreeDebts$State" "loans" "I", Cond.fieldLink RX1 18 "TreeDebts$State" "lenders" "[I", Cond.fieldLink RX1 21 "TreeDebts$State" "lent" "[I", Cond.fieldLink RX1 24 "TreeDebts$State" "owed" "[I", Cond.fieldLink RX1 27 "TreeDebts$State" "dues" "[I", Cond.fieldLink RX1 30 "TreeDebts$State" "failed" "[I", Cond.fieldLink RX1 40 "TreeDebts$State" "failures" "I", Cond.methodLink RX4 148 yX1_passDays]
def wsX4_anyFails_r2 : List Cond := [Cond.instanceMethod yX1_passDays, Cond.selects RX1 yX1_passDays yX1_passDays, Cond.code yX1_passDays cX1_passDays 5 none, Cond.methodLink RX1 78 yX1_growLoans, Cond.instanceMethod yX1_growLoans, Cond.selects RX1 yX1_growLoans yX1_growLoans, Cond.code yX1_growLoans cX1_growLoans 3 none, Cond.methodLink RX1 89 yX3_grownOnce, Cond.instanceMethod yX3_grownOnce, Cond.selects RX3 yX3_grownOnce yX3_grownOnce, Cond.initialized RX3, Cond.code yX3_grownOnce cX3_grownOnce 6 (some .int), Cond.fieldLink RX3 18 "TreeDebts$Told" "rates" "[I", Cond.fieldLink RX3 9 "TreeDebts$Told" "kinds" "[I", Cond.constant RX3 52 (1000000), Cond.methodLink RX3 53 Lib.Math.min.name, Cond.static Lib.Math.min.name, Cond.initialized "java/lang/Math", Cond.code Lib.Math.min.name Lib.Math.min.code 2 (some .int), Cond.methodLink RX1 82 yX1_workOff, Cond.instanceMethod yX1_workOff, Cond.selects RX1 yX1_workOff yX1_workOff, Cond.code yX1_workOff cX1_workOff 6 none, Cond.methodLink RX1 73 Lib.Math.min.name]
def wsX4_anyFails_r3 : List Cond := [Cond.methodLink RX1 93 yX1_firstDue, Cond.instanceMethod yX1_firstDue, Cond.selects RX1 yX1_firstDue yX1_firstDue, Cond.code yX1_firstDue cX1_firstDue 3 (some .int), Cond.methodLink RX1 97 yX1_addBranches, Cond.instanceMethod yX1_addBranches, Cond.selects RX1 yX1_addBranches yX1_addBranches, Cond.code yX1_addBranches cX1_addBranches 3 none, Cond.methodLink RX1 101 yX1_removeLoan, Cond.instanceMethod yX1_removeLoan, Cond.selects RX1 yX1_removeLoan yX1_removeLoan, Cond.code yX1_removeLoan cX1_removeLoan 3 none, Cond.methodLink RX1 86 yX1_failDueLoans, Cond.instanceMethod yX1_failDueLoans, Cond.selects RX1 yX1_failDueLoans yX1_failDueLoans, Cond.code yX1_failDueLoans cX1_failDueLoans 2 none]
def wsX4_anyFails : List Cond := .code yX4_anyFails cX4_anyFails 4 (some .boolean) :: ((wsX4_anyFails_r1 ++ (wsX4_anyFails_r2 ++ wsX4_anyFails_r3)) ++ wsX40 ++ wsX10 ++ wsX30)
def wsX4_enough_r1 : List Cond := [Cond.methodLink RX4 183 yX4_anyFails, Cond.instanceMethod yX4_anyFails, Cond.selects RX4 yX4_anyFails yX4_anyFails, Cond.initialized RX4, Cond.code yX4_anyFails cX4_anyFails 4 (some .boolean), Cond.fieldLink RX4 30 "TreeDebts" "foretold" "LTreeDebts$State;", Cond.fieldLink RX4 26 "TreeDebts" "now" "LTreeDebts$State;", Cond.fieldLink RX4 19 "TreeDebts" "told" "LTreeDebts$Told;", Cond.fieldLink RX4 170 "TreeDebts$State" "failures" "I", Cond.methodLink RX4 160 yX1_copyFrom, Cond.instanceMethod yX1_copyFrom, Cond.selects RX1 yX1_copyFrom yX1_copyFrom, Cond.initialized RX1, Cond.code yX1_copyFrom cX1_copyFrom 2 none, Cond.fieldLink RX1 33 "TreeDebts$State" "day" "I", Cond.fieldLink RX1 9 "TreeDebts$State" "branches" "[I", Cond.methodLink RX1 46 arraycopyName, Cond.native arraycopyName, Cond.static arraycopyName, Cond.initialized "java/lang/System", Cond.fieldLink RX1 15 "TreeDebts$State" "fates" "[I", Cond.fieldLink RX1 37 "TreeDebts$State" "loans" "I", Cond.fieldLink RX1 18 "TreeDebts$State" "lenders" "[I", Cond.fieldLink RX1 21 "TreeDebts$State" "lent" "[I"]
def wsX4_enough_r2 : List Cond := [Cond.fieldLink RX1 24 "TreeDebts$State" "owed" "[I", Cond.fieldLink RX1 27 "TreeDebts$State" "dues" "[I", Cond.fieldLink RX1 30 "TreeDebts$State" "failed" "[I", Cond.fieldLink RX1 40 "TreeDebts$State" "failures" "I", Cond.methodLink RX4 148 yX1_passDays, Cond.instanceMethod yX1_passDays, Cond.selects RX1 yX1_passDays yX1_passDays, Cond.code yX1_passDays cX1_passDays 5 none, Cond.methodLink RX1 78 yX1_growLoans, Cond.instanceMethod yX1_growLoans, Cond.selects RX1 yX1_growLoans yX1_growLoans, Cond.code yX1_growLoans cX1_growLoans 3 none, Cond.methodLink RX1 89 yX3_grownOnce, Cond.instanceMethod yX3_grownOnce, Cond.selects RX3 yX3_grownOnce yX3_grownOnce, Cond.initialized RX3, Cond.code yX3_grownOnce cX3_grownOnce 6 (some .int), Cond.fieldLink RX3 18 "TreeDebts$Told" "rates" "[I", Cond.fieldLink RX3 9 "TreeDebts$Told" "kinds" "[I", Cond.constant RX3 52 (1000000), Cond.methodLink RX3 53 Lib.Math.min.name, Cond.static Lib.Math.min.name, Cond.initialized "java/lang/Math", Cond.code Lib.Math.min.name Lib.Math.min.code 2 (some .int)]
def wsX4_enough_r3 : List Cond := [Cond.methodLink RX1 82 yX1_workOff, Cond.instanceMethod yX1_workOff, Cond.selects RX1 yX1_workOff yX1_workOff, Cond.code yX1_workOff cX1_workOff 6 none, Cond.methodLink RX1 73 Lib.Math.min.name, Cond.methodLink RX1 93 yX1_firstDue, Cond.instanceMethod yX1_firstDue, Cond.selects RX1 yX1_firstDue yX1_firstDue, Cond.code yX1_firstDue cX1_firstDue 3 (some .int), Cond.methodLink RX1 97 yX1_addBranches, Cond.instanceMethod yX1_addBranches, Cond.selects RX1 yX1_addBranches yX1_addBranches, Cond.code yX1_addBranches cX1_addBranches 3 none, Cond.methodLink RX1 101 yX1_removeLoan, Cond.instanceMethod yX1_removeLoan, Cond.selects RX1 yX1_removeLoan yX1_removeLoan, Cond.code yX1_removeLoan cX1_removeLoan 3 none, Cond.methodLink RX1 86 yX1_failDueLoans, Cond.instanceMethod yX1_failDueLoans, Cond.selects RX1 yX1_failDueLoans yX1_failDueLoans, Cond.code yX1_failDueLoans cX1_failDueLoans 2 none]
def wsX4_enough : List Cond := .code yX4_enough cX4_enough 6 (some .int) :: ((wsX4_enough_r1 ++ (wsX4_enough_r2 ++ wsX4_enough_r3)) ++ wsX40 ++ wsX10 ++ wsX30)
def wsX4_commonWithTen : List Cond := .code yX4_commonWithTen cX4_commonWithTen 1 (some .int) :: ([])
def wsX4_rid : List Cond := .code yX4_rid cX4_rid 7 (some .int) :: ([.fieldLink RX4 26 "TreeDebts" "now" "LTreeDebts$State;", .fieldLink RX4 19 "TreeDebts" "told" "LTreeDebts$Told;", .methodLink RX4 186 yX4_commonWithTen, .static yX4_commonWithTen, .initialized RX4, .code yX4_commonWithTen cX4_commonWithTen 1 (some .int), .methodLink RX4 189 yX1_partsWithLoans, .instanceMethod yX1_partsWithLoans, .selects RX1 yX1_partsWithLoans yX1_partsWithLoans, .initialized RX1, .code yX1_partsWithLoans cX1_partsWithLoans 4 (some .int), .fieldLink RX1 37 "TreeDebts$State" "loans" "I", .fieldLink RX1 107 "TreeDebts$Told" "parts" "[I", .fieldLink RX1 18 "TreeDebts$State" "lenders" "[I", .methodLink RX1 113 yJ6_bitCount_0f7a4, .static yJ6_bitCount_0f7a4, .initialized RJ6, .code yJ6_bitCount_0f7a4 cJ6_bitCount_0f7a4 1 (some .int), .constant RJ6 265 (1431655765), .constant RJ6 266 (858993459), .constant RJ6 267 (252645135)] ++ wsX40 ++ wsX10 ++ wsX30)
def wsX4_grandson_r1 : List Cond := [Cond.fieldLink RX4 19 "TreeDebts" "told" "LTreeDebts$Told;", Cond.fieldLink RX4 192 "TreeDebts$Told" "trees" "I", Cond.fieldLink RX4 30 "TreeDebts" "foretold" "LTreeDebts$State;", Cond.fieldLink RX4 99 "TreeDebts$State" "fates" "[I", Cond.fieldLink RX4 83 "TreeDebts$State" "branches" "[I", Cond.methodLink RX4 163 yX4_foretell, Cond.instanceMethod yX4_foretell, Cond.selects RX4 yX4_foretell yX4_foretell, Cond.initialized RX4, Cond.code yX4_foretell cX4_foretell 2 none, Cond.fieldLink RX4 26 "TreeDebts" "now" "LTreeDebts$State;", Cond.fieldLink RX4 145 "TreeDebts$Told" "hands" "I", Cond.methodLink RX4 160 yX1_copyFrom, Cond.instanceMethod yX1_copyFrom, Cond.selects RX1 yX1_copyFrom yX1_copyFrom, Cond.initialized RX1, Cond.code yX1_copyFrom cX1_copyFrom 2 none, Cond.fieldLink RX1 33 "TreeDebts$State" "day" "I", Cond.fieldLink RX1 9 "TreeDebts$State" "branches" "[I", Cond.methodLink RX1 46 arraycopyName, Cond.native arraycopyName, Cond.static arraycopyName, Cond.initialized "java/lang/System", Cond.fieldLink RX1 15 "TreeDebts$State" "fates" "[I"]
def wsX4_grandson_r2 : List Cond := [Cond.fieldLink RX1 37 "TreeDebts$State" "loans" "I", Cond.fieldLink RX1 18 "TreeDebts$State" "lenders" "[I", Cond.fieldLink RX1 21 "TreeDebts$State" "lent" "[I", Cond.fieldLink RX1 24 "TreeDebts$State" "owed" "[I", Cond.fieldLink RX1 27 "TreeDebts$State" "dues" "[I", Cond.fieldLink RX1 30 "TreeDebts$State" "failed" "[I", Cond.fieldLink RX1 40 "TreeDebts$State" "failures" "I", Cond.methodLink RX4 148 yX1_passDays, Cond.instanceMethod yX1_passDays, Cond.selects RX1 yX1_passDays yX1_passDays, Cond.code yX1_passDays cX1_passDays 5 none, Cond.methodLink RX1 78 yX1_growLoans, Cond.instanceMethod yX1_growLoans, Cond.selects RX1 yX1_growLoans yX1_growLoans, Cond.code yX1_growLoans cX1_growLoans 3 none, Cond.methodLink RX1 89 yX3_grownOnce, Cond.instanceMethod yX3_grownOnce, Cond.selects RX3 yX3_grownOnce yX3_grownOnce, Cond.initialized RX3, Cond.code yX3_grownOnce cX3_grownOnce 6 (some .int), Cond.fieldLink RX3 18 "TreeDebts$Told" "rates" "[I", Cond.fieldLink RX3 9 "TreeDebts$Told" "kinds" "[I", Cond.constant RX3 52 (1000000), Cond.methodLink RX3 53 Lib.Math.min.name]
def wsX4_grandson_r3 : List Cond := [Cond.static Lib.Math.min.name, Cond.initialized "java/lang/Math", Cond.code Lib.Math.min.name Lib.Math.min.code 2 (some .int), Cond.methodLink RX1 82 yX1_workOff, Cond.instanceMethod yX1_workOff, Cond.selects RX1 yX1_workOff yX1_workOff, Cond.code yX1_workOff cX1_workOff 6 none, Cond.methodLink RX1 73 Lib.Math.min.name, Cond.methodLink RX1 93 yX1_firstDue, Cond.instanceMethod yX1_firstDue, Cond.selects RX1 yX1_firstDue yX1_firstDue, Cond.code yX1_firstDue cX1_firstDue 3 (some .int), Cond.methodLink RX1 97 yX1_addBranches, Cond.instanceMethod yX1_addBranches, Cond.selects RX1 yX1_addBranches yX1_addBranches, Cond.code yX1_addBranches cX1_addBranches 3 none, Cond.methodLink RX1 101 yX1_removeLoan, Cond.instanceMethod yX1_removeLoan, Cond.selects RX1 yX1_removeLoan yX1_removeLoan, Cond.code yX1_removeLoan cX1_removeLoan 3 none, Cond.methodLink RX1 86 yX1_failDueLoans, Cond.instanceMethod yX1_failDueLoans, Cond.selects RX1 yX1_failDueLoans yX1_failDueLoans, Cond.code yX1_failDueLoans cX1_failDueLoans 2 none]
def wsX4_grandson : List Cond := .code yX4_grandson cX4_grandson 4 (some .int) :: ((wsX4_grandson_r1 ++ (wsX4_grandson_r2 ++ wsX4_grandson_r3)) ++ wsX40 ++ wsX30 ++ wsX10)
def wsX4_toWhom : List Cond := .code yX4_toWhom cX4_toWhom 6 (some .int) :: ([.constant RX4 195 (1000000), .fieldLink RX4 19 "TreeDebts" "told" "LTreeDebts$Told;", .fieldLink RX4 192 "TreeDebts$Told" "trees" "I", .fieldLink RX4 26 "TreeDebts" "now" "LTreeDebts$State;", .fieldLink RX4 99 "TreeDebts$State" "fates" "[I", .methodLink RX4 131 yX3_grownIn, .instanceMethod yX3_grownIn, .selects RX3 yX3_grownIn yX3_grownIn, .initialized RX3, .code yX3_grownIn cX3_grownIn 6 (some .int), .methodLink RX3 59 yX3_grownOnce, .instanceMethod yX3_grownOnce, .selects RX3 yX3_grownOnce yX3_grownOnce, .code yX3_grownOnce cX3_grownOnce 6 (some .int), .fieldLink RX3 18 "TreeDebts$Told" "rates" "[I", .fieldLink RX3 9 "TreeDebts$Told" "kinds" "[I", .constant RX3 52 (1000000), .methodLink RX3 53 Lib.Math.min.name, .static Lib.Math.min.name, .initialized "java/lang/Math", .code Lib.Math.min.name Lib.Math.min.code 2 (some .int)] ++ wsX40 ++ wsX30 ++ wsX10)
def wsX4_count : List Cond := .code yX4_count cX4_count 2 (some .int) :: ([.fieldLink RX4 19 "TreeDebts" "told" "LTreeDebts$Told;", .fieldLink RX4 192 "TreeDebts$Told" "trees" "I", .fieldLink RX4 196 "TreeDebts$Told" "quarrels" "I", .fieldLink RX4 145 "TreeDebts$Told" "hands" "I", .fieldLink RX4 26 "TreeDebts" "now" "LTreeDebts$State;", .fieldLink RX4 106 "TreeDebts$State" "loans" "I", .fieldLink RX4 142 "TreeDebts$State" "day" "I", .fieldLink RX4 170 "TreeDebts$State" "failures" "I", .fieldLink RX4 10 "TreeDebts" "text" "LTreeDebts$Text;", .fieldLink RX4 48 "TreeDebts$Text" "length" "I", .methodLink RX4 166 yX1_owedInAll, .instanceMethod yX1_owedInAll, .selects RX1 yX1_owedInAll yX1_owedInAll, .initialized RX1, .code yX1_owedInAll cX1_owedInAll 3 (some .int), .fieldLink RX1 37 "TreeDebts$State" "loans" "I", .fieldLink RX1 24 "TreeDebts$State" "owed" "[I"] ++ wsX40 ++ wsX30 ++ wsX10 ++ wsX20)
def wsX5_init : List Cond := .code yX5_init cX5_init 1 none :: ([.methodLink RX5 1 objectInit, .instanceMethod objectInit, .code objectInit ⟨#[0xb1]⟩ 1 none, .arrayClass .int, .fieldLink RX5 7 "TreeDebtsModel" "row" "[I", .arrayClass .boolean, .fieldLink RX5 13 "TreeDebtsModel" "isKept" "[Z", .fieldLink RX5 17 "TreeDebtsModel" "text" "[I", .fieldLink RX5 20 "TreeDebtsModel" "read" "[I", .fieldLink RX5 23 "TreeDebtsModel" "kinds" "[I", .fieldLink RX5 26 "TreeDebtsModel" "rates" "[I", .fieldLink RX5 29 "TreeDebtsModel" "terms" "[I", .fieldLink RX5 32 "TreeDebtsModel" "parts" "[I", .fieldLink RX5 35 "TreeDebtsModel" "quarrels" "[I", .fieldLink RX5 38 "TreeDebtsModel" "hands" "I", .fieldLink RX5 42 "TreeDebtsModel" "prices" "[I", .fieldLink RX5 45 "TreeDebtsModel" "leasts" "[I"] ++ wsX50)
def wsX5_in : List Cond := .code yX5_in cX5_in 6 (some .boolean) :: ([])
def wsX5_copy : List Cond := .code yX5_copy cX5_copy 4 none :: ([.fieldLink RX5 7 "TreeDebtsModel" "row" "[I"] ++ wsX50)
def wsX5_write : List Cond := .code yX5_write cX5_write 5 (some .int) :: ([.constantLong RX5 48 (8), .fieldLink RX5 54 "TreeDebtsModel" "length" "I", .fieldLink RX5 17 "TreeDebtsModel" "text" "[I", .constantLong RX5 57 (255), .methodLink RX5 50 yX5_in, .static yX5_in, .initialized RX5, .code yX5_in cX5_in 6 (some .boolean)] ++ wsX50)
def wsX5_erase : List Cond := .code yX5_erase cX5_erase 2 (some .int) :: ([.fieldLink RX5 54 "TreeDebtsModel" "length" "I"] ++ wsX50)
def wsX5_sort : List Cond := .code yX5_sort cX5_sort 1 (some .int) :: ([])
def wsX5_token : List Cond := .code yX5_token cX5_token 1 none :: ([.fieldLink RX5 59 "TreeDebtsModel" "at" "I", .fieldLink RX5 54 "TreeDebtsModel" "length" "I", .fieldLink RX5 17 "TreeDebtsModel" "text" "[I", .fieldLink RX5 62 "TreeDebtsModel" "place" "I", .fieldLink RX5 69 "TreeDebtsModel" "end" "I", .methodLink RX5 65 yX5_sort, .static yX5_sort, .initialized RX5, .code yX5_sort cX5_sort 1 (some .int)] ++ wsX50)
def wsX5_isWord : List Cond := .code yX5_isWord cX5_isWord 6 (some .boolean) :: ([.fieldLink RX5 69 "TreeDebtsModel" "end" "I", .fieldLink RX5 62 "TreeDebtsModel" "place" "I", .fieldLink RX5 17 "TreeDebtsModel" "text" "[I"] ++ wsX50)
def wsX5_treeWord : List Cond := .code yX5_treeWord cX5_treeWord 1 (some .int) :: ([.constant RX5 76 (8505634), .constant RX5 77 (468724), .constant RX5 78 (787886568), .methodLink RX5 72 yX5_isWord, .instanceMethod yX5_isWord, .selects RX5 yX5_isWord yX5_isWord, .initialized RX5, .code yX5_isWord cX5_isWord 6 (some .boolean), .fieldLink RX5 69 "TreeDebtsModel" "end" "I", .fieldLink RX5 62 "TreeDebtsModel" "place" "I", .fieldLink RX5 17 "TreeDebtsModel" "text" "[I"] ++ wsX50)
def wsX5_wordOf : List Cond := .code yX5_wordOf cX5_wordOf 2 (some .int) :: ([.constant RX5 83 (146935), .constant RX5 84 (673840), .constant RX5 85 (187238065), .constant RX5 86 (20068392), .methodLink RX5 79 yX5_treeWord, .instanceMethod yX5_treeWord, .selects RX5 yX5_treeWord yX5_treeWord, .initialized RX5, .code yX5_treeWord cX5_treeWord 1 (some .int), .constant RX5 76 (8505634), .constant RX5 77 (468724), .constant RX5 78 (787886568), .methodLink RX5 72 yX5_isWord, .instanceMethod yX5_isWord, .selects RX5 yX5_isWord yX5_isWord, .code yX5_isWord cX5_isWord 6 (some .boolean), .fieldLink RX5 69 "TreeDebtsModel" "end" "I", .fieldLink RX5 62 "TreeDebtsModel" "place" "I", .fieldLink RX5 17 "TreeDebtsModel" "text" "[I"] ++ wsX50)
def wsX5_reads : List Cond := .code yX5_reads cX5_reads 7 (some .boolean) :: ([.fieldLink RX5 62 "TreeDebtsModel" "place" "I", .fieldLink RX5 54 "TreeDebtsModel" "length" "I", .fieldLink RX5 17 "TreeDebtsModel" "text" "[I", .fieldLink RX5 69 "TreeDebtsModel" "end" "I", .fieldLink RX5 20 "TreeDebtsModel" "read" "[I", .fieldLink RX5 87 "TreeDebtsModel" "readMany" "I", .methodLink RX5 65 yX5_sort, .static yX5_sort, .initialized RX5, .code yX5_sort cX5_sort 1 (some .int), .methodLink RX5 50 yX5_in, .static yX5_in, .code yX5_in cX5_in 6 (some .boolean), .methodLink RX5 90 yX5_token, .instanceMethod yX5_token, .selects RX5 yX5_token yX5_token, .code yX5_token cX5_token 1 none, .fieldLink RX5 59 "TreeDebtsModel" "at" "I"] ++ wsX50)
def wsX5_readsRest : List Cond := .code yX5_readsRest cX5_readsRest 3 (some .boolean) :: ([.fieldLink RX5 93 "TreeDebtsModel" "readTrees" "I", .fieldLink RX5 20 "TreeDebtsModel" "read" "[I", .fieldLink RX5 87 "TreeDebtsModel" "readMany" "I", .methodLink RX5 96 yX5_reads, .instanceMethod yX5_reads, .selects RX5 yX5_reads yX5_reads, .initialized RX5, .code yX5_reads cX5_reads 7 (some .boolean), .fieldLink RX5 62 "TreeDebtsModel" "place" "I", .fieldLink RX5 54 "TreeDebtsModel" "length" "I", .fieldLink RX5 17 "TreeDebtsModel" "text" "[I", .fieldLink RX5 69 "TreeDebtsModel" "end" "I", .methodLink RX5 65 yX5_sort, .static yX5_sort, .code yX5_sort cX5_sort 1 (some .int), .methodLink RX5 50 yX5_in, .static yX5_in, .code yX5_in cX5_in 6 (some .boolean), .methodLink RX5 90 yX5_token, .instanceMethod yX5_token, .selects RX5 yX5_token yX5_token, .code yX5_token cX5_token 1 none, .fieldLink RX5 59 "TreeDebtsModel" "at" "I"] ++ wsX50)
def wsX5_isTreeWord : List Cond := .code yX5_isTreeWord cX5_isTreeWord 1 (some .boolean) :: ([.constantLong RX5 100 (4), .methodLink RX5 50 yX5_in, .static yX5_in, .initialized RX5, .code yX5_in cX5_in 6 (some .boolean)])
def wsX5_readsLine_r1 : List Cond := [Cond.fieldLink RX5 93 "TreeDebtsModel" "readTrees" "I", Cond.fieldLink RX5 109 "TreeDebtsModel" "readQuarrels" "I", Cond.fieldLink RX5 20 "TreeDebtsModel" "read" "[I", Cond.fieldLink RX5 87 "TreeDebtsModel" "readMany" "I", Cond.methodLink RX5 102 yX5_wordOf, Cond.instanceMethod yX5_wordOf, Cond.selects RX5 yX5_wordOf yX5_wordOf, Cond.initialized RX5, Cond.code yX5_wordOf cX5_wordOf 2 (some .int), Cond.constant RX5 83 (146935), Cond.constant RX5 84 (673840), Cond.constant RX5 85 (187238065), Cond.constant RX5 86 (20068392), Cond.methodLink RX5 79 yX5_treeWord, Cond.instanceMethod yX5_treeWord, Cond.selects RX5 yX5_treeWord yX5_treeWord, Cond.code yX5_treeWord cX5_treeWord 1 (some .int), Cond.constant RX5 76 (8505634), Cond.constant RX5 77 (468724), Cond.constant RX5 78 (787886568), Cond.methodLink RX5 72 yX5_isWord, Cond.instanceMethod yX5_isWord, Cond.selects RX5 yX5_isWord yX5_isWord, Cond.code yX5_isWord cX5_isWord 6 (some .boolean)]
def wsX5_readsLine_r2 : List Cond := [Cond.fieldLink RX5 69 "TreeDebtsModel" "end" "I", Cond.fieldLink RX5 62 "TreeDebtsModel" "place" "I", Cond.fieldLink RX5 17 "TreeDebtsModel" "text" "[I", Cond.methodLink RX5 105 yX5_isTreeWord, Cond.static yX5_isTreeWord, Cond.code yX5_isTreeWord cX5_isTreeWord 1 (some .boolean), Cond.constantLong RX5 100 (4), Cond.methodLink RX5 50 yX5_in, Cond.static yX5_in, Cond.code yX5_in cX5_in 6 (some .boolean), Cond.methodLink RX5 90 yX5_token, Cond.instanceMethod yX5_token, Cond.selects RX5 yX5_token yX5_token, Cond.code yX5_token cX5_token 1 none, Cond.fieldLink RX5 59 "TreeDebtsModel" "at" "I", Cond.fieldLink RX5 54 "TreeDebtsModel" "length" "I", Cond.methodLink RX5 65 yX5_sort, Cond.static yX5_sort, Cond.code yX5_sort cX5_sort 1 (some .int), Cond.methodLink RX5 112 yX5_readsRest, Cond.instanceMethod yX5_readsRest, Cond.selects RX5 yX5_readsRest yX5_readsRest, Cond.code yX5_readsRest cX5_readsRest 3 (some .boolean), Cond.methodLink RX5 96 yX5_reads]
def wsX5_readsLine_r3 : List Cond := [Cond.instanceMethod yX5_reads, Cond.selects RX5 yX5_reads yX5_reads, Cond.code yX5_reads cX5_reads 7 (some .boolean)]
def wsX5_readsLine : List Cond := .code yX5_readsLine cX5_readsLine 2 (some .boolean) :: ((wsX5_readsLine_r1 ++ (wsX5_readsLine_r2 ++ wsX5_readsLine_r3)) ++ wsX50)
def wsX5_fault_r1 : List Cond := [Cond.fieldLink RX5 59 "TreeDebtsModel" "at" "I", Cond.fieldLink RX5 87 "TreeDebtsModel" "readMany" "I", Cond.fieldLink RX5 115 "TreeDebtsModel" "many" "I", Cond.fieldLink RX5 93 "TreeDebtsModel" "readTrees" "I", Cond.fieldLink RX5 118 "TreeDebtsModel" "quarrelMany" "I", Cond.fieldLink RX5 109 "TreeDebtsModel" "readQuarrels" "I", Cond.fieldLink RX5 62 "TreeDebtsModel" "place" "I", Cond.fieldLink RX5 54 "TreeDebtsModel" "length" "I", Cond.fieldLink RX5 69 "TreeDebtsModel" "end" "I", Cond.fieldLink RX5 17 "TreeDebtsModel" "text" "[I", Cond.methodLink RX5 90 yX5_token, Cond.instanceMethod yX5_token, Cond.selects RX5 yX5_token yX5_token, Cond.initialized RX5, Cond.code yX5_token cX5_token 1 none, Cond.methodLink RX5 65 yX5_sort, Cond.static yX5_sort, Cond.code yX5_sort cX5_sort 1 (some .int), Cond.methodLink RX5 121 yX5_readsLine, Cond.instanceMethod yX5_readsLine, Cond.selects RX5 yX5_readsLine yX5_readsLine, Cond.code yX5_readsLine cX5_readsLine 2 (some .boolean), Cond.fieldLink RX5 20 "TreeDebtsModel" "read" "[I", Cond.methodLink RX5 102 yX5_wordOf]
def wsX5_fault_r2 : List Cond := [Cond.instanceMethod yX5_wordOf, Cond.selects RX5 yX5_wordOf yX5_wordOf, Cond.code yX5_wordOf cX5_wordOf 2 (some .int), Cond.constant RX5 83 (146935), Cond.constant RX5 84 (673840), Cond.constant RX5 85 (187238065), Cond.constant RX5 86 (20068392), Cond.methodLink RX5 79 yX5_treeWord, Cond.instanceMethod yX5_treeWord, Cond.selects RX5 yX5_treeWord yX5_treeWord, Cond.code yX5_treeWord cX5_treeWord 1 (some .int), Cond.constant RX5 76 (8505634), Cond.constant RX5 77 (468724), Cond.constant RX5 78 (787886568), Cond.methodLink RX5 72 yX5_isWord, Cond.instanceMethod yX5_isWord, Cond.selects RX5 yX5_isWord yX5_isWord, Cond.code yX5_isWord cX5_isWord 6 (some .boolean), Cond.methodLink RX5 105 yX5_isTreeWord, Cond.static yX5_isTreeWord, Cond.code yX5_isTreeWord cX5_isTreeWord 1 (some .boolean), Cond.constantLong RX5 100 (4), Cond.methodLink RX5 50 yX5_in, Cond.static yX5_in]
def wsX5_fault_r3 : List Cond := [Cond.code yX5_in cX5_in 6 (some .boolean), Cond.methodLink RX5 112 yX5_readsRest, Cond.instanceMethod yX5_readsRest, Cond.selects RX5 yX5_readsRest yX5_readsRest, Cond.code yX5_readsRest cX5_readsRest 3 (some .boolean), Cond.methodLink RX5 96 yX5_reads, Cond.instanceMethod yX5_reads, Cond.selects RX5 yX5_reads yX5_reads, Cond.code yX5_reads cX5_reads 7 (some .boolean)]
def wsX5_fault : List Cond := .code yX5_fault cX5_fault 2 (some .int) :: ((wsX5_fault_r1 ++ (wsX5_fault_r2 ++ wsX5_fault_r3)) ++ wsX50)
def wsX5_tell : List Cond := .code yX5_tell cX5_tell 3 none :: ([.fieldLink RX5 20 "TreeDebtsModel" "read" "[I", .fieldLink RX5 115 "TreeDebtsModel" "many" "I", .fieldLink RX5 118 "TreeDebtsModel" "quarrelMany" "I", .fieldLink RX5 38 "TreeDebtsModel" "hands" "I", .fieldLink RX5 32 "TreeDebtsModel" "parts" "[I", .fieldLink RX5 35 "TreeDebtsModel" "quarrels" "[I", .fieldLink RX5 23 "TreeDebtsModel" "kinds" "[I", .fieldLink RX5 7 "TreeDebtsModel" "row" "[I", .fieldLink RX5 26 "TreeDebtsModel" "rates" "[I", .fieldLink RX5 29 "TreeDebtsModel" "terms" "[I"] ++ wsX50)
def wsX5_wood_r1 : List Cond := [Cond.fieldLink RX5 87 "TreeDebtsModel" "readMany" "I", Cond.fieldLink RX5 13 "TreeDebtsModel" "isKept" "[Z", Cond.fieldLink RX5 54 "TreeDebtsModel" "length" "I", Cond.methodLink RX5 125 yX5_fault, Cond.instanceMethod yX5_fault, Cond.selects RX5 yX5_fault yX5_fault, Cond.initialized RX5, Cond.code yX5_fault cX5_fault 2 (some .int), Cond.fieldLink RX5 59 "TreeDebtsModel" "at" "I", Cond.fieldLink RX5 115 "TreeDebtsModel" "many" "I", Cond.fieldLink RX5 93 "TreeDebtsModel" "readTrees" "I", Cond.fieldLink RX5 118 "TreeDebtsModel" "quarrelMany" "I", Cond.fieldLink RX5 109 "TreeDebtsModel" "readQuarrels" "I", Cond.fieldLink RX5 62 "TreeDebtsModel" "place" "I", Cond.fieldLink RX5 69 "TreeDebtsModel" "end" "I", Cond.fieldLink RX5 17 "TreeDebtsModel" "text" "[I", Cond.methodLink RX5 90 yX5_token, Cond.instanceMethod yX5_token, Cond.selects RX5 yX5_token yX5_token, Cond.code yX5_token cX5_token 1 none, Cond.methodLink RX5 65 yX5_sort, Cond.static yX5_sort, Cond.code yX5_sort cX5_sort 1 (some .int), Cond.methodLink RX5 121 yX5_readsLine]
def wsX5_wood_r2 : List Cond := [Cond.instanceMethod yX5_readsLine, Cond.selects RX5 yX5_readsLine yX5_readsLine, Cond.code yX5_readsLine cX5_readsLine 2 (some .boolean), Cond.fieldLink RX5 20 "TreeDebtsModel" "read" "[I", Cond.methodLink RX5 102 yX5_wordOf, Cond.instanceMethod yX5_wordOf, Cond.selects RX5 yX5_wordOf yX5_wordOf, Cond.code yX5_wordOf cX5_wordOf 2 (some .int), Cond.constant RX5 83 (146935), Cond.constant RX5 84 (673840), Cond.constant RX5 85 (187238065), Cond.constant RX5 86 (20068392), Cond.methodLink RX5 79 yX5_treeWord, Cond.instanceMethod yX5_treeWord, Cond.selects RX5 yX5_treeWord yX5_treeWord, Cond.code yX5_treeWord cX5_treeWord 1 (some .int), Cond.constant RX5 76 (8505634), Cond.constant RX5 77 (468724), Cond.constant RX5 78 (787886568), Cond.methodLink RX5 72 yX5_isWord, Cond.instanceMethod yX5_isWord, Cond.selects RX5 yX5_isWord yX5_isWord, Cond.code yX5_isWord cX5_isWord 6 (some .boolean), Cond.methodLink RX5 105 yX5_isTreeWord]
def wsX5_wood_r3 : List Cond := [Cond.static yX5_isTreeWord, Cond.code yX5_isTreeWord cX5_isTreeWord 1 (some .boolean), Cond.constantLong RX5 100 (4), Cond.methodLink RX5 50 yX5_in, Cond.static yX5_in, Cond.code yX5_in cX5_in 6 (some .boolean), Cond.methodLink RX5 112 yX5_readsRest, Cond.instanceMethod yX5_readsRest, Cond.selects RX5 yX5_readsRest yX5_readsRest, Cond.code yX5_readsRest cX5_readsRest 3 (some .boolean), Cond.methodLink RX5 96 yX5_reads, Cond.instanceMethod yX5_reads, Cond.selects RX5 yX5_reads yX5_reads, Cond.code yX5_reads cX5_reads 7 (some .boolean), Cond.methodLink RX5 128 yX5_tell, Cond.instanceMethod yX5_tell, Cond.selects RX5 yX5_tell yX5_tell, Cond.code yX5_tell cX5_tell 3 none, Cond.fieldLink RX5 38 "TreeDebtsModel" "hands" "I", Cond.fieldLink RX5 32 "TreeDebtsModel" "parts" "[I", Cond.fieldLink RX5 35 "TreeDebtsModel" "quarrels" "[I", Cond.fieldLink RX5 23 "TreeDebtsModel" "kinds" "[I", Cond.fieldLink RX5 7 "TreeDebtsModel" "row" "[I", Cond.fieldLink RX5 26 "TreeDebtsModel" "rates" "[I"]
def wsX5_wood_r4 : List Cond := [Cond.fieldLink RX5 29 "TreeDebtsModel" "terms" "[I", Cond.methodLink RX5 132 yX5_copy, Cond.instanceMethod yX5_copy, Cond.selects RX5 yX5_copy yX5_copy, Cond.code yX5_copy cX5_copy 4 none]
def wsX5_wood : List Cond := .code yX5_wood cX5_wood 2 (some .int) :: ((wsX5_wood_r1 ++ (wsX5_wood_r2 ++ (wsX5_wood_r3 ++ wsX5_wood_r4))) ++ wsX50)
def wsX5_isTree : List Cond := .code yX5_isTree cX5_isTree 2 (some .boolean) :: ([.fieldLink RX5 115 "TreeDebtsModel" "many" "I", .methodLink RX5 50 yX5_in, .static yX5_in, .initialized RX5, .code yX5_in cX5_in 6 (some .boolean)] ++ wsX50)
def wsX5_lives : List Cond := .code yX5_lives cX5_lives 2 (some .boolean) :: ([.fieldLink RX5 7 "TreeDebtsModel" "row" "[I"] ++ wsX50)
def wsX5_placeOf : List Cond := .code yX5_placeOf cX5_placeOf 3 (some .int) :: ([])
def wsX5_owedTo : List Cond := .code yX5_owedTo cX5_owedTo 5 (some .int) :: ([.fieldLink RX5 7 "TreeDebtsModel" "row" "[I", .methodLink RX5 136 yX5_placeOf, .static yX5_placeOf, .initialized RX5, .code yX5_placeOf cX5_placeOf 3 (some .int)] ++ wsX50)
def wsX5_owedAll : List Cond := .code yX5_owedAll cX5_owedAll 4 (some .int) :: ([.fieldLink RX5 7 "TreeDebtsModel" "row" "[I", .methodLink RX5 136 yX5_placeOf, .static yX5_placeOf, .initialized RX5, .code yX5_placeOf cX5_placeOf 3 (some .int)] ++ wsX50)
def wsX5_isCross : List Cond := .code yX5_isCross cX5_isCross 5 (some .boolean) :: ([.fieldLink RX5 118 "TreeDebtsModel" "quarrelMany" "I", .fieldLink RX5 35 "TreeDebtsModel" "quarrels" "[I", .methodLink RX5 140 yX5_owedTo, .instanceMethod yX5_owedTo, .selects RX5 yX5_owedTo yX5_owedTo, .initialized RX5, .code yX5_owedTo cX5_owedTo 5 (some .int), .fieldLink RX5 7 "TreeDebtsModel" "row" "[I", .methodLink RX5 136 yX5_placeOf, .static yX5_placeOf, .code yX5_placeOf cX5_placeOf 3 (some .int)] ++ wsX50)
def wsX5_lends : List Cond := .code yX5_lends cX5_lends 2 (some .boolean) :: ([.methodLink RX5 144 yX5_lives, .instanceMethod yX5_lives, .selects RX5 yX5_lives yX5_lives, .initialized RX5, .code yX5_lives cX5_lives 2 (some .boolean), .fieldLink RX5 7 "TreeDebtsModel" "row" "[I", .methodLink RX5 147 yX5_isCross, .instanceMethod yX5_isCross, .selects RX5 yX5_isCross yX5_isCross, .code yX5_isCross cX5_isCross 5 (some .boolean), .fieldLink RX5 118 "TreeDebtsModel" "quarrelMany" "I", .fieldLink RX5 35 "TreeDebtsModel" "quarrels" "[I", .methodLink RX5 140 yX5_owedTo, .instanceMethod yX5_owedTo, .selects RX5 yX5_owedTo yX5_owedTo, .code yX5_owedTo cX5_owedTo 5 (some .int), .methodLink RX5 136 yX5_placeOf, .static yX5_placeOf, .code yX5_placeOf cX5_placeOf 3 (some .int)] ++ wsX50)
def wsX5_grown : List Cond := .code yX5_grown cX5_grown 6 (some .int) :: ([.fieldLink RX5 23 "TreeDebtsModel" "kinds" "[I", .fieldLink RX5 26 "TreeDebtsModel" "rates" "[I", .constant RX5 150 (1000000)] ++ wsX50)
def wsX5_remove : List Cond := .code yX5_remove cX5_remove 4 none :: ([.fieldLink RX5 7 "TreeDebtsModel" "row" "[I", .methodLink RX5 136 yX5_placeOf, .static yX5_placeOf, .initialized RX5, .code yX5_placeOf cX5_placeOf 3 (some .int)] ++ wsX50)
def wsX5_few : List Cond := .code yX5_few cX5_few 1 (some .int) :: ([])
def wsX5_firstDue : List Cond := .code yX5_firstDue cX5_firstDue 4 (some .int) :: ([.fieldLink RX5 7 "TreeDebtsModel" "row" "[I", .methodLink RX5 136 yX5_placeOf, .static yX5_placeOf, .initialized RX5, .code yX5_placeOf cX5_placeOf 3 (some .int)] ++ wsX50)
def wsX5_work : List Cond := .code yX5_work cX5_work 8 none :: ([.fieldLink RX5 7 "TreeDebtsModel" "row" "[I", .methodLink RX5 151 yX5_firstDue, .instanceMethod yX5_firstDue, .selects RX5 yX5_firstDue yX5_firstDue, .initialized RX5, .code yX5_firstDue cX5_firstDue 4 (some .int), .methodLink RX5 136 yX5_placeOf, .static yX5_placeOf, .code yX5_placeOf cX5_placeOf 3 (some .int), .methodLink RX5 154 yX5_few, .static yX5_few, .code yX5_few cX5_few 1 (some .int), .methodLink RX5 157 yX5_remove, .instanceMethod yX5_remove, .selects RX5 yX5_remove yX5_remove, .code yX5_remove cX5_remove 4 none] ++ wsX50)
def wsX5_day_r1 : List Cond := [Cond.fieldLink RX5 7 "TreeDebtsModel" "row" "[I", Cond.methodLink RX5 136 yX5_placeOf, Cond.static yX5_placeOf, Cond.initialized RX5, Cond.code yX5_placeOf cX5_placeOf 3 (some .int), Cond.methodLink RX5 160 yX5_grown, Cond.instanceMethod yX5_grown, Cond.selects RX5 yX5_grown yX5_grown, Cond.code yX5_grown cX5_grown 6 (some .int), Cond.fieldLink RX5 23 "TreeDebtsModel" "kinds" "[I", Cond.fieldLink RX5 26 "TreeDebtsModel" "rates" "[I", Cond.constant RX5 150 (1000000), Cond.methodLink RX5 163 yX5_work, Cond.instanceMethod yX5_work, Cond.selects RX5 yX5_work yX5_work, Cond.code yX5_work cX5_work 8 none, Cond.methodLink RX5 151 yX5_firstDue, Cond.instanceMethod yX5_firstDue, Cond.selects RX5 yX5_firstDue yX5_firstDue, Cond.code yX5_firstDue cX5_firstDue 4 (some .int), Cond.methodLink RX5 154 yX5_few, Cond.static yX5_few, Cond.code yX5_few cX5_few 1 (some .int), Cond.methodLink RX5 157 yX5_remove]
def wsX5_day_r2 : List Cond := [Cond.instanceMethod yX5_remove, Cond.selects RX5 yX5_remove yX5_remove, Cond.code yX5_remove cX5_remove 4 none]
def wsX5_day : List Cond := .code yX5_day cX5_day 5 none :: ((wsX5_day_r1 ++ wsX5_day_r2) ++ wsX50)
def wsX5_tree_r1 : List Cond := [Cond.fieldLink RX5 23 "TreeDebtsModel" "kinds" "[I", Cond.fieldLink RX5 7 "TreeDebtsModel" "row" "[I", Cond.fieldLink RX5 26 "TreeDebtsModel" "rates" "[I", Cond.fieldLink RX5 29 "TreeDebtsModel" "terms" "[I", Cond.fieldLink RX5 32 "TreeDebtsModel" "parts" "[I", Cond.methodLink RX5 166 yX5_isTree, Cond.instanceMethod yX5_isTree, Cond.selects RX5 yX5_isTree yX5_isTree, Cond.initialized RX5, Cond.code yX5_isTree cX5_isTree 2 (some .boolean), Cond.fieldLink RX5 115 "TreeDebtsModel" "many" "I", Cond.methodLink RX5 50 yX5_in, Cond.static yX5_in, Cond.code yX5_in cX5_in 6 (some .boolean), Cond.methodLink RX5 140 yX5_owedTo, Cond.instanceMethod yX5_owedTo, Cond.selects RX5 yX5_owedTo yX5_owedTo, Cond.code yX5_owedTo cX5_owedTo 5 (some .int), Cond.methodLink RX5 136 yX5_placeOf, Cond.static yX5_placeOf, Cond.code yX5_placeOf cX5_placeOf 3 (some .int), Cond.methodLink RX5 147 yX5_isCross, Cond.instanceMethod yX5_isCross, Cond.selects RX5 yX5_isCross yX5_isCross]
def wsX5_tree_r2 : List Cond := [Cond.code yX5_isCross cX5_isCross 5 (some .boolean), Cond.fieldLink RX5 118 "TreeDebtsModel" "quarrelMany" "I", Cond.fieldLink RX5 35 "TreeDebtsModel" "quarrels" "[I"]
def wsX5_tree : List Cond := .code yX5_tree cX5_tree 3 (some .int) :: ((wsX5_tree_r1 ++ wsX5_tree_r2) ++ wsX50)
def wsX5_loan : List Cond := .code yX5_loan cX5_loan 3 (some .int) :: ([.fieldLink RX5 7 "TreeDebtsModel" "row" "[I", .constantLong RX5 100 (4), .methodLink RX5 50 yX5_in, .static yX5_in, .initialized RX5, .code yX5_in cX5_in 6 (some .boolean), .methodLink RX5 136 yX5_placeOf, .static yX5_placeOf, .code yX5_placeOf cX5_placeOf 3 (some .int)] ++ wsX50)
def wsX5_as : List Cond := .code yX5_as cX5_as 5 (some .int) :: ([.constantLong RX5 100 (4), .fieldLink RX5 23 "TreeDebtsModel" "kinds" "[I", .methodLink RX5 166 yX5_isTree, .instanceMethod yX5_isTree, .selects RX5 yX5_isTree yX5_isTree, .initialized RX5, .code yX5_isTree cX5_isTree 2 (some .boolean), .fieldLink RX5 115 "TreeDebtsModel" "many" "I", .methodLink RX5 50 yX5_in, .static yX5_in, .code yX5_in cX5_in 6 (some .boolean), .methodLink RX5 160 yX5_grown, .instanceMethod yX5_grown, .selects RX5 yX5_grown yX5_grown, .code yX5_grown cX5_grown 6 (some .int), .fieldLink RX5 26 "TreeDebtsModel" "rates" "[I", .constant RX5 150 (1000000)] ++ wsX50)
def wsX5_borrow_r1 : List Cond := [Cond.constantLong RX5 169 (99), Cond.fieldLink RX5 7 "TreeDebtsModel" "row" "[I", Cond.fieldLink RX5 23 "TreeDebtsModel" "kinds" "[I", Cond.fieldLink RX5 29 "TreeDebtsModel" "terms" "[I", Cond.methodLink RX5 166 yX5_isTree, Cond.instanceMethod yX5_isTree, Cond.selects RX5 yX5_isTree yX5_isTree, Cond.initialized RX5, Cond.code yX5_isTree cX5_isTree 2 (some .boolean), Cond.fieldLink RX5 115 "TreeDebtsModel" "many" "I", Cond.methodLink RX5 50 yX5_in, Cond.static yX5_in, Cond.code yX5_in cX5_in 6 (some .boolean), Cond.methodLink RX5 171 yX5_lends, Cond.instanceMethod yX5_lends, Cond.selects RX5 yX5_lends yX5_lends, Cond.code yX5_lends cX5_lends 2 (some .boolean), Cond.methodLink RX5 144 yX5_lives, Cond.instanceMethod yX5_lives, Cond.selects RX5 yX5_lives yX5_lives, Cond.code yX5_lives cX5_lives 2 (some .boolean), Cond.methodLink RX5 147 yX5_isCross, Cond.instanceMethod yX5_isCross, Cond.selects RX5 yX5_isCross yX5_isCross]
def wsX5_borrow_r2 : List Cond := [Cond.code yX5_isCross cX5_isCross 5 (some .boolean), Cond.fieldLink RX5 118 "TreeDebtsModel" "quarrelMany" "I", Cond.fieldLink RX5 35 "TreeDebtsModel" "quarrels" "[I", Cond.methodLink RX5 140 yX5_owedTo, Cond.instanceMethod yX5_owedTo, Cond.selects RX5 yX5_owedTo yX5_owedTo, Cond.code yX5_owedTo cX5_owedTo 5 (some .int), Cond.methodLink RX5 136 yX5_placeOf, Cond.static yX5_placeOf, Cond.code yX5_placeOf cX5_placeOf 3 (some .int)]
def wsX5_borrow : List Cond := .code yX5_borrow cX5_borrow 4 (some .int) :: ((wsX5_borrow_r1 ++ wsX5_borrow_r2) ++ wsX50)
def wsX5_days_r1 : List Cond := [Cond.constantLong RX5 169 (99), Cond.fieldLink RX5 7 "TreeDebtsModel" "row" "[I", Cond.fieldLink RX5 38 "TreeDebtsModel" "hands" "I", Cond.methodLink RX5 50 yX5_in, Cond.static yX5_in, Cond.initialized RX5, Cond.code yX5_in cX5_in 6 (some .boolean), Cond.methodLink RX5 174 yX5_day, Cond.instanceMethod yX5_day, Cond.selects RX5 yX5_day yX5_day, Cond.code yX5_day cX5_day 5 none, Cond.methodLink RX5 136 yX5_placeOf, Cond.static yX5_placeOf, Cond.code yX5_placeOf cX5_placeOf 3 (some .int), Cond.methodLink RX5 160 yX5_grown, Cond.instanceMethod yX5_grown, Cond.selects RX5 yX5_grown yX5_grown, Cond.code yX5_grown cX5_grown 6 (some .int), Cond.fieldLink RX5 23 "TreeDebtsModel" "kinds" "[I", Cond.fieldLink RX5 26 "TreeDebtsModel" "rates" "[I", Cond.constant RX5 150 (1000000), Cond.methodLink RX5 163 yX5_work, Cond.instanceMethod yX5_work, Cond.selects RX5 yX5_work yX5_work]
def wsX5_days_r2 : List Cond := [Cond.code yX5_work cX5_work 8 none, Cond.methodLink RX5 151 yX5_firstDue, Cond.instanceMethod yX5_firstDue, Cond.selects RX5 yX5_firstDue yX5_firstDue, Cond.code yX5_firstDue cX5_firstDue 4 (some .int), Cond.methodLink RX5 154 yX5_few, Cond.static yX5_few, Cond.code yX5_few cX5_few 1 (some .int), Cond.methodLink RX5 157 yX5_remove, Cond.instanceMethod yX5_remove, Cond.selects RX5 yX5_remove yX5_remove, Cond.code yX5_remove cX5_remove 4 none]
def wsX5_days : List Cond := .code yX5_days cX5_days 3 (some .int) :: ((wsX5_days_r1 ++ wsX5_days_r2) ++ wsX50)
def wsX5_burn : List Cond := .code yX5_burn cX5_burn 3 none :: ([.fieldLink RX5 7 "TreeDebtsModel" "row" "[I", .methodLink RX5 136 yX5_placeOf, .static yX5_placeOf, .initialized RX5, .code yX5_placeOf cX5_placeOf 3 (some .int), .methodLink RX5 157 yX5_remove, .instanceMethod yX5_remove, .selects RX5 yX5_remove yX5_remove, .code yX5_remove cX5_remove 4 none] ++ wsX50)
def wsX5_fire : List Cond := .code yX5_fire cX5_fire 4 (some .int) :: ([.constantLong RX5 177 (9), .fieldLink RX5 115 "TreeDebtsModel" "many" "I", .fieldLink RX5 32 "TreeDebtsModel" "parts" "[I", .methodLink RX5 50 yX5_in, .static yX5_in, .initialized RX5, .code yX5_in cX5_in 6 (some .boolean), .methodLink RX5 144 yX5_lives, .instanceMethod yX5_lives, .selects RX5 yX5_lives yX5_lives, .code yX5_lives cX5_lives 2 (some .boolean), .fieldLink RX5 7 "TreeDebtsModel" "row" "[I", .methodLink RX5 179 yX5_burn, .instanceMethod yX5_burn, .selects RX5 yX5_burn yX5_burn, .code yX5_burn cX5_burn 3 none, .methodLink RX5 136 yX5_placeOf, .static yX5_placeOf, .code yX5_placeOf cX5_placeOf 3 (some .int), .methodLink RX5 157 yX5_remove, .instanceMethod yX5_remove, .selects RX5 yX5_remove yX5_remove, .code yX5_remove cX5_remove 4 none] ++ wsX50)
def wsX5_sell : List Cond := .code yX5_sell cX5_sell 6 (some .int) :: ([.fieldLink RX5 7 "TreeDebtsModel" "row" "[I", .methodLink RX5 166 yX5_isTree, .instanceMethod yX5_isTree, .selects RX5 yX5_isTree yX5_isTree, .initialized RX5, .code yX5_isTree cX5_isTree 2 (some .boolean), .fieldLink RX5 115 "TreeDebtsModel" "many" "I", .methodLink RX5 50 yX5_in, .static yX5_in, .code yX5_in cX5_in 6 (some .boolean), .methodLink RX5 144 yX5_lives, .instanceMethod yX5_lives, .selects RX5 yX5_lives yX5_lives, .code yX5_lives cX5_lives 2 (some .boolean), .methodLink RX5 136 yX5_placeOf, .static yX5_placeOf, .code yX5_placeOf cX5_placeOf 3 (some .int), .methodLink RX5 154 yX5_few, .static yX5_few, .code yX5_few cX5_few 1 (some .int)] ++ wsX50)
def wsX5_keep : List Cond := .code yX5_keep cX5_keep 2 (some .int) :: ([.fieldLink RX5 13 "TreeDebtsModel" "isKept" "[Z", .fieldLink RX5 7 "TreeDebtsModel" "row" "[I", .methodLink RX5 50 yX5_in, .static yX5_in, .initialized RX5, .code yX5_in cX5_in 6 (some .boolean), .methodLink RX5 132 yX5_copy, .instanceMethod yX5_copy, .selects RX5 yX5_copy yX5_copy, .code yX5_copy cX5_copy 4 none] ++ wsX50)
def wsX5_back : List Cond := .code yX5_back cX5_back 2 (some .int) :: ([.fieldLink RX5 13 "TreeDebtsModel" "isKept" "[Z", .fieldLink RX5 7 "TreeDebtsModel" "row" "[I", .methodLink RX5 50 yX5_in, .static yX5_in, .initialized RX5, .code yX5_in cX5_in 6 (some .boolean), .methodLink RX5 132 yX5_copy, .instanceMethod yX5_copy, .selects RX5 yX5_copy yX5_copy, .code yX5_copy cX5_copy 4 none] ++ wsX50)
def wsX5_tryDays_r1 : List Cond := [Cond.methodLink RX5 132 yX5_copy, Cond.instanceMethod yX5_copy, Cond.selects RX5 yX5_copy yX5_copy, Cond.initialized RX5, Cond.code yX5_copy cX5_copy 4 none, Cond.fieldLink RX5 7 "TreeDebtsModel" "row" "[I", Cond.methodLink RX5 174 yX5_day, Cond.instanceMethod yX5_day, Cond.selects RX5 yX5_day yX5_day, Cond.code yX5_day cX5_day 5 none, Cond.methodLink RX5 136 yX5_placeOf, Cond.static yX5_placeOf, Cond.code yX5_placeOf cX5_placeOf 3 (some .int), Cond.methodLink RX5 160 yX5_grown, Cond.instanceMethod yX5_grown, Cond.selects RX5 yX5_grown yX5_grown, Cond.code yX5_grown cX5_grown 6 (some .int), Cond.fieldLink RX5 23 "TreeDebtsModel" "kinds" "[I", Cond.fieldLink RX5 26 "TreeDebtsModel" "rates" "[I", Cond.constant RX5 150 (1000000), Cond.methodLink RX5 163 yX5_work, Cond.instanceMethod yX5_work, Cond.selects RX5 yX5_work yX5_work, Cond.code yX5_work cX5_work 8 none]
def wsX5_tryDays_r2 : List Cond := [Cond.methodLink RX5 151 yX5_firstDue, Cond.instanceMethod yX5_firstDue, Cond.selects RX5 yX5_firstDue yX5_firstDue, Cond.code yX5_firstDue cX5_firstDue 4 (some .int), Cond.methodLink RX5 154 yX5_few, Cond.static yX5_few, Cond.code yX5_few cX5_few 1 (some .int), Cond.methodLink RX5 157 yX5_remove, Cond.instanceMethod yX5_remove, Cond.selects RX5 yX5_remove yX5_remove, Cond.code yX5_remove cX5_remove 4 none]
def wsX5_tryDays : List Cond := .code yX5_tryDays cX5_tryDays 4 none :: ((wsX5_tryDays_r1 ++ wsX5_tryDays_r2) ++ wsX50)
def wsX5_later_r1 : List Cond := [Cond.constantLong RX5 169 (99), Cond.fieldLink RX5 38 "TreeDebtsModel" "hands" "I", Cond.methodLink RX5 166 yX5_isTree, Cond.instanceMethod yX5_isTree, Cond.selects RX5 yX5_isTree yX5_isTree, Cond.initialized RX5, Cond.code yX5_isTree cX5_isTree 2 (some .boolean), Cond.fieldLink RX5 115 "TreeDebtsModel" "many" "I", Cond.methodLink RX5 50 yX5_in, Cond.static yX5_in, Cond.code yX5_in cX5_in 6 (some .boolean), Cond.methodLink RX5 182 yX5_tryDays, Cond.instanceMethod yX5_tryDays, Cond.selects RX5 yX5_tryDays yX5_tryDays, Cond.code yX5_tryDays cX5_tryDays 4 none, Cond.methodLink RX5 132 yX5_copy, Cond.instanceMethod yX5_copy, Cond.selects RX5 yX5_copy yX5_copy, Cond.code yX5_copy cX5_copy 4 none, Cond.fieldLink RX5 7 "TreeDebtsModel" "row" "[I", Cond.methodLink RX5 174 yX5_day, Cond.instanceMethod yX5_day, Cond.selects RX5 yX5_day yX5_day, Cond.code yX5_day cX5_day 5 none]
def wsX5_later_r2 : List Cond := [Cond.methodLink RX5 136 yX5_placeOf, Cond.static yX5_placeOf, Cond.code yX5_placeOf cX5_placeOf 3 (some .int), Cond.methodLink RX5 160 yX5_grown, Cond.instanceMethod yX5_grown, Cond.selects RX5 yX5_grown yX5_grown, Cond.code yX5_grown cX5_grown 6 (some .int), Cond.fieldLink RX5 23 "TreeDebtsModel" "kinds" "[I", Cond.fieldLink RX5 26 "TreeDebtsModel" "rates" "[I", Cond.constant RX5 150 (1000000), Cond.methodLink RX5 163 yX5_work, Cond.instanceMethod yX5_work, Cond.selects RX5 yX5_work yX5_work, Cond.code yX5_work cX5_work 8 none, Cond.methodLink RX5 151 yX5_firstDue, Cond.instanceMethod yX5_firstDue, Cond.selects RX5 yX5_firstDue yX5_firstDue, Cond.code yX5_firstDue cX5_firstDue 4 (some .int), Cond.methodLink RX5 154 yX5_few, Cond.static yX5_few, Cond.code yX5_few cX5_few 1 (some .int), Cond.methodLink RX5 157 yX5_remove, Cond.instanceMethod yX5_remove, Cond.selects RX5 yX5_remove yX5_remove]
def wsX5_later_r3 : List Cond := [Cond.code yX5_remove cX5_remove 4 none, Cond.methodLink RX5 140 yX5_owedTo, Cond.instanceMethod yX5_owedTo, Cond.selects RX5 yX5_owedTo yX5_owedTo, Cond.code yX5_owedTo cX5_owedTo 5 (some .int)]
def wsX5_later : List Cond := .code yX5_later cX5_later 3 (some .int) :: ((wsX5_later_r1 ++ (wsX5_later_r2 ++ wsX5_later_r3)) ++ wsX50)
def wsX5_all_r1 : List Cond := [Cond.constantLong RX5 169 (99), Cond.fieldLink RX5 38 "TreeDebtsModel" "hands" "I", Cond.fieldLink RX5 7 "TreeDebtsModel" "row" "[I", Cond.methodLink RX5 50 yX5_in, Cond.static yX5_in, Cond.initialized RX5, Cond.code yX5_in cX5_in 6 (some .boolean), Cond.methodLink RX5 182 yX5_tryDays, Cond.instanceMethod yX5_tryDays, Cond.selects RX5 yX5_tryDays yX5_tryDays, Cond.code yX5_tryDays cX5_tryDays 4 none, Cond.methodLink RX5 132 yX5_copy, Cond.instanceMethod yX5_copy, Cond.selects RX5 yX5_copy yX5_copy, Cond.code yX5_copy cX5_copy 4 none, Cond.methodLink RX5 174 yX5_day, Cond.instanceMethod yX5_day, Cond.selects RX5 yX5_day yX5_day, Cond.code yX5_day cX5_day 5 none, Cond.methodLink RX5 136 yX5_placeOf, Cond.static yX5_placeOf, Cond.code yX5_placeOf cX5_placeOf 3 (some .int), Cond.methodLink RX5 160 yX5_grown, Cond.instanceMethod yX5_grown]
def wsX5_all_r2 : List Cond := [Cond.selects RX5 yX5_grown yX5_grown, Cond.code yX5_grown cX5_grown 6 (some .int), Cond.fieldLink RX5 23 "TreeDebtsModel" "kinds" "[I", Cond.fieldLink RX5 26 "TreeDebtsModel" "rates" "[I", Cond.constant RX5 150 (1000000), Cond.methodLink RX5 163 yX5_work, Cond.instanceMethod yX5_work, Cond.selects RX5 yX5_work yX5_work, Cond.code yX5_work cX5_work 8 none, Cond.methodLink RX5 151 yX5_firstDue, Cond.instanceMethod yX5_firstDue, Cond.selects RX5 yX5_firstDue yX5_firstDue, Cond.code yX5_firstDue cX5_firstDue 4 (some .int), Cond.methodLink RX5 154 yX5_few, Cond.static yX5_few, Cond.code yX5_few cX5_few 1 (some .int), Cond.methodLink RX5 157 yX5_remove, Cond.instanceMethod yX5_remove, Cond.selects RX5 yX5_remove yX5_remove, Cond.code yX5_remove cX5_remove 4 none, Cond.methodLink RX5 185 yX5_owedAll, Cond.instanceMethod yX5_owedAll, Cond.selects RX5 yX5_owedAll yX5_owedAll, Cond.code yX5_owedAll cX5_owedAll 4 (some .int)]
def wsX5_all : List Cond := .code yX5_all cX5_all 3 (some .int) :: ((wsX5_all_r1 ++ wsX5_all_r2) ++ wsX50)
def wsX5_clear_r1 : List Cond := [Cond.fieldLink RX5 7 "TreeDebtsModel" "row" "[I", Cond.fieldLink RX5 38 "TreeDebtsModel" "hands" "I", Cond.methodLink RX5 132 yX5_copy, Cond.instanceMethod yX5_copy, Cond.selects RX5 yX5_copy yX5_copy, Cond.initialized RX5, Cond.code yX5_copy cX5_copy 4 none, Cond.methodLink RX5 174 yX5_day, Cond.instanceMethod yX5_day, Cond.selects RX5 yX5_day yX5_day, Cond.code yX5_day cX5_day 5 none, Cond.methodLink RX5 136 yX5_placeOf, Cond.static yX5_placeOf, Cond.code yX5_placeOf cX5_placeOf 3 (some .int), Cond.methodLink RX5 160 yX5_grown, Cond.instanceMethod yX5_grown, Cond.selects RX5 yX5_grown yX5_grown, Cond.code yX5_grown cX5_grown 6 (some .int), Cond.fieldLink RX5 23 "TreeDebtsModel" "kinds" "[I", Cond.fieldLink RX5 26 "TreeDebtsModel" "rates" "[I", Cond.constant RX5 150 (1000000), Cond.methodLink RX5 163 yX5_work, Cond.instanceMethod yX5_work, Cond.selects RX5 yX5_work yX5_work]
def wsX5_clear_r2 : List Cond := [Cond.code yX5_work cX5_work 8 none, Cond.methodLink RX5 151 yX5_firstDue, Cond.instanceMethod yX5_firstDue, Cond.selects RX5 yX5_firstDue yX5_firstDue, Cond.code yX5_firstDue cX5_firstDue 4 (some .int), Cond.methodLink RX5 154 yX5_few, Cond.static yX5_few, Cond.code yX5_few cX5_few 1 (some .int), Cond.methodLink RX5 157 yX5_remove, Cond.instanceMethod yX5_remove, Cond.selects RX5 yX5_remove yX5_remove, Cond.code yX5_remove cX5_remove 4 none]
def wsX5_clear : List Cond := .code yX5_clear cX5_clear 2 (some .int) :: ((wsX5_clear_r1 ++ wsX5_clear_r2) ++ wsX50)
def wsX5_owedFor : List Cond := .code yX5_owedFor cX5_owedFor 6 (some .int) :: ([.methodLink RX5 160 yX5_grown, .instanceMethod yX5_grown, .selects RX5 yX5_grown yX5_grown, .initialized RX5, .code yX5_grown cX5_grown 6 (some .int), .fieldLink RX5 23 "TreeDebtsModel" "kinds" "[I", .fieldLink RX5 26 "TreeDebtsModel" "rates" "[I", .constant RX5 150 (1000000)] ++ wsX50)
def wsX5_layPrices_r1 : List Cond := [Cond.fieldLink RX5 115 "TreeDebtsModel" "many" "I", Cond.fieldLink RX5 7 "TreeDebtsModel" "row" "[I", Cond.fieldLink RX5 42 "TreeDebtsModel" "prices" "[I", Cond.methodLink RX5 171 yX5_lends, Cond.instanceMethod yX5_lends, Cond.selects RX5 yX5_lends yX5_lends, Cond.initialized RX5, Cond.code yX5_lends cX5_lends 2 (some .boolean), Cond.methodLink RX5 144 yX5_lives, Cond.instanceMethod yX5_lives, Cond.selects RX5 yX5_lives yX5_lives, Cond.code yX5_lives cX5_lives 2 (some .boolean), Cond.methodLink RX5 147 yX5_isCross, Cond.instanceMethod yX5_isCross, Cond.selects RX5 yX5_isCross yX5_isCross, Cond.code yX5_isCross cX5_isCross 5 (some .boolean), Cond.fieldLink RX5 118 "TreeDebtsModel" "quarrelMany" "I", Cond.fieldLink RX5 35 "TreeDebtsModel" "quarrels" "[I", Cond.methodLink RX5 140 yX5_owedTo, Cond.instanceMethod yX5_owedTo, Cond.selects RX5 yX5_owedTo yX5_owedTo, Cond.code yX5_owedTo cX5_owedTo 5 (some .int), Cond.methodLink RX5 136 yX5_placeOf, Cond.static yX5_placeOf]
def wsX5_layPrices_r2 : List Cond := [Cond.code yX5_placeOf cX5_placeOf 3 (some .int), Cond.methodLink RX5 188 yX5_owedFor, Cond.instanceMethod yX5_owedFor, Cond.selects RX5 yX5_owedFor yX5_owedFor, Cond.code yX5_owedFor cX5_owedFor 6 (some .int), Cond.methodLink RX5 160 yX5_grown, Cond.instanceMethod yX5_grown, Cond.selects RX5 yX5_grown yX5_grown, Cond.code yX5_grown cX5_grown 6 (some .int), Cond.fieldLink RX5 23 "TreeDebtsModel" "kinds" "[I", Cond.fieldLink RX5 26 "TreeDebtsModel" "rates" "[I", Cond.constant RX5 150 (1000000)]
def wsX5_layPrices : List Cond := .code yX5_layPrices cX5_layPrices 5 none :: ((wsX5_layPrices_r1 ++ wsX5_layPrices_r2) ++ wsX50)
def wsX5_by : List Cond := .code yX5_by cX5_by 6 (some .int) :: ([.fieldLink RX5 42 "TreeDebtsModel" "prices" "[I", .fieldLink RX5 45 "TreeDebtsModel" "leasts" "[I"] ++ wsX50)
def wsX5_layLeasts : List Cond := .code yX5_layLeasts cX5_layLeasts 6 none :: ([.fieldLink RX5 45 "TreeDebtsModel" "leasts" "[I", .fieldLink RX5 115 "TreeDebtsModel" "many" "I", .methodLink RX5 191 yX5_by, .instanceMethod yX5_by, .selects RX5 yX5_by yX5_by, .initialized RX5, .code yX5_by cX5_by 6 (some .int), .fieldLink RX5 42 "TreeDebtsModel" "prices" "[I"] ++ wsX50)
def wsX5_hut_r1 : List Cond := [Cond.constantLong RX5 169 (99), Cond.constantLong RX5 194 (30), Cond.fieldLink RX5 45 "TreeDebtsModel" "leasts" "[I", Cond.methodLink RX5 50 yX5_in, Cond.static yX5_in, Cond.initialized RX5, Cond.code yX5_in cX5_in 6 (some .boolean), Cond.methodLink RX5 166 yX5_isTree, Cond.instanceMethod yX5_isTree, Cond.selects RX5 yX5_isTree yX5_isTree, Cond.code yX5_isTree cX5_isTree 2 (some .boolean), Cond.fieldLink RX5 115 "TreeDebtsModel" "many" "I", Cond.methodLink RX5 196 yX5_layPrices, Cond.instanceMethod yX5_layPrices, Cond.selects RX5 yX5_layPrices yX5_layPrices, Cond.code yX5_layPrices cX5_layPrices 5 none, Cond.fieldLink RX5 7 "TreeDebtsModel" "row" "[I", Cond.fieldLink RX5 42 "TreeDebtsModel" "prices" "[I", Cond.methodLink RX5 171 yX5_lends, Cond.instanceMethod yX5_lends, Cond.selects RX5 yX5_lends yX5_lends, Cond.code yX5_lends cX5_lends 2 (some .boolean), Cond.methodLink RX5 144 yX5_lives, Cond.instanceMethod yX5_lives]
def wsX5_hut_r2 : List Cond := [Cond.selects RX5 yX5_lives yX5_lives, Cond.code yX5_lives cX5_lives 2 (some .boolean), Cond.methodLink RX5 147 yX5_isCross, Cond.instanceMethod yX5_isCross, Cond.selects RX5 yX5_isCross yX5_isCross, Cond.code yX5_isCross cX5_isCross 5 (some .boolean), Cond.fieldLink RX5 118 "TreeDebtsModel" "quarrelMany" "I", Cond.fieldLink RX5 35 "TreeDebtsModel" "quarrels" "[I", Cond.methodLink RX5 140 yX5_owedTo, Cond.instanceMethod yX5_owedTo, Cond.selects RX5 yX5_owedTo yX5_owedTo, Cond.code yX5_owedTo cX5_owedTo 5 (some .int), Cond.methodLink RX5 136 yX5_placeOf, Cond.static yX5_placeOf, Cond.code yX5_placeOf cX5_placeOf 3 (some .int), Cond.methodLink RX5 188 yX5_owedFor, Cond.instanceMethod yX5_owedFor, Cond.selects RX5 yX5_owedFor yX5_owedFor, Cond.code yX5_owedFor cX5_owedFor 6 (some .int), Cond.methodLink RX5 160 yX5_grown, Cond.instanceMethod yX5_grown, Cond.selects RX5 yX5_grown yX5_grown, Cond.code yX5_grown cX5_grown 6 (some .int), Cond.fieldLink RX5 23 "TreeDebtsModel" "kinds" "[I"]
def wsX5_hut_r3 : List Cond := [Cond.fieldLink RX5 26 "TreeDebtsModel" "rates" "[I", Cond.constant RX5 150 (1000000), Cond.methodLink RX5 199 yX5_layLeasts, Cond.instanceMethod yX5_layLeasts, Cond.selects RX5 yX5_layLeasts yX5_layLeasts, Cond.code yX5_layLeasts cX5_layLeasts 6 none, Cond.methodLink RX5 191 yX5_by, Cond.instanceMethod yX5_by, Cond.selects RX5 yX5_by yX5_by, Cond.code yX5_by cX5_by 6 (some .int)]
def wsX5_hut : List Cond := .code yX5_hut cX5_hut 7 (some .int) :: ((wsX5_hut_r1 ++ (wsX5_hut_r2 ++ wsX5_hut_r3)) ++ wsX50)
def wsX5_enough_r1 : List Cond := [Cond.constantLong RX5 169 (99), Cond.fieldLink RX5 7 "TreeDebtsModel" "row" "[I", Cond.methodLink RX5 50 yX5_in, Cond.static yX5_in, Cond.initialized RX5, Cond.code yX5_in cX5_in 6 (some .boolean), Cond.methodLink RX5 182 yX5_tryDays, Cond.instanceMethod yX5_tryDays, Cond.selects RX5 yX5_tryDays yX5_tryDays, Cond.code yX5_tryDays cX5_tryDays 4 none, Cond.methodLink RX5 132 yX5_copy, Cond.instanceMethod yX5_copy, Cond.selects RX5 yX5_copy yX5_copy, Cond.code yX5_copy cX5_copy 4 none, Cond.methodLink RX5 174 yX5_day, Cond.instanceMethod yX5_day, Cond.selects RX5 yX5_day yX5_day, Cond.code yX5_day cX5_day 5 none, Cond.methodLink RX5 136 yX5_placeOf, Cond.static yX5_placeOf, Cond.code yX5_placeOf cX5_placeOf 3 (some .int), Cond.methodLink RX5 160 yX5_grown, Cond.instanceMethod yX5_grown, Cond.selects RX5 yX5_grown yX5_grown]
def wsX5_enough_r2 : List Cond := [Cond.code yX5_grown cX5_grown 6 (some .int), Cond.fieldLink RX5 23 "TreeDebtsModel" "kinds" "[I", Cond.fieldLink RX5 26 "TreeDebtsModel" "rates" "[I", Cond.constant RX5 150 (1000000), Cond.methodLink RX5 163 yX5_work, Cond.instanceMethod yX5_work, Cond.selects RX5 yX5_work yX5_work, Cond.code yX5_work cX5_work 8 none, Cond.methodLink RX5 151 yX5_firstDue, Cond.instanceMethod yX5_firstDue, Cond.selects RX5 yX5_firstDue yX5_firstDue, Cond.code yX5_firstDue cX5_firstDue 4 (some .int), Cond.methodLink RX5 154 yX5_few, Cond.static yX5_few, Cond.code yX5_few cX5_few 1 (some .int), Cond.methodLink RX5 157 yX5_remove, Cond.instanceMethod yX5_remove, Cond.selects RX5 yX5_remove yX5_remove, Cond.code yX5_remove cX5_remove 4 none]
def wsX5_enough : List Cond := .code yX5_enough cX5_enough 3 (some .int) :: ((wsX5_enough_r1 ++ wsX5_enough_r2) ++ wsX50)
def wsX5_rid : List Cond := .code yX5_rid cX5_rid 9 (some .int) :: ([.constantLong RX5 202 (10), .fieldLink RX5 7 "TreeDebtsModel" "row" "[I", .fieldLink RX5 32 "TreeDebtsModel" "parts" "[I", .methodLink RX5 50 yX5_in, .static yX5_in, .initialized RX5, .code yX5_in cX5_in 6 (some .boolean), .methodLink RX5 136 yX5_placeOf, .static yX5_placeOf, .code yX5_placeOf cX5_placeOf 3 (some .int)] ++ wsX50)
def wsX5_grandson_r1 : List Cond := [Cond.constantLong RX5 169 (99), Cond.fieldLink RX5 38 "TreeDebtsModel" "hands" "I", Cond.fieldLink RX5 115 "TreeDebtsModel" "many" "I", Cond.fieldLink RX5 7 "TreeDebtsModel" "row" "[I", Cond.methodLink RX5 50 yX5_in, Cond.static yX5_in, Cond.initialized RX5, Cond.code yX5_in cX5_in 6 (some .boolean), Cond.methodLink RX5 182 yX5_tryDays, Cond.instanceMethod yX5_tryDays, Cond.selects RX5 yX5_tryDays yX5_tryDays, Cond.code yX5_tryDays cX5_tryDays 4 none, Cond.methodLink RX5 132 yX5_copy, Cond.instanceMethod yX5_copy, Cond.selects RX5 yX5_copy yX5_copy, Cond.code yX5_copy cX5_copy 4 none, Cond.methodLink RX5 174 yX5_day, Cond.instanceMethod yX5_day, Cond.selects RX5 yX5_day yX5_day, Cond.code yX5_day cX5_day 5 none, Cond.methodLink RX5 136 yX5_placeOf, Cond.static yX5_placeOf, Cond.code yX5_placeOf cX5_placeOf 3 (some .int), Cond.methodLink RX5 160 yX5_grown]
def wsX5_grandson_r2 : List Cond := [Cond.instanceMethod yX5_grown, Cond.selects RX5 yX5_grown yX5_grown, Cond.code yX5_grown cX5_grown 6 (some .int), Cond.fieldLink RX5 23 "TreeDebtsModel" "kinds" "[I", Cond.fieldLink RX5 26 "TreeDebtsModel" "rates" "[I", Cond.constant RX5 150 (1000000), Cond.methodLink RX5 163 yX5_work, Cond.instanceMethod yX5_work, Cond.selects RX5 yX5_work yX5_work, Cond.code yX5_work cX5_work 8 none, Cond.methodLink RX5 151 yX5_firstDue, Cond.instanceMethod yX5_firstDue, Cond.selects RX5 yX5_firstDue yX5_firstDue, Cond.code yX5_firstDue cX5_firstDue 4 (some .int), Cond.methodLink RX5 154 yX5_few, Cond.static yX5_few, Cond.code yX5_few cX5_few 1 (some .int), Cond.methodLink RX5 157 yX5_remove, Cond.instanceMethod yX5_remove, Cond.selects RX5 yX5_remove yX5_remove, Cond.code yX5_remove cX5_remove 4 none, Cond.methodLink RX5 144 yX5_lives, Cond.instanceMethod yX5_lives, Cond.selects RX5 yX5_lives yX5_lives]
def wsX5_grandson_r3 : List Cond := [Cond.code yX5_lives cX5_lives 2 (some .boolean)]
def wsX5_grandson : List Cond := .code yX5_grandson cX5_grandson 4 (some .int) :: ((wsX5_grandson_r1 ++ (wsX5_grandson_r2 ++ wsX5_grandson_r3)) ++ wsX50)
def wsX5_toWhom : List Cond := .code yX5_toWhom cX5_toWhom 6 (some .int) :: ([.constantLong RX5 169 (99), .constantLong RX5 194 (30), .constantLong RX5 204 (1000000), .fieldLink RX5 115 "TreeDebtsModel" "many" "I", .methodLink RX5 50 yX5_in, .static yX5_in, .initialized RX5, .code yX5_in cX5_in 6 (some .boolean), .methodLink RX5 144 yX5_lives, .instanceMethod yX5_lives, .selects RX5 yX5_lives yX5_lives, .code yX5_lives cX5_lives 2 (some .boolean), .fieldLink RX5 7 "TreeDebtsModel" "row" "[I", .methodLink RX5 188 yX5_owedFor, .instanceMethod yX5_owedFor, .selects RX5 yX5_owedFor yX5_owedFor, .code yX5_owedFor cX5_owedFor 6 (some .int), .methodLink RX5 160 yX5_grown, .instanceMethod yX5_grown, .selects RX5 yX5_grown yX5_grown, .code yX5_grown cX5_grown 6 (some .int), .fieldLink RX5 23 "TreeDebtsModel" "kinds" "[I", .fieldLink RX5 26 "TreeDebtsModel" "rates" "[I", .constant RX5 150 (1000000)] ++ wsX50)
def wsX5_count : List Cond := .code yX5_count cX5_count 2 (some .int) :: ([.fieldLink RX5 115 "TreeDebtsModel" "many" "I", .fieldLink RX5 118 "TreeDebtsModel" "quarrelMany" "I", .fieldLink RX5 38 "TreeDebtsModel" "hands" "I", .fieldLink RX5 7 "TreeDebtsModel" "row" "[I", .fieldLink RX5 54 "TreeDebtsModel" "length" "I", .methodLink RX5 185 yX5_owedAll, .instanceMethod yX5_owedAll, .selects RX5 yX5_owedAll yX5_owedAll, .initialized RX5, .code yX5_owedAll cX5_owedAll 4 (some .int), .methodLink RX5 136 yX5_placeOf, .static yX5_placeOf, .code yX5_placeOf cX5_placeOf 3 (some .int)] ++ wsX50)
def wsJ9_min_7cf53 : List Cond := .code yJ9_min_7cf53 cJ9_min_7cf53 2 (some .int) :: ([])
def wsL_law_r1 : List Cond := [Cond.classLink RL 7 RX4, Cond.instantiable RX4 7, Cond.initialized RX4, Cond.classLink RL 10 RX5, Cond.instantiable RX5 21, Cond.initialized RX5, Cond.constantLong RL 13 (4294967295), Cond.methodLink RL 9 yX4_init, Cond.instanceMethod yX4_init, Cond.code yX4_init cX4_init 1 none, Cond.methodLink RX4 1 objectInit, Cond.instanceMethod objectInit, Cond.code objectInit ⟨#[0xb1]⟩ 1 none, Cond.classLink RX4 7 RX2, Cond.instantiable RX2 8, Cond.initialized RX2, Cond.fieldLink RX4 10 "TreeDebts" "text" "LTreeDebts$Text;", Cond.classLink RX4 16 RX3, Cond.instantiable RX3 10, Cond.initialized RX3, Cond.fieldLink RX4 19 "TreeDebts" "told" "LTreeDebts$Told;", Cond.classLink RX4 23 RX1, Cond.instantiable RX1 10, Cond.initialized RX1]
def wsL_law_r2 : List Cond := [Cond.fieldLink RX4 26 "TreeDebts" "now" "LTreeDebts$State;", Cond.fieldLink RX4 30 "TreeDebts" "foretold" "LTreeDebts$State;", Cond.fieldLink RX4 33 "TreeDebts" "kept" "[LTreeDebts$State;", Cond.arrayClass .boolean, Cond.fieldLink RX4 37 "TreeDebts" "isKept" "[Z", Cond.classLink RX4 41 RX0, Cond.instantiable RX0 5, Cond.initialized RX0, Cond.fieldLink RX4 44 "TreeDebts" "hutPlan" "LTreeDebts$HutPlan;", Cond.instanceMethod yX2_init, Cond.code yX2_init cX2_init 1 none, Cond.methodLink RX2 3 objectInit, Cond.arrayClass .int, Cond.fieldLink RX2 9 "TreeDebts$Text" "bytes" "[I", Cond.classLink RX2 15 RX3, Cond.fieldLink RX2 18 "TreeDebts$Text" "draft" "LTreeDebts$Told;", Cond.instanceMethod yX3_init, Cond.code yX3_init cX3_init 1 none, Cond.methodLink RX3 3 objectInit, Cond.fieldLink RX3 9 "TreeDebts$Told" "kinds" "[I", Cond.fieldLink RX3 15 "TreeDebts$Told" "branches" "[I", Cond.fieldLink RX3 18 "TreeDebts$Told" "rates" "[I", Cond.fieldLink RX3 21 "TreeDebts$Told" "terms" "[I", Cond.fieldLink RX3 24 "TreeDebts$Told" "parts" "[I"]
def wsL_law_r3 : List Cond := [Cond.fieldLink RX3 27 "TreeDebts$Told" "ones" "[I", Cond.fieldLink RX3 30 "TreeDebts$Told" "others" "[I", Cond.fieldLink RX3 33 "TreeDebts$Told" "hands" "I", Cond.instanceMethod yX1_init, Cond.code yX1_init cX1_init 1 none, Cond.methodLink RX1 3 objectInit, Cond.fieldLink RX1 9 "TreeDebts$State" "branches" "[I", Cond.fieldLink RX1 15 "TreeDebts$State" "fates" "[I", Cond.fieldLink RX1 18 "TreeDebts$State" "lenders" "[I", Cond.fieldLink RX1 21 "TreeDebts$State" "lent" "[I", Cond.fieldLink RX1 24 "TreeDebts$State" "owed" "[I", Cond.fieldLink RX1 27 "TreeDebts$State" "dues" "[I", Cond.fieldLink RX1 30 "TreeDebts$State" "failed" "[I", Cond.instanceMethod yX0_init, Cond.code yX0_init cX0_init 1 none, Cond.methodLink RX0 3 objectInit, Cond.classLink RX0 9 "[[I", Cond.fieldLink RX0 11 "TreeDebts$HutPlan" "least" "[[I", Cond.fieldLink RX0 16 "TreeDebts$HutPlan" "choice" "[[I", Cond.fieldLink RX0 19 "TreeDebts$HutPlan" "costs" "[I", Cond.fieldLink RX0 23 "TreeDebts$HutPlan" "from" "[I", Cond.methodLink RL 12 yX5_init, Cond.instanceMethod yX5_init, Cond.code yX5_init cX5_init 1 none]
def wsL_law_r4 : List Cond := [Cond.methodLink RX5 1 objectInit, Cond.fieldLink RX5 7 "TreeDebtsModel" "row" "[I", Cond.fieldLink RX5 13 "TreeDebtsModel" "isKept" "[Z", Cond.fieldLink RX5 17 "TreeDebtsModel" "text" "[I", Cond.fieldLink RX5 20 "TreeDebtsModel" "read" "[I", Cond.fieldLink RX5 23 "TreeDebtsModel" "kinds" "[I", Cond.fieldLink RX5 26 "TreeDebtsModel" "rates" "[I", Cond.fieldLink RX5 29 "TreeDebtsModel" "terms" "[I", Cond.fieldLink RX5 32 "TreeDebtsModel" "parts" "[I", Cond.fieldLink RX5 35 "TreeDebtsModel" "quarrels" "[I", Cond.fieldLink RX5 38 "TreeDebtsModel" "hands" "I", Cond.fieldLink RX5 42 "TreeDebtsModel" "prices" "[I", Cond.fieldLink RX5 45 "TreeDebtsModel" "leasts" "[I", Cond.methodLink RL 15 yX4_write, Cond.instanceMethod yX4_write, Cond.selects RX4 yX4_write yX4_write, Cond.code yX4_write cX4_write 5 (some .int), Cond.fieldLink RX4 48 "TreeDebts$Text" "length" "I", Cond.constantLong RX4 52 (255), Cond.methodLink RX4 54 yX2_add, Cond.instanceMethod yX2_add, Cond.selects RX2 yX2_add yX2_add, Cond.code yX2_add cX2_add 2 none, Cond.fieldLink RX2 22 "TreeDebts$Text" "length" "I"]
def wsL_law_r5 : List Cond := [Cond.methodLink RL 19 yX5_write, Cond.instanceMethod yX5_write, Cond.selects RX5 yX5_write yX5_write, Cond.code yX5_write cX5_write 5 (some .int), Cond.constantLong RX5 48 (8), Cond.fieldLink RX5 54 "TreeDebtsModel" "length" "I", Cond.constantLong RX5 57 (255), Cond.methodLink RX5 50 yX5_in, Cond.static yX5_in, Cond.code yX5_in cX5_in 6 (some .boolean), Cond.methodLink RL 20 yX4_erase, Cond.instanceMethod yX4_erase, Cond.selects RX4 yX4_erase yX4_erase, Cond.code yX4_erase cX4_erase 2 (some .int), Cond.methodLink RL 24 yX5_erase, Cond.instanceMethod yX5_erase, Cond.selects RX5 yX5_erase yX5_erase, Cond.code yX5_erase cX5_erase 2 (some .int), Cond.methodLink RL 25 yX4_fault, Cond.instanceMethod yX4_fault, Cond.selects RX4 yX4_fault yX4_fault, Cond.code yX4_fault cX4_fault 1 (some .int), Cond.methodLink RX4 58 yX2_read, Cond.instanceMethod yX2_read]
def wsL_law_r6 : List Cond := [Cond.selects RX2 yX2_read yX2_read, Cond.code yX2_read cX2_read 3 (some .int), Cond.fieldLink RX2 30 "TreeDebts$Text" "lines" "I", Cond.fieldLink RX2 33 "TreeDebts$Text" "end" "I", Cond.fieldLink RX2 43 "TreeDebts$Text" "start" "I", Cond.fieldLink RX2 46 "TreeDebts$Text" "token" "I", Cond.methodLink RX2 26 yX3_copyFrom, Cond.instanceMethod yX3_copyFrom, Cond.selects RX3 yX3_copyFrom yX3_copyFrom, Cond.code yX3_copyFrom cX3_copyFrom 2 none, Cond.fieldLink RX3 37 "TreeDebts$Told" "trees" "I", Cond.methodLink RX3 43 arraycopyName, Cond.native arraycopyName, Cond.static arraycopyName, Cond.initialized "java/lang/System", Cond.fieldLink RX3 40 "TreeDebts$Told" "quarrels" "I", Cond.methodLink RX2 36 yX2_nextToken, Cond.instanceMethod yX2_nextToken, Cond.selects RX2 yX2_nextToken yX2_nextToken, Cond.code yX2_nextToken cX2_nextToken 1 none, Cond.methodLink RX2 117 yX2_isLetter, Cond.static yX2_isLetter, Cond.code yX2_isLetter cX2_isLetter 1 (some .boolean), Cond.methodLink RX2 120 yX2_isDigit]
def wsL_law_r7 : List Cond := [Cond.static yX2_isDigit, Cond.code yX2_isDigit cX2_isDigit 1 (some .boolean), Cond.methodLink RX2 123 yX2_readDigits, Cond.instanceMethod yX2_readDigits, Cond.selects RX2 yX2_readDigits yX2_readDigits, Cond.code yX2_readDigits cX2_readDigits 1 none, Cond.fieldLink RX2 108 "TreeDebts$Text" "value" "I", Cond.methodLink RX2 39 yX2_readLine, Cond.instanceMethod yX2_readLine, Cond.selects RX2 yX2_readLine yX2_readLine, Cond.code yX2_readLine cX2_readLine 1 (some .boolean), Cond.methodLink RX2 54 yX2_isWord, Cond.instanceMethod yX2_isWord, Cond.selects RX2 yX2_isWord yX2_isWord, Cond.code yX2_isWord cX2_isWord 3 (some .boolean), Cond.methodLink RX2 126 yJ0_length_8abf5, Cond.instanceMethod yJ0_length_8abf5, Cond.selects RJ0 yJ0_length_8abf5 yJ0_length_8abf5, Cond.initialized RJ0, Cond.code yJ0_length_8abf5 cJ0_length_8abf5 1 (some .int), Cond.fieldLink RJ0 9 "java/lang/String" "value" "[B", Cond.methodLink RJ0 335 yJ0_coder_7d493, Cond.instanceMethod yJ0_coder_7d493, Cond.selects RJ0 yJ0_coder_7d493 yJ0_coder_7d493]
def wsL_law_r8 : List Cond := [Cond.code yJ0_coder_7d493 cJ0_coder_7d493 1 (some .byte), Cond.fieldLink RJ0 38 "java/lang/String" "COMPACT_STRINGS" "Z", Cond.fieldLink RJ0 15 "java/lang/String" "coder" "B", Cond.methodLink RX2 131 yJ0_charAt_5068e, Cond.instanceMethod yJ0_charAt_5068e, Cond.selects RJ0 yJ0_charAt_5068e yJ0_charAt_5068e, Cond.code yJ0_charAt_5068e cJ0_charAt_5068e 2 (some .char), Cond.methodLink RJ0 492 yJ0_isLatin1_aae02, Cond.instanceMethod yJ0_isLatin1_aae02, Cond.selects RJ0 yJ0_isLatin1_aae02 yJ0_isLatin1_aae02, Cond.code yJ0_isLatin1_aae02 cJ0_isLatin1_aae02 1 (some .boolean), Cond.methodLink RJ0 495 yJ1_charAt_3b067, Cond.static yJ1_charAt_3b067, Cond.initialized RJ1, Cond.code yJ1_charAt_3b067 cJ1_charAt_3b067 2 (some .char), Cond.methodLink RJ1 9 yJ0_checkIndex_df160, Cond.static yJ0_checkIndex_df160, Cond.code yJ0_checkIndex_df160 cJ0_checkIndex_df160 2 none, Cond.fieldLink RJ0 1053 "jdk/internal/util/Preconditions" "SIOOBE_FORMATTER" "Ljava/util/function/BiFunction;", Cond.methodLink RJ0 1059 yJ3_checkIndex_8e157, Cond.static yJ3_checkIndex_8e157, Cond.initialized RJ3, Cond.code yJ3_checkIndex_8e157 cJ3_checkIndex_8e157 3 (some .int), Cond.methodLink RJ0 498 yJ2_charAt_3b067]
def wsL_law_r9 : List Cond := [Cond.static yJ2_charAt_3b067, Cond.initialized RJ2, Cond.code yJ2_charAt_3b067 cJ2_charAt_3b067 2 (some .char), Cond.methodLink RJ2 67 yJ2_checkIndex_2214a, Cond.static yJ2_checkIndex_2214a, Cond.code yJ2_checkIndex_2214a cJ2_checkIndex_2214a 2 none, Cond.methodLink RJ2 48 yJ2_length_9d52b, Cond.static yJ2_length_9d52b, Cond.code yJ2_length_9d52b cJ2_length_9d52b 1 (some .int), Cond.methodLink RJ2 414 yJ0_checkIndex_df160, Cond.methodLink RJ2 71 yJ2_getChar_3b067, Cond.static yJ2_getChar_3b067, Cond.code yJ2_getChar_3b067 cJ2_getChar_3b067 2 (some .char), Cond.fieldLink RJ2 44 "java/lang/StringUTF16" "$assertionsDisabled" "Z", Cond.fieldLink RJ2 59 "java/lang/StringUTF16" "HI_BYTE_SHIFT" "I", Cond.fieldLink RJ2 63 "java/lang/StringUTF16" "LO_BYTE_SHIFT" "I", Cond.methodLink RX2 58 yX2_readWood, Cond.instanceMethod yX2_readWood, Cond.selects RX2 yX2_readWood yX2_readWood, Cond.code yX2_readWood cX2_readWood 1 (some .boolean), Cond.methodLink RX2 88 yX3_forget, Cond.instanceMethod yX3_forget, Cond.selects RX3 yX3_forget yX3_forget, Cond.code yX3_forget cX3_forget 1 none]
def wsL_law_r10 : List Cond := [Cond.methodLink RX2 63 yX2_readTree, Cond.instanceMethod yX2_readTree, Cond.selects RX2 yX2_readTree yX2_readTree, Cond.code yX2_readTree cX2_readTree 5 (some .boolean), Cond.fieldLink RX2 91 "TreeDebts$Told" "trees" "I", Cond.methodLink RX2 94 yX2_readNumber, Cond.instanceMethod yX2_readNumber, Cond.selects RX2 yX2_readNumber yX2_readNumber, Cond.code yX2_readNumber cX2_readNumber 4 (some .int), Cond.methodLink RX2 98 yX3_addTree, Cond.instanceMethod yX3_addTree, Cond.selects RX3 yX3_addTree yX3_addTree, Cond.code yX3_addTree cX3_addTree 5 none, Cond.methodLink RX2 75 yX2_readPart, Cond.instanceMethod yX2_readPart, Cond.selects RX2 yX2_readPart yX2_readPart, Cond.code yX2_readPart cX2_readPart 3 (some .boolean), Cond.fieldLink RX2 102 "TreeDebts$Told" "parts" "[I", Cond.methodLink RX2 80 yX2_readQuarrel, Cond.instanceMethod yX2_readQuarrel, Cond.selects RX2 yX2_readQuarrel yX2_readQuarrel, Cond.code yX2_readQuarrel cX2_readQuarrel 3 (some .boolean), Cond.fieldLink RX2 105 "TreeDebts$Told" "quarrels" "I", Cond.methodLink RX2 111 yX3_addQuarrel]
def wsL_law_r11 : List Cond := [Cond.instanceMethod yX3_addQuarrel, Cond.selects RX3 yX3_addQuarrel yX3_addQuarrel, Cond.code yX3_addQuarrel cX3_addQuarrel 3 none, Cond.methodLink RX2 85 yX2_readHands, Cond.instanceMethod yX2_readHands, Cond.selects RX2 yX2_readHands yX2_readHands, Cond.code yX2_readHands cX2_readHands 2 (some .boolean), Cond.fieldLink RX2 115 "TreeDebts$Told" "hands" "I", Cond.methodLink RX2 49 yX2_isAtSemicolon, Cond.instanceMethod yX2_isAtSemicolon, Cond.selects RX2 yX2_isAtSemicolon yX2_isAtSemicolon, Cond.code yX2_isAtSemicolon cX2_isAtSemicolon 1 (some .boolean), Cond.methodLink RL 28 yX5_fault, Cond.instanceMethod yX5_fault, Cond.selects RX5 yX5_fault yX5_fault, Cond.code yX5_fault cX5_fault 2 (some .int), Cond.fieldLink RX5 59 "TreeDebtsModel" "at" "I", Cond.fieldLink RX5 87 "TreeDebtsModel" "readMany" "I", Cond.fieldLink RX5 115 "TreeDebtsModel" "many" "I", Cond.fieldLink RX5 93 "TreeDebtsModel" "readTrees" "I", Cond.fieldLink RX5 118 "TreeDebtsModel" "quarrelMany" "I", Cond.fieldLink RX5 109 "TreeDebtsModel" "readQuarrels" "I", Cond.fieldLink RX5 62 "TreeDebtsModel" "place" "I", Cond.fieldLink RX5 69 "TreeDebtsModel" "end" "I"]
def wsL_law_r12 : List Cond := [Cond.methodLink RX5 90 yX5_token, Cond.instanceMethod yX5_token, Cond.selects RX5 yX5_token yX5_token, Cond.code yX5_token cX5_token 1 none, Cond.methodLink RX5 65 yX5_sort, Cond.static yX5_sort, Cond.code yX5_sort cX5_sort 1 (some .int), Cond.methodLink RX5 121 yX5_readsLine, Cond.instanceMethod yX5_readsLine, Cond.selects RX5 yX5_readsLine yX5_readsLine, Cond.code yX5_readsLine cX5_readsLine 2 (some .boolean), Cond.methodLink RX5 102 yX5_wordOf, Cond.instanceMethod yX5_wordOf, Cond.selects RX5 yX5_wordOf yX5_wordOf, Cond.code yX5_wordOf cX5_wordOf 2 (some .int), Cond.constant RX5 83 (146935), Cond.constant RX5 84 (673840), Cond.constant RX5 85 (187238065), Cond.constant RX5 86 (20068392), Cond.methodLink RX5 79 yX5_treeWord, Cond.instanceMethod yX5_treeWord, Cond.selects RX5 yX5_treeWord yX5_treeWord, Cond.code yX5_treeWord cX5_treeWord 1 (some .int), Cond.constant RX5 76 (8505634)]
def wsL_law_r13 : List Cond := [Cond.constant RX5 77 (468724), Cond.constant RX5 78 (787886568), Cond.methodLink RX5 72 yX5_isWord, Cond.instanceMethod yX5_isWord, Cond.selects RX5 yX5_isWord yX5_isWord, Cond.code yX5_isWord cX5_isWord 6 (some .boolean), Cond.methodLink RX5 105 yX5_isTreeWord, Cond.static yX5_isTreeWord, Cond.code yX5_isTreeWord cX5_isTreeWord 1 (some .boolean), Cond.constantLong RX5 100 (4), Cond.methodLink RX5 112 yX5_readsRest, Cond.instanceMethod yX5_readsRest, Cond.selects RX5 yX5_readsRest yX5_readsRest, Cond.code yX5_readsRest cX5_readsRest 3 (some .boolean), Cond.methodLink RX5 96 yX5_reads, Cond.instanceMethod yX5_reads, Cond.selects RX5 yX5_reads yX5_reads, Cond.code yX5_reads cX5_reads 7 (some .boolean), Cond.methodLink RL 29 yX4_wood, Cond.instanceMethod yX4_wood, Cond.selects RX4 yX4_wood yX4_wood, Cond.code yX4_wood cX4_wood 2 (some .int), Cond.fieldLink RX4 62 "TreeDebts$Text" "draft" "LTreeDebts$Told;", Cond.fieldLink RX4 72 "TreeDebts$Text" "lines" "I"]
def wsL_law_r14 : List Cond := [Cond.methodLink RX4 65 yX3_copyFrom, Cond.methodLink RX4 69 yX1_begin, Cond.instanceMethod yX1_begin, Cond.selects RX1 yX1_begin yX1_begin, Cond.code yX1_begin cX1_begin 3 none, Cond.fieldLink RX1 33 "TreeDebts$State" "day" "I", Cond.fieldLink RX1 37 "TreeDebts$State" "loans" "I", Cond.fieldLink RX1 40 "TreeDebts$State" "failures" "I", Cond.fieldLink RX1 43 "TreeDebts$Told" "branches" "[I", Cond.methodLink RL 32 yX5_wood, Cond.instanceMethod yX5_wood, Cond.selects RX5 yX5_wood yX5_wood, Cond.code yX5_wood cX5_wood 2 (some .int), Cond.methodLink RX5 125 yX5_fault, Cond.methodLink RX5 128 yX5_tell, Cond.instanceMethod yX5_tell, Cond.selects RX5 yX5_tell yX5_tell, Cond.code yX5_tell cX5_tell 3 none, Cond.methodLink RX5 132 yX5_copy, Cond.instanceMethod yX5_copy, Cond.selects RX5 yX5_copy yX5_copy, Cond.code yX5_copy cX5_copy 4 none, Cond.methodLink RL 33 yX4_tree, Cond.instanceMethod yX4_tree]
def wsL_law_r15 : List Cond := [Cond.selects RX4 yX4_tree yX4_tree, Cond.code yX4_tree cX4_tree 3 (some .int), Cond.fieldLink RX4 79 "TreeDebts$Told" "kinds" "[I", Cond.fieldLink RX4 83 "TreeDebts$State" "branches" "[I", Cond.fieldLink RX4 86 "TreeDebts$Told" "rates" "[I", Cond.fieldLink RX4 89 "TreeDebts$Told" "terms" "[I", Cond.fieldLink RX4 92 "TreeDebts$Told" "parts" "[I", Cond.fieldLink RX4 99 "TreeDebts$State" "fates" "[I", Cond.methodLink RX4 75 yX3_has, Cond.instanceMethod yX3_has, Cond.selects RX3 yX3_has yX3_has, Cond.code yX3_has cX3_has 2 (some .boolean), Cond.methodLink RX4 95 yX1_owedTo, Cond.instanceMethod yX1_owedTo, Cond.selects RX1 yX1_owedTo yX1_owedTo, Cond.code yX1_owedTo cX1_owedTo 4 (some .int), Cond.methodLink RX4 102 yX1_isCross, Cond.instanceMethod yX1_isCross, Cond.selects RX1 yX1_isCross yX1_isCross, Cond.code yX1_isCross cX1_isCross 5 (some .boolean), Cond.fieldLink RX1 56 "TreeDebts$Told" "quarrels" "I", Cond.fieldLink RX1 59 "TreeDebts$Told" "ones" "[I", Cond.fieldLink RX1 62 "TreeDebts$Told" "others" "[I", Cond.methodLink RX1 52 yX1_owedTo]
def wsL_law_r16 : List Cond := [Cond.methodLink RL 37 yX5_tree, Cond.instanceMethod yX5_tree, Cond.selects RX5 yX5_tree yX5_tree, Cond.code yX5_tree cX5_tree 3 (some .int), Cond.methodLink RX5 166 yX5_isTree, Cond.instanceMethod yX5_isTree, Cond.selects RX5 yX5_isTree yX5_isTree, Cond.code yX5_isTree cX5_isTree 2 (some .boolean), Cond.methodLink RX5 140 yX5_owedTo, Cond.instanceMethod yX5_owedTo, Cond.selects RX5 yX5_owedTo yX5_owedTo, Cond.code yX5_owedTo cX5_owedTo 5 (some .int), Cond.methodLink RX5 136 yX5_placeOf, Cond.static yX5_placeOf, Cond.code yX5_placeOf cX5_placeOf 3 (some .int), Cond.methodLink RX5 147 yX5_isCross, Cond.instanceMethod yX5_isCross, Cond.selects RX5 yX5_isCross yX5_isCross, Cond.code yX5_isCross cX5_isCross 5 (some .boolean), Cond.methodLink RL 38 yX4_loan, Cond.instanceMethod yX4_loan, Cond.selects RX4 yX4_loan yX4_loan, Cond.code yX4_loan cX4_loan 3 (some .int), Cond.fieldLink RX4 106 "TreeDebts$State" "loans" "I"]
def wsL_law_r17 : List Cond := [Cond.fieldLink RX4 109 "TreeDebts$State" "lenders" "[I", Cond.fieldLink RX4 112 "TreeDebts$State" "lent" "[I", Cond.fieldLink RX4 115 "TreeDebts$State" "owed" "[I", Cond.fieldLink RX4 118 "TreeDebts$State" "dues" "[I", Cond.fieldLink RX4 121 "TreeDebts$State" "failed" "[I", Cond.methodLink RL 41 yX5_loan, Cond.instanceMethod yX5_loan, Cond.selects RX5 yX5_loan yX5_loan, Cond.code yX5_loan cX5_loan 3 (some .int), Cond.methodLink RL 42 yX4_as, Cond.instanceMethod yX4_as, Cond.selects RX4 yX4_as yX4_as, Cond.code yX4_as cX4_as 3 (some .int), Cond.fieldLink RX4 124 "TreeDebts" "OVER" "[I", Cond.methodLink RX4 127 yX3_isOfKind, Cond.instanceMethod yX3_isOfKind, Cond.selects RX3 yX3_isOfKind yX3_isOfKind, Cond.code yX3_isOfKind cX3_isOfKind 5 (some .boolean), Cond.methodLink RX4 131 yX3_grownIn, Cond.instanceMethod yX3_grownIn, Cond.selects RX3 yX3_grownIn yX3_grownIn, Cond.code yX3_grownIn cX3_grownIn 6 (some .int), Cond.methodLink RX3 59 yX3_grownOnce, Cond.instanceMethod yX3_grownOnce]
def wsL_law_r18 : List Cond := [Cond.selects RX3 yX3_grownOnce yX3_grownOnce, Cond.code yX3_grownOnce cX3_grownOnce 6 (some .int), Cond.constant RX3 52 (1000000), Cond.methodLink RX3 53 Lib.Math.min.name, Cond.static Lib.Math.min.name, Cond.initialized "java/lang/Math", Cond.code Lib.Math.min.name Lib.Math.min.code 2 (some .int), Cond.methodLink RL 45 yX5_as, Cond.instanceMethod yX5_as, Cond.selects RX5 yX5_as yX5_as, Cond.code yX5_as cX5_as 5 (some .int), Cond.methodLink RX5 160 yX5_grown, Cond.instanceMethod yX5_grown, Cond.selects RX5 yX5_grown yX5_grown, Cond.code yX5_grown cX5_grown 6 (some .int), Cond.constant RX5 150 (1000000), Cond.methodLink RL 46 yX4_borrow, Cond.instanceMethod yX4_borrow, Cond.selects RX4 yX4_borrow yX4_borrow, Cond.code yX4_borrow cX4_borrow 3 (some .int), Cond.methodLink RX4 135 yX1_lends, Cond.instanceMethod yX1_lends, Cond.selects RX1 yX1_lends yX1_lends, Cond.code yX1_lends cX1_lends 3 (some .boolean)]
def wsL_law_r19 : List Cond := [Cond.methodLink RX1 65 yX1_isCross, Cond.methodLink RX4 138 yX1_lend, Cond.instanceMethod yX1_lend, Cond.selects RX1 yX1_lend yX1_lend, Cond.code yX1_lend cX1_lend 5 (some .int), Cond.methodLink RX1 69 yX3_dueOf, Cond.instanceMethod yX3_dueOf, Cond.selects RX3 yX3_dueOf yX3_dueOf, Cond.code yX3_dueOf cX3_dueOf 3 (some .int), Cond.methodLink RL 49 yX5_borrow, Cond.instanceMethod yX5_borrow, Cond.selects RX5 yX5_borrow yX5_borrow, Cond.code yX5_borrow cX5_borrow 4 (some .int), Cond.constantLong RX5 169 (99), Cond.methodLink RX5 171 yX5_lends, Cond.instanceMethod yX5_lends, Cond.selects RX5 yX5_lends yX5_lends, Cond.code yX5_lends cX5_lends 2 (some .boolean), Cond.methodLink RX5 144 yX5_lives, Cond.instanceMethod yX5_lives, Cond.selects RX5 yX5_lives yX5_lives, Cond.code yX5_lives cX5_lives 2 (some .boolean), Cond.methodLink RL 50 yX4_days, Cond.instanceMethod yX4_days]
def wsL_law_r20 : List Cond := [Cond.selects RX4 yX4_days yX4_days, Cond.code yX4_days cX4_days 2 (some .int), Cond.fieldLink RX4 142 "TreeDebts$State" "day" "I", Cond.fieldLink RX4 145 "TreeDebts$Told" "hands" "I", Cond.methodLink RX4 148 yX1_passDays, Cond.instanceMethod yX1_passDays, Cond.selects RX1 yX1_passDays yX1_passDays, Cond.code yX1_passDays cX1_passDays 5 none, Cond.methodLink RX1 78 yX1_growLoans, Cond.instanceMethod yX1_growLoans, Cond.selects RX1 yX1_growLoans yX1_growLoans, Cond.code yX1_growLoans cX1_growLoans 3 none, Cond.methodLink RX1 89 yX3_grownOnce, Cond.methodLink RX1 82 yX1_workOff, Cond.instanceMethod yX1_workOff, Cond.selects RX1 yX1_workOff yX1_workOff, Cond.code yX1_workOff cX1_workOff 6 none, Cond.methodLink RX1 73 Lib.Math.min.name, Cond.methodLink RX1 93 yX1_firstDue, Cond.instanceMethod yX1_firstDue, Cond.selects RX1 yX1_firstDue yX1_firstDue, Cond.code yX1_firstDue cX1_firstDue 3 (some .int), Cond.methodLink RX1 97 yX1_addBranches, Cond.instanceMethod yX1_addBranches]
def wsL_law_r21 : List Cond := [Cond.selects RX1 yX1_addBranches yX1_addBranches, Cond.code yX1_addBranches cX1_addBranches 3 none, Cond.methodLink RX1 101 yX1_removeLoan, Cond.instanceMethod yX1_removeLoan, Cond.selects RX1 yX1_removeLoan yX1_removeLoan, Cond.code yX1_removeLoan cX1_removeLoan 3 none, Cond.methodLink RX1 86 yX1_failDueLoans, Cond.instanceMethod yX1_failDueLoans, Cond.selects RX1 yX1_failDueLoans yX1_failDueLoans, Cond.code yX1_failDueLoans cX1_failDueLoans 2 none, Cond.methodLink RL 54 yX5_days, Cond.instanceMethod yX5_days, Cond.selects RX5 yX5_days yX5_days, Cond.code yX5_days cX5_days 3 (some .int), Cond.methodLink RX5 174 yX5_day, Cond.instanceMethod yX5_day, Cond.selects RX5 yX5_day yX5_day, Cond.code yX5_day cX5_day 5 none, Cond.methodLink RX5 163 yX5_work, Cond.instanceMethod yX5_work, Cond.selects RX5 yX5_work yX5_work, Cond.code yX5_work cX5_work 8 none, Cond.methodLink RX5 151 yX5_firstDue, Cond.instanceMethod yX5_firstDue]
def wsL_law_r22 : List Cond := [Cond.selects RX5 yX5_firstDue yX5_firstDue, Cond.code yX5_firstDue cX5_firstDue 4 (some .int), Cond.methodLink RX5 154 yX5_few, Cond.static yX5_few, Cond.code yX5_few cX5_few 1 (some .int), Cond.methodLink RX5 157 yX5_remove, Cond.instanceMethod yX5_remove, Cond.selects RX5 yX5_remove yX5_remove, Cond.code yX5_remove cX5_remove 4 none, Cond.methodLink RL 55 yX4_fire, Cond.instanceMethod yX4_fire, Cond.selects RX4 yX4_fire yX4_fire, Cond.code yX4_fire cX4_fire 2 (some .int), Cond.methodLink RX4 152 yX1_burn, Cond.instanceMethod yX1_burn, Cond.selects RX1 yX1_burn yX1_burn, Cond.code yX1_burn cX1_burn 5 (some .int), Cond.fieldLink RX1 104 "TreeDebts$Told" "trees" "I", Cond.fieldLink RX1 107 "TreeDebts$Told" "parts" "[I", Cond.methodLink RX1 110 yX1_removeLoansOf, Cond.instanceMethod yX1_removeLoansOf, Cond.selects RX1 yX1_removeLoansOf yX1_removeLoansOf, Cond.code yX1_removeLoansOf cX1_removeLoansOf 3 none, Cond.methodLink RL 58 yX5_fire]
def wsL_law_r23 : List Cond := [Cond.instanceMethod yX5_fire, Cond.selects RX5 yX5_fire yX5_fire, Cond.code yX5_fire cX5_fire 4 (some .int), Cond.constantLong RX5 177 (9), Cond.methodLink RX5 179 yX5_burn, Cond.instanceMethod yX5_burn, Cond.selects RX5 yX5_burn yX5_burn, Cond.code yX5_burn cX5_burn 3 none, Cond.methodLink RL 59 yX4_sell, Cond.instanceMethod yX4_sell, Cond.selects RX4 yX4_sell yX4_sell, Cond.code yX4_sell cX4_sell 3 (some .int), Cond.methodLink RX4 156 yX1_handOver, Cond.instanceMethod yX1_handOver, Cond.selects RX1 yX1_handOver yX1_handOver, Cond.code yX1_handOver cX1_handOver 5 (some .int), Cond.methodLink RL 62 yX5_sell, Cond.instanceMethod yX5_sell, Cond.selects RX5 yX5_sell yX5_sell, Cond.code yX5_sell cX5_sell 6 (some .int), Cond.methodLink RL 63 yX4_keep, Cond.instanceMethod yX4_keep, Cond.selects RX4 yX4_keep yX4_keep, Cond.code yX4_keep cX4_keep 2 (some .int)]
def wsL_law_r24 : List Cond := [Cond.methodLink RX4 160 yX1_copyFrom, Cond.instanceMethod yX1_copyFrom, Cond.selects RX1 yX1_copyFrom yX1_copyFrom, Cond.code yX1_copyFrom cX1_copyFrom 2 none, Cond.methodLink RX1 46 arraycopyName, Cond.methodLink RL 66 yX5_keep, Cond.instanceMethod yX5_keep, Cond.selects RX5 yX5_keep yX5_keep, Cond.code yX5_keep cX5_keep 2 (some .int), Cond.methodLink RL 67 yX4_back, Cond.instanceMethod yX4_back, Cond.selects RX4 yX4_back yX4_back, Cond.code yX4_back cX4_back 2 (some .int), Cond.methodLink RL 70 yX5_back, Cond.instanceMethod yX5_back, Cond.selects RX5 yX5_back yX5_back, Cond.code yX5_back cX5_back 2 (some .int), Cond.methodLink RL 71 yX4_later, Cond.instanceMethod yX4_later, Cond.selects RX4 yX4_later yX4_later, Cond.code yX4_later cX4_later 3 (some .int), Cond.methodLink RX4 163 yX4_foretell, Cond.instanceMethod yX4_foretell, Cond.selects RX4 yX4_foretell yX4_foretell]
def wsL_law_r25 : List Cond := [Cond.code yX4_foretell cX4_foretell 2 none, Cond.methodLink RL 74 yX5_later, Cond.instanceMethod yX5_later, Cond.selects RX5 yX5_later yX5_later, Cond.code yX5_later cX5_later 3 (some .int), Cond.methodLink RX5 182 yX5_tryDays, Cond.instanceMethod yX5_tryDays, Cond.selects RX5 yX5_tryDays yX5_tryDays, Cond.code yX5_tryDays cX5_tryDays 4 none, Cond.methodLink RL 75 yX4_all, Cond.instanceMethod yX4_all, Cond.selects RX4 yX4_all yX4_all, Cond.code yX4_all cX4_all 3 (some .int), Cond.fieldLink RX4 170 "TreeDebts$State" "failures" "I", Cond.methodLink RX4 166 yX1_owedInAll, Cond.instanceMethod yX1_owedInAll, Cond.selects RX1 yX1_owedInAll yX1_owedInAll, Cond.code yX1_owedInAll cX1_owedInAll 3 (some .int), Cond.methodLink RL 78 yX5_all, Cond.instanceMethod yX5_all, Cond.selects RX5 yX5_all yX5_all, Cond.code yX5_all cX5_all 3 (some .int), Cond.methodLink RX5 185 yX5_owedAll, Cond.instanceMethod yX5_owedAll]
def wsL_law_r26 : List Cond := [Cond.selects RX5 yX5_owedAll yX5_owedAll, Cond.code yX5_owedAll cX5_owedAll 4 (some .int), Cond.methodLink RL 79 yX4_clear, Cond.instanceMethod yX4_clear, Cond.selects RX4 yX4_clear yX4_clear, Cond.code yX4_clear cX4_clear 2 (some .int), Cond.methodLink RL 82 yX5_clear, Cond.instanceMethod yX5_clear, Cond.selects RX5 yX5_clear yX5_clear, Cond.code yX5_clear cX5_clear 2 (some .int), Cond.methodLink RL 83 yX4_hut, Cond.instanceMethod yX4_hut, Cond.selects RX4 yX4_hut yX4_hut, Cond.code yX4_hut cX4_hut 4 (some .int), Cond.fieldLink RX4 180 "TreeDebts$HutPlan" "from" "[I", Cond.methodLink RX4 173 yX0_find, Cond.instanceMethod yX0_find, Cond.selects RX0 yX0_find yX0_find, Cond.code yX0_find cX0_find 8 (some .boolean), Cond.fieldLink RX0 26 "TreeDebts$HutPlan" "hutBranches" "I", Cond.fieldLink RX0 30 "TreeDebts$Told" "trees" "I", Cond.constant RX0 35 (100000000), Cond.fieldLink RX0 42 "TreeDebts$State" "branches" "[I", Cond.methodLink RX0 45 Lib.Math.min.name]
def wsL_law_r27 : List Cond := [Cond.methodLink RX0 36 yX1_lends, Cond.methodLink RX0 51 yX3_grownIn, Cond.methodLink RX0 55 yX0_chooseFrom, Cond.instanceMethod yX0_chooseFrom, Cond.selects RX0 yX0_chooseFrom yX0_chooseFrom, Cond.code yX0_chooseFrom cX0_chooseFrom 8 none, Cond.methodLink RX0 59 yX0_owedTogether, Cond.instanceMethod yX0_owedTogether, Cond.selects RX0 yX0_owedTogether yX0_owedTogether, Cond.code yX0_owedTogether cX0_owedTogether 1 (some .int), Cond.methodLink RX0 63 yX0_followChoices, Cond.instanceMethod yX0_followChoices, Cond.selects RX0 yX0_followChoices yX0_followChoices, Cond.code yX0_followChoices cX0_followChoices 4 none, Cond.methodLink RX4 177 yX0_owedTogether, Cond.methodLink RL 87 yX5_hut, Cond.instanceMethod yX5_hut, Cond.selects RX5 yX5_hut yX5_hut, Cond.code yX5_hut cX5_hut 7 (some .int), Cond.constantLong RX5 194 (30), Cond.methodLink RX5 196 yX5_layPrices, Cond.instanceMethod yX5_layPrices, Cond.selects RX5 yX5_layPrices yX5_layPrices, Cond.code yX5_layPrices cX5_layPrices 5 none]
def wsL_law_r28 : List Cond := [Cond.methodLink RX5 188 yX5_owedFor, Cond.instanceMethod yX5_owedFor, Cond.selects RX5 yX5_owedFor yX5_owedFor, Cond.code yX5_owedFor cX5_owedFor 6 (some .int), Cond.methodLink RX5 199 yX5_layLeasts, Cond.instanceMethod yX5_layLeasts, Cond.selects RX5 yX5_layLeasts yX5_layLeasts, Cond.code yX5_layLeasts cX5_layLeasts 6 none, Cond.methodLink RX5 191 yX5_by, Cond.instanceMethod yX5_by, Cond.selects RX5 yX5_by yX5_by, Cond.code yX5_by cX5_by 6 (some .int), Cond.methodLink RL 88 yX4_enough, Cond.instanceMethod yX4_enough, Cond.selects RX4 yX4_enough yX4_enough, Cond.code yX4_enough cX4_enough 6 (some .int), Cond.methodLink RX4 183 yX4_anyFails, Cond.instanceMethod yX4_anyFails, Cond.selects RX4 yX4_anyFails yX4_anyFails, Cond.code yX4_anyFails cX4_anyFails 4 (some .boolean), Cond.methodLink RL 91 yX5_enough, Cond.instanceMethod yX5_enough, Cond.selects RX5 yX5_enough yX5_enough, Cond.code yX5_enough cX5_enough 3 (some .int)]
def wsL_law_r29 : List Cond := [Cond.methodLink RL 92 yX4_rid, Cond.instanceMethod yX4_rid, Cond.selects RX4 yX4_rid yX4_rid, Cond.code yX4_rid cX4_rid 7 (some .int), Cond.methodLink RX4 186 yX4_commonWithTen, Cond.static yX4_commonWithTen, Cond.code yX4_commonWithTen cX4_commonWithTen 1 (some .int), Cond.methodLink RX4 189 yX1_partsWithLoans, Cond.instanceMethod yX1_partsWithLoans, Cond.selects RX1 yX1_partsWithLoans yX1_partsWithLoans, Cond.code yX1_partsWithLoans cX1_partsWithLoans 4 (some .int), Cond.methodLink RX1 113 yJ6_bitCount_0f7a4, Cond.static yJ6_bitCount_0f7a4, Cond.initialized RJ6, Cond.code yJ6_bitCount_0f7a4 cJ6_bitCount_0f7a4 1 (some .int), Cond.constant RJ6 265 (1431655765), Cond.constant RJ6 266 (858993459), Cond.constant RJ6 267 (252645135), Cond.methodLink RL 95 yX5_rid, Cond.instanceMethod yX5_rid, Cond.selects RX5 yX5_rid yX5_rid, Cond.code yX5_rid cX5_rid 9 (some .int), Cond.constantLong RX5 202 (10), Cond.methodLink RL 96 yX4_grandson]
def wsL_law_r30 : List Cond := [Cond.instanceMethod yX4_grandson, Cond.selects RX4 yX4_grandson yX4_grandson, Cond.code yX4_grandson cX4_grandson 4 (some .int), Cond.fieldLink RX4 192 "TreeDebts$Told" "trees" "I", Cond.methodLink RL 99 yX5_grandson, Cond.instanceMethod yX5_grandson, Cond.selects RX5 yX5_grandson yX5_grandson, Cond.code yX5_grandson cX5_grandson 4 (some .int), Cond.methodLink RL 100 yX4_toWhom, Cond.instanceMethod yX4_toWhom, Cond.selects RX4 yX4_toWhom yX4_toWhom, Cond.code yX4_toWhom cX4_toWhom 6 (some .int), Cond.constant RX4 195 (1000000), Cond.methodLink RL 103 yX5_toWhom, Cond.instanceMethod yX5_toWhom, Cond.selects RX5 yX5_toWhom yX5_toWhom, Cond.code yX5_toWhom cX5_toWhom 6 (some .int), Cond.constantLong RX5 204 (1000000), Cond.methodLink RL 104 yX4_count, Cond.instanceMethod yX4_count, Cond.selects RX4 yX4_count yX4_count, Cond.code yX4_count cX4_count 2 (some .int), Cond.fieldLink RX4 196 "TreeDebts$Told" "quarrels" "I", Cond.methodLink RL 107 yX5_count]
def wsL_law_r31 : List Cond := [Cond.instanceMethod yX5_count, Cond.selects RX5 yX5_count yX5_count, Cond.code yX5_count cX5_count 2 (some .int)]
def wsL_law : List Cond := (wsL_law_r1 ++ (wsL_law_r2 ++ (wsL_law_r3 ++ (wsL_law_r4 ++ (wsL_law_r5 ++ (wsL_law_r6 ++ (wsL_law_r7 ++ (wsL_law_r8 ++ (wsL_law_r9 ++ (wsL_law_r10 ++ (wsL_law_r11 ++ (wsL_law_r12 ++ (wsL_law_r13 ++ (wsL_law_r14 ++ (wsL_law_r15 ++ (wsL_law_r16 ++ (wsL_law_r17 ++ (wsL_law_r18 ++ (wsL_law_r19 ++ (wsL_law_r20 ++ (wsL_law_r21 ++ (wsL_law_r22 ++ (wsL_law_r23 ++ (wsL_law_r24 ++ (wsL_law_r25 ++ (wsL_law_r26 ++ (wsL_law_r27 ++ (wsL_law_r28 ++ (wsL_law_r29 ++ (wsL_law_r30 ++ wsL_law_r31)))))))))))))))))))))))))))))) ++ wsX40 ++ wsX50 ++ wsX20 ++ wsX30 ++ wsX10 ++ wsX00 ++ ([] : List Cond)
set_option maxRecDepth 20000 in
theorem wsL_law_in : ∀ w ∈ wsL_law, w ∈ lw_tbl := fun w h => (goodIn_p wsL_law [46, 49, 54, 60, 146, 195, 610, 242, 247, 679, 683, 251, 688, 255, 259, 263, 270, 273, 276, 280, 284, 289, 293, 297, 303, 307, 310, 313, 318, 321, 324, 327, 331, 341, 345, 350, 354, 358, 366, 371, 375, 380, 384, 692, 696, 699, 703, 707, 711, 715, 725, 730, 734, 389, 394, 738, 743, 747, 398, 402, 406, 410, 751, 755, 759, 762, 766, 415, 770, 419, 425, 430, 434, 438, 774, 778, 442, 446, 451, 455, 783, 788, 792, 459, 463, 467, 472, 476, 481, 485, 489, 796, 800, 804, 808, 811, 815, 493, 497, 501, 819, 824, 505, 509, 828, 513, 517, 832, 522, 836, 526, 530, 840, 844, 534, 538, 848, 852, 542, 856, 546, 550, 558, 562, 566, 860, 865, 869, 873, 877, 571, 575, 881, 579, 582, 586, 589, 885, 596, 890, 600, 894, 605, 899] (by decide +kernel) (by decide +kernel) w h).1
theorem inlX0 : ∀ w ∈ wsX00, w ∈ wsL_law := fun _ h => List.mem_append_left _ (List.mem_append_right _ h)
theorem inX0 : ∀ w ∈ wsX00, w ∈ lw_tbl := fun w h => wsL_law_in w (inlX0 w h)
theorem inlX1 : ∀ w ∈ wsX10, w ∈ wsL_law := fun _ h => List.mem_append_left _ (List.mem_append_left _ (List.mem_append_right _ h))
theorem inX1 : ∀ w ∈ wsX10, w ∈ lw_tbl := fun w h => wsL_law_in w (inlX1 w h)
theorem inlX2 : ∀ w ∈ wsX20, w ∈ wsL_law := fun _ h => List.mem_append_left _ (List.mem_append_left _ (List.mem_append_left _ (List.mem_append_left _ (List.mem_append_right _ h))))
theorem inX2 : ∀ w ∈ wsX20, w ∈ lw_tbl := fun w h => wsL_law_in w (inlX2 w h)
theorem inlX3 : ∀ w ∈ wsX30, w ∈ wsL_law := fun _ h => List.mem_append_left _ (List.mem_append_left _ (List.mem_append_left _ (List.mem_append_right _ h)))
theorem inX3 : ∀ w ∈ wsX30, w ∈ lw_tbl := fun w h => wsL_law_in w (inlX3 w h)
theorem inlX4 : ∀ w ∈ wsX40, w ∈ wsL_law := fun _ h => List.mem_append_left _ (List.mem_append_left _ (List.mem_append_left _ (List.mem_append_left _ (List.mem_append_left _ (List.mem_append_left _ (List.mem_append_right _ h))))))
theorem inX4 : ∀ w ∈ wsX40, w ∈ lw_tbl := fun w h => wsL_law_in w (inlX4 w h)
theorem inlX5 : ∀ w ∈ wsX50, w ∈ wsL_law := fun _ h => List.mem_append_left _ (List.mem_append_left _ (List.mem_append_left _ (List.mem_append_left _ (List.mem_append_left _ (List.mem_append_right _ h)))))
theorem inX5 : ∀ w ∈ wsX50, w ∈ lw_tbl := fun w h => wsL_law_in w (inlX5 w h)
theorem inJ6 : ∀ w ∈ wsJ60, w ∈ lw_tbl := by decide +kernel
theorem inJ9 : ∀ w ∈ wsJ90, w ∈ lw_tbl := by decide +kernel
theorem inJ0 : ∀ w ∈ wsJ00, w ∈ lw_tbl := by decide +kernel
theorem inJ1 : ∀ w ∈ wsJ10, w ∈ lw_tbl := by decide +kernel
theorem inJ2 : ∀ w ∈ wsJ20, w ∈ lw_tbl := by decide +kernel
theorem inJ10 : ∀ w ∈ wsJ100, w ∈ lw_tbl := by decide +kernel
theorem inJ3 : ∀ w ∈ wsJ30, w ∈ lw_tbl := by decide +kernel
theorem dX0_init_0 : decode cX0_init 0 = .ok (.aload_n 0, 1) := by decide +kernel
theorem dX0_init_1 : decode cX0_init 1 = .ok (.invokespecial 3, 3) := by decide +kernel
theorem dX0_init_4 : decode cX0_init 4 = .ok (.aload_n 0, 1) := by decide +kernel
theorem dX0_init_5 : decode cX0_init 5 = .ok (.bipush 7, 2) := by decide +kernel
theorem dX0_init_7 : decode cX0_init 7 = .ok (.bipush 100, 2) := by decide +kernel
theorem dX0_init_9 : decode cX0_init 9 = .ok (.multianewarray 9 2, 4) := by decide +kernel
theorem dX0_init_13 : decode cX0_init 13 = .ok (.putfield 11, 3) := by decide +kernel
theorem dX0_init_16 : decode cX0_init 16 = .ok (.aload_n 0, 1) := by decide +kernel
theorem dX0_init_17 : decode cX0_init 17 = .ok (.bipush 6, 2) := by decide +kernel
theorem dX0_init_19 : decode cX0_init 19 = .ok (.bipush 100, 2) := by decide +kernel
theorem dX0_init_21 : decode cX0_init 21 = .ok (.multianewarray 9 2, 4) := by decide +kernel
theorem dX0_init_25 : decode cX0_init 25 = .ok (.putfield 16, 3) := by decide +kernel
theorem dX0_init_28 : decode cX0_init 28 = .ok (.aload_n 0, 1) := by decide +kernel
theorem dX0_init_29 : decode cX0_init 29 = .ok (.bipush 100, 2) := by decide +kernel
theorem dX0_init_31 : decode cX0_init 31 = .ok (.newarray .int, 2) := by decide +kernel
theorem dX0_init_33 : decode cX0_init 33 = .ok (.putfield 19, 3) := by decide +kernel
theorem dX0_init_36 : decode cX0_init 36 = .ok (.aload_n 0, 1) := by decide +kernel
theorem dX0_init_37 : decode cX0_init 37 = .ok (.bipush 6, 2) := by decide +kernel
theorem dX0_init_39 : decode cX0_init 39 = .ok (.newarray .int, 2) := by decide +kernel
theorem dX0_init_41 : decode cX0_init 41 = .ok (.putfield 23, 3) := by decide +kernel
theorem dX0_init_44 : decode cX0_init 44 = .ok (.return_, 1) := by decide +kernel
set_option maxRecDepth 20000 in
theorem ggX0_find_X1_lends : GoodIn wsX0_find wsX1_lends := goodIn_r _ [15, 16, 17, 18, 19, 14, 20, 21, 22, 23, 24, 25, 26, 27, 28, 29, 30, 74, 75, 76, 77, 78, 79, 80, 81, 82, 83, 64, 65, 66, 67, 68, 69, 70, 71, 72, 73] (by decide +kernel) (by decide +kernel)
set_option maxRecDepth 20000 in
theorem gX0_find_X1_lends : GoodIn wsX0_find (wsV RX0 36 RX1 yX1_lends wsX1_lends) := goodIn_app (goodIn_of _ (by decide +kernel)) ggX0_find_X1_lends
set_option maxRecDepth 20000 in
theorem ggX0_find_X3_grownIn : GoodIn wsX0_find wsX3_grownIn := goodIn_r _ [35, 36, 37, 38, 34, 39, 40, 41, 42, 43, 7, 8, 9, 64, 65, 66, 67, 68, 69, 70, 71, 72, 73] (by decide +kernel) (by decide +kernel)
set_option maxRecDepth 20000 in
theorem gX0_find_X3_grownIn : GoodIn wsX0_find (wsV RX0 51 RX3 yX3_grownIn wsX3_grownIn) := goodIn_app (goodIn_of _ (by decide +kernel)) ggX0_find_X3_grownIn
set_option maxRecDepth 20000 in
theorem ggX0_find_X0_chooseFrom : GoodIn wsX0_find wsX0_chooseFrom := goodIn_r _ [48, 4, 10, 2, 49, 59, 60, 61, 62, 63] (by decide +kernel) (by decide +kernel)
set_option maxRecDepth 20000 in
theorem gX0_find_X0_chooseFrom : GoodIn wsX0_find (wsV RX0 55 RX0 yX0_chooseFrom wsX0_chooseFrom) := goodIn_app (goodIn_of _ (by decide +kernel)) ggX0_find_X0_chooseFrom
set_option maxRecDepth 20000 in
theorem ggX0_find_X0_owedTogether : GoodIn wsX0_find wsX0_owedTogether := goodIn_r _ [53, 2, 1, 59, 60, 61, 62, 63] (by decide +kernel) (by decide +kernel)
set_option maxRecDepth 20000 in
theorem gX0_find_X0_owedTogether : GoodIn wsX0_find (wsV RX0 59 RX0 yX0_owedTogether wsX0_owedTogether) := goodIn_app (goodIn_of _ (by decide +kernel)) ggX0_find_X0_owedTogether
set_option maxRecDepth 20000 in
theorem ggX0_find_X0_followChoices : GoodIn wsX0_find wsX0_followChoices := goodIn_r _ [57, 1, 58, 49, 59, 60, 61, 62, 63] (by decide +kernel) (by decide +kernel)
set_option maxRecDepth 20000 in
theorem gX0_find_X0_followChoices : GoodIn wsX0_find (wsV RX0 63 RX0 yX0_followChoices wsX0_followChoices) := goodIn_app (goodIn_of _ (by decide +kernel)) ggX0_find_X0_followChoices
theorem dX0_find_0 : decode cX0_find 0 = .ok (.aload_n 0, 1) := by decide +kernel
theorem dX0_find_1 : decode cX0_find 1 = .ok (.iload_n 3, 1) := by decide +kernel
theorem dX0_find_2 : decode cX0_find 2 = .ok (.putfield 26, 3) := by decide +kernel
theorem dX0_find_5 : decode cX0_find 5 = .ok (.aload_n 0, 1) := by decide +kernel
theorem dX0_find_6 : decode cX0_find 6 = .ok (.getfield 11, 3) := by decide +kernel
theorem dX0_find_9 : decode cX0_find 9 = .ok (.aload_n 1, 1) := by decide +kernel
theorem dX0_find_10 : decode cX0_find 10 = .ok (.getfield 30, 3) := by decide +kernel
theorem dX0_find_13 : decode cX0_find 13 = .ok (.aaload, 1) := by decide +kernel
theorem dX0_find_14 : decode cX0_find 14 = .ok (.iconst 0, 1) := by decide +kernel
theorem dX0_find_15 : decode cX0_find 15 = .ok (.iconst 0, 1) := by decide +kernel
theorem dX0_find_16 : decode cX0_find 16 = .ok (.iastore, 1) := by decide +kernel
theorem dX0_find_17 : decode cX0_find 17 = .ok (.iconst 1, 1) := by decide +kernel
theorem dX0_find_18 : decode cX0_find 18 = .ok (.istore 5, 2) := by decide +kernel
theorem dX0_find_20 : decode cX0_find 20 = .ok (.iload 5, 2) := by decide +kernel
theorem dX0_find_22 : decode cX0_find 22 = .ok (.iload_n 3, 1) := by decide +kernel
theorem dX0_find_23 : decode cX0_find 23 = .ok (.if_icmp .gt 23, 3) := by decide +kernel
theorem dX0_find_26 : decode cX0_find 26 = .ok (.aload_n 0, 1) := by decide +kernel
theorem dX0_find_27 : decode cX0_find 27 = .ok (.getfield 11, 3) := by decide +kernel
theorem dX0_find_30 : decode cX0_find 30 = .ok (.aload_n 1, 1) := by decide +kernel
theorem dX0_find_31 : decode cX0_find 31 = .ok (.getfield 30, 3) := by decide +kernel
theorem dX0_find_34 : decode cX0_find 34 = .ok (.aaload, 1) := by decide +kernel
theorem dX0_find_35 : decode cX0_find 35 = .ok (.iload 5, 2) := by decide +kernel
theorem dX0_find_37 : decode cX0_find 37 = .ok (.ldc 35, 2) := by decide +kernel
theorem dX0_find_39 : decode cX0_find 39 = .ok (.iastore, 1) := by decide +kernel
theorem dX0_find_40 : decode cX0_find 40 = .ok (.iinc 5 1, 3) := by decide +kernel
theorem dX0_find_43 : decode cX0_find 43 = .ok (.goto (-23), 3) := by decide +kernel
theorem dX0_find_46 : decode cX0_find 46 = .ok (.aload_n 1, 1) := by decide +kernel
theorem dX0_find_47 : decode cX0_find 47 = .ok (.getfield 30, 3) := by decide +kernel
theorem dX0_find_50 : decode cX0_find 50 = .ok (.iconst 1, 1) := by decide +kernel
theorem dX0_find_51 : decode cX0_find 51 = .ok (.isub, 1) := by decide +kernel
theorem dX0_find_52 : decode cX0_find 52 = .ok (.istore 5, 2) := by decide +kernel
theorem dX0_find_54 : decode cX0_find 54 = .ok (.iload 5, 2) := by decide +kernel
theorem dX0_find_56 : decode cX0_find 56 = .ok (.ifCond .lt 106, 3) := by decide +kernel
theorem dX0_find_59 : decode cX0_find 59 = .ok (.aload_n 2, 1) := by decide +kernel
theorem dX0_find_60 : decode cX0_find 60 = .ok (.aload_n 1, 1) := by decide +kernel
theorem dX0_find_61 : decode cX0_find 61 = .ok (.iload 5, 2) := by decide +kernel
theorem dX0_find_63 : decode cX0_find 63 = .ok (.invokevirtual 36, 3) := by decide +kernel
theorem dX0_find_66 : decode cX0_find 66 = .ok (.ifCond .eq 17, 3) := by decide +kernel
theorem dX0_find_69 : decode cX0_find 69 = .ok (.aload_n 2, 1) := by decide +kernel
theorem dX0_find_70 : decode cX0_find 70 = .ok (.getfield 42, 3) := by decide +kernel
theorem dX0_find_73 : decode cX0_find 73 = .ok (.iload 5, 2) := by decide +kernel
theorem dX0_find_75 : decode cX0_find 75 = .ok (.iaload, 1) := by decide +kernel
theorem dX0_find_76 : decode cX0_find 76 = .ok (.iload_n 3, 1) := by decide +kernel
theorem dX0_find_77 : decode cX0_find 77 = .ok (.invokestatic 45, 3) := by decide +kernel
theorem dX0_find_80 : decode cX0_find 80 = .ok (.goto 4, 3) := by decide +kernel
theorem dX0_find_83 : decode cX0_find 83 = .ok (.iconst 0, 1) := by decide +kernel
theorem dX0_find_84 : decode cX0_find 84 = .ok (.istore 6, 2) := by decide +kernel
theorem dX0_find_86 : decode cX0_find 86 = .ok (.aload_n 0, 1) := by decide +kernel
theorem dX0_find_87 : decode cX0_find 87 = .ok (.getfield 19, 3) := by decide +kernel
theorem dX0_find_90 : decode cX0_find 90 = .ok (.iconst 0, 1) := by decide +kernel
theorem dX0_find_91 : decode cX0_find 91 = .ok (.iconst 0, 1) := by decide +kernel
theorem dX0_find_92 : decode cX0_find 92 = .ok (.iastore, 1) := by decide +kernel
theorem dX0_find_93 : decode cX0_find 93 = .ok (.iconst 1, 1) := by decide +kernel
theorem dX0_find_94 : decode cX0_find 94 = .ok (.istore 7, 2) := by decide +kernel
theorem dX0_find_96 : decode cX0_find 96 = .ok (.iload 7, 2) := by decide +kernel
theorem dX0_find_98 : decode cX0_find 98 = .ok (.iload 6, 2) := by decide +kernel
theorem dX0_find_100 : decode cX0_find 100 = .ok (.if_icmp .gt 26, 3) := by decide +kernel
theorem dX0_find_103 : decode cX0_find 103 = .ok (.aload_n 0, 1) := by decide +kernel
theorem dX0_find_104 : decode cX0_find 104 = .ok (.getfield 19, 3) := by decide +kernel
theorem dX0_find_107 : decode cX0_find 107 = .ok (.iload 7, 2) := by decide +kernel
theorem dX0_find_109 : decode cX0_find 109 = .ok (.aload_n 1, 1) := by decide +kernel
theorem dX0_find_110 : decode cX0_find 110 = .ok (.iload 5, 2) := by decide +kernel
theorem dX0_find_112 : decode cX0_find 112 = .ok (.iload 7, 2) := by decide +kernel
theorem dX0_find_114 : decode cX0_find 114 = .ok (.iload 4, 2) := by decide +kernel
theorem dX0_find_116 : decode cX0_find 116 = .ok (.invokevirtual 51, 3) := by decide +kernel
theorem dX0_find_119 : decode cX0_find 119 = .ok (.iastore, 1) := by decide +kernel
theorem dX0_find_120 : decode cX0_find 120 = .ok (.iinc 7 1, 3) := by decide +kernel
theorem dX0_find_123 : decode cX0_find 123 = .ok (.goto (-27), 3) := by decide +kernel
theorem dX0_find_126 : decode cX0_find 126 = .ok (.iconst 0, 1) := by decide +kernel
theorem dX0_find_127 : decode cX0_find 127 = .ok (.istore 7, 2) := by decide +kernel
theorem dX0_find_129 : decode cX0_find 129 = .ok (.iload 7, 2) := by decide +kernel
theorem dX0_find_131 : decode cX0_find 131 = .ok (.iload_n 3, 1) := by decide +kernel
theorem dX0_find_132 : decode cX0_find 132 = .ok (.if_icmp .gt 24, 3) := by decide +kernel
theorem dX0_find_135 : decode cX0_find 135 = .ok (.aload_n 0, 1) := by decide +kernel
theorem dX0_find_136 : decode cX0_find 136 = .ok (.iload 5, 2) := by decide +kernel
theorem dX0_find_138 : decode cX0_find 138 = .ok (.iload 7, 2) := by decide +kernel
theorem dX0_find_140 : decode cX0_find 140 = .ok (.iload 6, 2) := by decide +kernel
theorem dX0_find_142 : decode cX0_find 142 = .ok (.iload 7, 2) := by decide +kernel
theorem dX0_find_144 : decode cX0_find 144 = .ok (.invokestatic 45, 3) := by decide +kernel
theorem dX0_find_147 : decode cX0_find 147 = .ok (.invokevirtual 55, 3) := by decide +kernel
theorem dX0_find_150 : decode cX0_find 150 = .ok (.iinc 7 1, 3) := by decide +kernel
theorem dX0_find_153 : decode cX0_find 153 = .ok (.goto (-24), 3) := by decide +kernel
theorem dX0_find_156 : decode cX0_find 156 = .ok (.iinc 5 (-1), 3) := by decide +kernel
theorem dX0_find_159 : decode cX0_find 159 = .ok (.goto (-105), 3) := by decide +kernel
theorem dX0_find_162 : decode cX0_find 162 = .ok (.aload_n 0, 1) := by decide +kernel
theorem dX0_find_163 : decode cX0_find 163 = .ok (.invokevirtual 59, 3) := by decide +kernel
theorem dX0_find_166 : decode cX0_find 166 = .ok (.ldc 35, 2) := by decide +kernel
theorem dX0_find_168 : decode cX0_find 168 = .ok (.if_icmp .lt 5, 3) := by decide +kernel
theorem dX0_find_171 : decode cX0_find 171 = .ok (.iconst 0, 1) := by decide +kernel
theorem dX0_find_172 : decode cX0_find 172 = .ok (.ireturn, 1) := by decide +kernel
theorem dX0_find_173 : decode cX0_find 173 = .ok (.aload_n 0, 1) := by decide +kernel
theorem dX0_find_174 : decode cX0_find 174 = .ok (.aload_n 1, 1) := by decide +kernel
theorem dX0_find_175 : decode cX0_find 175 = .ok (.getfield 30, 3) := by decide +kernel
theorem dX0_find_178 : decode cX0_find 178 = .ok (.invokevirtual 63, 3) := by decide +kernel
theorem dX0_find_181 : decode cX0_find 181 = .ok (.iconst 1, 1) := by decide +kernel
theorem dX0_find_182 : decode cX0_find 182 = .ok (.ireturn, 1) := by decide +kernel
theorem dX0_owedTogether_0 : decode cX0_owedTogether 0 = .ok (.aload_n 0, 1) := by decide +kernel
theorem dX0_owedTogether_1 : decode cX0_owedTogether 1 = .ok (.getfield 11, 3) := by decide +kernel
theorem dX0_owedTogether_4 : decode cX0_owedTogether 4 = .ok (.iconst 0, 1) := by decide +kernel
theorem dX0_owedTogether_5 : decode cX0_owedTogether 5 = .ok (.aaload, 1) := by decide +kernel
theorem dX0_owedTogether_6 : decode cX0_owedTogether 6 = .ok (.aload_n 0, 1) := by decide +kernel
theorem dX0_owedTogether_7 : decode cX0_owedTogether 7 = .ok (.getfield 26, 3) := by decide +kernel
theorem dX0_owedTogether_10 : decode cX0_owedTogether 10 = .ok (.iaload, 1) := by decide +kernel
theorem dX0_owedTogether_11 : decode cX0_owedTogether 11 = .ok (.ireturn, 1) := by decide +kernel
theorem dX0_chooseFrom_0 : decode cX0_chooseFrom 0 = .ok (.ldc 35, 2) := by decide +kernel
theorem dX0_chooseFrom_2 : decode cX0_chooseFrom 2 = .ok (.istore 4, 2) := by decide +kernel
theorem dX0_chooseFrom_4 : decode cX0_chooseFrom 4 = .ok (.iconst 0, 1) := by decide +kernel
theorem dX0_chooseFrom_5 : decode cX0_chooseFrom 5 = .ok (.istore 5, 2) := by decide +kernel
theorem dX0_chooseFrom_7 : decode cX0_chooseFrom 7 = .ok (.iconst 0, 1) := by decide +kernel
theorem dX0_chooseFrom_8 : decode cX0_chooseFrom 8 = .ok (.istore 6, 2) := by decide +kernel
theorem dX0_chooseFrom_10 : decode cX0_chooseFrom 10 = .ok (.iload 6, 2) := by decide +kernel
theorem dX0_chooseFrom_12 : decode cX0_chooseFrom 12 = .ok (.iload_n 3, 1) := by decide +kernel
theorem dX0_chooseFrom_13 : decode cX0_chooseFrom 13 = .ok (.if_icmp .gt 47, 3) := by decide +kernel
theorem dX0_chooseFrom_16 : decode cX0_chooseFrom 16 = .ok (.aload_n 0, 1) := by decide +kernel
theorem dX0_chooseFrom_17 : decode cX0_chooseFrom 17 = .ok (.getfield 19, 3) := by decide +kernel
theorem dX0_chooseFrom_20 : decode cX0_chooseFrom 20 = .ok (.iload 6, 2) := by decide +kernel
theorem dX0_chooseFrom_22 : decode cX0_chooseFrom 22 = .ok (.iaload, 1) := by decide +kernel
theorem dX0_chooseFrom_23 : decode cX0_chooseFrom 23 = .ok (.aload_n 0, 1) := by decide +kernel
theorem dX0_chooseFrom_24 : decode cX0_chooseFrom 24 = .ok (.getfield 11, 3) := by decide +kernel
theorem dX0_chooseFrom_27 : decode cX0_chooseFrom 27 = .ok (.iload_n 1, 1) := by decide +kernel
theorem dX0_chooseFrom_28 : decode cX0_chooseFrom 28 = .ok (.iconst 1, 1) := by decide +kernel
theorem dX0_chooseFrom_29 : decode cX0_chooseFrom 29 = .ok (.iadd, 1) := by decide +kernel
theorem dX0_chooseFrom_30 : decode cX0_chooseFrom 30 = .ok (.aaload, 1) := by decide +kernel
theorem dX0_chooseFrom_31 : decode cX0_chooseFrom 31 = .ok (.iload_n 2, 1) := by decide +kernel
theorem dX0_chooseFrom_32 : decode cX0_chooseFrom 32 = .ok (.iload 6, 2) := by decide +kernel
theorem dX0_chooseFrom_34 : decode cX0_chooseFrom 34 = .ok (.isub, 1) := by decide +kernel
theorem dX0_chooseFrom_35 : decode cX0_chooseFrom 35 = .ok (.iaload, 1) := by decide +kernel
theorem dX0_chooseFrom_36 : decode cX0_chooseFrom 36 = .ok (.iadd, 1) := by decide +kernel
theorem dX0_chooseFrom_37 : decode cX0_chooseFrom 37 = .ok (.istore 7, 2) := by decide +kernel
theorem dX0_chooseFrom_39 : decode cX0_chooseFrom 39 = .ok (.iload 7, 2) := by decide +kernel
theorem dX0_chooseFrom_41 : decode cX0_chooseFrom 41 = .ok (.iload 4, 2) := by decide +kernel
theorem dX0_chooseFrom_43 : decode cX0_chooseFrom 43 = .ok (.if_icmp .ge 11, 3) := by decide +kernel
theorem dX0_chooseFrom_46 : decode cX0_chooseFrom 46 = .ok (.iload 7, 2) := by decide +kernel
theorem dX0_chooseFrom_48 : decode cX0_chooseFrom 48 = .ok (.istore 4, 2) := by decide +kernel
theorem dX0_chooseFrom_50 : decode cX0_chooseFrom 50 = .ok (.iload 6, 2) := by decide +kernel
theorem dX0_chooseFrom_52 : decode cX0_chooseFrom 52 = .ok (.istore 5, 2) := by decide +kernel
theorem dX0_chooseFrom_54 : decode cX0_chooseFrom 54 = .ok (.iinc 6 1, 3) := by decide +kernel
theorem dX0_chooseFrom_57 : decode cX0_chooseFrom 57 = .ok (.goto (-47), 3) := by decide +kernel
theorem dX0_chooseFrom_60 : decode cX0_chooseFrom 60 = .ok (.aload_n 0, 1) := by decide +kernel
theorem dX0_chooseFrom_61 : decode cX0_chooseFrom 61 = .ok (.getfield 11, 3) := by decide +kernel
theorem dX0_chooseFrom_64 : decode cX0_chooseFrom 64 = .ok (.iload_n 1, 1) := by decide +kernel
theorem dX0_chooseFrom_65 : decode cX0_chooseFrom 65 = .ok (.aaload, 1) := by decide +kernel
theorem dX0_chooseFrom_66 : decode cX0_chooseFrom 66 = .ok (.iload_n 2, 1) := by decide +kernel
theorem dX0_chooseFrom_67 : decode cX0_chooseFrom 67 = .ok (.iload 4, 2) := by decide +kernel
theorem dX0_chooseFrom_69 : decode cX0_chooseFrom 69 = .ok (.iastore, 1) := by decide +kernel
theorem dX0_chooseFrom_70 : decode cX0_chooseFrom 70 = .ok (.aload_n 0, 1) := by decide +kernel
theorem dX0_chooseFrom_71 : decode cX0_chooseFrom 71 = .ok (.getfield 16, 3) := by decide +kernel
theorem dX0_chooseFrom_74 : decode cX0_chooseFrom 74 = .ok (.iload_n 1, 1) := by decide +kernel
theorem dX0_chooseFrom_75 : decode cX0_chooseFrom 75 = .ok (.aaload, 1) := by decide +kernel
theorem dX0_chooseFrom_76 : decode cX0_chooseFrom 76 = .ok (.iload_n 2, 1) := by decide +kernel
theorem dX0_chooseFrom_77 : decode cX0_chooseFrom 77 = .ok (.iload 5, 2) := by decide +kernel
theorem dX0_chooseFrom_79 : decode cX0_chooseFrom 79 = .ok (.iastore, 1) := by decide +kernel
theorem dX0_chooseFrom_80 : decode cX0_chooseFrom 80 = .ok (.return_, 1) := by decide +kernel
theorem dX0_followChoices_0 : decode cX0_followChoices 0 = .ok (.aload_n 0, 1) := by decide +kernel
theorem dX0_followChoices_1 : decode cX0_followChoices 1 = .ok (.getfield 26, 3) := by decide +kernel
theorem dX0_followChoices_4 : decode cX0_followChoices 4 = .ok (.istore_n 2, 1) := by decide +kernel
theorem dX0_followChoices_5 : decode cX0_followChoices 5 = .ok (.iconst 0, 1) := by decide +kernel
theorem dX0_followChoices_6 : decode cX0_followChoices 6 = .ok (.istore_n 3, 1) := by decide +kernel
theorem dX0_followChoices_7 : decode cX0_followChoices 7 = .ok (.iload_n 3, 1) := by decide +kernel
theorem dX0_followChoices_8 : decode cX0_followChoices 8 = .ok (.iload_n 1, 1) := by decide +kernel
theorem dX0_followChoices_9 : decode cX0_followChoices 9 = .ok (.if_icmp .ge 32, 3) := by decide +kernel
theorem dX0_followChoices_12 : decode cX0_followChoices 12 = .ok (.aload_n 0, 1) := by decide +kernel
theorem dX0_followChoices_13 : decode cX0_followChoices 13 = .ok (.getfield 23, 3) := by decide +kernel
theorem dX0_followChoices_16 : decode cX0_followChoices 16 = .ok (.iload_n 3, 1) := by decide +kernel
theorem dX0_followChoices_17 : decode cX0_followChoices 17 = .ok (.aload_n 0, 1) := by decide +kernel
theorem dX0_followChoices_18 : decode cX0_followChoices 18 = .ok (.getfield 16, 3) := by decide +kernel
theorem dX0_followChoices_21 : decode cX0_followChoices 21 = .ok (.iload_n 3, 1) := by decide +kernel
theorem dX0_followChoices_22 : decode cX0_followChoices 22 = .ok (.aaload, 1) := by decide +kernel
theorem dX0_followChoices_23 : decode cX0_followChoices 23 = .ok (.iload_n 2, 1) := by decide +kernel
theorem dX0_followChoices_24 : decode cX0_followChoices 24 = .ok (.iaload, 1) := by decide +kernel
theorem dX0_followChoices_25 : decode cX0_followChoices 25 = .ok (.iastore, 1) := by decide +kernel
theorem dX0_followChoices_26 : decode cX0_followChoices 26 = .ok (.iload_n 2, 1) := by decide +kernel
theorem dX0_followChoices_27 : decode cX0_followChoices 27 = .ok (.aload_n 0, 1) := by decide +kernel
theorem dX0_followChoices_28 : decode cX0_followChoices 28 = .ok (.getfield 23, 3) := by decide +kernel
theorem dX0_followChoices_31 : decode cX0_followChoices 31 = .ok (.iload_n 3, 1) := by decide +kernel
theorem dX0_followChoices_32 : decode cX0_followChoices 32 = .ok (.iaload, 1) := by decide +kernel
theorem dX0_followChoices_33 : decode cX0_followChoices 33 = .ok (.isub, 1) := by decide +kernel
theorem dX0_followChoices_34 : decode cX0_followChoices 34 = .ok (.istore_n 2, 1) := by decide +kernel
theorem dX0_followChoices_35 : decode cX0_followChoices 35 = .ok (.iinc 3 1, 3) := by decide +kernel
theorem dX0_followChoices_38 : decode cX0_followChoices 38 = .ok (.goto (-31), 3) := by decide +kernel
theorem dX0_followChoices_41 : decode cX0_followChoices 41 = .ok (.return_, 1) := by decide +kernel
theorem dX1_init_0 : decode cX1_init 0 = .ok (.aload_n 0, 1) := by decide +kernel
theorem dX1_init_1 : decode cX1_init 1 = .ok (.invokespecial 3, 3) := by decide +kernel
theorem dX1_init_4 : decode cX1_init 4 = .ok (.aload_n 0, 1) := by decide +kernel
theorem dX1_init_5 : decode cX1_init 5 = .ok (.bipush 6, 2) := by decide +kernel
theorem dX1_init_7 : decode cX1_init 7 = .ok (.newarray .int, 2) := by decide +kernel
theorem dX1_init_9 : decode cX1_init 9 = .ok (.putfield 9, 3) := by decide +kernel
theorem dX1_init_12 : decode cX1_init 12 = .ok (.aload_n 0, 1) := by decide +kernel
theorem dX1_init_13 : decode cX1_init 13 = .ok (.bipush 6, 2) := by decide +kernel
theorem dX1_init_15 : decode cX1_init 15 = .ok (.newarray .int, 2) := by decide +kernel
theorem dX1_init_17 : decode cX1_init 17 = .ok (.putfield 15, 3) := by decide +kernel
theorem dX1_init_20 : decode cX1_init 20 = .ok (.aload_n 0, 1) := by decide +kernel
theorem dX1_init_21 : decode cX1_init 21 = .ok (.bipush 12, 2) := by decide +kernel
theorem dX1_init_23 : decode cX1_init 23 = .ok (.newarray .int, 2) := by decide +kernel
theorem dX1_init_25 : decode cX1_init 25 = .ok (.putfield 18, 3) := by decide +kernel
theorem dX1_init_28 : decode cX1_init 28 = .ok (.aload_n 0, 1) := by decide +kernel
theorem dX1_init_29 : decode cX1_init 29 = .ok (.bipush 12, 2) := by decide +kernel
theorem dX1_init_31 : decode cX1_init 31 = .ok (.newarray .int, 2) := by decide +kernel
theorem dX1_init_33 : decode cX1_init 33 = .ok (.putfield 21, 3) := by decide +kernel
theorem dX1_init_36 : decode cX1_init 36 = .ok (.aload_n 0, 1) := by decide +kernel
theorem dX1_init_37 : decode cX1_init 37 = .ok (.bipush 12, 2) := by decide +kernel
theorem dX1_init_39 : decode cX1_init 39 = .ok (.newarray .int, 2) := by decide +kernel
theorem dX1_init_41 : decode cX1_init 41 = .ok (.putfield 24, 3) := by decide +kernel
theorem dX1_init_44 : decode cX1_init 44 = .ok (.aload_n 0, 1) := by decide +kernel
theorem dX1_init_45 : decode cX1_init 45 = .ok (.bipush 12, 2) := by decide +kernel
theorem dX1_init_47 : decode cX1_init 47 = .ok (.newarray .int, 2) := by decide +kernel
theorem dX1_init_49 : decode cX1_init 49 = .ok (.putfield 27, 3) := by decide +kernel
theorem dX1_init_52 : decode cX1_init 52 = .ok (.aload_n 0, 1) := by decide +kernel
theorem dX1_init_53 : decode cX1_init 53 = .ok (.bipush 12, 2) := by decide +kernel
theorem dX1_init_55 : decode cX1_init 55 = .ok (.newarray .int, 2) := by decide +kernel
theorem dX1_init_57 : decode cX1_init 57 = .ok (.putfield 30, 3) := by decide +kernel
theorem dX1_init_60 : decode cX1_init 60 = .ok (.return_, 1) := by decide +kernel
theorem dX1_begin_0 : decode cX1_begin 0 = .ok (.aload_n 0, 1) := by decide +kernel
theorem dX1_begin_1 : decode cX1_begin 1 = .ok (.iconst 0, 1) := by decide +kernel
theorem dX1_begin_2 : decode cX1_begin 2 = .ok (.putfield 33, 3) := by decide +kernel
theorem dX1_begin_5 : decode cX1_begin 5 = .ok (.aload_n 0, 1) := by decide +kernel
theorem dX1_begin_6 : decode cX1_begin 6 = .ok (.iconst 0, 1) := by decide +kernel
theorem dX1_begin_7 : decode cX1_begin 7 = .ok (.putfield 37, 3) := by decide +kernel
theorem dX1_begin_10 : decode cX1_begin 10 = .ok (.aload_n 0, 1) := by decide +kernel
theorem dX1_begin_11 : decode cX1_begin 11 = .ok (.iconst 0, 1) := by decide +kernel
theorem dX1_begin_12 : decode cX1_begin 12 = .ok (.putfield 40, 3) := by decide +kernel
theorem dX1_begin_15 : decode cX1_begin 15 = .ok (.iconst 0, 1) := by decide +kernel
theorem dX1_begin_16 : decode cX1_begin 16 = .ok (.istore_n 2, 1) := by decide +kernel
theorem dX1_begin_17 : decode cX1_begin 17 = .ok (.iload_n 2, 1) := by decide +kernel
theorem dX1_begin_18 : decode cX1_begin 18 = .ok (.bipush 6, 2) := by decide +kernel
theorem dX1_begin_20 : decode cX1_begin 20 = .ok (.if_icmp .ge 28, 3) := by decide +kernel
theorem dX1_begin_23 : decode cX1_begin 23 = .ok (.aload_n 0, 1) := by decide +kernel
theorem dX1_begin_24 : decode cX1_begin 24 = .ok (.getfield 9, 3) := by decide +kernel
theorem dX1_begin_27 : decode cX1_begin 27 = .ok (.iload_n 2, 1) := by decide +kernel
theorem dX1_begin_28 : decode cX1_begin 28 = .ok (.aload_n 1, 1) := by decide +kernel
theorem dX1_begin_29 : decode cX1_begin 29 = .ok (.getfield 43, 3) := by decide +kernel
theorem dX1_begin_32 : decode cX1_begin 32 = .ok (.iload_n 2, 1) := by decide +kernel
theorem dX1_begin_33 : decode cX1_begin 33 = .ok (.iaload, 1) := by decide +kernel
theorem dX1_begin_34 : decode cX1_begin 34 = .ok (.iastore, 1) := by decide +kernel
theorem dX1_begin_35 : decode cX1_begin 35 = .ok (.aload_n 0, 1) := by decide +kernel
theorem dX1_begin_36 : decode cX1_begin 36 = .ok (.getfield 15, 3) := by decide +kernel
theorem dX1_begin_39 : decode cX1_begin 39 = .ok (.iload_n 2, 1) := by decide +kernel
theorem dX1_begin_40 : decode cX1_begin 40 = .ok (.iconst 0, 1) := by decide +kernel
theorem dX1_begin_41 : decode cX1_begin 41 = .ok (.iastore, 1) := by decide +kernel
theorem dX1_begin_42 : decode cX1_begin 42 = .ok (.iinc 2 1, 3) := by decide +kernel
theorem dX1_begin_45 : decode cX1_begin 45 = .ok (.goto (-28), 3) := by decide +kernel
theorem dX1_begin_48 : decode cX1_begin 48 = .ok (.return_, 1) := by decide +kernel
theorem dX1_copyFrom_0 : decode cX1_copyFrom 0 = .ok (.aload_n 0, 1) := by decide +kernel
theorem dX1_copyFrom_1 : decode cX1_copyFrom 1 = .ok (.aload_n 1, 1) := by decide +kernel
theorem dX1_copyFrom_2 : decode cX1_copyFrom 2 = .ok (.getfield 33, 3) := by decide +kernel
theorem dX1_copyFrom_5 : decode cX1_copyFrom 5 = .ok (.putfield 33, 3) := by decide +kernel
theorem dX1_copyFrom_8 : decode cX1_copyFrom 8 = .ok (.aload_n 1, 1) := by decide +kernel
theorem dX1_copyFrom_9 : decode cX1_copyFrom 9 = .ok (.getfield 9, 3) := by decide +kernel
theorem dX1_copyFrom_12 : decode cX1_copyFrom 12 = .ok (.iconst 0, 1) := by decide +kernel
theorem dX1_copyFrom_13 : decode cX1_copyFrom 13 = .ok (.aload_n 0, 1) := by decide +kernel
theorem dX1_copyFrom_14 : decode cX1_copyFrom 14 = .ok (.getfield 9, 3) := by decide +kernel
theorem dX1_copyFrom_17 : decode cX1_copyFrom 17 = .ok (.iconst 0, 1) := by decide +kernel
theorem dX1_copyFrom_18 : decode cX1_copyFrom 18 = .ok (.bipush 6, 2) := by decide +kernel
theorem dX1_copyFrom_20 : decode cX1_copyFrom 20 = .ok (.invokestatic 46, 3) := by decide +kernel
theorem dX1_copyFrom_23 : decode cX1_copyFrom 23 = .ok (.aload_n 1, 1) := by decide +kernel
theorem dX1_copyFrom_24 : decode cX1_copyFrom 24 = .ok (.getfield 15, 3) := by decide +kernel
theorem dX1_copyFrom_27 : decode cX1_copyFrom 27 = .ok (.iconst 0, 1) := by decide +kernel
theorem dX1_copyFrom_28 : decode cX1_copyFrom 28 = .ok (.aload_n 0, 1) := by decide +kernel
theorem dX1_copyFrom_29 : decode cX1_copyFrom 29 = .ok (.getfield 15, 3) := by decide +kernel
theorem dX1_copyFrom_32 : decode cX1_copyFrom 32 = .ok (.iconst 0, 1) := by decide +kernel
theorem dX1_copyFrom_33 : decode cX1_copyFrom 33 = .ok (.bipush 6, 2) := by decide +kernel
theorem dX1_copyFrom_35 : decode cX1_copyFrom 35 = .ok (.invokestatic 46, 3) := by decide +kernel
theorem dX1_copyFrom_38 : decode cX1_copyFrom 38 = .ok (.aload_n 0, 1) := by decide +kernel
theorem dX1_copyFrom_39 : decode cX1_copyFrom 39 = .ok (.aload_n 1, 1) := by decide +kernel
theorem dX1_copyFrom_40 : decode cX1_copyFrom 40 = .ok (.getfield 37, 3) := by decide +kernel
theorem dX1_copyFrom_43 : decode cX1_copyFrom 43 = .ok (.putfield 37, 3) := by decide +kernel
theorem dX1_copyFrom_46 : decode cX1_copyFrom 46 = .ok (.aload_n 1, 1) := by decide +kernel
theorem dX1_copyFrom_47 : decode cX1_copyFrom 47 = .ok (.getfield 18, 3) := by decide +kernel
theorem dX1_copyFrom_50 : decode cX1_copyFrom 50 = .ok (.iconst 0, 1) := by decide +kernel
theorem dX1_copyFrom_51 : decode cX1_copyFrom 51 = .ok (.aload_n 0, 1) := by decide +kernel
theorem dX1_copyFrom_52 : decode cX1_copyFrom 52 = .ok (.getfield 18, 3) := by decide +kernel
theorem dX1_copyFrom_55 : decode cX1_copyFrom 55 = .ok (.iconst 0, 1) := by decide +kernel
theorem dX1_copyFrom_56 : decode cX1_copyFrom 56 = .ok (.bipush 12, 2) := by decide +kernel
theorem dX1_copyFrom_58 : decode cX1_copyFrom 58 = .ok (.invokestatic 46, 3) := by decide +kernel
theorem dX1_copyFrom_61 : decode cX1_copyFrom 61 = .ok (.aload_n 1, 1) := by decide +kernel
theorem dX1_copyFrom_62 : decode cX1_copyFrom 62 = .ok (.getfield 21, 3) := by decide +kernel
theorem dX1_copyFrom_65 : decode cX1_copyFrom 65 = .ok (.iconst 0, 1) := by decide +kernel
theorem dX1_copyFrom_66 : decode cX1_copyFrom 66 = .ok (.aload_n 0, 1) := by decide +kernel
theorem dX1_copyFrom_67 : decode cX1_copyFrom 67 = .ok (.getfield 21, 3) := by decide +kernel
theorem dX1_copyFrom_70 : decode cX1_copyFrom 70 = .ok (.iconst 0, 1) := by decide +kernel
theorem dX1_copyFrom_71 : decode cX1_copyFrom 71 = .ok (.bipush 12, 2) := by decide +kernel
theorem dX1_copyFrom_73 : decode cX1_copyFrom 73 = .ok (.invokestatic 46, 3) := by decide +kernel
theorem dX1_copyFrom_76 : decode cX1_copyFrom 76 = .ok (.aload_n 1, 1) := by decide +kernel
theorem dX1_copyFrom_77 : decode cX1_copyFrom 77 = .ok (.getfield 24, 3) := by decide +kernel
theorem dX1_copyFrom_80 : decode cX1_copyFrom 80 = .ok (.iconst 0, 1) := by decide +kernel
theorem dX1_copyFrom_81 : decode cX1_copyFrom 81 = .ok (.aload_n 0, 1) := by decide +kernel
theorem dX1_copyFrom_82 : decode cX1_copyFrom 82 = .ok (.getfield 24, 3) := by decide +kernel
theorem dX1_copyFrom_85 : decode cX1_copyFrom 85 = .ok (.iconst 0, 1) := by decide +kernel
theorem dX1_copyFrom_86 : decode cX1_copyFrom 86 = .ok (.bipush 12, 2) := by decide +kernel
theorem dX1_copyFrom_88 : decode cX1_copyFrom 88 = .ok (.invokestatic 46, 3) := by decide +kernel
theorem dX1_copyFrom_91 : decode cX1_copyFrom 91 = .ok (.aload_n 1, 1) := by decide +kernel
theorem dX1_copyFrom_92 : decode cX1_copyFrom 92 = .ok (.getfield 27, 3) := by decide +kernel
theorem dX1_copyFrom_95 : decode cX1_copyFrom 95 = .ok (.iconst 0, 1) := by decide +kernel
theorem dX1_copyFrom_96 : decode cX1_copyFrom 96 = .ok (.aload_n 0, 1) := by decide +kernel
theorem dX1_copyFrom_97 : decode cX1_copyFrom 97 = .ok (.getfield 27, 3) := by decide +kernel
theorem dX1_copyFrom_100 : decode cX1_copyFrom 100 = .ok (.iconst 0, 1) := by decide +kernel
theorem dX1_copyFrom_101 : decode cX1_copyFrom 101 = .ok (.bipush 12, 2) := by decide +kernel
theorem dX1_copyFrom_103 : decode cX1_copyFrom 103 = .ok (.invokestatic 46, 3) := by decide +kernel
theorem dX1_copyFrom_106 : decode cX1_copyFrom 106 = .ok (.aload_n 1, 1) := by decide +kernel
theorem dX1_copyFrom_107 : decode cX1_copyFrom 107 = .ok (.getfield 30, 3) := by decide +kernel
theorem dX1_copyFrom_110 : decode cX1_copyFrom 110 = .ok (.iconst 0, 1) := by decide +kernel
theorem dX1_copyFrom_111 : decode cX1_copyFrom 111 = .ok (.aload_n 0, 1) := by decide +kernel
theorem dX1_copyFrom_112 : decode cX1_copyFrom 112 = .ok (.getfield 30, 3) := by decide +kernel
theorem dX1_copyFrom_115 : decode cX1_copyFrom 115 = .ok (.iconst 0, 1) := by decide +kernel
theorem dX1_copyFrom_116 : decode cX1_copyFrom 116 = .ok (.bipush 12, 2) := by decide +kernel
theorem dX1_copyFrom_118 : decode cX1_copyFrom 118 = .ok (.invokestatic 46, 3) := by decide +kernel
theorem dX1_copyFrom_121 : decode cX1_copyFrom 121 = .ok (.aload_n 0, 1) := by decide +kernel
theorem dX1_copyFrom_122 : decode cX1_copyFrom 122 = .ok (.aload_n 1, 1) := by decide +kernel
theorem dX1_copyFrom_123 : decode cX1_copyFrom 123 = .ok (.getfield 40, 3) := by decide +kernel
theorem dX1_copyFrom_126 : decode cX1_copyFrom 126 = .ok (.putfield 40, 3) := by decide +kernel
theorem dX1_copyFrom_129 : decode cX1_copyFrom 129 = .ok (.return_, 1) := by decide +kernel
theorem dX1_owedTo_0 : decode cX1_owedTo 0 = .ok (.iconst 0, 1) := by decide +kernel
theorem dX1_owedTo_1 : decode cX1_owedTo 1 = .ok (.istore_n 2, 1) := by decide +kernel
theorem dX1_owedTo_2 : decode cX1_owedTo 2 = .ok (.iconst 0, 1) := by decide +kernel
theorem dX1_owedTo_3 : decode cX1_owedTo 3 = .ok (.istore_n 3, 1) := by decide +kernel
theorem dX1_owedTo_4 : decode cX1_owedTo 4 = .ok (.iload_n 3, 1) := by decide +kernel
theorem dX1_owedTo_5 : decode cX1_owedTo 5 = .ok (.aload_n 0, 1) := by decide +kernel
theorem dX1_owedTo_6 : decode cX1_owedTo 6 = .ok (.getfield 37, 3) := by decide +kernel
theorem dX1_owedTo_9 : decode cX1_owedTo 9 = .ok (.if_icmp .ge 28, 3) := by decide +kernel
theorem dX1_owedTo_12 : decode cX1_owedTo 12 = .ok (.aload_n 0, 1) := by decide +kernel
theorem dX1_owedTo_13 : decode cX1_owedTo 13 = .ok (.getfield 18, 3) := by decide +kernel
theorem dX1_owedTo_16 : decode cX1_owedTo 16 = .ok (.iload_n 3, 1) := by decide +kernel
theorem dX1_owedTo_17 : decode cX1_owedTo 17 = .ok (.iaload, 1) := by decide +kernel
theorem dX1_owedTo_18 : decode cX1_owedTo 18 = .ok (.iload_n 1, 1) := by decide +kernel
theorem dX1_owedTo_19 : decode cX1_owedTo 19 = .ok (.if_icmp .ne 12, 3) := by decide +kernel
theorem dX1_owedTo_22 : decode cX1_owedTo 22 = .ok (.iload_n 2, 1) := by decide +kernel
theorem dX1_owedTo_23 : decode cX1_owedTo 23 = .ok (.aload_n 0, 1) := by decide +kernel
theorem dX1_owedTo_24 : decode cX1_owedTo 24 = .ok (.getfield 24, 3) := by decide +kernel
theorem dX1_owedTo_27 : decode cX1_owedTo 27 = .ok (.iload_n 3, 1) := by decide +kernel
theorem dX1_owedTo_28 : decode cX1_owedTo 28 = .ok (.iaload, 1) := by decide +kernel
theorem dX1_owedTo_29 : decode cX1_owedTo 29 = .ok (.iadd, 1) := by decide +kernel
theorem dX1_owedTo_30 : decode cX1_owedTo 30 = .ok (.istore_n 2, 1) := by decide +kernel
theorem dX1_owedTo_31 : decode cX1_owedTo 31 = .ok (.iinc 3 1, 3) := by decide +kernel
theorem dX1_owedTo_34 : decode cX1_owedTo 34 = .ok (.goto (-30), 3) := by decide +kernel
theorem dX1_owedTo_37 : decode cX1_owedTo 37 = .ok (.iload_n 2, 1) := by decide +kernel
theorem dX1_owedTo_38 : decode cX1_owedTo 38 = .ok (.ireturn, 1) := by decide +kernel
theorem dX1_owedInAll_0 : decode cX1_owedInAll 0 = .ok (.iconst 0, 1) := by decide +kernel
theorem dX1_owedInAll_1 : decode cX1_owedInAll 1 = .ok (.istore_n 1, 1) := by decide +kernel
theorem dX1_owedInAll_2 : decode cX1_owedInAll 2 = .ok (.iconst 0, 1) := by decide +kernel
theorem dX1_owedInAll_3 : decode cX1_owedInAll 3 = .ok (.istore_n 2, 1) := by decide +kernel
theorem dX1_owedInAll_4 : decode cX1_owedInAll 4 = .ok (.iload_n 2, 1) := by decide +kernel
theorem dX1_owedInAll_5 : decode cX1_owedInAll 5 = .ok (.aload_n 0, 1) := by decide +kernel
theorem dX1_owedInAll_6 : decode cX1_owedInAll 6 = .ok (.getfield 37, 3) := by decide +kernel
theorem dX1_owedInAll_9 : decode cX1_owedInAll 9 = .ok (.if_icmp .ge 18, 3) := by decide +kernel
theorem dX1_owedInAll_12 : decode cX1_owedInAll 12 = .ok (.iload_n 1, 1) := by decide +kernel
theorem dX1_owedInAll_13 : decode cX1_owedInAll 13 = .ok (.aload_n 0, 1) := by decide +kernel
theorem dX1_owedInAll_14 : decode cX1_owedInAll 14 = .ok (.getfield 24, 3) := by decide +kernel
theorem dX1_owedInAll_17 : decode cX1_owedInAll 17 = .ok (.iload_n 2, 1) := by decide +kernel
theorem dX1_owedInAll_18 : decode cX1_owedInAll 18 = .ok (.iaload, 1) := by decide +kernel
theorem dX1_owedInAll_19 : decode cX1_owedInAll 19 = .ok (.iadd, 1) := by decide +kernel
theorem dX1_owedInAll_20 : decode cX1_owedInAll 20 = .ok (.istore_n 1, 1) := by decide +kernel
theorem dX1_owedInAll_21 : decode cX1_owedInAll 21 = .ok (.iinc 2 1, 3) := by decide +kernel
theorem dX1_owedInAll_24 : decode cX1_owedInAll 24 = .ok (.goto (-20), 3) := by decide +kernel
theorem dX1_owedInAll_27 : decode cX1_owedInAll 27 = .ok (.iload_n 1, 1) := by decide +kernel
theorem dX1_owedInAll_28 : decode cX1_owedInAll 28 = .ok (.ireturn, 1) := by decide +kernel
set_option maxRecDepth 20000 in
theorem ggX1_isCross_X1_owedTo : GoodIn wsX1_isCross wsX1_owedTo := goodIn_r _ [8, 9, 10, 11, 22, 23, 24, 25, 26, 27, 28, 29, 30, 31] (by decide +kernel) (by decide +kernel)
set_option maxRecDepth 20000 in
theorem gX1_isCross_X1_owedTo : GoodIn wsX1_isCross (wsV RX1 52 RX1 yX1_owedTo wsX1_owedTo) := goodIn_app (goodIn_of _ (by decide +kernel)) ggX1_isCross_X1_owedTo
theorem dX1_isCross_0 : decode cX1_isCross 0 = .ok (.aload_n 0, 1) := by decide +kernel
theorem dX1_isCross_1 : decode cX1_isCross 1 = .ok (.iload_n 2, 1) := by decide +kernel
theorem dX1_isCross_2 : decode cX1_isCross 2 = .ok (.invokevirtual 52, 3) := by decide +kernel
theorem dX1_isCross_5 : decode cX1_isCross 5 = .ok (.istore_n 3, 1) := by decide +kernel
theorem dX1_isCross_6 : decode cX1_isCross 6 = .ok (.iconst 0, 1) := by decide +kernel
theorem dX1_isCross_7 : decode cX1_isCross 7 = .ok (.istore 4, 2) := by decide +kernel
theorem dX1_isCross_9 : decode cX1_isCross 9 = .ok (.iload 4, 2) := by decide +kernel
theorem dX1_isCross_11 : decode cX1_isCross 11 = .ok (.aload_n 1, 1) := by decide +kernel
theorem dX1_isCross_12 : decode cX1_isCross 12 = .ok (.getfield 56, 3) := by decide +kernel
theorem dX1_isCross_15 : decode cX1_isCross 15 = .ok (.if_icmp .ge 65, 3) := by decide +kernel
theorem dX1_isCross_18 : decode cX1_isCross 18 = .ok (.aload_n 1, 1) := by decide +kernel
theorem dX1_isCross_19 : decode cX1_isCross 19 = .ok (.getfield 59, 3) := by decide +kernel
theorem dX1_isCross_22 : decode cX1_isCross 22 = .ok (.iload 4, 2) := by decide +kernel
theorem dX1_isCross_24 : decode cX1_isCross 24 = .ok (.iaload, 1) := by decide +kernel
theorem dX1_isCross_25 : decode cX1_isCross 25 = .ok (.iload_n 2, 1) := by decide +kernel
theorem dX1_isCross_26 : decode cX1_isCross 26 = .ok (.if_icmp .ne 20, 3) := by decide +kernel
theorem dX1_isCross_29 : decode cX1_isCross 29 = .ok (.aload_n 0, 1) := by decide +kernel
theorem dX1_isCross_30 : decode cX1_isCross 30 = .ok (.aload_n 1, 1) := by decide +kernel
theorem dX1_isCross_31 : decode cX1_isCross 31 = .ok (.getfield 62, 3) := by decide +kernel
theorem dX1_isCross_34 : decode cX1_isCross 34 = .ok (.iload 4, 2) := by decide +kernel
theorem dX1_isCross_36 : decode cX1_isCross 36 = .ok (.iaload, 1) := by decide +kernel
theorem dX1_isCross_37 : decode cX1_isCross 37 = .ok (.invokevirtual 52, 3) := by decide +kernel
theorem dX1_isCross_40 : decode cX1_isCross 40 = .ok (.iload_n 3, 1) := by decide +kernel
theorem dX1_isCross_41 : decode cX1_isCross 41 = .ok (.if_icmp .le 5, 3) := by decide +kernel
theorem dX1_isCross_44 : decode cX1_isCross 44 = .ok (.iconst 1, 1) := by decide +kernel
theorem dX1_isCross_45 : decode cX1_isCross 45 = .ok (.ireturn, 1) := by decide +kernel
theorem dX1_isCross_46 : decode cX1_isCross 46 = .ok (.aload_n 1, 1) := by decide +kernel
theorem dX1_isCross_47 : decode cX1_isCross 47 = .ok (.getfield 62, 3) := by decide +kernel
theorem dX1_isCross_50 : decode cX1_isCross 50 = .ok (.iload 4, 2) := by decide +kernel
theorem dX1_isCross_52 : decode cX1_isCross 52 = .ok (.iaload, 1) := by decide +kernel
theorem dX1_isCross_53 : decode cX1_isCross 53 = .ok (.iload_n 2, 1) := by decide +kernel
theorem dX1_isCross_54 : decode cX1_isCross 54 = .ok (.if_icmp .ne 20, 3) := by decide +kernel
theorem dX1_isCross_57 : decode cX1_isCross 57 = .ok (.aload_n 0, 1) := by decide +kernel
theorem dX1_isCross_58 : decode cX1_isCross 58 = .ok (.aload_n 1, 1) := by decide +kernel
theorem dX1_isCross_59 : decode cX1_isCross 59 = .ok (.getfield 59, 3) := by decide +kernel
theorem dX1_isCross_62 : decode cX1_isCross 62 = .ok (.iload 4, 2) := by decide +kernel
theorem dX1_isCross_64 : decode cX1_isCross 64 = .ok (.iaload, 1) := by decide +kernel
theorem dX1_isCross_65 : decode cX1_isCross 65 = .ok (.invokevirtual 52, 3) := by decide +kernel
theorem dX1_isCross_68 : decode cX1_isCross 68 = .ok (.iload_n 3, 1) := by decide +kernel
theorem dX1_isCross_69 : decode cX1_isCross 69 = .ok (.if_icmp .le 5, 3) := by decide +kernel
theorem dX1_isCross_72 : decode cX1_isCross 72 = .ok (.iconst 1, 1) := by decide +kernel
theorem dX1_isCross_73 : decode cX1_isCross 73 = .ok (.ireturn, 1) := by decide +kernel
theorem dX1_isCross_74 : decode cX1_isCross 74 = .ok (.iinc 4 1, 3) := by decide +kernel
theorem dX1_isCross_77 : decode cX1_isCross 77 = .ok (.goto (-68), 3) := by decide +kernel
theorem dX1_isCross_80 : decode cX1_isCross 80 = .ok (.iconst 0, 1) := by decide +kernel
theorem dX1_isCross_81 : decode cX1_isCross 81 = .ok (.ireturn, 1) := by decide +kernel
set_option maxRecDepth 20000 in
theorem ggX1_lends_X1_isCross : GoodIn wsX1_lends wsX1_isCross := goodIn_r _ [6, 7, 8, 9, 10, 11, 12, 5, 13, 14, 15, 16, 27, 28, 29, 30, 31, 32, 33, 34, 35, 36, 17, 18, 19, 20, 21, 22, 23, 24, 25, 26] (by decide +kernel) (by decide +kernel)
set_option maxRecDepth 20000 in
theorem gX1_lends_X1_isCross : GoodIn wsX1_lends (wsV RX1 65 RX1 yX1_isCross wsX1_isCross) := goodIn_app (goodIn_of _ (by decide +kernel)) ggX1_lends_X1_isCross
theorem dX1_lends_0 : decode cX1_lends 0 = .ok (.aload_n 0, 1) := by decide +kernel
theorem dX1_lends_1 : decode cX1_lends 1 = .ok (.getfield 15, 3) := by decide +kernel
theorem dX1_lends_4 : decode cX1_lends 4 = .ok (.iload_n 2, 1) := by decide +kernel
theorem dX1_lends_5 : decode cX1_lends 5 = .ok (.iaload, 1) := by decide +kernel
theorem dX1_lends_6 : decode cX1_lends 6 = .ok (.ifCond .ne 16, 3) := by decide +kernel
theorem dX1_lends_9 : decode cX1_lends 9 = .ok (.aload_n 0, 1) := by decide +kernel
theorem dX1_lends_10 : decode cX1_lends 10 = .ok (.aload_n 1, 1) := by decide +kernel
theorem dX1_lends_11 : decode cX1_lends 11 = .ok (.iload_n 2, 1) := by decide +kernel
theorem dX1_lends_12 : decode cX1_lends 12 = .ok (.invokevirtual 65, 3) := by decide +kernel
theorem dX1_lends_15 : decode cX1_lends 15 = .ok (.ifCond .ne 7, 3) := by decide +kernel
theorem dX1_lends_18 : decode cX1_lends 18 = .ok (.iconst 1, 1) := by decide +kernel
theorem dX1_lends_19 : decode cX1_lends 19 = .ok (.goto 4, 3) := by decide +kernel
theorem dX1_lends_22 : decode cX1_lends 22 = .ok (.iconst 0, 1) := by decide +kernel
theorem dX1_lends_23 : decode cX1_lends 23 = .ok (.ireturn, 1) := by decide +kernel
set_option maxRecDepth 20000 in
theorem ggX1_lend_X3_dueOf : GoodIn wsX1_lend wsX3_dueOf := goodIn_r _ [13, 14, 15, 26, 27, 28, 29, 30, 31, 32, 33, 34, 35] (by decide +kernel) (by decide +kernel)
set_option maxRecDepth 20000 in
theorem gX1_lend_X3_dueOf : GoodIn wsX1_lend (wsV RX1 69 RX3 yX3_dueOf wsX3_dueOf) := goodIn_app (goodIn_of _ (by decide +kernel)) ggX1_lend_X3_dueOf
theorem dX1_lend_0 : decode cX1_lend 0 = .ok (.aload_n 0, 1) := by decide +kernel
theorem dX1_lend_1 : decode cX1_lend 1 = .ok (.getfield 37, 3) := by decide +kernel
theorem dX1_lend_4 : decode cX1_lend 4 = .ok (.istore 4, 2) := by decide +kernel
theorem dX1_lend_6 : decode cX1_lend 6 = .ok (.aload_n 0, 1) := by decide +kernel
theorem dX1_lend_7 : decode cX1_lend 7 = .ok (.getfield 18, 3) := by decide +kernel
theorem dX1_lend_10 : decode cX1_lend 10 = .ok (.iload 4, 2) := by decide +kernel
theorem dX1_lend_12 : decode cX1_lend 12 = .ok (.iload_n 2, 1) := by decide +kernel
theorem dX1_lend_13 : decode cX1_lend 13 = .ok (.iastore, 1) := by decide +kernel
theorem dX1_lend_14 : decode cX1_lend 14 = .ok (.aload_n 0, 1) := by decide +kernel
theorem dX1_lend_15 : decode cX1_lend 15 = .ok (.getfield 21, 3) := by decide +kernel
theorem dX1_lend_18 : decode cX1_lend 18 = .ok (.iload 4, 2) := by decide +kernel
theorem dX1_lend_20 : decode cX1_lend 20 = .ok (.iload_n 3, 1) := by decide +kernel
theorem dX1_lend_21 : decode cX1_lend 21 = .ok (.iastore, 1) := by decide +kernel
theorem dX1_lend_22 : decode cX1_lend 22 = .ok (.aload_n 0, 1) := by decide +kernel
theorem dX1_lend_23 : decode cX1_lend 23 = .ok (.getfield 24, 3) := by decide +kernel
theorem dX1_lend_26 : decode cX1_lend 26 = .ok (.iload 4, 2) := by decide +kernel
theorem dX1_lend_28 : decode cX1_lend 28 = .ok (.bipush 100, 2) := by decide +kernel
theorem dX1_lend_30 : decode cX1_lend 30 = .ok (.iload_n 3, 1) := by decide +kernel
theorem dX1_lend_31 : decode cX1_lend 31 = .ok (.imul, 1) := by decide +kernel
theorem dX1_lend_32 : decode cX1_lend 32 = .ok (.iastore, 1) := by decide +kernel
theorem dX1_lend_33 : decode cX1_lend 33 = .ok (.aload_n 0, 1) := by decide +kernel
theorem dX1_lend_34 : decode cX1_lend 34 = .ok (.getfield 27, 3) := by decide +kernel
theorem dX1_lend_37 : decode cX1_lend 37 = .ok (.iload 4, 2) := by decide +kernel
theorem dX1_lend_39 : decode cX1_lend 39 = .ok (.aload_n 1, 1) := by decide +kernel
theorem dX1_lend_40 : decode cX1_lend 40 = .ok (.iload_n 2, 1) := by decide +kernel
theorem dX1_lend_41 : decode cX1_lend 41 = .ok (.aload_n 0, 1) := by decide +kernel
theorem dX1_lend_42 : decode cX1_lend 42 = .ok (.getfield 33, 3) := by decide +kernel
theorem dX1_lend_45 : decode cX1_lend 45 = .ok (.invokevirtual 69, 3) := by decide +kernel
theorem dX1_lend_48 : decode cX1_lend 48 = .ok (.iastore, 1) := by decide +kernel
theorem dX1_lend_49 : decode cX1_lend 49 = .ok (.aload_n 0, 1) := by decide +kernel
theorem dX1_lend_50 : decode cX1_lend 50 = .ok (.getfield 30, 3) := by decide +kernel
theorem dX1_lend_53 : decode cX1_lend 53 = .ok (.iload 4, 2) := by decide +kernel
theorem dX1_lend_55 : decode cX1_lend 55 = .ok (.iconst 0, 1) := by decide +kernel
theorem dX1_lend_56 : decode cX1_lend 56 = .ok (.iastore, 1) := by decide +kernel
theorem dX1_lend_57 : decode cX1_lend 57 = .ok (.aload_n 0, 1) := by decide +kernel
theorem dX1_lend_58 : decode cX1_lend 58 = .ok (.getfield 9, 3) := by decide +kernel
theorem dX1_lend_61 : decode cX1_lend 61 = .ok (.iload_n 2, 1) := by decide +kernel
theorem dX1_lend_62 : decode cX1_lend 62 = .ok (.dup2, 1) := by decide +kernel
theorem dX1_lend_63 : decode cX1_lend 63 = .ok (.iaload, 1) := by decide +kernel
theorem dX1_lend_64 : decode cX1_lend 64 = .ok (.iload_n 3, 1) := by decide +kernel
theorem dX1_lend_65 : decode cX1_lend 65 = .ok (.isub, 1) := by decide +kernel
theorem dX1_lend_66 : decode cX1_lend 66 = .ok (.iastore, 1) := by decide +kernel
theorem dX1_lend_67 : decode cX1_lend 67 = .ok (.aload_n 0, 1) := by decide +kernel
theorem dX1_lend_68 : decode cX1_lend 68 = .ok (.dup, 1) := by decide +kernel
theorem dX1_lend_69 : decode cX1_lend 69 = .ok (.getfield 37, 3) := by decide +kernel
theorem dX1_lend_72 : decode cX1_lend 72 = .ok (.iconst 1, 1) := by decide +kernel
theorem dX1_lend_73 : decode cX1_lend 73 = .ok (.iadd, 1) := by decide +kernel
theorem dX1_lend_74 : decode cX1_lend 74 = .ok (.putfield 37, 3) := by decide +kernel
theorem dX1_lend_77 : decode cX1_lend 77 = .ok (.iload 4, 2) := by decide +kernel
theorem dX1_lend_79 : decode cX1_lend 79 = .ok (.ireturn, 1) := by decide +kernel
theorem dX1_addBranches_0 : decode cX1_addBranches 0 = .ok (.aload_n 0, 1) := by decide +kernel
theorem dX1_addBranches_1 : decode cX1_addBranches 1 = .ok (.getfield 9, 3) := by decide +kernel
theorem dX1_addBranches_4 : decode cX1_addBranches 4 = .ok (.iload_n 1, 1) := by decide +kernel
theorem dX1_addBranches_5 : decode cX1_addBranches 5 = .ok (.aload_n 0, 1) := by decide +kernel
theorem dX1_addBranches_6 : decode cX1_addBranches 6 = .ok (.getfield 9, 3) := by decide +kernel
theorem dX1_addBranches_9 : decode cX1_addBranches 9 = .ok (.iload_n 1, 1) := by decide +kernel
theorem dX1_addBranches_10 : decode cX1_addBranches 10 = .ok (.iaload, 1) := by decide +kernel
theorem dX1_addBranches_11 : decode cX1_addBranches 11 = .ok (.iload_n 2, 1) := by decide +kernel
theorem dX1_addBranches_12 : decode cX1_addBranches 12 = .ok (.iadd, 1) := by decide +kernel
theorem dX1_addBranches_13 : decode cX1_addBranches 13 = .ok (.bipush 99, 2) := by decide +kernel
theorem dX1_addBranches_15 : decode cX1_addBranches 15 = .ok (.invokestatic 73, 3) := by decide +kernel
theorem dX1_addBranches_18 : decode cX1_addBranches 18 = .ok (.iastore, 1) := by decide +kernel
theorem dX1_addBranches_19 : decode cX1_addBranches 19 = .ok (.return_, 1) := by decide +kernel
set_option maxRecDepth 20000 in
theorem ggX1_passDays_X1_growLoans : GoodIn wsX1_passDays wsX1_growLoans := goodIn_r _ [6, 7, 8, 9, 10, 11, 12, 13, 14, 15, 16, 17, 18, 19, 20, 21, 22, 48, 49, 50, 51, 52, 53, 54, 55, 56, 57, 58, 59, 60, 61, 62, 63, 64, 65, 66, 67] (by decide +kernel) (by decide +kernel)
set_option maxRecDepth 20000 in
theorem gX1_passDays_X1_growLoans : GoodIn wsX1_passDays (wsV RX1 78 RX1 yX1_growLoans wsX1_growLoans) := goodIn_app (goodIn_of _ (by decide +kernel)) ggX1_passDays_X1_growLoans
set_option maxRecDepth 20000 in
theorem ggX1_passDays_X1_workOff : GoodIn wsX1_passDays wsX1_workOff := goodIn_r _ [26, 7, 8, 27, 20, 21, 22, 9, 10, 28, 29, 30, 5, 31, 32, 33, 34, 35, 36, 37, 38, 39, 40, 41, 42, 48, 49, 50, 51, 52, 53, 54, 55, 56, 57] (by decide +kernel) (by decide +kernel)
set_option maxRecDepth 20000 in
theorem gX1_passDays_X1_workOff : GoodIn wsX1_passDays (wsV RX1 82 RX1 yX1_workOff wsX1_workOff) := goodIn_app (goodIn_of _ (by decide +kernel)) ggX1_passDays_X1_workOff
set_option maxRecDepth 20000 in
theorem ggX1_passDays_X1_failDueLoans : GoodIn wsX1_passDays wsX1_failDueLoans := goodIn_r _ [46, 7, 32, 1, 42, 47, 48, 49, 50, 51, 52, 53, 54, 55, 56, 57] (by decide +kernel) (by decide +kernel)
set_option maxRecDepth 20000 in
theorem gX1_passDays_X1_failDueLoans : GoodIn wsX1_passDays (wsV RX1 86 RX1 yX1_failDueLoans wsX1_failDueLoans) := goodIn_app (goodIn_of _ (by decide +kernel)) ggX1_passDays_X1_failDueLoans
theorem dX1_passDays_0 : decode cX1_passDays 0 = .ok (.iconst 0, 1) := by decide +kernel
theorem dX1_passDays_1 : decode cX1_passDays 1 = .ok (.istore 4, 2) := by decide +kernel
theorem dX1_passDays_3 : decode cX1_passDays 3 = .ok (.iload 4, 2) := by decide +kernel
theorem dX1_passDays_5 : decode cX1_passDays 5 = .ok (.iload_n 3, 1) := by decide +kernel
theorem dX1_passDays_6 : decode cX1_passDays 6 = .ok (.if_icmp .ge 36, 3) := by decide +kernel
theorem dX1_passDays_9 : decode cX1_passDays 9 = .ok (.aload_n 0, 1) := by decide +kernel
theorem dX1_passDays_10 : decode cX1_passDays 10 = .ok (.aload_n 1, 1) := by decide +kernel
theorem dX1_passDays_11 : decode cX1_passDays 11 = .ok (.invokevirtual 78, 3) := by decide +kernel
theorem dX1_passDays_14 : decode cX1_passDays 14 = .ok (.aload_n 0, 1) := by decide +kernel
theorem dX1_passDays_15 : decode cX1_passDays 15 = .ok (.iload_n 2, 1) := by decide +kernel
theorem dX1_passDays_16 : decode cX1_passDays 16 = .ok (.bipush 100, 2) := by decide +kernel
theorem dX1_passDays_18 : decode cX1_passDays 18 = .ok (.imul, 1) := by decide +kernel
theorem dX1_passDays_19 : decode cX1_passDays 19 = .ok (.invokevirtual 82, 3) := by decide +kernel
theorem dX1_passDays_22 : decode cX1_passDays 22 = .ok (.aload_n 0, 1) := by decide +kernel
theorem dX1_passDays_23 : decode cX1_passDays 23 = .ok (.invokevirtual 86, 3) := by decide +kernel
theorem dX1_passDays_26 : decode cX1_passDays 26 = .ok (.aload_n 0, 1) := by decide +kernel
theorem dX1_passDays_27 : decode cX1_passDays 27 = .ok (.dup, 1) := by decide +kernel
theorem dX1_passDays_28 : decode cX1_passDays 28 = .ok (.getfield 33, 3) := by decide +kernel
theorem dX1_passDays_31 : decode cX1_passDays 31 = .ok (.iconst 1, 1) := by decide +kernel
theorem dX1_passDays_32 : decode cX1_passDays 32 = .ok (.iadd, 1) := by decide +kernel
theorem dX1_passDays_33 : decode cX1_passDays 33 = .ok (.putfield 33, 3) := by decide +kernel
theorem dX1_passDays_36 : decode cX1_passDays 36 = .ok (.iinc 4 1, 3) := by decide +kernel
theorem dX1_passDays_39 : decode cX1_passDays 39 = .ok (.goto (-36), 3) := by decide +kernel
theorem dX1_passDays_42 : decode cX1_passDays 42 = .ok (.return_, 1) := by decide +kernel
set_option maxRecDepth 20000 in
theorem ggX1_growLoans_X3_grownOnce : GoodIn wsX1_growLoans wsX3_grownOnce := goodIn_r _ [9, 10, 11, 12, 13, 14, 15, 16, 27, 28, 29, 30, 31, 32, 33, 34, 35, 36] (by decide +kernel) (by decide +kernel)
set_option maxRecDepth 20000 in
theorem gX1_growLoans_X3_grownOnce : GoodIn wsX1_growLoans (wsV RX1 89 RX3 yX3_grownOnce wsX3_grownOnce) := goodIn_app (goodIn_of _ (by decide +kernel)) ggX1_growLoans_X3_grownOnce
theorem dX1_growLoans_0 : decode cX1_growLoans 0 = .ok (.iconst 0, 1) := by decide +kernel
theorem dX1_growLoans_1 : decode cX1_growLoans 1 = .ok (.istore_n 2, 1) := by decide +kernel
theorem dX1_growLoans_2 : decode cX1_growLoans 2 = .ok (.iload_n 2, 1) := by decide +kernel
theorem dX1_growLoans_3 : decode cX1_growLoans 3 = .ok (.aload_n 0, 1) := by decide +kernel
theorem dX1_growLoans_4 : decode cX1_growLoans 4 = .ok (.getfield 37, 3) := by decide +kernel
theorem dX1_growLoans_7 : decode cX1_growLoans 7 = .ok (.if_icmp .ge 37, 3) := by decide +kernel
theorem dX1_growLoans_10 : decode cX1_growLoans 10 = .ok (.aload_n 0, 1) := by decide +kernel
theorem dX1_growLoans_11 : decode cX1_growLoans 11 = .ok (.getfield 24, 3) := by decide +kernel
theorem dX1_growLoans_14 : decode cX1_growLoans 14 = .ok (.iload_n 2, 1) := by decide +kernel
theorem dX1_growLoans_15 : decode cX1_growLoans 15 = .ok (.aload_n 1, 1) := by decide +kernel
theorem dX1_growLoans_16 : decode cX1_growLoans 16 = .ok (.aload_n 0, 1) := by decide +kernel
theorem dX1_growLoans_17 : decode cX1_growLoans 17 = .ok (.getfield 18, 3) := by decide +kernel
theorem dX1_growLoans_20 : decode cX1_growLoans 20 = .ok (.iload_n 2, 1) := by decide +kernel
theorem dX1_growLoans_21 : decode cX1_growLoans 21 = .ok (.iaload, 1) := by decide +kernel
theorem dX1_growLoans_22 : decode cX1_growLoans 22 = .ok (.aload_n 0, 1) := by decide +kernel
theorem dX1_growLoans_23 : decode cX1_growLoans 23 = .ok (.getfield 24, 3) := by decide +kernel
theorem dX1_growLoans_26 : decode cX1_growLoans 26 = .ok (.iload_n 2, 1) := by decide +kernel
theorem dX1_growLoans_27 : decode cX1_growLoans 27 = .ok (.iaload, 1) := by decide +kernel
theorem dX1_growLoans_28 : decode cX1_growLoans 28 = .ok (.aload_n 0, 1) := by decide +kernel
theorem dX1_growLoans_29 : decode cX1_growLoans 29 = .ok (.getfield 21, 3) := by decide +kernel
theorem dX1_growLoans_32 : decode cX1_growLoans 32 = .ok (.iload_n 2, 1) := by decide +kernel
theorem dX1_growLoans_33 : decode cX1_growLoans 33 = .ok (.iaload, 1) := by decide +kernel
theorem dX1_growLoans_34 : decode cX1_growLoans 34 = .ok (.invokevirtual 89, 3) := by decide +kernel
theorem dX1_growLoans_37 : decode cX1_growLoans 37 = .ok (.iastore, 1) := by decide +kernel
theorem dX1_growLoans_38 : decode cX1_growLoans 38 = .ok (.iinc 2 1, 3) := by decide +kernel
theorem dX1_growLoans_41 : decode cX1_growLoans 41 = .ok (.goto (-39), 3) := by decide +kernel
theorem dX1_growLoans_44 : decode cX1_growLoans 44 = .ok (.return_, 1) := by decide +kernel
set_option maxRecDepth 20000 in
theorem ggX1_workOff_X1_firstDue : GoodIn wsX1_workOff wsX1_firstDue := goodIn_r _ [13, 1, 14, 25, 26, 27, 28, 29, 30, 31, 32, 33, 34] (by decide +kernel) (by decide +kernel)
set_option maxRecDepth 20000 in
theorem gX1_workOff_X1_firstDue : GoodIn wsX1_workOff (wsV RX1 93 RX1 yX1_firstDue wsX1_firstDue) := goodIn_app (goodIn_of _ (by decide +kernel)) ggX1_workOff_X1_firstDue
set_option maxRecDepth 20000 in
theorem ggX1_workOff_X1_addBranches : GoodIn wsX1_workOff wsX1_addBranches := goodIn_r _ [18, 19, 3, 4, 5, 6, 25, 26, 27, 28, 29, 30, 31, 32, 33, 34] (by decide +kernel) (by decide +kernel)
set_option maxRecDepth 20000 in
theorem gX1_workOff_X1_addBranches : GoodIn wsX1_workOff (wsV RX1 97 RX1 yX1_addBranches wsX1_addBranches) := goodIn_app (goodIn_of _ (by decide +kernel)) ggX1_workOff_X1_addBranches
set_option maxRecDepth 20000 in
theorem ggX1_workOff_X1_removeLoan : GoodIn wsX1_workOff wsX1_removeLoan := goodIn_r _ [23, 1, 7, 8, 2, 14, 24, 25, 26, 27, 28, 29, 30, 31, 32, 33, 34] (by decide +kernel) (by decide +kernel)
set_option maxRecDepth 20000 in
theorem gX1_workOff_X1_removeLoan : GoodIn wsX1_workOff (wsV RX1 101 RX1 yX1_removeLoan wsX1_removeLoan) := goodIn_app (goodIn_of _ (by decide +kernel)) ggX1_workOff_X1_removeLoan
theorem dX1_workOff_0 : decode cX1_workOff 0 = .ok (.iload_n 1, 1) := by decide +kernel
theorem dX1_workOff_1 : decode cX1_workOff 1 = .ok (.istore_n 2, 1) := by decide +kernel
theorem dX1_workOff_2 : decode cX1_workOff 2 = .ok (.iconst 0, 1) := by decide +kernel
theorem dX1_workOff_3 : decode cX1_workOff 3 = .ok (.istore_n 3, 1) := by decide +kernel
theorem dX1_workOff_4 : decode cX1_workOff 4 = .ok (.iload_n 3, 1) := by decide +kernel
theorem dX1_workOff_5 : decode cX1_workOff 5 = .ok (.bipush 12, 2) := by decide +kernel
theorem dX1_workOff_7 : decode cX1_workOff 7 = .ok (.if_icmp .ge 90, 3) := by decide +kernel
theorem dX1_workOff_10 : decode cX1_workOff 10 = .ok (.iload_n 2, 1) := by decide +kernel
theorem dX1_workOff_11 : decode cX1_workOff 11 = .ok (.ifCond .le 86, 3) := by decide +kernel
theorem dX1_workOff_14 : decode cX1_workOff 14 = .ok (.aload_n 0, 1) := by decide +kernel
theorem dX1_workOff_15 : decode cX1_workOff 15 = .ok (.getfield 37, 3) := by decide +kernel
theorem dX1_workOff_18 : decode cX1_workOff 18 = .ok (.ifCond .le 79, 3) := by decide +kernel
theorem dX1_workOff_21 : decode cX1_workOff 21 = .ok (.aload_n 0, 1) := by decide +kernel
theorem dX1_workOff_22 : decode cX1_workOff 22 = .ok (.invokevirtual 93, 3) := by decide +kernel
theorem dX1_workOff_25 : decode cX1_workOff 25 = .ok (.istore 4, 2) := by decide +kernel
theorem dX1_workOff_27 : decode cX1_workOff 27 = .ok (.iload_n 2, 1) := by decide +kernel
theorem dX1_workOff_28 : decode cX1_workOff 28 = .ok (.aload_n 0, 1) := by decide +kernel
theorem dX1_workOff_29 : decode cX1_workOff 29 = .ok (.getfield 24, 3) := by decide +kernel
theorem dX1_workOff_32 : decode cX1_workOff 32 = .ok (.iload 4, 2) := by decide +kernel
theorem dX1_workOff_34 : decode cX1_workOff 34 = .ok (.iaload, 1) := by decide +kernel
theorem dX1_workOff_35 : decode cX1_workOff 35 = .ok (.invokestatic 73, 3) := by decide +kernel
theorem dX1_workOff_38 : decode cX1_workOff 38 = .ok (.istore 5, 2) := by decide +kernel
theorem dX1_workOff_40 : decode cX1_workOff 40 = .ok (.iload_n 2, 1) := by decide +kernel
theorem dX1_workOff_41 : decode cX1_workOff 41 = .ok (.iload 5, 2) := by decide +kernel
theorem dX1_workOff_43 : decode cX1_workOff 43 = .ok (.isub, 1) := by decide +kernel
theorem dX1_workOff_44 : decode cX1_workOff 44 = .ok (.istore_n 2, 1) := by decide +kernel
theorem dX1_workOff_45 : decode cX1_workOff 45 = .ok (.aload_n 0, 1) := by decide +kernel
theorem dX1_workOff_46 : decode cX1_workOff 46 = .ok (.getfield 24, 3) := by decide +kernel
theorem dX1_workOff_49 : decode cX1_workOff 49 = .ok (.iload 4, 2) := by decide +kernel
theorem dX1_workOff_51 : decode cX1_workOff 51 = .ok (.dup2, 1) := by decide +kernel
theorem dX1_workOff_52 : decode cX1_workOff 52 = .ok (.iaload, 1) := by decide +kernel
theorem dX1_workOff_53 : decode cX1_workOff 53 = .ok (.iload 5, 2) := by decide +kernel
theorem dX1_workOff_55 : decode cX1_workOff 55 = .ok (.isub, 1) := by decide +kernel
theorem dX1_workOff_56 : decode cX1_workOff 56 = .ok (.iastore, 1) := by decide +kernel
theorem dX1_workOff_57 : decode cX1_workOff 57 = .ok (.aload_n 0, 1) := by decide +kernel
theorem dX1_workOff_58 : decode cX1_workOff 58 = .ok (.getfield 24, 3) := by decide +kernel
theorem dX1_workOff_61 : decode cX1_workOff 61 = .ok (.iload 4, 2) := by decide +kernel
theorem dX1_workOff_63 : decode cX1_workOff 63 = .ok (.iaload, 1) := by decide +kernel
theorem dX1_workOff_64 : decode cX1_workOff 64 = .ok (.ifCond .ne 27, 3) := by decide +kernel
theorem dX1_workOff_67 : decode cX1_workOff 67 = .ok (.aload_n 0, 1) := by decide +kernel
theorem dX1_workOff_68 : decode cX1_workOff 68 = .ok (.aload_n 0, 1) := by decide +kernel
theorem dX1_workOff_69 : decode cX1_workOff 69 = .ok (.getfield 18, 3) := by decide +kernel
theorem dX1_workOff_72 : decode cX1_workOff 72 = .ok (.iload 4, 2) := by decide +kernel
theorem dX1_workOff_74 : decode cX1_workOff 74 = .ok (.iaload, 1) := by decide +kernel
theorem dX1_workOff_75 : decode cX1_workOff 75 = .ok (.aload_n 0, 1) := by decide +kernel
theorem dX1_workOff_76 : decode cX1_workOff 76 = .ok (.getfield 21, 3) := by decide +kernel
theorem dX1_workOff_79 : decode cX1_workOff 79 = .ok (.iload 4, 2) := by decide +kernel
theorem dX1_workOff_81 : decode cX1_workOff 81 = .ok (.iaload, 1) := by decide +kernel
theorem dX1_workOff_82 : decode cX1_workOff 82 = .ok (.invokevirtual 97, 3) := by decide +kernel
theorem dX1_workOff_85 : decode cX1_workOff 85 = .ok (.aload_n 0, 1) := by decide +kernel
theorem dX1_workOff_86 : decode cX1_workOff 86 = .ok (.iload 4, 2) := by decide +kernel
theorem dX1_workOff_88 : decode cX1_workOff 88 = .ok (.invokevirtual 101, 3) := by decide +kernel
theorem dX1_workOff_91 : decode cX1_workOff 91 = .ok (.iinc 3 1, 3) := by decide +kernel
theorem dX1_workOff_94 : decode cX1_workOff 94 = .ok (.goto (-90), 3) := by decide +kernel
theorem dX1_workOff_97 : decode cX1_workOff 97 = .ok (.return_, 1) := by decide +kernel
theorem dX1_firstDue_0 : decode cX1_firstDue 0 = .ok (.iconst 0, 1) := by decide +kernel
theorem dX1_firstDue_1 : decode cX1_firstDue 1 = .ok (.istore_n 1, 1) := by decide +kernel
theorem dX1_firstDue_2 : decode cX1_firstDue 2 = .ok (.iconst 1, 1) := by decide +kernel
theorem dX1_firstDue_3 : decode cX1_firstDue 3 = .ok (.istore_n 2, 1) := by decide +kernel
theorem dX1_firstDue_4 : decode cX1_firstDue 4 = .ok (.iload_n 2, 1) := by decide +kernel
theorem dX1_firstDue_5 : decode cX1_firstDue 5 = .ok (.aload_n 0, 1) := by decide +kernel
theorem dX1_firstDue_6 : decode cX1_firstDue 6 = .ok (.getfield 37, 3) := by decide +kernel
theorem dX1_firstDue_9 : decode cX1_firstDue 9 = .ok (.if_icmp .ge 26, 3) := by decide +kernel
theorem dX1_firstDue_12 : decode cX1_firstDue 12 = .ok (.aload_n 0, 1) := by decide +kernel
theorem dX1_firstDue_13 : decode cX1_firstDue 13 = .ok (.getfield 27, 3) := by decide +kernel
theorem dX1_firstDue_16 : decode cX1_firstDue 16 = .ok (.iload_n 2, 1) := by decide +kernel
theorem dX1_firstDue_17 : decode cX1_firstDue 17 = .ok (.iaload, 1) := by decide +kernel
theorem dX1_firstDue_18 : decode cX1_firstDue 18 = .ok (.aload_n 0, 1) := by decide +kernel
theorem dX1_firstDue_19 : decode cX1_firstDue 19 = .ok (.getfield 27, 3) := by decide +kernel
theorem dX1_firstDue_22 : decode cX1_firstDue 22 = .ok (.iload_n 1, 1) := by decide +kernel
theorem dX1_firstDue_23 : decode cX1_firstDue 23 = .ok (.iaload, 1) := by decide +kernel
theorem dX1_firstDue_24 : decode cX1_firstDue 24 = .ok (.if_icmp .ge 5, 3) := by decide +kernel
theorem dX1_firstDue_27 : decode cX1_firstDue 27 = .ok (.iload_n 2, 1) := by decide +kernel
theorem dX1_firstDue_28 : decode cX1_firstDue 28 = .ok (.istore_n 1, 1) := by decide +kernel
theorem dX1_firstDue_29 : decode cX1_firstDue 29 = .ok (.iinc 2 1, 3) := by decide +kernel
theorem dX1_firstDue_32 : decode cX1_firstDue 32 = .ok (.goto (-28), 3) := by decide +kernel
theorem dX1_firstDue_35 : decode cX1_firstDue 35 = .ok (.iload_n 1, 1) := by decide +kernel
theorem dX1_firstDue_36 : decode cX1_firstDue 36 = .ok (.ireturn, 1) := by decide +kernel
theorem dX1_failDueLoans_0 : decode cX1_failDueLoans 0 = .ok (.iconst 0, 1) := by decide +kernel
theorem dX1_failDueLoans_1 : decode cX1_failDueLoans 1 = .ok (.istore_n 1, 1) := by decide +kernel
theorem dX1_failDueLoans_2 : decode cX1_failDueLoans 2 = .ok (.iload_n 1, 1) := by decide +kernel
theorem dX1_failDueLoans_3 : decode cX1_failDueLoans 3 = .ok (.aload_n 0, 1) := by decide +kernel
theorem dX1_failDueLoans_4 : decode cX1_failDueLoans 4 = .ok (.getfield 37, 3) := by decide +kernel
theorem dX1_failDueLoans_7 : decode cX1_failDueLoans 7 = .ok (.if_icmp .ge 48, 3) := by decide +kernel
theorem dX1_failDueLoans_10 : decode cX1_failDueLoans 10 = .ok (.aload_n 0, 1) := by decide +kernel
theorem dX1_failDueLoans_11 : decode cX1_failDueLoans 11 = .ok (.getfield 27, 3) := by decide +kernel
theorem dX1_failDueLoans_14 : decode cX1_failDueLoans 14 = .ok (.iload_n 1, 1) := by decide +kernel
theorem dX1_failDueLoans_15 : decode cX1_failDueLoans 15 = .ok (.iaload, 1) := by decide +kernel
theorem dX1_failDueLoans_16 : decode cX1_failDueLoans 16 = .ok (.aload_n 0, 1) := by decide +kernel
theorem dX1_failDueLoans_17 : decode cX1_failDueLoans 17 = .ok (.getfield 33, 3) := by decide +kernel
theorem dX1_failDueLoans_20 : decode cX1_failDueLoans 20 = .ok (.if_icmp .gt 29, 3) := by decide +kernel
theorem dX1_failDueLoans_23 : decode cX1_failDueLoans 23 = .ok (.aload_n 0, 1) := by decide +kernel
theorem dX1_failDueLoans_24 : decode cX1_failDueLoans 24 = .ok (.getfield 30, 3) := by decide +kernel
theorem dX1_failDueLoans_27 : decode cX1_failDueLoans 27 = .ok (.iload_n 1, 1) := by decide +kernel
theorem dX1_failDueLoans_28 : decode cX1_failDueLoans 28 = .ok (.iaload, 1) := by decide +kernel
theorem dX1_failDueLoans_29 : decode cX1_failDueLoans 29 = .ok (.ifCond .ne 20, 3) := by decide +kernel
theorem dX1_failDueLoans_32 : decode cX1_failDueLoans 32 = .ok (.aload_n 0, 1) := by decide +kernel
theorem dX1_failDueLoans_33 : decode cX1_failDueLoans 33 = .ok (.getfield 30, 3) := by decide +kernel
theorem dX1_failDueLoans_36 : decode cX1_failDueLoans 36 = .ok (.iload_n 1, 1) := by decide +kernel
theorem dX1_failDueLoans_37 : decode cX1_failDueLoans 37 = .ok (.iconst 1, 1) := by decide +kernel
theorem dX1_failDueLoans_38 : decode cX1_failDueLoans 38 = .ok (.iastore, 1) := by decide +kernel
theorem dX1_failDueLoans_39 : decode cX1_failDueLoans 39 = .ok (.aload_n 0, 1) := by decide +kernel
theorem dX1_failDueLoans_40 : decode cX1_failDueLoans 40 = .ok (.dup, 1) := by decide +kernel
theorem dX1_failDueLoans_41 : decode cX1_failDueLoans 41 = .ok (.getfield 40, 3) := by decide +kernel
theorem dX1_failDueLoans_44 : decode cX1_failDueLoans 44 = .ok (.iconst 1, 1) := by decide +kernel
theorem dX1_failDueLoans_45 : decode cX1_failDueLoans 45 = .ok (.iadd, 1) := by decide +kernel
theorem dX1_failDueLoans_46 : decode cX1_failDueLoans 46 = .ok (.putfield 40, 3) := by decide +kernel
theorem dX1_failDueLoans_49 : decode cX1_failDueLoans 49 = .ok (.iinc 1 1, 3) := by decide +kernel
theorem dX1_failDueLoans_52 : decode cX1_failDueLoans 52 = .ok (.goto (-50), 3) := by decide +kernel
theorem dX1_failDueLoans_55 : decode cX1_failDueLoans 55 = .ok (.return_, 1) := by decide +kernel
theorem dX1_removeLoan_0 : decode cX1_removeLoan 0 = .ok (.iload_n 1, 1) := by decide +kernel
theorem dX1_removeLoan_1 : decode cX1_removeLoan 1 = .ok (.istore_n 2, 1) := by decide +kernel
theorem dX1_removeLoan_2 : decode cX1_removeLoan 2 = .ok (.iload_n 2, 1) := by decide +kernel
theorem dX1_removeLoan_3 : decode cX1_removeLoan 3 = .ok (.aload_n 0, 1) := by decide +kernel
theorem dX1_removeLoan_4 : decode cX1_removeLoan 4 = .ok (.getfield 37, 3) := by decide +kernel
theorem dX1_removeLoan_7 : decode cX1_removeLoan 7 = .ok (.iconst 1, 1) := by decide +kernel
theorem dX1_removeLoan_8 : decode cX1_removeLoan 8 = .ok (.isub, 1) := by decide +kernel
theorem dX1_removeLoan_9 : decode cX1_removeLoan 9 = .ok (.if_icmp .ge 79, 3) := by decide +kernel
theorem dX1_removeLoan_12 : decode cX1_removeLoan 12 = .ok (.aload_n 0, 1) := by decide +kernel
theorem dX1_removeLoan_13 : decode cX1_removeLoan 13 = .ok (.getfield 18, 3) := by decide +kernel
theorem dX1_removeLoan_16 : decode cX1_removeLoan 16 = .ok (.iload_n 2, 1) := by decide +kernel
theorem dX1_removeLoan_17 : decode cX1_removeLoan 17 = .ok (.aload_n 0, 1) := by decide +kernel
theorem dX1_removeLoan_18 : decode cX1_removeLoan 18 = .ok (.getfield 18, 3) := by decide +kernel
theorem dX1_removeLoan_21 : decode cX1_removeLoan 21 = .ok (.iload_n 2, 1) := by decide +kernel
theorem dX1_removeLoan_22 : decode cX1_removeLoan 22 = .ok (.iconst 1, 1) := by decide +kernel
theorem dX1_removeLoan_23 : decode cX1_removeLoan 23 = .ok (.iadd, 1) := by decide +kernel
theorem dX1_removeLoan_24 : decode cX1_removeLoan 24 = .ok (.iaload, 1) := by decide +kernel
theorem dX1_removeLoan_25 : decode cX1_removeLoan 25 = .ok (.iastore, 1) := by decide +kernel
theorem dX1_removeLoan_26 : decode cX1_removeLoan 26 = .ok (.aload_n 0, 1) := by decide +kernel
theorem dX1_removeLoan_27 : decode cX1_removeLoan 27 = .ok (.getfield 21, 3) := by decide +kernel
theorem dX1_removeLoan_30 : decode cX1_removeLoan 30 = .ok (.iload_n 2, 1) := by decide +kernel
theorem dX1_removeLoan_31 : decode cX1_removeLoan 31 = .ok (.aload_n 0, 1) := by decide +kernel
theorem dX1_removeLoan_32 : decode cX1_removeLoan 32 = .ok (.getfield 21, 3) := by decide +kernel
theorem dX1_removeLoan_35 : decode cX1_removeLoan 35 = .ok (.iload_n 2, 1) := by decide +kernel
theorem dX1_removeLoan_36 : decode cX1_removeLoan 36 = .ok (.iconst 1, 1) := by decide +kernel
theorem dX1_removeLoan_37 : decode cX1_removeLoan 37 = .ok (.iadd, 1) := by decide +kernel
theorem dX1_removeLoan_38 : decode cX1_removeLoan 38 = .ok (.iaload, 1) := by decide +kernel
theorem dX1_removeLoan_39 : decode cX1_removeLoan 39 = .ok (.iastore, 1) := by decide +kernel
theorem dX1_removeLoan_40 : decode cX1_removeLoan 40 = .ok (.aload_n 0, 1) := by decide +kernel
theorem dX1_removeLoan_41 : decode cX1_removeLoan 41 = .ok (.getfield 24, 3) := by decide +kernel
theorem dX1_removeLoan_44 : decode cX1_removeLoan 44 = .ok (.iload_n 2, 1) := by decide +kernel
theorem dX1_removeLoan_45 : decode cX1_removeLoan 45 = .ok (.aload_n 0, 1) := by decide +kernel
theorem dX1_removeLoan_46 : decode cX1_removeLoan 46 = .ok (.getfield 24, 3) := by decide +kernel
theorem dX1_removeLoan_49 : decode cX1_removeLoan 49 = .ok (.iload_n 2, 1) := by decide +kernel
theorem dX1_removeLoan_50 : decode cX1_removeLoan 50 = .ok (.iconst 1, 1) := by decide +kernel
theorem dX1_removeLoan_51 : decode cX1_removeLoan 51 = .ok (.iadd, 1) := by decide +kernel
theorem dX1_removeLoan_52 : decode cX1_removeLoan 52 = .ok (.iaload, 1) := by decide +kernel
theorem dX1_removeLoan_53 : decode cX1_removeLoan 53 = .ok (.iastore, 1) := by decide +kernel
theorem dX1_removeLoan_54 : decode cX1_removeLoan 54 = .ok (.aload_n 0, 1) := by decide +kernel
theorem dX1_removeLoan_55 : decode cX1_removeLoan 55 = .ok (.getfield 27, 3) := by decide +kernel
theorem dX1_removeLoan_58 : decode cX1_removeLoan 58 = .ok (.iload_n 2, 1) := by decide +kernel
theorem dX1_removeLoan_59 : decode cX1_removeLoan 59 = .ok (.aload_n 0, 1) := by decide +kernel
theorem dX1_removeLoan_60 : decode cX1_removeLoan 60 = .ok (.getfield 27, 3) := by decide +kernel
theorem dX1_removeLoan_63 : decode cX1_removeLoan 63 = .ok (.iload_n 2, 1) := by decide +kernel
theorem dX1_removeLoan_64 : decode cX1_removeLoan 64 = .ok (.iconst 1, 1) := by decide +kernel
theorem dX1_removeLoan_65 : decode cX1_removeLoan 65 = .ok (.iadd, 1) := by decide +kernel
theorem dX1_removeLoan_66 : decode cX1_removeLoan 66 = .ok (.iaload, 1) := by decide +kernel
theorem dX1_removeLoan_67 : decode cX1_removeLoan 67 = .ok (.iastore, 1) := by decide +kernel
theorem dX1_removeLoan_68 : decode cX1_removeLoan 68 = .ok (.aload_n 0, 1) := by decide +kernel
theorem dX1_removeLoan_69 : decode cX1_removeLoan 69 = .ok (.getfield 30, 3) := by decide +kernel
theorem dX1_removeLoan_72 : decode cX1_removeLoan 72 = .ok (.iload_n 2, 1) := by decide +kernel
theorem dX1_removeLoan_73 : decode cX1_removeLoan 73 = .ok (.aload_n 0, 1) := by decide +kernel
theorem dX1_removeLoan_74 : decode cX1_removeLoan 74 = .ok (.getfield 30, 3) := by decide +kernel
theorem dX1_removeLoan_77 : decode cX1_removeLoan 77 = .ok (.iload_n 2, 1) := by decide +kernel
theorem dX1_removeLoan_78 : decode cX1_removeLoan 78 = .ok (.iconst 1, 1) := by decide +kernel
theorem dX1_removeLoan_79 : decode cX1_removeLoan 79 = .ok (.iadd, 1) := by decide +kernel
theorem dX1_removeLoan_80 : decode cX1_removeLoan 80 = .ok (.iaload, 1) := by decide +kernel
theorem dX1_removeLoan_81 : decode cX1_removeLoan 81 = .ok (.iastore, 1) := by decide +kernel
theorem dX1_removeLoan_82 : decode cX1_removeLoan 82 = .ok (.iinc 2 1, 3) := by decide +kernel
theorem dX1_removeLoan_85 : decode cX1_removeLoan 85 = .ok (.goto (-83), 3) := by decide +kernel
theorem dX1_removeLoan_88 : decode cX1_removeLoan 88 = .ok (.aload_n 0, 1) := by decide +kernel
theorem dX1_removeLoan_89 : decode cX1_removeLoan 89 = .ok (.dup, 1) := by decide +kernel
theorem dX1_removeLoan_90 : decode cX1_removeLoan 90 = .ok (.getfield 37, 3) := by decide +kernel
theorem dX1_removeLoan_93 : decode cX1_removeLoan 93 = .ok (.iconst 1, 1) := by decide +kernel
theorem dX1_removeLoan_94 : decode cX1_removeLoan 94 = .ok (.isub, 1) := by decide +kernel
theorem dX1_removeLoan_95 : decode cX1_removeLoan 95 = .ok (.putfield 37, 3) := by decide +kernel
theorem dX1_removeLoan_98 : decode cX1_removeLoan 98 = .ok (.return_, 1) := by decide +kernel
set_option maxRecDepth 20000 in
theorem ggX1_burn_X1_removeLoansOf : GoodIn wsX1_burn wsX1_removeLoansOf := goodIn_r _ [8, 9, 10, 11, 12, 13, 7, 14, 15, 16, 17, 18, 29, 30, 31, 32, 33, 34, 35, 36, 37, 38] (by decide +kernel) (by decide +kernel)
set_option maxRecDepth 20000 in
theorem gX1_burn_X1_removeLoansOf : GoodIn wsX1_burn (wsV RX1 110 RX1 yX1_removeLoansOf wsX1_removeLoansOf) := goodIn_app (goodIn_of _ (by decide +kernel)) ggX1_burn_X1_removeLoansOf
theorem dX1_burn_0 : decode cX1_burn 0 = .ok (.iconst 0, 1) := by decide +kernel
theorem dX1_burn_1 : decode cX1_burn 1 = .ok (.istore_n 3, 1) := by decide +kernel
theorem dX1_burn_2 : decode cX1_burn 2 = .ok (.iconst 0, 1) := by decide +kernel
theorem dX1_burn_3 : decode cX1_burn 3 = .ok (.istore 4, 2) := by decide +kernel
theorem dX1_burn_5 : decode cX1_burn 5 = .ok (.iload 4, 2) := by decide +kernel
theorem dX1_burn_7 : decode cX1_burn 7 = .ok (.aload_n 1, 1) := by decide +kernel
theorem dX1_burn_8 : decode cX1_burn 8 = .ok (.getfield 104, 3) := by decide +kernel
theorem dX1_burn_11 : decode cX1_burn 11 = .ok (.if_icmp .ge 47, 3) := by decide +kernel
theorem dX1_burn_14 : decode cX1_burn 14 = .ok (.aload_n 1, 1) := by decide +kernel
theorem dX1_burn_15 : decode cX1_burn 15 = .ok (.getfield 107, 3) := by decide +kernel
theorem dX1_burn_18 : decode cX1_burn 18 = .ok (.iload 4, 2) := by decide +kernel
theorem dX1_burn_20 : decode cX1_burn 20 = .ok (.iaload, 1) := by decide +kernel
theorem dX1_burn_21 : decode cX1_burn 21 = .ok (.iload_n 2, 1) := by decide +kernel
theorem dX1_burn_22 : decode cX1_burn 22 = .ok (.if_icmp .ne 30, 3) := by decide +kernel
theorem dX1_burn_25 : decode cX1_burn 25 = .ok (.aload_n 0, 1) := by decide +kernel
theorem dX1_burn_26 : decode cX1_burn 26 = .ok (.getfield 15, 3) := by decide +kernel
theorem dX1_burn_29 : decode cX1_burn 29 = .ok (.iload 4, 2) := by decide +kernel
theorem dX1_burn_31 : decode cX1_burn 31 = .ok (.iaload, 1) := by decide +kernel
theorem dX1_burn_32 : decode cX1_burn 32 = .ok (.ifCond .ne 20, 3) := by decide +kernel
theorem dX1_burn_35 : decode cX1_burn 35 = .ok (.aload_n 0, 1) := by decide +kernel
theorem dX1_burn_36 : decode cX1_burn 36 = .ok (.getfield 15, 3) := by decide +kernel
theorem dX1_burn_39 : decode cX1_burn 39 = .ok (.iload 4, 2) := by decide +kernel
theorem dX1_burn_41 : decode cX1_burn 41 = .ok (.iconst 1, 1) := by decide +kernel
theorem dX1_burn_42 : decode cX1_burn 42 = .ok (.iastore, 1) := by decide +kernel
theorem dX1_burn_43 : decode cX1_burn 43 = .ok (.aload_n 0, 1) := by decide +kernel
theorem dX1_burn_44 : decode cX1_burn 44 = .ok (.iload 4, 2) := by decide +kernel
theorem dX1_burn_46 : decode cX1_burn 46 = .ok (.invokevirtual 110, 3) := by decide +kernel
theorem dX1_burn_49 : decode cX1_burn 49 = .ok (.iinc 3 1, 3) := by decide +kernel
theorem dX1_burn_52 : decode cX1_burn 52 = .ok (.iinc 4 1, 3) := by decide +kernel
theorem dX1_burn_55 : decode cX1_burn 55 = .ok (.goto (-50), 3) := by decide +kernel
theorem dX1_burn_58 : decode cX1_burn 58 = .ok (.iload_n 3, 1) := by decide +kernel
theorem dX1_burn_59 : decode cX1_burn 59 = .ok (.ireturn, 1) := by decide +kernel
set_option maxRecDepth 20000 in
theorem ggX1_removeLoansOf_X1_removeLoan : GoodIn wsX1_removeLoansOf wsX1_removeLoan := goodIn_r _ [7, 1, 2, 8, 9, 10, 11, 12, 13, 14, 15, 16, 17, 18, 19, 20, 21] (by decide +kernel) (by decide +kernel)
set_option maxRecDepth 20000 in
theorem gX1_removeLoansOf_X1_removeLoan : GoodIn wsX1_removeLoansOf (wsV RX1 101 RX1 yX1_removeLoan wsX1_removeLoan) := goodIn_app (goodIn_of _ (by decide +kernel)) ggX1_removeLoansOf_X1_removeLoan
theorem dX1_removeLoansOf_0 : decode cX1_removeLoansOf 0 = .ok (.aload_n 0, 1) := by decide +kernel
theorem dX1_removeLoansOf_1 : decode cX1_removeLoansOf 1 = .ok (.getfield 37, 3) := by decide +kernel
theorem dX1_removeLoansOf_4 : decode cX1_removeLoansOf 4 = .ok (.iconst 1, 1) := by decide +kernel
theorem dX1_removeLoansOf_5 : decode cX1_removeLoansOf 5 = .ok (.isub, 1) := by decide +kernel
theorem dX1_removeLoansOf_6 : decode cX1_removeLoansOf 6 = .ok (.istore_n 2, 1) := by decide +kernel
theorem dX1_removeLoansOf_7 : decode cX1_removeLoansOf 7 = .ok (.iload_n 2, 1) := by decide +kernel
theorem dX1_removeLoansOf_8 : decode cX1_removeLoansOf 8 = .ok (.ifCond .lt 24, 3) := by decide +kernel
theorem dX1_removeLoansOf_11 : decode cX1_removeLoansOf 11 = .ok (.aload_n 0, 1) := by decide +kernel
theorem dX1_removeLoansOf_12 : decode cX1_removeLoansOf 12 = .ok (.getfield 18, 3) := by decide +kernel
theorem dX1_removeLoansOf_15 : decode cX1_removeLoansOf 15 = .ok (.iload_n 2, 1) := by decide +kernel
theorem dX1_removeLoansOf_16 : decode cX1_removeLoansOf 16 = .ok (.iaload, 1) := by decide +kernel
theorem dX1_removeLoansOf_17 : decode cX1_removeLoansOf 17 = .ok (.iload_n 1, 1) := by decide +kernel
theorem dX1_removeLoansOf_18 : decode cX1_removeLoansOf 18 = .ok (.if_icmp .ne 8, 3) := by decide +kernel
theorem dX1_removeLoansOf_21 : decode cX1_removeLoansOf 21 = .ok (.aload_n 0, 1) := by decide +kernel
theorem dX1_removeLoansOf_22 : decode cX1_removeLoansOf 22 = .ok (.iload_n 2, 1) := by decide +kernel
theorem dX1_removeLoansOf_23 : decode cX1_removeLoansOf 23 = .ok (.invokevirtual 101, 3) := by decide +kernel
theorem dX1_removeLoansOf_26 : decode cX1_removeLoansOf 26 = .ok (.iinc 2 (-1), 3) := by decide +kernel
theorem dX1_removeLoansOf_29 : decode cX1_removeLoansOf 29 = .ok (.goto (-22), 3) := by decide +kernel
theorem dX1_removeLoansOf_32 : decode cX1_removeLoansOf 32 = .ok (.return_, 1) := by decide +kernel
set_option maxRecDepth 20000 in
theorem ggX1_handOver_X1_addBranches : GoodIn wsX1_handOver wsX1_addBranches := goodIn_r _ [9, 3, 10, 11, 12, 13, 14, 15, 16, 17, 18, 19, 20, 21, 22, 23] (by decide +kernel) (by decide +kernel)
set_option maxRecDepth 20000 in
theorem gX1_handOver_X1_addBranches : GoodIn wsX1_handOver (wsV RX1 97 RX1 yX1_addBranches wsX1_addBranches) := goodIn_app (goodIn_of _ (by decide +kernel)) ggX1_handOver_X1_addBranches
theorem dX1_handOver_0 : decode cX1_handOver 0 = .ok (.iconst 0, 1) := by decide +kernel
theorem dX1_handOver_1 : decode cX1_handOver 1 = .ok (.istore_n 3, 1) := by decide +kernel
theorem dX1_handOver_2 : decode cX1_handOver 2 = .ok (.iconst 0, 1) := by decide +kernel
theorem dX1_handOver_3 : decode cX1_handOver 3 = .ok (.istore 4, 2) := by decide +kernel
theorem dX1_handOver_5 : decode cX1_handOver 5 = .ok (.iload 4, 2) := by decide +kernel
theorem dX1_handOver_7 : decode cX1_handOver 7 = .ok (.aload_n 0, 1) := by decide +kernel
theorem dX1_handOver_8 : decode cX1_handOver 8 = .ok (.getfield 37, 3) := by decide +kernel
theorem dX1_handOver_11 : decode cX1_handOver 11 = .ok (.if_icmp .ge 31, 3) := by decide +kernel
theorem dX1_handOver_14 : decode cX1_handOver 14 = .ok (.aload_n 0, 1) := by decide +kernel
theorem dX1_handOver_15 : decode cX1_handOver 15 = .ok (.getfield 18, 3) := by decide +kernel
theorem dX1_handOver_18 : decode cX1_handOver 18 = .ok (.iload 4, 2) := by decide +kernel
theorem dX1_handOver_20 : decode cX1_handOver 20 = .ok (.iaload, 1) := by decide +kernel
theorem dX1_handOver_21 : decode cX1_handOver 21 = .ok (.iload_n 1, 1) := by decide +kernel
theorem dX1_handOver_22 : decode cX1_handOver 22 = .ok (.if_icmp .ne 14, 3) := by decide +kernel
theorem dX1_handOver_25 : decode cX1_handOver 25 = .ok (.aload_n 0, 1) := by decide +kernel
theorem dX1_handOver_26 : decode cX1_handOver 26 = .ok (.getfield 18, 3) := by decide +kernel
theorem dX1_handOver_29 : decode cX1_handOver 29 = .ok (.iload 4, 2) := by decide +kernel
theorem dX1_handOver_31 : decode cX1_handOver 31 = .ok (.iload_n 2, 1) := by decide +kernel
theorem dX1_handOver_32 : decode cX1_handOver 32 = .ok (.iastore, 1) := by decide +kernel
theorem dX1_handOver_33 : decode cX1_handOver 33 = .ok (.iinc 3 1, 3) := by decide +kernel
theorem dX1_handOver_36 : decode cX1_handOver 36 = .ok (.iinc 4 1, 3) := by decide +kernel
theorem dX1_handOver_39 : decode cX1_handOver 39 = .ok (.goto (-34), 3) := by decide +kernel
theorem dX1_handOver_42 : decode cX1_handOver 42 = .ok (.aload_n 0, 1) := by decide +kernel
theorem dX1_handOver_43 : decode cX1_handOver 43 = .ok (.iload_n 2, 1) := by decide +kernel
theorem dX1_handOver_44 : decode cX1_handOver 44 = .ok (.aload_n 0, 1) := by decide +kernel
theorem dX1_handOver_45 : decode cX1_handOver 45 = .ok (.getfield 9, 3) := by decide +kernel
theorem dX1_handOver_48 : decode cX1_handOver 48 = .ok (.iload_n 1, 1) := by decide +kernel
theorem dX1_handOver_49 : decode cX1_handOver 49 = .ok (.iaload, 1) := by decide +kernel
theorem dX1_handOver_50 : decode cX1_handOver 50 = .ok (.invokevirtual 97, 3) := by decide +kernel
theorem dX1_handOver_53 : decode cX1_handOver 53 = .ok (.aload_n 0, 1) := by decide +kernel
theorem dX1_handOver_54 : decode cX1_handOver 54 = .ok (.getfield 9, 3) := by decide +kernel
theorem dX1_handOver_57 : decode cX1_handOver 57 = .ok (.iload_n 1, 1) := by decide +kernel
theorem dX1_handOver_58 : decode cX1_handOver 58 = .ok (.iconst 0, 1) := by decide +kernel
theorem dX1_handOver_59 : decode cX1_handOver 59 = .ok (.iastore, 1) := by decide +kernel
theorem dX1_handOver_60 : decode cX1_handOver 60 = .ok (.aload_n 0, 1) := by decide +kernel
theorem dX1_handOver_61 : decode cX1_handOver 61 = .ok (.getfield 15, 3) := by decide +kernel
theorem dX1_handOver_64 : decode cX1_handOver 64 = .ok (.iload_n 1, 1) := by decide +kernel
theorem dX1_handOver_65 : decode cX1_handOver 65 = .ok (.iconst 2, 1) := by decide +kernel
theorem dX1_handOver_66 : decode cX1_handOver 66 = .ok (.iastore, 1) := by decide +kernel
theorem dX1_handOver_67 : decode cX1_handOver 67 = .ok (.iload_n 3, 1) := by decide +kernel
theorem dX1_handOver_68 : decode cX1_handOver 68 = .ok (.ireturn, 1) := by decide +kernel
set_option maxRecDepth 20000 in
theorem ggX1_partsWithLoans_J6_bitCount_0f7a4 : GoodIn wsX1_partsWithLoans wsJ6_bitCount_0f7a4 := goodIn_r _ [7, 8, 9, 10] (by decide +kernel) (by decide +kernel)
set_option maxRecDepth 20000 in
theorem gX1_partsWithLoans_J6_bitCount_0f7a4 : GoodIn wsX1_partsWithLoans (va_wsS RX1 113 yJ6_bitCount_0f7a4 wsJ6_bitCount_0f7a4) := goodIn_app (goodIn_of _ (by decide +kernel)) ggX1_partsWithLoans_J6_bitCount_0f7a4
theorem dX1_partsWithLoans_0 : decode cX1_partsWithLoans 0 = .ok (.iconst 0, 1) := by decide +kernel
theorem dX1_partsWithLoans_1 : decode cX1_partsWithLoans 1 = .ok (.istore_n 2, 1) := by decide +kernel
theorem dX1_partsWithLoans_2 : decode cX1_partsWithLoans 2 = .ok (.iconst 0, 1) := by decide +kernel
theorem dX1_partsWithLoans_3 : decode cX1_partsWithLoans 3 = .ok (.istore_n 3, 1) := by decide +kernel
theorem dX1_partsWithLoans_4 : decode cX1_partsWithLoans 4 = .ok (.iload_n 3, 1) := by decide +kernel
theorem dX1_partsWithLoans_5 : decode cX1_partsWithLoans 5 = .ok (.aload_n 0, 1) := by decide +kernel
theorem dX1_partsWithLoans_6 : decode cX1_partsWithLoans 6 = .ok (.getfield 37, 3) := by decide +kernel
theorem dX1_partsWithLoans_9 : decode cX1_partsWithLoans 9 = .ok (.if_icmp .ge 25, 3) := by decide +kernel
theorem dX1_partsWithLoans_12 : decode cX1_partsWithLoans 12 = .ok (.iload_n 2, 1) := by decide +kernel
theorem dX1_partsWithLoans_13 : decode cX1_partsWithLoans 13 = .ok (.iconst 1, 1) := by decide +kernel
theorem dX1_partsWithLoans_14 : decode cX1_partsWithLoans 14 = .ok (.aload_n 1, 1) := by decide +kernel
theorem dX1_partsWithLoans_15 : decode cX1_partsWithLoans 15 = .ok (.getfield 107, 3) := by decide +kernel
theorem dX1_partsWithLoans_18 : decode cX1_partsWithLoans 18 = .ok (.aload_n 0, 1) := by decide +kernel
theorem dX1_partsWithLoans_19 : decode cX1_partsWithLoans 19 = .ok (.getfield 18, 3) := by decide +kernel
theorem dX1_partsWithLoans_22 : decode cX1_partsWithLoans 22 = .ok (.iload_n 3, 1) := by decide +kernel
theorem dX1_partsWithLoans_23 : decode cX1_partsWithLoans 23 = .ok (.iaload, 1) := by decide +kernel
theorem dX1_partsWithLoans_24 : decode cX1_partsWithLoans 24 = .ok (.iaload, 1) := by decide +kernel
theorem dX1_partsWithLoans_25 : decode cX1_partsWithLoans 25 = .ok (.ishl, 1) := by decide +kernel
theorem dX1_partsWithLoans_26 : decode cX1_partsWithLoans 26 = .ok (.ior, 1) := by decide +kernel
theorem dX1_partsWithLoans_27 : decode cX1_partsWithLoans 27 = .ok (.istore_n 2, 1) := by decide +kernel
theorem dX1_partsWithLoans_28 : decode cX1_partsWithLoans 28 = .ok (.iinc 3 1, 3) := by decide +kernel
theorem dX1_partsWithLoans_31 : decode cX1_partsWithLoans 31 = .ok (.goto (-27), 3) := by decide +kernel
theorem dX1_partsWithLoans_34 : decode cX1_partsWithLoans 34 = .ok (.iload_n 2, 1) := by decide +kernel
theorem dX1_partsWithLoans_35 : decode cX1_partsWithLoans 35 = .ok (.invokestatic 113, 3) := by decide +kernel
theorem dX1_partsWithLoans_38 : decode cX1_partsWithLoans 38 = .ok (.ireturn, 1) := by decide +kernel
set_option maxRecDepth 20000 in
theorem ggX2_init_X3_init : GoodIn wsX2_init wsX3_init := goodIn_r _ [11, 12, 2, 3, 4, 13, 14, 15, 16, 17, 18, 19, 20, 29, 30, 31, 32, 33, 34, 35, 36, 37, 38] (by decide +kernel) (by decide +kernel)
set_option maxRecDepth 20000 in
theorem gX2_init_X3_init_n17 : GoodIn wsX2_init (wsX3_init) := ggX2_init_X3_init
theorem dX2_init_0 : decode cX2_init 0 = .ok (.aload_n 0, 1) := by decide +kernel
theorem dX2_init_1 : decode cX2_init 1 = .ok (.invokespecial 3, 3) := by decide +kernel
theorem dX2_init_4 : decode cX2_init 4 = .ok (.aload_n 0, 1) := by decide +kernel
theorem dX2_init_5 : decode cX2_init 5 = .ok (.sipush 200, 3) := by decide +kernel
theorem dX2_init_8 : decode cX2_init 8 = .ok (.newarray .int, 2) := by decide +kernel
theorem dX2_init_10 : decode cX2_init 10 = .ok (.putfield 9, 3) := by decide +kernel
theorem dX2_init_13 : decode cX2_init 13 = .ok (.aload_n 0, 1) := by decide +kernel
theorem dX2_init_14 : decode cX2_init 14 = .ok (.new 15, 3) := by decide +kernel
theorem dX2_init_17 : decode cX2_init 17 = .ok (.dup, 1) := by decide +kernel
theorem dX2_init_18 : decode cX2_init 18 = .ok (.invokespecial 17, 3) := by decide +kernel
theorem dX2_init_21 : decode cX2_init 21 = .ok (.putfield 18, 3) := by decide +kernel
theorem dX2_init_24 : decode cX2_init 24 = .ok (.return_, 1) := by decide +kernel
theorem dX2_add_0 : decode cX2_add 0 = .ok (.aload_n 0, 1) := by decide +kernel
theorem dX2_add_1 : decode cX2_add 1 = .ok (.getfield 22, 3) := by decide +kernel
theorem dX2_add_4 : decode cX2_add 4 = .ok (.sipush 200, 3) := by decide +kernel
theorem dX2_add_7 : decode cX2_add 7 = .ok (.if_icmp .lt 4, 3) := by decide +kernel
theorem dX2_add_10 : decode cX2_add 10 = .ok (.return_, 1) := by decide +kernel
theorem dX2_add_11 : decode cX2_add 11 = .ok (.aload_n 0, 1) := by decide +kernel
theorem dX2_add_12 : decode cX2_add 12 = .ok (.getfield 9, 3) := by decide +kernel
theorem dX2_add_15 : decode cX2_add 15 = .ok (.aload_n 0, 1) := by decide +kernel
theorem dX2_add_16 : decode cX2_add 16 = .ok (.getfield 22, 3) := by decide +kernel
theorem dX2_add_19 : decode cX2_add 19 = .ok (.iload_n 1, 1) := by decide +kernel
theorem dX2_add_20 : decode cX2_add 20 = .ok (.iastore, 1) := by decide +kernel
theorem dX2_add_21 : decode cX2_add 21 = .ok (.aload_n 0, 1) := by decide +kernel
theorem dX2_add_22 : decode cX2_add 22 = .ok (.dup, 1) := by decide +kernel
theorem dX2_add_23 : decode cX2_add 23 = .ok (.getfield 22, 3) := by decide +kernel
theorem dX2_add_26 : decode cX2_add 26 = .ok (.iconst 1, 1) := by decide +kernel
theorem dX2_add_27 : decode cX2_add 27 = .ok (.iadd, 1) := by decide +kernel
theorem dX2_add_28 : decode cX2_add 28 = .ok (.putfield 22, 3) := by decide +kernel
theorem dX2_add_31 : decode cX2_add 31 = .ok (.return_, 1) := by decide +kernel
set_option maxRecDepth 20000 in
theorem ggX2_read_X3_copyFrom : GoodIn wsX2_read wsX3_copyFrom := goodIn_r _ [10, 11, 12, 13, 14, 15, 16, 17, 18, 19, 20, 21, 22, 23, 24, 152, 153, 154, 155, 156, 157, 158, 159, 160, 161] (by decide +kernel) (by decide +kernel)
set_option maxRecDepth 20000 in
theorem gX2_read_X3_copyFrom : GoodIn wsX2_read (wsV RX2 26 RX3 yX3_copyFrom wsX3_copyFrom) := goodIn_app (goodIn_of _ (by decide +kernel)) ggX2_read_X3_copyFrom
set_option maxRecDepth 20000 in
theorem ggX2_read_X2_nextToken : GoodIn wsX2_read wsX2_nextToken := goodIn_r _ [29, 3, 4, 30, 31, 5, 32, 33, 28, 34, 35, 36, 37, 38, 39, 40, 41, 42, 144, 145, 146, 147, 148, 149, 150, 151] (by decide +kernel) (by decide +kernel)
set_option maxRecDepth 20000 in
theorem gX2_read_X2_nextToken : GoodIn wsX2_read (wsV RX2 36 RX2 yX2_nextToken wsX2_nextToken) := goodIn_app (goodIn_of _ (by decide +kernel)) ggX2_read_X2_nextToken
set_option maxRecDepth 20000 in
theorem ggX2_read_X2_readLine : GoodIn wsX2_read wsX2_readLine := goodIn_r _ [46, 5, 47, 48, 49, 28, 50, 3, 4, 31, 51, 52, 53, 54, 55, 56, 57, 58, 59, 60, 61, 62, 63, 64, 65, 66, 67, 68, 69, 70, 71, 72, 73, 74, 75, 76, 77, 78, 79, 80, 81, 82, 83, 84, 85, 86, 87, 88, 89, 90, 91, 92, 93, 94, 95, 96, 97, 98, 99, 100, 101, 102, 103, 1, 104, 105, 106, 9, 107, 11, 21, 24, 25, 26, 27, 29, 30, 32, 33, 34, 35, 36, 37, 38, 39, 40, 41, 42, 108, 109, 110, 111, 112, 113, 114, 115, 116, 117, 118, 119, 120, 12, 17, 18, 19, 20, 121, 122, 123, 124, 125, 126, 127, 128, 129, 130, 131, 132, 133, 134, 22, 23, 135, 136, 137, 138, 139, 144, 145, 146, 147, 148, 149, 150, 151, 152, 153, 154, 155, 156, 157, 158, 159, 160, 161] (by decide +kernel) (by decide +kernel)
set_option maxRecDepth 20000 in
theorem gX2_read_X2_readLine : GoodIn wsX2_read (wsV RX2 39 RX2 yX2_readLine wsX2_readLine) := goodIn_app (goodIn_of _ (by decide +kernel)) ggX2_read_X2_readLine
set_option maxRecDepth 20000 in
theorem ggX2_read_X2_isAtSemicolon : GoodIn wsX2_read wsX2_isAtSemicolon := goodIn_r _ [143, 5, 31, 4, 144, 145, 146, 147, 148, 149, 150, 151] (by decide +kernel) (by decide +kernel)
set_option maxRecDepth 20000 in
theorem gX2_read_X2_isAtSemicolon : GoodIn wsX2_read (wsV RX2 49 RX2 yX2_isAtSemicolon wsX2_isAtSemicolon) := goodIn_app (goodIn_of _ (by decide +kernel)) ggX2_read_X2_isAtSemicolon
theorem dX2_read_0 : decode cX2_read 0 = .ok (.aload_n 0, 1) := by decide +kernel
theorem dX2_read_1 : decode cX2_read 1 = .ok (.getfield 18, 3) := by decide +kernel
theorem dX2_read_4 : decode cX2_read 4 = .ok (.aload_n 1, 1) := by decide +kernel
theorem dX2_read_5 : decode cX2_read 5 = .ok (.invokevirtual 26, 3) := by decide +kernel
theorem dX2_read_8 : decode cX2_read 8 = .ok (.aload_n 0, 1) := by decide +kernel
theorem dX2_read_9 : decode cX2_read 9 = .ok (.iconst 0, 1) := by decide +kernel
theorem dX2_read_10 : decode cX2_read 10 = .ok (.putfield 30, 3) := by decide +kernel
theorem dX2_read_13 : decode cX2_read 13 = .ok (.aload_n 0, 1) := by decide +kernel
theorem dX2_read_14 : decode cX2_read 14 = .ok (.iconst 0, 1) := by decide +kernel
theorem dX2_read_15 : decode cX2_read 15 = .ok (.putfield 33, 3) := by decide +kernel
theorem dX2_read_18 : decode cX2_read 18 = .ok (.aload_n 0, 1) := by decide +kernel
theorem dX2_read_19 : decode cX2_read 19 = .ok (.invokevirtual 36, 3) := by decide +kernel
theorem dX2_read_22 : decode cX2_read 22 = .ok (.iconst 0, 1) := by decide +kernel
theorem dX2_read_23 : decode cX2_read 23 = .ok (.istore_n 2, 1) := by decide +kernel
theorem dX2_read_24 : decode cX2_read 24 = .ok (.iload_n 2, 1) := by decide +kernel
theorem dX2_read_25 : decode cX2_read 25 = .ok (.bipush 12, 2) := by decide +kernel
theorem dX2_read_27 : decode cX2_read 27 = .ok (.if_icmp .ge 65, 3) := by decide +kernel
theorem dX2_read_30 : decode cX2_read 30 = .ok (.aload_n 0, 1) := by decide +kernel
theorem dX2_read_31 : decode cX2_read 31 = .ok (.invokevirtual 39, 3) := by decide +kernel
theorem dX2_read_34 : decode cX2_read 34 = .ok (.ifCond .ne 8, 3) := by decide +kernel
theorem dX2_read_37 : decode cX2_read 37 = .ok (.aload_n 0, 1) := by decide +kernel
theorem dX2_read_38 : decode cX2_read 38 = .ok (.getfield 43, 3) := by decide +kernel
theorem dX2_read_41 : decode cX2_read 41 = .ok (.ireturn, 1) := by decide +kernel
theorem dX2_read_42 : decode cX2_read 42 = .ok (.aload_n 0, 1) := by decide +kernel
theorem dX2_read_43 : decode cX2_read 43 = .ok (.dup, 1) := by decide +kernel
theorem dX2_read_44 : decode cX2_read 44 = .ok (.getfield 30, 3) := by decide +kernel
theorem dX2_read_47 : decode cX2_read 47 = .ok (.iconst 1, 1) := by decide +kernel
theorem dX2_read_48 : decode cX2_read 48 = .ok (.iadd, 1) := by decide +kernel
theorem dX2_read_49 : decode cX2_read 49 = .ok (.putfield 30, 3) := by decide +kernel
theorem dX2_read_52 : decode cX2_read 52 = .ok (.aload_n 0, 1) := by decide +kernel
theorem dX2_read_53 : decode cX2_read 53 = .ok (.getfield 46, 3) := by decide +kernel
theorem dX2_read_56 : decode cX2_read 56 = .ok (.ifCond .ne 5, 3) := by decide +kernel
theorem dX2_read_59 : decode cX2_read 59 = .ok (.iconst (-1), 1) := by decide +kernel
theorem dX2_read_60 : decode cX2_read 60 = .ok (.ireturn, 1) := by decide +kernel
theorem dX2_read_61 : decode cX2_read 61 = .ok (.aload_n 0, 1) := by decide +kernel
theorem dX2_read_62 : decode cX2_read 62 = .ok (.invokevirtual 49, 3) := by decide +kernel
theorem dX2_read_65 : decode cX2_read 65 = .ok (.ifCond .eq 12, 3) := by decide +kernel
theorem dX2_read_68 : decode cX2_read 68 = .ok (.aload_n 0, 1) := by decide +kernel
theorem dX2_read_69 : decode cX2_read 69 = .ok (.getfield 30, 3) := by decide +kernel
theorem dX2_read_72 : decode cX2_read 72 = .ok (.bipush 12, 2) := by decide +kernel
theorem dX2_read_74 : decode cX2_read 74 = .ok (.if_icmp .ne 8, 3) := by decide +kernel
theorem dX2_read_77 : decode cX2_read 77 = .ok (.aload_n 0, 1) := by decide +kernel
theorem dX2_read_78 : decode cX2_read 78 = .ok (.getfield 43, 3) := by decide +kernel
theorem dX2_read_81 : decode cX2_read 81 = .ok (.ireturn, 1) := by decide +kernel
theorem dX2_read_82 : decode cX2_read 82 = .ok (.aload_n 0, 1) := by decide +kernel
theorem dX2_read_83 : decode cX2_read 83 = .ok (.invokevirtual 36, 3) := by decide +kernel
theorem dX2_read_86 : decode cX2_read 86 = .ok (.iinc 2 1, 3) := by decide +kernel
theorem dX2_read_89 : decode cX2_read 89 = .ok (.goto (-65), 3) := by decide +kernel
theorem dX2_read_92 : decode cX2_read 92 = .ok (.aload_n 0, 1) := by decide +kernel
theorem dX2_read_93 : decode cX2_read 93 = .ok (.getfield 43, 3) := by decide +kernel
theorem dX2_read_96 : decode cX2_read 96 = .ok (.ireturn, 1) := by decide +kernel
theorem dX2_isAtSemicolon_0 : decode cX2_isAtSemicolon 0 = .ok (.aload_n 0, 1) := by decide +kernel
theorem dX2_isAtSemicolon_1 : decode cX2_isAtSemicolon 1 = .ok (.getfield 46, 3) := by decide +kernel
theorem dX2_isAtSemicolon_4 : decode cX2_isAtSemicolon 4 = .ok (.iconst 3, 1) := by decide +kernel
theorem dX2_isAtSemicolon_5 : decode cX2_isAtSemicolon 5 = .ok (.if_icmp .ne 21, 3) := by decide +kernel
theorem dX2_isAtSemicolon_8 : decode cX2_isAtSemicolon 8 = .ok (.aload_n 0, 1) := by decide +kernel
theorem dX2_isAtSemicolon_9 : decode cX2_isAtSemicolon 9 = .ok (.getfield 9, 3) := by decide +kernel
theorem dX2_isAtSemicolon_12 : decode cX2_isAtSemicolon 12 = .ok (.aload_n 0, 1) := by decide +kernel
theorem dX2_isAtSemicolon_13 : decode cX2_isAtSemicolon 13 = .ok (.getfield 43, 3) := by decide +kernel
theorem dX2_isAtSemicolon_16 : decode cX2_isAtSemicolon 16 = .ok (.iaload, 1) := by decide +kernel
theorem dX2_isAtSemicolon_17 : decode cX2_isAtSemicolon 17 = .ok (.bipush 59, 2) := by decide +kernel
theorem dX2_isAtSemicolon_19 : decode cX2_isAtSemicolon 19 = .ok (.if_icmp .ne 7, 3) := by decide +kernel
theorem dX2_isAtSemicolon_22 : decode cX2_isAtSemicolon 22 = .ok (.iconst 1, 1) := by decide +kernel
theorem dX2_isAtSemicolon_23 : decode cX2_isAtSemicolon 23 = .ok (.goto 4, 3) := by decide +kernel
theorem dX2_isAtSemicolon_26 : decode cX2_isAtSemicolon 26 = .ok (.iconst 0, 1) := by decide +kernel
theorem dX2_isAtSemicolon_27 : decode cX2_isAtSemicolon 27 = .ok (.ireturn, 1) := by decide +kernel
set_option maxRecDepth 20000 in
theorem ggX2_readLine_X2_isWord : GoodIn wsX2_readLine wsX2_isWord := goodIn_r _ [6, 7, 8, 9, 10, 11, 12, 13, 14, 15, 16, 17, 18, 19, 20, 21, 22, 23, 24, 25, 26, 27, 28, 29, 30, 31, 32, 33, 34, 35, 36, 37, 38, 39, 40, 41, 42, 43, 44, 45, 46, 47, 48, 49, 50, 51, 52, 53, 54, 55, 56, 57, 58, 127, 128, 129, 130, 131, 132, 133, 134] (by decide +kernel) (by decide +kernel)
set_option maxRecDepth 20000 in
theorem gX2_readLine_X2_isWord : GoodIn wsX2_readLine (wsV RX2 54 RX2 yX2_isWord wsX2_isWord) := goodIn_app (goodIn_of _ (by decide +kernel)) ggX2_readLine_X2_isWord
set_option maxRecDepth 20000 in
theorem ggX2_readLine_X2_readWood : GoodIn wsX2_readLine wsX2_readWood := goodIn_r _ [62, 63, 64, 65, 66, 67, 68, 69, 70, 71, 72, 73, 74, 5, 75, 7, 8, 76, 9, 1, 77, 78, 79, 80, 81, 82, 83, 84, 85, 86, 87, 127, 128, 129, 130, 131, 132, 133, 134, 135, 136, 137, 138, 139, 140, 141, 142, 143, 144] (by decide +kernel) (by decide +kernel)
set_option maxRecDepth 20000 in
theorem gX2_readLine_X2_readWood : GoodIn wsX2_readLine (wsV RX2 58 RX2 yX2_readWood wsX2_readWood) := goodIn_app (goodIn_of _ (by decide +kernel)) ggX2_readLine_X2_readWood
set_option maxRecDepth 20000 in
theorem ggX2_readLine_X2_readTree : GoodIn wsX2_readLine wsX2_readTree := goodIn_r _ [91, 63, 92, 72, 73, 74, 5, 75, 7, 8, 76, 9, 1, 77, 78, 79, 80, 81, 82, 83, 84, 85, 86, 87, 93, 94, 95, 96, 97, 98, 99, 67, 100, 69, 101, 102, 103, 104, 105, 127, 128, 129, 130, 131, 132, 133, 134, 135, 136, 137, 138, 139, 140, 141, 142, 143, 144] (by decide +kernel) (by decide +kernel)
set_option maxRecDepth 20000 in
theorem gX2_readLine_X2_readTree : GoodIn wsX2_readLine (wsV RX2 63 RX2 yX2_readTree wsX2_readTree) := goodIn_app (goodIn_of _ (by decide +kernel)) ggX2_readLine_X2_readTree
set_option maxRecDepth 20000 in
theorem ggX2_readLine_X2_readPart : GoodIn wsX2_readLine wsX2_readPart := goodIn_r _ [109, 63, 92, 110, 72, 73, 74, 5, 75, 7, 8, 76, 9, 1, 77, 78, 79, 80, 81, 82, 83, 84, 85, 86, 87, 93, 94, 95, 96, 127, 128, 129, 130, 131, 132, 133, 134, 135, 136, 137, 138, 139, 140, 141, 142, 143, 144] (by decide +kernel) (by decide +kernel)
set_option maxRecDepth 20000 in
theorem gX2_readLine_X2_readPart : GoodIn wsX2_readLine (wsV RX2 75 RX2 yX2_readPart wsX2_readPart) := goodIn_app (goodIn_of _ (by decide +kernel)) ggX2_readLine_X2_readPart
set_option maxRecDepth 20000 in
theorem ggX2_readLine_X2_readQuarrel : GoodIn wsX2_readLine wsX2_readQuarrel := goodIn_r _ [114, 63, 115, 92, 1, 87, 72, 73, 74, 5, 75, 7, 8, 76, 9, 77, 78, 79, 80, 81, 82, 83, 84, 85, 86, 93, 94, 95, 96, 116, 117, 118, 67, 119, 70, 120, 121, 127, 128, 129, 130, 131, 132, 133, 134, 135, 136, 137, 138, 139, 140, 141, 142, 143, 144] (by decide +kernel) (by decide +kernel)
set_option maxRecDepth 20000 in
theorem gX2_readLine_X2_readQuarrel : GoodIn wsX2_readLine (wsV RX2 80 RX2 yX2_readQuarrel wsX2_readQuarrel) := goodIn_app (goodIn_of _ (by decide +kernel)) ggX2_readLine_X2_readQuarrel
set_option maxRecDepth 20000 in
theorem ggX2_readLine_X2_readHands : GoodIn wsX2_readLine wsX2_readHands := goodIn_r _ [125, 63, 126, 72, 73, 74, 5, 75, 7, 8, 76, 9, 1, 77, 78, 79, 80, 81, 82, 83, 84, 85, 86, 87, 93, 94, 95, 96, 127, 128, 129, 130, 131, 132, 133, 134, 135, 136, 137, 138, 139, 140, 141, 142, 143, 144] (by decide +kernel) (by decide +kernel)
set_option maxRecDepth 20000 in
theorem gX2_readLine_X2_readHands : GoodIn wsX2_readLine (wsV RX2 85 RX2 yX2_readHands wsX2_readHands) := goodIn_app (goodIn_of _ (by decide +kernel)) ggX2_readLine_X2_readHands
theorem dX2_readLine_0 : decode cX2_readLine 0 = .ok (.aload_n 0, 1) := by decide +kernel
theorem dX2_readLine_1 : decode cX2_readLine 1 = .ok (.getfield 46, 3) := by decide +kernel
theorem dX2_readLine_4 : decode cX2_readLine 4 = .ok (.iconst 1, 1) := by decide +kernel
theorem dX2_readLine_5 : decode cX2_readLine 5 = .ok (.if_icmp .eq 5, 3) := by decide +kernel
theorem dX2_readLine_8 : decode cX2_readLine 8 = .ok (.iconst 0, 1) := by decide +kernel
theorem dX2_readLine_9 : decode cX2_readLine 9 = .ok (.ireturn, 1) := by decide +kernel
theorem dX2_readLine_10 : decode cX2_readLine 10 = .ok (.aload_n 0, 1) := by decide +kernel
theorem dX2_readLine_11 : decode cX2_readLine 11 = .ok (.ldc 52, 2) := by decide +kernel
theorem dX2_readLine_13 : decode cX2_readLine 13 = .ok (.invokevirtual 54, 3) := by decide +kernel
theorem dX2_readLine_16 : decode cX2_readLine 16 = .ok (.ifCond .eq 8, 3) := by decide +kernel
theorem dX2_readLine_19 : decode cX2_readLine 19 = .ok (.aload_n 0, 1) := by decide +kernel
theorem dX2_readLine_20 : decode cX2_readLine 20 = .ok (.invokevirtual 58, 3) := by decide +kernel
theorem dX2_readLine_23 : decode cX2_readLine 23 = .ok (.ireturn, 1) := by decide +kernel
theorem dX2_readLine_24 : decode cX2_readLine 24 = .ok (.aload_n 0, 1) := by decide +kernel
theorem dX2_readLine_25 : decode cX2_readLine 25 = .ok (.ldc 61, 2) := by decide +kernel
theorem dX2_readLine_27 : decode cX2_readLine 27 = .ok (.invokevirtual 54, 3) := by decide +kernel
theorem dX2_readLine_30 : decode cX2_readLine 30 = .ok (.ifCond .eq 9, 3) := by decide +kernel
theorem dX2_readLine_33 : decode cX2_readLine 33 = .ok (.aload_n 0, 1) := by decide +kernel
theorem dX2_readLine_34 : decode cX2_readLine 34 = .ok (.iconst 0, 1) := by decide +kernel
theorem dX2_readLine_35 : decode cX2_readLine 35 = .ok (.invokevirtual 63, 3) := by decide +kernel
theorem dX2_readLine_38 : decode cX2_readLine 38 = .ok (.ireturn, 1) := by decide +kernel
theorem dX2_readLine_39 : decode cX2_readLine 39 = .ok (.aload_n 0, 1) := by decide +kernel
theorem dX2_readLine_40 : decode cX2_readLine 40 = .ok (.ldc 67, 2) := by decide +kernel
theorem dX2_readLine_42 : decode cX2_readLine 42 = .ok (.invokevirtual 54, 3) := by decide +kernel
theorem dX2_readLine_45 : decode cX2_readLine 45 = .ok (.ifCond .eq 9, 3) := by decide +kernel
theorem dX2_readLine_48 : decode cX2_readLine 48 = .ok (.aload_n 0, 1) := by decide +kernel
theorem dX2_readLine_49 : decode cX2_readLine 49 = .ok (.iconst 1, 1) := by decide +kernel
theorem dX2_readLine_50 : decode cX2_readLine 50 = .ok (.invokevirtual 63, 3) := by decide +kernel
theorem dX2_readLine_53 : decode cX2_readLine 53 = .ok (.ireturn, 1) := by decide +kernel
theorem dX2_readLine_54 : decode cX2_readLine 54 = .ok (.aload_n 0, 1) := by decide +kernel
theorem dX2_readLine_55 : decode cX2_readLine 55 = .ok (.ldc 69, 2) := by decide +kernel
theorem dX2_readLine_57 : decode cX2_readLine 57 = .ok (.invokevirtual 54, 3) := by decide +kernel
theorem dX2_readLine_60 : decode cX2_readLine 60 = .ok (.ifCond .eq 9, 3) := by decide +kernel
theorem dX2_readLine_63 : decode cX2_readLine 63 = .ok (.aload_n 0, 1) := by decide +kernel
theorem dX2_readLine_64 : decode cX2_readLine 64 = .ok (.iconst 2, 1) := by decide +kernel
theorem dX2_readLine_65 : decode cX2_readLine 65 = .ok (.invokevirtual 63, 3) := by decide +kernel
theorem dX2_readLine_68 : decode cX2_readLine 68 = .ok (.ireturn, 1) := by decide +kernel
theorem dX2_readLine_69 : decode cX2_readLine 69 = .ok (.aload_n 0, 1) := by decide +kernel
theorem dX2_readLine_70 : decode cX2_readLine 70 = .ok (.ldc 71, 2) := by decide +kernel
theorem dX2_readLine_72 : decode cX2_readLine 72 = .ok (.invokevirtual 54, 3) := by decide +kernel
theorem dX2_readLine_75 : decode cX2_readLine 75 = .ok (.ifCond .eq 9, 3) := by decide +kernel
theorem dX2_readLine_78 : decode cX2_readLine 78 = .ok (.aload_n 0, 1) := by decide +kernel
theorem dX2_readLine_79 : decode cX2_readLine 79 = .ok (.iconst 3, 1) := by decide +kernel
theorem dX2_readLine_80 : decode cX2_readLine 80 = .ok (.invokevirtual 63, 3) := by decide +kernel
theorem dX2_readLine_83 : decode cX2_readLine 83 = .ok (.ireturn, 1) := by decide +kernel
theorem dX2_readLine_84 : decode cX2_readLine 84 = .ok (.aload_n 0, 1) := by decide +kernel
theorem dX2_readLine_85 : decode cX2_readLine 85 = .ok (.ldc 73, 2) := by decide +kernel
theorem dX2_readLine_87 : decode cX2_readLine 87 = .ok (.invokevirtual 54, 3) := by decide +kernel
theorem dX2_readLine_90 : decode cX2_readLine 90 = .ok (.ifCond .eq 8, 3) := by decide +kernel
theorem dX2_readLine_93 : decode cX2_readLine 93 = .ok (.aload_n 0, 1) := by decide +kernel
theorem dX2_readLine_94 : decode cX2_readLine 94 = .ok (.invokevirtual 75, 3) := by decide +kernel
theorem dX2_readLine_97 : decode cX2_readLine 97 = .ok (.ireturn, 1) := by decide +kernel
theorem dX2_readLine_98 : decode cX2_readLine 98 = .ok (.aload_n 0, 1) := by decide +kernel
theorem dX2_readLine_99 : decode cX2_readLine 99 = .ok (.ldc 78, 2) := by decide +kernel
theorem dX2_readLine_101 : decode cX2_readLine 101 = .ok (.invokevirtual 54, 3) := by decide +kernel
theorem dX2_readLine_104 : decode cX2_readLine 104 = .ok (.ifCond .eq 8, 3) := by decide +kernel
theorem dX2_readLine_107 : decode cX2_readLine 107 = .ok (.aload_n 0, 1) := by decide +kernel
theorem dX2_readLine_108 : decode cX2_readLine 108 = .ok (.invokevirtual 80, 3) := by decide +kernel
theorem dX2_readLine_111 : decode cX2_readLine 111 = .ok (.ireturn, 1) := by decide +kernel
theorem dX2_readLine_112 : decode cX2_readLine 112 = .ok (.aload_n 0, 1) := by decide +kernel
theorem dX2_readLine_113 : decode cX2_readLine 113 = .ok (.ldc 83, 2) := by decide +kernel
theorem dX2_readLine_115 : decode cX2_readLine 115 = .ok (.invokevirtual 54, 3) := by decide +kernel
theorem dX2_readLine_118 : decode cX2_readLine 118 = .ok (.ifCond .eq 8, 3) := by decide +kernel
theorem dX2_readLine_121 : decode cX2_readLine 121 = .ok (.aload_n 0, 1) := by decide +kernel
theorem dX2_readLine_122 : decode cX2_readLine 122 = .ok (.invokevirtual 85, 3) := by decide +kernel
theorem dX2_readLine_125 : decode cX2_readLine 125 = .ok (.ireturn, 1) := by decide +kernel
theorem dX2_readLine_126 : decode cX2_readLine 126 = .ok (.iconst 0, 1) := by decide +kernel
theorem dX2_readLine_127 : decode cX2_readLine 127 = .ok (.ireturn, 1) := by decide +kernel
set_option maxRecDepth 20000 in
theorem ggX2_readWood_X3_forget : GoodIn wsX2_readWood wsX3_forget := goodIn_r _ [6, 7, 8, 9, 39, 40, 41, 42, 43, 44, 45, 46, 47, 48] (by decide +kernel) (by decide +kernel)
set_option maxRecDepth 20000 in
theorem gX2_readWood_X3_forget : GoodIn wsX2_readWood (wsV RX2 88 RX3 yX3_forget wsX3_forget) := goodIn_app (goodIn_of _ (by decide +kernel)) ggX2_readWood_X3_forget
set_option maxRecDepth 20000 in
theorem ggX2_readWood_X2_nextToken : GoodIn wsX2_readWood wsX2_nextToken := goodIn_r _ [14, 15, 16, 17, 18, 19, 20, 21, 13, 22, 23, 24, 25, 26, 27, 28, 29, 30, 31, 32, 33, 34, 35, 36, 37, 38] (by decide +kernel) (by decide +kernel)
set_option maxRecDepth 20000 in
theorem gX2_readWood_X2_nextToken : GoodIn wsX2_readWood (wsV RX2 36 RX2 yX2_nextToken wsX2_nextToken) := goodIn_app (goodIn_of _ (by decide +kernel)) ggX2_readWood_X2_nextToken
theorem dX2_readWood_0 : decode cX2_readWood 0 = .ok (.aload_n 0, 1) := by decide +kernel
theorem dX2_readWood_1 : decode cX2_readWood 1 = .ok (.getfield 18, 3) := by decide +kernel
theorem dX2_readWood_4 : decode cX2_readWood 4 = .ok (.invokevirtual 88, 3) := by decide +kernel
theorem dX2_readWood_7 : decode cX2_readWood 7 = .ok (.aload_n 0, 1) := by decide +kernel
theorem dX2_readWood_8 : decode cX2_readWood 8 = .ok (.invokevirtual 36, 3) := by decide +kernel
theorem dX2_readWood_11 : decode cX2_readWood 11 = .ok (.iconst 1, 1) := by decide +kernel
theorem dX2_readWood_12 : decode cX2_readWood 12 = .ok (.ireturn, 1) := by decide +kernel
set_option maxRecDepth 20000 in
theorem ggX2_readTree_X2_nextToken : GoodIn wsX2_readTree wsX2_nextToken := goodIn_r _ [7, 8, 9, 10, 11, 12, 13, 14, 6, 15, 16, 17, 18, 19, 20, 21, 22, 23, 39, 40, 41, 42, 43, 44, 45, 46] (by decide +kernel) (by decide +kernel)
set_option maxRecDepth 20000 in
theorem gX2_readTree_X2_nextToken : GoodIn wsX2_readTree (wsV RX2 36 RX2 yX2_nextToken wsX2_nextToken) := goodIn_app (goodIn_of _ (by decide +kernel)) ggX2_readTree_X2_nextToken
set_option maxRecDepth 20000 in
theorem ggX2_readTree_X2_readNumber : GoodIn wsX2_readTree wsX2_readNumber := goodIn_r _ [27, 12, 8, 9, 23, 3, 4, 5, 6, 7, 10, 11, 13, 14, 15, 16, 17, 18, 19, 20, 21, 22, 39, 40, 41, 42, 43, 44, 45, 46] (by decide +kernel) (by decide +kernel)
set_option maxRecDepth 20000 in
theorem gX2_readTree_X2_readNumber : GoodIn wsX2_readTree (wsV RX2 94 RX2 yX2_readNumber wsX2_readNumber) := goodIn_app (goodIn_of _ (by decide +kernel)) ggX2_readTree_X2_readNumber
set_option maxRecDepth 20000 in
theorem ggX2_readTree_X3_addTree : GoodIn wsX2_readTree wsX3_addTree := goodIn_r _ [32, 33, 34, 35, 36, 37, 38, 47, 48, 49, 50, 51, 52, 53, 54, 55, 56] (by decide +kernel) (by decide +kernel)
set_option maxRecDepth 20000 in
theorem gX2_readTree_X3_addTree : GoodIn wsX2_readTree (wsV RX2 98 RX3 yX3_addTree wsX3_addTree) := goodIn_app (goodIn_of _ (by decide +kernel)) ggX2_readTree_X3_addTree
theorem dX2_readTree_0 : decode cX2_readTree 0 = .ok (.aload_n 0, 1) := by decide +kernel
theorem dX2_readTree_1 : decode cX2_readTree 1 = .ok (.getfield 18, 3) := by decide +kernel
theorem dX2_readTree_4 : decode cX2_readTree 4 = .ok (.getfield 91, 3) := by decide +kernel
theorem dX2_readTree_7 : decode cX2_readTree 7 = .ok (.bipush 6, 2) := by decide +kernel
theorem dX2_readTree_9 : decode cX2_readTree 9 = .ok (.if_icmp .lt 5, 3) := by decide +kernel
theorem dX2_readTree_12 : decode cX2_readTree 12 = .ok (.iconst 0, 1) := by decide +kernel
theorem dX2_readTree_13 : decode cX2_readTree 13 = .ok (.ireturn, 1) := by decide +kernel
theorem dX2_readTree_14 : decode cX2_readTree 14 = .ok (.aload_n 0, 1) := by decide +kernel
theorem dX2_readTree_15 : decode cX2_readTree 15 = .ok (.invokevirtual 36, 3) := by decide +kernel
theorem dX2_readTree_18 : decode cX2_readTree 18 = .ok (.aload_n 0, 1) := by decide +kernel
theorem dX2_readTree_19 : decode cX2_readTree 19 = .ok (.iconst 0, 1) := by decide +kernel
theorem dX2_readTree_20 : decode cX2_readTree 20 = .ok (.bipush 99, 2) := by decide +kernel
theorem dX2_readTree_22 : decode cX2_readTree 22 = .ok (.invokevirtual 94, 3) := by decide +kernel
theorem dX2_readTree_25 : decode cX2_readTree 25 = .ok (.istore_n 2, 1) := by decide +kernel
theorem dX2_readTree_26 : decode cX2_readTree 26 = .ok (.iload_n 2, 1) := by decide +kernel
theorem dX2_readTree_27 : decode cX2_readTree 27 = .ok (.iconst (-1), 1) := by decide +kernel
theorem dX2_readTree_28 : decode cX2_readTree 28 = .ok (.if_icmp .ne 5, 3) := by decide +kernel
theorem dX2_readTree_31 : decode cX2_readTree 31 = .ok (.iconst 0, 1) := by decide +kernel
theorem dX2_readTree_32 : decode cX2_readTree 32 = .ok (.ireturn, 1) := by decide +kernel
theorem dX2_readTree_33 : decode cX2_readTree 33 = .ok (.aload_n 0, 1) := by decide +kernel
theorem dX2_readTree_34 : decode cX2_readTree 34 = .ok (.iconst 0, 1) := by decide +kernel
theorem dX2_readTree_35 : decode cX2_readTree 35 = .ok (.bipush 50, 2) := by decide +kernel
theorem dX2_readTree_37 : decode cX2_readTree 37 = .ok (.invokevirtual 94, 3) := by decide +kernel
theorem dX2_readTree_40 : decode cX2_readTree 40 = .ok (.istore_n 3, 1) := by decide +kernel
theorem dX2_readTree_41 : decode cX2_readTree 41 = .ok (.iload_n 3, 1) := by decide +kernel
theorem dX2_readTree_42 : decode cX2_readTree 42 = .ok (.iconst (-1), 1) := by decide +kernel
theorem dX2_readTree_43 : decode cX2_readTree 43 = .ok (.if_icmp .ne 5, 3) := by decide +kernel
theorem dX2_readTree_46 : decode cX2_readTree 46 = .ok (.iconst 0, 1) := by decide +kernel
theorem dX2_readTree_47 : decode cX2_readTree 47 = .ok (.ireturn, 1) := by decide +kernel
theorem dX2_readTree_48 : decode cX2_readTree 48 = .ok (.aload_n 0, 1) := by decide +kernel
theorem dX2_readTree_49 : decode cX2_readTree 49 = .ok (.iconst 1, 1) := by decide +kernel
theorem dX2_readTree_50 : decode cX2_readTree 50 = .ok (.bipush 99, 2) := by decide +kernel
theorem dX2_readTree_52 : decode cX2_readTree 52 = .ok (.invokevirtual 94, 3) := by decide +kernel
theorem dX2_readTree_55 : decode cX2_readTree 55 = .ok (.istore 4, 2) := by decide +kernel
theorem dX2_readTree_57 : decode cX2_readTree 57 = .ok (.iload 4, 2) := by decide +kernel
theorem dX2_readTree_59 : decode cX2_readTree 59 = .ok (.iconst (-1), 1) := by decide +kernel
theorem dX2_readTree_60 : decode cX2_readTree 60 = .ok (.if_icmp .ne 5, 3) := by decide +kernel
theorem dX2_readTree_63 : decode cX2_readTree 63 = .ok (.iconst 0, 1) := by decide +kernel
theorem dX2_readTree_64 : decode cX2_readTree 64 = .ok (.ireturn, 1) := by decide +kernel
theorem dX2_readTree_65 : decode cX2_readTree 65 = .ok (.aload_n 0, 1) := by decide +kernel
theorem dX2_readTree_66 : decode cX2_readTree 66 = .ok (.getfield 18, 3) := by decide +kernel
theorem dX2_readTree_69 : decode cX2_readTree 69 = .ok (.iload_n 1, 1) := by decide +kernel
theorem dX2_readTree_70 : decode cX2_readTree 70 = .ok (.iload_n 2, 1) := by decide +kernel
theorem dX2_readTree_71 : decode cX2_readTree 71 = .ok (.iload_n 3, 1) := by decide +kernel
theorem dX2_readTree_72 : decode cX2_readTree 72 = .ok (.iload 4, 2) := by decide +kernel
theorem dX2_readTree_74 : decode cX2_readTree 74 = .ok (.invokevirtual 98, 3) := by decide +kernel
theorem dX2_readTree_77 : decode cX2_readTree 77 = .ok (.iconst 1, 1) := by decide +kernel
theorem dX2_readTree_78 : decode cX2_readTree 78 = .ok (.ireturn, 1) := by decide +kernel
set_option maxRecDepth 20000 in
theorem ggX2_readPart_X2_nextToken : GoodIn wsX2_readPart wsX2_nextToken := goodIn_r _ [8, 9, 10, 11, 12, 13, 14, 15, 7, 16, 17, 18, 19, 20, 21, 22, 23, 24, 29, 30, 31, 32, 33, 34, 35, 36] (by decide +kernel) (by decide +kernel)
set_option maxRecDepth 20000 in
theorem gX2_readPart_X2_nextToken : GoodIn wsX2_readPart (wsV RX2 36 RX2 yX2_nextToken wsX2_nextToken) := goodIn_app (goodIn_of _ (by decide +kernel)) ggX2_readPart_X2_nextToken
set_option maxRecDepth 20000 in
theorem ggX2_readPart_X2_readNumber : GoodIn wsX2_readPart wsX2_readNumber := goodIn_r _ [28, 13, 9, 10, 24, 4, 5, 6, 7, 8, 11, 12, 14, 15, 16, 17, 18, 19, 20, 21, 22, 23, 29, 30, 31, 32, 33, 34, 35, 36] (by decide +kernel) (by decide +kernel)
set_option maxRecDepth 20000 in
theorem gX2_readPart_X2_readNumber : GoodIn wsX2_readPart (wsV RX2 94 RX2 yX2_readNumber wsX2_readNumber) := goodIn_app (goodIn_of _ (by decide +kernel)) ggX2_readPart_X2_readNumber
theorem dX2_readPart_0 : decode cX2_readPart 0 = .ok (.aload_n 0, 1) := by decide +kernel
theorem dX2_readPart_1 : decode cX2_readPart 1 = .ok (.invokevirtual 36, 3) := by decide +kernel
theorem dX2_readPart_4 : decode cX2_readPart 4 = .ok (.aload_n 0, 1) := by decide +kernel
theorem dX2_readPart_5 : decode cX2_readPart 5 = .ok (.iconst 0, 1) := by decide +kernel
theorem dX2_readPart_6 : decode cX2_readPart 6 = .ok (.aload_n 0, 1) := by decide +kernel
theorem dX2_readPart_7 : decode cX2_readPart 7 = .ok (.getfield 18, 3) := by decide +kernel
theorem dX2_readPart_10 : decode cX2_readPart 10 = .ok (.getfield 91, 3) := by decide +kernel
theorem dX2_readPart_13 : decode cX2_readPart 13 = .ok (.iconst 1, 1) := by decide +kernel
theorem dX2_readPart_14 : decode cX2_readPart 14 = .ok (.isub, 1) := by decide +kernel
theorem dX2_readPart_15 : decode cX2_readPart 15 = .ok (.invokevirtual 94, 3) := by decide +kernel
theorem dX2_readPart_18 : decode cX2_readPart 18 = .ok (.istore_n 1, 1) := by decide +kernel
theorem dX2_readPart_19 : decode cX2_readPart 19 = .ok (.iload_n 1, 1) := by decide +kernel
theorem dX2_readPart_20 : decode cX2_readPart 20 = .ok (.iconst (-1), 1) := by decide +kernel
theorem dX2_readPart_21 : decode cX2_readPart 21 = .ok (.if_icmp .ne 5, 3) := by decide +kernel
theorem dX2_readPart_24 : decode cX2_readPart 24 = .ok (.iconst 0, 1) := by decide +kernel
theorem dX2_readPart_25 : decode cX2_readPart 25 = .ok (.ireturn, 1) := by decide +kernel
theorem dX2_readPart_26 : decode cX2_readPart 26 = .ok (.aload_n 0, 1) := by decide +kernel
theorem dX2_readPart_27 : decode cX2_readPart 27 = .ok (.iconst 0, 1) := by decide +kernel
theorem dX2_readPart_28 : decode cX2_readPart 28 = .ok (.bipush 9, 2) := by decide +kernel
theorem dX2_readPart_30 : decode cX2_readPart 30 = .ok (.invokevirtual 94, 3) := by decide +kernel
theorem dX2_readPart_33 : decode cX2_readPart 33 = .ok (.istore_n 2, 1) := by decide +kernel
theorem dX2_readPart_34 : decode cX2_readPart 34 = .ok (.iload_n 2, 1) := by decide +kernel
theorem dX2_readPart_35 : decode cX2_readPart 35 = .ok (.iconst (-1), 1) := by decide +kernel
theorem dX2_readPart_36 : decode cX2_readPart 36 = .ok (.if_icmp .ne 5, 3) := by decide +kernel
theorem dX2_readPart_39 : decode cX2_readPart 39 = .ok (.iconst 0, 1) := by decide +kernel
theorem dX2_readPart_40 : decode cX2_readPart 40 = .ok (.ireturn, 1) := by decide +kernel
theorem dX2_readPart_41 : decode cX2_readPart 41 = .ok (.aload_n 0, 1) := by decide +kernel
theorem dX2_readPart_42 : decode cX2_readPart 42 = .ok (.getfield 18, 3) := by decide +kernel
theorem dX2_readPart_45 : decode cX2_readPart 45 = .ok (.getfield 102, 3) := by decide +kernel
theorem dX2_readPart_48 : decode cX2_readPart 48 = .ok (.iload_n 1, 1) := by decide +kernel
theorem dX2_readPart_49 : decode cX2_readPart 49 = .ok (.iload_n 2, 1) := by decide +kernel
theorem dX2_readPart_50 : decode cX2_readPart 50 = .ok (.iastore, 1) := by decide +kernel
theorem dX2_readPart_51 : decode cX2_readPart 51 = .ok (.iconst 1, 1) := by decide +kernel
theorem dX2_readPart_52 : decode cX2_readPart 52 = .ok (.ireturn, 1) := by decide +kernel
set_option maxRecDepth 20000 in
theorem ggX2_readQuarrel_X2_nextToken : GoodIn wsX2_readQuarrel wsX2_nextToken := goodIn_r _ [10, 11, 12, 13, 14, 4, 15, 16, 9, 17, 18, 19, 20, 21, 22, 23, 24, 5, 37, 38, 39, 40, 41, 42, 43, 44] (by decide +kernel) (by decide +kernel)
set_option maxRecDepth 20000 in
theorem gX2_readQuarrel_X2_nextToken : GoodIn wsX2_readQuarrel (wsV RX2 36 RX2 yX2_nextToken wsX2_nextToken) := goodIn_app (goodIn_of _ (by decide +kernel)) ggX2_readQuarrel_X2_nextToken
set_option maxRecDepth 20000 in
theorem ggX2_readQuarrel_X2_readNumber : GoodIn wsX2_readQuarrel wsX2_readNumber := goodIn_r _ [28, 4, 11, 12, 5, 6, 7, 8, 9, 10, 13, 14, 15, 16, 17, 18, 19, 20, 21, 22, 23, 24, 37, 38, 39, 40, 41, 42, 43, 44] (by decide +kernel) (by decide +kernel)
set_option maxRecDepth 20000 in
theorem gX2_readQuarrel_X2_readNumber : GoodIn wsX2_readQuarrel (wsV RX2 94 RX2 yX2_readNumber wsX2_readNumber) := goodIn_app (goodIn_of _ (by decide +kernel)) ggX2_readQuarrel_X2_readNumber
set_option maxRecDepth 20000 in
theorem ggX2_readQuarrel_X3_addQuarrel : GoodIn wsX2_readQuarrel wsX3_addQuarrel := goodIn_r _ [33, 34, 35, 36, 45, 46, 47, 48, 49, 50, 51, 52, 53, 54] (by decide +kernel) (by decide +kernel)
set_option maxRecDepth 20000 in
theorem gX2_readQuarrel_X3_addQuarrel : GoodIn wsX2_readQuarrel (wsV RX2 111 RX3 yX3_addQuarrel wsX3_addQuarrel) := goodIn_app (goodIn_of _ (by decide +kernel)) ggX2_readQuarrel_X3_addQuarrel
theorem dX2_readQuarrel_0 : decode cX2_readQuarrel 0 = .ok (.aload_n 0, 1) := by decide +kernel
theorem dX2_readQuarrel_1 : decode cX2_readQuarrel 1 = .ok (.getfield 18, 3) := by decide +kernel
theorem dX2_readQuarrel_4 : decode cX2_readQuarrel 4 = .ok (.getfield 105, 3) := by decide +kernel
theorem dX2_readQuarrel_7 : decode cX2_readQuarrel 7 = .ok (.bipush 6, 2) := by decide +kernel
theorem dX2_readQuarrel_9 : decode cX2_readQuarrel 9 = .ok (.if_icmp .lt 5, 3) := by decide +kernel
theorem dX2_readQuarrel_12 : decode cX2_readQuarrel 12 = .ok (.iconst 0, 1) := by decide +kernel
theorem dX2_readQuarrel_13 : decode cX2_readQuarrel 13 = .ok (.ireturn, 1) := by decide +kernel
theorem dX2_readQuarrel_14 : decode cX2_readQuarrel 14 = .ok (.aload_n 0, 1) := by decide +kernel
theorem dX2_readQuarrel_15 : decode cX2_readQuarrel 15 = .ok (.invokevirtual 36, 3) := by decide +kernel
theorem dX2_readQuarrel_18 : decode cX2_readQuarrel 18 = .ok (.aload_n 0, 1) := by decide +kernel
theorem dX2_readQuarrel_19 : decode cX2_readQuarrel 19 = .ok (.iconst 0, 1) := by decide +kernel
theorem dX2_readQuarrel_20 : decode cX2_readQuarrel 20 = .ok (.aload_n 0, 1) := by decide +kernel
theorem dX2_readQuarrel_21 : decode cX2_readQuarrel 21 = .ok (.getfield 18, 3) := by decide +kernel
theorem dX2_readQuarrel_24 : decode cX2_readQuarrel 24 = .ok (.getfield 91, 3) := by decide +kernel
theorem dX2_readQuarrel_27 : decode cX2_readQuarrel 27 = .ok (.iconst 1, 1) := by decide +kernel
theorem dX2_readQuarrel_28 : decode cX2_readQuarrel 28 = .ok (.isub, 1) := by decide +kernel
theorem dX2_readQuarrel_29 : decode cX2_readQuarrel 29 = .ok (.invokevirtual 94, 3) := by decide +kernel
theorem dX2_readQuarrel_32 : decode cX2_readQuarrel 32 = .ok (.istore_n 1, 1) := by decide +kernel
theorem dX2_readQuarrel_33 : decode cX2_readQuarrel 33 = .ok (.iload_n 1, 1) := by decide +kernel
theorem dX2_readQuarrel_34 : decode cX2_readQuarrel 34 = .ok (.iconst (-1), 1) := by decide +kernel
theorem dX2_readQuarrel_35 : decode cX2_readQuarrel 35 = .ok (.if_icmp .ne 5, 3) := by decide +kernel
theorem dX2_readQuarrel_38 : decode cX2_readQuarrel 38 = .ok (.iconst 0, 1) := by decide +kernel
theorem dX2_readQuarrel_39 : decode cX2_readQuarrel 39 = .ok (.ireturn, 1) := by decide +kernel
theorem dX2_readQuarrel_40 : decode cX2_readQuarrel 40 = .ok (.aload_n 0, 1) := by decide +kernel
theorem dX2_readQuarrel_41 : decode cX2_readQuarrel 41 = .ok (.getfield 46, 3) := by decide +kernel
theorem dX2_readQuarrel_44 : decode cX2_readQuarrel 44 = .ok (.iconst 2, 1) := by decide +kernel
theorem dX2_readQuarrel_45 : decode cX2_readQuarrel 45 = .ok (.if_icmp .ne 13, 3) := by decide +kernel
theorem dX2_readQuarrel_48 : decode cX2_readQuarrel 48 = .ok (.aload_n 0, 1) := by decide +kernel
theorem dX2_readQuarrel_49 : decode cX2_readQuarrel 49 = .ok (.getfield 108, 3) := by decide +kernel
theorem dX2_readQuarrel_52 : decode cX2_readQuarrel 52 = .ok (.iload_n 1, 1) := by decide +kernel
theorem dX2_readQuarrel_53 : decode cX2_readQuarrel 53 = .ok (.if_icmp .ne 5, 3) := by decide +kernel
theorem dX2_readQuarrel_56 : decode cX2_readQuarrel 56 = .ok (.iconst 0, 1) := by decide +kernel
theorem dX2_readQuarrel_57 : decode cX2_readQuarrel 57 = .ok (.ireturn, 1) := by decide +kernel
theorem dX2_readQuarrel_58 : decode cX2_readQuarrel 58 = .ok (.aload_n 0, 1) := by decide +kernel
theorem dX2_readQuarrel_59 : decode cX2_readQuarrel 59 = .ok (.iconst 0, 1) := by decide +kernel
theorem dX2_readQuarrel_60 : decode cX2_readQuarrel 60 = .ok (.aload_n 0, 1) := by decide +kernel
theorem dX2_readQuarrel_61 : decode cX2_readQuarrel 61 = .ok (.getfield 18, 3) := by decide +kernel
theorem dX2_readQuarrel_64 : decode cX2_readQuarrel 64 = .ok (.getfield 91, 3) := by decide +kernel
theorem dX2_readQuarrel_67 : decode cX2_readQuarrel 67 = .ok (.iconst 1, 1) := by decide +kernel
theorem dX2_readQuarrel_68 : decode cX2_readQuarrel 68 = .ok (.isub, 1) := by decide +kernel
theorem dX2_readQuarrel_69 : decode cX2_readQuarrel 69 = .ok (.invokevirtual 94, 3) := by decide +kernel
theorem dX2_readQuarrel_72 : decode cX2_readQuarrel 72 = .ok (.istore_n 2, 1) := by decide +kernel
theorem dX2_readQuarrel_73 : decode cX2_readQuarrel 73 = .ok (.iload_n 2, 1) := by decide +kernel
theorem dX2_readQuarrel_74 : decode cX2_readQuarrel 74 = .ok (.iconst (-1), 1) := by decide +kernel
theorem dX2_readQuarrel_75 : decode cX2_readQuarrel 75 = .ok (.if_icmp .ne 5, 3) := by decide +kernel
theorem dX2_readQuarrel_78 : decode cX2_readQuarrel 78 = .ok (.iconst 0, 1) := by decide +kernel
theorem dX2_readQuarrel_79 : decode cX2_readQuarrel 79 = .ok (.ireturn, 1) := by decide +kernel
theorem dX2_readQuarrel_80 : decode cX2_readQuarrel 80 = .ok (.aload_n 0, 1) := by decide +kernel
theorem dX2_readQuarrel_81 : decode cX2_readQuarrel 81 = .ok (.getfield 18, 3) := by decide +kernel
theorem dX2_readQuarrel_84 : decode cX2_readQuarrel 84 = .ok (.iload_n 1, 1) := by decide +kernel
theorem dX2_readQuarrel_85 : decode cX2_readQuarrel 85 = .ok (.iload_n 2, 1) := by decide +kernel
theorem dX2_readQuarrel_86 : decode cX2_readQuarrel 86 = .ok (.invokevirtual 111, 3) := by decide +kernel
theorem dX2_readQuarrel_89 : decode cX2_readQuarrel 89 = .ok (.iconst 1, 1) := by decide +kernel
theorem dX2_readQuarrel_90 : decode cX2_readQuarrel 90 = .ok (.ireturn, 1) := by decide +kernel
set_option maxRecDepth 20000 in
theorem ggX2_readHands_X2_nextToken : GoodIn wsX2_readHands wsX2_nextToken := goodIn_r _ [7, 8, 9, 10, 11, 12, 13, 14, 6, 15, 16, 17, 18, 19, 20, 21, 22, 23, 28, 29, 30, 31, 32, 33, 34, 35] (by decide +kernel) (by decide +kernel)
set_option maxRecDepth 20000 in
theorem gX2_readHands_X2_nextToken : GoodIn wsX2_readHands (wsV RX2 36 RX2 yX2_nextToken wsX2_nextToken) := goodIn_app (goodIn_of _ (by decide +kernel)) ggX2_readHands_X2_nextToken
set_option maxRecDepth 20000 in
theorem ggX2_readHands_X2_readNumber : GoodIn wsX2_readHands wsX2_readNumber := goodIn_r _ [27, 12, 8, 9, 23, 3, 4, 5, 6, 7, 10, 11, 13, 14, 15, 16, 17, 18, 19, 20, 21, 22, 28, 29, 30, 31, 32, 33, 34, 35] (by decide +kernel) (by decide +kernel)
set_option maxRecDepth 20000 in
theorem gX2_readHands_X2_readNumber : GoodIn wsX2_readHands (wsV RX2 94 RX2 yX2_readNumber wsX2_readNumber) := goodIn_app (goodIn_of _ (by decide +kernel)) ggX2_readHands_X2_readNumber
theorem dX2_readHands_0 : decode cX2_readHands 0 = .ok (.aload_n 0, 1) := by decide +kernel
theorem dX2_readHands_1 : decode cX2_readHands 1 = .ok (.invokevirtual 36, 3) := by decide +kernel
theorem dX2_readHands_4 : decode cX2_readHands 4 = .ok (.aload_n 0, 1) := by decide +kernel
theorem dX2_readHands_5 : decode cX2_readHands 5 = .ok (.iconst 0, 1) := by decide +kernel
theorem dX2_readHands_6 : decode cX2_readHands 6 = .ok (.bipush 99, 2) := by decide +kernel
theorem dX2_readHands_8 : decode cX2_readHands 8 = .ok (.invokevirtual 94, 3) := by decide +kernel
theorem dX2_readHands_11 : decode cX2_readHands 11 = .ok (.istore_n 1, 1) := by decide +kernel
theorem dX2_readHands_12 : decode cX2_readHands 12 = .ok (.iload_n 1, 1) := by decide +kernel
theorem dX2_readHands_13 : decode cX2_readHands 13 = .ok (.iconst (-1), 1) := by decide +kernel
theorem dX2_readHands_14 : decode cX2_readHands 14 = .ok (.if_icmp .ne 5, 3) := by decide +kernel
theorem dX2_readHands_17 : decode cX2_readHands 17 = .ok (.iconst 0, 1) := by decide +kernel
theorem dX2_readHands_18 : decode cX2_readHands 18 = .ok (.ireturn, 1) := by decide +kernel
theorem dX2_readHands_19 : decode cX2_readHands 19 = .ok (.aload_n 0, 1) := by decide +kernel
theorem dX2_readHands_20 : decode cX2_readHands 20 = .ok (.getfield 18, 3) := by decide +kernel
theorem dX2_readHands_23 : decode cX2_readHands 23 = .ok (.iload_n 1, 1) := by decide +kernel
theorem dX2_readHands_24 : decode cX2_readHands 24 = .ok (.putfield 115, 3) := by decide +kernel
theorem dX2_readHands_27 : decode cX2_readHands 27 = .ok (.iconst 1, 1) := by decide +kernel
theorem dX2_readHands_28 : decode cX2_readHands 28 = .ok (.ireturn, 1) := by decide +kernel
set_option maxRecDepth 20000 in
theorem ggX2_readNumber_X2_nextToken : GoodIn wsX2_readNumber wsX2_nextToken := goodIn_r _ [9, 2, 3, 10, 11, 1, 12, 13, 8, 14, 15, 16, 17, 18, 19, 20, 21, 4, 22, 23, 24, 25, 26, 27, 28, 29] (by decide +kernel) (by decide +kernel)
set_option maxRecDepth 20000 in
theorem gX2_readNumber_X2_nextToken : GoodIn wsX2_readNumber (wsV RX2 36 RX2 yX2_nextToken wsX2_nextToken) := goodIn_app (goodIn_of _ (by decide +kernel)) ggX2_readNumber_X2_nextToken
theorem dX2_readNumber_0 : decode cX2_readNumber 0 = .ok (.aload_n 0, 1) := by decide +kernel
theorem dX2_readNumber_1 : decode cX2_readNumber 1 = .ok (.getfield 46, 3) := by decide +kernel
theorem dX2_readNumber_4 : decode cX2_readNumber 4 = .ok (.iconst 2, 1) := by decide +kernel
theorem dX2_readNumber_5 : decode cX2_readNumber 5 = .ok (.if_icmp .ne 32, 3) := by decide +kernel
theorem dX2_readNumber_8 : decode cX2_readNumber 8 = .ok (.aload_n 0, 1) := by decide +kernel
theorem dX2_readNumber_9 : decode cX2_readNumber 9 = .ok (.getfield 33, 3) := by decide +kernel
theorem dX2_readNumber_12 : decode cX2_readNumber 12 = .ok (.aload_n 0, 1) := by decide +kernel
theorem dX2_readNumber_13 : decode cX2_readNumber 13 = .ok (.getfield 43, 3) := by decide +kernel
theorem dX2_readNumber_16 : decode cX2_readNumber 16 = .ok (.isub, 1) := by decide +kernel
theorem dX2_readNumber_17 : decode cX2_readNumber 17 = .ok (.iconst 2, 1) := by decide +kernel
theorem dX2_readNumber_18 : decode cX2_readNumber 18 = .ok (.if_icmp .gt 19, 3) := by decide +kernel
theorem dX2_readNumber_21 : decode cX2_readNumber 21 = .ok (.aload_n 0, 1) := by decide +kernel
theorem dX2_readNumber_22 : decode cX2_readNumber 22 = .ok (.getfield 108, 3) := by decide +kernel
theorem dX2_readNumber_25 : decode cX2_readNumber 25 = .ok (.iload_n 1, 1) := by decide +kernel
theorem dX2_readNumber_26 : decode cX2_readNumber 26 = .ok (.if_icmp .lt 11, 3) := by decide +kernel
theorem dX2_readNumber_29 : decode cX2_readNumber 29 = .ok (.aload_n 0, 1) := by decide +kernel
theorem dX2_readNumber_30 : decode cX2_readNumber 30 = .ok (.getfield 108, 3) := by decide +kernel
theorem dX2_readNumber_33 : decode cX2_readNumber 33 = .ok (.iload_n 2, 1) := by decide +kernel
theorem dX2_readNumber_34 : decode cX2_readNumber 34 = .ok (.if_icmp .le 5, 3) := by decide +kernel
theorem dX2_readNumber_37 : decode cX2_readNumber 37 = .ok (.iconst (-1), 1) := by decide +kernel
theorem dX2_readNumber_38 : decode cX2_readNumber 38 = .ok (.ireturn, 1) := by decide +kernel
theorem dX2_readNumber_39 : decode cX2_readNumber 39 = .ok (.aload_n 0, 1) := by decide +kernel
theorem dX2_readNumber_40 : decode cX2_readNumber 40 = .ok (.getfield 108, 3) := by decide +kernel
theorem dX2_readNumber_43 : decode cX2_readNumber 43 = .ok (.istore_n 3, 1) := by decide +kernel
theorem dX2_readNumber_44 : decode cX2_readNumber 44 = .ok (.aload_n 0, 1) := by decide +kernel
theorem dX2_readNumber_45 : decode cX2_readNumber 45 = .ok (.invokevirtual 36, 3) := by decide +kernel
theorem dX2_readNumber_48 : decode cX2_readNumber 48 = .ok (.iload_n 3, 1) := by decide +kernel
theorem dX2_readNumber_49 : decode cX2_readNumber 49 = .ok (.ireturn, 1) := by decide +kernel
set_option maxRecDepth 20000 in
theorem ggX2_nextToken_X2_isLetter : GoodIn wsX2_nextToken wsX2_isLetter := goodIn_r _ [9] (by decide +kernel) (by decide +kernel)
set_option maxRecDepth 20000 in
theorem gX2_nextToken_X2_isLetter : GoodIn wsX2_nextToken (va_wsS RX2 117 yX2_isLetter wsX2_isLetter) := goodIn_app (goodIn_of _ (by decide +kernel)) ggX2_nextToken_X2_isLetter
set_option maxRecDepth 20000 in
theorem ggX2_nextToken_X2_isDigit : GoodIn wsX2_nextToken wsX2_isDigit := goodIn_r _ [12] (by decide +kernel) (by decide +kernel)
set_option maxRecDepth 20000 in
theorem gX2_nextToken_X2_isDigit : GoodIn wsX2_nextToken (va_wsS RX2 120 yX2_isDigit wsX2_isDigit) := goodIn_app (goodIn_of _ (by decide +kernel)) ggX2_nextToken_X2_isDigit
set_option maxRecDepth 20000 in
theorem ggX2_nextToken_X2_readDigits : GoodIn wsX2_nextToken wsX2_readDigits := goodIn_r _ [16, 17, 1, 3, 4, 10, 11, 8, 12, 18, 19, 20, 21, 22, 23, 24, 25] (by decide +kernel) (by decide +kernel)
set_option maxRecDepth 20000 in
theorem gX2_nextToken_X2_readDigits : GoodIn wsX2_nextToken (wsV RX2 123 RX2 yX2_readDigits wsX2_readDigits) := goodIn_app (goodIn_of _ (by decide +kernel)) ggX2_nextToken_X2_readDigits
theorem dX2_nextToken_0 : decode cX2_nextToken 0 = .ok (.aload_n 0, 1) := by decide +kernel
theorem dX2_nextToken_1 : decode cX2_nextToken 1 = .ok (.aload_n 0, 1) := by decide +kernel
theorem dX2_nextToken_2 : decode cX2_nextToken 2 = .ok (.getfield 33, 3) := by decide +kernel
theorem dX2_nextToken_5 : decode cX2_nextToken 5 = .ok (.putfield 43, 3) := by decide +kernel
theorem dX2_nextToken_8 : decode cX2_nextToken 8 = .ok (.aload_n 0, 1) := by decide +kernel
theorem dX2_nextToken_9 : decode cX2_nextToken 9 = .ok (.getfield 43, 3) := by decide +kernel
theorem dX2_nextToken_12 : decode cX2_nextToken 12 = .ok (.aload_n 0, 1) := by decide +kernel
theorem dX2_nextToken_13 : decode cX2_nextToken 13 = .ok (.getfield 22, 3) := by decide +kernel
theorem dX2_nextToken_16 : decode cX2_nextToken 16 = .ok (.if_icmp .ge 30, 3) := by decide +kernel
theorem dX2_nextToken_19 : decode cX2_nextToken 19 = .ok (.aload_n 0, 1) := by decide +kernel
theorem dX2_nextToken_20 : decode cX2_nextToken 20 = .ok (.getfield 9, 3) := by decide +kernel
theorem dX2_nextToken_23 : decode cX2_nextToken 23 = .ok (.aload_n 0, 1) := by decide +kernel
theorem dX2_nextToken_24 : decode cX2_nextToken 24 = .ok (.getfield 43, 3) := by decide +kernel
theorem dX2_nextToken_27 : decode cX2_nextToken 27 = .ok (.iaload, 1) := by decide +kernel
theorem dX2_nextToken_28 : decode cX2_nextToken 28 = .ok (.bipush 32, 2) := by decide +kernel
theorem dX2_nextToken_30 : decode cX2_nextToken 30 = .ok (.if_icmp .ne 16, 3) := by decide +kernel
theorem dX2_nextToken_33 : decode cX2_nextToken 33 = .ok (.aload_n 0, 1) := by decide +kernel
theorem dX2_nextToken_34 : decode cX2_nextToken 34 = .ok (.dup, 1) := by decide +kernel
theorem dX2_nextToken_35 : decode cX2_nextToken 35 = .ok (.getfield 43, 3) := by decide +kernel
theorem dX2_nextToken_38 : decode cX2_nextToken 38 = .ok (.iconst 1, 1) := by decide +kernel
theorem dX2_nextToken_39 : decode cX2_nextToken 39 = .ok (.iadd, 1) := by decide +kernel
theorem dX2_nextToken_40 : decode cX2_nextToken 40 = .ok (.putfield 43, 3) := by decide +kernel
theorem dX2_nextToken_43 : decode cX2_nextToken 43 = .ok (.goto (-35), 3) := by decide +kernel
theorem dX2_nextToken_46 : decode cX2_nextToken 46 = .ok (.aload_n 0, 1) := by decide +kernel
theorem dX2_nextToken_47 : decode cX2_nextToken 47 = .ok (.aload_n 0, 1) := by decide +kernel
theorem dX2_nextToken_48 : decode cX2_nextToken 48 = .ok (.getfield 43, 3) := by decide +kernel
theorem dX2_nextToken_51 : decode cX2_nextToken 51 = .ok (.putfield 33, 3) := by decide +kernel
theorem dX2_nextToken_54 : decode cX2_nextToken 54 = .ok (.aload_n 0, 1) := by decide +kernel
theorem dX2_nextToken_55 : decode cX2_nextToken 55 = .ok (.getfield 43, 3) := by decide +kernel
theorem dX2_nextToken_58 : decode cX2_nextToken 58 = .ok (.aload_n 0, 1) := by decide +kernel
theorem dX2_nextToken_59 : decode cX2_nextToken 59 = .ok (.getfield 22, 3) := by decide +kernel
theorem dX2_nextToken_62 : decode cX2_nextToken 62 = .ok (.if_icmp .lt 11, 3) := by decide +kernel
theorem dX2_nextToken_65 : decode cX2_nextToken 65 = .ok (.aload_n 0, 1) := by decide +kernel
theorem dX2_nextToken_66 : decode cX2_nextToken 66 = .ok (.iconst 0, 1) := by decide +kernel
theorem dX2_nextToken_67 : decode cX2_nextToken 67 = .ok (.putfield 46, 3) := by decide +kernel
theorem dX2_nextToken_70 : decode cX2_nextToken 70 = .ok (.goto 104, 3) := by decide +kernel
theorem dX2_nextToken_73 : decode cX2_nextToken 73 = .ok (.aload_n 0, 1) := by decide +kernel
theorem dX2_nextToken_74 : decode cX2_nextToken 74 = .ok (.getfield 9, 3) := by decide +kernel
theorem dX2_nextToken_77 : decode cX2_nextToken 77 = .ok (.aload_n 0, 1) := by decide +kernel
theorem dX2_nextToken_78 : decode cX2_nextToken 78 = .ok (.getfield 43, 3) := by decide +kernel
theorem dX2_nextToken_81 : decode cX2_nextToken 81 = .ok (.iaload, 1) := by decide +kernel
theorem dX2_nextToken_82 : decode cX2_nextToken 82 = .ok (.invokestatic 117, 3) := by decide +kernel
theorem dX2_nextToken_85 : decode cX2_nextToken 85 = .ok (.ifCond .eq 47, 3) := by decide +kernel
theorem dX2_nextToken_88 : decode cX2_nextToken 88 = .ok (.aload_n 0, 1) := by decide +kernel
theorem dX2_nextToken_89 : decode cX2_nextToken 89 = .ok (.iconst 1, 1) := by decide +kernel
theorem dX2_nextToken_90 : decode cX2_nextToken 90 = .ok (.putfield 46, 3) := by decide +kernel
theorem dX2_nextToken_93 : decode cX2_nextToken 93 = .ok (.aload_n 0, 1) := by decide +kernel
theorem dX2_nextToken_94 : decode cX2_nextToken 94 = .ok (.getfield 33, 3) := by decide +kernel
theorem dX2_nextToken_97 : decode cX2_nextToken 97 = .ok (.aload_n 0, 1) := by decide +kernel
theorem dX2_nextToken_98 : decode cX2_nextToken 98 = .ok (.getfield 22, 3) := by decide +kernel
theorem dX2_nextToken_101 : decode cX2_nextToken 101 = .ok (.if_icmp .ge 73, 3) := by decide +kernel
theorem dX2_nextToken_104 : decode cX2_nextToken 104 = .ok (.aload_n 0, 1) := by decide +kernel
theorem dX2_nextToken_105 : decode cX2_nextToken 105 = .ok (.getfield 9, 3) := by decide +kernel
theorem dX2_nextToken_108 : decode cX2_nextToken 108 = .ok (.aload_n 0, 1) := by decide +kernel
theorem dX2_nextToken_109 : decode cX2_nextToken 109 = .ok (.getfield 33, 3) := by decide +kernel
theorem dX2_nextToken_112 : decode cX2_nextToken 112 = .ok (.iaload, 1) := by decide +kernel
theorem dX2_nextToken_113 : decode cX2_nextToken 113 = .ok (.invokestatic 117, 3) := by decide +kernel
theorem dX2_nextToken_116 : decode cX2_nextToken 116 = .ok (.ifCond .eq 58, 3) := by decide +kernel
theorem dX2_nextToken_119 : decode cX2_nextToken 119 = .ok (.aload_n 0, 1) := by decide +kernel
theorem dX2_nextToken_120 : decode cX2_nextToken 120 = .ok (.dup, 1) := by decide +kernel
theorem dX2_nextToken_121 : decode cX2_nextToken 121 = .ok (.getfield 33, 3) := by decide +kernel
theorem dX2_nextToken_124 : decode cX2_nextToken 124 = .ok (.iconst 1, 1) := by decide +kernel
theorem dX2_nextToken_125 : decode cX2_nextToken 125 = .ok (.iadd, 1) := by decide +kernel
theorem dX2_nextToken_126 : decode cX2_nextToken 126 = .ok (.putfield 33, 3) := by decide +kernel
theorem dX2_nextToken_129 : decode cX2_nextToken 129 = .ok (.goto (-36), 3) := by decide +kernel
theorem dX2_nextToken_132 : decode cX2_nextToken 132 = .ok (.aload_n 0, 1) := by decide +kernel
theorem dX2_nextToken_133 : decode cX2_nextToken 133 = .ok (.getfield 9, 3) := by decide +kernel
theorem dX2_nextToken_136 : decode cX2_nextToken 136 = .ok (.aload_n 0, 1) := by decide +kernel
theorem dX2_nextToken_137 : decode cX2_nextToken 137 = .ok (.getfield 43, 3) := by decide +kernel
theorem dX2_nextToken_140 : decode cX2_nextToken 140 = .ok (.iaload, 1) := by decide +kernel
theorem dX2_nextToken_141 : decode cX2_nextToken 141 = .ok (.invokestatic 120, 3) := by decide +kernel
theorem dX2_nextToken_144 : decode cX2_nextToken 144 = .ok (.ifCond .eq 15, 3) := by decide +kernel
theorem dX2_nextToken_147 : decode cX2_nextToken 147 = .ok (.aload_n 0, 1) := by decide +kernel
theorem dX2_nextToken_148 : decode cX2_nextToken 148 = .ok (.iconst 2, 1) := by decide +kernel
theorem dX2_nextToken_149 : decode cX2_nextToken 149 = .ok (.putfield 46, 3) := by decide +kernel
theorem dX2_nextToken_152 : decode cX2_nextToken 152 = .ok (.aload_n 0, 1) := by decide +kernel
theorem dX2_nextToken_153 : decode cX2_nextToken 153 = .ok (.invokevirtual 123, 3) := by decide +kernel
theorem dX2_nextToken_156 : decode cX2_nextToken 156 = .ok (.goto 18, 3) := by decide +kernel
theorem dX2_nextToken_159 : decode cX2_nextToken 159 = .ok (.aload_n 0, 1) := by decide +kernel
theorem dX2_nextToken_160 : decode cX2_nextToken 160 = .ok (.iconst 3, 1) := by decide +kernel
theorem dX2_nextToken_161 : decode cX2_nextToken 161 = .ok (.putfield 46, 3) := by decide +kernel
theorem dX2_nextToken_164 : decode cX2_nextToken 164 = .ok (.aload_n 0, 1) := by decide +kernel
theorem dX2_nextToken_165 : decode cX2_nextToken 165 = .ok (.dup, 1) := by decide +kernel
theorem dX2_nextToken_166 : decode cX2_nextToken 166 = .ok (.getfield 33, 3) := by decide +kernel
theorem dX2_nextToken_169 : decode cX2_nextToken 169 = .ok (.iconst 1, 1) := by decide +kernel
theorem dX2_nextToken_170 : decode cX2_nextToken 170 = .ok (.iadd, 1) := by decide +kernel
theorem dX2_nextToken_171 : decode cX2_nextToken 171 = .ok (.putfield 33, 3) := by decide +kernel
theorem dX2_nextToken_174 : decode cX2_nextToken 174 = .ok (.return_, 1) := by decide +kernel
set_option maxRecDepth 20000 in
theorem ggX2_readDigits_X2_isDigit : GoodIn wsX2_readDigits wsX2_isDigit := goodIn_r _ [8] (by decide +kernel) (by decide +kernel)
set_option maxRecDepth 20000 in
theorem gX2_readDigits_X2_isDigit : GoodIn wsX2_readDigits (va_wsS RX2 120 yX2_isDigit wsX2_isDigit) := goodIn_app (goodIn_of _ (by decide +kernel)) ggX2_readDigits_X2_isDigit
theorem dX2_readDigits_0 : decode cX2_readDigits 0 = .ok (.aload_n 0, 1) := by decide +kernel
theorem dX2_readDigits_1 : decode cX2_readDigits 1 = .ok (.iconst 0, 1) := by decide +kernel
theorem dX2_readDigits_2 : decode cX2_readDigits 2 = .ok (.putfield 108, 3) := by decide +kernel
theorem dX2_readDigits_5 : decode cX2_readDigits 5 = .ok (.aload_n 0, 1) := by decide +kernel
theorem dX2_readDigits_6 : decode cX2_readDigits 6 = .ok (.getfield 33, 3) := by decide +kernel
theorem dX2_readDigits_9 : decode cX2_readDigits 9 = .ok (.aload_n 0, 1) := by decide +kernel
theorem dX2_readDigits_10 : decode cX2_readDigits 10 = .ok (.getfield 22, 3) := by decide +kernel
theorem dX2_readDigits_13 : decode cX2_readDigits 13 = .ok (.if_icmp .ge 55, 3) := by decide +kernel
theorem dX2_readDigits_16 : decode cX2_readDigits 16 = .ok (.aload_n 0, 1) := by decide +kernel
theorem dX2_readDigits_17 : decode cX2_readDigits 17 = .ok (.getfield 9, 3) := by decide +kernel
theorem dX2_readDigits_20 : decode cX2_readDigits 20 = .ok (.aload_n 0, 1) := by decide +kernel
theorem dX2_readDigits_21 : decode cX2_readDigits 21 = .ok (.getfield 33, 3) := by decide +kernel
theorem dX2_readDigits_24 : decode cX2_readDigits 24 = .ok (.iaload, 1) := by decide +kernel
theorem dX2_readDigits_25 : decode cX2_readDigits 25 = .ok (.invokestatic 120, 3) := by decide +kernel
theorem dX2_readDigits_28 : decode cX2_readDigits 28 = .ok (.ifCond .eq 40, 3) := by decide +kernel
theorem dX2_readDigits_31 : decode cX2_readDigits 31 = .ok (.aload_n 0, 1) := by decide +kernel
theorem dX2_readDigits_32 : decode cX2_readDigits 32 = .ok (.bipush 10, 2) := by decide +kernel
theorem dX2_readDigits_34 : decode cX2_readDigits 34 = .ok (.aload_n 0, 1) := by decide +kernel
theorem dX2_readDigits_35 : decode cX2_readDigits 35 = .ok (.getfield 108, 3) := by decide +kernel
theorem dX2_readDigits_38 : decode cX2_readDigits 38 = .ok (.imul, 1) := by decide +kernel
theorem dX2_readDigits_39 : decode cX2_readDigits 39 = .ok (.aload_n 0, 1) := by decide +kernel
theorem dX2_readDigits_40 : decode cX2_readDigits 40 = .ok (.getfield 9, 3) := by decide +kernel
theorem dX2_readDigits_43 : decode cX2_readDigits 43 = .ok (.aload_n 0, 1) := by decide +kernel
theorem dX2_readDigits_44 : decode cX2_readDigits 44 = .ok (.getfield 33, 3) := by decide +kernel
theorem dX2_readDigits_47 : decode cX2_readDigits 47 = .ok (.iaload, 1) := by decide +kernel
theorem dX2_readDigits_48 : decode cX2_readDigits 48 = .ok (.iadd, 1) := by decide +kernel
theorem dX2_readDigits_49 : decode cX2_readDigits 49 = .ok (.bipush 48, 2) := by decide +kernel
theorem dX2_readDigits_51 : decode cX2_readDigits 51 = .ok (.isub, 1) := by decide +kernel
theorem dX2_readDigits_52 : decode cX2_readDigits 52 = .ok (.putfield 108, 3) := by decide +kernel
theorem dX2_readDigits_55 : decode cX2_readDigits 55 = .ok (.aload_n 0, 1) := by decide +kernel
theorem dX2_readDigits_56 : decode cX2_readDigits 56 = .ok (.dup, 1) := by decide +kernel
theorem dX2_readDigits_57 : decode cX2_readDigits 57 = .ok (.getfield 33, 3) := by decide +kernel
theorem dX2_readDigits_60 : decode cX2_readDigits 60 = .ok (.iconst 1, 1) := by decide +kernel
theorem dX2_readDigits_61 : decode cX2_readDigits 61 = .ok (.iadd, 1) := by decide +kernel
theorem dX2_readDigits_62 : decode cX2_readDigits 62 = .ok (.putfield 33, 3) := by decide +kernel
theorem dX2_readDigits_65 : decode cX2_readDigits 65 = .ok (.goto (-60), 3) := by decide +kernel
theorem dX2_readDigits_68 : decode cX2_readDigits 68 = .ok (.return_, 1) := by decide +kernel
set_option maxRecDepth 20000 in
theorem ggX2_isWord_J0_length_8abf5 : GoodIn wsX2_isWord wsJ0_length_8abf5 := goodIn_r _ [8, 9, 10, 11, 12, 7, 13, 14, 15] (by decide +kernel) (by decide +kernel)
set_option maxRecDepth 20000 in
theorem gX2_isWord_J0_length_8abf5 : GoodIn wsX2_isWord (wsV RX2 126 RJ0 yJ0_length_8abf5 wsJ0_length_8abf5) := goodIn_app (goodIn_of _ (by decide +kernel)) ggX2_isWord_J0_length_8abf5
set_option maxRecDepth 20000 in
theorem ggX2_isWord_J0_charAt_5068e : GoodIn wsX2_isWord wsJ0_charAt_5068e := goodIn_r _ [19, 9, 20, 21, 22, 7, 23, 14, 15, 24, 25, 26, 27, 28, 29, 30, 31, 32, 33, 34, 35, 36, 37, 38, 39, 40, 41, 42, 43, 44, 45, 46, 47, 48, 49, 50, 51, 52] (by decide +kernel) (by decide +kernel)
set_option maxRecDepth 20000 in
theorem gX2_isWord_J0_charAt_5068e : GoodIn wsX2_isWord (wsV RX2 131 RJ0 yJ0_charAt_5068e wsJ0_charAt_5068e) := goodIn_app (goodIn_of _ (by decide +kernel)) ggX2_isWord_J0_charAt_5068e
theorem dX2_isWord_0 : decode cX2_isWord 0 = .ok (.aload_n 0, 1) := by decide +kernel
theorem dX2_isWord_1 : decode cX2_isWord 1 = .ok (.getfield 33, 3) := by decide +kernel
theorem dX2_isWord_4 : decode cX2_isWord 4 = .ok (.aload_n 0, 1) := by decide +kernel
theorem dX2_isWord_5 : decode cX2_isWord 5 = .ok (.getfield 43, 3) := by decide +kernel
theorem dX2_isWord_8 : decode cX2_isWord 8 = .ok (.isub, 1) := by decide +kernel
theorem dX2_isWord_9 : decode cX2_isWord 9 = .ok (.aload_n 1, 1) := by decide +kernel
theorem dX2_isWord_10 : decode cX2_isWord 10 = .ok (.invokevirtual 126, 3) := by decide +kernel
theorem dX2_isWord_13 : decode cX2_isWord 13 = .ok (.if_icmp .eq 5, 3) := by decide +kernel
theorem dX2_isWord_16 : decode cX2_isWord 16 = .ok (.iconst 0, 1) := by decide +kernel
theorem dX2_isWord_17 : decode cX2_isWord 17 = .ok (.ireturn, 1) := by decide +kernel
theorem dX2_isWord_18 : decode cX2_isWord 18 = .ok (.iconst 0, 1) := by decide +kernel
theorem dX2_isWord_19 : decode cX2_isWord 19 = .ok (.istore_n 2, 1) := by decide +kernel
theorem dX2_isWord_20 : decode cX2_isWord 20 = .ok (.iload_n 2, 1) := by decide +kernel
theorem dX2_isWord_21 : decode cX2_isWord 21 = .ok (.aload_n 1, 1) := by decide +kernel
theorem dX2_isWord_22 : decode cX2_isWord 22 = .ok (.invokevirtual 126, 3) := by decide +kernel
theorem dX2_isWord_25 : decode cX2_isWord 25 = .ok (.if_icmp .ge 30, 3) := by decide +kernel
theorem dX2_isWord_28 : decode cX2_isWord 28 = .ok (.aload_n 0, 1) := by decide +kernel
theorem dX2_isWord_29 : decode cX2_isWord 29 = .ok (.getfield 9, 3) := by decide +kernel
theorem dX2_isWord_32 : decode cX2_isWord 32 = .ok (.aload_n 0, 1) := by decide +kernel
theorem dX2_isWord_33 : decode cX2_isWord 33 = .ok (.getfield 43, 3) := by decide +kernel
theorem dX2_isWord_36 : decode cX2_isWord 36 = .ok (.iload_n 2, 1) := by decide +kernel
theorem dX2_isWord_37 : decode cX2_isWord 37 = .ok (.iadd, 1) := by decide +kernel
theorem dX2_isWord_38 : decode cX2_isWord 38 = .ok (.iaload, 1) := by decide +kernel
theorem dX2_isWord_39 : decode cX2_isWord 39 = .ok (.aload_n 1, 1) := by decide +kernel
theorem dX2_isWord_40 : decode cX2_isWord 40 = .ok (.iload_n 2, 1) := by decide +kernel
theorem dX2_isWord_41 : decode cX2_isWord 41 = .ok (.invokevirtual 131, 3) := by decide +kernel
theorem dX2_isWord_44 : decode cX2_isWord 44 = .ok (.if_icmp .eq 5, 3) := by decide +kernel
theorem dX2_isWord_47 : decode cX2_isWord 47 = .ok (.iconst 0, 1) := by decide +kernel
theorem dX2_isWord_48 : decode cX2_isWord 48 = .ok (.ireturn, 1) := by decide +kernel
theorem dX2_isWord_49 : decode cX2_isWord 49 = .ok (.iinc 2 1, 3) := by decide +kernel
theorem dX2_isWord_52 : decode cX2_isWord 52 = .ok (.goto (-32), 3) := by decide +kernel
theorem dX2_isWord_55 : decode cX2_isWord 55 = .ok (.iconst 1, 1) := by decide +kernel
theorem dX2_isWord_56 : decode cX2_isWord 56 = .ok (.ireturn, 1) := by decide +kernel
theorem dX2_isLetter_0 : decode cX2_isLetter 0 = .ok (.iload_n 0, 1) := by decide +kernel
theorem dX2_isLetter_1 : decode cX2_isLetter 1 = .ok (.bipush 97, 2) := by decide +kernel
theorem dX2_isLetter_3 : decode cX2_isLetter 3 = .ok (.if_icmp .lt 13, 3) := by decide +kernel
theorem dX2_isLetter_6 : decode cX2_isLetter 6 = .ok (.iload_n 0, 1) := by decide +kernel
theorem dX2_isLetter_7 : decode cX2_isLetter 7 = .ok (.bipush 122, 2) := by decide +kernel
theorem dX2_isLetter_9 : decode cX2_isLetter 9 = .ok (.if_icmp .gt 7, 3) := by decide +kernel
theorem dX2_isLetter_12 : decode cX2_isLetter 12 = .ok (.iconst 1, 1) := by decide +kernel
theorem dX2_isLetter_13 : decode cX2_isLetter 13 = .ok (.goto 4, 3) := by decide +kernel
theorem dX2_isLetter_16 : decode cX2_isLetter 16 = .ok (.iconst 0, 1) := by decide +kernel
theorem dX2_isLetter_17 : decode cX2_isLetter 17 = .ok (.ireturn, 1) := by decide +kernel
theorem dX2_isDigit_0 : decode cX2_isDigit 0 = .ok (.iload_n 0, 1) := by decide +kernel
theorem dX2_isDigit_1 : decode cX2_isDigit 1 = .ok (.bipush 48, 2) := by decide +kernel
theorem dX2_isDigit_3 : decode cX2_isDigit 3 = .ok (.if_icmp .lt 13, 3) := by decide +kernel
theorem dX2_isDigit_6 : decode cX2_isDigit 6 = .ok (.iload_n 0, 1) := by decide +kernel
theorem dX2_isDigit_7 : decode cX2_isDigit 7 = .ok (.bipush 57, 2) := by decide +kernel
theorem dX2_isDigit_9 : decode cX2_isDigit 9 = .ok (.if_icmp .gt 7, 3) := by decide +kernel
theorem dX2_isDigit_12 : decode cX2_isDigit 12 = .ok (.iconst 1, 1) := by decide +kernel
theorem dX2_isDigit_13 : decode cX2_isDigit 13 = .ok (.goto 4, 3) := by decide +kernel
theorem dX2_isDigit_16 : decode cX2_isDigit 16 = .ok (.iconst 0, 1) := by decide +kernel
theorem dX2_isDigit_17 : decode cX2_isDigit 17 = .ok (.ireturn, 1) := by decide +kernel
theorem dX3_init_0 : decode cX3_init 0 = .ok (.aload_n 0, 1) := by decide +kernel
theorem dX3_init_1 : decode cX3_init 1 = .ok (.invokespecial 3, 3) := by decide +kernel
theorem dX3_init_4 : decode cX3_init 4 = .ok (.aload_n 0, 1) := by decide +kernel
theorem dX3_init_5 : decode cX3_init 5 = .ok (.bipush 6, 2) := by decide +kernel
theorem dX3_init_7 : decode cX3_init 7 = .ok (.newarray .int, 2) := by decide +kernel
theorem dX3_init_9 : decode cX3_init 9 = .ok (.putfield 9, 3) := by decide +kernel
theorem dX3_init_12 : decode cX3_init 12 = .ok (.aload_n 0, 1) := by decide +kernel
theorem dX3_init_13 : decode cX3_init 13 = .ok (.bipush 6, 2) := by decide +kernel
theorem dX3_init_15 : decode cX3_init 15 = .ok (.newarray .int, 2) := by decide +kernel
theorem dX3_init_17 : decode cX3_init 17 = .ok (.putfield 15, 3) := by decide +kernel
theorem dX3_init_20 : decode cX3_init 20 = .ok (.aload_n 0, 1) := by decide +kernel
theorem dX3_init_21 : decode cX3_init 21 = .ok (.bipush 6, 2) := by decide +kernel
theorem dX3_init_23 : decode cX3_init 23 = .ok (.newarray .int, 2) := by decide +kernel
theorem dX3_init_25 : decode cX3_init 25 = .ok (.putfield 18, 3) := by decide +kernel
theorem dX3_init_28 : decode cX3_init 28 = .ok (.aload_n 0, 1) := by decide +kernel
theorem dX3_init_29 : decode cX3_init 29 = .ok (.bipush 6, 2) := by decide +kernel
theorem dX3_init_31 : decode cX3_init 31 = .ok (.newarray .int, 2) := by decide +kernel
theorem dX3_init_33 : decode cX3_init 33 = .ok (.putfield 21, 3) := by decide +kernel
theorem dX3_init_36 : decode cX3_init 36 = .ok (.aload_n 0, 1) := by decide +kernel
theorem dX3_init_37 : decode cX3_init 37 = .ok (.bipush 6, 2) := by decide +kernel
theorem dX3_init_39 : decode cX3_init 39 = .ok (.newarray .int, 2) := by decide +kernel
theorem dX3_init_41 : decode cX3_init 41 = .ok (.putfield 24, 3) := by decide +kernel
theorem dX3_init_44 : decode cX3_init 44 = .ok (.aload_n 0, 1) := by decide +kernel
theorem dX3_init_45 : decode cX3_init 45 = .ok (.bipush 6, 2) := by decide +kernel
theorem dX3_init_47 : decode cX3_init 47 = .ok (.newarray .int, 2) := by decide +kernel
theorem dX3_init_49 : decode cX3_init 49 = .ok (.putfield 27, 3) := by decide +kernel
theorem dX3_init_52 : decode cX3_init 52 = .ok (.aload_n 0, 1) := by decide +kernel
theorem dX3_init_53 : decode cX3_init 53 = .ok (.bipush 6, 2) := by decide +kernel
theorem dX3_init_55 : decode cX3_init 55 = .ok (.newarray .int, 2) := by decide +kernel
theorem dX3_init_57 : decode cX3_init 57 = .ok (.putfield 30, 3) := by decide +kernel
theorem dX3_init_60 : decode cX3_init 60 = .ok (.aload_n 0, 1) := by decide +kernel
theorem dX3_init_61 : decode cX3_init 61 = .ok (.iconst 5, 1) := by decide +kernel
theorem dX3_init_62 : decode cX3_init 62 = .ok (.putfield 33, 3) := by decide +kernel
theorem dX3_init_65 : decode cX3_init 65 = .ok (.return_, 1) := by decide +kernel
theorem dX3_has_0 : decode cX3_has 0 = .ok (.iload_n 1, 1) := by decide +kernel
theorem dX3_has_1 : decode cX3_has 1 = .ok (.ifCond .lt 15, 3) := by decide +kernel
theorem dX3_has_4 : decode cX3_has 4 = .ok (.iload_n 1, 1) := by decide +kernel
theorem dX3_has_5 : decode cX3_has 5 = .ok (.aload_n 0, 1) := by decide +kernel
theorem dX3_has_6 : decode cX3_has 6 = .ok (.getfield 37, 3) := by decide +kernel
theorem dX3_has_9 : decode cX3_has 9 = .ok (.if_icmp .ge 7, 3) := by decide +kernel
theorem dX3_has_12 : decode cX3_has 12 = .ok (.iconst 1, 1) := by decide +kernel
theorem dX3_has_13 : decode cX3_has 13 = .ok (.goto 4, 3) := by decide +kernel
theorem dX3_has_16 : decode cX3_has 16 = .ok (.iconst 0, 1) := by decide +kernel
theorem dX3_has_17 : decode cX3_has 17 = .ok (.ireturn, 1) := by decide +kernel
theorem dX3_forget_0 : decode cX3_forget 0 = .ok (.aload_n 0, 1) := by decide +kernel
theorem dX3_forget_1 : decode cX3_forget 1 = .ok (.iconst 0, 1) := by decide +kernel
theorem dX3_forget_2 : decode cX3_forget 2 = .ok (.putfield 37, 3) := by decide +kernel
theorem dX3_forget_5 : decode cX3_forget 5 = .ok (.aload_n 0, 1) := by decide +kernel
theorem dX3_forget_6 : decode cX3_forget 6 = .ok (.iconst 0, 1) := by decide +kernel
theorem dX3_forget_7 : decode cX3_forget 7 = .ok (.putfield 40, 3) := by decide +kernel
theorem dX3_forget_10 : decode cX3_forget 10 = .ok (.aload_n 0, 1) := by decide +kernel
theorem dX3_forget_11 : decode cX3_forget 11 = .ok (.iconst 5, 1) := by decide +kernel
theorem dX3_forget_12 : decode cX3_forget 12 = .ok (.putfield 33, 3) := by decide +kernel
theorem dX3_forget_15 : decode cX3_forget 15 = .ok (.return_, 1) := by decide +kernel
theorem dX3_copyFrom_0 : decode cX3_copyFrom 0 = .ok (.aload_n 0, 1) := by decide +kernel
theorem dX3_copyFrom_1 : decode cX3_copyFrom 1 = .ok (.aload_n 1, 1) := by decide +kernel
theorem dX3_copyFrom_2 : decode cX3_copyFrom 2 = .ok (.getfield 37, 3) := by decide +kernel
theorem dX3_copyFrom_5 : decode cX3_copyFrom 5 = .ok (.putfield 37, 3) := by decide +kernel
theorem dX3_copyFrom_8 : decode cX3_copyFrom 8 = .ok (.aload_n 1, 1) := by decide +kernel
theorem dX3_copyFrom_9 : decode cX3_copyFrom 9 = .ok (.getfield 9, 3) := by decide +kernel
theorem dX3_copyFrom_12 : decode cX3_copyFrom 12 = .ok (.iconst 0, 1) := by decide +kernel
theorem dX3_copyFrom_13 : decode cX3_copyFrom 13 = .ok (.aload_n 0, 1) := by decide +kernel
theorem dX3_copyFrom_14 : decode cX3_copyFrom 14 = .ok (.getfield 9, 3) := by decide +kernel
theorem dX3_copyFrom_17 : decode cX3_copyFrom 17 = .ok (.iconst 0, 1) := by decide +kernel
theorem dX3_copyFrom_18 : decode cX3_copyFrom 18 = .ok (.bipush 6, 2) := by decide +kernel
theorem dX3_copyFrom_20 : decode cX3_copyFrom 20 = .ok (.invokestatic 43, 3) := by decide +kernel
theorem dX3_copyFrom_23 : decode cX3_copyFrom 23 = .ok (.aload_n 1, 1) := by decide +kernel
theorem dX3_copyFrom_24 : decode cX3_copyFrom 24 = .ok (.getfield 15, 3) := by decide +kernel
theorem dX3_copyFrom_27 : decode cX3_copyFrom 27 = .ok (.iconst 0, 1) := by decide +kernel
theorem dX3_copyFrom_28 : decode cX3_copyFrom 28 = .ok (.aload_n 0, 1) := by decide +kernel
theorem dX3_copyFrom_29 : decode cX3_copyFrom 29 = .ok (.getfield 15, 3) := by decide +kernel
theorem dX3_copyFrom_32 : decode cX3_copyFrom 32 = .ok (.iconst 0, 1) := by decide +kernel
theorem dX3_copyFrom_33 : decode cX3_copyFrom 33 = .ok (.bipush 6, 2) := by decide +kernel
theorem dX3_copyFrom_35 : decode cX3_copyFrom 35 = .ok (.invokestatic 43, 3) := by decide +kernel
theorem dX3_copyFrom_38 : decode cX3_copyFrom 38 = .ok (.aload_n 1, 1) := by decide +kernel
theorem dX3_copyFrom_39 : decode cX3_copyFrom 39 = .ok (.getfield 18, 3) := by decide +kernel
theorem dX3_copyFrom_42 : decode cX3_copyFrom 42 = .ok (.iconst 0, 1) := by decide +kernel
theorem dX3_copyFrom_43 : decode cX3_copyFrom 43 = .ok (.aload_n 0, 1) := by decide +kernel
theorem dX3_copyFrom_44 : decode cX3_copyFrom 44 = .ok (.getfield 18, 3) := by decide +kernel
theorem dX3_copyFrom_47 : decode cX3_copyFrom 47 = .ok (.iconst 0, 1) := by decide +kernel
theorem dX3_copyFrom_48 : decode cX3_copyFrom 48 = .ok (.bipush 6, 2) := by decide +kernel
theorem dX3_copyFrom_50 : decode cX3_copyFrom 50 = .ok (.invokestatic 43, 3) := by decide +kernel
theorem dX3_copyFrom_53 : decode cX3_copyFrom 53 = .ok (.aload_n 1, 1) := by decide +kernel
theorem dX3_copyFrom_54 : decode cX3_copyFrom 54 = .ok (.getfield 21, 3) := by decide +kernel
theorem dX3_copyFrom_57 : decode cX3_copyFrom 57 = .ok (.iconst 0, 1) := by decide +kernel
theorem dX3_copyFrom_58 : decode cX3_copyFrom 58 = .ok (.aload_n 0, 1) := by decide +kernel
theorem dX3_copyFrom_59 : decode cX3_copyFrom 59 = .ok (.getfield 21, 3) := by decide +kernel
theorem dX3_copyFrom_62 : decode cX3_copyFrom 62 = .ok (.iconst 0, 1) := by decide +kernel
theorem dX3_copyFrom_63 : decode cX3_copyFrom 63 = .ok (.bipush 6, 2) := by decide +kernel
theorem dX3_copyFrom_65 : decode cX3_copyFrom 65 = .ok (.invokestatic 43, 3) := by decide +kernel
theorem dX3_copyFrom_68 : decode cX3_copyFrom 68 = .ok (.aload_n 1, 1) := by decide +kernel
theorem dX3_copyFrom_69 : decode cX3_copyFrom 69 = .ok (.getfield 24, 3) := by decide +kernel
theorem dX3_copyFrom_72 : decode cX3_copyFrom 72 = .ok (.iconst 0, 1) := by decide +kernel
theorem dX3_copyFrom_73 : decode cX3_copyFrom 73 = .ok (.aload_n 0, 1) := by decide +kernel
theorem dX3_copyFrom_74 : decode cX3_copyFrom 74 = .ok (.getfield 24, 3) := by decide +kernel
theorem dX3_copyFrom_77 : decode cX3_copyFrom 77 = .ok (.iconst 0, 1) := by decide +kernel
theorem dX3_copyFrom_78 : decode cX3_copyFrom 78 = .ok (.bipush 6, 2) := by decide +kernel
theorem dX3_copyFrom_80 : decode cX3_copyFrom 80 = .ok (.invokestatic 43, 3) := by decide +kernel
theorem dX3_copyFrom_83 : decode cX3_copyFrom 83 = .ok (.aload_n 0, 1) := by decide +kernel
theorem dX3_copyFrom_84 : decode cX3_copyFrom 84 = .ok (.aload_n 1, 1) := by decide +kernel
theorem dX3_copyFrom_85 : decode cX3_copyFrom 85 = .ok (.getfield 40, 3) := by decide +kernel
theorem dX3_copyFrom_88 : decode cX3_copyFrom 88 = .ok (.putfield 40, 3) := by decide +kernel
theorem dX3_copyFrom_91 : decode cX3_copyFrom 91 = .ok (.aload_n 1, 1) := by decide +kernel
theorem dX3_copyFrom_92 : decode cX3_copyFrom 92 = .ok (.getfield 27, 3) := by decide +kernel
theorem dX3_copyFrom_95 : decode cX3_copyFrom 95 = .ok (.iconst 0, 1) := by decide +kernel
theorem dX3_copyFrom_96 : decode cX3_copyFrom 96 = .ok (.aload_n 0, 1) := by decide +kernel
theorem dX3_copyFrom_97 : decode cX3_copyFrom 97 = .ok (.getfield 27, 3) := by decide +kernel
theorem dX3_copyFrom_100 : decode cX3_copyFrom 100 = .ok (.iconst 0, 1) := by decide +kernel
theorem dX3_copyFrom_101 : decode cX3_copyFrom 101 = .ok (.bipush 6, 2) := by decide +kernel
theorem dX3_copyFrom_103 : decode cX3_copyFrom 103 = .ok (.invokestatic 43, 3) := by decide +kernel
theorem dX3_copyFrom_106 : decode cX3_copyFrom 106 = .ok (.aload_n 1, 1) := by decide +kernel
theorem dX3_copyFrom_107 : decode cX3_copyFrom 107 = .ok (.getfield 30, 3) := by decide +kernel
theorem dX3_copyFrom_110 : decode cX3_copyFrom 110 = .ok (.iconst 0, 1) := by decide +kernel
theorem dX3_copyFrom_111 : decode cX3_copyFrom 111 = .ok (.aload_n 0, 1) := by decide +kernel
theorem dX3_copyFrom_112 : decode cX3_copyFrom 112 = .ok (.getfield 30, 3) := by decide +kernel
theorem dX3_copyFrom_115 : decode cX3_copyFrom 115 = .ok (.iconst 0, 1) := by decide +kernel
theorem dX3_copyFrom_116 : decode cX3_copyFrom 116 = .ok (.bipush 6, 2) := by decide +kernel
theorem dX3_copyFrom_118 : decode cX3_copyFrom 118 = .ok (.invokestatic 43, 3) := by decide +kernel
theorem dX3_copyFrom_121 : decode cX3_copyFrom 121 = .ok (.aload_n 0, 1) := by decide +kernel
theorem dX3_copyFrom_122 : decode cX3_copyFrom 122 = .ok (.aload_n 1, 1) := by decide +kernel
theorem dX3_copyFrom_123 : decode cX3_copyFrom 123 = .ok (.getfield 33, 3) := by decide +kernel
theorem dX3_copyFrom_126 : decode cX3_copyFrom 126 = .ok (.putfield 33, 3) := by decide +kernel
theorem dX3_copyFrom_129 : decode cX3_copyFrom 129 = .ok (.return_, 1) := by decide +kernel
theorem dX3_addTree_0 : decode cX3_addTree 0 = .ok (.aload_n 0, 1) := by decide +kernel
theorem dX3_addTree_1 : decode cX3_addTree 1 = .ok (.getfield 37, 3) := by decide +kernel
theorem dX3_addTree_4 : decode cX3_addTree 4 = .ok (.bipush 6, 2) := by decide +kernel
theorem dX3_addTree_6 : decode cX3_addTree 6 = .ok (.if_icmp .lt 4, 3) := by decide +kernel
theorem dX3_addTree_9 : decode cX3_addTree 9 = .ok (.return_, 1) := by decide +kernel
theorem dX3_addTree_10 : decode cX3_addTree 10 = .ok (.aload_n 0, 1) := by decide +kernel
theorem dX3_addTree_11 : decode cX3_addTree 11 = .ok (.getfield 9, 3) := by decide +kernel
theorem dX3_addTree_14 : decode cX3_addTree 14 = .ok (.aload_n 0, 1) := by decide +kernel
theorem dX3_addTree_15 : decode cX3_addTree 15 = .ok (.getfield 37, 3) := by decide +kernel
theorem dX3_addTree_18 : decode cX3_addTree 18 = .ok (.iload_n 1, 1) := by decide +kernel
theorem dX3_addTree_19 : decode cX3_addTree 19 = .ok (.iastore, 1) := by decide +kernel
theorem dX3_addTree_20 : decode cX3_addTree 20 = .ok (.aload_n 0, 1) := by decide +kernel
theorem dX3_addTree_21 : decode cX3_addTree 21 = .ok (.getfield 15, 3) := by decide +kernel
theorem dX3_addTree_24 : decode cX3_addTree 24 = .ok (.aload_n 0, 1) := by decide +kernel
theorem dX3_addTree_25 : decode cX3_addTree 25 = .ok (.getfield 37, 3) := by decide +kernel
theorem dX3_addTree_28 : decode cX3_addTree 28 = .ok (.iload_n 2, 1) := by decide +kernel
theorem dX3_addTree_29 : decode cX3_addTree 29 = .ok (.iastore, 1) := by decide +kernel
theorem dX3_addTree_30 : decode cX3_addTree 30 = .ok (.aload_n 0, 1) := by decide +kernel
theorem dX3_addTree_31 : decode cX3_addTree 31 = .ok (.getfield 18, 3) := by decide +kernel
theorem dX3_addTree_34 : decode cX3_addTree 34 = .ok (.aload_n 0, 1) := by decide +kernel
theorem dX3_addTree_35 : decode cX3_addTree 35 = .ok (.getfield 37, 3) := by decide +kernel
theorem dX3_addTree_38 : decode cX3_addTree 38 = .ok (.iload_n 3, 1) := by decide +kernel
theorem dX3_addTree_39 : decode cX3_addTree 39 = .ok (.iastore, 1) := by decide +kernel
theorem dX3_addTree_40 : decode cX3_addTree 40 = .ok (.aload_n 0, 1) := by decide +kernel
theorem dX3_addTree_41 : decode cX3_addTree 41 = .ok (.getfield 21, 3) := by decide +kernel
theorem dX3_addTree_44 : decode cX3_addTree 44 = .ok (.aload_n 0, 1) := by decide +kernel
theorem dX3_addTree_45 : decode cX3_addTree 45 = .ok (.getfield 37, 3) := by decide +kernel
theorem dX3_addTree_48 : decode cX3_addTree 48 = .ok (.iload 4, 2) := by decide +kernel
theorem dX3_addTree_50 : decode cX3_addTree 50 = .ok (.iastore, 1) := by decide +kernel
theorem dX3_addTree_51 : decode cX3_addTree 51 = .ok (.aload_n 0, 1) := by decide +kernel
theorem dX3_addTree_52 : decode cX3_addTree 52 = .ok (.getfield 24, 3) := by decide +kernel
theorem dX3_addTree_55 : decode cX3_addTree 55 = .ok (.aload_n 0, 1) := by decide +kernel
theorem dX3_addTree_56 : decode cX3_addTree 56 = .ok (.getfield 37, 3) := by decide +kernel
theorem dX3_addTree_59 : decode cX3_addTree 59 = .ok (.iconst 0, 1) := by decide +kernel
theorem dX3_addTree_60 : decode cX3_addTree 60 = .ok (.iastore, 1) := by decide +kernel
theorem dX3_addTree_61 : decode cX3_addTree 61 = .ok (.aload_n 0, 1) := by decide +kernel
theorem dX3_addTree_62 : decode cX3_addTree 62 = .ok (.dup, 1) := by decide +kernel
theorem dX3_addTree_63 : decode cX3_addTree 63 = .ok (.getfield 37, 3) := by decide +kernel
theorem dX3_addTree_66 : decode cX3_addTree 66 = .ok (.iconst 1, 1) := by decide +kernel
theorem dX3_addTree_67 : decode cX3_addTree 67 = .ok (.iadd, 1) := by decide +kernel
theorem dX3_addTree_68 : decode cX3_addTree 68 = .ok (.putfield 37, 3) := by decide +kernel
theorem dX3_addTree_71 : decode cX3_addTree 71 = .ok (.return_, 1) := by decide +kernel
theorem dX3_addQuarrel_0 : decode cX3_addQuarrel 0 = .ok (.aload_n 0, 1) := by decide +kernel
theorem dX3_addQuarrel_1 : decode cX3_addQuarrel 1 = .ok (.getfield 40, 3) := by decide +kernel
theorem dX3_addQuarrel_4 : decode cX3_addQuarrel 4 = .ok (.bipush 6, 2) := by decide +kernel
theorem dX3_addQuarrel_6 : decode cX3_addQuarrel 6 = .ok (.if_icmp .lt 4, 3) := by decide +kernel
theorem dX3_addQuarrel_9 : decode cX3_addQuarrel 9 = .ok (.return_, 1) := by decide +kernel
theorem dX3_addQuarrel_10 : decode cX3_addQuarrel 10 = .ok (.aload_n 0, 1) := by decide +kernel
theorem dX3_addQuarrel_11 : decode cX3_addQuarrel 11 = .ok (.getfield 27, 3) := by decide +kernel
theorem dX3_addQuarrel_14 : decode cX3_addQuarrel 14 = .ok (.aload_n 0, 1) := by decide +kernel
theorem dX3_addQuarrel_15 : decode cX3_addQuarrel 15 = .ok (.getfield 40, 3) := by decide +kernel
theorem dX3_addQuarrel_18 : decode cX3_addQuarrel 18 = .ok (.iload_n 1, 1) := by decide +kernel
theorem dX3_addQuarrel_19 : decode cX3_addQuarrel 19 = .ok (.iastore, 1) := by decide +kernel
theorem dX3_addQuarrel_20 : decode cX3_addQuarrel 20 = .ok (.aload_n 0, 1) := by decide +kernel
theorem dX3_addQuarrel_21 : decode cX3_addQuarrel 21 = .ok (.getfield 30, 3) := by decide +kernel
theorem dX3_addQuarrel_24 : decode cX3_addQuarrel 24 = .ok (.aload_n 0, 1) := by decide +kernel
theorem dX3_addQuarrel_25 : decode cX3_addQuarrel 25 = .ok (.getfield 40, 3) := by decide +kernel
theorem dX3_addQuarrel_28 : decode cX3_addQuarrel 28 = .ok (.iload_n 2, 1) := by decide +kernel
theorem dX3_addQuarrel_29 : decode cX3_addQuarrel 29 = .ok (.iastore, 1) := by decide +kernel
theorem dX3_addQuarrel_30 : decode cX3_addQuarrel 30 = .ok (.aload_n 0, 1) := by decide +kernel
theorem dX3_addQuarrel_31 : decode cX3_addQuarrel 31 = .ok (.dup, 1) := by decide +kernel
theorem dX3_addQuarrel_32 : decode cX3_addQuarrel 32 = .ok (.getfield 40, 3) := by decide +kernel
theorem dX3_addQuarrel_35 : decode cX3_addQuarrel 35 = .ok (.iconst 1, 1) := by decide +kernel
theorem dX3_addQuarrel_36 : decode cX3_addQuarrel 36 = .ok (.iadd, 1) := by decide +kernel
theorem dX3_addQuarrel_37 : decode cX3_addQuarrel 37 = .ok (.putfield 40, 3) := by decide +kernel
theorem dX3_addQuarrel_40 : decode cX3_addQuarrel 40 = .ok (.return_, 1) := by decide +kernel
theorem dX3_isOfKind_0 : decode cX3_isOfKind 0 = .ok (.aload_n 0, 1) := by decide +kernel
theorem dX3_isOfKind_1 : decode cX3_isOfKind 1 = .ok (.getfield 9, 3) := by decide +kernel
theorem dX3_isOfKind_4 : decode cX3_isOfKind 4 = .ok (.iload_n 1, 1) := by decide +kernel
theorem dX3_isOfKind_5 : decode cX3_isOfKind 5 = .ok (.iaload, 1) := by decide +kernel
theorem dX3_isOfKind_6 : decode cX3_isOfKind 6 = .ok (.iconst 1, 1) := by decide +kernel
theorem dX3_isOfKind_7 : decode cX3_isOfKind 7 = .ok (.iadd, 1) := by decide +kernel
theorem dX3_isOfKind_8 : decode cX3_isOfKind 8 = .ok (.istore_n 3, 1) := by decide +kernel
theorem dX3_isOfKind_9 : decode cX3_isOfKind 9 = .ok (.iconst 0, 1) := by decide +kernel
theorem dX3_isOfKind_10 : decode cX3_isOfKind 10 = .ok (.istore 4, 2) := by decide +kernel
theorem dX3_isOfKind_12 : decode cX3_isOfKind 12 = .ok (.iload 4, 2) := by decide +kernel
theorem dX3_isOfKind_14 : decode cX3_isOfKind 14 = .ok (.iconst 3, 1) := by decide +kernel
theorem dX3_isOfKind_15 : decode cX3_isOfKind 15 = .ok (.if_icmp .ge 22, 3) := by decide +kernel
theorem dX3_isOfKind_18 : decode cX3_isOfKind 18 = .ok (.iload_n 3, 1) := by decide +kernel
theorem dX3_isOfKind_19 : decode cX3_isOfKind 19 = .ok (.iload_n 2, 1) := by decide +kernel
theorem dX3_isOfKind_20 : decode cX3_isOfKind 20 = .ok (.if_icmp .ne 5, 3) := by decide +kernel
theorem dX3_isOfKind_23 : decode cX3_isOfKind 23 = .ok (.iconst 1, 1) := by decide +kernel
theorem dX3_isOfKind_24 : decode cX3_isOfKind 24 = .ok (.ireturn, 1) := by decide +kernel
theorem dX3_isOfKind_25 : decode cX3_isOfKind 25 = .ok (.getstatic 49, 3) := by decide +kernel
theorem dX3_isOfKind_28 : decode cX3_isOfKind 28 = .ok (.iload_n 3, 1) := by decide +kernel
theorem dX3_isOfKind_29 : decode cX3_isOfKind 29 = .ok (.iaload, 1) := by decide +kernel
theorem dX3_isOfKind_30 : decode cX3_isOfKind 30 = .ok (.istore_n 3, 1) := by decide +kernel
theorem dX3_isOfKind_31 : decode cX3_isOfKind 31 = .ok (.iinc 4 1, 3) := by decide +kernel
theorem dX3_isOfKind_34 : decode cX3_isOfKind 34 = .ok (.goto (-22), 3) := by decide +kernel
theorem dX3_isOfKind_37 : decode cX3_isOfKind 37 = .ok (.iconst 0, 1) := by decide +kernel
theorem dX3_isOfKind_38 : decode cX3_isOfKind 38 = .ok (.ireturn, 1) := by decide +kernel
theorem dX3_dueOf_0 : decode cX3_dueOf 0 = .ok (.aload_n 0, 1) := by decide +kernel
theorem dX3_dueOf_1 : decode cX3_dueOf 1 = .ok (.getfield 9, 3) := by decide +kernel
theorem dX3_dueOf_4 : decode cX3_dueOf 4 = .ok (.iload_n 1, 1) := by decide +kernel
theorem dX3_dueOf_5 : decode cX3_dueOf 5 = .ok (.iaload, 1) := by decide +kernel
theorem dX3_dueOf_6 : decode cX3_dueOf 6 = .ok (.iconst 1, 1) := by decide +kernel
theorem dX3_dueOf_7 : decode cX3_dueOf 7 = .ok (.if_icmp .ne 9, 3) := by decide +kernel
theorem dX3_dueOf_10 : decode cX3_dueOf 10 = .ok (.iload_n 2, 1) := by decide +kernel
theorem dX3_dueOf_11 : decode cX3_dueOf 11 = .ok (.iconst 1, 1) := by decide +kernel
theorem dX3_dueOf_12 : decode cX3_dueOf 12 = .ok (.iadd, 1) := by decide +kernel
theorem dX3_dueOf_13 : decode cX3_dueOf 13 = .ok (.goto 11, 3) := by decide +kernel
theorem dX3_dueOf_16 : decode cX3_dueOf 16 = .ok (.iload_n 2, 1) := by decide +kernel
theorem dX3_dueOf_17 : decode cX3_dueOf 17 = .ok (.aload_n 0, 1) := by decide +kernel
theorem dX3_dueOf_18 : decode cX3_dueOf 18 = .ok (.getfield 21, 3) := by decide +kernel
theorem dX3_dueOf_21 : decode cX3_dueOf 21 = .ok (.iload_n 1, 1) := by decide +kernel
theorem dX3_dueOf_22 : decode cX3_dueOf 22 = .ok (.iaload, 1) := by decide +kernel
theorem dX3_dueOf_23 : decode cX3_dueOf 23 = .ok (.iadd, 1) := by decide +kernel
theorem dX3_dueOf_24 : decode cX3_dueOf 24 = .ok (.ireturn, 1) := by decide +kernel
theorem dX3_grownOnce_0 : decode cX3_grownOnce 0 = .ok (.aload_n 0, 1) := by decide +kernel
theorem dX3_grownOnce_1 : decode cX3_grownOnce 1 = .ok (.getfield 18, 3) := by decide +kernel
theorem dX3_grownOnce_4 : decode cX3_grownOnce 4 = .ok (.iload_n 1, 1) := by decide +kernel
theorem dX3_grownOnce_5 : decode cX3_grownOnce 5 = .ok (.iaload, 1) := by decide +kernel
theorem dX3_grownOnce_6 : decode cX3_grownOnce 6 = .ok (.istore 4, 2) := by decide +kernel
theorem dX3_grownOnce_8 : decode cX3_grownOnce 8 = .ok (.aload_n 0, 1) := by decide +kernel
theorem dX3_grownOnce_9 : decode cX3_grownOnce 9 = .ok (.getfield 9, 3) := by decide +kernel
theorem dX3_grownOnce_12 : decode cX3_grownOnce 12 = .ok (.iload_n 1, 1) := by decide +kernel
theorem dX3_grownOnce_13 : decode cX3_grownOnce 13 = .ok (.iaload, 1) := by decide +kernel
theorem dX3_grownOnce_14 : decode cX3_grownOnce 14 = .ok (.lookupswitch 49 #[(2, 26), (3, 40)], 26) := by decide +kernel
theorem dX3_grownOnce_40 : decode cX3_grownOnce 40 = .ok (.iload_n 2, 1) := by decide +kernel
theorem dX3_grownOnce_41 : decode cX3_grownOnce 41 = .ok (.iload 4, 2) := by decide +kernel
theorem dX3_grownOnce_43 : decode cX3_grownOnce 43 = .ok (.iconst 2, 1) := by decide +kernel
theorem dX3_grownOnce_44 : decode cX3_grownOnce 44 = .ok (.idiv, 1) := by decide +kernel
theorem dX3_grownOnce_45 : decode cX3_grownOnce 45 = .ok (.imul, 1) := by decide +kernel
theorem dX3_grownOnce_46 : decode cX3_grownOnce 46 = .ok (.bipush 100, 2) := by decide +kernel
theorem dX3_grownOnce_48 : decode cX3_grownOnce 48 = .ok (.idiv, 1) := by decide +kernel
theorem dX3_grownOnce_49 : decode cX3_grownOnce 49 = .ok (.istore 5, 2) := by decide +kernel
theorem dX3_grownOnce_51 : decode cX3_grownOnce 51 = .ok (.goto 21, 3) := by decide +kernel
theorem dX3_grownOnce_54 : decode cX3_grownOnce 54 = .ok (.iload 4, 2) := by decide +kernel
theorem dX3_grownOnce_56 : decode cX3_grownOnce 56 = .ok (.iload_n 3, 1) := by decide +kernel
theorem dX3_grownOnce_57 : decode cX3_grownOnce 57 = .ok (.imul, 1) := by decide +kernel
theorem dX3_grownOnce_58 : decode cX3_grownOnce 58 = .ok (.istore 5, 2) := by decide +kernel
theorem dX3_grownOnce_60 : decode cX3_grownOnce 60 = .ok (.goto 12, 3) := by decide +kernel
theorem dX3_grownOnce_63 : decode cX3_grownOnce 63 = .ok (.iload_n 2, 1) := by decide +kernel
theorem dX3_grownOnce_64 : decode cX3_grownOnce 64 = .ok (.iload 4, 2) := by decide +kernel
theorem dX3_grownOnce_66 : decode cX3_grownOnce 66 = .ok (.imul, 1) := by decide +kernel
theorem dX3_grownOnce_67 : decode cX3_grownOnce 67 = .ok (.bipush 100, 2) := by decide +kernel
theorem dX3_grownOnce_69 : decode cX3_grownOnce 69 = .ok (.idiv, 1) := by decide +kernel
theorem dX3_grownOnce_70 : decode cX3_grownOnce 70 = .ok (.istore 5, 2) := by decide +kernel
theorem dX3_grownOnce_72 : decode cX3_grownOnce 72 = .ok (.iload_n 2, 1) := by decide +kernel
theorem dX3_grownOnce_73 : decode cX3_grownOnce 73 = .ok (.iload 5, 2) := by decide +kernel
theorem dX3_grownOnce_75 : decode cX3_grownOnce 75 = .ok (.iadd, 1) := by decide +kernel
theorem dX3_grownOnce_76 : decode cX3_grownOnce 76 = .ok (.ldc 52, 2) := by decide +kernel
theorem dX3_grownOnce_78 : decode cX3_grownOnce 78 = .ok (.invokestatic 53, 3) := by decide +kernel
theorem dX3_grownOnce_81 : decode cX3_grownOnce 81 = .ok (.ireturn, 1) := by decide +kernel
set_option maxRecDepth 20000 in
theorem ggX3_grownIn_X3_grownOnce : GoodIn wsX3_grownIn wsX3_grownOnce := goodIn_r _ [5, 6, 7, 8, 9, 10, 11, 12, 13, 14, 15, 16, 17, 18, 19, 20, 21, 22] (by decide +kernel) (by decide +kernel)
set_option maxRecDepth 20000 in
theorem gX3_grownIn_X3_grownOnce : GoodIn wsX3_grownIn (wsV RX3 59 RX3 yX3_grownOnce wsX3_grownOnce) := goodIn_app (goodIn_of _ (by decide +kernel)) ggX3_grownIn_X3_grownOnce
theorem dX3_grownIn_0 : decode cX3_grownIn 0 = .ok (.bipush 100, 2) := by decide +kernel
theorem dX3_grownIn_2 : decode cX3_grownIn 2 = .ok (.iload_n 2, 1) := by decide +kernel
theorem dX3_grownIn_3 : decode cX3_grownIn 3 = .ok (.imul, 1) := by decide +kernel
theorem dX3_grownIn_4 : decode cX3_grownIn 4 = .ok (.istore 4, 2) := by decide +kernel
theorem dX3_grownIn_6 : decode cX3_grownIn 6 = .ok (.iconst 0, 1) := by decide +kernel
theorem dX3_grownIn_7 : decode cX3_grownIn 7 = .ok (.istore 5, 2) := by decide +kernel
theorem dX3_grownIn_9 : decode cX3_grownIn 9 = .ok (.iload 5, 2) := by decide +kernel
theorem dX3_grownIn_11 : decode cX3_grownIn 11 = .ok (.iload_n 3, 1) := by decide +kernel
theorem dX3_grownIn_12 : decode cX3_grownIn 12 = .ok (.if_icmp .ge 19, 3) := by decide +kernel
theorem dX3_grownIn_15 : decode cX3_grownIn 15 = .ok (.aload_n 0, 1) := by decide +kernel
theorem dX3_grownIn_16 : decode cX3_grownIn 16 = .ok (.iload_n 1, 1) := by decide +kernel
theorem dX3_grownIn_17 : decode cX3_grownIn 17 = .ok (.iload 4, 2) := by decide +kernel
theorem dX3_grownIn_19 : decode cX3_grownIn 19 = .ok (.iload_n 2, 1) := by decide +kernel
theorem dX3_grownIn_20 : decode cX3_grownIn 20 = .ok (.invokevirtual 59, 3) := by decide +kernel
theorem dX3_grownIn_23 : decode cX3_grownIn 23 = .ok (.istore 4, 2) := by decide +kernel
theorem dX3_grownIn_25 : decode cX3_grownIn 25 = .ok (.iinc 5 1, 3) := by decide +kernel
theorem dX3_grownIn_28 : decode cX3_grownIn 28 = .ok (.goto (-19), 3) := by decide +kernel
theorem dX3_grownIn_31 : decode cX3_grownIn 31 = .ok (.iload 4, 2) := by decide +kernel
theorem dX3_grownIn_33 : decode cX3_grownIn 33 = .ok (.ireturn, 1) := by decide +kernel
set_option maxRecDepth 20000 in
theorem ggX4_init_X2_init : GoodIn wsX4_init wsX2_init := goodIn_r _ [25, 26, 2, 3, 27, 28, 29, 9, 10, 30, 31, 32, 33, 34, 35, 36, 37, 38, 39, 40, 41, 60, 61, 62, 63, 64, 65, 66, 67, 75, 76, 77, 78, 79, 80, 81, 82, 83, 84] (by decide +kernel) (by decide +kernel)
set_option maxRecDepth 20000 in
theorem gX4_init_X2_init_n9 : GoodIn wsX4_init (wsX2_init) := ggX4_init_X2_init
set_option maxRecDepth 20000 in
theorem ggX4_init_X3_init : GoodIn wsX4_init wsX3_init := goodIn_r _ [32, 33, 2, 3, 27, 34, 35, 36, 37, 38, 39, 40, 41, 75, 76, 77, 78, 79, 80, 81, 82, 83, 84] (by decide +kernel) (by decide +kernel)
set_option maxRecDepth 20000 in
theorem gX4_init_X3_init_n18 : GoodIn wsX4_init (wsX3_init) := ggX4_init_X3_init
set_option maxRecDepth 20000 in
theorem ggX4_init_X1_init : GoodIn wsX4_init wsX1_init := goodIn_r _ [43, 44, 2, 3, 27, 45, 46, 47, 48, 49, 50, 51, 85, 86, 87, 88, 89, 90, 91, 92, 93, 94] (by decide +kernel) (by decide +kernel)
set_option maxRecDepth 20000 in
theorem gX4_init_X1_init_n25 : GoodIn wsX4_init (wsX1_init) := ggX4_init_X1_init
set_option maxRecDepth 20000 in
theorem ggX4_init_X0_init : GoodIn wsX4_init wsX0_init := goodIn_r _ [53, 54, 2, 3, 55, 27, 56, 57, 58, 59, 95, 96, 97, 98, 99] (by decide +kernel) (by decide +kernel)
set_option maxRecDepth 20000 in
theorem gX4_init_X0_init_n43 : GoodIn wsX4_init (wsX0_init) := ggX4_init_X0_init
theorem dX4_init_0 : decode cX4_init 0 = .ok (.aload_n 0, 1) := by decide +kernel
theorem dX4_init_1 : decode cX4_init 1 = .ok (.invokespecial 1, 3) := by decide +kernel
theorem dX4_init_4 : decode cX4_init 4 = .ok (.aload_n 0, 1) := by decide +kernel
theorem dX4_init_5 : decode cX4_init 5 = .ok (.new 7, 3) := by decide +kernel
theorem dX4_init_8 : decode cX4_init 8 = .ok (.dup, 1) := by decide +kernel
theorem dX4_init_9 : decode cX4_init 9 = .ok (.invokespecial 9, 3) := by decide +kernel
theorem dX4_init_12 : decode cX4_init 12 = .ok (.putfield 10, 3) := by decide +kernel
theorem dX4_init_15 : decode cX4_init 15 = .ok (.aload_n 0, 1) := by decide +kernel
theorem dX4_init_16 : decode cX4_init 16 = .ok (.new 16, 3) := by decide +kernel
theorem dX4_init_19 : decode cX4_init 19 = .ok (.dup, 1) := by decide +kernel
theorem dX4_init_20 : decode cX4_init 20 = .ok (.invokespecial 18, 3) := by decide +kernel
theorem dX4_init_23 : decode cX4_init 23 = .ok (.putfield 19, 3) := by decide +kernel
theorem dX4_init_26 : decode cX4_init 26 = .ok (.aload_n 0, 1) := by decide +kernel
theorem dX4_init_27 : decode cX4_init 27 = .ok (.new 23, 3) := by decide +kernel
theorem dX4_init_30 : decode cX4_init 30 = .ok (.dup, 1) := by decide +kernel
theorem dX4_init_31 : decode cX4_init 31 = .ok (.invokespecial 25, 3) := by decide +kernel
theorem dX4_init_34 : decode cX4_init 34 = .ok (.putfield 26, 3) := by decide +kernel
theorem dX4_init_37 : decode cX4_init 37 = .ok (.aload_n 0, 1) := by decide +kernel
theorem dX4_init_38 : decode cX4_init 38 = .ok (.new 23, 3) := by decide +kernel
theorem dX4_init_41 : decode cX4_init 41 = .ok (.dup, 1) := by decide +kernel
theorem dX4_init_42 : decode cX4_init 42 = .ok (.invokespecial 25, 3) := by decide +kernel
theorem dX4_init_45 : decode cX4_init 45 = .ok (.putfield 30, 3) := by decide +kernel
theorem dX4_init_48 : decode cX4_init 48 = .ok (.aload_n 0, 1) := by decide +kernel
theorem dX4_init_49 : decode cX4_init 49 = .ok (.iconst 2, 1) := by decide +kernel
theorem dX4_init_50 : decode cX4_init 50 = .ok (.anewarray 23, 3) := by decide +kernel
theorem dX4_init_53 : decode cX4_init 53 = .ok (.dup, 1) := by decide +kernel
theorem dX4_init_54 : decode cX4_init 54 = .ok (.iconst 0, 1) := by decide +kernel
theorem dX4_init_55 : decode cX4_init 55 = .ok (.new 23, 3) := by decide +kernel
theorem dX4_init_58 : decode cX4_init 58 = .ok (.dup, 1) := by decide +kernel
theorem dX4_init_59 : decode cX4_init 59 = .ok (.invokespecial 25, 3) := by decide +kernel
theorem dX4_init_62 : decode cX4_init 62 = .ok (.aastore, 1) := by decide +kernel
theorem dX4_init_63 : decode cX4_init 63 = .ok (.dup, 1) := by decide +kernel
theorem dX4_init_64 : decode cX4_init 64 = .ok (.iconst 1, 1) := by decide +kernel
theorem dX4_init_65 : decode cX4_init 65 = .ok (.new 23, 3) := by decide +kernel
theorem dX4_init_68 : decode cX4_init 68 = .ok (.dup, 1) := by decide +kernel
theorem dX4_init_69 : decode cX4_init 69 = .ok (.invokespecial 25, 3) := by decide +kernel
theorem dX4_init_72 : decode cX4_init 72 = .ok (.aastore, 1) := by decide +kernel
theorem dX4_init_73 : decode cX4_init 73 = .ok (.putfield 33, 3) := by decide +kernel
theorem dX4_init_76 : decode cX4_init 76 = .ok (.aload_n 0, 1) := by decide +kernel
theorem dX4_init_77 : decode cX4_init 77 = .ok (.aload_n 0, 1) := by decide +kernel
theorem dX4_init_78 : decode cX4_init 78 = .ok (.getfield 33, 3) := by decide +kernel
theorem dX4_init_81 : decode cX4_init 81 = .ok (.arraylength, 1) := by decide +kernel
theorem dX4_init_82 : decode cX4_init 82 = .ok (.newarray .boolean, 2) := by decide +kernel
theorem dX4_init_84 : decode cX4_init 84 = .ok (.putfield 37, 3) := by decide +kernel
theorem dX4_init_87 : decode cX4_init 87 = .ok (.aload_n 0, 1) := by decide +kernel
theorem dX4_init_88 : decode cX4_init 88 = .ok (.new 41, 3) := by decide +kernel
theorem dX4_init_91 : decode cX4_init 91 = .ok (.dup, 1) := by decide +kernel
theorem dX4_init_92 : decode cX4_init 92 = .ok (.invokespecial 43, 3) := by decide +kernel
theorem dX4_init_95 : decode cX4_init 95 = .ok (.putfield 44, 3) := by decide +kernel
theorem dX4_init_98 : decode cX4_init 98 = .ok (.return_, 1) := by decide +kernel
set_option maxRecDepth 20000 in
theorem ggX4_write_X2_add : GoodIn wsX4_write wsX2_add := goodIn_r _ [8, 9, 10, 18, 19, 20, 21, 22, 23, 24, 25] (by decide +kernel) (by decide +kernel)
set_option maxRecDepth 20000 in
theorem gX4_write_X2_add : GoodIn wsX4_write (wsV RX4 54 RX2 yX2_add wsX2_add) := goodIn_app (goodIn_of _ (by decide +kernel)) ggX4_write_X2_add
theorem dX4_write_0 : decode cX4_write 0 = .ok (.iload_n 3, 1) := by decide +kernel
theorem dX4_write_1 : decode cX4_write 1 = .ok (.iconst 1, 1) := by decide +kernel
theorem dX4_write_2 : decode cX4_write 2 = .ok (.if_icmp .lt 9, 3) := by decide +kernel
theorem dX4_write_5 : decode cX4_write 5 = .ok (.iload_n 3, 1) := by decide +kernel
theorem dX4_write_6 : decode cX4_write 6 = .ok (.bipush 8, 2) := by decide +kernel
theorem dX4_write_8 : decode cX4_write 8 = .ok (.if_icmp .le 6, 3) := by decide +kernel
theorem dX4_write_11 : decode cX4_write 11 = .ok (.bipush (-3), 2) := by decide +kernel
theorem dX4_write_13 : decode cX4_write 13 = .ok (.ireturn, 1) := by decide +kernel
theorem dX4_write_14 : decode cX4_write 14 = .ok (.aload_n 0, 1) := by decide +kernel
theorem dX4_write_15 : decode cX4_write 15 = .ok (.getfield 10, 3) := by decide +kernel
theorem dX4_write_18 : decode cX4_write 18 = .ok (.getfield 48, 3) := by decide +kernel
theorem dX4_write_21 : decode cX4_write 21 = .ok (.iload_n 3, 1) := by decide +kernel
theorem dX4_write_22 : decode cX4_write 22 = .ok (.iadd, 1) := by decide +kernel
theorem dX4_write_23 : decode cX4_write 23 = .ok (.sipush 200, 3) := by decide +kernel
theorem dX4_write_26 : decode cX4_write 26 = .ok (.if_icmp .le 6, 3) := by decide +kernel
theorem dX4_write_29 : decode cX4_write 29 = .ok (.bipush (-5), 2) := by decide +kernel
theorem dX4_write_31 : decode cX4_write 31 = .ok (.ireturn, 1) := by decide +kernel
theorem dX4_write_32 : decode cX4_write 32 = .ok (.iconst 0, 1) := by decide +kernel
theorem dX4_write_33 : decode cX4_write 33 = .ok (.istore 4, 2) := by decide +kernel
theorem dX4_write_35 : decode cX4_write 35 = .ok (.iload 4, 2) := by decide +kernel
theorem dX4_write_37 : decode cX4_write 37 = .ok (.iload_n 3, 1) := by decide +kernel
theorem dX4_write_38 : decode cX4_write 38 = .ok (.if_icmp .ge 28, 3) := by decide +kernel
theorem dX4_write_41 : decode cX4_write 41 = .ok (.aload_n 0, 1) := by decide +kernel
theorem dX4_write_42 : decode cX4_write 42 = .ok (.getfield 10, 3) := by decide +kernel
theorem dX4_write_45 : decode cX4_write 45 = .ok (.lload_n 1, 1) := by decide +kernel
theorem dX4_write_46 : decode cX4_write 46 = .ok (.bipush 8, 2) := by decide +kernel
theorem dX4_write_48 : decode cX4_write 48 = .ok (.iload 4, 2) := by decide +kernel
theorem dX4_write_50 : decode cX4_write 50 = .ok (.imul, 1) := by decide +kernel
theorem dX4_write_51 : decode cX4_write 51 = .ok (.lshr, 1) := by decide +kernel
theorem dX4_write_52 : decode cX4_write 52 = .ok (.ldc2_w 52, 3) := by decide +kernel
theorem dX4_write_55 : decode cX4_write 55 = .ok (.land, 1) := by decide +kernel
theorem dX4_write_56 : decode cX4_write 56 = .ok (.l2i, 1) := by decide +kernel
theorem dX4_write_57 : decode cX4_write 57 = .ok (.invokevirtual 54, 3) := by decide +kernel
theorem dX4_write_60 : decode cX4_write 60 = .ok (.iinc 4 1, 3) := by decide +kernel
theorem dX4_write_63 : decode cX4_write 63 = .ok (.goto (-28), 3) := by decide +kernel
theorem dX4_write_66 : decode cX4_write 66 = .ok (.aload_n 0, 1) := by decide +kernel
theorem dX4_write_67 : decode cX4_write 67 = .ok (.getfield 10, 3) := by decide +kernel
theorem dX4_write_70 : decode cX4_write 70 = .ok (.getfield 48, 3) := by decide +kernel
theorem dX4_write_73 : decode cX4_write 73 = .ok (.ireturn, 1) := by decide +kernel
theorem dX4_erase_0 : decode cX4_erase 0 = .ok (.aload_n 0, 1) := by decide +kernel
theorem dX4_erase_1 : decode cX4_erase 1 = .ok (.getfield 10, 3) := by decide +kernel
theorem dX4_erase_4 : decode cX4_erase 4 = .ok (.getfield 48, 3) := by decide +kernel
theorem dX4_erase_7 : decode cX4_erase 7 = .ok (.istore_n 1, 1) := by decide +kernel
theorem dX4_erase_8 : decode cX4_erase 8 = .ok (.aload_n 0, 1) := by decide +kernel
theorem dX4_erase_9 : decode cX4_erase 9 = .ok (.getfield 10, 3) := by decide +kernel
theorem dX4_erase_12 : decode cX4_erase 12 = .ok (.iconst 0, 1) := by decide +kernel
theorem dX4_erase_13 : decode cX4_erase 13 = .ok (.putfield 48, 3) := by decide +kernel
theorem dX4_erase_16 : decode cX4_erase 16 = .ok (.iload_n 1, 1) := by decide +kernel
theorem dX4_erase_17 : decode cX4_erase 17 = .ok (.ireturn, 1) := by decide +kernel
set_option maxRecDepth 20000 in
theorem ggX4_fault_X2_read : GoodIn wsX4_fault wsX2_read := goodIn_r _ [7, 8, 9, 10, 11, 12, 13, 14, 15, 16, 17, 18, 19, 20, 21, 22, 23, 24, 25, 26, 27, 28, 29, 30, 31, 32, 33, 34, 6, 35, 36, 37, 38, 39, 40, 41, 42, 43, 44, 45, 46, 47, 48, 49, 50, 51, 52, 53, 54, 55, 56, 57, 58, 59, 60, 61, 62, 63, 64, 65, 66, 67, 68, 69, 70, 71, 72, 73, 74, 75, 76, 77, 78, 79, 80, 81, 82, 83, 84, 85, 86, 87, 88, 89, 90, 91, 92, 93, 94, 95, 96, 97, 98, 99, 100, 101, 102, 103, 104, 105, 106, 107, 108, 109, 110, 111, 112, 113, 114, 115, 116, 117, 118, 119, 120, 121, 122, 123, 124, 125, 126, 127, 128, 129, 130, 131, 132, 133, 134, 135, 136, 137, 138, 139, 140, 141, 142, 143, 144, 145, 146, 147, 148, 149, 157, 158, 159, 160, 161, 162, 163, 164, 165, 166, 167, 168, 169, 170, 171, 172, 173, 174] (by decide +kernel) (by decide +kernel)
set_option maxRecDepth 20000 in
theorem gX4_fault_X2_read : GoodIn wsX4_fault (wsV RX4 58 RX2 yX2_read wsX2_read) := goodIn_app (goodIn_of _ (by decide +kernel)) ggX4_fault_X2_read
theorem dX4_fault_0 : decode cX4_fault 0 = .ok (.aload_n 0, 1) := by decide +kernel
theorem dX4_fault_1 : decode cX4_fault 1 = .ok (.getfield 10, 3) := by decide +kernel
theorem dX4_fault_4 : decode cX4_fault 4 = .ok (.aload_n 0, 1) := by decide +kernel
theorem dX4_fault_5 : decode cX4_fault 5 = .ok (.getfield 19, 3) := by decide +kernel
theorem dX4_fault_8 : decode cX4_fault 8 = .ok (.invokevirtual 58, 3) := by decide +kernel
theorem dX4_fault_11 : decode cX4_fault 11 = .ok (.ireturn, 1) := by decide +kernel
set_option maxRecDepth 20000 in
theorem ggX4_wood_X2_read : GoodIn wsX4_wood wsX2_read := goodIn_r _ [12, 13, 14, 15, 16, 17, 18, 19, 20, 21, 22, 23, 24, 25, 26, 27, 28, 29, 30, 31, 32, 33, 34, 35, 36, 37, 38, 39, 11, 40, 41, 42, 43, 44, 45, 46, 47, 48, 49, 50, 51, 52, 53, 54, 55, 56, 57, 58, 59, 60, 61, 62, 63, 64, 65, 66, 67, 68, 69, 70, 71, 72, 73, 74, 75, 76, 77, 78, 79, 80, 81, 82, 83, 84, 85, 86, 87, 88, 89, 90, 91, 92, 93, 94, 95, 96, 97, 98, 99, 100, 101, 102, 103, 104, 105, 106, 107, 108, 109, 110, 111, 112, 113, 114, 115, 116, 117, 118, 119, 120, 121, 122, 123, 124, 125, 126, 127, 128, 129, 130, 131, 132, 133, 134, 135, 136, 137, 138, 139, 140, 141, 142, 143, 144, 145, 146, 147, 148, 149, 150, 151, 152, 153, 154, 174, 175, 176, 177, 178, 179, 180, 181, 182, 183, 184, 185, 186, 187, 188, 189, 190, 191] (by decide +kernel) (by decide +kernel)
set_option maxRecDepth 20000 in
theorem gX4_wood_X2_read : GoodIn wsX4_wood (wsV RX4 58 RX2 yX2_read wsX2_read) := goodIn_app (goodIn_of _ (by decide +kernel)) ggX4_wood_X2_read
set_option maxRecDepth 20000 in
theorem ggX4_wood_X3_copyFrom : GoodIn wsX4_wood wsX3_copyFrom := goodIn_r _ [22, 23, 24, 25, 26, 27, 28, 29, 30, 31, 32, 33, 34, 35, 36, 182, 183, 184, 185, 186, 187, 188, 189, 190, 191] (by decide +kernel) (by decide +kernel)
set_option maxRecDepth 20000 in
theorem gX4_wood_X3_copyFrom : GoodIn wsX4_wood (wsV RX4 65 RX3 yX3_copyFrom wsX3_copyFrom) := goodIn_app (goodIn_of _ (by decide +kernel)) ggX4_wood_X3_copyFrom
set_option maxRecDepth 20000 in
theorem ggX4_wood_X1_begin : GoodIn wsX4_wood wsX1_begin := goodIn_r _ [160, 161, 162, 163, 164, 165, 166, 192, 193, 194, 195, 196, 197, 198, 199, 200, 201, 182, 183, 184, 185, 186, 187, 188, 189, 190, 191] (by decide +kernel) (by decide +kernel)
set_option maxRecDepth 20000 in
theorem gX4_wood_X1_begin : GoodIn wsX4_wood (wsV RX4 69 RX1 yX1_begin wsX1_begin) := goodIn_app (goodIn_of _ (by decide +kernel)) ggX4_wood_X1_begin
theorem dX4_wood_0 : decode cX4_wood 0 = .ok (.aload_n 0, 1) := by decide +kernel
theorem dX4_wood_1 : decode cX4_wood 1 = .ok (.getfield 10, 3) := by decide +kernel
theorem dX4_wood_4 : decode cX4_wood 4 = .ok (.aload_n 0, 1) := by decide +kernel
theorem dX4_wood_5 : decode cX4_wood 5 = .ok (.getfield 19, 3) := by decide +kernel
theorem dX4_wood_8 : decode cX4_wood 8 = .ok (.invokevirtual 58, 3) := by decide +kernel
theorem dX4_wood_11 : decode cX4_wood 11 = .ok (.iconst (-1), 1) := by decide +kernel
theorem dX4_wood_12 : decode cX4_wood 12 = .ok (.if_icmp .eq 6, 3) := by decide +kernel
theorem dX4_wood_15 : decode cX4_wood 15 = .ok (.bipush (-4), 2) := by decide +kernel
theorem dX4_wood_17 : decode cX4_wood 17 = .ok (.ireturn, 1) := by decide +kernel
theorem dX4_wood_18 : decode cX4_wood 18 = .ok (.aload_n 0, 1) := by decide +kernel
theorem dX4_wood_19 : decode cX4_wood 19 = .ok (.getfield 19, 3) := by decide +kernel
theorem dX4_wood_22 : decode cX4_wood 22 = .ok (.aload_n 0, 1) := by decide +kernel
theorem dX4_wood_23 : decode cX4_wood 23 = .ok (.getfield 10, 3) := by decide +kernel
theorem dX4_wood_26 : decode cX4_wood 26 = .ok (.getfield 62, 3) := by decide +kernel
theorem dX4_wood_29 : decode cX4_wood 29 = .ok (.invokevirtual 65, 3) := by decide +kernel
theorem dX4_wood_32 : decode cX4_wood 32 = .ok (.aload_n 0, 1) := by decide +kernel
theorem dX4_wood_33 : decode cX4_wood 33 = .ok (.getfield 10, 3) := by decide +kernel
theorem dX4_wood_36 : decode cX4_wood 36 = .ok (.iconst 0, 1) := by decide +kernel
theorem dX4_wood_37 : decode cX4_wood 37 = .ok (.putfield 48, 3) := by decide +kernel
theorem dX4_wood_40 : decode cX4_wood 40 = .ok (.aload_n 0, 1) := by decide +kernel
theorem dX4_wood_41 : decode cX4_wood 41 = .ok (.getfield 26, 3) := by decide +kernel
theorem dX4_wood_44 : decode cX4_wood 44 = .ok (.aload_n 0, 1) := by decide +kernel
theorem dX4_wood_45 : decode cX4_wood 45 = .ok (.getfield 19, 3) := by decide +kernel
theorem dX4_wood_48 : decode cX4_wood 48 = .ok (.invokevirtual 69, 3) := by decide +kernel
theorem dX4_wood_51 : decode cX4_wood 51 = .ok (.iconst 0, 1) := by decide +kernel
theorem dX4_wood_52 : decode cX4_wood 52 = .ok (.istore_n 1, 1) := by decide +kernel
theorem dX4_wood_53 : decode cX4_wood 53 = .ok (.iload_n 1, 1) := by decide +kernel
theorem dX4_wood_54 : decode cX4_wood 54 = .ok (.aload_n 0, 1) := by decide +kernel
theorem dX4_wood_55 : decode cX4_wood 55 = .ok (.getfield 37, 3) := by decide +kernel
theorem dX4_wood_58 : decode cX4_wood 58 = .ok (.arraylength, 1) := by decide +kernel
theorem dX4_wood_59 : decode cX4_wood 59 = .ok (.if_icmp .ge 16, 3) := by decide +kernel
theorem dX4_wood_62 : decode cX4_wood 62 = .ok (.aload_n 0, 1) := by decide +kernel
theorem dX4_wood_63 : decode cX4_wood 63 = .ok (.getfield 37, 3) := by decide +kernel
theorem dX4_wood_66 : decode cX4_wood 66 = .ok (.iload_n 1, 1) := by decide +kernel
theorem dX4_wood_67 : decode cX4_wood 67 = .ok (.iconst 0, 1) := by decide +kernel
theorem dX4_wood_68 : decode cX4_wood 68 = .ok (.bastore, 1) := by decide +kernel
theorem dX4_wood_69 : decode cX4_wood 69 = .ok (.iinc 1 1, 3) := by decide +kernel
theorem dX4_wood_72 : decode cX4_wood 72 = .ok (.goto (-19), 3) := by decide +kernel
theorem dX4_wood_75 : decode cX4_wood 75 = .ok (.aload_n 0, 1) := by decide +kernel
theorem dX4_wood_76 : decode cX4_wood 76 = .ok (.getfield 10, 3) := by decide +kernel
theorem dX4_wood_79 : decode cX4_wood 79 = .ok (.getfield 72, 3) := by decide +kernel
theorem dX4_wood_82 : decode cX4_wood 82 = .ok (.ireturn, 1) := by decide +kernel
set_option maxRecDepth 20000 in
theorem ggX4_tree_X3_has : GoodIn wsX4_tree wsX3_has := goodIn_r _ [13, 14, 38, 39, 40, 41, 42, 43, 44, 45, 46, 47] (by decide +kernel) (by decide +kernel)
set_option maxRecDepth 20000 in
theorem gX4_tree_X3_has : GoodIn wsX4_tree (wsV RX4 75 RX3 yX3_has wsX3_has) := goodIn_app (goodIn_of _ (by decide +kernel)) ggX4_tree_X3_has
set_option maxRecDepth 20000 in
theorem ggX4_tree_X1_owedTo : GoodIn wsX4_tree wsX1_owedTo := goodIn_r _ [19, 20, 21, 22, 48, 49, 50, 51, 52, 53, 54, 55, 56, 57] (by decide +kernel) (by decide +kernel)
set_option maxRecDepth 20000 in
theorem gX4_tree_X1_owedTo : GoodIn wsX4_tree (wsV RX4 95 RX1 yX1_owedTo wsX1_owedTo) := goodIn_app (goodIn_of _ (by decide +kernel)) ggX4_tree_X1_owedTo
set_option maxRecDepth 20000 in
theorem ggX4_tree_X1_isCross : GoodIn wsX4_tree wsX1_isCross := goodIn_r _ [26, 27, 28, 29, 30, 16, 17, 18, 19, 20, 21, 22, 38, 39, 40, 41, 42, 43, 44, 45, 46, 47, 48, 49, 50, 51, 52, 53, 54, 55, 56, 57] (by decide +kernel) (by decide +kernel)
set_option maxRecDepth 20000 in
theorem gX4_tree_X1_isCross : GoodIn wsX4_tree (wsV RX4 102 RX1 yX1_isCross wsX1_isCross) := goodIn_app (goodIn_of _ (by decide +kernel)) ggX4_tree_X1_isCross
theorem dX4_tree_0 : decode cX4_tree 0 = .ok (.aload_n 0, 1) := by decide +kernel
theorem dX4_tree_1 : decode cX4_tree 1 = .ok (.getfield 19, 3) := by decide +kernel
theorem dX4_tree_4 : decode cX4_tree 4 = .ok (.iload_n 1, 1) := by decide +kernel
theorem dX4_tree_5 : decode cX4_tree 5 = .ok (.invokevirtual 75, 3) := by decide +kernel
theorem dX4_tree_8 : decode cX4_tree 8 = .ok (.ifCond .ne 6, 3) := by decide +kernel
theorem dX4_tree_11 : decode cX4_tree 11 = .ok (.bipush (-2), 2) := by decide +kernel
theorem dX4_tree_13 : decode cX4_tree 13 = .ok (.ireturn, 1) := by decide +kernel
theorem dX4_tree_14 : decode cX4_tree 14 = .ok (.iload_n 2, 1) := by decide +kernel
theorem dX4_tree_15 : decode cX4_tree 15 = .ok (.tableswitch 135 0 7 #[45, 55, 65, 75, 85, 95, 104, 114], 45) := by decide +kernel
theorem dX4_tree_60 : decode cX4_tree 60 = .ok (.aload_n 0, 1) := by decide +kernel
theorem dX4_tree_61 : decode cX4_tree 61 = .ok (.getfield 19, 3) := by decide +kernel
theorem dX4_tree_64 : decode cX4_tree 64 = .ok (.getfield 79, 3) := by decide +kernel
theorem dX4_tree_67 : decode cX4_tree 67 = .ok (.iload_n 1, 1) := by decide +kernel
theorem dX4_tree_68 : decode cX4_tree 68 = .ok (.iaload, 1) := by decide +kernel
theorem dX4_tree_69 : decode cX4_tree 69 = .ok (.ireturn, 1) := by decide +kernel
theorem dX4_tree_70 : decode cX4_tree 70 = .ok (.aload_n 0, 1) := by decide +kernel
theorem dX4_tree_71 : decode cX4_tree 71 = .ok (.getfield 26, 3) := by decide +kernel
theorem dX4_tree_74 : decode cX4_tree 74 = .ok (.getfield 83, 3) := by decide +kernel
theorem dX4_tree_77 : decode cX4_tree 77 = .ok (.iload_n 1, 1) := by decide +kernel
theorem dX4_tree_78 : decode cX4_tree 78 = .ok (.iaload, 1) := by decide +kernel
theorem dX4_tree_79 : decode cX4_tree 79 = .ok (.ireturn, 1) := by decide +kernel
theorem dX4_tree_80 : decode cX4_tree 80 = .ok (.aload_n 0, 1) := by decide +kernel
theorem dX4_tree_81 : decode cX4_tree 81 = .ok (.getfield 19, 3) := by decide +kernel
theorem dX4_tree_84 : decode cX4_tree 84 = .ok (.getfield 86, 3) := by decide +kernel
theorem dX4_tree_87 : decode cX4_tree 87 = .ok (.iload_n 1, 1) := by decide +kernel
theorem dX4_tree_88 : decode cX4_tree 88 = .ok (.iaload, 1) := by decide +kernel
theorem dX4_tree_89 : decode cX4_tree 89 = .ok (.ireturn, 1) := by decide +kernel
theorem dX4_tree_90 : decode cX4_tree 90 = .ok (.aload_n 0, 1) := by decide +kernel
theorem dX4_tree_91 : decode cX4_tree 91 = .ok (.getfield 19, 3) := by decide +kernel
theorem dX4_tree_94 : decode cX4_tree 94 = .ok (.getfield 89, 3) := by decide +kernel
theorem dX4_tree_97 : decode cX4_tree 97 = .ok (.iload_n 1, 1) := by decide +kernel
theorem dX4_tree_98 : decode cX4_tree 98 = .ok (.iaload, 1) := by decide +kernel
theorem dX4_tree_99 : decode cX4_tree 99 = .ok (.ireturn, 1) := by decide +kernel
theorem dX4_tree_100 : decode cX4_tree 100 = .ok (.aload_n 0, 1) := by decide +kernel
theorem dX4_tree_101 : decode cX4_tree 101 = .ok (.getfield 19, 3) := by decide +kernel
theorem dX4_tree_104 : decode cX4_tree 104 = .ok (.getfield 92, 3) := by decide +kernel
theorem dX4_tree_107 : decode cX4_tree 107 = .ok (.iload_n 1, 1) := by decide +kernel
theorem dX4_tree_108 : decode cX4_tree 108 = .ok (.iaload, 1) := by decide +kernel
theorem dX4_tree_109 : decode cX4_tree 109 = .ok (.ireturn, 1) := by decide +kernel
theorem dX4_tree_110 : decode cX4_tree 110 = .ok (.aload_n 0, 1) := by decide +kernel
theorem dX4_tree_111 : decode cX4_tree 111 = .ok (.getfield 26, 3) := by decide +kernel
theorem dX4_tree_114 : decode cX4_tree 114 = .ok (.iload_n 1, 1) := by decide +kernel
theorem dX4_tree_115 : decode cX4_tree 115 = .ok (.invokevirtual 95, 3) := by decide +kernel
theorem dX4_tree_118 : decode cX4_tree 118 = .ok (.ireturn, 1) := by decide +kernel
theorem dX4_tree_119 : decode cX4_tree 119 = .ok (.aload_n 0, 1) := by decide +kernel
theorem dX4_tree_120 : decode cX4_tree 120 = .ok (.getfield 26, 3) := by decide +kernel
theorem dX4_tree_123 : decode cX4_tree 123 = .ok (.getfield 99, 3) := by decide +kernel
theorem dX4_tree_126 : decode cX4_tree 126 = .ok (.iload_n 1, 1) := by decide +kernel
theorem dX4_tree_127 : decode cX4_tree 127 = .ok (.iaload, 1) := by decide +kernel
theorem dX4_tree_128 : decode cX4_tree 128 = .ok (.ireturn, 1) := by decide +kernel
theorem dX4_tree_129 : decode cX4_tree 129 = .ok (.aload_n 0, 1) := by decide +kernel
theorem dX4_tree_130 : decode cX4_tree 130 = .ok (.getfield 26, 3) := by decide +kernel
theorem dX4_tree_133 : decode cX4_tree 133 = .ok (.aload_n 0, 1) := by decide +kernel
theorem dX4_tree_134 : decode cX4_tree 134 = .ok (.getfield 19, 3) := by decide +kernel
theorem dX4_tree_137 : decode cX4_tree 137 = .ok (.iload_n 1, 1) := by decide +kernel
theorem dX4_tree_138 : decode cX4_tree 138 = .ok (.invokevirtual 102, 3) := by decide +kernel
theorem dX4_tree_141 : decode cX4_tree 141 = .ok (.ifCond .eq 7, 3) := by decide +kernel
theorem dX4_tree_144 : decode cX4_tree 144 = .ok (.iconst 1, 1) := by decide +kernel
theorem dX4_tree_145 : decode cX4_tree 145 = .ok (.goto 4, 3) := by decide +kernel
theorem dX4_tree_148 : decode cX4_tree 148 = .ok (.iconst 0, 1) := by decide +kernel
theorem dX4_tree_149 : decode cX4_tree 149 = .ok (.ireturn, 1) := by decide +kernel
theorem dX4_tree_150 : decode cX4_tree 150 = .ok (.bipush (-3), 2) := by decide +kernel
theorem dX4_tree_152 : decode cX4_tree 152 = .ok (.ireturn, 1) := by decide +kernel
theorem dX4_loan_0 : decode cX4_loan 0 = .ok (.iload_n 1, 1) := by decide +kernel
theorem dX4_loan_1 : decode cX4_loan 1 = .ok (.ifCond .lt 14, 3) := by decide +kernel
theorem dX4_loan_4 : decode cX4_loan 4 = .ok (.iload_n 1, 1) := by decide +kernel
theorem dX4_loan_5 : decode cX4_loan 5 = .ok (.aload_n 0, 1) := by decide +kernel
theorem dX4_loan_6 : decode cX4_loan 6 = .ok (.getfield 26, 3) := by decide +kernel
theorem dX4_loan_9 : decode cX4_loan 9 = .ok (.getfield 106, 3) := by decide +kernel
theorem dX4_loan_12 : decode cX4_loan 12 = .ok (.if_icmp .lt 6, 3) := by decide +kernel
theorem dX4_loan_15 : decode cX4_loan 15 = .ok (.bipush (-2), 2) := by decide +kernel
theorem dX4_loan_17 : decode cX4_loan 17 = .ok (.ireturn, 1) := by decide +kernel
theorem dX4_loan_18 : decode cX4_loan 18 = .ok (.iload_n 2, 1) := by decide +kernel
theorem dX4_loan_19 : decode cX4_loan 19 = .ok (.tableswitch 83 0 4 #[33, 43, 53, 63, 73], 33) := by decide +kernel
theorem dX4_loan_52 : decode cX4_loan 52 = .ok (.aload_n 0, 1) := by decide +kernel
theorem dX4_loan_53 : decode cX4_loan 53 = .ok (.getfield 26, 3) := by decide +kernel
theorem dX4_loan_56 : decode cX4_loan 56 = .ok (.getfield 109, 3) := by decide +kernel
theorem dX4_loan_59 : decode cX4_loan 59 = .ok (.iload_n 1, 1) := by decide +kernel
theorem dX4_loan_60 : decode cX4_loan 60 = .ok (.iaload, 1) := by decide +kernel
theorem dX4_loan_61 : decode cX4_loan 61 = .ok (.ireturn, 1) := by decide +kernel
theorem dX4_loan_62 : decode cX4_loan 62 = .ok (.aload_n 0, 1) := by decide +kernel
theorem dX4_loan_63 : decode cX4_loan 63 = .ok (.getfield 26, 3) := by decide +kernel
theorem dX4_loan_66 : decode cX4_loan 66 = .ok (.getfield 112, 3) := by decide +kernel
theorem dX4_loan_69 : decode cX4_loan 69 = .ok (.iload_n 1, 1) := by decide +kernel
theorem dX4_loan_70 : decode cX4_loan 70 = .ok (.iaload, 1) := by decide +kernel
theorem dX4_loan_71 : decode cX4_loan 71 = .ok (.ireturn, 1) := by decide +kernel
theorem dX4_loan_72 : decode cX4_loan 72 = .ok (.aload_n 0, 1) := by decide +kernel
theorem dX4_loan_73 : decode cX4_loan 73 = .ok (.getfield 26, 3) := by decide +kernel
theorem dX4_loan_76 : decode cX4_loan 76 = .ok (.getfield 115, 3) := by decide +kernel
theorem dX4_loan_79 : decode cX4_loan 79 = .ok (.iload_n 1, 1) := by decide +kernel
theorem dX4_loan_80 : decode cX4_loan 80 = .ok (.iaload, 1) := by decide +kernel
theorem dX4_loan_81 : decode cX4_loan 81 = .ok (.ireturn, 1) := by decide +kernel
theorem dX4_loan_82 : decode cX4_loan 82 = .ok (.aload_n 0, 1) := by decide +kernel
theorem dX4_loan_83 : decode cX4_loan 83 = .ok (.getfield 26, 3) := by decide +kernel
theorem dX4_loan_86 : decode cX4_loan 86 = .ok (.getfield 118, 3) := by decide +kernel
theorem dX4_loan_89 : decode cX4_loan 89 = .ok (.iload_n 1, 1) := by decide +kernel
theorem dX4_loan_90 : decode cX4_loan 90 = .ok (.iaload, 1) := by decide +kernel
theorem dX4_loan_91 : decode cX4_loan 91 = .ok (.ireturn, 1) := by decide +kernel
theorem dX4_loan_92 : decode cX4_loan 92 = .ok (.aload_n 0, 1) := by decide +kernel
theorem dX4_loan_93 : decode cX4_loan 93 = .ok (.getfield 26, 3) := by decide +kernel
theorem dX4_loan_96 : decode cX4_loan 96 = .ok (.getfield 121, 3) := by decide +kernel
theorem dX4_loan_99 : decode cX4_loan 99 = .ok (.iload_n 1, 1) := by decide +kernel
theorem dX4_loan_100 : decode cX4_loan 100 = .ok (.iaload, 1) := by decide +kernel
theorem dX4_loan_101 : decode cX4_loan 101 = .ok (.ireturn, 1) := by decide +kernel
theorem dX4_loan_102 : decode cX4_loan 102 = .ok (.bipush (-3), 2) := by decide +kernel
theorem dX4_loan_104 : decode cX4_loan 104 = .ok (.ireturn, 1) := by decide +kernel
set_option maxRecDepth 20000 in
theorem ggX4_as_X3_has : GoodIn wsX4_as wsX3_has := goodIn_r _ [7, 8, 35, 36, 37, 38, 39, 40, 41, 42, 43, 44] (by decide +kernel) (by decide +kernel)
set_option maxRecDepth 20000 in
theorem gX4_as_X3_has : GoodIn wsX4_as (wsV RX4 75 RX3 yX3_has wsX3_has) := goodIn_app (goodIn_of _ (by decide +kernel)) ggX4_as_X3_has
set_option maxRecDepth 20000 in
theorem ggX4_as_X3_isOfKind : GoodIn wsX4_as wsX3_isOfKind := goodIn_r _ [12, 13, 35, 36, 37, 38, 39, 40, 41, 42, 43, 44] (by decide +kernel) (by decide +kernel)
set_option maxRecDepth 20000 in
theorem gX4_as_X3_isOfKind : GoodIn wsX4_as (wsV RX4 127 RX3 yX3_isOfKind wsX3_isOfKind) := goodIn_app (goodIn_of _ (by decide +kernel)) ggX4_as_X3_isOfKind
set_option maxRecDepth 20000 in
theorem ggX4_as_X3_grownIn : GoodIn wsX4_as wsX3_grownIn := goodIn_r _ [17, 18, 19, 20, 6, 21, 22, 13, 23, 24, 25, 26, 27, 35, 36, 37, 38, 39, 40, 41, 42, 43, 44] (by decide +kernel) (by decide +kernel)
set_option maxRecDepth 20000 in
theorem gX4_as_X3_grownIn : GoodIn wsX4_as (wsV RX4 131 RX3 yX3_grownIn wsX3_grownIn) := goodIn_app (goodIn_of _ (by decide +kernel)) ggX4_as_X3_grownIn
theorem dX4_as_0 : decode cX4_as 0 = .ok (.aload_n 0, 1) := by decide +kernel
theorem dX4_as_1 : decode cX4_as 1 = .ok (.getfield 19, 3) := by decide +kernel
theorem dX4_as_4 : decode cX4_as 4 = .ok (.iload_n 1, 1) := by decide +kernel
theorem dX4_as_5 : decode cX4_as 5 = .ok (.invokevirtual 75, 3) := by decide +kernel
theorem dX4_as_8 : decode cX4_as 8 = .ok (.ifCond .ne 6, 3) := by decide +kernel
theorem dX4_as_11 : decode cX4_as 11 = .ok (.bipush (-2), 2) := by decide +kernel
theorem dX4_as_13 : decode cX4_as 13 = .ok (.ireturn, 1) := by decide +kernel
theorem dX4_as_14 : decode cX4_as 14 = .ok (.iload_n 2, 1) := by decide +kernel
theorem dX4_as_15 : decode cX4_as 15 = .ok (.ifCond .lt 11, 3) := by decide +kernel
theorem dX4_as_18 : decode cX4_as 18 = .ok (.iload_n 2, 1) := by decide +kernel
theorem dX4_as_19 : decode cX4_as 19 = .ok (.getstatic 124, 3) := by decide +kernel
theorem dX4_as_22 : decode cX4_as 22 = .ok (.arraylength, 1) := by decide +kernel
theorem dX4_as_23 : decode cX4_as 23 = .ok (.if_icmp .lt 6, 3) := by decide +kernel
theorem dX4_as_26 : decode cX4_as 26 = .ok (.bipush (-3), 2) := by decide +kernel
theorem dX4_as_28 : decode cX4_as 28 = .ok (.ireturn, 1) := by decide +kernel
theorem dX4_as_29 : decode cX4_as 29 = .ok (.aload_n 0, 1) := by decide +kernel
theorem dX4_as_30 : decode cX4_as 30 = .ok (.getfield 19, 3) := by decide +kernel
theorem dX4_as_33 : decode cX4_as 33 = .ok (.iload_n 1, 1) := by decide +kernel
theorem dX4_as_34 : decode cX4_as 34 = .ok (.iload_n 2, 1) := by decide +kernel
theorem dX4_as_35 : decode cX4_as 35 = .ok (.invokevirtual 127, 3) := by decide +kernel
theorem dX4_as_38 : decode cX4_as 38 = .ok (.ifCond .ne 6, 3) := by decide +kernel
theorem dX4_as_41 : decode cX4_as 41 = .ok (.bipush (-4), 2) := by decide +kernel
theorem dX4_as_43 : decode cX4_as 43 = .ok (.ireturn, 1) := by decide +kernel
theorem dX4_as_44 : decode cX4_as 44 = .ok (.aload_n 0, 1) := by decide +kernel
theorem dX4_as_45 : decode cX4_as 45 = .ok (.getfield 19, 3) := by decide +kernel
theorem dX4_as_48 : decode cX4_as 48 = .ok (.iload_n 1, 1) := by decide +kernel
theorem dX4_as_49 : decode cX4_as 49 = .ok (.iconst 1, 1) := by decide +kernel
theorem dX4_as_50 : decode cX4_as 50 = .ok (.iconst 1, 1) := by decide +kernel
theorem dX4_as_51 : decode cX4_as 51 = .ok (.invokevirtual 131, 3) := by decide +kernel
theorem dX4_as_54 : decode cX4_as 54 = .ok (.ireturn, 1) := by decide +kernel
set_option maxRecDepth 20000 in
theorem ggX4_borrow_X3_has : GoodIn wsX4_borrow wsX3_has := goodIn_r _ [9, 10, 63, 64, 65, 66, 67, 68, 69, 70, 71, 72] (by decide +kernel) (by decide +kernel)
set_option maxRecDepth 20000 in
theorem gX4_borrow_X3_has : GoodIn wsX4_borrow (wsV RX4 75 RX3 yX3_has wsX3_has) := goodIn_app (goodIn_of _ (by decide +kernel)) ggX4_borrow_X3_has
set_option maxRecDepth 20000 in
theorem ggX4_borrow_X1_lends : GoodIn wsX4_borrow wsX1_lends := goodIn_r _ [15, 16, 17, 18, 19, 14, 20, 21, 22, 23, 24, 25, 26, 27, 28, 29, 30, 53, 54, 55, 56, 57, 58, 59, 60, 61, 62, 63, 64, 65, 66, 67, 68, 69, 70, 71, 72] (by decide +kernel) (by decide +kernel)
set_option maxRecDepth 20000 in
theorem gX4_borrow_X1_lends : GoodIn wsX4_borrow (wsV RX4 135 RX1 yX1_lends wsX1_lends) := goodIn_app (goodIn_of _ (by decide +kernel)) ggX4_borrow_X1_lends
set_option maxRecDepth 20000 in
theorem ggX4_borrow_X1_lend : GoodIn wsX4_borrow wsX1_lend := goodIn_r _ [34, 28, 29, 35, 30, 36, 37, 38, 39, 40, 41, 42, 8, 43, 44, 45, 53, 54, 55, 56, 57, 58, 59, 60, 61, 62, 63, 64, 65, 66, 67, 68, 69, 70, 71, 72] (by decide +kernel) (by decide +kernel)
set_option maxRecDepth 20000 in
theorem gX4_borrow_X1_lend : GoodIn wsX4_borrow (wsV RX4 138 RX1 yX1_lend wsX1_lend) := goodIn_app (goodIn_of _ (by decide +kernel)) ggX4_borrow_X1_lend
theorem dX4_borrow_0 : decode cX4_borrow 0 = .ok (.aload_n 0, 1) := by decide +kernel
theorem dX4_borrow_1 : decode cX4_borrow 1 = .ok (.getfield 19, 3) := by decide +kernel
theorem dX4_borrow_4 : decode cX4_borrow 4 = .ok (.iload_n 1, 1) := by decide +kernel
theorem dX4_borrow_5 : decode cX4_borrow 5 = .ok (.invokevirtual 75, 3) := by decide +kernel
theorem dX4_borrow_8 : decode cX4_borrow 8 = .ok (.ifCond .ne 6, 3) := by decide +kernel
theorem dX4_borrow_11 : decode cX4_borrow 11 = .ok (.bipush (-2), 2) := by decide +kernel
theorem dX4_borrow_13 : decode cX4_borrow 13 = .ok (.ireturn, 1) := by decide +kernel
theorem dX4_borrow_14 : decode cX4_borrow 14 = .ok (.iload_n 2, 1) := by decide +kernel
theorem dX4_borrow_15 : decode cX4_borrow 15 = .ok (.iconst 1, 1) := by decide +kernel
theorem dX4_borrow_16 : decode cX4_borrow 16 = .ok (.if_icmp .lt 9, 3) := by decide +kernel
theorem dX4_borrow_19 : decode cX4_borrow 19 = .ok (.iload_n 2, 1) := by decide +kernel
theorem dX4_borrow_20 : decode cX4_borrow 20 = .ok (.bipush 99, 2) := by decide +kernel
theorem dX4_borrow_22 : decode cX4_borrow 22 = .ok (.if_icmp .le 6, 3) := by decide +kernel
theorem dX4_borrow_25 : decode cX4_borrow 25 = .ok (.bipush (-3), 2) := by decide +kernel
theorem dX4_borrow_27 : decode cX4_borrow 27 = .ok (.ireturn, 1) := by decide +kernel
theorem dX4_borrow_28 : decode cX4_borrow 28 = .ok (.aload_n 0, 1) := by decide +kernel
theorem dX4_borrow_29 : decode cX4_borrow 29 = .ok (.getfield 26, 3) := by decide +kernel
theorem dX4_borrow_32 : decode cX4_borrow 32 = .ok (.aload_n 0, 1) := by decide +kernel
theorem dX4_borrow_33 : decode cX4_borrow 33 = .ok (.getfield 19, 3) := by decide +kernel
theorem dX4_borrow_36 : decode cX4_borrow 36 = .ok (.iload_n 1, 1) := by decide +kernel
theorem dX4_borrow_37 : decode cX4_borrow 37 = .ok (.invokevirtual 135, 3) := by decide +kernel
theorem dX4_borrow_40 : decode cX4_borrow 40 = .ok (.ifCond .eq 16, 3) := by decide +kernel
theorem dX4_borrow_43 : decode cX4_borrow 43 = .ok (.iload_n 2, 1) := by decide +kernel
theorem dX4_borrow_44 : decode cX4_borrow 44 = .ok (.aload_n 0, 1) := by decide +kernel
theorem dX4_borrow_45 : decode cX4_borrow 45 = .ok (.getfield 26, 3) := by decide +kernel
theorem dX4_borrow_48 : decode cX4_borrow 48 = .ok (.getfield 83, 3) := by decide +kernel
theorem dX4_borrow_51 : decode cX4_borrow 51 = .ok (.iload_n 1, 1) := by decide +kernel
theorem dX4_borrow_52 : decode cX4_borrow 52 = .ok (.iaload, 1) := by decide +kernel
theorem dX4_borrow_53 : decode cX4_borrow 53 = .ok (.if_icmp .le 6, 3) := by decide +kernel
theorem dX4_borrow_56 : decode cX4_borrow 56 = .ok (.bipush (-4), 2) := by decide +kernel
theorem dX4_borrow_58 : decode cX4_borrow 58 = .ok (.ireturn, 1) := by decide +kernel
theorem dX4_borrow_59 : decode cX4_borrow 59 = .ok (.aload_n 0, 1) := by decide +kernel
theorem dX4_borrow_60 : decode cX4_borrow 60 = .ok (.getfield 26, 3) := by decide +kernel
theorem dX4_borrow_63 : decode cX4_borrow 63 = .ok (.getfield 106, 3) := by decide +kernel
theorem dX4_borrow_66 : decode cX4_borrow 66 = .ok (.bipush 12, 2) := by decide +kernel
theorem dX4_borrow_68 : decode cX4_borrow 68 = .ok (.if_icmp .lt 6, 3) := by decide +kernel
theorem dX4_borrow_71 : decode cX4_borrow 71 = .ok (.bipush (-5), 2) := by decide +kernel
theorem dX4_borrow_73 : decode cX4_borrow 73 = .ok (.ireturn, 1) := by decide +kernel
theorem dX4_borrow_74 : decode cX4_borrow 74 = .ok (.aload_n 0, 1) := by decide +kernel
theorem dX4_borrow_75 : decode cX4_borrow 75 = .ok (.getfield 26, 3) := by decide +kernel
theorem dX4_borrow_78 : decode cX4_borrow 78 = .ok (.aload_n 0, 1) := by decide +kernel
theorem dX4_borrow_79 : decode cX4_borrow 79 = .ok (.getfield 19, 3) := by decide +kernel
theorem dX4_borrow_82 : decode cX4_borrow 82 = .ok (.iload_n 1, 1) := by decide +kernel
theorem dX4_borrow_83 : decode cX4_borrow 83 = .ok (.iload_n 2, 1) := by decide +kernel
theorem dX4_borrow_84 : decode cX4_borrow 84 = .ok (.invokevirtual 138, 3) := by decide +kernel
theorem dX4_borrow_87 : decode cX4_borrow 87 = .ok (.ireturn, 1) := by decide +kernel
set_option maxRecDepth 20000 in
theorem ggX4_days_X1_passDays : GoodIn wsX4_days wsX1_passDays := goodIn_r _ [9, 10, 11, 12, 13, 8, 14, 15, 16, 17, 18, 19, 20, 21, 22, 23, 24, 25, 26, 27, 28, 29, 30, 31, 32, 33, 34, 35, 36, 37, 38, 39, 40, 41, 42, 43, 44, 45, 46, 47, 48, 49, 50, 51, 52, 53, 54, 55, 63, 64, 65, 66, 67, 68, 69, 70, 71, 72, 73, 74, 75, 76, 77, 78, 79, 80, 81, 82] (by decide +kernel) (by decide +kernel)
set_option maxRecDepth 20000 in
theorem gX4_days_X1_passDays : GoodIn wsX4_days (wsV RX4 148 RX1 yX1_passDays wsX1_passDays) := goodIn_app (goodIn_of _ (by decide +kernel)) ggX4_days_X1_passDays
theorem dX4_days_0 : decode cX4_days 0 = .ok (.iload_n 1, 1) := by decide +kernel
theorem dX4_days_1 : decode cX4_days 1 = .ok (.iconst 1, 1) := by decide +kernel
theorem dX4_days_2 : decode cX4_days 2 = .ok (.if_icmp .lt 9, 3) := by decide +kernel
theorem dX4_days_5 : decode cX4_days 5 = .ok (.iload_n 1, 1) := by decide +kernel
theorem dX4_days_6 : decode cX4_days 6 = .ok (.bipush 99, 2) := by decide +kernel
theorem dX4_days_8 : decode cX4_days 8 = .ok (.if_icmp .le 6, 3) := by decide +kernel
theorem dX4_days_11 : decode cX4_days 11 = .ok (.bipush (-3), 2) := by decide +kernel
theorem dX4_days_13 : decode cX4_days 13 = .ok (.ireturn, 1) := by decide +kernel
theorem dX4_days_14 : decode cX4_days 14 = .ok (.aload_n 0, 1) := by decide +kernel
theorem dX4_days_15 : decode cX4_days 15 = .ok (.getfield 26, 3) := by decide +kernel
theorem dX4_days_18 : decode cX4_days 18 = .ok (.getfield 142, 3) := by decide +kernel
theorem dX4_days_21 : decode cX4_days 21 = .ok (.iload_n 1, 1) := by decide +kernel
theorem dX4_days_22 : decode cX4_days 22 = .ok (.iadd, 1) := by decide +kernel
theorem dX4_days_23 : decode cX4_days 23 = .ok (.sipush 9999, 3) := by decide +kernel
theorem dX4_days_26 : decode cX4_days 26 = .ok (.if_icmp .le 6, 3) := by decide +kernel
theorem dX4_days_29 : decode cX4_days 29 = .ok (.bipush (-5), 2) := by decide +kernel
theorem dX4_days_31 : decode cX4_days 31 = .ok (.ireturn, 1) := by decide +kernel
theorem dX4_days_32 : decode cX4_days 32 = .ok (.aload_n 0, 1) := by decide +kernel
theorem dX4_days_33 : decode cX4_days 33 = .ok (.getfield 26, 3) := by decide +kernel
theorem dX4_days_36 : decode cX4_days 36 = .ok (.aload_n 0, 1) := by decide +kernel
theorem dX4_days_37 : decode cX4_days 37 = .ok (.getfield 19, 3) := by decide +kernel
theorem dX4_days_40 : decode cX4_days 40 = .ok (.aload_n 0, 1) := by decide +kernel
theorem dX4_days_41 : decode cX4_days 41 = .ok (.getfield 19, 3) := by decide +kernel
theorem dX4_days_44 : decode cX4_days 44 = .ok (.getfield 145, 3) := by decide +kernel
theorem dX4_days_47 : decode cX4_days 47 = .ok (.iload_n 1, 1) := by decide +kernel
theorem dX4_days_48 : decode cX4_days 48 = .ok (.invokevirtual 148, 3) := by decide +kernel
theorem dX4_days_51 : decode cX4_days 51 = .ok (.aload_n 0, 1) := by decide +kernel
theorem dX4_days_52 : decode cX4_days 52 = .ok (.getfield 26, 3) := by decide +kernel
theorem dX4_days_55 : decode cX4_days 55 = .ok (.getfield 142, 3) := by decide +kernel
theorem dX4_days_58 : decode cX4_days 58 = .ok (.ireturn, 1) := by decide +kernel
set_option maxRecDepth 20000 in
theorem ggX4_fire_X1_burn : GoodIn wsX4_fire wsX1_burn := goodIn_r _ [7, 8, 9, 10, 11, 12, 13, 6, 14, 15, 16, 17, 18, 19, 20, 21, 22, 23, 24, 32, 33, 34, 35, 36, 37, 38, 39, 40, 41, 42, 43, 44, 45, 46, 47, 48, 49, 50, 51] (by decide +kernel) (by decide +kernel)
set_option maxRecDepth 20000 in
theorem gX4_fire_X1_burn : GoodIn wsX4_fire (wsV RX4 152 RX1 yX1_burn wsX1_burn) := goodIn_app (goodIn_of _ (by decide +kernel)) ggX4_fire_X1_burn
theorem dX4_fire_0 : decode cX4_fire 0 = .ok (.iload_n 1, 1) := by decide +kernel
theorem dX4_fire_1 : decode cX4_fire 1 = .ok (.ifCond .lt 9, 3) := by decide +kernel
theorem dX4_fire_4 : decode cX4_fire 4 = .ok (.iload_n 1, 1) := by decide +kernel
theorem dX4_fire_5 : decode cX4_fire 5 = .ok (.bipush 9, 2) := by decide +kernel
theorem dX4_fire_7 : decode cX4_fire 7 = .ok (.if_icmp .le 6, 3) := by decide +kernel
theorem dX4_fire_10 : decode cX4_fire 10 = .ok (.bipush (-3), 2) := by decide +kernel
theorem dX4_fire_12 : decode cX4_fire 12 = .ok (.ireturn, 1) := by decide +kernel
theorem dX4_fire_13 : decode cX4_fire 13 = .ok (.aload_n 0, 1) := by decide +kernel
theorem dX4_fire_14 : decode cX4_fire 14 = .ok (.getfield 26, 3) := by decide +kernel
theorem dX4_fire_17 : decode cX4_fire 17 = .ok (.aload_n 0, 1) := by decide +kernel
theorem dX4_fire_18 : decode cX4_fire 18 = .ok (.getfield 19, 3) := by decide +kernel
theorem dX4_fire_21 : decode cX4_fire 21 = .ok (.iload_n 1, 1) := by decide +kernel
theorem dX4_fire_22 : decode cX4_fire 22 = .ok (.invokevirtual 152, 3) := by decide +kernel
theorem dX4_fire_25 : decode cX4_fire 25 = .ok (.ireturn, 1) := by decide +kernel
set_option maxRecDepth 20000 in
theorem ggX4_sell_X3_has : GoodIn wsX4_sell wsX3_has := goodIn_r _ [8, 9, 44, 45, 46, 47, 48, 49, 50, 51, 52, 53] (by decide +kernel) (by decide +kernel)
set_option maxRecDepth 20000 in
theorem gX4_sell_X3_has : GoodIn wsX4_sell (wsV RX4 75 RX3 yX3_has wsX3_has) := goodIn_app (goodIn_of _ (by decide +kernel)) ggX4_sell_X3_has
set_option maxRecDepth 20000 in
theorem ggX4_sell_X1_handOver : GoodIn wsX4_sell wsX1_handOver := goodIn_r _ [14, 15, 16, 17, 18, 19, 20, 21, 13, 22, 23, 24, 25, 26, 34, 35, 36, 37, 38, 39, 40, 41, 42, 43] (by decide +kernel) (by decide +kernel)
set_option maxRecDepth 20000 in
theorem gX4_sell_X1_handOver : GoodIn wsX4_sell (wsV RX4 156 RX1 yX1_handOver wsX1_handOver) := goodIn_app (goodIn_of _ (by decide +kernel)) ggX4_sell_X1_handOver
theorem dX4_sell_0 : decode cX4_sell 0 = .ok (.aload_n 0, 1) := by decide +kernel
theorem dX4_sell_1 : decode cX4_sell 1 = .ok (.getfield 19, 3) := by decide +kernel
theorem dX4_sell_4 : decode cX4_sell 4 = .ok (.iload_n 1, 1) := by decide +kernel
theorem dX4_sell_5 : decode cX4_sell 5 = .ok (.invokevirtual 75, 3) := by decide +kernel
theorem dX4_sell_8 : decode cX4_sell 8 = .ok (.ifCond .eq 14, 3) := by decide +kernel
theorem dX4_sell_11 : decode cX4_sell 11 = .ok (.aload_n 0, 1) := by decide +kernel
theorem dX4_sell_12 : decode cX4_sell 12 = .ok (.getfield 19, 3) := by decide +kernel
theorem dX4_sell_15 : decode cX4_sell 15 = .ok (.iload_n 2, 1) := by decide +kernel
theorem dX4_sell_16 : decode cX4_sell 16 = .ok (.invokevirtual 75, 3) := by decide +kernel
theorem dX4_sell_19 : decode cX4_sell 19 = .ok (.ifCond .ne 6, 3) := by decide +kernel
theorem dX4_sell_22 : decode cX4_sell 22 = .ok (.bipush (-2), 2) := by decide +kernel
theorem dX4_sell_24 : decode cX4_sell 24 = .ok (.ireturn, 1) := by decide +kernel
theorem dX4_sell_25 : decode cX4_sell 25 = .ok (.iload_n 1, 1) := by decide +kernel
theorem dX4_sell_26 : decode cX4_sell 26 = .ok (.iload_n 2, 1) := by decide +kernel
theorem dX4_sell_27 : decode cX4_sell 27 = .ok (.if_icmp .ne 6, 3) := by decide +kernel
theorem dX4_sell_30 : decode cX4_sell 30 = .ok (.bipush (-3), 2) := by decide +kernel
theorem dX4_sell_32 : decode cX4_sell 32 = .ok (.ireturn, 1) := by decide +kernel
theorem dX4_sell_33 : decode cX4_sell 33 = .ok (.aload_n 0, 1) := by decide +kernel
theorem dX4_sell_34 : decode cX4_sell 34 = .ok (.getfield 26, 3) := by decide +kernel
theorem dX4_sell_37 : decode cX4_sell 37 = .ok (.getfield 99, 3) := by decide +kernel
theorem dX4_sell_40 : decode cX4_sell 40 = .ok (.iload_n 1, 1) := by decide +kernel
theorem dX4_sell_41 : decode cX4_sell 41 = .ok (.iaload, 1) := by decide +kernel
theorem dX4_sell_42 : decode cX4_sell 42 = .ok (.ifCond .ne 15, 3) := by decide +kernel
theorem dX4_sell_45 : decode cX4_sell 45 = .ok (.aload_n 0, 1) := by decide +kernel
theorem dX4_sell_46 : decode cX4_sell 46 = .ok (.getfield 26, 3) := by decide +kernel
theorem dX4_sell_49 : decode cX4_sell 49 = .ok (.getfield 99, 3) := by decide +kernel
theorem dX4_sell_52 : decode cX4_sell 52 = .ok (.iload_n 2, 1) := by decide +kernel
theorem dX4_sell_53 : decode cX4_sell 53 = .ok (.iaload, 1) := by decide +kernel
theorem dX4_sell_54 : decode cX4_sell 54 = .ok (.ifCond .eq 6, 3) := by decide +kernel
theorem dX4_sell_57 : decode cX4_sell 57 = .ok (.bipush (-4), 2) := by decide +kernel
theorem dX4_sell_59 : decode cX4_sell 59 = .ok (.ireturn, 1) := by decide +kernel
theorem dX4_sell_60 : decode cX4_sell 60 = .ok (.aload_n 0, 1) := by decide +kernel
theorem dX4_sell_61 : decode cX4_sell 61 = .ok (.getfield 26, 3) := by decide +kernel
theorem dX4_sell_64 : decode cX4_sell 64 = .ok (.iload_n 1, 1) := by decide +kernel
theorem dX4_sell_65 : decode cX4_sell 65 = .ok (.iload_n 2, 1) := by decide +kernel
theorem dX4_sell_66 : decode cX4_sell 66 = .ok (.invokevirtual 156, 3) := by decide +kernel
theorem dX4_sell_69 : decode cX4_sell 69 = .ok (.ireturn, 1) := by decide +kernel
set_option maxRecDepth 20000 in
theorem ggX4_keep_X1_copyFrom : GoodIn wsX4_keep wsX1_copyFrom := goodIn_r _ [9, 10, 11, 12, 13, 14, 15, 16, 17, 18, 19, 20, 21, 22, 23, 31, 32, 33, 34, 35, 36, 37, 38, 39, 40] (by decide +kernel) (by decide +kernel)
set_option maxRecDepth 20000 in
theorem gX4_keep_X1_copyFrom : GoodIn wsX4_keep (wsV RX4 160 RX1 yX1_copyFrom wsX1_copyFrom) := goodIn_app (goodIn_of _ (by decide +kernel)) ggX4_keep_X1_copyFrom
theorem dX4_keep_0 : decode cX4_keep 0 = .ok (.iload_n 1, 1) := by decide +kernel
theorem dX4_keep_1 : decode cX4_keep 1 = .ok (.ifCond .lt 12, 3) := by decide +kernel
theorem dX4_keep_4 : decode cX4_keep 4 = .ok (.iload_n 1, 1) := by decide +kernel
theorem dX4_keep_5 : decode cX4_keep 5 = .ok (.aload_n 0, 1) := by decide +kernel
theorem dX4_keep_6 : decode cX4_keep 6 = .ok (.getfield 33, 3) := by decide +kernel
theorem dX4_keep_9 : decode cX4_keep 9 = .ok (.arraylength, 1) := by decide +kernel
theorem dX4_keep_10 : decode cX4_keep 10 = .ok (.if_icmp .lt 6, 3) := by decide +kernel
theorem dX4_keep_13 : decode cX4_keep 13 = .ok (.bipush (-2), 2) := by decide +kernel
theorem dX4_keep_15 : decode cX4_keep 15 = .ok (.ireturn, 1) := by decide +kernel
theorem dX4_keep_16 : decode cX4_keep 16 = .ok (.aload_n 0, 1) := by decide +kernel
theorem dX4_keep_17 : decode cX4_keep 17 = .ok (.getfield 33, 3) := by decide +kernel
theorem dX4_keep_20 : decode cX4_keep 20 = .ok (.iload_n 1, 1) := by decide +kernel
theorem dX4_keep_21 : decode cX4_keep 21 = .ok (.aaload, 1) := by decide +kernel
theorem dX4_keep_22 : decode cX4_keep 22 = .ok (.aload_n 0, 1) := by decide +kernel
theorem dX4_keep_23 : decode cX4_keep 23 = .ok (.getfield 26, 3) := by decide +kernel
theorem dX4_keep_26 : decode cX4_keep 26 = .ok (.invokevirtual 160, 3) := by decide +kernel
theorem dX4_keep_29 : decode cX4_keep 29 = .ok (.aload_n 0, 1) := by decide +kernel
theorem dX4_keep_30 : decode cX4_keep 30 = .ok (.getfield 37, 3) := by decide +kernel
theorem dX4_keep_33 : decode cX4_keep 33 = .ok (.iload_n 1, 1) := by decide +kernel
theorem dX4_keep_34 : decode cX4_keep 34 = .ok (.iconst 1, 1) := by decide +kernel
theorem dX4_keep_35 : decode cX4_keep 35 = .ok (.bastore, 1) := by decide +kernel
theorem dX4_keep_36 : decode cX4_keep 36 = .ok (.aload_n 0, 1) := by decide +kernel
theorem dX4_keep_37 : decode cX4_keep 37 = .ok (.getfield 26, 3) := by decide +kernel
theorem dX4_keep_40 : decode cX4_keep 40 = .ok (.getfield 142, 3) := by decide +kernel
theorem dX4_keep_43 : decode cX4_keep 43 = .ok (.ireturn, 1) := by decide +kernel
set_option maxRecDepth 20000 in
theorem ggX4_back_X1_copyFrom : GoodIn wsX4_back wsX1_copyFrom := goodIn_r _ [9, 10, 11, 12, 13, 14, 15, 16, 17, 18, 19, 20, 21, 22, 23, 31, 32, 33, 34, 35, 36, 37, 38, 39, 40] (by decide +kernel) (by decide +kernel)
set_option maxRecDepth 20000 in
theorem gX4_back_X1_copyFrom : GoodIn wsX4_back (wsV RX4 160 RX1 yX1_copyFrom wsX1_copyFrom) := goodIn_app (goodIn_of _ (by decide +kernel)) ggX4_back_X1_copyFrom
theorem dX4_back_0 : decode cX4_back 0 = .ok (.iload_n 1, 1) := by decide +kernel
theorem dX4_back_1 : decode cX4_back 1 = .ok (.ifCond .lt 12, 3) := by decide +kernel
theorem dX4_back_4 : decode cX4_back 4 = .ok (.iload_n 1, 1) := by decide +kernel
theorem dX4_back_5 : decode cX4_back 5 = .ok (.aload_n 0, 1) := by decide +kernel
theorem dX4_back_6 : decode cX4_back 6 = .ok (.getfield 33, 3) := by decide +kernel
theorem dX4_back_9 : decode cX4_back 9 = .ok (.arraylength, 1) := by decide +kernel
theorem dX4_back_10 : decode cX4_back 10 = .ok (.if_icmp .lt 6, 3) := by decide +kernel
theorem dX4_back_13 : decode cX4_back 13 = .ok (.bipush (-2), 2) := by decide +kernel
theorem dX4_back_15 : decode cX4_back 15 = .ok (.ireturn, 1) := by decide +kernel
theorem dX4_back_16 : decode cX4_back 16 = .ok (.aload_n 0, 1) := by decide +kernel
theorem dX4_back_17 : decode cX4_back 17 = .ok (.getfield 37, 3) := by decide +kernel
theorem dX4_back_20 : decode cX4_back 20 = .ok (.iload_n 1, 1) := by decide +kernel
theorem dX4_back_21 : decode cX4_back 21 = .ok (.baload, 1) := by decide +kernel
theorem dX4_back_22 : decode cX4_back 22 = .ok (.ifCond .ne 6, 3) := by decide +kernel
theorem dX4_back_25 : decode cX4_back 25 = .ok (.bipush (-4), 2) := by decide +kernel
theorem dX4_back_27 : decode cX4_back 27 = .ok (.ireturn, 1) := by decide +kernel
theorem dX4_back_28 : decode cX4_back 28 = .ok (.aload_n 0, 1) := by decide +kernel
theorem dX4_back_29 : decode cX4_back 29 = .ok (.getfield 26, 3) := by decide +kernel
theorem dX4_back_32 : decode cX4_back 32 = .ok (.aload_n 0, 1) := by decide +kernel
theorem dX4_back_33 : decode cX4_back 33 = .ok (.getfield 33, 3) := by decide +kernel
theorem dX4_back_36 : decode cX4_back 36 = .ok (.iload_n 1, 1) := by decide +kernel
theorem dX4_back_37 : decode cX4_back 37 = .ok (.aaload, 1) := by decide +kernel
theorem dX4_back_38 : decode cX4_back 38 = .ok (.invokevirtual 160, 3) := by decide +kernel
theorem dX4_back_41 : decode cX4_back 41 = .ok (.aload_n 0, 1) := by decide +kernel
theorem dX4_back_42 : decode cX4_back 42 = .ok (.getfield 26, 3) := by decide +kernel
theorem dX4_back_45 : decode cX4_back 45 = .ok (.getfield 142, 3) := by decide +kernel
theorem dX4_back_48 : decode cX4_back 48 = .ok (.ireturn, 1) := by decide +kernel
set_option maxRecDepth 20000 in
theorem ggX4_later_X3_has : GoodIn wsX4_later wsX3_has := goodIn_r _ [7, 8, 86, 87, 88, 89, 90, 91, 92, 93, 94, 95] (by decide +kernel) (by decide +kernel)
set_option maxRecDepth 20000 in
theorem gX4_later_X3_has : GoodIn wsX4_later (wsV RX4 75 RX3 yX3_has wsX3_has) := goodIn_app (goodIn_of _ (by decide +kernel)) ggX4_later_X3_has
set_option maxRecDepth 20000 in
theorem ggX4_later_X4_foretell : GoodIn wsX4_later wsX4_foretell := goodIn_r _ [13, 2, 14, 1, 15, 16, 17, 18, 19, 20, 21, 22, 23, 24, 25, 26, 27, 28, 29, 30, 31, 32, 33, 34, 35, 36, 37, 38, 39, 40, 41, 42, 43, 44, 45, 6, 46, 47, 48, 49, 50, 51, 52, 53, 54, 55, 56, 57, 58, 59, 60, 61, 62, 63, 64, 65, 66, 67, 68, 69, 70, 71, 72, 73, 74, 79, 80, 81, 82, 83, 84, 85, 86, 87, 88, 89, 90, 91, 92, 93, 94, 95, 96, 97, 98, 99, 100, 101, 102, 103, 104, 105] (by decide +kernel) (by decide +kernel)
set_option maxRecDepth 20000 in
theorem gX4_later_X4_foretell : GoodIn wsX4_later (wsV RX4 163 RX4 yX4_foretell wsX4_foretell) := goodIn_app (goodIn_of _ (by decide +kernel)) ggX4_later_X4_foretell
set_option maxRecDepth 20000 in
theorem ggX4_later_X1_owedTo : GoodIn wsX4_later wsX1_owedTo := goodIn_r _ [78, 28, 29, 31, 96, 97, 98, 99, 100, 101, 102, 103, 104, 105] (by decide +kernel) (by decide +kernel)
set_option maxRecDepth 20000 in
theorem gX4_later_X1_owedTo : GoodIn wsX4_later (wsV RX4 95 RX1 yX1_owedTo wsX1_owedTo) := goodIn_app (goodIn_of _ (by decide +kernel)) ggX4_later_X1_owedTo
theorem dX4_later_0 : decode cX4_later 0 = .ok (.aload_n 0, 1) := by decide +kernel
theorem dX4_later_1 : decode cX4_later 1 = .ok (.getfield 19, 3) := by decide +kernel
theorem dX4_later_4 : decode cX4_later 4 = .ok (.iload_n 1, 1) := by decide +kernel
theorem dX4_later_5 : decode cX4_later 5 = .ok (.invokevirtual 75, 3) := by decide +kernel
theorem dX4_later_8 : decode cX4_later 8 = .ok (.ifCond .ne 6, 3) := by decide +kernel
theorem dX4_later_11 : decode cX4_later 11 = .ok (.bipush (-2), 2) := by decide +kernel
theorem dX4_later_13 : decode cX4_later 13 = .ok (.ireturn, 1) := by decide +kernel
theorem dX4_later_14 : decode cX4_later 14 = .ok (.iload_n 2, 1) := by decide +kernel
theorem dX4_later_15 : decode cX4_later 15 = .ok (.ifCond .lt 9, 3) := by decide +kernel
theorem dX4_later_18 : decode cX4_later 18 = .ok (.iload_n 2, 1) := by decide +kernel
theorem dX4_later_19 : decode cX4_later 19 = .ok (.bipush 99, 2) := by decide +kernel
theorem dX4_later_21 : decode cX4_later 21 = .ok (.if_icmp .le 6, 3) := by decide +kernel
theorem dX4_later_24 : decode cX4_later 24 = .ok (.bipush (-3), 2) := by decide +kernel
theorem dX4_later_26 : decode cX4_later 26 = .ok (.ireturn, 1) := by decide +kernel
theorem dX4_later_27 : decode cX4_later 27 = .ok (.aload_n 0, 1) := by decide +kernel
theorem dX4_later_28 : decode cX4_later 28 = .ok (.iload_n 2, 1) := by decide +kernel
theorem dX4_later_29 : decode cX4_later 29 = .ok (.invokevirtual 163, 3) := by decide +kernel
theorem dX4_later_32 : decode cX4_later 32 = .ok (.aload_n 0, 1) := by decide +kernel
theorem dX4_later_33 : decode cX4_later 33 = .ok (.getfield 30, 3) := by decide +kernel
theorem dX4_later_36 : decode cX4_later 36 = .ok (.iload_n 1, 1) := by decide +kernel
theorem dX4_later_37 : decode cX4_later 37 = .ok (.invokevirtual 95, 3) := by decide +kernel
theorem dX4_later_40 : decode cX4_later 40 = .ok (.ireturn, 1) := by decide +kernel
set_option maxRecDepth 20000 in
theorem ggX4_all_X4_foretell : GoodIn wsX4_all wsX4_foretell := goodIn_r _ [7, 1, 8, 9, 10, 11, 12, 13, 14, 15, 16, 17, 18, 19, 20, 21, 22, 23, 24, 25, 26, 27, 28, 29, 30, 31, 32, 33, 34, 35, 36, 37, 38, 39, 40, 41, 42, 43, 44, 45, 46, 47, 48, 49, 50, 51, 52, 53, 54, 55, 56, 57, 58, 59, 60, 61, 62, 63, 64, 65, 66, 67, 68, 69, 70, 75, 76, 77, 78, 79, 80, 81, 92, 93, 94, 95, 96, 97, 98, 99, 100, 101, 82, 83, 84, 85, 86, 87, 88, 89, 90, 91] (by decide +kernel) (by decide +kernel)
set_option maxRecDepth 20000 in
theorem gX4_all_X4_foretell : GoodIn wsX4_all (wsV RX4 163 RX4 yX4_foretell wsX4_foretell) := goodIn_app (goodIn_of _ (by decide +kernel)) ggX4_all_X4_foretell
set_option maxRecDepth 20000 in
theorem ggX4_all_X1_owedInAll : GoodIn wsX4_all wsX1_owedInAll := goodIn_r _ [74, 23, 26, 82, 83, 84, 85, 86, 87, 88, 89, 90, 91] (by decide +kernel) (by decide +kernel)
set_option maxRecDepth 20000 in
theorem gX4_all_X1_owedInAll : GoodIn wsX4_all (wsV RX4 166 RX1 yX1_owedInAll wsX1_owedInAll) := goodIn_app (goodIn_of _ (by decide +kernel)) ggX4_all_X1_owedInAll
theorem dX4_all_0 : decode cX4_all 0 = .ok (.iload_n 1, 1) := by decide +kernel
theorem dX4_all_1 : decode cX4_all 1 = .ok (.ifCond .lt 18, 3) := by decide +kernel
theorem dX4_all_4 : decode cX4_all 4 = .ok (.iload_n 1, 1) := by decide +kernel
theorem dX4_all_5 : decode cX4_all 5 = .ok (.bipush 99, 2) := by decide +kernel
theorem dX4_all_7 : decode cX4_all 7 = .ok (.if_icmp .gt 12, 3) := by decide +kernel
theorem dX4_all_10 : decode cX4_all 10 = .ok (.iload_n 2, 1) := by decide +kernel
theorem dX4_all_11 : decode cX4_all 11 = .ok (.ifCond .lt 8, 3) := by decide +kernel
theorem dX4_all_14 : decode cX4_all 14 = .ok (.iload_n 2, 1) := by decide +kernel
theorem dX4_all_15 : decode cX4_all 15 = .ok (.iconst 1, 1) := by decide +kernel
theorem dX4_all_16 : decode cX4_all 16 = .ok (.if_icmp .le 6, 3) := by decide +kernel
theorem dX4_all_19 : decode cX4_all 19 = .ok (.bipush (-3), 2) := by decide +kernel
theorem dX4_all_21 : decode cX4_all 21 = .ok (.ireturn, 1) := by decide +kernel
theorem dX4_all_22 : decode cX4_all 22 = .ok (.aload_n 0, 1) := by decide +kernel
theorem dX4_all_23 : decode cX4_all 23 = .ok (.iload_n 1, 1) := by decide +kernel
theorem dX4_all_24 : decode cX4_all 24 = .ok (.invokevirtual 163, 3) := by decide +kernel
theorem dX4_all_27 : decode cX4_all 27 = .ok (.iload_n 2, 1) := by decide +kernel
theorem dX4_all_28 : decode cX4_all 28 = .ok (.ifCond .ne 13, 3) := by decide +kernel
theorem dX4_all_31 : decode cX4_all 31 = .ok (.aload_n 0, 1) := by decide +kernel
theorem dX4_all_32 : decode cX4_all 32 = .ok (.getfield 30, 3) := by decide +kernel
theorem dX4_all_35 : decode cX4_all 35 = .ok (.invokevirtual 166, 3) := by decide +kernel
theorem dX4_all_38 : decode cX4_all 38 = .ok (.goto 10, 3) := by decide +kernel
theorem dX4_all_41 : decode cX4_all 41 = .ok (.aload_n 0, 1) := by decide +kernel
theorem dX4_all_42 : decode cX4_all 42 = .ok (.getfield 30, 3) := by decide +kernel
theorem dX4_all_45 : decode cX4_all 45 = .ok (.getfield 170, 3) := by decide +kernel
theorem dX4_all_48 : decode cX4_all 48 = .ok (.ireturn, 1) := by decide +kernel
set_option maxRecDepth 20000 in
theorem ggX4_clear_X4_foretell : GoodIn wsX4_clear wsX4_foretell := goodIn_r _ [9, 1, 10, 3, 4, 11, 12, 13, 14, 15, 16, 17, 18, 19, 20, 21, 22, 23, 24, 25, 26, 27, 28, 29, 30, 31, 32, 33, 34, 35, 36, 37, 38, 39, 40, 41, 42, 43, 44, 45, 46, 47, 48, 49, 50, 51, 52, 53, 54, 55, 56, 57, 58, 59, 60, 61, 62, 63, 64, 65, 66, 67, 68, 69, 70, 71, 72, 73, 74, 75, 76, 77, 88, 89, 90, 91, 92, 93, 94, 95, 96, 97, 78, 79, 80, 81, 82, 83, 84, 85, 86, 87] (by decide +kernel) (by decide +kernel)
set_option maxRecDepth 20000 in
theorem gX4_clear_X4_foretell : GoodIn wsX4_clear (wsV RX4 163 RX4 yX4_foretell wsX4_foretell) := goodIn_app (goodIn_of _ (by decide +kernel)) ggX4_clear_X4_foretell
set_option maxRecDepth 20000 in
theorem ggX4_clear_X1_passDays : GoodIn wsX4_clear wsX1_passDays := goodIn_r _ [33, 16, 34, 35, 36, 14, 37, 23, 26, 24, 25, 38, 39, 40, 41, 42, 43, 44, 45, 46, 47, 48, 49, 50, 51, 52, 53, 54, 55, 56, 57, 58, 27, 59, 60, 61, 62, 17, 63, 64, 65, 66, 28, 67, 68, 69, 70, 29, 78, 79, 80, 81, 82, 83, 84, 85, 86, 87, 88, 89, 90, 91, 92, 93, 94, 95, 96, 97] (by decide +kernel) (by decide +kernel)
set_option maxRecDepth 20000 in
theorem gX4_clear_X1_passDays : GoodIn wsX4_clear (wsV RX4 148 RX1 yX1_passDays wsX1_passDays) := goodIn_app (goodIn_of _ (by decide +kernel)) ggX4_clear_X1_passDays
theorem dX4_clear_0 : decode cX4_clear 0 = .ok (.aload_n 0, 1) := by decide +kernel
theorem dX4_clear_1 : decode cX4_clear 1 = .ok (.iconst 0, 1) := by decide +kernel
theorem dX4_clear_2 : decode cX4_clear 2 = .ok (.invokevirtual 163, 3) := by decide +kernel
theorem dX4_clear_5 : decode cX4_clear 5 = .ok (.iconst 0, 1) := by decide +kernel
theorem dX4_clear_6 : decode cX4_clear 6 = .ok (.istore_n 1, 1) := by decide +kernel
theorem dX4_clear_7 : decode cX4_clear 7 = .ok (.iload_n 1, 1) := by decide +kernel
theorem dX4_clear_8 : decode cX4_clear 8 = .ok (.sipush 999, 3) := by decide +kernel
theorem dX4_clear_11 : decode cX4_clear 11 = .ok (.if_icmp .gt 40, 3) := by decide +kernel
theorem dX4_clear_14 : decode cX4_clear 14 = .ok (.aload_n 0, 1) := by decide +kernel
theorem dX4_clear_15 : decode cX4_clear 15 = .ok (.getfield 30, 3) := by decide +kernel
theorem dX4_clear_18 : decode cX4_clear 18 = .ok (.getfield 106, 3) := by decide +kernel
theorem dX4_clear_21 : decode cX4_clear 21 = .ok (.ifCond .ne 5, 3) := by decide +kernel
theorem dX4_clear_24 : decode cX4_clear 24 = .ok (.iload_n 1, 1) := by decide +kernel
theorem dX4_clear_25 : decode cX4_clear 25 = .ok (.ireturn, 1) := by decide +kernel
theorem dX4_clear_26 : decode cX4_clear 26 = .ok (.aload_n 0, 1) := by decide +kernel
theorem dX4_clear_27 : decode cX4_clear 27 = .ok (.getfield 30, 3) := by decide +kernel
theorem dX4_clear_30 : decode cX4_clear 30 = .ok (.aload_n 0, 1) := by decide +kernel
theorem dX4_clear_31 : decode cX4_clear 31 = .ok (.getfield 19, 3) := by decide +kernel
theorem dX4_clear_34 : decode cX4_clear 34 = .ok (.aload_n 0, 1) := by decide +kernel
theorem dX4_clear_35 : decode cX4_clear 35 = .ok (.getfield 19, 3) := by decide +kernel
theorem dX4_clear_38 : decode cX4_clear 38 = .ok (.getfield 145, 3) := by decide +kernel
theorem dX4_clear_41 : decode cX4_clear 41 = .ok (.iconst 1, 1) := by decide +kernel
theorem dX4_clear_42 : decode cX4_clear 42 = .ok (.invokevirtual 148, 3) := by decide +kernel
theorem dX4_clear_45 : decode cX4_clear 45 = .ok (.iinc 1 1, 3) := by decide +kernel
theorem dX4_clear_48 : decode cX4_clear 48 = .ok (.goto (-41), 3) := by decide +kernel
theorem dX4_clear_51 : decode cX4_clear 51 = .ok (.iconst (-1), 1) := by decide +kernel
theorem dX4_clear_52 : decode cX4_clear 52 = .ok (.ireturn, 1) := by decide +kernel
set_option maxRecDepth 20000 in
theorem ggX4_hut_X3_has : GoodIn wsX4_hut wsX3_has := goodIn_r _ [9, 10, 85, 86, 87, 88, 89, 90, 91, 92, 93, 94] (by decide +kernel) (by decide +kernel)
set_option maxRecDepth 20000 in
theorem gX4_hut_X3_has : GoodIn wsX4_hut (wsV RX4 75 RX3 yX3_has wsX3_has) := goodIn_app (goodIn_of _ (by decide +kernel)) ggX4_hut_X3_has
set_option maxRecDepth 20000 in
theorem ggX4_hut_X0_find : GoodIn wsX4_hut wsX0_find := goodIn_r _ [15, 16, 17, 18, 19, 20, 21, 22, 23, 24, 25, 26, 27, 28, 29, 30, 31, 32, 33, 34, 35, 36, 37, 38, 39, 40, 41, 42, 43, 44, 45, 46, 47, 48, 8, 49, 50, 51, 52, 53, 54, 55, 56, 57, 58, 59, 60, 14, 61, 62, 63, 64, 65, 66, 67, 68, 69, 70, 71, 80, 81, 82, 83, 84, 85, 86, 87, 88, 89, 90, 91, 92, 93, 94, 95, 96, 97, 98, 99, 100, 101, 102, 103, 104] (by decide +kernel) (by decide +kernel)
set_option maxRecDepth 20000 in
theorem gX4_hut_X0_find : GoodIn wsX4_hut (wsV RX4 173 RX0 yX0_find wsX0_find) := goodIn_app (goodIn_of _ (by decide +kernel)) ggX4_hut_X0_find
set_option maxRecDepth 20000 in
theorem ggX4_hut_X0_owedTogether : GoodIn wsX4_hut wsX0_owedTogether := goodIn_r _ [66, 17, 16, 80, 81, 82, 83, 84] (by decide +kernel) (by decide +kernel)
set_option maxRecDepth 20000 in
theorem gX4_hut_X0_owedTogether : GoodIn wsX4_hut (wsV RX4 177 RX0 yX0_owedTogether wsX0_owedTogether) := goodIn_app (goodIn_of _ (by decide +kernel)) ggX4_hut_X0_owedTogether
theorem dX4_hut_0 : decode cX4_hut 0 = .ok (.iload_n 3, 1) := by decide +kernel
theorem dX4_hut_1 : decode cX4_hut 1 = .ok (.iconst (-1), 1) := by decide +kernel
theorem dX4_hut_2 : decode cX4_hut 2 = .ok (.if_icmp .eq 17, 3) := by decide +kernel
theorem dX4_hut_5 : decode cX4_hut 5 = .ok (.aload_n 0, 1) := by decide +kernel
theorem dX4_hut_6 : decode cX4_hut 6 = .ok (.getfield 19, 3) := by decide +kernel
theorem dX4_hut_9 : decode cX4_hut 9 = .ok (.iload_n 3, 1) := by decide +kernel
theorem dX4_hut_10 : decode cX4_hut 10 = .ok (.invokevirtual 75, 3) := by decide +kernel
theorem dX4_hut_13 : decode cX4_hut 13 = .ok (.ifCond .ne 6, 3) := by decide +kernel
theorem dX4_hut_16 : decode cX4_hut 16 = .ok (.bipush (-2), 2) := by decide +kernel
theorem dX4_hut_18 : decode cX4_hut 18 = .ok (.ireturn, 1) := by decide +kernel
theorem dX4_hut_19 : decode cX4_hut 19 = .ok (.iload_n 1, 1) := by decide +kernel
theorem dX4_hut_20 : decode cX4_hut 20 = .ok (.iconst 1, 1) := by decide +kernel
theorem dX4_hut_21 : decode cX4_hut 21 = .ok (.if_icmp .lt 19, 3) := by decide +kernel
theorem dX4_hut_24 : decode cX4_hut 24 = .ok (.iload_n 1, 1) := by decide +kernel
theorem dX4_hut_25 : decode cX4_hut 25 = .ok (.bipush 99, 2) := by decide +kernel
theorem dX4_hut_27 : decode cX4_hut 27 = .ok (.if_icmp .gt 13, 3) := by decide +kernel
theorem dX4_hut_30 : decode cX4_hut 30 = .ok (.iload_n 2, 1) := by decide +kernel
theorem dX4_hut_31 : decode cX4_hut 31 = .ok (.ifCond .lt 9, 3) := by decide +kernel
theorem dX4_hut_34 : decode cX4_hut 34 = .ok (.iload_n 2, 1) := by decide +kernel
theorem dX4_hut_35 : decode cX4_hut 35 = .ok (.bipush 30, 2) := by decide +kernel
theorem dX4_hut_37 : decode cX4_hut 37 = .ok (.if_icmp .le 6, 3) := by decide +kernel
theorem dX4_hut_40 : decode cX4_hut 40 = .ok (.bipush (-3), 2) := by decide +kernel
theorem dX4_hut_42 : decode cX4_hut 42 = .ok (.ireturn, 1) := by decide +kernel
theorem dX4_hut_43 : decode cX4_hut 43 = .ok (.aload_n 0, 1) := by decide +kernel
theorem dX4_hut_44 : decode cX4_hut 44 = .ok (.getfield 44, 3) := by decide +kernel
theorem dX4_hut_47 : decode cX4_hut 47 = .ok (.aload_n 0, 1) := by decide +kernel
theorem dX4_hut_48 : decode cX4_hut 48 = .ok (.getfield 19, 3) := by decide +kernel
theorem dX4_hut_51 : decode cX4_hut 51 = .ok (.aload_n 0, 1) := by decide +kernel
theorem dX4_hut_52 : decode cX4_hut 52 = .ok (.getfield 26, 3) := by decide +kernel
theorem dX4_hut_55 : decode cX4_hut 55 = .ok (.iload_n 1, 1) := by decide +kernel
theorem dX4_hut_56 : decode cX4_hut 56 = .ok (.iload_n 2, 1) := by decide +kernel
theorem dX4_hut_57 : decode cX4_hut 57 = .ok (.invokevirtual 173, 3) := by decide +kernel
theorem dX4_hut_60 : decode cX4_hut 60 = .ok (.ifCond .ne 5, 3) := by decide +kernel
theorem dX4_hut_63 : decode cX4_hut 63 = .ok (.iconst (-1), 1) := by decide +kernel
theorem dX4_hut_64 : decode cX4_hut 64 = .ok (.ireturn, 1) := by decide +kernel
theorem dX4_hut_65 : decode cX4_hut 65 = .ok (.iload_n 3, 1) := by decide +kernel
theorem dX4_hut_66 : decode cX4_hut 66 = .ok (.iconst (-1), 1) := by decide +kernel
theorem dX4_hut_67 : decode cX4_hut 67 = .ok (.if_icmp .ne 13, 3) := by decide +kernel
theorem dX4_hut_70 : decode cX4_hut 70 = .ok (.aload_n 0, 1) := by decide +kernel
theorem dX4_hut_71 : decode cX4_hut 71 = .ok (.getfield 44, 3) := by decide +kernel
theorem dX4_hut_74 : decode cX4_hut 74 = .ok (.invokevirtual 177, 3) := by decide +kernel
theorem dX4_hut_77 : decode cX4_hut 77 = .ok (.goto 12, 3) := by decide +kernel
theorem dX4_hut_80 : decode cX4_hut 80 = .ok (.aload_n 0, 1) := by decide +kernel
theorem dX4_hut_81 : decode cX4_hut 81 = .ok (.getfield 44, 3) := by decide +kernel
theorem dX4_hut_84 : decode cX4_hut 84 = .ok (.getfield 180, 3) := by decide +kernel
theorem dX4_hut_87 : decode cX4_hut 87 = .ok (.iload_n 3, 1) := by decide +kernel
theorem dX4_hut_88 : decode cX4_hut 88 = .ok (.iaload, 1) := by decide +kernel
theorem dX4_hut_89 : decode cX4_hut 89 = .ok (.ireturn, 1) := by decide +kernel
set_option maxRecDepth 20000 in
theorem ggX4_enough_X4_anyFails : GoodIn wsX4_enough wsX4_anyFails := goodIn_r _ [5, 6, 7, 8, 9, 10, 11, 12, 13, 14, 15, 16, 17, 18, 19, 20, 21, 22, 23, 24, 25, 26, 27, 28, 29, 30, 31, 32, 33, 34, 35, 36, 37, 38, 39, 40, 41, 42, 43, 44, 45, 46, 47, 48, 49, 50, 51, 52, 53, 54, 55, 56, 57, 58, 59, 60, 61, 62, 63, 64, 65, 66, 67, 68, 69, 70, 71, 72, 73, 74, 75, 76, 77, 78, 79, 80, 81, 82, 83, 84, 85, 86, 87, 88, 89, 90, 91, 92, 93, 94, 95, 96] (by decide +kernel) (by decide +kernel)
set_option maxRecDepth 20000 in
theorem gX4_enough_X4_anyFails : GoodIn wsX4_enough (wsV RX4 183 RX4 yX4_anyFails wsX4_anyFails) := goodIn_app (goodIn_of _ (by decide +kernel)) ggX4_enough_X4_anyFails
theorem dX4_enough_0 : decode cX4_enough 0 = .ok (.iload_n 1, 1) := by decide +kernel
theorem dX4_enough_1 : decode cX4_enough 1 = .ok (.iconst 1, 1) := by decide +kernel
theorem dX4_enough_2 : decode cX4_enough 2 = .ok (.if_icmp .lt 9, 3) := by decide +kernel
theorem dX4_enough_5 : decode cX4_enough 5 = .ok (.iload_n 1, 1) := by decide +kernel
theorem dX4_enough_6 : decode cX4_enough 6 = .ok (.bipush 99, 2) := by decide +kernel
theorem dX4_enough_8 : decode cX4_enough 8 = .ok (.if_icmp .le 6, 3) := by decide +kernel
theorem dX4_enough_11 : decode cX4_enough 11 = .ok (.bipush (-3), 2) := by decide +kernel
theorem dX4_enough_13 : decode cX4_enough 13 = .ok (.ireturn, 1) := by decide +kernel
theorem dX4_enough_14 : decode cX4_enough 14 = .ok (.aload_n 0, 1) := by decide +kernel
theorem dX4_enough_15 : decode cX4_enough 15 = .ok (.bipush 99, 2) := by decide +kernel
theorem dX4_enough_17 : decode cX4_enough 17 = .ok (.iload_n 1, 1) := by decide +kernel
theorem dX4_enough_18 : decode cX4_enough 18 = .ok (.invokevirtual 183, 3) := by decide +kernel
theorem dX4_enough_21 : decode cX4_enough 21 = .ok (.ifCond .eq 5, 3) := by decide +kernel
theorem dX4_enough_24 : decode cX4_enough 24 = .ok (.iconst (-1), 1) := by decide +kernel
theorem dX4_enough_25 : decode cX4_enough 25 = .ok (.ireturn, 1) := by decide +kernel
theorem dX4_enough_26 : decode cX4_enough 26 = .ok (.iconst 0, 1) := by decide +kernel
theorem dX4_enough_27 : decode cX4_enough 27 = .ok (.istore_n 2, 1) := by decide +kernel
theorem dX4_enough_28 : decode cX4_enough 28 = .ok (.bipush 99, 2) := by decide +kernel
theorem dX4_enough_30 : decode cX4_enough 30 = .ok (.istore_n 3, 1) := by decide +kernel
theorem dX4_enough_31 : decode cX4_enough 31 = .ok (.iconst 0, 1) := by decide +kernel
theorem dX4_enough_32 : decode cX4_enough 32 = .ok (.istore 4, 2) := by decide +kernel
theorem dX4_enough_34 : decode cX4_enough 34 = .ok (.iload 4, 2) := by decide +kernel
theorem dX4_enough_36 : decode cX4_enough 36 = .ok (.bipush 99, 2) := by decide +kernel
theorem dX4_enough_38 : decode cX4_enough 38 = .ok (.if_icmp .ge 42, 3) := by decide +kernel
theorem dX4_enough_41 : decode cX4_enough 41 = .ok (.iload_n 2, 1) := by decide +kernel
theorem dX4_enough_42 : decode cX4_enough 42 = .ok (.iload_n 3, 1) := by decide +kernel
theorem dX4_enough_43 : decode cX4_enough 43 = .ok (.if_icmp .ge 37, 3) := by decide +kernel
theorem dX4_enough_46 : decode cX4_enough 46 = .ok (.iload_n 2, 1) := by decide +kernel
theorem dX4_enough_47 : decode cX4_enough 47 = .ok (.iload_n 3, 1) := by decide +kernel
theorem dX4_enough_48 : decode cX4_enough 48 = .ok (.iadd, 1) := by decide +kernel
theorem dX4_enough_49 : decode cX4_enough 49 = .ok (.iconst 2, 1) := by decide +kernel
theorem dX4_enough_50 : decode cX4_enough 50 = .ok (.idiv, 1) := by decide +kernel
theorem dX4_enough_51 : decode cX4_enough 51 = .ok (.istore 5, 2) := by decide +kernel
theorem dX4_enough_53 : decode cX4_enough 53 = .ok (.aload_n 0, 1) := by decide +kernel
theorem dX4_enough_54 : decode cX4_enough 54 = .ok (.iload 5, 2) := by decide +kernel
theorem dX4_enough_56 : decode cX4_enough 56 = .ok (.iload_n 1, 1) := by decide +kernel
theorem dX4_enough_57 : decode cX4_enough 57 = .ok (.invokevirtual 183, 3) := by decide +kernel
theorem dX4_enough_60 : decode cX4_enough 60 = .ok (.ifCond .eq 11, 3) := by decide +kernel
theorem dX4_enough_63 : decode cX4_enough 63 = .ok (.iload 5, 2) := by decide +kernel
theorem dX4_enough_65 : decode cX4_enough 65 = .ok (.iconst 1, 1) := by decide +kernel
theorem dX4_enough_66 : decode cX4_enough 66 = .ok (.iadd, 1) := by decide +kernel
theorem dX4_enough_67 : decode cX4_enough 67 = .ok (.istore_n 2, 1) := by decide +kernel
theorem dX4_enough_68 : decode cX4_enough 68 = .ok (.goto 6, 3) := by decide +kernel
theorem dX4_enough_71 : decode cX4_enough 71 = .ok (.iload 5, 2) := by decide +kernel
theorem dX4_enough_73 : decode cX4_enough 73 = .ok (.istore_n 3, 1) := by decide +kernel
theorem dX4_enough_74 : decode cX4_enough 74 = .ok (.iinc 4 1, 3) := by decide +kernel
theorem dX4_enough_77 : decode cX4_enough 77 = .ok (.goto (-43), 3) := by decide +kernel
theorem dX4_enough_80 : decode cX4_enough 80 = .ok (.iload_n 3, 1) := by decide +kernel
theorem dX4_enough_81 : decode cX4_enough 81 = .ok (.ireturn, 1) := by decide +kernel
set_option maxRecDepth 20000 in
theorem ggX4_rid_X4_commonWithTen : GoodIn wsX4_rid wsX4_commonWithTen := goodIn_r _ [6] (by decide +kernel) (by decide +kernel)
set_option maxRecDepth 20000 in
theorem gX4_rid_X4_commonWithTen : GoodIn wsX4_rid (va_wsS RX4 186 yX4_commonWithTen wsX4_commonWithTen) := goodIn_app (goodIn_of _ (by decide +kernel)) ggX4_rid_X4_commonWithTen
set_option maxRecDepth 20000 in
theorem ggX4_rid_X1_partsWithLoans : GoodIn wsX4_rid wsX1_partsWithLoans := goodIn_r _ [11, 12, 13, 14, 15, 16, 17, 18, 19, 20, 21, 29, 30, 31, 32, 33, 34, 35, 36, 37, 38, 39, 40, 41, 42, 43, 44, 45, 46, 47, 48] (by decide +kernel) (by decide +kernel)
set_option maxRecDepth 20000 in
theorem gX4_rid_X1_partsWithLoans : GoodIn wsX4_rid (wsV RX4 189 RX1 yX1_partsWithLoans wsX1_partsWithLoans) := goodIn_app (goodIn_of _ (by decide +kernel)) ggX4_rid_X1_partsWithLoans
theorem dX4_rid_0 : decode cX4_rid 0 = .ok (.iload_n 1, 1) := by decide +kernel
theorem dX4_rid_1 : decode cX4_rid 1 = .ok (.ifCond .lt 18, 3) := by decide +kernel
theorem dX4_rid_4 : decode cX4_rid 4 = .ok (.iload_n 1, 1) := by decide +kernel
theorem dX4_rid_5 : decode cX4_rid 5 = .ok (.bipush 10, 2) := by decide +kernel
theorem dX4_rid_7 : decode cX4_rid 7 = .ok (.if_icmp .gt 12, 3) := by decide +kernel
theorem dX4_rid_10 : decode cX4_rid 10 = .ok (.iload_n 2, 1) := by decide +kernel
theorem dX4_rid_11 : decode cX4_rid 11 = .ok (.ifCond .lt 8, 3) := by decide +kernel
theorem dX4_rid_14 : decode cX4_rid 14 = .ok (.iload_n 2, 1) := by decide +kernel
theorem dX4_rid_15 : decode cX4_rid 15 = .ok (.iconst 1, 1) := by decide +kernel
theorem dX4_rid_16 : decode cX4_rid 16 = .ok (.if_icmp .le 6, 3) := by decide +kernel
theorem dX4_rid_19 : decode cX4_rid 19 = .ok (.bipush (-3), 2) := by decide +kernel
theorem dX4_rid_21 : decode cX4_rid 21 = .ok (.ireturn, 1) := by decide +kernel
theorem dX4_rid_22 : decode cX4_rid 22 = .ok (.iload_n 2, 1) := by decide +kernel
theorem dX4_rid_23 : decode cX4_rid 23 = .ok (.ifCond .ne 7, 3) := by decide +kernel
theorem dX4_rid_26 : decode cX4_rid 26 = .ok (.iload_n 1, 1) := by decide +kernel
theorem dX4_rid_27 : decode cX4_rid 27 = .ok (.goto 5, 3) := by decide +kernel
theorem dX4_rid_30 : decode cX4_rid 30 = .ok (.bipush 10, 2) := by decide +kernel
theorem dX4_rid_32 : decode cX4_rid 32 = .ok (.iload_n 1, 1) := by decide +kernel
theorem dX4_rid_33 : decode cX4_rid 33 = .ok (.invokestatic 186, 3) := by decide +kernel
theorem dX4_rid_36 : decode cX4_rid 36 = .ok (.idiv, 1) := by decide +kernel
theorem dX4_rid_37 : decode cX4_rid 37 = .ok (.istore_n 3, 1) := by decide +kernel
theorem dX4_rid_38 : decode cX4_rid 38 = .ok (.aload_n 0, 1) := by decide +kernel
theorem dX4_rid_39 : decode cX4_rid 39 = .ok (.getfield 26, 3) := by decide +kernel
theorem dX4_rid_42 : decode cX4_rid 42 = .ok (.aload_n 0, 1) := by decide +kernel
theorem dX4_rid_43 : decode cX4_rid 43 = .ok (.getfield 19, 3) := by decide +kernel
theorem dX4_rid_46 : decode cX4_rid 46 = .ok (.invokevirtual 189, 3) := by decide +kernel
theorem dX4_rid_49 : decode cX4_rid 49 = .ok (.istore 4, 2) := by decide +kernel
theorem dX4_rid_51 : decode cX4_rid 51 = .ok (.iconst 1, 1) := by decide +kernel
theorem dX4_rid_52 : decode cX4_rid 52 = .ok (.istore 5, 2) := by decide +kernel
theorem dX4_rid_54 : decode cX4_rid 54 = .ok (.iconst 0, 1) := by decide +kernel
theorem dX4_rid_55 : decode cX4_rid 55 = .ok (.istore 6, 2) := by decide +kernel
theorem dX4_rid_57 : decode cX4_rid 57 = .ok (.iload 6, 2) := by decide +kernel
theorem dX4_rid_59 : decode cX4_rid 59 = .ok (.iload 4, 2) := by decide +kernel
theorem dX4_rid_61 : decode cX4_rid 61 = .ok (.if_icmp .ge 15, 3) := by decide +kernel
theorem dX4_rid_64 : decode cX4_rid 64 = .ok (.iload 5, 2) := by decide +kernel
theorem dX4_rid_66 : decode cX4_rid 66 = .ok (.iload_n 3, 1) := by decide +kernel
theorem dX4_rid_67 : decode cX4_rid 67 = .ok (.imul, 1) := by decide +kernel
theorem dX4_rid_68 : decode cX4_rid 68 = .ok (.istore 5, 2) := by decide +kernel
theorem dX4_rid_70 : decode cX4_rid 70 = .ok (.iinc 6 1, 3) := by decide +kernel
theorem dX4_rid_73 : decode cX4_rid 73 = .ok (.goto (-16), 3) := by decide +kernel
theorem dX4_rid_76 : decode cX4_rid 76 = .ok (.iload 5, 2) := by decide +kernel
theorem dX4_rid_78 : decode cX4_rid 78 = .ok (.ireturn, 1) := by decide +kernel
set_option maxRecDepth 20000 in
theorem ggX4_grandson_X4_foretell : GoodIn wsX4_grandson wsX4_foretell := goodIn_r _ [10, 3, 11, 1, 12, 13, 14, 15, 16, 17, 18, 19, 20, 21, 22, 23, 24, 25, 26, 27, 28, 29, 30, 31, 32, 33, 34, 35, 36, 37, 38, 39, 40, 41, 42, 43, 44, 45, 46, 47, 48, 49, 50, 51, 52, 53, 54, 55, 56, 57, 58, 59, 60, 61, 62, 63, 64, 65, 66, 67, 68, 69, 70, 71, 72, 73, 74, 75, 76, 77, 78, 79, 80, 81, 82, 83, 84, 85, 86, 87, 88, 89, 90, 91, 92, 93, 94, 95, 96, 97, 98, 99] (by decide +kernel) (by decide +kernel)
set_option maxRecDepth 20000 in
theorem gX4_grandson_X4_foretell : GoodIn wsX4_grandson (wsV RX4 163 RX4 yX4_foretell wsX4_foretell) := goodIn_app (goodIn_of _ (by decide +kernel)) ggX4_grandson_X4_foretell
theorem dX4_grandson_0 : decode cX4_grandson 0 = .ok (.iload_n 1, 1) := by decide +kernel
theorem dX4_grandson_1 : decode cX4_grandson 1 = .ok (.ifCond .lt 9, 3) := by decide +kernel
theorem dX4_grandson_4 : decode cX4_grandson 4 = .ok (.iload_n 1, 1) := by decide +kernel
theorem dX4_grandson_5 : decode cX4_grandson 5 = .ok (.bipush 99, 2) := by decide +kernel
theorem dX4_grandson_7 : decode cX4_grandson 7 = .ok (.if_icmp .le 6, 3) := by decide +kernel
theorem dX4_grandson_10 : decode cX4_grandson 10 = .ok (.bipush (-3), 2) := by decide +kernel
theorem dX4_grandson_12 : decode cX4_grandson 12 = .ok (.ireturn, 1) := by decide +kernel
theorem dX4_grandson_13 : decode cX4_grandson 13 = .ok (.aload_n 0, 1) := by decide +kernel
theorem dX4_grandson_14 : decode cX4_grandson 14 = .ok (.iload_n 1, 1) := by decide +kernel
theorem dX4_grandson_15 : decode cX4_grandson 15 = .ok (.invokevirtual 163, 3) := by decide +kernel
theorem dX4_grandson_18 : decode cX4_grandson 18 = .ok (.iconst 0, 1) := by decide +kernel
theorem dX4_grandson_19 : decode cX4_grandson 19 = .ok (.istore_n 2, 1) := by decide +kernel
theorem dX4_grandson_20 : decode cX4_grandson 20 = .ok (.iconst 0, 1) := by decide +kernel
theorem dX4_grandson_21 : decode cX4_grandson 21 = .ok (.istore_n 3, 1) := by decide +kernel
theorem dX4_grandson_22 : decode cX4_grandson 22 = .ok (.iload_n 3, 1) := by decide +kernel
theorem dX4_grandson_23 : decode cX4_grandson 23 = .ok (.aload_n 0, 1) := by decide +kernel
theorem dX4_grandson_24 : decode cX4_grandson 24 = .ok (.getfield 19, 3) := by decide +kernel
theorem dX4_grandson_27 : decode cX4_grandson 27 = .ok (.getfield 192, 3) := by decide +kernel
theorem dX4_grandson_30 : decode cX4_grandson 30 = .ok (.if_icmp .ge 33, 3) := by decide +kernel
theorem dX4_grandson_33 : decode cX4_grandson 33 = .ok (.aload_n 0, 1) := by decide +kernel
theorem dX4_grandson_34 : decode cX4_grandson 34 = .ok (.getfield 30, 3) := by decide +kernel
theorem dX4_grandson_37 : decode cX4_grandson 37 = .ok (.getfield 99, 3) := by decide +kernel
theorem dX4_grandson_40 : decode cX4_grandson 40 = .ok (.iload_n 3, 1) := by decide +kernel
theorem dX4_grandson_41 : decode cX4_grandson 41 = .ok (.iaload, 1) := by decide +kernel
theorem dX4_grandson_42 : decode cX4_grandson 42 = .ok (.ifCond .ne 15, 3) := by decide +kernel
theorem dX4_grandson_45 : decode cX4_grandson 45 = .ok (.iload_n 2, 1) := by decide +kernel
theorem dX4_grandson_46 : decode cX4_grandson 46 = .ok (.aload_n 0, 1) := by decide +kernel
theorem dX4_grandson_47 : decode cX4_grandson 47 = .ok (.getfield 30, 3) := by decide +kernel
theorem dX4_grandson_50 : decode cX4_grandson 50 = .ok (.getfield 83, 3) := by decide +kernel
theorem dX4_grandson_53 : decode cX4_grandson 53 = .ok (.iload_n 3, 1) := by decide +kernel
theorem dX4_grandson_54 : decode cX4_grandson 54 = .ok (.iaload, 1) := by decide +kernel
theorem dX4_grandson_55 : decode cX4_grandson 55 = .ok (.iadd, 1) := by decide +kernel
theorem dX4_grandson_56 : decode cX4_grandson 56 = .ok (.istore_n 2, 1) := by decide +kernel
theorem dX4_grandson_57 : decode cX4_grandson 57 = .ok (.iinc 3 1, 3) := by decide +kernel
theorem dX4_grandson_60 : decode cX4_grandson 60 = .ok (.goto (-38), 3) := by decide +kernel
theorem dX4_grandson_63 : decode cX4_grandson 63 = .ok (.iload_n 2, 1) := by decide +kernel
theorem dX4_grandson_64 : decode cX4_grandson 64 = .ok (.ireturn, 1) := by decide +kernel
set_option maxRecDepth 20000 in
theorem ggX4_toWhom_X3_grownIn : GoodIn wsX4_toWhom wsX3_grownIn := goodIn_r _ [10, 11, 12, 13, 9, 14, 15, 16, 17, 18, 19, 20, 21, 29, 30, 31, 32, 33, 34, 35, 36, 37, 38] (by decide +kernel) (by decide +kernel)
set_option maxRecDepth 20000 in
theorem gX4_toWhom_X3_grownIn : GoodIn wsX4_toWhom (wsV RX4 131 RX3 yX3_grownIn wsX3_grownIn) := goodIn_app (goodIn_of _ (by decide +kernel)) ggX4_toWhom_X3_grownIn
theorem dX4_toWhom_0 : decode cX4_toWhom 0 = .ok (.iload_n 1, 1) := by decide +kernel
theorem dX4_toWhom_1 : decode cX4_toWhom 1 = .ok (.iconst 1, 1) := by decide +kernel
theorem dX4_toWhom_2 : decode cX4_toWhom 2 = .ok (.if_icmp .lt 29, 3) := by decide +kernel
theorem dX4_toWhom_5 : decode cX4_toWhom 5 = .ok (.iload_n 1, 1) := by decide +kernel
theorem dX4_toWhom_6 : decode cX4_toWhom 6 = .ok (.bipush 99, 2) := by decide +kernel
theorem dX4_toWhom_8 : decode cX4_toWhom 8 = .ok (.if_icmp .gt 23, 3) := by decide +kernel
theorem dX4_toWhom_11 : decode cX4_toWhom 11 = .ok (.iload_n 2, 1) := by decide +kernel
theorem dX4_toWhom_12 : decode cX4_toWhom 12 = .ok (.ifCond .lt 19, 3) := by decide +kernel
theorem dX4_toWhom_15 : decode cX4_toWhom 15 = .ok (.iload_n 2, 1) := by decide +kernel
theorem dX4_toWhom_16 : decode cX4_toWhom 16 = .ok (.bipush 30, 2) := by decide +kernel
theorem dX4_toWhom_18 : decode cX4_toWhom 18 = .ok (.if_icmp .gt 13, 3) := by decide +kernel
theorem dX4_toWhom_21 : decode cX4_toWhom 21 = .ok (.iload_n 3, 1) := by decide +kernel
theorem dX4_toWhom_22 : decode cX4_toWhom 22 = .ok (.ifCond .lt 9, 3) := by decide +kernel
theorem dX4_toWhom_25 : decode cX4_toWhom 25 = .ok (.iload_n 3, 1) := by decide +kernel
theorem dX4_toWhom_26 : decode cX4_toWhom 26 = .ok (.ldc 195, 2) := by decide +kernel
theorem dX4_toWhom_28 : decode cX4_toWhom 28 = .ok (.if_icmp .le 6, 3) := by decide +kernel
theorem dX4_toWhom_31 : decode cX4_toWhom 31 = .ok (.bipush (-3), 2) := by decide +kernel
theorem dX4_toWhom_33 : decode cX4_toWhom 33 = .ok (.ireturn, 1) := by decide +kernel
theorem dX4_toWhom_34 : decode cX4_toWhom 34 = .ok (.iconst 0, 1) := by decide +kernel
theorem dX4_toWhom_35 : decode cX4_toWhom 35 = .ok (.istore 4, 2) := by decide +kernel
theorem dX4_toWhom_37 : decode cX4_toWhom 37 = .ok (.iconst 0, 1) := by decide +kernel
theorem dX4_toWhom_38 : decode cX4_toWhom 38 = .ok (.istore 5, 2) := by decide +kernel
theorem dX4_toWhom_40 : decode cX4_toWhom 40 = .ok (.iload 5, 2) := by decide +kernel
theorem dX4_toWhom_42 : decode cX4_toWhom 42 = .ok (.aload_n 0, 1) := by decide +kernel
theorem dX4_toWhom_43 : decode cX4_toWhom 43 = .ok (.getfield 19, 3) := by decide +kernel
theorem dX4_toWhom_46 : decode cX4_toWhom 46 = .ok (.getfield 192, 3) := by decide +kernel
theorem dX4_toWhom_49 : decode cX4_toWhom 49 = .ok (.if_icmp .ge 46, 3) := by decide +kernel
theorem dX4_toWhom_52 : decode cX4_toWhom 52 = .ok (.aload_n 0, 1) := by decide +kernel
theorem dX4_toWhom_53 : decode cX4_toWhom 53 = .ok (.getfield 26, 3) := by decide +kernel
theorem dX4_toWhom_56 : decode cX4_toWhom 56 = .ok (.getfield 99, 3) := by decide +kernel
theorem dX4_toWhom_59 : decode cX4_toWhom 59 = .ok (.iload 5, 2) := by decide +kernel
theorem dX4_toWhom_61 : decode cX4_toWhom 61 = .ok (.iaload, 1) := by decide +kernel
theorem dX4_toWhom_62 : decode cX4_toWhom 62 = .ok (.ifCond .ne 27, 3) := by decide +kernel
theorem dX4_toWhom_65 : decode cX4_toWhom 65 = .ok (.aload_n 0, 1) := by decide +kernel
theorem dX4_toWhom_66 : decode cX4_toWhom 66 = .ok (.getfield 19, 3) := by decide +kernel
theorem dX4_toWhom_69 : decode cX4_toWhom 69 = .ok (.iload 5, 2) := by decide +kernel
theorem dX4_toWhom_71 : decode cX4_toWhom 71 = .ok (.iload_n 1, 1) := by decide +kernel
theorem dX4_toWhom_72 : decode cX4_toWhom 72 = .ok (.iload_n 2, 1) := by decide +kernel
theorem dX4_toWhom_73 : decode cX4_toWhom 73 = .ok (.invokevirtual 131, 3) := by decide +kernel
theorem dX4_toWhom_76 : decode cX4_toWhom 76 = .ok (.iload_n 3, 1) := by decide +kernel
theorem dX4_toWhom_77 : decode cX4_toWhom 77 = .ok (.if_icmp .ne 12, 3) := by decide +kernel
theorem dX4_toWhom_80 : decode cX4_toWhom 80 = .ok (.iload 4, 2) := by decide +kernel
theorem dX4_toWhom_82 : decode cX4_toWhom 82 = .ok (.iconst 1, 1) := by decide +kernel
theorem dX4_toWhom_83 : decode cX4_toWhom 83 = .ok (.iload 5, 2) := by decide +kernel
theorem dX4_toWhom_85 : decode cX4_toWhom 85 = .ok (.ishl, 1) := by decide +kernel
theorem dX4_toWhom_86 : decode cX4_toWhom 86 = .ok (.ior, 1) := by decide +kernel
theorem dX4_toWhom_87 : decode cX4_toWhom 87 = .ok (.istore 4, 2) := by decide +kernel
theorem dX4_toWhom_89 : decode cX4_toWhom 89 = .ok (.iinc 5 1, 3) := by decide +kernel
theorem dX4_toWhom_92 : decode cX4_toWhom 92 = .ok (.goto (-52), 3) := by decide +kernel
theorem dX4_toWhom_95 : decode cX4_toWhom 95 = .ok (.iload 4, 2) := by decide +kernel
theorem dX4_toWhom_97 : decode cX4_toWhom 97 = .ok (.ireturn, 1) := by decide +kernel
set_option maxRecDepth 20000 in
theorem ggX4_count_X1_owedInAll : GoodIn wsX4_count wsX1_owedInAll := goodIn_r _ [15, 16, 17, 35, 36, 37, 38, 39, 40, 41, 42, 43, 44] (by decide +kernel) (by decide +kernel)
set_option maxRecDepth 20000 in
theorem gX4_count_X1_owedInAll : GoodIn wsX4_count (wsV RX4 166 RX1 yX1_owedInAll wsX1_owedInAll) := goodIn_app (goodIn_of _ (by decide +kernel)) ggX4_count_X1_owedInAll
theorem dX4_count_0 : decode cX4_count 0 = .ok (.iload_n 1, 1) := by decide +kernel
theorem dX4_count_1 : decode cX4_count 1 = .ok (.tableswitch 111 0 7 #[47, 55, 63, 71, 79, 87, 95, 103], 47) := by decide +kernel
theorem dX4_count_48 : decode cX4_count 48 = .ok (.aload_n 0, 1) := by decide +kernel
theorem dX4_count_49 : decode cX4_count 49 = .ok (.getfield 19, 3) := by decide +kernel
theorem dX4_count_52 : decode cX4_count 52 = .ok (.getfield 192, 3) := by decide +kernel
theorem dX4_count_55 : decode cX4_count 55 = .ok (.ireturn, 1) := by decide +kernel
theorem dX4_count_56 : decode cX4_count 56 = .ok (.aload_n 0, 1) := by decide +kernel
theorem dX4_count_57 : decode cX4_count 57 = .ok (.getfield 19, 3) := by decide +kernel
theorem dX4_count_60 : decode cX4_count 60 = .ok (.getfield 196, 3) := by decide +kernel
theorem dX4_count_63 : decode cX4_count 63 = .ok (.ireturn, 1) := by decide +kernel
theorem dX4_count_64 : decode cX4_count 64 = .ok (.aload_n 0, 1) := by decide +kernel
theorem dX4_count_65 : decode cX4_count 65 = .ok (.getfield 19, 3) := by decide +kernel
theorem dX4_count_68 : decode cX4_count 68 = .ok (.getfield 145, 3) := by decide +kernel
theorem dX4_count_71 : decode cX4_count 71 = .ok (.ireturn, 1) := by decide +kernel
theorem dX4_count_72 : decode cX4_count 72 = .ok (.aload_n 0, 1) := by decide +kernel
theorem dX4_count_73 : decode cX4_count 73 = .ok (.getfield 26, 3) := by decide +kernel
theorem dX4_count_76 : decode cX4_count 76 = .ok (.getfield 106, 3) := by decide +kernel
theorem dX4_count_79 : decode cX4_count 79 = .ok (.ireturn, 1) := by decide +kernel
theorem dX4_count_80 : decode cX4_count 80 = .ok (.aload_n 0, 1) := by decide +kernel
theorem dX4_count_81 : decode cX4_count 81 = .ok (.getfield 26, 3) := by decide +kernel
theorem dX4_count_84 : decode cX4_count 84 = .ok (.getfield 142, 3) := by decide +kernel
theorem dX4_count_87 : decode cX4_count 87 = .ok (.ireturn, 1) := by decide +kernel
theorem dX4_count_88 : decode cX4_count 88 = .ok (.aload_n 0, 1) := by decide +kernel
theorem dX4_count_89 : decode cX4_count 89 = .ok (.getfield 26, 3) := by decide +kernel
theorem dX4_count_92 : decode cX4_count 92 = .ok (.getfield 170, 3) := by decide +kernel
theorem dX4_count_95 : decode cX4_count 95 = .ok (.ireturn, 1) := by decide +kernel
theorem dX4_count_96 : decode cX4_count 96 = .ok (.aload_n 0, 1) := by decide +kernel
theorem dX4_count_97 : decode cX4_count 97 = .ok (.getfield 26, 3) := by decide +kernel
theorem dX4_count_100 : decode cX4_count 100 = .ok (.invokevirtual 166, 3) := by decide +kernel
theorem dX4_count_103 : decode cX4_count 103 = .ok (.ireturn, 1) := by decide +kernel
theorem dX4_count_104 : decode cX4_count 104 = .ok (.aload_n 0, 1) := by decide +kernel
theorem dX4_count_105 : decode cX4_count 105 = .ok (.getfield 10, 3) := by decide +kernel
theorem dX4_count_108 : decode cX4_count 108 = .ok (.getfield 48, 3) := by decide +kernel
theorem dX4_count_111 : decode cX4_count 111 = .ok (.ireturn, 1) := by decide +kernel
theorem dX4_count_112 : decode cX4_count 112 = .ok (.bipush (-3), 2) := by decide +kernel
theorem dX4_count_114 : decode cX4_count 114 = .ok (.ireturn, 1) := by decide +kernel
set_option maxRecDepth 20000 in
theorem ggX4_foretell_X1_copyFrom : GoodIn wsX4_foretell wsX1_copyFrom := goodIn_r _ [9, 10, 11, 12, 13, 14, 15, 16, 17, 18, 19, 20, 21, 22, 23, 82, 83, 84, 85, 86, 87, 88, 89, 90, 91] (by decide +kernel) (by decide +kernel)
set_option maxRecDepth 20000 in
theorem gX4_foretell_X1_copyFrom : GoodIn wsX4_foretell (wsV RX4 160 RX1 yX1_copyFrom wsX1_copyFrom) := goodIn_app (goodIn_of _ (by decide +kernel)) ggX4_foretell_X1_copyFrom
set_option maxRecDepth 20000 in
theorem ggX4_foretell_X1_passDays : GoodIn wsX4_foretell wsX1_passDays := goodIn_r _ [27, 10, 28, 29, 30, 8, 31, 17, 20, 18, 19, 32, 33, 34, 35, 36, 37, 38, 39, 40, 41, 42, 43, 44, 45, 46, 47, 48, 49, 50, 51, 52, 21, 53, 54, 55, 56, 11, 57, 58, 59, 60, 22, 61, 62, 63, 64, 23, 82, 83, 84, 85, 86, 87, 88, 89, 90, 91, 72, 73, 74, 75, 76, 77, 78, 79, 80, 81] (by decide +kernel) (by decide +kernel)
set_option maxRecDepth 20000 in
theorem gX4_foretell_X1_passDays : GoodIn wsX4_foretell (wsV RX4 148 RX1 yX1_passDays wsX1_passDays) := goodIn_app (goodIn_of _ (by decide +kernel)) ggX4_foretell_X1_passDays
theorem dX4_foretell_0 : decode cX4_foretell 0 = .ok (.aload_n 0, 1) := by decide +kernel
theorem dX4_foretell_1 : decode cX4_foretell 1 = .ok (.getfield 30, 3) := by decide +kernel
theorem dX4_foretell_4 : decode cX4_foretell 4 = .ok (.aload_n 0, 1) := by decide +kernel
theorem dX4_foretell_5 : decode cX4_foretell 5 = .ok (.getfield 26, 3) := by decide +kernel
theorem dX4_foretell_8 : decode cX4_foretell 8 = .ok (.invokevirtual 160, 3) := by decide +kernel
theorem dX4_foretell_11 : decode cX4_foretell 11 = .ok (.aload_n 0, 1) := by decide +kernel
theorem dX4_foretell_12 : decode cX4_foretell 12 = .ok (.getfield 30, 3) := by decide +kernel
theorem dX4_foretell_15 : decode cX4_foretell 15 = .ok (.aload_n 0, 1) := by decide +kernel
theorem dX4_foretell_16 : decode cX4_foretell 16 = .ok (.getfield 19, 3) := by decide +kernel
theorem dX4_foretell_19 : decode cX4_foretell 19 = .ok (.aload_n 0, 1) := by decide +kernel
theorem dX4_foretell_20 : decode cX4_foretell 20 = .ok (.getfield 19, 3) := by decide +kernel
theorem dX4_foretell_23 : decode cX4_foretell 23 = .ok (.getfield 145, 3) := by decide +kernel
theorem dX4_foretell_26 : decode cX4_foretell 26 = .ok (.iload_n 1, 1) := by decide +kernel
theorem dX4_foretell_27 : decode cX4_foretell 27 = .ok (.invokevirtual 148, 3) := by decide +kernel
theorem dX4_foretell_30 : decode cX4_foretell 30 = .ok (.return_, 1) := by decide +kernel
set_option maxRecDepth 20000 in
theorem ggX4_anyFails_X1_copyFrom : GoodIn wsX4_anyFails wsX1_copyFrom := goodIn_r _ [9, 10, 11, 12, 13, 14, 15, 16, 17, 18, 19, 20, 21, 22, 23, 72, 73, 74, 75, 76, 77, 78, 79, 80, 81] (by decide +kernel) (by decide +kernel)
set_option maxRecDepth 20000 in
theorem gX4_anyFails_X1_copyFrom : GoodIn wsX4_anyFails (wsV RX4 160 RX1 yX1_copyFrom wsX1_copyFrom) := goodIn_app (goodIn_of _ (by decide +kernel)) ggX4_anyFails_X1_copyFrom
set_option maxRecDepth 20000 in
theorem ggX4_anyFails_X1_passDays : GoodIn wsX4_anyFails wsX1_passDays := goodIn_r _ [27, 10, 28, 29, 30, 8, 31, 17, 20, 18, 19, 32, 33, 34, 35, 36, 37, 38, 39, 40, 41, 42, 43, 44, 45, 46, 47, 48, 49, 50, 51, 52, 21, 53, 54, 55, 56, 11, 57, 58, 59, 60, 22, 61, 62, 63, 64, 23, 72, 73, 74, 75, 76, 77, 78, 79, 80, 81, 82, 83, 84, 85, 86, 87, 88, 89, 90, 91] (by decide +kernel) (by decide +kernel)
set_option maxRecDepth 20000 in
theorem gX4_anyFails_X1_passDays : GoodIn wsX4_anyFails (wsV RX4 148 RX1 yX1_passDays wsX1_passDays) := goodIn_app (goodIn_of _ (by decide +kernel)) ggX4_anyFails_X1_passDays
theorem dX4_anyFails_0 : decode cX4_anyFails 0 = .ok (.aload_n 0, 1) := by decide +kernel
theorem dX4_anyFails_1 : decode cX4_anyFails 1 = .ok (.getfield 30, 3) := by decide +kernel
theorem dX4_anyFails_4 : decode cX4_anyFails 4 = .ok (.aload_n 0, 1) := by decide +kernel
theorem dX4_anyFails_5 : decode cX4_anyFails 5 = .ok (.getfield 26, 3) := by decide +kernel
theorem dX4_anyFails_8 : decode cX4_anyFails 8 = .ok (.invokevirtual 160, 3) := by decide +kernel
theorem dX4_anyFails_11 : decode cX4_anyFails 11 = .ok (.iconst 0, 1) := by decide +kernel
theorem dX4_anyFails_12 : decode cX4_anyFails 12 = .ok (.istore_n 3, 1) := by decide +kernel
theorem dX4_anyFails_13 : decode cX4_anyFails 13 = .ok (.iload_n 3, 1) := by decide +kernel
theorem dX4_anyFails_14 : decode cX4_anyFails 14 = .ok (.iload_n 2, 1) := by decide +kernel
theorem dX4_anyFails_15 : decode cX4_anyFails 15 = .ok (.if_icmp .ge 41, 3) := by decide +kernel
theorem dX4_anyFails_18 : decode cX4_anyFails 18 = .ok (.aload_n 0, 1) := by decide +kernel
theorem dX4_anyFails_19 : decode cX4_anyFails 19 = .ok (.getfield 30, 3) := by decide +kernel
theorem dX4_anyFails_22 : decode cX4_anyFails 22 = .ok (.aload_n 0, 1) := by decide +kernel
theorem dX4_anyFails_23 : decode cX4_anyFails 23 = .ok (.getfield 19, 3) := by decide +kernel
theorem dX4_anyFails_26 : decode cX4_anyFails 26 = .ok (.iload_n 1, 1) := by decide +kernel
theorem dX4_anyFails_27 : decode cX4_anyFails 27 = .ok (.iconst 1, 1) := by decide +kernel
theorem dX4_anyFails_28 : decode cX4_anyFails 28 = .ok (.invokevirtual 148, 3) := by decide +kernel
theorem dX4_anyFails_31 : decode cX4_anyFails 31 = .ok (.aload_n 0, 1) := by decide +kernel
theorem dX4_anyFails_32 : decode cX4_anyFails 32 = .ok (.getfield 30, 3) := by decide +kernel
theorem dX4_anyFails_35 : decode cX4_anyFails 35 = .ok (.getfield 170, 3) := by decide +kernel
theorem dX4_anyFails_38 : decode cX4_anyFails 38 = .ok (.aload_n 0, 1) := by decide +kernel
theorem dX4_anyFails_39 : decode cX4_anyFails 39 = .ok (.getfield 26, 3) := by decide +kernel
theorem dX4_anyFails_42 : decode cX4_anyFails 42 = .ok (.getfield 170, 3) := by decide +kernel
theorem dX4_anyFails_45 : decode cX4_anyFails 45 = .ok (.if_icmp .le 5, 3) := by decide +kernel
theorem dX4_anyFails_48 : decode cX4_anyFails 48 = .ok (.iconst 1, 1) := by decide +kernel
theorem dX4_anyFails_49 : decode cX4_anyFails 49 = .ok (.ireturn, 1) := by decide +kernel
theorem dX4_anyFails_50 : decode cX4_anyFails 50 = .ok (.iinc 3 1, 3) := by decide +kernel
theorem dX4_anyFails_53 : decode cX4_anyFails 53 = .ok (.goto (-40), 3) := by decide +kernel
theorem dX4_anyFails_56 : decode cX4_anyFails 56 = .ok (.iconst 0, 1) := by decide +kernel
theorem dX4_anyFails_57 : decode cX4_anyFails 57 = .ok (.ireturn, 1) := by decide +kernel
theorem dX4_commonWithTen_0 : decode cX4_commonWithTen 0 = .ok (.iload_n 0, 1) := by decide +kernel
theorem dX4_commonWithTen_1 : decode cX4_commonWithTen 1 = .ok (.iconst 2, 1) := by decide +kernel
theorem dX4_commonWithTen_2 : decode cX4_commonWithTen 2 = .ok (.irem, 1) := by decide +kernel
theorem dX4_commonWithTen_3 : decode cX4_commonWithTen 3 = .ok (.ifCond .ne 7, 3) := by decide +kernel
theorem dX4_commonWithTen_6 : decode cX4_commonWithTen 6 = .ok (.iconst 2, 1) := by decide +kernel
theorem dX4_commonWithTen_7 : decode cX4_commonWithTen 7 = .ok (.goto 4, 3) := by decide +kernel
theorem dX4_commonWithTen_10 : decode cX4_commonWithTen 10 = .ok (.iconst 1, 1) := by decide +kernel
theorem dX4_commonWithTen_11 : decode cX4_commonWithTen 11 = .ok (.iload_n 0, 1) := by decide +kernel
theorem dX4_commonWithTen_12 : decode cX4_commonWithTen 12 = .ok (.iconst 5, 1) := by decide +kernel
theorem dX4_commonWithTen_13 : decode cX4_commonWithTen 13 = .ok (.irem, 1) := by decide +kernel
theorem dX4_commonWithTen_14 : decode cX4_commonWithTen 14 = .ok (.ifCond .ne 7, 3) := by decide +kernel
theorem dX4_commonWithTen_17 : decode cX4_commonWithTen 17 = .ok (.iconst 5, 1) := by decide +kernel
theorem dX4_commonWithTen_18 : decode cX4_commonWithTen 18 = .ok (.goto 4, 3) := by decide +kernel
theorem dX4_commonWithTen_21 : decode cX4_commonWithTen 21 = .ok (.iconst 1, 1) := by decide +kernel
theorem dX4_commonWithTen_22 : decode cX4_commonWithTen 22 = .ok (.imul, 1) := by decide +kernel
theorem dX4_commonWithTen_23 : decode cX4_commonWithTen 23 = .ok (.ireturn, 1) := by decide +kernel
theorem dX5_init_0 : decode cX5_init 0 = .ok (.aload_n 0, 1) := by decide +kernel
theorem dX5_init_1 : decode cX5_init 1 = .ok (.invokespecial 1, 3) := by decide +kernel
theorem dX5_init_4 : decode cX5_init 4 = .ok (.aload_n 0, 1) := by decide +kernel
theorem dX5_init_5 : decode cX5_init 5 = .ok (.sipush 375, 3) := by decide +kernel
theorem dX5_init_8 : decode cX5_init 8 = .ok (.newarray .int, 2) := by decide +kernel
theorem dX5_init_10 : decode cX5_init 10 = .ok (.putfield 7, 3) := by decide +kernel
theorem dX5_init_13 : decode cX5_init 13 = .ok (.aload_n 0, 1) := by decide +kernel
theorem dX5_init_14 : decode cX5_init 14 = .ok (.iconst 2, 1) := by decide +kernel
theorem dX5_init_15 : decode cX5_init 15 = .ok (.newarray .boolean, 2) := by decide +kernel
theorem dX5_init_17 : decode cX5_init 17 = .ok (.putfield 13, 3) := by decide +kernel
theorem dX5_init_20 : decode cX5_init 20 = .ok (.aload_n 0, 1) := by decide +kernel
theorem dX5_init_21 : decode cX5_init 21 = .ok (.sipush 200, 3) := by decide +kernel
theorem dX5_init_24 : decode cX5_init 24 = .ok (.newarray .int, 2) := by decide +kernel
theorem dX5_init_26 : decode cX5_init 26 = .ok (.putfield 17, 3) := by decide +kernel
theorem dX5_init_29 : decode cX5_init 29 = .ok (.aload_n 0, 1) := by decide +kernel
theorem dX5_init_30 : decode cX5_init 30 = .ok (.bipush 48, 2) := by decide +kernel
theorem dX5_init_32 : decode cX5_init 32 = .ok (.newarray .int, 2) := by decide +kernel
theorem dX5_init_34 : decode cX5_init 34 = .ok (.putfield 20, 3) := by decide +kernel
theorem dX5_init_37 : decode cX5_init 37 = .ok (.aload_n 0, 1) := by decide +kernel
theorem dX5_init_38 : decode cX5_init 38 = .ok (.bipush 6, 2) := by decide +kernel
theorem dX5_init_40 : decode cX5_init 40 = .ok (.newarray .int, 2) := by decide +kernel
theorem dX5_init_42 : decode cX5_init 42 = .ok (.putfield 23, 3) := by decide +kernel
theorem dX5_init_45 : decode cX5_init 45 = .ok (.aload_n 0, 1) := by decide +kernel
theorem dX5_init_46 : decode cX5_init 46 = .ok (.bipush 6, 2) := by decide +kernel
theorem dX5_init_48 : decode cX5_init 48 = .ok (.newarray .int, 2) := by decide +kernel
theorem dX5_init_50 : decode cX5_init 50 = .ok (.putfield 26, 3) := by decide +kernel
theorem dX5_init_53 : decode cX5_init 53 = .ok (.aload_n 0, 1) := by decide +kernel
theorem dX5_init_54 : decode cX5_init 54 = .ok (.bipush 6, 2) := by decide +kernel
theorem dX5_init_56 : decode cX5_init 56 = .ok (.newarray .int, 2) := by decide +kernel
theorem dX5_init_58 : decode cX5_init 58 = .ok (.putfield 29, 3) := by decide +kernel
theorem dX5_init_61 : decode cX5_init 61 = .ok (.aload_n 0, 1) := by decide +kernel
theorem dX5_init_62 : decode cX5_init 62 = .ok (.bipush 6, 2) := by decide +kernel
theorem dX5_init_64 : decode cX5_init 64 = .ok (.newarray .int, 2) := by decide +kernel
theorem dX5_init_66 : decode cX5_init 66 = .ok (.putfield 32, 3) := by decide +kernel
theorem dX5_init_69 : decode cX5_init 69 = .ok (.aload_n 0, 1) := by decide +kernel
theorem dX5_init_70 : decode cX5_init 70 = .ok (.bipush 12, 2) := by decide +kernel
theorem dX5_init_72 : decode cX5_init 72 = .ok (.newarray .int, 2) := by decide +kernel
theorem dX5_init_74 : decode cX5_init 74 = .ok (.putfield 35, 3) := by decide +kernel
theorem dX5_init_77 : decode cX5_init 77 = .ok (.aload_n 0, 1) := by decide +kernel
theorem dX5_init_78 : decode cX5_init 78 = .ok (.iconst 5, 1) := by decide +kernel
theorem dX5_init_79 : decode cX5_init 79 = .ok (.putfield 38, 3) := by decide +kernel
theorem dX5_init_82 : decode cX5_init 82 = .ok (.aload_n 0, 1) := by decide +kernel
theorem dX5_init_83 : decode cX5_init 83 = .ok (.sipush 600, 3) := by decide +kernel
theorem dX5_init_86 : decode cX5_init 86 = .ok (.newarray .int, 2) := by decide +kernel
theorem dX5_init_88 : decode cX5_init 88 = .ok (.putfield 42, 3) := by decide +kernel
theorem dX5_init_91 : decode cX5_init 91 = .ok (.aload_n 0, 1) := by decide +kernel
theorem dX5_init_92 : decode cX5_init 92 = .ok (.sipush 700, 3) := by decide +kernel
theorem dX5_init_95 : decode cX5_init 95 = .ok (.newarray .int, 2) := by decide +kernel
theorem dX5_init_97 : decode cX5_init 97 = .ok (.putfield 45, 3) := by decide +kernel
theorem dX5_init_100 : decode cX5_init 100 = .ok (.return_, 1) := by decide +kernel
theorem dX5_in_0 : decode cX5_in 0 = .ok (.lload_n 0, 1) := by decide +kernel
theorem dX5_in_1 : decode cX5_in 1 = .ok (.lload_n 2, 1) := by decide +kernel
theorem dX5_in_2 : decode cX5_in 2 = .ok (.lcmp, 1) := by decide +kernel
theorem dX5_in_3 : decode cX5_in 3 = .ok (.ifCond .lt 14, 3) := by decide +kernel
theorem dX5_in_6 : decode cX5_in 6 = .ok (.lload_n 0, 1) := by decide +kernel
theorem dX5_in_7 : decode cX5_in 7 = .ok (.lload 4, 2) := by decide +kernel
theorem dX5_in_9 : decode cX5_in 9 = .ok (.lcmp, 1) := by decide +kernel
theorem dX5_in_10 : decode cX5_in 10 = .ok (.ifCond .gt 7, 3) := by decide +kernel
theorem dX5_in_13 : decode cX5_in 13 = .ok (.iconst 1, 1) := by decide +kernel
theorem dX5_in_14 : decode cX5_in 14 = .ok (.goto 4, 3) := by decide +kernel
theorem dX5_in_17 : decode cX5_in 17 = .ok (.iconst 0, 1) := by decide +kernel
theorem dX5_in_18 : decode cX5_in 18 = .ok (.ireturn, 1) := by decide +kernel
theorem dX5_copy_0 : decode cX5_copy 0 = .ok (.iconst 0, 1) := by decide +kernel
theorem dX5_copy_1 : decode cX5_copy 1 = .ok (.istore_n 3, 1) := by decide +kernel
theorem dX5_copy_2 : decode cX5_copy 2 = .ok (.iload_n 3, 1) := by decide +kernel
theorem dX5_copy_3 : decode cX5_copy 3 = .ok (.bipush 75, 2) := by decide +kernel
theorem dX5_copy_5 : decode cX5_copy 5 = .ok (.if_icmp .ge 25, 3) := by decide +kernel
theorem dX5_copy_8 : decode cX5_copy 8 = .ok (.aload_n 0, 1) := by decide +kernel
theorem dX5_copy_9 : decode cX5_copy 9 = .ok (.getfield 7, 3) := by decide +kernel
theorem dX5_copy_12 : decode cX5_copy 12 = .ok (.iload_n 2, 1) := by decide +kernel
theorem dX5_copy_13 : decode cX5_copy 13 = .ok (.iload_n 3, 1) := by decide +kernel
theorem dX5_copy_14 : decode cX5_copy 14 = .ok (.iadd, 1) := by decide +kernel
theorem dX5_copy_15 : decode cX5_copy 15 = .ok (.aload_n 0, 1) := by decide +kernel
theorem dX5_copy_16 : decode cX5_copy 16 = .ok (.getfield 7, 3) := by decide +kernel
theorem dX5_copy_19 : decode cX5_copy 19 = .ok (.iload_n 1, 1) := by decide +kernel
theorem dX5_copy_20 : decode cX5_copy 20 = .ok (.iload_n 3, 1) := by decide +kernel
theorem dX5_copy_21 : decode cX5_copy 21 = .ok (.iadd, 1) := by decide +kernel
theorem dX5_copy_22 : decode cX5_copy 22 = .ok (.iaload, 1) := by decide +kernel
theorem dX5_copy_23 : decode cX5_copy 23 = .ok (.iastore, 1) := by decide +kernel
theorem dX5_copy_24 : decode cX5_copy 24 = .ok (.iinc 3 1, 3) := by decide +kernel
theorem dX5_copy_27 : decode cX5_copy 27 = .ok (.goto (-25), 3) := by decide +kernel
theorem dX5_copy_30 : decode cX5_copy 30 = .ok (.return_, 1) := by decide +kernel
set_option maxRecDepth 20000 in
theorem ggX5_write_X5_in : GoodIn wsX5_write wsX5_in := goodIn_r _ [8] (by decide +kernel) (by decide +kernel)
set_option maxRecDepth 20000 in
theorem gX5_write_X5_in : GoodIn wsX5_write (va_wsS RX5 50 yX5_in wsX5_in) := goodIn_app (goodIn_of _ (by decide +kernel)) ggX5_write_X5_in
theorem dX5_write_0 : decode cX5_write 0 = .ok (.iload_n 3, 1) := by decide +kernel
theorem dX5_write_1 : decode cX5_write 1 = .ok (.i2l, 1) := by decide +kernel
theorem dX5_write_2 : decode cX5_write 2 = .ok (.lconst 1, 1) := by decide +kernel
theorem dX5_write_3 : decode cX5_write 3 = .ok (.ldc2_w 48, 3) := by decide +kernel
theorem dX5_write_6 : decode cX5_write 6 = .ok (.invokestatic 50, 3) := by decide +kernel
theorem dX5_write_9 : decode cX5_write 9 = .ok (.ifCond .ne 6, 3) := by decide +kernel
theorem dX5_write_12 : decode cX5_write 12 = .ok (.bipush (-3), 2) := by decide +kernel
theorem dX5_write_14 : decode cX5_write 14 = .ok (.ireturn, 1) := by decide +kernel
theorem dX5_write_15 : decode cX5_write 15 = .ok (.aload_n 0, 1) := by decide +kernel
theorem dX5_write_16 : decode cX5_write 16 = .ok (.getfield 54, 3) := by decide +kernel
theorem dX5_write_19 : decode cX5_write 19 = .ok (.iload_n 3, 1) := by decide +kernel
theorem dX5_write_20 : decode cX5_write 20 = .ok (.iadd, 1) := by decide +kernel
theorem dX5_write_21 : decode cX5_write 21 = .ok (.sipush 200, 3) := by decide +kernel
theorem dX5_write_24 : decode cX5_write 24 = .ok (.if_icmp .le 6, 3) := by decide +kernel
theorem dX5_write_27 : decode cX5_write 27 = .ok (.bipush (-5), 2) := by decide +kernel
theorem dX5_write_29 : decode cX5_write 29 = .ok (.ireturn, 1) := by decide +kernel
theorem dX5_write_30 : decode cX5_write 30 = .ok (.iconst 0, 1) := by decide +kernel
theorem dX5_write_31 : decode cX5_write 31 = .ok (.istore 4, 2) := by decide +kernel
theorem dX5_write_33 : decode cX5_write 33 = .ok (.iload 4, 2) := by decide +kernel
theorem dX5_write_35 : decode cX5_write 35 = .ok (.iload_n 3, 1) := by decide +kernel
theorem dX5_write_36 : decode cX5_write 36 = .ok (.if_icmp .ge 40, 3) := by decide +kernel
theorem dX5_write_39 : decode cX5_write 39 = .ok (.aload_n 0, 1) := by decide +kernel
theorem dX5_write_40 : decode cX5_write 40 = .ok (.getfield 17, 3) := by decide +kernel
theorem dX5_write_43 : decode cX5_write 43 = .ok (.aload_n 0, 1) := by decide +kernel
theorem dX5_write_44 : decode cX5_write 44 = .ok (.getfield 54, 3) := by decide +kernel
theorem dX5_write_47 : decode cX5_write 47 = .ok (.lload_n 1, 1) := by decide +kernel
theorem dX5_write_48 : decode cX5_write 48 = .ok (.bipush 8, 2) := by decide +kernel
theorem dX5_write_50 : decode cX5_write 50 = .ok (.iload 4, 2) := by decide +kernel
theorem dX5_write_52 : decode cX5_write 52 = .ok (.imul, 1) := by decide +kernel
theorem dX5_write_53 : decode cX5_write 53 = .ok (.lshr, 1) := by decide +kernel
theorem dX5_write_54 : decode cX5_write 54 = .ok (.ldc2_w 57, 3) := by decide +kernel
theorem dX5_write_57 : decode cX5_write 57 = .ok (.land, 1) := by decide +kernel
theorem dX5_write_58 : decode cX5_write 58 = .ok (.l2i, 1) := by decide +kernel
theorem dX5_write_59 : decode cX5_write 59 = .ok (.iastore, 1) := by decide +kernel
theorem dX5_write_60 : decode cX5_write 60 = .ok (.aload_n 0, 1) := by decide +kernel
theorem dX5_write_61 : decode cX5_write 61 = .ok (.dup, 1) := by decide +kernel
theorem dX5_write_62 : decode cX5_write 62 = .ok (.getfield 54, 3) := by decide +kernel
theorem dX5_write_65 : decode cX5_write 65 = .ok (.iconst 1, 1) := by decide +kernel
theorem dX5_write_66 : decode cX5_write 66 = .ok (.iadd, 1) := by decide +kernel
theorem dX5_write_67 : decode cX5_write 67 = .ok (.putfield 54, 3) := by decide +kernel
theorem dX5_write_70 : decode cX5_write 70 = .ok (.iinc 4 1, 3) := by decide +kernel
theorem dX5_write_73 : decode cX5_write 73 = .ok (.goto (-40), 3) := by decide +kernel
theorem dX5_write_76 : decode cX5_write 76 = .ok (.aload_n 0, 1) := by decide +kernel
theorem dX5_write_77 : decode cX5_write 77 = .ok (.getfield 54, 3) := by decide +kernel
theorem dX5_write_80 : decode cX5_write 80 = .ok (.ireturn, 1) := by decide +kernel
theorem dX5_erase_0 : decode cX5_erase 0 = .ok (.aload_n 0, 1) := by decide +kernel
theorem dX5_erase_1 : decode cX5_erase 1 = .ok (.getfield 54, 3) := by decide +kernel
theorem dX5_erase_4 : decode cX5_erase 4 = .ok (.istore_n 1, 1) := by decide +kernel
theorem dX5_erase_5 : decode cX5_erase 5 = .ok (.aload_n 0, 1) := by decide +kernel
theorem dX5_erase_6 : decode cX5_erase 6 = .ok (.iconst 0, 1) := by decide +kernel
theorem dX5_erase_7 : decode cX5_erase 7 = .ok (.putfield 54, 3) := by decide +kernel
theorem dX5_erase_10 : decode cX5_erase 10 = .ok (.iload_n 1, 1) := by decide +kernel
theorem dX5_erase_11 : decode cX5_erase 11 = .ok (.ireturn, 1) := by decide +kernel
theorem dX5_sort_0 : decode cX5_sort 0 = .ok (.iload_n 0, 1) := by decide +kernel
theorem dX5_sort_1 : decode cX5_sort 1 = .ok (.bipush 97, 2) := by decide +kernel
theorem dX5_sort_3 : decode cX5_sort 3 = .ok (.if_icmp .lt 13, 3) := by decide +kernel
theorem dX5_sort_6 : decode cX5_sort 6 = .ok (.iload_n 0, 1) := by decide +kernel
theorem dX5_sort_7 : decode cX5_sort 7 = .ok (.bipush 122, 2) := by decide +kernel
theorem dX5_sort_9 : decode cX5_sort 9 = .ok (.if_icmp .gt 7, 3) := by decide +kernel
theorem dX5_sort_12 : decode cX5_sort 12 = .ok (.iconst 1, 1) := by decide +kernel
theorem dX5_sort_13 : decode cX5_sort 13 = .ok (.goto 20, 3) := by decide +kernel
theorem dX5_sort_16 : decode cX5_sort 16 = .ok (.iload_n 0, 1) := by decide +kernel
theorem dX5_sort_17 : decode cX5_sort 17 = .ok (.bipush 48, 2) := by decide +kernel
theorem dX5_sort_19 : decode cX5_sort 19 = .ok (.if_icmp .lt 13, 3) := by decide +kernel
theorem dX5_sort_22 : decode cX5_sort 22 = .ok (.iload_n 0, 1) := by decide +kernel
theorem dX5_sort_23 : decode cX5_sort 23 = .ok (.bipush 57, 2) := by decide +kernel
theorem dX5_sort_25 : decode cX5_sort 25 = .ok (.if_icmp .gt 7, 3) := by decide +kernel
theorem dX5_sort_28 : decode cX5_sort 28 = .ok (.iconst 2, 1) := by decide +kernel
theorem dX5_sort_29 : decode cX5_sort 29 = .ok (.goto 4, 3) := by decide +kernel
theorem dX5_sort_32 : decode cX5_sort 32 = .ok (.iconst 0, 1) := by decide +kernel
theorem dX5_sort_33 : decode cX5_sort 33 = .ok (.ireturn, 1) := by decide +kernel
set_option maxRecDepth 20000 in
theorem ggX5_token_X5_sort : GoodIn wsX5_token wsX5_sort := goodIn_r _ [9] (by decide +kernel) (by decide +kernel)
set_option maxRecDepth 20000 in
theorem gX5_token_X5_sort : GoodIn wsX5_token (va_wsS RX5 65 yX5_sort wsX5_sort) := goodIn_app (goodIn_of _ (by decide +kernel)) ggX5_token_X5_sort
theorem dX5_token_0 : decode cX5_token 0 = .ok (.aload_n 0, 1) := by decide +kernel
theorem dX5_token_1 : decode cX5_token 1 = .ok (.getfield 59, 3) := by decide +kernel
theorem dX5_token_4 : decode cX5_token 4 = .ok (.aload_n 0, 1) := by decide +kernel
theorem dX5_token_5 : decode cX5_token 5 = .ok (.getfield 54, 3) := by decide +kernel
theorem dX5_token_8 : decode cX5_token 8 = .ok (.if_icmp .ge 30, 3) := by decide +kernel
theorem dX5_token_11 : decode cX5_token 11 = .ok (.aload_n 0, 1) := by decide +kernel
theorem dX5_token_12 : decode cX5_token 12 = .ok (.getfield 17, 3) := by decide +kernel
theorem dX5_token_15 : decode cX5_token 15 = .ok (.aload_n 0, 1) := by decide +kernel
theorem dX5_token_16 : decode cX5_token 16 = .ok (.getfield 59, 3) := by decide +kernel
theorem dX5_token_19 : decode cX5_token 19 = .ok (.iaload, 1) := by decide +kernel
theorem dX5_token_20 : decode cX5_token 20 = .ok (.bipush 32, 2) := by decide +kernel
theorem dX5_token_22 : decode cX5_token 22 = .ok (.if_icmp .ne 16, 3) := by decide +kernel
theorem dX5_token_25 : decode cX5_token 25 = .ok (.aload_n 0, 1) := by decide +kernel
theorem dX5_token_26 : decode cX5_token 26 = .ok (.dup, 1) := by decide +kernel
theorem dX5_token_27 : decode cX5_token 27 = .ok (.getfield 59, 3) := by decide +kernel
theorem dX5_token_30 : decode cX5_token 30 = .ok (.iconst 1, 1) := by decide +kernel
theorem dX5_token_31 : decode cX5_token 31 = .ok (.iadd, 1) := by decide +kernel
theorem dX5_token_32 : decode cX5_token 32 = .ok (.putfield 59, 3) := by decide +kernel
theorem dX5_token_35 : decode cX5_token 35 = .ok (.goto (-35), 3) := by decide +kernel
theorem dX5_token_38 : decode cX5_token 38 = .ok (.aload_n 0, 1) := by decide +kernel
theorem dX5_token_39 : decode cX5_token 39 = .ok (.aload_n 0, 1) := by decide +kernel
theorem dX5_token_40 : decode cX5_token 40 = .ok (.getfield 59, 3) := by decide +kernel
theorem dX5_token_43 : decode cX5_token 43 = .ok (.putfield 62, 3) := by decide +kernel
theorem dX5_token_46 : decode cX5_token 46 = .ok (.aload_n 0, 1) := by decide +kernel
theorem dX5_token_47 : decode cX5_token 47 = .ok (.dup, 1) := by decide +kernel
theorem dX5_token_48 : decode cX5_token 48 = .ok (.getfield 59, 3) := by decide +kernel
theorem dX5_token_51 : decode cX5_token 51 = .ok (.aload_n 0, 1) := by decide +kernel
theorem dX5_token_52 : decode cX5_token 52 = .ok (.getfield 59, 3) := by decide +kernel
theorem dX5_token_55 : decode cX5_token 55 = .ok (.aload_n 0, 1) := by decide +kernel
theorem dX5_token_56 : decode cX5_token 56 = .ok (.getfield 54, 3) := by decide +kernel
theorem dX5_token_59 : decode cX5_token 59 = .ok (.if_icmp .ge 7, 3) := by decide +kernel
theorem dX5_token_62 : decode cX5_token 62 = .ok (.iconst 1, 1) := by decide +kernel
theorem dX5_token_63 : decode cX5_token 63 = .ok (.goto 4, 3) := by decide +kernel
theorem dX5_token_66 : decode cX5_token 66 = .ok (.iconst 0, 1) := by decide +kernel
theorem dX5_token_67 : decode cX5_token 67 = .ok (.iadd, 1) := by decide +kernel
theorem dX5_token_68 : decode cX5_token 68 = .ok (.putfield 59, 3) := by decide +kernel
theorem dX5_token_71 : decode cX5_token 71 = .ok (.aload_n 0, 1) := by decide +kernel
theorem dX5_token_72 : decode cX5_token 72 = .ok (.getfield 59, 3) := by decide +kernel
theorem dX5_token_75 : decode cX5_token 75 = .ok (.aload_n 0, 1) := by decide +kernel
theorem dX5_token_76 : decode cX5_token 76 = .ok (.getfield 54, 3) := by decide +kernel
theorem dX5_token_79 : decode cX5_token 79 = .ok (.if_icmp .ge 58, 3) := by decide +kernel
theorem dX5_token_82 : decode cX5_token 82 = .ok (.aload_n 0, 1) := by decide +kernel
theorem dX5_token_83 : decode cX5_token 83 = .ok (.getfield 17, 3) := by decide +kernel
theorem dX5_token_86 : decode cX5_token 86 = .ok (.aload_n 0, 1) := by decide +kernel
theorem dX5_token_87 : decode cX5_token 87 = .ok (.getfield 62, 3) := by decide +kernel
theorem dX5_token_90 : decode cX5_token 90 = .ok (.iaload, 1) := by decide +kernel
theorem dX5_token_91 : decode cX5_token 91 = .ok (.invokestatic 65, 3) := by decide +kernel
theorem dX5_token_94 : decode cX5_token 94 = .ok (.ifCond .le 43, 3) := by decide +kernel
theorem dX5_token_97 : decode cX5_token 97 = .ok (.aload_n 0, 1) := by decide +kernel
theorem dX5_token_98 : decode cX5_token 98 = .ok (.getfield 17, 3) := by decide +kernel
theorem dX5_token_101 : decode cX5_token 101 = .ok (.aload_n 0, 1) := by decide +kernel
theorem dX5_token_102 : decode cX5_token 102 = .ok (.getfield 59, 3) := by decide +kernel
theorem dX5_token_105 : decode cX5_token 105 = .ok (.iaload, 1) := by decide +kernel
theorem dX5_token_106 : decode cX5_token 106 = .ok (.invokestatic 65, 3) := by decide +kernel
theorem dX5_token_109 : decode cX5_token 109 = .ok (.aload_n 0, 1) := by decide +kernel
theorem dX5_token_110 : decode cX5_token 110 = .ok (.getfield 17, 3) := by decide +kernel
theorem dX5_token_113 : decode cX5_token 113 = .ok (.aload_n 0, 1) := by decide +kernel
theorem dX5_token_114 : decode cX5_token 114 = .ok (.getfield 62, 3) := by decide +kernel
theorem dX5_token_117 : decode cX5_token 117 = .ok (.iaload, 1) := by decide +kernel
theorem dX5_token_118 : decode cX5_token 118 = .ok (.invokestatic 65, 3) := by decide +kernel
theorem dX5_token_121 : decode cX5_token 121 = .ok (.if_icmp .ne 16, 3) := by decide +kernel
theorem dX5_token_124 : decode cX5_token 124 = .ok (.aload_n 0, 1) := by decide +kernel
theorem dX5_token_125 : decode cX5_token 125 = .ok (.dup, 1) := by decide +kernel
theorem dX5_token_126 : decode cX5_token 126 = .ok (.getfield 59, 3) := by decide +kernel
theorem dX5_token_129 : decode cX5_token 129 = .ok (.iconst 1, 1) := by decide +kernel
theorem dX5_token_130 : decode cX5_token 130 = .ok (.iadd, 1) := by decide +kernel
theorem dX5_token_131 : decode cX5_token 131 = .ok (.putfield 59, 3) := by decide +kernel
theorem dX5_token_134 : decode cX5_token 134 = .ok (.goto (-63), 3) := by decide +kernel
theorem dX5_token_137 : decode cX5_token 137 = .ok (.aload_n 0, 1) := by decide +kernel
theorem dX5_token_138 : decode cX5_token 138 = .ok (.aload_n 0, 1) := by decide +kernel
theorem dX5_token_139 : decode cX5_token 139 = .ok (.getfield 59, 3) := by decide +kernel
theorem dX5_token_142 : decode cX5_token 142 = .ok (.putfield 69, 3) := by decide +kernel
theorem dX5_token_145 : decode cX5_token 145 = .ok (.return_, 1) := by decide +kernel
theorem dX5_isWord_0 : decode cX5_isWord 0 = .ok (.aload_n 0, 1) := by decide +kernel
theorem dX5_isWord_1 : decode cX5_isWord 1 = .ok (.getfield 69, 3) := by decide +kernel
theorem dX5_isWord_4 : decode cX5_isWord 4 = .ok (.aload_n 0, 1) := by decide +kernel
theorem dX5_isWord_5 : decode cX5_isWord 5 = .ok (.getfield 62, 3) := by decide +kernel
theorem dX5_isWord_8 : decode cX5_isWord 8 = .ok (.isub, 1) := by decide +kernel
theorem dX5_isWord_9 : decode cX5_isWord 9 = .ok (.iload_n 3, 1) := by decide +kernel
theorem dX5_isWord_10 : decode cX5_isWord 10 = .ok (.if_icmp .ne 7, 3) := by decide +kernel
theorem dX5_isWord_13 : decode cX5_isWord 13 = .ok (.iconst 1, 1) := by decide +kernel
theorem dX5_isWord_14 : decode cX5_isWord 14 = .ok (.goto 4, 3) := by decide +kernel
theorem dX5_isWord_17 : decode cX5_isWord 17 = .ok (.iconst 0, 1) := by decide +kernel
theorem dX5_isWord_18 : decode cX5_isWord 18 = .ok (.istore 4, 2) := by decide +kernel
theorem dX5_isWord_20 : decode cX5_isWord 20 = .ok (.iconst 0, 1) := by decide +kernel
theorem dX5_isWord_21 : decode cX5_isWord 21 = .ok (.istore 5, 2) := by decide +kernel
theorem dX5_isWord_23 : decode cX5_isWord 23 = .ok (.iload 4, 2) := by decide +kernel
theorem dX5_isWord_25 : decode cX5_isWord 25 = .ok (.ifCond .eq 71, 3) := by decide +kernel
theorem dX5_isWord_28 : decode cX5_isWord 28 = .ok (.iload 5, 2) := by decide +kernel
theorem dX5_isWord_30 : decode cX5_isWord 30 = .ok (.iload_n 3, 1) := by decide +kernel
theorem dX5_isWord_31 : decode cX5_isWord 31 = .ok (.if_icmp .ge 65, 3) := by decide +kernel
theorem dX5_isWord_34 : decode cX5_isWord 34 = .ok (.aload_n 0, 1) := by decide +kernel
theorem dX5_isWord_35 : decode cX5_isWord 35 = .ok (.getfield 17, 3) := by decide +kernel
theorem dX5_isWord_38 : decode cX5_isWord 38 = .ok (.aload_n 0, 1) := by decide +kernel
theorem dX5_isWord_39 : decode cX5_isWord 39 = .ok (.getfield 62, 3) := by decide +kernel
theorem dX5_isWord_42 : decode cX5_isWord 42 = .ok (.iload 5, 2) := by decide +kernel
theorem dX5_isWord_44 : decode cX5_isWord 44 = .ok (.iadd, 1) := by decide +kernel
theorem dX5_isWord_45 : decode cX5_isWord 45 = .ok (.iaload, 1) := by decide +kernel
theorem dX5_isWord_46 : decode cX5_isWord 46 = .ok (.bipush 96, 2) := by decide +kernel
theorem dX5_isWord_48 : decode cX5_isWord 48 = .ok (.iload 5, 2) := by decide +kernel
theorem dX5_isWord_50 : decode cX5_isWord 50 = .ok (.bipush 6, 2) := by decide +kernel
theorem dX5_isWord_52 : decode cX5_isWord 52 = .ok (.if_icmp .ge 15, 3) := by decide +kernel
theorem dX5_isWord_55 : decode cX5_isWord 55 = .ok (.iload_n 1, 1) := by decide +kernel
theorem dX5_isWord_56 : decode cX5_isWord 56 = .ok (.iconst 5, 1) := by decide +kernel
theorem dX5_isWord_57 : decode cX5_isWord 57 = .ok (.iload 5, 2) := by decide +kernel
theorem dX5_isWord_59 : decode cX5_isWord 59 = .ok (.imul, 1) := by decide +kernel
theorem dX5_isWord_60 : decode cX5_isWord 60 = .ok (.ishr, 1) := by decide +kernel
theorem dX5_isWord_61 : decode cX5_isWord 61 = .ok (.bipush 31, 2) := by decide +kernel
theorem dX5_isWord_63 : decode cX5_isWord 63 = .ok (.iand, 1) := by decide +kernel
theorem dX5_isWord_64 : decode cX5_isWord 64 = .ok (.goto 15, 3) := by decide +kernel
theorem dX5_isWord_67 : decode cX5_isWord 67 = .ok (.iload_n 2, 1) := by decide +kernel
theorem dX5_isWord_68 : decode cX5_isWord 68 = .ok (.iconst 5, 1) := by decide +kernel
theorem dX5_isWord_69 : decode cX5_isWord 69 = .ok (.iload 5, 2) := by decide +kernel
theorem dX5_isWord_71 : decode cX5_isWord 71 = .ok (.bipush 6, 2) := by decide +kernel
theorem dX5_isWord_73 : decode cX5_isWord 73 = .ok (.isub, 1) := by decide +kernel
theorem dX5_isWord_74 : decode cX5_isWord 74 = .ok (.imul, 1) := by decide +kernel
theorem dX5_isWord_75 : decode cX5_isWord 75 = .ok (.ishr, 1) := by decide +kernel
theorem dX5_isWord_76 : decode cX5_isWord 76 = .ok (.bipush 31, 2) := by decide +kernel
theorem dX5_isWord_78 : decode cX5_isWord 78 = .ok (.iand, 1) := by decide +kernel
theorem dX5_isWord_79 : decode cX5_isWord 79 = .ok (.iadd, 1) := by decide +kernel
theorem dX5_isWord_80 : decode cX5_isWord 80 = .ok (.if_icmp .ne 7, 3) := by decide +kernel
theorem dX5_isWord_83 : decode cX5_isWord 83 = .ok (.iconst 1, 1) := by decide +kernel
theorem dX5_isWord_84 : decode cX5_isWord 84 = .ok (.goto 4, 3) := by decide +kernel
theorem dX5_isWord_87 : decode cX5_isWord 87 = .ok (.iconst 0, 1) := by decide +kernel
theorem dX5_isWord_88 : decode cX5_isWord 88 = .ok (.istore 4, 2) := by decide +kernel
theorem dX5_isWord_90 : decode cX5_isWord 90 = .ok (.iinc 5 1, 3) := by decide +kernel
theorem dX5_isWord_93 : decode cX5_isWord 93 = .ok (.goto (-70), 3) := by decide +kernel
theorem dX5_isWord_96 : decode cX5_isWord 96 = .ok (.iload 4, 2) := by decide +kernel
theorem dX5_isWord_98 : decode cX5_isWord 98 = .ok (.ireturn, 1) := by decide +kernel
set_option maxRecDepth 20000 in
theorem ggX5_treeWord_X5_isWord : GoodIn wsX5_treeWord wsX5_isWord := goodIn_r _ [8, 9, 10, 11, 12, 13, 14, 15, 16, 17, 18, 19, 20, 21, 22, 23, 24, 25, 26, 27, 28, 29, 30, 31, 32] (by decide +kernel) (by decide +kernel)
set_option maxRecDepth 20000 in
theorem gX5_treeWord_X5_isWord : GoodIn wsX5_treeWord (wsV RX5 72 RX5 yX5_isWord wsX5_isWord) := goodIn_app (goodIn_of _ (by decide +kernel)) ggX5_treeWord_X5_isWord
theorem dX5_treeWord_0 : decode cX5_treeWord 0 = .ok (.aload_n 0, 1) := by decide +kernel
theorem dX5_treeWord_1 : decode cX5_treeWord 1 = .ok (.sipush 11311, 3) := by decide +kernel
theorem dX5_treeWord_4 : decode cX5_treeWord 4 = .ok (.iconst 0, 1) := by decide +kernel
theorem dX5_treeWord_5 : decode cX5_treeWord 5 = .ok (.iconst 3, 1) := by decide +kernel
theorem dX5_treeWord_6 : decode cX5_treeWord 6 = .ok (.invokevirtual 72, 3) := by decide +kernel
theorem dX5_treeWord_9 : decode cX5_treeWord 9 = .ok (.ifCond .eq 7, 3) := by decide +kernel
theorem dX5_treeWord_12 : decode cX5_treeWord 12 = .ok (.iconst 1, 1) := by decide +kernel
theorem dX5_treeWord_13 : decode cX5_treeWord 13 = .ok (.goto 50, 3) := by decide +kernel
theorem dX5_treeWord_16 : decode cX5_treeWord 16 = .ok (.aload_n 0, 1) := by decide +kernel
theorem dX5_treeWord_17 : decode cX5_treeWord 17 = .ok (.ldc 76, 2) := by decide +kernel
theorem dX5_treeWord_19 : decode cX5_treeWord 19 = .ok (.iconst 0, 1) := by decide +kernel
theorem dX5_treeWord_20 : decode cX5_treeWord 20 = .ok (.iconst 5, 1) := by decide +kernel
theorem dX5_treeWord_21 : decode cX5_treeWord 21 = .ok (.invokevirtual 72, 3) := by decide +kernel
theorem dX5_treeWord_24 : decode cX5_treeWord 24 = .ok (.ifCond .eq 7, 3) := by decide +kernel
theorem dX5_treeWord_27 : decode cX5_treeWord 27 = .ok (.iconst 2, 1) := by decide +kernel
theorem dX5_treeWord_28 : decode cX5_treeWord 28 = .ok (.goto 35, 3) := by decide +kernel
theorem dX5_treeWord_31 : decode cX5_treeWord 31 = .ok (.aload_n 0, 1) := by decide +kernel
theorem dX5_treeWord_32 : decode cX5_treeWord 32 = .ok (.ldc 77, 2) := by decide +kernel
theorem dX5_treeWord_34 : decode cX5_treeWord 34 = .ok (.iconst 0, 1) := by decide +kernel
theorem dX5_treeWord_35 : decode cX5_treeWord 35 = .ok (.iconst 4, 1) := by decide +kernel
theorem dX5_treeWord_36 : decode cX5_treeWord 36 = .ok (.invokevirtual 72, 3) := by decide +kernel
theorem dX5_treeWord_39 : decode cX5_treeWord 39 = .ok (.ifCond .eq 7, 3) := by decide +kernel
theorem dX5_treeWord_42 : decode cX5_treeWord 42 = .ok (.iconst 3, 1) := by decide +kernel
theorem dX5_treeWord_43 : decode cX5_treeWord 43 = .ok (.goto 20, 3) := by decide +kernel
theorem dX5_treeWord_46 : decode cX5_treeWord 46 = .ok (.aload_n 0, 1) := by decide +kernel
theorem dX5_treeWord_47 : decode cX5_treeWord 47 = .ok (.ldc 78, 2) := by decide +kernel
theorem dX5_treeWord_49 : decode cX5_treeWord 49 = .ok (.iconst 0, 1) := by decide +kernel
theorem dX5_treeWord_50 : decode cX5_treeWord 50 = .ok (.bipush 6, 2) := by decide +kernel
theorem dX5_treeWord_52 : decode cX5_treeWord 52 = .ok (.invokevirtual 72, 3) := by decide +kernel
theorem dX5_treeWord_55 : decode cX5_treeWord 55 = .ok (.ifCond .eq 7, 3) := by decide +kernel
theorem dX5_treeWord_58 : decode cX5_treeWord 58 = .ok (.iconst 4, 1) := by decide +kernel
theorem dX5_treeWord_59 : decode cX5_treeWord 59 = .ok (.goto 4, 3) := by decide +kernel
theorem dX5_treeWord_62 : decode cX5_treeWord 62 = .ok (.iconst (-1), 1) := by decide +kernel
theorem dX5_treeWord_63 : decode cX5_treeWord 63 = .ok (.ireturn, 1) := by decide +kernel
set_option maxRecDepth 20000 in
theorem ggX5_wordOf_X5_treeWord : GoodIn wsX5_wordOf wsX5_treeWord := goodIn_r _ [9, 10, 11, 12, 13, 14, 15, 8, 16, 17, 18, 19, 20, 21, 22, 23, 24, 25, 26, 27, 28, 29, 30, 31, 32, 33, 34, 35, 36, 37, 38, 39, 40] (by decide +kernel) (by decide +kernel)
set_option maxRecDepth 20000 in
theorem gX5_wordOf_X5_treeWord : GoodIn wsX5_wordOf (wsV RX5 79 RX5 yX5_treeWord wsX5_treeWord) := goodIn_app (goodIn_of _ (by decide +kernel)) ggX5_wordOf_X5_treeWord
set_option maxRecDepth 20000 in
theorem ggX5_wordOf_X5_isWord : GoodIn wsX5_wordOf wsX5_isWord := goodIn_r _ [16, 17, 18, 19, 20, 21, 22, 23, 24, 25, 26, 27, 28, 29, 30, 31, 32, 33, 34, 35, 36, 37, 38, 39, 40] (by decide +kernel) (by decide +kernel)
set_option maxRecDepth 20000 in
theorem gX5_wordOf_X5_isWord : GoodIn wsX5_wordOf (wsV RX5 72 RX5 yX5_isWord wsX5_isWord) := goodIn_app (goodIn_of _ (by decide +kernel)) ggX5_wordOf_X5_isWord
theorem dX5_wordOf_0 : decode cX5_wordOf 0 = .ok (.aload_n 0, 1) := by decide +kernel
theorem dX5_wordOf_1 : decode cX5_wordOf 1 = .ok (.invokevirtual 79, 3) := by decide +kernel
theorem dX5_wordOf_4 : decode cX5_wordOf 4 = .ok (.istore_n 1, 1) := by decide +kernel
theorem dX5_wordOf_5 : decode cX5_wordOf 5 = .ok (.iload_n 1, 1) := by decide +kernel
theorem dX5_wordOf_6 : decode cX5_wordOf 6 = .ok (.iconst (-1), 1) := by decide +kernel
theorem dX5_wordOf_7 : decode cX5_wordOf 7 = .ok (.if_icmp .eq 7, 3) := by decide +kernel
theorem dX5_wordOf_10 : decode cX5_wordOf 10 = .ok (.iload_n 1, 1) := by decide +kernel
theorem dX5_wordOf_11 : decode cX5_wordOf 11 = .ok (.goto 68, 3) := by decide +kernel
theorem dX5_wordOf_14 : decode cX5_wordOf 14 = .ok (.aload_n 0, 1) := by decide +kernel
theorem dX5_wordOf_15 : decode cX5_wordOf 15 = .ok (.ldc 83, 2) := by decide +kernel
theorem dX5_wordOf_17 : decode cX5_wordOf 17 = .ok (.iconst 0, 1) := by decide +kernel
theorem dX5_wordOf_18 : decode cX5_wordOf 18 = .ok (.iconst 4, 1) := by decide +kernel
theorem dX5_wordOf_19 : decode cX5_wordOf 19 = .ok (.invokevirtual 72, 3) := by decide +kernel
theorem dX5_wordOf_22 : decode cX5_wordOf 22 = .ok (.ifCond .eq 7, 3) := by decide +kernel
theorem dX5_wordOf_25 : decode cX5_wordOf 25 = .ok (.iconst 0, 1) := by decide +kernel
theorem dX5_wordOf_26 : decode cX5_wordOf 26 = .ok (.goto 53, 3) := by decide +kernel
theorem dX5_wordOf_29 : decode cX5_wordOf 29 = .ok (.aload_n 0, 1) := by decide +kernel
theorem dX5_wordOf_30 : decode cX5_wordOf 30 = .ok (.ldc 84, 2) := by decide +kernel
theorem dX5_wordOf_32 : decode cX5_wordOf 32 = .ok (.iconst 0, 1) := by decide +kernel
theorem dX5_wordOf_33 : decode cX5_wordOf 33 = .ok (.iconst 4, 1) := by decide +kernel
theorem dX5_wordOf_34 : decode cX5_wordOf 34 = .ok (.invokevirtual 72, 3) := by decide +kernel
theorem dX5_wordOf_37 : decode cX5_wordOf 37 = .ok (.ifCond .eq 7, 3) := by decide +kernel
theorem dX5_wordOf_40 : decode cX5_wordOf 40 = .ok (.iconst 5, 1) := by decide +kernel
theorem dX5_wordOf_41 : decode cX5_wordOf 41 = .ok (.goto 38, 3) := by decide +kernel
theorem dX5_wordOf_44 : decode cX5_wordOf 44 = .ok (.aload_n 0, 1) := by decide +kernel
theorem dX5_wordOf_45 : decode cX5_wordOf 45 = .ok (.ldc 85, 2) := by decide +kernel
theorem dX5_wordOf_47 : decode cX5_wordOf 47 = .ok (.bipush 12, 2) := by decide +kernel
theorem dX5_wordOf_49 : decode cX5_wordOf 49 = .ok (.bipush 7, 2) := by decide +kernel
theorem dX5_wordOf_51 : decode cX5_wordOf 51 = .ok (.invokevirtual 72, 3) := by decide +kernel
theorem dX5_wordOf_54 : decode cX5_wordOf 54 = .ok (.ifCond .eq 8, 3) := by decide +kernel
theorem dX5_wordOf_57 : decode cX5_wordOf 57 = .ok (.bipush 6, 2) := by decide +kernel
theorem dX5_wordOf_59 : decode cX5_wordOf 59 = .ok (.goto 20, 3) := by decide +kernel
theorem dX5_wordOf_62 : decode cX5_wordOf 62 = .ok (.aload_n 0, 1) := by decide +kernel
theorem dX5_wordOf_63 : decode cX5_wordOf 63 = .ok (.ldc 86, 2) := by decide +kernel
theorem dX5_wordOf_65 : decode cX5_wordOf 65 = .ok (.iconst 0, 1) := by decide +kernel
theorem dX5_wordOf_66 : decode cX5_wordOf 66 = .ok (.iconst 5, 1) := by decide +kernel
theorem dX5_wordOf_67 : decode cX5_wordOf 67 = .ok (.invokevirtual 72, 3) := by decide +kernel
theorem dX5_wordOf_70 : decode cX5_wordOf 70 = .ok (.ifCond .eq 8, 3) := by decide +kernel
theorem dX5_wordOf_73 : decode cX5_wordOf 73 = .ok (.bipush 7, 2) := by decide +kernel
theorem dX5_wordOf_75 : decode cX5_wordOf 75 = .ok (.goto 4, 3) := by decide +kernel
theorem dX5_wordOf_78 : decode cX5_wordOf 78 = .ok (.iconst (-1), 1) := by decide +kernel
theorem dX5_wordOf_79 : decode cX5_wordOf 79 = .ok (.ireturn, 1) := by decide +kernel
set_option maxRecDepth 20000 in
theorem ggX5_reads_X5_sort : GoodIn wsX5_reads wsX5_sort := goodIn_r _ [10] (by decide +kernel) (by decide +kernel)
set_option maxRecDepth 20000 in
theorem gX5_reads_X5_sort : GoodIn wsX5_reads (va_wsS RX5 65 yX5_sort wsX5_sort) := goodIn_app (goodIn_of _ (by decide +kernel)) ggX5_reads_X5_sort
set_option maxRecDepth 20000 in
theorem ggX5_reads_X5_in : GoodIn wsX5_reads wsX5_in := goodIn_r _ [13] (by decide +kernel) (by decide +kernel)
set_option maxRecDepth 20000 in
theorem gX5_reads_X5_in : GoodIn wsX5_reads (va_wsS RX5 50 yX5_in wsX5_in) := goodIn_app (goodIn_of _ (by decide +kernel)) ggX5_reads_X5_in
set_option maxRecDepth 20000 in
theorem ggX5_reads_X5_token : GoodIn wsX5_reads wsX5_token := goodIn_r _ [17, 18, 2, 3, 1, 4, 7, 8, 9, 10, 19, 20, 21, 22, 23, 24, 25, 26, 27, 28, 29, 30, 31, 32, 33, 34, 35, 36, 37, 38, 39] (by decide +kernel) (by decide +kernel)
set_option maxRecDepth 20000 in
theorem gX5_reads_X5_token : GoodIn wsX5_reads (wsV RX5 90 RX5 yX5_token wsX5_token) := goodIn_app (goodIn_of _ (by decide +kernel)) ggX5_reads_X5_token
theorem dX5_reads_0 : decode cX5_reads 0 = .ok (.aload_n 0, 1) := by decide +kernel
theorem dX5_reads_1 : decode cX5_reads 1 = .ok (.getfield 62, 3) := by decide +kernel
theorem dX5_reads_4 : decode cX5_reads 4 = .ok (.aload_n 0, 1) := by decide +kernel
theorem dX5_reads_5 : decode cX5_reads 5 = .ok (.getfield 54, 3) := by decide +kernel
theorem dX5_reads_8 : decode cX5_reads 8 = .ok (.if_icmp .eq 32, 3) := by decide +kernel
theorem dX5_reads_11 : decode cX5_reads 11 = .ok (.aload_n 0, 1) := by decide +kernel
theorem dX5_reads_12 : decode cX5_reads 12 = .ok (.getfield 17, 3) := by decide +kernel
theorem dX5_reads_15 : decode cX5_reads 15 = .ok (.aload_n 0, 1) := by decide +kernel
theorem dX5_reads_16 : decode cX5_reads 16 = .ok (.getfield 62, 3) := by decide +kernel
theorem dX5_reads_19 : decode cX5_reads 19 = .ok (.iaload, 1) := by decide +kernel
theorem dX5_reads_20 : decode cX5_reads 20 = .ok (.invokestatic 65, 3) := by decide +kernel
theorem dX5_reads_23 : decode cX5_reads 23 = .ok (.iconst 2, 1) := by decide +kernel
theorem dX5_reads_24 : decode cX5_reads 24 = .ok (.if_icmp .ne 16, 3) := by decide +kernel
theorem dX5_reads_27 : decode cX5_reads 27 = .ok (.aload_n 0, 1) := by decide +kernel
theorem dX5_reads_28 : decode cX5_reads 28 = .ok (.getfield 69, 3) := by decide +kernel
theorem dX5_reads_31 : decode cX5_reads 31 = .ok (.aload_n 0, 1) := by decide +kernel
theorem dX5_reads_32 : decode cX5_reads 32 = .ok (.getfield 62, 3) := by decide +kernel
theorem dX5_reads_35 : decode cX5_reads 35 = .ok (.isub, 1) := by decide +kernel
theorem dX5_reads_36 : decode cX5_reads 36 = .ok (.iconst 2, 1) := by decide +kernel
theorem dX5_reads_37 : decode cX5_reads 37 = .ok (.if_icmp .le 5, 3) := by decide +kernel
theorem dX5_reads_40 : decode cX5_reads 40 = .ok (.iconst 0, 1) := by decide +kernel
theorem dX5_reads_41 : decode cX5_reads 41 = .ok (.ireturn, 1) := by decide +kernel
theorem dX5_reads_42 : decode cX5_reads 42 = .ok (.iconst 0, 1) := by decide +kernel
theorem dX5_reads_43 : decode cX5_reads 43 = .ok (.istore 5, 2) := by decide +kernel
theorem dX5_reads_45 : decode cX5_reads 45 = .ok (.aload_n 0, 1) := by decide +kernel
theorem dX5_reads_46 : decode cX5_reads 46 = .ok (.getfield 62, 3) := by decide +kernel
theorem dX5_reads_49 : decode cX5_reads 49 = .ok (.istore 6, 2) := by decide +kernel
theorem dX5_reads_51 : decode cX5_reads 51 = .ok (.iload 6, 2) := by decide +kernel
theorem dX5_reads_53 : decode cX5_reads 53 = .ok (.aload_n 0, 1) := by decide +kernel
theorem dX5_reads_54 : decode cX5_reads 54 = .ok (.getfield 69, 3) := by decide +kernel
theorem dX5_reads_57 : decode cX5_reads 57 = .ok (.if_icmp .ge 27, 3) := by decide +kernel
theorem dX5_reads_60 : decode cX5_reads 60 = .ok (.bipush 10, 2) := by decide +kernel
theorem dX5_reads_62 : decode cX5_reads 62 = .ok (.iload 5, 2) := by decide +kernel
theorem dX5_reads_64 : decode cX5_reads 64 = .ok (.imul, 1) := by decide +kernel
theorem dX5_reads_65 : decode cX5_reads 65 = .ok (.aload_n 0, 1) := by decide +kernel
theorem dX5_reads_66 : decode cX5_reads 66 = .ok (.getfield 17, 3) := by decide +kernel
theorem dX5_reads_69 : decode cX5_reads 69 = .ok (.iload 6, 2) := by decide +kernel
theorem dX5_reads_71 : decode cX5_reads 71 = .ok (.iaload, 1) := by decide +kernel
theorem dX5_reads_72 : decode cX5_reads 72 = .ok (.iadd, 1) := by decide +kernel
theorem dX5_reads_73 : decode cX5_reads 73 = .ok (.bipush 48, 2) := by decide +kernel
theorem dX5_reads_75 : decode cX5_reads 75 = .ok (.isub, 1) := by decide +kernel
theorem dX5_reads_76 : decode cX5_reads 76 = .ok (.istore 5, 2) := by decide +kernel
theorem dX5_reads_78 : decode cX5_reads 78 = .ok (.iinc 6 1, 3) := by decide +kernel
theorem dX5_reads_81 : decode cX5_reads 81 = .ok (.goto (-30), 3) := by decide +kernel
theorem dX5_reads_84 : decode cX5_reads 84 = .ok (.iload 5, 2) := by decide +kernel
theorem dX5_reads_86 : decode cX5_reads 86 = .ok (.i2l, 1) := by decide +kernel
theorem dX5_reads_87 : decode cX5_reads 87 = .ok (.iload_n 2, 1) := by decide +kernel
theorem dX5_reads_88 : decode cX5_reads 88 = .ok (.i2l, 1) := by decide +kernel
theorem dX5_reads_89 : decode cX5_reads 89 = .ok (.iload_n 3, 1) := by decide +kernel
theorem dX5_reads_90 : decode cX5_reads 90 = .ok (.i2l, 1) := by decide +kernel
theorem dX5_reads_91 : decode cX5_reads 91 = .ok (.invokestatic 50, 3) := by decide +kernel
theorem dX5_reads_94 : decode cX5_reads 94 = .ok (.ifCond .eq 10, 3) := by decide +kernel
theorem dX5_reads_97 : decode cX5_reads 97 = .ok (.iload 5, 2) := by decide +kernel
theorem dX5_reads_99 : decode cX5_reads 99 = .ok (.iload 4, 2) := by decide +kernel
theorem dX5_reads_101 : decode cX5_reads 101 = .ok (.if_icmp .ne 5, 3) := by decide +kernel
theorem dX5_reads_104 : decode cX5_reads 104 = .ok (.iconst 0, 1) := by decide +kernel
theorem dX5_reads_105 : decode cX5_reads 105 = .ok (.ireturn, 1) := by decide +kernel
theorem dX5_reads_106 : decode cX5_reads 106 = .ok (.aload_n 0, 1) := by decide +kernel
theorem dX5_reads_107 : decode cX5_reads 107 = .ok (.getfield 20, 3) := by decide +kernel
theorem dX5_reads_110 : decode cX5_reads 110 = .ok (.iconst 4, 1) := by decide +kernel
theorem dX5_reads_111 : decode cX5_reads 111 = .ok (.aload_n 0, 1) := by decide +kernel
theorem dX5_reads_112 : decode cX5_reads 112 = .ok (.getfield 87, 3) := by decide +kernel
theorem dX5_reads_115 : decode cX5_reads 115 = .ok (.imul, 1) := by decide +kernel
theorem dX5_reads_116 : decode cX5_reads 116 = .ok (.iconst 1, 1) := by decide +kernel
theorem dX5_reads_117 : decode cX5_reads 117 = .ok (.iadd, 1) := by decide +kernel
theorem dX5_reads_118 : decode cX5_reads 118 = .ok (.iload_n 1, 1) := by decide +kernel
theorem dX5_reads_119 : decode cX5_reads 119 = .ok (.iadd, 1) := by decide +kernel
theorem dX5_reads_120 : decode cX5_reads 120 = .ok (.iload 5, 2) := by decide +kernel
theorem dX5_reads_122 : decode cX5_reads 122 = .ok (.iastore, 1) := by decide +kernel
theorem dX5_reads_123 : decode cX5_reads 123 = .ok (.aload_n 0, 1) := by decide +kernel
theorem dX5_reads_124 : decode cX5_reads 124 = .ok (.invokevirtual 90, 3) := by decide +kernel
theorem dX5_reads_127 : decode cX5_reads 127 = .ok (.iconst 1, 1) := by decide +kernel
theorem dX5_reads_128 : decode cX5_reads 128 = .ok (.ireturn, 1) := by decide +kernel
set_option maxRecDepth 20000 in
theorem ggX5_readsRest_X5_reads : GoodIn wsX5_readsRest wsX5_reads := goodIn_r _ [8, 9, 10, 11, 12, 2, 3, 13, 14, 7, 15, 16, 17, 18, 19, 20, 21, 22, 23, 24, 25, 26, 27, 28, 29, 30, 31, 32, 33, 34, 35, 36, 37, 38, 39, 40, 41, 42, 43, 44] (by decide +kernel) (by decide +kernel)
set_option maxRecDepth 20000 in
theorem gX5_readsRest_X5_reads : GoodIn wsX5_readsRest (wsV RX5 96 RX5 yX5_reads wsX5_reads) := goodIn_app (goodIn_of _ (by decide +kernel)) ggX5_readsRest_X5_reads
theorem dX5_readsRest_0 : decode cX5_readsRest 0 = .ok (.aload_n 0, 1) := by decide +kernel
theorem dX5_readsRest_1 : decode cX5_readsRest 1 = .ok (.getfield 93, 3) := by decide +kernel
theorem dX5_readsRest_4 : decode cX5_readsRest 4 = .ok (.iconst 1, 1) := by decide +kernel
theorem dX5_readsRest_5 : decode cX5_readsRest 5 = .ok (.isub, 1) := by decide +kernel
theorem dX5_readsRest_6 : decode cX5_readsRest 6 = .ok (.istore_n 2, 1) := by decide +kernel
theorem dX5_readsRest_7 : decode cX5_readsRest 7 = .ok (.iload_n 1, 1) := by decide +kernel
theorem dX5_readsRest_8 : decode cX5_readsRest 8 = .ok (.tableswitch 129 0 7 #[48, 129, 129, 129, 129, 50, 79, 119], 48) := by decide +kernel
theorem dX5_readsRest_56 : decode cX5_readsRest 56 = .ok (.iconst 1, 1) := by decide +kernel
theorem dX5_readsRest_57 : decode cX5_readsRest 57 = .ok (.ireturn, 1) := by decide +kernel
theorem dX5_readsRest_58 : decode cX5_readsRest 58 = .ok (.aload_n 0, 1) := by decide +kernel
theorem dX5_readsRest_59 : decode cX5_readsRest 59 = .ok (.iconst 0, 1) := by decide +kernel
theorem dX5_readsRest_60 : decode cX5_readsRest 60 = .ok (.iconst 0, 1) := by decide +kernel
theorem dX5_readsRest_61 : decode cX5_readsRest 61 = .ok (.iload_n 2, 1) := by decide +kernel
theorem dX5_readsRest_62 : decode cX5_readsRest 62 = .ok (.iconst (-1), 1) := by decide +kernel
theorem dX5_readsRest_63 : decode cX5_readsRest 63 = .ok (.invokevirtual 96, 3) := by decide +kernel
theorem dX5_readsRest_66 : decode cX5_readsRest 66 = .ok (.ifCond .eq 19, 3) := by decide +kernel
theorem dX5_readsRest_69 : decode cX5_readsRest 69 = .ok (.aload_n 0, 1) := by decide +kernel
theorem dX5_readsRest_70 : decode cX5_readsRest 70 = .ok (.iconst 1, 1) := by decide +kernel
theorem dX5_readsRest_71 : decode cX5_readsRest 71 = .ok (.iconst 0, 1) := by decide +kernel
theorem dX5_readsRest_72 : decode cX5_readsRest 72 = .ok (.bipush 9, 2) := by decide +kernel
theorem dX5_readsRest_74 : decode cX5_readsRest 74 = .ok (.iconst (-1), 1) := by decide +kernel
theorem dX5_readsRest_75 : decode cX5_readsRest 75 = .ok (.invokevirtual 96, 3) := by decide +kernel
theorem dX5_readsRest_78 : decode cX5_readsRest 78 = .ok (.ifCond .eq 7, 3) := by decide +kernel
theorem dX5_readsRest_81 : decode cX5_readsRest 81 = .ok (.iconst 1, 1) := by decide +kernel
theorem dX5_readsRest_82 : decode cX5_readsRest 82 = .ok (.goto 4, 3) := by decide +kernel
theorem dX5_readsRest_85 : decode cX5_readsRest 85 = .ok (.iconst 0, 1) := by decide +kernel
theorem dX5_readsRest_86 : decode cX5_readsRest 86 = .ok (.ireturn, 1) := by decide +kernel
theorem dX5_readsRest_87 : decode cX5_readsRest 87 = .ok (.aload_n 0, 1) := by decide +kernel
theorem dX5_readsRest_88 : decode cX5_readsRest 88 = .ok (.iconst 0, 1) := by decide +kernel
theorem dX5_readsRest_89 : decode cX5_readsRest 89 = .ok (.iconst 0, 1) := by decide +kernel
theorem dX5_readsRest_90 : decode cX5_readsRest 90 = .ok (.iload_n 2, 1) := by decide +kernel
theorem dX5_readsRest_91 : decode cX5_readsRest 91 = .ok (.iconst (-1), 1) := by decide +kernel
theorem dX5_readsRest_92 : decode cX5_readsRest 92 = .ok (.invokevirtual 96, 3) := by decide +kernel
theorem dX5_readsRest_95 : decode cX5_readsRest 95 = .ok (.ifCond .eq 30, 3) := by decide +kernel
theorem dX5_readsRest_98 : decode cX5_readsRest 98 = .ok (.aload_n 0, 1) := by decide +kernel
theorem dX5_readsRest_99 : decode cX5_readsRest 99 = .ok (.iconst 1, 1) := by decide +kernel
theorem dX5_readsRest_100 : decode cX5_readsRest 100 = .ok (.iconst 0, 1) := by decide +kernel
theorem dX5_readsRest_101 : decode cX5_readsRest 101 = .ok (.iload_n 2, 1) := by decide +kernel
theorem dX5_readsRest_102 : decode cX5_readsRest 102 = .ok (.aload_n 0, 1) := by decide +kernel
theorem dX5_readsRest_103 : decode cX5_readsRest 103 = .ok (.getfield 20, 3) := by decide +kernel
theorem dX5_readsRest_106 : decode cX5_readsRest 106 = .ok (.iconst 4, 1) := by decide +kernel
theorem dX5_readsRest_107 : decode cX5_readsRest 107 = .ok (.aload_n 0, 1) := by decide +kernel
theorem dX5_readsRest_108 : decode cX5_readsRest 108 = .ok (.getfield 87, 3) := by decide +kernel
theorem dX5_readsRest_111 : decode cX5_readsRest 111 = .ok (.imul, 1) := by decide +kernel
theorem dX5_readsRest_112 : decode cX5_readsRest 112 = .ok (.iconst 1, 1) := by decide +kernel
theorem dX5_readsRest_113 : decode cX5_readsRest 113 = .ok (.iadd, 1) := by decide +kernel
theorem dX5_readsRest_114 : decode cX5_readsRest 114 = .ok (.iaload, 1) := by decide +kernel
theorem dX5_readsRest_115 : decode cX5_readsRest 115 = .ok (.invokevirtual 96, 3) := by decide +kernel
theorem dX5_readsRest_118 : decode cX5_readsRest 118 = .ok (.ifCond .eq 7, 3) := by decide +kernel
theorem dX5_readsRest_121 : decode cX5_readsRest 121 = .ok (.iconst 1, 1) := by decide +kernel
theorem dX5_readsRest_122 : decode cX5_readsRest 122 = .ok (.goto 4, 3) := by decide +kernel
theorem dX5_readsRest_125 : decode cX5_readsRest 125 = .ok (.iconst 0, 1) := by decide +kernel
theorem dX5_readsRest_126 : decode cX5_readsRest 126 = .ok (.ireturn, 1) := by decide +kernel
theorem dX5_readsRest_127 : decode cX5_readsRest 127 = .ok (.aload_n 0, 1) := by decide +kernel
theorem dX5_readsRest_128 : decode cX5_readsRest 128 = .ok (.iconst 0, 1) := by decide +kernel
theorem dX5_readsRest_129 : decode cX5_readsRest 129 = .ok (.iconst 0, 1) := by decide +kernel
theorem dX5_readsRest_130 : decode cX5_readsRest 130 = .ok (.bipush 99, 2) := by decide +kernel
theorem dX5_readsRest_132 : decode cX5_readsRest 132 = .ok (.iconst (-1), 1) := by decide +kernel
theorem dX5_readsRest_133 : decode cX5_readsRest 133 = .ok (.invokevirtual 96, 3) := by decide +kernel
theorem dX5_readsRest_136 : decode cX5_readsRest 136 = .ok (.ireturn, 1) := by decide +kernel
theorem dX5_readsRest_137 : decode cX5_readsRest 137 = .ok (.aload_n 0, 1) := by decide +kernel
theorem dX5_readsRest_138 : decode cX5_readsRest 138 = .ok (.iconst 0, 1) := by decide +kernel
theorem dX5_readsRest_139 : decode cX5_readsRest 139 = .ok (.iconst 0, 1) := by decide +kernel
theorem dX5_readsRest_140 : decode cX5_readsRest 140 = .ok (.bipush 99, 2) := by decide +kernel
theorem dX5_readsRest_142 : decode cX5_readsRest 142 = .ok (.iconst (-1), 1) := by decide +kernel
theorem dX5_readsRest_143 : decode cX5_readsRest 143 = .ok (.invokevirtual 96, 3) := by decide +kernel
theorem dX5_readsRest_146 : decode cX5_readsRest 146 = .ok (.ifCond .eq 31, 3) := by decide +kernel
theorem dX5_readsRest_149 : decode cX5_readsRest 149 = .ok (.aload_n 0, 1) := by decide +kernel
theorem dX5_readsRest_150 : decode cX5_readsRest 150 = .ok (.iconst 1, 1) := by decide +kernel
theorem dX5_readsRest_151 : decode cX5_readsRest 151 = .ok (.iconst 0, 1) := by decide +kernel
theorem dX5_readsRest_152 : decode cX5_readsRest 152 = .ok (.bipush 50, 2) := by decide +kernel
theorem dX5_readsRest_154 : decode cX5_readsRest 154 = .ok (.iconst (-1), 1) := by decide +kernel
theorem dX5_readsRest_155 : decode cX5_readsRest 155 = .ok (.invokevirtual 96, 3) := by decide +kernel
theorem dX5_readsRest_158 : decode cX5_readsRest 158 = .ok (.ifCond .eq 19, 3) := by decide +kernel
theorem dX5_readsRest_161 : decode cX5_readsRest 161 = .ok (.aload_n 0, 1) := by decide +kernel
theorem dX5_readsRest_162 : decode cX5_readsRest 162 = .ok (.iconst 2, 1) := by decide +kernel
theorem dX5_readsRest_163 : decode cX5_readsRest 163 = .ok (.iconst 1, 1) := by decide +kernel
theorem dX5_readsRest_164 : decode cX5_readsRest 164 = .ok (.bipush 99, 2) := by decide +kernel
theorem dX5_readsRest_166 : decode cX5_readsRest 166 = .ok (.iconst (-1), 1) := by decide +kernel
theorem dX5_readsRest_167 : decode cX5_readsRest 167 = .ok (.invokevirtual 96, 3) := by decide +kernel
theorem dX5_readsRest_170 : decode cX5_readsRest 170 = .ok (.ifCond .eq 7, 3) := by decide +kernel
theorem dX5_readsRest_173 : decode cX5_readsRest 173 = .ok (.iconst 1, 1) := by decide +kernel
theorem dX5_readsRest_174 : decode cX5_readsRest 174 = .ok (.goto 4, 3) := by decide +kernel
theorem dX5_readsRest_177 : decode cX5_readsRest 177 = .ok (.iconst 0, 1) := by decide +kernel
theorem dX5_readsRest_178 : decode cX5_readsRest 178 = .ok (.ireturn, 1) := by decide +kernel
set_option maxRecDepth 20000 in
theorem ggX5_isTreeWord_X5_in : GoodIn wsX5_isTreeWord wsX5_in := goodIn_r _ [5] (by decide +kernel) (by decide +kernel)
set_option maxRecDepth 20000 in
theorem gX5_isTreeWord_X5_in : GoodIn wsX5_isTreeWord (va_wsS RX5 50 yX5_in wsX5_in) := goodIn_app (goodIn_of _ (by decide +kernel)) ggX5_isTreeWord_X5_in
theorem dX5_isTreeWord_0 : decode cX5_isTreeWord 0 = .ok (.iload_n 0, 1) := by decide +kernel
theorem dX5_isTreeWord_1 : decode cX5_isTreeWord 1 = .ok (.i2l, 1) := by decide +kernel
theorem dX5_isTreeWord_2 : decode cX5_isTreeWord 2 = .ok (.lconst 1, 1) := by decide +kernel
theorem dX5_isTreeWord_3 : decode cX5_isTreeWord 3 = .ok (.ldc2_w 100, 3) := by decide +kernel
theorem dX5_isTreeWord_6 : decode cX5_isTreeWord 6 = .ok (.invokestatic 50, 3) := by decide +kernel
theorem dX5_isTreeWord_9 : decode cX5_isTreeWord 9 = .ok (.ireturn, 1) := by decide +kernel
set_option maxRecDepth 20000 in
theorem ggX5_readsLine_X5_wordOf : GoodIn wsX5_readsLine wsX5_wordOf := goodIn_r _ [9, 10, 11, 12, 13, 14, 15, 16, 8, 17, 18, 19, 20, 21, 22, 23, 24, 25, 26, 27, 52, 53, 54, 55, 56, 57, 58, 59, 60, 61, 62, 63, 64, 65, 66, 67, 68, 69, 70, 71, 72] (by decide +kernel) (by decide +kernel)
set_option maxRecDepth 20000 in
theorem gX5_readsLine_X5_wordOf : GoodIn wsX5_readsLine (wsV RX5 102 RX5 yX5_wordOf wsX5_wordOf) := goodIn_app (goodIn_of _ (by decide +kernel)) ggX5_readsLine_X5_wordOf
set_option maxRecDepth 20000 in
theorem ggX5_readsLine_X5_isTreeWord : GoodIn wsX5_readsLine wsX5_isTreeWord := goodIn_r _ [30, 31, 32, 33, 8, 34] (by decide +kernel) (by decide +kernel)
set_option maxRecDepth 20000 in
theorem gX5_readsLine_X5_isTreeWord : GoodIn wsX5_readsLine (va_wsS RX5 105 yX5_isTreeWord wsX5_isTreeWord) := goodIn_app (goodIn_of _ (by decide +kernel)) ggX5_readsLine_X5_isTreeWord
set_option maxRecDepth 20000 in
theorem ggX5_readsLine_X5_token : GoodIn wsX5_readsLine wsX5_token := goodIn_r _ [38, 39, 40, 27, 26, 25, 41, 42, 8, 43, 52, 53, 54, 55, 56, 57, 58, 59, 60, 61, 62, 63, 64, 65, 66, 67, 68, 69, 70, 71, 72] (by decide +kernel) (by decide +kernel)
set_option maxRecDepth 20000 in
theorem gX5_readsLine_X5_token : GoodIn wsX5_readsLine (wsV RX5 90 RX5 yX5_token wsX5_token) := goodIn_app (goodIn_of _ (by decide +kernel)) ggX5_readsLine_X5_token
set_option maxRecDepth 20000 in
theorem ggX5_readsLine_X5_readsRest : GoodIn wsX5_readsLine wsX5_readsRest := goodIn_r _ [47, 1, 3, 4, 48, 49, 50, 8, 51, 26, 40, 27, 25, 41, 42, 43, 32, 33, 34, 35, 36, 37, 38, 39, 52, 53, 54, 55, 56, 57, 58, 59, 60, 61, 62, 63, 64, 65, 66, 67, 68, 69, 70, 71, 72] (by decide +kernel) (by decide +kernel)
set_option maxRecDepth 20000 in
theorem gX5_readsLine_X5_readsRest : GoodIn wsX5_readsLine (wsV RX5 112 RX5 yX5_readsRest wsX5_readsRest) := goodIn_app (goodIn_of _ (by decide +kernel)) ggX5_readsLine_X5_readsRest
theorem dX5_readsLine_0 : decode cX5_readsLine 0 = .ok (.aload_n 0, 1) := by decide +kernel
theorem dX5_readsLine_1 : decode cX5_readsLine 1 = .ok (.invokevirtual 102, 3) := by decide +kernel
theorem dX5_readsLine_4 : decode cX5_readsLine 4 = .ok (.istore_n 1, 1) := by decide +kernel
theorem dX5_readsLine_5 : decode cX5_readsLine 5 = .ok (.iload_n 1, 1) := by decide +kernel
theorem dX5_readsLine_6 : decode cX5_readsLine 6 = .ok (.iconst (-1), 1) := by decide +kernel
theorem dX5_readsLine_7 : decode cX5_readsLine 7 = .ok (.if_icmp .eq 34, 3) := by decide +kernel
theorem dX5_readsLine_10 : decode cX5_readsLine 10 = .ok (.iload_n 1, 1) := by decide +kernel
theorem dX5_readsLine_11 : decode cX5_readsLine 11 = .ok (.invokestatic 105, 3) := by decide +kernel
theorem dX5_readsLine_14 : decode cX5_readsLine 14 = .ok (.ifCond .eq 12, 3) := by decide +kernel
theorem dX5_readsLine_17 : decode cX5_readsLine 17 = .ok (.aload_n 0, 1) := by decide +kernel
theorem dX5_readsLine_18 : decode cX5_readsLine 18 = .ok (.getfield 93, 3) := by decide +kernel
theorem dX5_readsLine_21 : decode cX5_readsLine 21 = .ok (.bipush 6, 2) := by decide +kernel
theorem dX5_readsLine_23 : decode cX5_readsLine 23 = .ok (.if_icmp .eq 18, 3) := by decide +kernel
theorem dX5_readsLine_26 : decode cX5_readsLine 26 = .ok (.iload_n 1, 1) := by decide +kernel
theorem dX5_readsLine_27 : decode cX5_readsLine 27 = .ok (.bipush 6, 2) := by decide +kernel
theorem dX5_readsLine_29 : decode cX5_readsLine 29 = .ok (.if_icmp .ne 14, 3) := by decide +kernel
theorem dX5_readsLine_32 : decode cX5_readsLine 32 = .ok (.aload_n 0, 1) := by decide +kernel
theorem dX5_readsLine_33 : decode cX5_readsLine 33 = .ok (.getfield 109, 3) := by decide +kernel
theorem dX5_readsLine_36 : decode cX5_readsLine 36 = .ok (.bipush 6, 2) := by decide +kernel
theorem dX5_readsLine_38 : decode cX5_readsLine 38 = .ok (.if_icmp .ne 5, 3) := by decide +kernel
theorem dX5_readsLine_41 : decode cX5_readsLine 41 = .ok (.iconst 0, 1) := by decide +kernel
theorem dX5_readsLine_42 : decode cX5_readsLine 42 = .ok (.ireturn, 1) := by decide +kernel
theorem dX5_readsLine_43 : decode cX5_readsLine 43 = .ok (.aload_n 0, 1) := by decide +kernel
theorem dX5_readsLine_44 : decode cX5_readsLine 44 = .ok (.invokevirtual 90, 3) := by decide +kernel
theorem dX5_readsLine_47 : decode cX5_readsLine 47 = .ok (.aload_n 0, 1) := by decide +kernel
theorem dX5_readsLine_48 : decode cX5_readsLine 48 = .ok (.getfield 20, 3) := by decide +kernel
theorem dX5_readsLine_51 : decode cX5_readsLine 51 = .ok (.iconst 4, 1) := by decide +kernel
theorem dX5_readsLine_52 : decode cX5_readsLine 52 = .ok (.aload_n 0, 1) := by decide +kernel
theorem dX5_readsLine_53 : decode cX5_readsLine 53 = .ok (.getfield 87, 3) := by decide +kernel
theorem dX5_readsLine_56 : decode cX5_readsLine 56 = .ok (.imul, 1) := by decide +kernel
theorem dX5_readsLine_57 : decode cX5_readsLine 57 = .ok (.iload_n 1, 1) := by decide +kernel
theorem dX5_readsLine_58 : decode cX5_readsLine 58 = .ok (.iastore, 1) := by decide +kernel
theorem dX5_readsLine_59 : decode cX5_readsLine 59 = .ok (.aload_n 0, 1) := by decide +kernel
theorem dX5_readsLine_60 : decode cX5_readsLine 60 = .ok (.iload_n 1, 1) := by decide +kernel
theorem dX5_readsLine_61 : decode cX5_readsLine 61 = .ok (.invokevirtual 112, 3) := by decide +kernel
theorem dX5_readsLine_64 : decode cX5_readsLine 64 = .ok (.ifCond .ne 5, 3) := by decide +kernel
theorem dX5_readsLine_67 : decode cX5_readsLine 67 = .ok (.iconst 0, 1) := by decide +kernel
theorem dX5_readsLine_68 : decode cX5_readsLine 68 = .ok (.ireturn, 1) := by decide +kernel
theorem dX5_readsLine_69 : decode cX5_readsLine 69 = .ok (.aload_n 0, 1) := by decide +kernel
theorem dX5_readsLine_70 : decode cX5_readsLine 70 = .ok (.iload_n 1, 1) := by decide +kernel
theorem dX5_readsLine_71 : decode cX5_readsLine 71 = .ok (.ifCond .ne 7, 3) := by decide +kernel
theorem dX5_readsLine_74 : decode cX5_readsLine 74 = .ok (.iconst 0, 1) := by decide +kernel
theorem dX5_readsLine_75 : decode cX5_readsLine 75 = .ok (.goto 23, 3) := by decide +kernel
theorem dX5_readsLine_78 : decode cX5_readsLine 78 = .ok (.iload_n 1, 1) := by decide +kernel
theorem dX5_readsLine_79 : decode cX5_readsLine 79 = .ok (.invokestatic 105, 3) := by decide +kernel
theorem dX5_readsLine_82 : decode cX5_readsLine 82 = .ok (.ifCond .eq 12, 3) := by decide +kernel
theorem dX5_readsLine_85 : decode cX5_readsLine 85 = .ok (.aload_n 0, 1) := by decide +kernel
theorem dX5_readsLine_86 : decode cX5_readsLine 86 = .ok (.getfield 93, 3) := by decide +kernel
theorem dX5_readsLine_89 : decode cX5_readsLine 89 = .ok (.iconst 1, 1) := by decide +kernel
theorem dX5_readsLine_90 : decode cX5_readsLine 90 = .ok (.iadd, 1) := by decide +kernel
theorem dX5_readsLine_91 : decode cX5_readsLine 91 = .ok (.goto 7, 3) := by decide +kernel
theorem dX5_readsLine_94 : decode cX5_readsLine 94 = .ok (.aload_n 0, 1) := by decide +kernel
theorem dX5_readsLine_95 : decode cX5_readsLine 95 = .ok (.getfield 93, 3) := by decide +kernel
theorem dX5_readsLine_98 : decode cX5_readsLine 98 = .ok (.putfield 93, 3) := by decide +kernel
theorem dX5_readsLine_101 : decode cX5_readsLine 101 = .ok (.aload_n 0, 1) := by decide +kernel
theorem dX5_readsLine_102 : decode cX5_readsLine 102 = .ok (.iload_n 1, 1) := by decide +kernel
theorem dX5_readsLine_103 : decode cX5_readsLine 103 = .ok (.ifCond .ne 7, 3) := by decide +kernel
theorem dX5_readsLine_106 : decode cX5_readsLine 106 = .ok (.iconst 0, 1) := by decide +kernel
theorem dX5_readsLine_107 : decode cX5_readsLine 107 = .ok (.goto 22, 3) := by decide +kernel
theorem dX5_readsLine_110 : decode cX5_readsLine 110 = .ok (.iload_n 1, 1) := by decide +kernel
theorem dX5_readsLine_111 : decode cX5_readsLine 111 = .ok (.bipush 6, 2) := by decide +kernel
theorem dX5_readsLine_113 : decode cX5_readsLine 113 = .ok (.if_icmp .ne 12, 3) := by decide +kernel
theorem dX5_readsLine_116 : decode cX5_readsLine 116 = .ok (.aload_n 0, 1) := by decide +kernel
theorem dX5_readsLine_117 : decode cX5_readsLine 117 = .ok (.getfield 109, 3) := by decide +kernel
theorem dX5_readsLine_120 : decode cX5_readsLine 120 = .ok (.iconst 1, 1) := by decide +kernel
theorem dX5_readsLine_121 : decode cX5_readsLine 121 = .ok (.iadd, 1) := by decide +kernel
theorem dX5_readsLine_122 : decode cX5_readsLine 122 = .ok (.goto 7, 3) := by decide +kernel
theorem dX5_readsLine_125 : decode cX5_readsLine 125 = .ok (.aload_n 0, 1) := by decide +kernel
theorem dX5_readsLine_126 : decode cX5_readsLine 126 = .ok (.getfield 109, 3) := by decide +kernel
theorem dX5_readsLine_129 : decode cX5_readsLine 129 = .ok (.putfield 109, 3) := by decide +kernel
theorem dX5_readsLine_132 : decode cX5_readsLine 132 = .ok (.aload_n 0, 1) := by decide +kernel
theorem dX5_readsLine_133 : decode cX5_readsLine 133 = .ok (.dup, 1) := by decide +kernel
theorem dX5_readsLine_134 : decode cX5_readsLine 134 = .ok (.getfield 87, 3) := by decide +kernel
theorem dX5_readsLine_137 : decode cX5_readsLine 137 = .ok (.iconst 1, 1) := by decide +kernel
theorem dX5_readsLine_138 : decode cX5_readsLine 138 = .ok (.iadd, 1) := by decide +kernel
theorem dX5_readsLine_139 : decode cX5_readsLine 139 = .ok (.putfield 87, 3) := by decide +kernel
theorem dX5_readsLine_142 : decode cX5_readsLine 142 = .ok (.iconst 1, 1) := by decide +kernel
theorem dX5_readsLine_143 : decode cX5_readsLine 143 = .ok (.ireturn, 1) := by decide +kernel
set_option maxRecDepth 20000 in
theorem ggX5_fault_X5_token : GoodIn wsX5_fault wsX5_token := goodIn_r _ [15, 1, 8, 10, 7, 9, 16, 17, 14, 18, 58, 59, 60, 61, 62, 63, 64, 65, 66, 67, 68, 69, 70, 71, 72, 73, 74, 75, 76, 77, 78] (by decide +kernel) (by decide +kernel)
set_option maxRecDepth 20000 in
theorem gX5_fault_X5_token : GoodIn wsX5_fault (wsV RX5 90 RX5 yX5_token wsX5_token) := goodIn_app (goodIn_of _ (by decide +kernel)) ggX5_fault_X5_token
set_option maxRecDepth 20000 in
theorem ggX5_fault_X5_readsLine : GoodIn wsX5_fault wsX5_readsLine := goodIn_r _ [22, 4, 6, 23, 2, 24, 25, 26, 14, 27, 28, 29, 30, 31, 32, 33, 34, 35, 36, 37, 38, 39, 40, 41, 42, 9, 7, 10, 43, 44, 45, 46, 47, 48, 49, 11, 12, 13, 15, 1, 8, 16, 17, 18, 50, 51, 52, 53, 54, 55, 56, 57, 58, 59, 60, 61, 62, 63, 64, 65, 66, 67, 68, 69, 70, 71, 72, 73, 74, 75, 76, 77, 78] (by decide +kernel) (by decide +kernel)
set_option maxRecDepth 20000 in
theorem gX5_fault_X5_readsLine : GoodIn wsX5_fault (wsV RX5 121 RX5 yX5_readsLine wsX5_readsLine) := goodIn_app (goodIn_of _ (by decide +kernel)) ggX5_fault_X5_readsLine
theorem dX5_fault_0 : decode cX5_fault 0 = .ok (.aload_n 0, 1) := by decide +kernel
theorem dX5_fault_1 : decode cX5_fault 1 = .ok (.iconst 0, 1) := by decide +kernel
theorem dX5_fault_2 : decode cX5_fault 2 = .ok (.putfield 59, 3) := by decide +kernel
theorem dX5_fault_5 : decode cX5_fault 5 = .ok (.aload_n 0, 1) := by decide +kernel
theorem dX5_fault_6 : decode cX5_fault 6 = .ok (.iconst 0, 1) := by decide +kernel
theorem dX5_fault_7 : decode cX5_fault 7 = .ok (.putfield 87, 3) := by decide +kernel
theorem dX5_fault_10 : decode cX5_fault 10 = .ok (.aload_n 0, 1) := by decide +kernel
theorem dX5_fault_11 : decode cX5_fault 11 = .ok (.aload_n 0, 1) := by decide +kernel
theorem dX5_fault_12 : decode cX5_fault 12 = .ok (.getfield 115, 3) := by decide +kernel
theorem dX5_fault_15 : decode cX5_fault 15 = .ok (.putfield 93, 3) := by decide +kernel
theorem dX5_fault_18 : decode cX5_fault 18 = .ok (.aload_n 0, 1) := by decide +kernel
theorem dX5_fault_19 : decode cX5_fault 19 = .ok (.aload_n 0, 1) := by decide +kernel
theorem dX5_fault_20 : decode cX5_fault 20 = .ok (.getfield 118, 3) := by decide +kernel
theorem dX5_fault_23 : decode cX5_fault 23 = .ok (.putfield 109, 3) := by decide +kernel
theorem dX5_fault_26 : decode cX5_fault 26 = .ok (.aload_n 0, 1) := by decide +kernel
theorem dX5_fault_27 : decode cX5_fault 27 = .ok (.invokevirtual 90, 3) := by decide +kernel
theorem dX5_fault_30 : decode cX5_fault 30 = .ok (.aload_n 0, 1) := by decide +kernel
theorem dX5_fault_31 : decode cX5_fault 31 = .ok (.invokevirtual 121, 3) := by decide +kernel
theorem dX5_fault_34 : decode cX5_fault 34 = .ok (.ifCond .ne 8, 3) := by decide +kernel
theorem dX5_fault_37 : decode cX5_fault 37 = .ok (.aload_n 0, 1) := by decide +kernel
theorem dX5_fault_38 : decode cX5_fault 38 = .ok (.getfield 62, 3) := by decide +kernel
theorem dX5_fault_41 : decode cX5_fault 41 = .ok (.ireturn, 1) := by decide +kernel
theorem dX5_fault_42 : decode cX5_fault 42 = .ok (.aload_n 0, 1) := by decide +kernel
theorem dX5_fault_43 : decode cX5_fault 43 = .ok (.getfield 62, 3) := by decide +kernel
theorem dX5_fault_46 : decode cX5_fault 46 = .ok (.aload_n 0, 1) := by decide +kernel
theorem dX5_fault_47 : decode cX5_fault 47 = .ok (.getfield 54, 3) := by decide +kernel
theorem dX5_fault_50 : decode cX5_fault 50 = .ok (.if_icmp .ge 70, 3) := by decide +kernel
theorem dX5_fault_53 : decode cX5_fault 53 = .ok (.aload_n 0, 1) := by decide +kernel
theorem dX5_fault_54 : decode cX5_fault 54 = .ok (.getfield 69, 3) := by decide +kernel
theorem dX5_fault_57 : decode cX5_fault 57 = .ok (.aload_n 0, 1) := by decide +kernel
theorem dX5_fault_58 : decode cX5_fault 58 = .ok (.getfield 62, 3) := by decide +kernel
theorem dX5_fault_61 : decode cX5_fault 61 = .ok (.isub, 1) := by decide +kernel
theorem dX5_fault_62 : decode cX5_fault 62 = .ok (.iconst 1, 1) := by decide +kernel
theorem dX5_fault_63 : decode cX5_fault 63 = .ok (.if_icmp .ne 30, 3) := by decide +kernel
theorem dX5_fault_66 : decode cX5_fault 66 = .ok (.aload_n 0, 1) := by decide +kernel
theorem dX5_fault_67 : decode cX5_fault 67 = .ok (.getfield 17, 3) := by decide +kernel
theorem dX5_fault_70 : decode cX5_fault 70 = .ok (.aload_n 0, 1) := by decide +kernel
theorem dX5_fault_71 : decode cX5_fault 71 = .ok (.getfield 62, 3) := by decide +kernel
theorem dX5_fault_74 : decode cX5_fault 74 = .ok (.iaload, 1) := by decide +kernel
theorem dX5_fault_75 : decode cX5_fault 75 = .ok (.bipush 59, 2) := by decide +kernel
theorem dX5_fault_77 : decode cX5_fault 77 = .ok (.if_icmp .ne 16, 3) := by decide +kernel
theorem dX5_fault_80 : decode cX5_fault 80 = .ok (.aload_n 0, 1) := by decide +kernel
theorem dX5_fault_81 : decode cX5_fault 81 = .ok (.getfield 87, 3) := by decide +kernel
theorem dX5_fault_84 : decode cX5_fault 84 = .ok (.bipush 12, 2) := by decide +kernel
theorem dX5_fault_86 : decode cX5_fault 86 = .ok (.if_icmp .ge 7, 3) := by decide +kernel
theorem dX5_fault_89 : decode cX5_fault 89 = .ok (.iconst 1, 1) := by decide +kernel
theorem dX5_fault_90 : decode cX5_fault 90 = .ok (.goto 4, 3) := by decide +kernel
theorem dX5_fault_93 : decode cX5_fault 93 = .ok (.iconst 0, 1) := by decide +kernel
theorem dX5_fault_94 : decode cX5_fault 94 = .ok (.istore_n 1, 1) := by decide +kernel
theorem dX5_fault_95 : decode cX5_fault 95 = .ok (.iload_n 1, 1) := by decide +kernel
theorem dX5_fault_96 : decode cX5_fault 96 = .ok (.ifCond .eq 12, 3) := by decide +kernel
theorem dX5_fault_99 : decode cX5_fault 99 = .ok (.aload_n 0, 1) := by decide +kernel
theorem dX5_fault_100 : decode cX5_fault 100 = .ok (.invokevirtual 90, 3) := by decide +kernel
theorem dX5_fault_103 : decode cX5_fault 103 = .ok (.aload_n 0, 1) := by decide +kernel
theorem dX5_fault_104 : decode cX5_fault 104 = .ok (.invokevirtual 121, 3) := by decide +kernel
theorem dX5_fault_107 : decode cX5_fault 107 = .ok (.istore_n 1, 1) := by decide +kernel
theorem dX5_fault_108 : decode cX5_fault 108 = .ok (.iload_n 1, 1) := by decide +kernel
theorem dX5_fault_109 : decode cX5_fault 109 = .ok (.ifCond .ne 8, 3) := by decide +kernel
theorem dX5_fault_112 : decode cX5_fault 112 = .ok (.aload_n 0, 1) := by decide +kernel
theorem dX5_fault_113 : decode cX5_fault 113 = .ok (.getfield 62, 3) := by decide +kernel
theorem dX5_fault_116 : decode cX5_fault 116 = .ok (.ireturn, 1) := by decide +kernel
theorem dX5_fault_117 : decode cX5_fault 117 = .ok (.goto (-75), 3) := by decide +kernel
theorem dX5_fault_120 : decode cX5_fault 120 = .ok (.iconst (-1), 1) := by decide +kernel
theorem dX5_fault_121 : decode cX5_fault 121 = .ok (.ireturn, 1) := by decide +kernel
theorem dX5_tell_0 : decode cX5_tell 0 = .ok (.aload_n 0, 1) := by decide +kernel
theorem dX5_tell_1 : decode cX5_tell 1 = .ok (.getfield 20, 3) := by decide +kernel
theorem dX5_tell_4 : decode cX5_tell 4 = .ok (.iload_n 1, 1) := by decide +kernel
theorem dX5_tell_5 : decode cX5_tell 5 = .ok (.iconst 1, 1) := by decide +kernel
theorem dX5_tell_6 : decode cX5_tell 6 = .ok (.iadd, 1) := by decide +kernel
theorem dX5_tell_7 : decode cX5_tell 7 = .ok (.iaload, 1) := by decide +kernel
theorem dX5_tell_8 : decode cX5_tell 8 = .ok (.istore_n 2, 1) := by decide +kernel
theorem dX5_tell_9 : decode cX5_tell 9 = .ok (.aload_n 0, 1) := by decide +kernel
theorem dX5_tell_10 : decode cX5_tell 10 = .ok (.getfield 20, 3) := by decide +kernel
theorem dX5_tell_13 : decode cX5_tell 13 = .ok (.iload_n 1, 1) := by decide +kernel
theorem dX5_tell_14 : decode cX5_tell 14 = .ok (.iaload, 1) := by decide +kernel
theorem dX5_tell_15 : decode cX5_tell 15 = .ok (.tableswitch 126 0 7 #[45, 126, 126, 126, 126, 61, 76, 120], 45) := by decide +kernel
theorem dX5_tell_60 : decode cX5_tell 60 = .ok (.aload_n 0, 1) := by decide +kernel
theorem dX5_tell_61 : decode cX5_tell 61 = .ok (.iconst 0, 1) := by decide +kernel
theorem dX5_tell_62 : decode cX5_tell 62 = .ok (.putfield 115, 3) := by decide +kernel
theorem dX5_tell_65 : decode cX5_tell 65 = .ok (.aload_n 0, 1) := by decide +kernel
theorem dX5_tell_66 : decode cX5_tell 66 = .ok (.iconst 0, 1) := by decide +kernel
theorem dX5_tell_67 : decode cX5_tell 67 = .ok (.putfield 118, 3) := by decide +kernel
theorem dX5_tell_70 : decode cX5_tell 70 = .ok (.aload_n 0, 1) := by decide +kernel
theorem dX5_tell_71 : decode cX5_tell 71 = .ok (.iconst 5, 1) := by decide +kernel
theorem dX5_tell_72 : decode cX5_tell 72 = .ok (.putfield 38, 3) := by decide +kernel
theorem dX5_tell_75 : decode cX5_tell 75 = .ok (.return_, 1) := by decide +kernel
theorem dX5_tell_76 : decode cX5_tell 76 = .ok (.aload_n 0, 1) := by decide +kernel
theorem dX5_tell_77 : decode cX5_tell 77 = .ok (.getfield 32, 3) := by decide +kernel
theorem dX5_tell_80 : decode cX5_tell 80 = .ok (.iload_n 2, 1) := by decide +kernel
theorem dX5_tell_81 : decode cX5_tell 81 = .ok (.aload_n 0, 1) := by decide +kernel
theorem dX5_tell_82 : decode cX5_tell 82 = .ok (.getfield 20, 3) := by decide +kernel
theorem dX5_tell_85 : decode cX5_tell 85 = .ok (.iload_n 1, 1) := by decide +kernel
theorem dX5_tell_86 : decode cX5_tell 86 = .ok (.iconst 2, 1) := by decide +kernel
theorem dX5_tell_87 : decode cX5_tell 87 = .ok (.iadd, 1) := by decide +kernel
theorem dX5_tell_88 : decode cX5_tell 88 = .ok (.iaload, 1) := by decide +kernel
theorem dX5_tell_89 : decode cX5_tell 89 = .ok (.iastore, 1) := by decide +kernel
theorem dX5_tell_90 : decode cX5_tell 90 = .ok (.return_, 1) := by decide +kernel
theorem dX5_tell_91 : decode cX5_tell 91 = .ok (.aload_n 0, 1) := by decide +kernel
theorem dX5_tell_92 : decode cX5_tell 92 = .ok (.getfield 35, 3) := by decide +kernel
theorem dX5_tell_95 : decode cX5_tell 95 = .ok (.iconst 2, 1) := by decide +kernel
theorem dX5_tell_96 : decode cX5_tell 96 = .ok (.aload_n 0, 1) := by decide +kernel
theorem dX5_tell_97 : decode cX5_tell 97 = .ok (.getfield 118, 3) := by decide +kernel
theorem dX5_tell_100 : decode cX5_tell 100 = .ok (.imul, 1) := by decide +kernel
theorem dX5_tell_101 : decode cX5_tell 101 = .ok (.iload_n 2, 1) := by decide +kernel
theorem dX5_tell_102 : decode cX5_tell 102 = .ok (.iastore, 1) := by decide +kernel
theorem dX5_tell_103 : decode cX5_tell 103 = .ok (.aload_n 0, 1) := by decide +kernel
theorem dX5_tell_104 : decode cX5_tell 104 = .ok (.getfield 35, 3) := by decide +kernel
theorem dX5_tell_107 : decode cX5_tell 107 = .ok (.iconst 2, 1) := by decide +kernel
theorem dX5_tell_108 : decode cX5_tell 108 = .ok (.aload_n 0, 1) := by decide +kernel
theorem dX5_tell_109 : decode cX5_tell 109 = .ok (.getfield 118, 3) := by decide +kernel
theorem dX5_tell_112 : decode cX5_tell 112 = .ok (.imul, 1) := by decide +kernel
theorem dX5_tell_113 : decode cX5_tell 113 = .ok (.iconst 1, 1) := by decide +kernel
theorem dX5_tell_114 : decode cX5_tell 114 = .ok (.iadd, 1) := by decide +kernel
theorem dX5_tell_115 : decode cX5_tell 115 = .ok (.aload_n 0, 1) := by decide +kernel
theorem dX5_tell_116 : decode cX5_tell 116 = .ok (.getfield 20, 3) := by decide +kernel
theorem dX5_tell_119 : decode cX5_tell 119 = .ok (.iload_n 1, 1) := by decide +kernel
theorem dX5_tell_120 : decode cX5_tell 120 = .ok (.iconst 2, 1) := by decide +kernel
theorem dX5_tell_121 : decode cX5_tell 121 = .ok (.iadd, 1) := by decide +kernel
theorem dX5_tell_122 : decode cX5_tell 122 = .ok (.iaload, 1) := by decide +kernel
theorem dX5_tell_123 : decode cX5_tell 123 = .ok (.iastore, 1) := by decide +kernel
theorem dX5_tell_124 : decode cX5_tell 124 = .ok (.aload_n 0, 1) := by decide +kernel
theorem dX5_tell_125 : decode cX5_tell 125 = .ok (.dup, 1) := by decide +kernel
theorem dX5_tell_126 : decode cX5_tell 126 = .ok (.getfield 118, 3) := by decide +kernel
theorem dX5_tell_129 : decode cX5_tell 129 = .ok (.iconst 1, 1) := by decide +kernel
theorem dX5_tell_130 : decode cX5_tell 130 = .ok (.iadd, 1) := by decide +kernel
theorem dX5_tell_131 : decode cX5_tell 131 = .ok (.putfield 118, 3) := by decide +kernel
theorem dX5_tell_134 : decode cX5_tell 134 = .ok (.return_, 1) := by decide +kernel
theorem dX5_tell_135 : decode cX5_tell 135 = .ok (.aload_n 0, 1) := by decide +kernel
theorem dX5_tell_136 : decode cX5_tell 136 = .ok (.iload_n 2, 1) := by decide +kernel
theorem dX5_tell_137 : decode cX5_tell 137 = .ok (.putfield 38, 3) := by decide +kernel
theorem dX5_tell_140 : decode cX5_tell 140 = .ok (.return_, 1) := by decide +kernel
theorem dX5_tell_141 : decode cX5_tell 141 = .ok (.aload_n 0, 1) := by decide +kernel
theorem dX5_tell_142 : decode cX5_tell 142 = .ok (.getfield 23, 3) := by decide +kernel
theorem dX5_tell_145 : decode cX5_tell 145 = .ok (.aload_n 0, 1) := by decide +kernel
theorem dX5_tell_146 : decode cX5_tell 146 = .ok (.getfield 115, 3) := by decide +kernel
theorem dX5_tell_149 : decode cX5_tell 149 = .ok (.aload_n 0, 1) := by decide +kernel
theorem dX5_tell_150 : decode cX5_tell 150 = .ok (.getfield 20, 3) := by decide +kernel
theorem dX5_tell_153 : decode cX5_tell 153 = .ok (.iload_n 1, 1) := by decide +kernel
theorem dX5_tell_154 : decode cX5_tell 154 = .ok (.iaload, 1) := by decide +kernel
theorem dX5_tell_155 : decode cX5_tell 155 = .ok (.iconst 1, 1) := by decide +kernel
theorem dX5_tell_156 : decode cX5_tell 156 = .ok (.isub, 1) := by decide +kernel
theorem dX5_tell_157 : decode cX5_tell 157 = .ok (.iastore, 1) := by decide +kernel
theorem dX5_tell_158 : decode cX5_tell 158 = .ok (.aload_n 0, 1) := by decide +kernel
theorem dX5_tell_159 : decode cX5_tell 159 = .ok (.getfield 7, 3) := by decide +kernel
theorem dX5_tell_162 : decode cX5_tell 162 = .ok (.sipush 302, 3) := by decide +kernel
theorem dX5_tell_165 : decode cX5_tell 165 = .ok (.aload_n 0, 1) := by decide +kernel
theorem dX5_tell_166 : decode cX5_tell 166 = .ok (.getfield 115, 3) := by decide +kernel
theorem dX5_tell_169 : decode cX5_tell 169 = .ok (.iadd, 1) := by decide +kernel
theorem dX5_tell_170 : decode cX5_tell 170 = .ok (.iload_n 2, 1) := by decide +kernel
theorem dX5_tell_171 : decode cX5_tell 171 = .ok (.iastore, 1) := by decide +kernel
theorem dX5_tell_172 : decode cX5_tell 172 = .ok (.aload_n 0, 1) := by decide +kernel
theorem dX5_tell_173 : decode cX5_tell 173 = .ok (.getfield 26, 3) := by decide +kernel
theorem dX5_tell_176 : decode cX5_tell 176 = .ok (.aload_n 0, 1) := by decide +kernel
theorem dX5_tell_177 : decode cX5_tell 177 = .ok (.getfield 115, 3) := by decide +kernel
theorem dX5_tell_180 : decode cX5_tell 180 = .ok (.aload_n 0, 1) := by decide +kernel
theorem dX5_tell_181 : decode cX5_tell 181 = .ok (.getfield 20, 3) := by decide +kernel
theorem dX5_tell_184 : decode cX5_tell 184 = .ok (.iload_n 1, 1) := by decide +kernel
theorem dX5_tell_185 : decode cX5_tell 185 = .ok (.iconst 2, 1) := by decide +kernel
theorem dX5_tell_186 : decode cX5_tell 186 = .ok (.iadd, 1) := by decide +kernel
theorem dX5_tell_187 : decode cX5_tell 187 = .ok (.iaload, 1) := by decide +kernel
theorem dX5_tell_188 : decode cX5_tell 188 = .ok (.iastore, 1) := by decide +kernel
theorem dX5_tell_189 : decode cX5_tell 189 = .ok (.aload_n 0, 1) := by decide +kernel
theorem dX5_tell_190 : decode cX5_tell 190 = .ok (.getfield 29, 3) := by decide +kernel
theorem dX5_tell_193 : decode cX5_tell 193 = .ok (.aload_n 0, 1) := by decide +kernel
theorem dX5_tell_194 : decode cX5_tell 194 = .ok (.getfield 115, 3) := by decide +kernel
theorem dX5_tell_197 : decode cX5_tell 197 = .ok (.aload_n 0, 1) := by decide +kernel
theorem dX5_tell_198 : decode cX5_tell 198 = .ok (.getfield 20, 3) := by decide +kernel
theorem dX5_tell_201 : decode cX5_tell 201 = .ok (.iload_n 1, 1) := by decide +kernel
theorem dX5_tell_202 : decode cX5_tell 202 = .ok (.iconst 3, 1) := by decide +kernel
theorem dX5_tell_203 : decode cX5_tell 203 = .ok (.iadd, 1) := by decide +kernel
theorem dX5_tell_204 : decode cX5_tell 204 = .ok (.iaload, 1) := by decide +kernel
theorem dX5_tell_205 : decode cX5_tell 205 = .ok (.iastore, 1) := by decide +kernel
theorem dX5_tell_206 : decode cX5_tell 206 = .ok (.aload_n 0, 1) := by decide +kernel
theorem dX5_tell_207 : decode cX5_tell 207 = .ok (.getfield 32, 3) := by decide +kernel
theorem dX5_tell_210 : decode cX5_tell 210 = .ok (.aload_n 0, 1) := by decide +kernel
theorem dX5_tell_211 : decode cX5_tell 211 = .ok (.getfield 115, 3) := by decide +kernel
theorem dX5_tell_214 : decode cX5_tell 214 = .ok (.iconst 0, 1) := by decide +kernel
theorem dX5_tell_215 : decode cX5_tell 215 = .ok (.iastore, 1) := by decide +kernel
theorem dX5_tell_216 : decode cX5_tell 216 = .ok (.aload_n 0, 1) := by decide +kernel
theorem dX5_tell_217 : decode cX5_tell 217 = .ok (.dup, 1) := by decide +kernel
theorem dX5_tell_218 : decode cX5_tell 218 = .ok (.getfield 115, 3) := by decide +kernel
theorem dX5_tell_221 : decode cX5_tell 221 = .ok (.iconst 1, 1) := by decide +kernel
theorem dX5_tell_222 : decode cX5_tell 222 = .ok (.iadd, 1) := by decide +kernel
theorem dX5_tell_223 : decode cX5_tell 223 = .ok (.putfield 115, 3) := by decide +kernel
theorem dX5_tell_226 : decode cX5_tell 226 = .ok (.return_, 1) := by decide +kernel
set_option maxRecDepth 20000 in
theorem ggX5_wood_X5_fault : GoodIn wsX5_wood wsX5_fault := goodIn_r _ [8, 9, 1, 10, 11, 12, 13, 14, 3, 15, 16, 17, 18, 19, 7, 20, 21, 22, 23, 24, 25, 26, 27, 28, 29, 30, 31, 32, 33, 34, 35, 36, 37, 38, 39, 40, 41, 42, 43, 44, 45, 46, 47, 48, 49, 50, 51, 52, 53, 54, 55, 56, 57, 58, 59, 60, 61, 62, 78, 79, 80, 81, 82, 83, 84, 85, 86, 87, 88, 89, 90, 91, 92, 93, 94, 95, 96, 97, 98] (by decide +kernel) (by decide +kernel)
set_option maxRecDepth 20000 in
theorem gX5_wood_X5_fault : GoodIn wsX5_wood (wsV RX5 125 RX5 yX5_fault wsX5_fault) := goodIn_app (goodIn_of _ (by decide +kernel)) ggX5_wood_X5_fault
set_option maxRecDepth 20000 in
theorem ggX5_wood_X5_tell : GoodIn wsX5_wood wsX5_tell := goodIn_r _ [66, 28, 10, 12, 67, 68, 69, 70, 71, 72, 73, 78, 79, 80, 81, 82, 83, 84, 85, 86, 87, 88, 89, 90, 91, 92, 93, 94, 95, 96, 97, 98] (by decide +kernel) (by decide +kernel)
set_option maxRecDepth 20000 in
theorem gX5_wood_X5_tell : GoodIn wsX5_wood (wsV RX5 128 RX5 yX5_tell wsX5_tell) := goodIn_app (goodIn_of _ (by decide +kernel)) ggX5_wood_X5_tell
set_option maxRecDepth 20000 in
theorem ggX5_wood_X5_copy : GoodIn wsX5_wood wsX5_copy := goodIn_r _ [77, 71, 78, 79, 80, 81, 82, 83, 84, 85, 86, 87, 88, 89, 90, 91, 92, 93, 94, 95, 96, 97, 98] (by decide +kernel) (by decide +kernel)
set_option maxRecDepth 20000 in
theorem gX5_wood_X5_copy : GoodIn wsX5_wood (wsV RX5 132 RX5 yX5_copy wsX5_copy) := goodIn_app (goodIn_of _ (by decide +kernel)) ggX5_wood_X5_copy
theorem dX5_wood_0 : decode cX5_wood 0 = .ok (.aload_n 0, 1) := by decide +kernel
theorem dX5_wood_1 : decode cX5_wood 1 = .ok (.invokevirtual 125, 3) := by decide +kernel
theorem dX5_wood_4 : decode cX5_wood 4 = .ok (.iconst (-1), 1) := by decide +kernel
theorem dX5_wood_5 : decode cX5_wood 5 = .ok (.if_icmp .eq 6, 3) := by decide +kernel
theorem dX5_wood_8 : decode cX5_wood 8 = .ok (.bipush (-4), 2) := by decide +kernel
theorem dX5_wood_10 : decode cX5_wood 10 = .ok (.ireturn, 1) := by decide +kernel
theorem dX5_wood_11 : decode cX5_wood 11 = .ok (.iconst 0, 1) := by decide +kernel
theorem dX5_wood_12 : decode cX5_wood 12 = .ok (.istore_n 1, 1) := by decide +kernel
theorem dX5_wood_13 : decode cX5_wood 13 = .ok (.iload_n 1, 1) := by decide +kernel
theorem dX5_wood_14 : decode cX5_wood 14 = .ok (.aload_n 0, 1) := by decide +kernel
theorem dX5_wood_15 : decode cX5_wood 15 = .ok (.getfield 87, 3) := by decide +kernel
theorem dX5_wood_18 : decode cX5_wood 18 = .ok (.if_icmp .ge 16, 3) := by decide +kernel
theorem dX5_wood_21 : decode cX5_wood 21 = .ok (.aload_n 0, 1) := by decide +kernel
theorem dX5_wood_22 : decode cX5_wood 22 = .ok (.iconst 4, 1) := by decide +kernel
theorem dX5_wood_23 : decode cX5_wood 23 = .ok (.iload_n 1, 1) := by decide +kernel
theorem dX5_wood_24 : decode cX5_wood 24 = .ok (.imul, 1) := by decide +kernel
theorem dX5_wood_25 : decode cX5_wood 25 = .ok (.invokevirtual 128, 3) := by decide +kernel
theorem dX5_wood_28 : decode cX5_wood 28 = .ok (.iinc 1 1, 3) := by decide +kernel
theorem dX5_wood_31 : decode cX5_wood 31 = .ok (.goto (-18), 3) := by decide +kernel
theorem dX5_wood_34 : decode cX5_wood 34 = .ok (.aload_n 0, 1) := by decide +kernel
theorem dX5_wood_35 : decode cX5_wood 35 = .ok (.sipush 300, 3) := by decide +kernel
theorem dX5_wood_38 : decode cX5_wood 38 = .ok (.iconst 0, 1) := by decide +kernel
theorem dX5_wood_39 : decode cX5_wood 39 = .ok (.invokevirtual 132, 3) := by decide +kernel
theorem dX5_wood_42 : decode cX5_wood 42 = .ok (.aload_n 0, 1) := by decide +kernel
theorem dX5_wood_43 : decode cX5_wood 43 = .ok (.getfield 13, 3) := by decide +kernel
theorem dX5_wood_46 : decode cX5_wood 46 = .ok (.iconst 0, 1) := by decide +kernel
theorem dX5_wood_47 : decode cX5_wood 47 = .ok (.iconst 0, 1) := by decide +kernel
theorem dX5_wood_48 : decode cX5_wood 48 = .ok (.bastore, 1) := by decide +kernel
theorem dX5_wood_49 : decode cX5_wood 49 = .ok (.aload_n 0, 1) := by decide +kernel
theorem dX5_wood_50 : decode cX5_wood 50 = .ok (.getfield 13, 3) := by decide +kernel
theorem dX5_wood_53 : decode cX5_wood 53 = .ok (.iconst 1, 1) := by decide +kernel
theorem dX5_wood_54 : decode cX5_wood 54 = .ok (.iconst 0, 1) := by decide +kernel
theorem dX5_wood_55 : decode cX5_wood 55 = .ok (.bastore, 1) := by decide +kernel
theorem dX5_wood_56 : decode cX5_wood 56 = .ok (.aload_n 0, 1) := by decide +kernel
theorem dX5_wood_57 : decode cX5_wood 57 = .ok (.iconst 0, 1) := by decide +kernel
theorem dX5_wood_58 : decode cX5_wood 58 = .ok (.putfield 54, 3) := by decide +kernel
theorem dX5_wood_61 : decode cX5_wood 61 = .ok (.aload_n 0, 1) := by decide +kernel
theorem dX5_wood_62 : decode cX5_wood 62 = .ok (.getfield 87, 3) := by decide +kernel
theorem dX5_wood_65 : decode cX5_wood 65 = .ok (.ireturn, 1) := by decide +kernel
set_option maxRecDepth 20000 in
theorem ggX5_isTree_X5_in : GoodIn wsX5_isTree wsX5_in := goodIn_r _ [5] (by decide +kernel) (by decide +kernel)
set_option maxRecDepth 20000 in
theorem gX5_isTree_X5_in : GoodIn wsX5_isTree (va_wsS RX5 50 yX5_in wsX5_in) := goodIn_app (goodIn_of _ (by decide +kernel)) ggX5_isTree_X5_in
theorem dX5_isTree_0 : decode cX5_isTree 0 = .ok (.iload_n 1, 1) := by decide +kernel
theorem dX5_isTree_1 : decode cX5_isTree 1 = .ok (.i2l, 1) := by decide +kernel
theorem dX5_isTree_2 : decode cX5_isTree 2 = .ok (.lconst 0, 1) := by decide +kernel
theorem dX5_isTree_3 : decode cX5_isTree 3 = .ok (.aload_n 0, 1) := by decide +kernel
theorem dX5_isTree_4 : decode cX5_isTree 4 = .ok (.getfield 115, 3) := by decide +kernel
theorem dX5_isTree_7 : decode cX5_isTree 7 = .ok (.iconst 1, 1) := by decide +kernel
theorem dX5_isTree_8 : decode cX5_isTree 8 = .ok (.isub, 1) := by decide +kernel
theorem dX5_isTree_9 : decode cX5_isTree 9 = .ok (.i2l, 1) := by decide +kernel
theorem dX5_isTree_10 : decode cX5_isTree 10 = .ok (.invokestatic 50, 3) := by decide +kernel
theorem dX5_isTree_13 : decode cX5_isTree 13 = .ok (.ireturn, 1) := by decide +kernel
theorem dX5_lives_0 : decode cX5_lives 0 = .ok (.aload_n 0, 1) := by decide +kernel
theorem dX5_lives_1 : decode cX5_lives 1 = .ok (.getfield 7, 3) := by decide +kernel
theorem dX5_lives_4 : decode cX5_lives 4 = .ok (.bipush 8, 2) := by decide +kernel
theorem dX5_lives_6 : decode cX5_lives 6 = .ok (.iload_n 1, 1) := by decide +kernel
theorem dX5_lives_7 : decode cX5_lives 7 = .ok (.iadd, 1) := by decide +kernel
theorem dX5_lives_8 : decode cX5_lives 8 = .ok (.iaload, 1) := by decide +kernel
theorem dX5_lives_9 : decode cX5_lives 9 = .ok (.ifCond .ne 7, 3) := by decide +kernel
theorem dX5_lives_12 : decode cX5_lives 12 = .ok (.iconst 1, 1) := by decide +kernel
theorem dX5_lives_13 : decode cX5_lives 13 = .ok (.goto 4, 3) := by decide +kernel
theorem dX5_lives_16 : decode cX5_lives 16 = .ok (.iconst 0, 1) := by decide +kernel
theorem dX5_lives_17 : decode cX5_lives 17 = .ok (.ireturn, 1) := by decide +kernel
theorem dX5_placeOf_0 : decode cX5_placeOf 0 = .ok (.iload_n 0, 1) := by decide +kernel
theorem dX5_placeOf_1 : decode cX5_placeOf 1 = .ok (.bipush 15, 2) := by decide +kernel
theorem dX5_placeOf_3 : decode cX5_placeOf 3 = .ok (.iadd, 1) := by decide +kernel
theorem dX5_placeOf_4 : decode cX5_placeOf 4 = .ok (.iconst 5, 1) := by decide +kernel
theorem dX5_placeOf_5 : decode cX5_placeOf 5 = .ok (.iload_n 1, 1) := by decide +kernel
theorem dX5_placeOf_6 : decode cX5_placeOf 6 = .ok (.imul, 1) := by decide +kernel
theorem dX5_placeOf_7 : decode cX5_placeOf 7 = .ok (.iadd, 1) := by decide +kernel
theorem dX5_placeOf_8 : decode cX5_placeOf 8 = .ok (.iload_n 2, 1) := by decide +kernel
theorem dX5_placeOf_9 : decode cX5_placeOf 9 = .ok (.iadd, 1) := by decide +kernel
theorem dX5_placeOf_10 : decode cX5_placeOf 10 = .ok (.ireturn, 1) := by decide +kernel
set_option maxRecDepth 20000 in
theorem ggX5_owedTo_X5_placeOf : GoodIn wsX5_owedTo wsX5_placeOf := goodIn_r _ [5] (by decide +kernel) (by decide +kernel)
set_option maxRecDepth 20000 in
theorem gX5_owedTo_X5_placeOf : GoodIn wsX5_owedTo (va_wsS RX5 136 yX5_placeOf wsX5_placeOf) := goodIn_app (goodIn_of _ (by decide +kernel)) ggX5_owedTo_X5_placeOf
theorem dX5_owedTo_0 : decode cX5_owedTo 0 = .ok (.iconst 0, 1) := by decide +kernel
theorem dX5_owedTo_1 : decode cX5_owedTo 1 = .ok (.istore_n 3, 1) := by decide +kernel
theorem dX5_owedTo_2 : decode cX5_owedTo 2 = .ok (.iconst 0, 1) := by decide +kernel
theorem dX5_owedTo_3 : decode cX5_owedTo 3 = .ok (.istore 4, 2) := by decide +kernel
theorem dX5_owedTo_5 : decode cX5_owedTo 5 = .ok (.iload 4, 2) := by decide +kernel
theorem dX5_owedTo_7 : decode cX5_owedTo 7 = .ok (.aload_n 0, 1) := by decide +kernel
theorem dX5_owedTo_8 : decode cX5_owedTo 8 = .ok (.getfield 7, 3) := by decide +kernel
theorem dX5_owedTo_11 : decode cX5_owedTo 11 = .ok (.iload_n 1, 1) := by decide +kernel
theorem dX5_owedTo_12 : decode cX5_owedTo 12 = .ok (.bipush 14, 2) := by decide +kernel
theorem dX5_owedTo_14 : decode cX5_owedTo 14 = .ok (.iadd, 1) := by decide +kernel
theorem dX5_owedTo_15 : decode cX5_owedTo 15 = .ok (.iaload, 1) := by decide +kernel
theorem dX5_owedTo_16 : decode cX5_owedTo 16 = .ok (.if_icmp .ge 44, 3) := by decide +kernel
theorem dX5_owedTo_19 : decode cX5_owedTo 19 = .ok (.iload_n 3, 1) := by decide +kernel
theorem dX5_owedTo_20 : decode cX5_owedTo 20 = .ok (.aload_n 0, 1) := by decide +kernel
theorem dX5_owedTo_21 : decode cX5_owedTo 21 = .ok (.getfield 7, 3) := by decide +kernel
theorem dX5_owedTo_24 : decode cX5_owedTo 24 = .ok (.iload_n 1, 1) := by decide +kernel
theorem dX5_owedTo_25 : decode cX5_owedTo 25 = .ok (.iload 4, 2) := by decide +kernel
theorem dX5_owedTo_27 : decode cX5_owedTo 27 = .ok (.iconst 0, 1) := by decide +kernel
theorem dX5_owedTo_28 : decode cX5_owedTo 28 = .ok (.invokestatic 136, 3) := by decide +kernel
theorem dX5_owedTo_31 : decode cX5_owedTo 31 = .ok (.iaload, 1) := by decide +kernel
theorem dX5_owedTo_32 : decode cX5_owedTo 32 = .ok (.iload_n 2, 1) := by decide +kernel
theorem dX5_owedTo_33 : decode cX5_owedTo 33 = .ok (.if_icmp .ne 18, 3) := by decide +kernel
theorem dX5_owedTo_36 : decode cX5_owedTo 36 = .ok (.aload_n 0, 1) := by decide +kernel
theorem dX5_owedTo_37 : decode cX5_owedTo 37 = .ok (.getfield 7, 3) := by decide +kernel
theorem dX5_owedTo_40 : decode cX5_owedTo 40 = .ok (.iload_n 1, 1) := by decide +kernel
theorem dX5_owedTo_41 : decode cX5_owedTo 41 = .ok (.iload 4, 2) := by decide +kernel
theorem dX5_owedTo_43 : decode cX5_owedTo 43 = .ok (.iconst 2, 1) := by decide +kernel
theorem dX5_owedTo_44 : decode cX5_owedTo 44 = .ok (.invokestatic 136, 3) := by decide +kernel
theorem dX5_owedTo_47 : decode cX5_owedTo 47 = .ok (.iaload, 1) := by decide +kernel
theorem dX5_owedTo_48 : decode cX5_owedTo 48 = .ok (.goto 4, 3) := by decide +kernel
theorem dX5_owedTo_51 : decode cX5_owedTo 51 = .ok (.iconst 0, 1) := by decide +kernel
theorem dX5_owedTo_52 : decode cX5_owedTo 52 = .ok (.iadd, 1) := by decide +kernel
theorem dX5_owedTo_53 : decode cX5_owedTo 53 = .ok (.istore_n 3, 1) := by decide +kernel
theorem dX5_owedTo_54 : decode cX5_owedTo 54 = .ok (.iinc 4 1, 3) := by decide +kernel
theorem dX5_owedTo_57 : decode cX5_owedTo 57 = .ok (.goto (-52), 3) := by decide +kernel
theorem dX5_owedTo_60 : decode cX5_owedTo 60 = .ok (.iload_n 3, 1) := by decide +kernel
theorem dX5_owedTo_61 : decode cX5_owedTo 61 = .ok (.ireturn, 1) := by decide +kernel
set_option maxRecDepth 20000 in
theorem ggX5_owedAll_X5_placeOf : GoodIn wsX5_owedAll wsX5_placeOf := goodIn_r _ [5] (by decide +kernel) (by decide +kernel)
set_option maxRecDepth 20000 in
theorem gX5_owedAll_X5_placeOf : GoodIn wsX5_owedAll (va_wsS RX5 136 yX5_placeOf wsX5_placeOf) := goodIn_app (goodIn_of _ (by decide +kernel)) ggX5_owedAll_X5_placeOf
theorem dX5_owedAll_0 : decode cX5_owedAll 0 = .ok (.iconst 0, 1) := by decide +kernel
theorem dX5_owedAll_1 : decode cX5_owedAll 1 = .ok (.istore_n 2, 1) := by decide +kernel
theorem dX5_owedAll_2 : decode cX5_owedAll 2 = .ok (.iconst 0, 1) := by decide +kernel
theorem dX5_owedAll_3 : decode cX5_owedAll 3 = .ok (.istore_n 3, 1) := by decide +kernel
theorem dX5_owedAll_4 : decode cX5_owedAll 4 = .ok (.iload_n 3, 1) := by decide +kernel
theorem dX5_owedAll_5 : decode cX5_owedAll 5 = .ok (.aload_n 0, 1) := by decide +kernel
theorem dX5_owedAll_6 : decode cX5_owedAll 6 = .ok (.getfield 7, 3) := by decide +kernel
theorem dX5_owedAll_9 : decode cX5_owedAll 9 = .ok (.iload_n 1, 1) := by decide +kernel
theorem dX5_owedAll_10 : decode cX5_owedAll 10 = .ok (.bipush 14, 2) := by decide +kernel
theorem dX5_owedAll_12 : decode cX5_owedAll 12 = .ok (.iadd, 1) := by decide +kernel
theorem dX5_owedAll_13 : decode cX5_owedAll 13 = .ok (.iaload, 1) := by decide +kernel
theorem dX5_owedAll_14 : decode cX5_owedAll 14 = .ok (.if_icmp .ge 23, 3) := by decide +kernel
theorem dX5_owedAll_17 : decode cX5_owedAll 17 = .ok (.iload_n 2, 1) := by decide +kernel
theorem dX5_owedAll_18 : decode cX5_owedAll 18 = .ok (.aload_n 0, 1) := by decide +kernel
theorem dX5_owedAll_19 : decode cX5_owedAll 19 = .ok (.getfield 7, 3) := by decide +kernel
theorem dX5_owedAll_22 : decode cX5_owedAll 22 = .ok (.iload_n 1, 1) := by decide +kernel
theorem dX5_owedAll_23 : decode cX5_owedAll 23 = .ok (.iload_n 3, 1) := by decide +kernel
theorem dX5_owedAll_24 : decode cX5_owedAll 24 = .ok (.iconst 2, 1) := by decide +kernel
theorem dX5_owedAll_25 : decode cX5_owedAll 25 = .ok (.invokestatic 136, 3) := by decide +kernel
theorem dX5_owedAll_28 : decode cX5_owedAll 28 = .ok (.iaload, 1) := by decide +kernel
theorem dX5_owedAll_29 : decode cX5_owedAll 29 = .ok (.iadd, 1) := by decide +kernel
theorem dX5_owedAll_30 : decode cX5_owedAll 30 = .ok (.istore_n 2, 1) := by decide +kernel
theorem dX5_owedAll_31 : decode cX5_owedAll 31 = .ok (.iinc 3 1, 3) := by decide +kernel
theorem dX5_owedAll_34 : decode cX5_owedAll 34 = .ok (.goto (-30), 3) := by decide +kernel
theorem dX5_owedAll_37 : decode cX5_owedAll 37 = .ok (.iload_n 2, 1) := by decide +kernel
theorem dX5_owedAll_38 : decode cX5_owedAll 38 = .ok (.ireturn, 1) := by decide +kernel
set_option maxRecDepth 20000 in
theorem ggX5_isCross_X5_owedTo : GoodIn wsX5_isCross wsX5_owedTo := goodIn_r _ [7, 8, 9, 10, 6, 11, 12, 13, 14, 15, 16, 17, 18, 19, 20, 21, 22, 23, 24, 25, 26, 27, 28, 29, 30, 31, 32] (by decide +kernel) (by decide +kernel)
set_option maxRecDepth 20000 in
theorem gX5_isCross_X5_owedTo : GoodIn wsX5_isCross (wsV RX5 140 RX5 yX5_owedTo wsX5_owedTo) := goodIn_app (goodIn_of _ (by decide +kernel)) ggX5_isCross_X5_owedTo
theorem dX5_isCross_0 : decode cX5_isCross 0 = .ok (.iconst 0, 1) := by decide +kernel
theorem dX5_isCross_1 : decode cX5_isCross 1 = .ok (.istore_n 2, 1) := by decide +kernel
theorem dX5_isCross_2 : decode cX5_isCross 2 = .ok (.iconst 0, 1) := by decide +kernel
theorem dX5_isCross_3 : decode cX5_isCross 3 = .ok (.istore_n 3, 1) := by decide +kernel
theorem dX5_isCross_4 : decode cX5_isCross 4 = .ok (.iload_n 3, 1) := by decide +kernel
theorem dX5_isCross_5 : decode cX5_isCross 5 = .ok (.iconst 2, 1) := by decide +kernel
theorem dX5_isCross_6 : decode cX5_isCross 6 = .ok (.aload_n 0, 1) := by decide +kernel
theorem dX5_isCross_7 : decode cX5_isCross 7 = .ok (.getfield 118, 3) := by decide +kernel
theorem dX5_isCross_10 : decode cX5_isCross 10 = .ok (.imul, 1) := by decide +kernel
theorem dX5_isCross_11 : decode cX5_isCross 11 = .ok (.if_icmp .ge 67, 3) := by decide +kernel
theorem dX5_isCross_14 : decode cX5_isCross 14 = .ok (.aload_n 0, 1) := by decide +kernel
theorem dX5_isCross_15 : decode cX5_isCross 15 = .ok (.getfield 35, 3) := by decide +kernel
theorem dX5_isCross_18 : decode cX5_isCross 18 = .ok (.iload_n 3, 1) := by decide +kernel
theorem dX5_isCross_19 : decode cX5_isCross 19 = .ok (.iconst 2, 1) := by decide +kernel
theorem dX5_isCross_20 : decode cX5_isCross 20 = .ok (.irem, 1) := by decide +kernel
theorem dX5_isCross_21 : decode cX5_isCross 21 = .ok (.ifCond .ne 9, 3) := by decide +kernel
theorem dX5_isCross_24 : decode cX5_isCross 24 = .ok (.iload_n 3, 1) := by decide +kernel
theorem dX5_isCross_25 : decode cX5_isCross 25 = .ok (.iconst 1, 1) := by decide +kernel
theorem dX5_isCross_26 : decode cX5_isCross 26 = .ok (.iadd, 1) := by decide +kernel
theorem dX5_isCross_27 : decode cX5_isCross 27 = .ok (.goto 6, 3) := by decide +kernel
theorem dX5_isCross_30 : decode cX5_isCross 30 = .ok (.iload_n 3, 1) := by decide +kernel
theorem dX5_isCross_31 : decode cX5_isCross 31 = .ok (.iconst 1, 1) := by decide +kernel
theorem dX5_isCross_32 : decode cX5_isCross 32 = .ok (.isub, 1) := by decide +kernel
theorem dX5_isCross_33 : decode cX5_isCross 33 = .ok (.iaload, 1) := by decide +kernel
theorem dX5_isCross_34 : decode cX5_isCross 34 = .ok (.istore 4, 2) := by decide +kernel
theorem dX5_isCross_36 : decode cX5_isCross 36 = .ok (.iload_n 2, 1) := by decide +kernel
theorem dX5_isCross_37 : decode cX5_isCross 37 = .ok (.ifCond .ne 29, 3) := by decide +kernel
theorem dX5_isCross_40 : decode cX5_isCross 40 = .ok (.aload_n 0, 1) := by decide +kernel
theorem dX5_isCross_41 : decode cX5_isCross 41 = .ok (.getfield 35, 3) := by decide +kernel
theorem dX5_isCross_44 : decode cX5_isCross 44 = .ok (.iload_n 3, 1) := by decide +kernel
theorem dX5_isCross_45 : decode cX5_isCross 45 = .ok (.iaload, 1) := by decide +kernel
theorem dX5_isCross_46 : decode cX5_isCross 46 = .ok (.iload_n 1, 1) := by decide +kernel
theorem dX5_isCross_47 : decode cX5_isCross 47 = .ok (.if_icmp .ne 23, 3) := by decide +kernel
theorem dX5_isCross_50 : decode cX5_isCross 50 = .ok (.aload_n 0, 1) := by decide +kernel
theorem dX5_isCross_51 : decode cX5_isCross 51 = .ok (.iconst 0, 1) := by decide +kernel
theorem dX5_isCross_52 : decode cX5_isCross 52 = .ok (.iload 4, 2) := by decide +kernel
theorem dX5_isCross_54 : decode cX5_isCross 54 = .ok (.invokevirtual 140, 3) := by decide +kernel
theorem dX5_isCross_57 : decode cX5_isCross 57 = .ok (.aload_n 0, 1) := by decide +kernel
theorem dX5_isCross_58 : decode cX5_isCross 58 = .ok (.iconst 0, 1) := by decide +kernel
theorem dX5_isCross_59 : decode cX5_isCross 59 = .ok (.iload_n 1, 1) := by decide +kernel
theorem dX5_isCross_60 : decode cX5_isCross 60 = .ok (.invokevirtual 140, 3) := by decide +kernel
theorem dX5_isCross_63 : decode cX5_isCross 63 = .ok (.if_icmp .le 7, 3) := by decide +kernel
theorem dX5_isCross_66 : decode cX5_isCross 66 = .ok (.iconst 1, 1) := by decide +kernel
theorem dX5_isCross_67 : decode cX5_isCross 67 = .ok (.goto 4, 3) := by decide +kernel
theorem dX5_isCross_70 : decode cX5_isCross 70 = .ok (.iconst 0, 1) := by decide +kernel
theorem dX5_isCross_71 : decode cX5_isCross 71 = .ok (.istore_n 2, 1) := by decide +kernel
theorem dX5_isCross_72 : decode cX5_isCross 72 = .ok (.iinc 3 1, 3) := by decide +kernel
theorem dX5_isCross_75 : decode cX5_isCross 75 = .ok (.goto (-71), 3) := by decide +kernel
theorem dX5_isCross_78 : decode cX5_isCross 78 = .ok (.iload_n 2, 1) := by decide +kernel
theorem dX5_isCross_79 : decode cX5_isCross 79 = .ok (.ireturn, 1) := by decide +kernel
set_option maxRecDepth 20000 in
theorem ggX5_lends_X5_lives : GoodIn wsX5_lends wsX5_lives := goodIn_r _ [5, 6, 20, 21, 22, 23, 24, 25, 26, 27, 28, 29, 30, 31, 32, 33, 34, 35, 36, 37, 38, 39, 40] (by decide +kernel) (by decide +kernel)
set_option maxRecDepth 20000 in
theorem gX5_lends_X5_lives : GoodIn wsX5_lends (wsV RX5 144 RX5 yX5_lives wsX5_lives) := goodIn_app (goodIn_of _ (by decide +kernel)) ggX5_lends_X5_lives
set_option maxRecDepth 20000 in
theorem ggX5_lends_X5_isCross : GoodIn wsX5_lends wsX5_isCross := goodIn_r _ [10, 11, 12, 13, 14, 15, 4, 16, 6, 17, 18, 19, 20, 21, 22, 23, 24, 25, 26, 27, 28, 29, 30, 31, 32, 33, 34, 35, 36, 37, 38, 39, 40] (by decide +kernel) (by decide +kernel)
set_option maxRecDepth 20000 in
theorem gX5_lends_X5_isCross : GoodIn wsX5_lends (wsV RX5 147 RX5 yX5_isCross wsX5_isCross) := goodIn_app (goodIn_of _ (by decide +kernel)) ggX5_lends_X5_isCross
theorem dX5_lends_0 : decode cX5_lends 0 = .ok (.aload_n 0, 1) := by decide +kernel
theorem dX5_lends_1 : decode cX5_lends 1 = .ok (.iload_n 1, 1) := by decide +kernel
theorem dX5_lends_2 : decode cX5_lends 2 = .ok (.invokevirtual 144, 3) := by decide +kernel
theorem dX5_lends_5 : decode cX5_lends 5 = .ok (.ifCond .eq 15, 3) := by decide +kernel
theorem dX5_lends_8 : decode cX5_lends 8 = .ok (.aload_n 0, 1) := by decide +kernel
theorem dX5_lends_9 : decode cX5_lends 9 = .ok (.iload_n 1, 1) := by decide +kernel
theorem dX5_lends_10 : decode cX5_lends 10 = .ok (.invokevirtual 147, 3) := by decide +kernel
theorem dX5_lends_13 : decode cX5_lends 13 = .ok (.ifCond .ne 7, 3) := by decide +kernel
theorem dX5_lends_16 : decode cX5_lends 16 = .ok (.iconst 1, 1) := by decide +kernel
theorem dX5_lends_17 : decode cX5_lends 17 = .ok (.goto 4, 3) := by decide +kernel
theorem dX5_lends_20 : decode cX5_lends 20 = .ok (.iconst 0, 1) := by decide +kernel
theorem dX5_lends_21 : decode cX5_lends 21 = .ok (.ireturn, 1) := by decide +kernel
theorem dX5_grown_0 : decode cX5_grown 0 = .ok (.aload_n 0, 1) := by decide +kernel
theorem dX5_grown_1 : decode cX5_grown 1 = .ok (.getfield 23, 3) := by decide +kernel
theorem dX5_grown_4 : decode cX5_grown 4 = .ok (.iload_n 1, 1) := by decide +kernel
theorem dX5_grown_5 : decode cX5_grown 5 = .ok (.iaload, 1) := by decide +kernel
theorem dX5_grown_6 : decode cX5_grown 6 = .ok (.iconst 2, 1) := by decide +kernel
theorem dX5_grown_7 : decode cX5_grown 7 = .ok (.if_icmp .ne 14, 3) := by decide +kernel
theorem dX5_grown_10 : decode cX5_grown 10 = .ok (.aload_n 0, 1) := by decide +kernel
theorem dX5_grown_11 : decode cX5_grown 11 = .ok (.getfield 26, 3) := by decide +kernel
theorem dX5_grown_14 : decode cX5_grown 14 = .ok (.iload_n 1, 1) := by decide +kernel
theorem dX5_grown_15 : decode cX5_grown 15 = .ok (.iaload, 1) := by decide +kernel
theorem dX5_grown_16 : decode cX5_grown 16 = .ok (.iconst 2, 1) := by decide +kernel
theorem dX5_grown_17 : decode cX5_grown 17 = .ok (.idiv, 1) := by decide +kernel
theorem dX5_grown_18 : decode cX5_grown 18 = .ok (.goto 9, 3) := by decide +kernel
theorem dX5_grown_21 : decode cX5_grown 21 = .ok (.aload_n 0, 1) := by decide +kernel
theorem dX5_grown_22 : decode cX5_grown 22 = .ok (.getfield 26, 3) := by decide +kernel
theorem dX5_grown_25 : decode cX5_grown 25 = .ok (.iload_n 1, 1) := by decide +kernel
theorem dX5_grown_26 : decode cX5_grown 26 = .ok (.iaload, 1) := by decide +kernel
theorem dX5_grown_27 : decode cX5_grown 27 = .ok (.istore 4, 2) := by decide +kernel
theorem dX5_grown_29 : decode cX5_grown 29 = .ok (.aload_n 0, 1) := by decide +kernel
theorem dX5_grown_30 : decode cX5_grown 30 = .ok (.getfield 23, 3) := by decide +kernel
theorem dX5_grown_33 : decode cX5_grown 33 = .ok (.iload_n 1, 1) := by decide +kernel
theorem dX5_grown_34 : decode cX5_grown 34 = .ok (.iaload, 1) := by decide +kernel
theorem dX5_grown_35 : decode cX5_grown 35 = .ok (.iconst 3, 1) := by decide +kernel
theorem dX5_grown_36 : decode cX5_grown 36 = .ok (.if_icmp .ne 12, 3) := by decide +kernel
theorem dX5_grown_39 : decode cX5_grown 39 = .ok (.iload_n 2, 1) := by decide +kernel
theorem dX5_grown_40 : decode cX5_grown 40 = .ok (.iload 4, 2) := by decide +kernel
theorem dX5_grown_42 : decode cX5_grown 42 = .ok (.iload_n 3, 1) := by decide +kernel
theorem dX5_grown_43 : decode cX5_grown 43 = .ok (.imul, 1) := by decide +kernel
theorem dX5_grown_44 : decode cX5_grown 44 = .ok (.iadd, 1) := by decide +kernel
theorem dX5_grown_45 : decode cX5_grown 45 = .ok (.goto 12, 3) := by decide +kernel
theorem dX5_grown_48 : decode cX5_grown 48 = .ok (.iload_n 2, 1) := by decide +kernel
theorem dX5_grown_49 : decode cX5_grown 49 = .ok (.iload_n 2, 1) := by decide +kernel
theorem dX5_grown_50 : decode cX5_grown 50 = .ok (.iload 4, 2) := by decide +kernel
theorem dX5_grown_52 : decode cX5_grown 52 = .ok (.imul, 1) := by decide +kernel
theorem dX5_grown_53 : decode cX5_grown 53 = .ok (.bipush 100, 2) := by decide +kernel
theorem dX5_grown_55 : decode cX5_grown 55 = .ok (.idiv, 1) := by decide +kernel
theorem dX5_grown_56 : decode cX5_grown 56 = .ok (.iadd, 1) := by decide +kernel
theorem dX5_grown_57 : decode cX5_grown 57 = .ok (.istore 5, 2) := by decide +kernel
theorem dX5_grown_59 : decode cX5_grown 59 = .ok (.iload 5, 2) := by decide +kernel
theorem dX5_grown_61 : decode cX5_grown 61 = .ok (.ldc 150, 2) := by decide +kernel
theorem dX5_grown_63 : decode cX5_grown 63 = .ok (.if_icmp .le 8, 3) := by decide +kernel
theorem dX5_grown_66 : decode cX5_grown 66 = .ok (.ldc 150, 2) := by decide +kernel
theorem dX5_grown_68 : decode cX5_grown 68 = .ok (.goto 5, 3) := by decide +kernel
theorem dX5_grown_71 : decode cX5_grown 71 = .ok (.iload 5, 2) := by decide +kernel
theorem dX5_grown_73 : decode cX5_grown 73 = .ok (.ireturn, 1) := by decide +kernel
set_option maxRecDepth 20000 in
theorem ggX5_remove_X5_placeOf : GoodIn wsX5_remove wsX5_placeOf := goodIn_r _ [5] (by decide +kernel) (by decide +kernel)
set_option maxRecDepth 20000 in
theorem gX5_remove_X5_placeOf : GoodIn wsX5_remove (va_wsS RX5 136 yX5_placeOf wsX5_placeOf) := goodIn_app (goodIn_of _ (by decide +kernel)) ggX5_remove_X5_placeOf
theorem dX5_remove_0 : decode cX5_remove 0 = .ok (.aload_n 0, 1) := by decide +kernel
theorem dX5_remove_1 : decode cX5_remove 1 = .ok (.getfield 7, 3) := by decide +kernel
theorem dX5_remove_4 : decode cX5_remove 4 = .ok (.iload_n 1, 1) := by decide +kernel
theorem dX5_remove_5 : decode cX5_remove 5 = .ok (.bipush 14, 2) := by decide +kernel
theorem dX5_remove_7 : decode cX5_remove 7 = .ok (.iadd, 1) := by decide +kernel
theorem dX5_remove_8 : decode cX5_remove 8 = .ok (.dup2, 1) := by decide +kernel
theorem dX5_remove_9 : decode cX5_remove 9 = .ok (.iaload, 1) := by decide +kernel
theorem dX5_remove_10 : decode cX5_remove 10 = .ok (.iconst 1, 1) := by decide +kernel
theorem dX5_remove_11 : decode cX5_remove 11 = .ok (.isub, 1) := by decide +kernel
theorem dX5_remove_12 : decode cX5_remove 12 = .ok (.iastore, 1) := by decide +kernel
theorem dX5_remove_13 : decode cX5_remove 13 = .ok (.iload_n 1, 1) := by decide +kernel
theorem dX5_remove_14 : decode cX5_remove 14 = .ok (.iload_n 2, 1) := by decide +kernel
theorem dX5_remove_15 : decode cX5_remove 15 = .ok (.iconst 0, 1) := by decide +kernel
theorem dX5_remove_16 : decode cX5_remove 16 = .ok (.invokestatic 136, 3) := by decide +kernel
theorem dX5_remove_19 : decode cX5_remove 19 = .ok (.istore_n 3, 1) := by decide +kernel
theorem dX5_remove_20 : decode cX5_remove 20 = .ok (.iload_n 3, 1) := by decide +kernel
theorem dX5_remove_21 : decode cX5_remove 21 = .ok (.iload_n 1, 1) := by decide +kernel
theorem dX5_remove_22 : decode cX5_remove 22 = .ok (.aload_n 0, 1) := by decide +kernel
theorem dX5_remove_23 : decode cX5_remove 23 = .ok (.getfield 7, 3) := by decide +kernel
theorem dX5_remove_26 : decode cX5_remove 26 = .ok (.iload_n 1, 1) := by decide +kernel
theorem dX5_remove_27 : decode cX5_remove 27 = .ok (.bipush 14, 2) := by decide +kernel
theorem dX5_remove_29 : decode cX5_remove 29 = .ok (.iadd, 1) := by decide +kernel
theorem dX5_remove_30 : decode cX5_remove 30 = .ok (.iaload, 1) := by decide +kernel
theorem dX5_remove_31 : decode cX5_remove 31 = .ok (.iconst 0, 1) := by decide +kernel
theorem dX5_remove_32 : decode cX5_remove 32 = .ok (.invokestatic 136, 3) := by decide +kernel
theorem dX5_remove_35 : decode cX5_remove 35 = .ok (.if_icmp .ge 23, 3) := by decide +kernel
theorem dX5_remove_38 : decode cX5_remove 38 = .ok (.aload_n 0, 1) := by decide +kernel
theorem dX5_remove_39 : decode cX5_remove 39 = .ok (.getfield 7, 3) := by decide +kernel
theorem dX5_remove_42 : decode cX5_remove 42 = .ok (.iload_n 3, 1) := by decide +kernel
theorem dX5_remove_43 : decode cX5_remove 43 = .ok (.aload_n 0, 1) := by decide +kernel
theorem dX5_remove_44 : decode cX5_remove 44 = .ok (.getfield 7, 3) := by decide +kernel
theorem dX5_remove_47 : decode cX5_remove 47 = .ok (.iload_n 3, 1) := by decide +kernel
theorem dX5_remove_48 : decode cX5_remove 48 = .ok (.iconst 5, 1) := by decide +kernel
theorem dX5_remove_49 : decode cX5_remove 49 = .ok (.iadd, 1) := by decide +kernel
theorem dX5_remove_50 : decode cX5_remove 50 = .ok (.iaload, 1) := by decide +kernel
theorem dX5_remove_51 : decode cX5_remove 51 = .ok (.iastore, 1) := by decide +kernel
theorem dX5_remove_52 : decode cX5_remove 52 = .ok (.iinc 3 1, 3) := by decide +kernel
theorem dX5_remove_55 : decode cX5_remove 55 = .ok (.goto (-35), 3) := by decide +kernel
theorem dX5_remove_58 : decode cX5_remove 58 = .ok (.return_, 1) := by decide +kernel
theorem dX5_few_0 : decode cX5_few 0 = .ok (.iload_n 0, 1) := by decide +kernel
theorem dX5_few_1 : decode cX5_few 1 = .ok (.bipush 99, 2) := by decide +kernel
theorem dX5_few_3 : decode cX5_few 3 = .ok (.if_icmp .le 8, 3) := by decide +kernel
theorem dX5_few_6 : decode cX5_few 6 = .ok (.bipush 99, 2) := by decide +kernel
theorem dX5_few_8 : decode cX5_few 8 = .ok (.goto 4, 3) := by decide +kernel
theorem dX5_few_11 : decode cX5_few 11 = .ok (.iload_n 0, 1) := by decide +kernel
theorem dX5_few_12 : decode cX5_few 12 = .ok (.ireturn, 1) := by decide +kernel
set_option maxRecDepth 20000 in
theorem ggX5_firstDue_X5_placeOf : GoodIn wsX5_firstDue wsX5_placeOf := goodIn_r _ [5] (by decide +kernel) (by decide +kernel)
set_option maxRecDepth 20000 in
theorem gX5_firstDue_X5_placeOf : GoodIn wsX5_firstDue (va_wsS RX5 136 yX5_placeOf wsX5_placeOf) := goodIn_app (goodIn_of _ (by decide +kernel)) ggX5_firstDue_X5_placeOf
theorem dX5_firstDue_0 : decode cX5_firstDue 0 = .ok (.iconst (-1), 1) := by decide +kernel
theorem dX5_firstDue_1 : decode cX5_firstDue 1 = .ok (.istore_n 2, 1) := by decide +kernel
theorem dX5_firstDue_2 : decode cX5_firstDue 2 = .ok (.iconst 0, 1) := by decide +kernel
theorem dX5_firstDue_3 : decode cX5_firstDue 3 = .ok (.istore_n 3, 1) := by decide +kernel
theorem dX5_firstDue_4 : decode cX5_firstDue 4 = .ok (.iload_n 3, 1) := by decide +kernel
theorem dX5_firstDue_5 : decode cX5_firstDue 5 = .ok (.aload_n 0, 1) := by decide +kernel
theorem dX5_firstDue_6 : decode cX5_firstDue 6 = .ok (.getfield 7, 3) := by decide +kernel
theorem dX5_firstDue_9 : decode cX5_firstDue 9 = .ok (.iload_n 1, 1) := by decide +kernel
theorem dX5_firstDue_10 : decode cX5_firstDue 10 = .ok (.bipush 14, 2) := by decide +kernel
theorem dX5_firstDue_12 : decode cX5_firstDue 12 = .ok (.iadd, 1) := by decide +kernel
theorem dX5_firstDue_13 : decode cX5_firstDue 13 = .ok (.iaload, 1) := by decide +kernel
theorem dX5_firstDue_14 : decode cX5_firstDue 14 = .ok (.if_icmp .ge 45, 3) := by decide +kernel
theorem dX5_firstDue_17 : decode cX5_firstDue 17 = .ok (.iload_n 2, 1) := by decide +kernel
theorem dX5_firstDue_18 : decode cX5_firstDue 18 = .ok (.iconst (-1), 1) := by decide +kernel
theorem dX5_firstDue_19 : decode cX5_firstDue 19 = .ok (.if_icmp .eq 28, 3) := by decide +kernel
theorem dX5_firstDue_22 : decode cX5_firstDue 22 = .ok (.aload_n 0, 1) := by decide +kernel
theorem dX5_firstDue_23 : decode cX5_firstDue 23 = .ok (.getfield 7, 3) := by decide +kernel
theorem dX5_firstDue_26 : decode cX5_firstDue 26 = .ok (.iload_n 1, 1) := by decide +kernel
theorem dX5_firstDue_27 : decode cX5_firstDue 27 = .ok (.iload_n 3, 1) := by decide +kernel
theorem dX5_firstDue_28 : decode cX5_firstDue 28 = .ok (.iconst 3, 1) := by decide +kernel
theorem dX5_firstDue_29 : decode cX5_firstDue 29 = .ok (.invokestatic 136, 3) := by decide +kernel
theorem dX5_firstDue_32 : decode cX5_firstDue 32 = .ok (.iaload, 1) := by decide +kernel
theorem dX5_firstDue_33 : decode cX5_firstDue 33 = .ok (.aload_n 0, 1) := by decide +kernel
theorem dX5_firstDue_34 : decode cX5_firstDue 34 = .ok (.getfield 7, 3) := by decide +kernel
theorem dX5_firstDue_37 : decode cX5_firstDue 37 = .ok (.iload_n 1, 1) := by decide +kernel
theorem dX5_firstDue_38 : decode cX5_firstDue 38 = .ok (.iload_n 2, 1) := by decide +kernel
theorem dX5_firstDue_39 : decode cX5_firstDue 39 = .ok (.iconst 3, 1) := by decide +kernel
theorem dX5_firstDue_40 : decode cX5_firstDue 40 = .ok (.invokestatic 136, 3) := by decide +kernel
theorem dX5_firstDue_43 : decode cX5_firstDue 43 = .ok (.iaload, 1) := by decide +kernel
theorem dX5_firstDue_44 : decode cX5_firstDue 44 = .ok (.if_icmp .ge 7, 3) := by decide +kernel
theorem dX5_firstDue_47 : decode cX5_firstDue 47 = .ok (.iload_n 3, 1) := by decide +kernel
theorem dX5_firstDue_48 : decode cX5_firstDue 48 = .ok (.goto 4, 3) := by decide +kernel
theorem dX5_firstDue_51 : decode cX5_firstDue 51 = .ok (.iload_n 2, 1) := by decide +kernel
theorem dX5_firstDue_52 : decode cX5_firstDue 52 = .ok (.istore_n 2, 1) := by decide +kernel
theorem dX5_firstDue_53 : decode cX5_firstDue 53 = .ok (.iinc 3 1, 3) := by decide +kernel
theorem dX5_firstDue_56 : decode cX5_firstDue 56 = .ok (.goto (-52), 3) := by decide +kernel
theorem dX5_firstDue_59 : decode cX5_firstDue 59 = .ok (.iload_n 2, 1) := by decide +kernel
theorem dX5_firstDue_60 : decode cX5_firstDue 60 = .ok (.ireturn, 1) := by decide +kernel
set_option maxRecDepth 20000 in
theorem ggX5_work_X5_firstDue : GoodIn wsX5_work wsX5_firstDue := goodIn_r _ [6, 1, 7, 8, 5, 9, 17, 18, 19, 20, 21, 22, 23, 24, 25, 26, 27, 28, 29, 30, 31, 32, 33, 34, 35, 36, 37] (by decide +kernel) (by decide +kernel)
set_option maxRecDepth 20000 in
theorem gX5_work_X5_firstDue : GoodIn wsX5_work (wsV RX5 151 RX5 yX5_firstDue wsX5_firstDue) := goodIn_app (goodIn_of _ (by decide +kernel)) ggX5_work_X5_firstDue
set_option maxRecDepth 20000 in
theorem ggX5_work_X5_placeOf : GoodIn wsX5_work wsX5_placeOf := goodIn_r _ [9] (by decide +kernel) (by decide +kernel)
set_option maxRecDepth 20000 in
theorem gX5_work_X5_placeOf : GoodIn wsX5_work (va_wsS RX5 136 yX5_placeOf wsX5_placeOf) := goodIn_app (goodIn_of _ (by decide +kernel)) ggX5_work_X5_placeOf
set_option maxRecDepth 20000 in
theorem ggX5_work_X5_few : GoodIn wsX5_work wsX5_few := goodIn_r _ [12] (by decide +kernel) (by decide +kernel)
set_option maxRecDepth 20000 in
theorem gX5_work_X5_few : GoodIn wsX5_work (va_wsS RX5 154 yX5_few wsX5_few) := goodIn_app (goodIn_of _ (by decide +kernel)) ggX5_work_X5_few
set_option maxRecDepth 20000 in
theorem ggX5_work_X5_remove : GoodIn wsX5_work wsX5_remove := goodIn_r _ [16, 1, 7, 8, 5, 9, 17, 18, 19, 20, 21, 22, 23, 24, 25, 26, 27, 28, 29, 30, 31, 32, 33, 34, 35, 36, 37] (by decide +kernel) (by decide +kernel)
set_option maxRecDepth 20000 in
theorem gX5_work_X5_remove : GoodIn wsX5_work (wsV RX5 157 RX5 yX5_remove wsX5_remove) := goodIn_app (goodIn_of _ (by decide +kernel)) ggX5_work_X5_remove
theorem dX5_work_0 : decode cX5_work 0 = .ok (.bipush 100, 2) := by decide +kernel
theorem dX5_work_2 : decode cX5_work 2 = .ok (.iload_n 2, 1) := by decide +kernel
theorem dX5_work_3 : decode cX5_work 3 = .ok (.imul, 1) := by decide +kernel
theorem dX5_work_4 : decode cX5_work 4 = .ok (.istore_n 3, 1) := by decide +kernel
theorem dX5_work_5 : decode cX5_work 5 = .ok (.aload_n 0, 1) := by decide +kernel
theorem dX5_work_6 : decode cX5_work 6 = .ok (.iload_n 1, 1) := by decide +kernel
theorem dX5_work_7 : decode cX5_work 7 = .ok (.invokevirtual 151, 3) := by decide +kernel
theorem dX5_work_10 : decode cX5_work 10 = .ok (.istore 4, 2) := by decide +kernel
theorem dX5_work_12 : decode cX5_work 12 = .ok (.iload 4, 2) := by decide +kernel
theorem dX5_work_14 : decode cX5_work 14 = .ok (.iconst (-1), 1) := by decide +kernel
theorem dX5_work_15 : decode cX5_work 15 = .ok (.if_icmp .eq 133, 3) := by decide +kernel
theorem dX5_work_18 : decode cX5_work 18 = .ok (.iload_n 3, 1) := by decide +kernel
theorem dX5_work_19 : decode cX5_work 19 = .ok (.ifCond .le 129, 3) := by decide +kernel
theorem dX5_work_22 : decode cX5_work 22 = .ok (.aload_n 0, 1) := by decide +kernel
theorem dX5_work_23 : decode cX5_work 23 = .ok (.getfield 7, 3) := by decide +kernel
theorem dX5_work_26 : decode cX5_work 26 = .ok (.iload_n 1, 1) := by decide +kernel
theorem dX5_work_27 : decode cX5_work 27 = .ok (.iload 4, 2) := by decide +kernel
theorem dX5_work_29 : decode cX5_work 29 = .ok (.iconst 2, 1) := by decide +kernel
theorem dX5_work_30 : decode cX5_work 30 = .ok (.invokestatic 136, 3) := by decide +kernel
theorem dX5_work_33 : decode cX5_work 33 = .ok (.iaload, 1) := by decide +kernel
theorem dX5_work_34 : decode cX5_work 34 = .ok (.istore 5, 2) := by decide +kernel
theorem dX5_work_36 : decode cX5_work 36 = .ok (.iload 5, 2) := by decide +kernel
theorem dX5_work_38 : decode cX5_work 38 = .ok (.iload_n 3, 1) := by decide +kernel
theorem dX5_work_39 : decode cX5_work 39 = .ok (.if_icmp .ge 8, 3) := by decide +kernel
theorem dX5_work_42 : decode cX5_work 42 = .ok (.iload 5, 2) := by decide +kernel
theorem dX5_work_44 : decode cX5_work 44 = .ok (.goto 4, 3) := by decide +kernel
theorem dX5_work_47 : decode cX5_work 47 = .ok (.iload_n 3, 1) := by decide +kernel
theorem dX5_work_48 : decode cX5_work 48 = .ok (.istore 6, 2) := by decide +kernel
theorem dX5_work_50 : decode cX5_work 50 = .ok (.iload_n 3, 1) := by decide +kernel
theorem dX5_work_51 : decode cX5_work 51 = .ok (.iload 6, 2) := by decide +kernel
theorem dX5_work_53 : decode cX5_work 53 = .ok (.isub, 1) := by decide +kernel
theorem dX5_work_54 : decode cX5_work 54 = .ok (.istore_n 3, 1) := by decide +kernel
theorem dX5_work_55 : decode cX5_work 55 = .ok (.aload_n 0, 1) := by decide +kernel
theorem dX5_work_56 : decode cX5_work 56 = .ok (.getfield 7, 3) := by decide +kernel
theorem dX5_work_59 : decode cX5_work 59 = .ok (.iload_n 1, 1) := by decide +kernel
theorem dX5_work_60 : decode cX5_work 60 = .ok (.iload 4, 2) := by decide +kernel
theorem dX5_work_62 : decode cX5_work 62 = .ok (.iconst 2, 1) := by decide +kernel
theorem dX5_work_63 : decode cX5_work 63 = .ok (.invokestatic 136, 3) := by decide +kernel
theorem dX5_work_66 : decode cX5_work 66 = .ok (.dup2, 1) := by decide +kernel
theorem dX5_work_67 : decode cX5_work 67 = .ok (.iaload, 1) := by decide +kernel
theorem dX5_work_68 : decode cX5_work 68 = .ok (.iload 6, 2) := by decide +kernel
theorem dX5_work_70 : decode cX5_work 70 = .ok (.isub, 1) := by decide +kernel
theorem dX5_work_71 : decode cX5_work 71 = .ok (.iastore, 1) := by decide +kernel
theorem dX5_work_72 : decode cX5_work 72 = .ok (.iload 6, 2) := by decide +kernel
theorem dX5_work_74 : decode cX5_work 74 = .ok (.iload 5, 2) := by decide +kernel
theorem dX5_work_76 : decode cX5_work 76 = .ok (.if_icmp .ne 62, 3) := by decide +kernel
theorem dX5_work_79 : decode cX5_work 79 = .ok (.aload_n 0, 1) := by decide +kernel
theorem dX5_work_80 : decode cX5_work 80 = .ok (.getfield 7, 3) := by decide +kernel
theorem dX5_work_83 : decode cX5_work 83 = .ok (.iload_n 1, 1) := by decide +kernel
theorem dX5_work_84 : decode cX5_work 84 = .ok (.iload 4, 2) := by decide +kernel
theorem dX5_work_86 : decode cX5_work 86 = .ok (.iconst 0, 1) := by decide +kernel
theorem dX5_work_87 : decode cX5_work 87 = .ok (.invokestatic 136, 3) := by decide +kernel
theorem dX5_work_90 : decode cX5_work 90 = .ok (.iaload, 1) := by decide +kernel
theorem dX5_work_91 : decode cX5_work 91 = .ok (.istore 7, 2) := by decide +kernel
theorem dX5_work_93 : decode cX5_work 93 = .ok (.aload_n 0, 1) := by decide +kernel
theorem dX5_work_94 : decode cX5_work 94 = .ok (.getfield 7, 3) := by decide +kernel
theorem dX5_work_97 : decode cX5_work 97 = .ok (.iload_n 1, 1) := by decide +kernel
theorem dX5_work_98 : decode cX5_work 98 = .ok (.iconst 2, 1) := by decide +kernel
theorem dX5_work_99 : decode cX5_work 99 = .ok (.iadd, 1) := by decide +kernel
theorem dX5_work_100 : decode cX5_work 100 = .ok (.iload 7, 2) := by decide +kernel
theorem dX5_work_102 : decode cX5_work 102 = .ok (.iadd, 1) := by decide +kernel
theorem dX5_work_103 : decode cX5_work 103 = .ok (.aload_n 0, 1) := by decide +kernel
theorem dX5_work_104 : decode cX5_work 104 = .ok (.getfield 7, 3) := by decide +kernel
theorem dX5_work_107 : decode cX5_work 107 = .ok (.iload_n 1, 1) := by decide +kernel
theorem dX5_work_108 : decode cX5_work 108 = .ok (.iconst 2, 1) := by decide +kernel
theorem dX5_work_109 : decode cX5_work 109 = .ok (.iadd, 1) := by decide +kernel
theorem dX5_work_110 : decode cX5_work 110 = .ok (.iload 7, 2) := by decide +kernel
theorem dX5_work_112 : decode cX5_work 112 = .ok (.iadd, 1) := by decide +kernel
theorem dX5_work_113 : decode cX5_work 113 = .ok (.iaload, 1) := by decide +kernel
theorem dX5_work_114 : decode cX5_work 114 = .ok (.aload_n 0, 1) := by decide +kernel
theorem dX5_work_115 : decode cX5_work 115 = .ok (.getfield 7, 3) := by decide +kernel
theorem dX5_work_118 : decode cX5_work 118 = .ok (.iload_n 1, 1) := by decide +kernel
theorem dX5_work_119 : decode cX5_work 119 = .ok (.iload 4, 2) := by decide +kernel
theorem dX5_work_121 : decode cX5_work 121 = .ok (.iconst 1, 1) := by decide +kernel
theorem dX5_work_122 : decode cX5_work 122 = .ok (.invokestatic 136, 3) := by decide +kernel
theorem dX5_work_125 : decode cX5_work 125 = .ok (.iaload, 1) := by decide +kernel
theorem dX5_work_126 : decode cX5_work 126 = .ok (.iadd, 1) := by decide +kernel
theorem dX5_work_127 : decode cX5_work 127 = .ok (.invokestatic 154, 3) := by decide +kernel
theorem dX5_work_130 : decode cX5_work 130 = .ok (.iastore, 1) := by decide +kernel
theorem dX5_work_131 : decode cX5_work 131 = .ok (.aload_n 0, 1) := by decide +kernel
theorem dX5_work_132 : decode cX5_work 132 = .ok (.iload_n 1, 1) := by decide +kernel
theorem dX5_work_133 : decode cX5_work 133 = .ok (.iload 4, 2) := by decide +kernel
theorem dX5_work_135 : decode cX5_work 135 = .ok (.invokevirtual 157, 3) := by decide +kernel
theorem dX5_work_138 : decode cX5_work 138 = .ok (.aload_n 0, 1) := by decide +kernel
theorem dX5_work_139 : decode cX5_work 139 = .ok (.iload_n 1, 1) := by decide +kernel
theorem dX5_work_140 : decode cX5_work 140 = .ok (.invokevirtual 151, 3) := by decide +kernel
theorem dX5_work_143 : decode cX5_work 143 = .ok (.istore 4, 2) := by decide +kernel
theorem dX5_work_145 : decode cX5_work 145 = .ok (.goto (-133), 3) := by decide +kernel
theorem dX5_work_148 : decode cX5_work 148 = .ok (.return_, 1) := by decide +kernel
set_option maxRecDepth 20000 in
theorem ggX5_day_X5_placeOf : GoodIn wsX5_day wsX5_placeOf := goodIn_r _ [5] (by decide +kernel) (by decide +kernel)
set_option maxRecDepth 20000 in
theorem gX5_day_X5_placeOf : GoodIn wsX5_day (va_wsS RX5 136 yX5_placeOf wsX5_placeOf) := goodIn_app (goodIn_of _ (by decide +kernel)) ggX5_day_X5_placeOf
set_option maxRecDepth 20000 in
theorem ggX5_day_X5_grown : GoodIn wsX5_day wsX5_grown := goodIn_r _ [9, 10, 11, 12, 28, 29, 30, 31, 32, 33, 34, 35, 36, 37, 38, 39, 40, 41, 42, 43, 44, 45, 46, 47, 48] (by decide +kernel) (by decide +kernel)
set_option maxRecDepth 20000 in
theorem gX5_day_X5_grown : GoodIn wsX5_day (wsV RX5 160 RX5 yX5_grown wsX5_grown) := goodIn_app (goodIn_of _ (by decide +kernel)) ggX5_day_X5_grown
set_option maxRecDepth 20000 in
theorem ggX5_day_X5_work : GoodIn wsX5_day wsX5_work := goodIn_r _ [16, 1, 17, 18, 19, 4, 20, 2, 3, 5, 21, 22, 23, 24, 25, 26, 27, 28, 29, 30, 31, 32, 33, 34, 35, 36, 37, 38, 39, 40, 41, 42, 43, 44, 45, 46, 47, 48] (by decide +kernel) (by decide +kernel)
set_option maxRecDepth 20000 in
theorem gX5_day_X5_work : GoodIn wsX5_day (wsV RX5 163 RX5 yX5_work wsX5_work) := goodIn_app (goodIn_of _ (by decide +kernel)) ggX5_day_X5_work
theorem dX5_day_0 : decode cX5_day 0 = .ok (.iconst 0, 1) := by decide +kernel
theorem dX5_day_1 : decode cX5_day 1 = .ok (.istore_n 3, 1) := by decide +kernel
theorem dX5_day_2 : decode cX5_day 2 = .ok (.iload_n 3, 1) := by decide +kernel
theorem dX5_day_3 : decode cX5_day 3 = .ok (.aload_n 0, 1) := by decide +kernel
theorem dX5_day_4 : decode cX5_day 4 = .ok (.getfield 7, 3) := by decide +kernel
theorem dX5_day_7 : decode cX5_day 7 = .ok (.iload_n 1, 1) := by decide +kernel
theorem dX5_day_8 : decode cX5_day 8 = .ok (.bipush 14, 2) := by decide +kernel
theorem dX5_day_10 : decode cX5_day 10 = .ok (.iadd, 1) := by decide +kernel
theorem dX5_day_11 : decode cX5_day 11 = .ok (.iaload, 1) := by decide +kernel
theorem dX5_day_12 : decode cX5_day 12 = .ok (.if_icmp .ge 57, 3) := by decide +kernel
theorem dX5_day_15 : decode cX5_day 15 = .ok (.aload_n 0, 1) := by decide +kernel
theorem dX5_day_16 : decode cX5_day 16 = .ok (.getfield 7, 3) := by decide +kernel
theorem dX5_day_19 : decode cX5_day 19 = .ok (.iload_n 1, 1) := by decide +kernel
theorem dX5_day_20 : decode cX5_day 20 = .ok (.iload_n 3, 1) := by decide +kernel
theorem dX5_day_21 : decode cX5_day 21 = .ok (.iconst 2, 1) := by decide +kernel
theorem dX5_day_22 : decode cX5_day 22 = .ok (.invokestatic 136, 3) := by decide +kernel
theorem dX5_day_25 : decode cX5_day 25 = .ok (.aload_n 0, 1) := by decide +kernel
theorem dX5_day_26 : decode cX5_day 26 = .ok (.aload_n 0, 1) := by decide +kernel
theorem dX5_day_27 : decode cX5_day 27 = .ok (.getfield 7, 3) := by decide +kernel
theorem dX5_day_30 : decode cX5_day 30 = .ok (.iload_n 1, 1) := by decide +kernel
theorem dX5_day_31 : decode cX5_day 31 = .ok (.iload_n 3, 1) := by decide +kernel
theorem dX5_day_32 : decode cX5_day 32 = .ok (.iconst 0, 1) := by decide +kernel
theorem dX5_day_33 : decode cX5_day 33 = .ok (.invokestatic 136, 3) := by decide +kernel
theorem dX5_day_36 : decode cX5_day 36 = .ok (.iaload, 1) := by decide +kernel
theorem dX5_day_37 : decode cX5_day 37 = .ok (.aload_n 0, 1) := by decide +kernel
theorem dX5_day_38 : decode cX5_day 38 = .ok (.getfield 7, 3) := by decide +kernel
theorem dX5_day_41 : decode cX5_day 41 = .ok (.iload_n 1, 1) := by decide +kernel
theorem dX5_day_42 : decode cX5_day 42 = .ok (.iload_n 3, 1) := by decide +kernel
theorem dX5_day_43 : decode cX5_day 43 = .ok (.iconst 2, 1) := by decide +kernel
theorem dX5_day_44 : decode cX5_day 44 = .ok (.invokestatic 136, 3) := by decide +kernel
theorem dX5_day_47 : decode cX5_day 47 = .ok (.iaload, 1) := by decide +kernel
theorem dX5_day_48 : decode cX5_day 48 = .ok (.aload_n 0, 1) := by decide +kernel
theorem dX5_day_49 : decode cX5_day 49 = .ok (.getfield 7, 3) := by decide +kernel
theorem dX5_day_52 : decode cX5_day 52 = .ok (.iload_n 1, 1) := by decide +kernel
theorem dX5_day_53 : decode cX5_day 53 = .ok (.iload_n 3, 1) := by decide +kernel
theorem dX5_day_54 : decode cX5_day 54 = .ok (.iconst 1, 1) := by decide +kernel
theorem dX5_day_55 : decode cX5_day 55 = .ok (.invokestatic 136, 3) := by decide +kernel
theorem dX5_day_58 : decode cX5_day 58 = .ok (.iaload, 1) := by decide +kernel
theorem dX5_day_59 : decode cX5_day 59 = .ok (.invokevirtual 160, 3) := by decide +kernel
theorem dX5_day_62 : decode cX5_day 62 = .ok (.iastore, 1) := by decide +kernel
theorem dX5_day_63 : decode cX5_day 63 = .ok (.iinc 3 1, 3) := by decide +kernel
theorem dX5_day_66 : decode cX5_day 66 = .ok (.goto (-64), 3) := by decide +kernel
theorem dX5_day_69 : decode cX5_day 69 = .ok (.aload_n 0, 1) := by decide +kernel
theorem dX5_day_70 : decode cX5_day 70 = .ok (.iload_n 1, 1) := by decide +kernel
theorem dX5_day_71 : decode cX5_day 71 = .ok (.iload_n 2, 1) := by decide +kernel
theorem dX5_day_72 : decode cX5_day 72 = .ok (.invokevirtual 163, 3) := by decide +kernel
theorem dX5_day_75 : decode cX5_day 75 = .ok (.iconst 0, 1) := by decide +kernel
theorem dX5_day_76 : decode cX5_day 76 = .ok (.istore_n 3, 1) := by decide +kernel
theorem dX5_day_77 : decode cX5_day 77 = .ok (.iload_n 3, 1) := by decide +kernel
theorem dX5_day_78 : decode cX5_day 78 = .ok (.aload_n 0, 1) := by decide +kernel
theorem dX5_day_79 : decode cX5_day 79 = .ok (.getfield 7, 3) := by decide +kernel
theorem dX5_day_82 : decode cX5_day 82 = .ok (.iload_n 1, 1) := by decide +kernel
theorem dX5_day_83 : decode cX5_day 83 = .ok (.bipush 14, 2) := by decide +kernel
theorem dX5_day_85 : decode cX5_day 85 = .ok (.iadd, 1) := by decide +kernel
theorem dX5_day_86 : decode cX5_day 86 = .ok (.iaload, 1) := by decide +kernel
theorem dX5_day_87 : decode cX5_day 87 = .ok (.if_icmp .ge 97, 3) := by decide +kernel
theorem dX5_day_90 : decode cX5_day 90 = .ok (.aload_n 0, 1) := by decide +kernel
theorem dX5_day_91 : decode cX5_day 91 = .ok (.getfield 7, 3) := by decide +kernel
theorem dX5_day_94 : decode cX5_day 94 = .ok (.iload_n 1, 1) := by decide +kernel
theorem dX5_day_95 : decode cX5_day 95 = .ok (.iload_n 3, 1) := by decide +kernel
theorem dX5_day_96 : decode cX5_day 96 = .ok (.iconst 4, 1) := by decide +kernel
theorem dX5_day_97 : decode cX5_day 97 = .ok (.invokestatic 136, 3) := by decide +kernel
theorem dX5_day_100 : decode cX5_day 100 = .ok (.iaload, 1) := by decide +kernel
theorem dX5_day_101 : decode cX5_day 101 = .ok (.ifCond .ne 29, 3) := by decide +kernel
theorem dX5_day_104 : decode cX5_day 104 = .ok (.aload_n 0, 1) := by decide +kernel
theorem dX5_day_105 : decode cX5_day 105 = .ok (.getfield 7, 3) := by decide +kernel
theorem dX5_day_108 : decode cX5_day 108 = .ok (.iload_n 1, 1) := by decide +kernel
theorem dX5_day_109 : decode cX5_day 109 = .ok (.iload_n 3, 1) := by decide +kernel
theorem dX5_day_110 : decode cX5_day 110 = .ok (.iconst 3, 1) := by decide +kernel
theorem dX5_day_111 : decode cX5_day 111 = .ok (.invokestatic 136, 3) := by decide +kernel
theorem dX5_day_114 : decode cX5_day 114 = .ok (.iaload, 1) := by decide +kernel
theorem dX5_day_115 : decode cX5_day 115 = .ok (.aload_n 0, 1) := by decide +kernel
theorem dX5_day_116 : decode cX5_day 116 = .ok (.getfield 7, 3) := by decide +kernel
theorem dX5_day_119 : decode cX5_day 119 = .ok (.iload_n 1, 1) := by decide +kernel
theorem dX5_day_120 : decode cX5_day 120 = .ok (.iconst 0, 1) := by decide +kernel
theorem dX5_day_121 : decode cX5_day 121 = .ok (.iadd, 1) := by decide +kernel
theorem dX5_day_122 : decode cX5_day 122 = .ok (.iaload, 1) := by decide +kernel
theorem dX5_day_123 : decode cX5_day 123 = .ok (.if_icmp .gt 7, 3) := by decide +kernel
theorem dX5_day_126 : decode cX5_day 126 = .ok (.iconst 1, 1) := by decide +kernel
theorem dX5_day_127 : decode cX5_day 127 = .ok (.goto 4, 3) := by decide +kernel
theorem dX5_day_130 : decode cX5_day 130 = .ok (.iconst 0, 1) := by decide +kernel
theorem dX5_day_131 : decode cX5_day 131 = .ok (.istore 4, 2) := by decide +kernel
theorem dX5_day_133 : decode cX5_day 133 = .ok (.aload_n 0, 1) := by decide +kernel
theorem dX5_day_134 : decode cX5_day 134 = .ok (.getfield 7, 3) := by decide +kernel
theorem dX5_day_137 : decode cX5_day 137 = .ok (.iload_n 1, 1) := by decide +kernel
theorem dX5_day_138 : decode cX5_day 138 = .ok (.iload_n 3, 1) := by decide +kernel
theorem dX5_day_139 : decode cX5_day 139 = .ok (.iconst 4, 1) := by decide +kernel
theorem dX5_day_140 : decode cX5_day 140 = .ok (.invokestatic 136, 3) := by decide +kernel
theorem dX5_day_143 : decode cX5_day 143 = .ok (.dup2, 1) := by decide +kernel
theorem dX5_day_144 : decode cX5_day 144 = .ok (.iaload, 1) := by decide +kernel
theorem dX5_day_145 : decode cX5_day 145 = .ok (.iload 4, 2) := by decide +kernel
theorem dX5_day_147 : decode cX5_day 147 = .ok (.ifCond .eq 7, 3) := by decide +kernel
theorem dX5_day_150 : decode cX5_day 150 = .ok (.iconst 1, 1) := by decide +kernel
theorem dX5_day_151 : decode cX5_day 151 = .ok (.goto 4, 3) := by decide +kernel
theorem dX5_day_154 : decode cX5_day 154 = .ok (.iconst 0, 1) := by decide +kernel
theorem dX5_day_155 : decode cX5_day 155 = .ok (.iadd, 1) := by decide +kernel
theorem dX5_day_156 : decode cX5_day 156 = .ok (.iastore, 1) := by decide +kernel
theorem dX5_day_157 : decode cX5_day 157 = .ok (.aload_n 0, 1) := by decide +kernel
theorem dX5_day_158 : decode cX5_day 158 = .ok (.getfield 7, 3) := by decide +kernel
theorem dX5_day_161 : decode cX5_day 161 = .ok (.iload_n 1, 1) := by decide +kernel
theorem dX5_day_162 : decode cX5_day 162 = .ok (.iconst 1, 1) := by decide +kernel
theorem dX5_day_163 : decode cX5_day 163 = .ok (.iadd, 1) := by decide +kernel
theorem dX5_day_164 : decode cX5_day 164 = .ok (.dup2, 1) := by decide +kernel
theorem dX5_day_165 : decode cX5_day 165 = .ok (.iaload, 1) := by decide +kernel
theorem dX5_day_166 : decode cX5_day 166 = .ok (.iload 4, 2) := by decide +kernel
theorem dX5_day_168 : decode cX5_day 168 = .ok (.ifCond .eq 7, 3) := by decide +kernel
theorem dX5_day_171 : decode cX5_day 171 = .ok (.iconst 1, 1) := by decide +kernel
theorem dX5_day_172 : decode cX5_day 172 = .ok (.goto 4, 3) := by decide +kernel
theorem dX5_day_175 : decode cX5_day 175 = .ok (.iconst 0, 1) := by decide +kernel
theorem dX5_day_176 : decode cX5_day 176 = .ok (.iadd, 1) := by decide +kernel
theorem dX5_day_177 : decode cX5_day 177 = .ok (.iastore, 1) := by decide +kernel
theorem dX5_day_178 : decode cX5_day 178 = .ok (.iinc 3 1, 3) := by decide +kernel
theorem dX5_day_181 : decode cX5_day 181 = .ok (.goto (-104), 3) := by decide +kernel
theorem dX5_day_184 : decode cX5_day 184 = .ok (.aload_n 0, 1) := by decide +kernel
theorem dX5_day_185 : decode cX5_day 185 = .ok (.getfield 7, 3) := by decide +kernel
theorem dX5_day_188 : decode cX5_day 188 = .ok (.iload_n 1, 1) := by decide +kernel
theorem dX5_day_189 : decode cX5_day 189 = .ok (.iconst 0, 1) := by decide +kernel
theorem dX5_day_190 : decode cX5_day 190 = .ok (.iadd, 1) := by decide +kernel
theorem dX5_day_191 : decode cX5_day 191 = .ok (.dup2, 1) := by decide +kernel
theorem dX5_day_192 : decode cX5_day 192 = .ok (.iaload, 1) := by decide +kernel
theorem dX5_day_193 : decode cX5_day 193 = .ok (.iconst 1, 1) := by decide +kernel
theorem dX5_day_194 : decode cX5_day 194 = .ok (.iadd, 1) := by decide +kernel
theorem dX5_day_195 : decode cX5_day 195 = .ok (.iastore, 1) := by decide +kernel
theorem dX5_day_196 : decode cX5_day 196 = .ok (.return_, 1) := by decide +kernel
set_option maxRecDepth 20000 in
theorem ggX5_tree_X5_isTree : GoodIn wsX5_tree wsX5_isTree := goodIn_r _ [10, 11, 12, 13, 9, 14, 28, 29, 30, 31, 32, 33, 34, 35, 36, 37, 38, 39, 40, 41, 42, 43, 44, 45, 46, 47, 48] (by decide +kernel) (by decide +kernel)
set_option maxRecDepth 20000 in
theorem gX5_tree_X5_isTree : GoodIn wsX5_tree (wsV RX5 166 RX5 yX5_isTree wsX5_isTree) := goodIn_app (goodIn_of _ (by decide +kernel)) ggX5_tree_X5_isTree
set_option maxRecDepth 20000 in
theorem ggX5_tree_X5_owedTo : GoodIn wsX5_tree wsX5_owedTo := goodIn_r _ [18, 2, 19, 20, 9, 21, 28, 29, 30, 31, 32, 33, 34, 35, 36, 37, 38, 39, 40, 41, 42, 43, 44, 45, 46, 47, 48] (by decide +kernel) (by decide +kernel)
set_option maxRecDepth 20000 in
theorem gX5_tree_X5_owedTo : GoodIn wsX5_tree (wsV RX5 140 RX5 yX5_owedTo wsX5_owedTo) := goodIn_app (goodIn_of _ (by decide +kernel)) ggX5_tree_X5_owedTo
set_option maxRecDepth 20000 in
theorem ggX5_tree_X5_isCross : GoodIn wsX5_tree wsX5_isCross := goodIn_r _ [25, 26, 27, 15, 16, 17, 9, 18, 2, 19, 20, 21, 28, 29, 30, 31, 32, 33, 34, 35, 36, 37, 38, 39, 40, 41, 42, 43, 44, 45, 46, 47, 48] (by decide +kernel) (by decide +kernel)
set_option maxRecDepth 20000 in
theorem gX5_tree_X5_isCross : GoodIn wsX5_tree (wsV RX5 147 RX5 yX5_isCross wsX5_isCross) := goodIn_app (goodIn_of _ (by decide +kernel)) ggX5_tree_X5_isCross
theorem dX5_tree_0 : decode cX5_tree 0 = .ok (.aload_n 0, 1) := by decide +kernel
theorem dX5_tree_1 : decode cX5_tree 1 = .ok (.iload_n 1, 1) := by decide +kernel
theorem dX5_tree_2 : decode cX5_tree 2 = .ok (.invokevirtual 166, 3) := by decide +kernel
theorem dX5_tree_5 : decode cX5_tree 5 = .ok (.ifCond .ne 6, 3) := by decide +kernel
theorem dX5_tree_8 : decode cX5_tree 8 = .ok (.bipush (-2), 2) := by decide +kernel
theorem dX5_tree_10 : decode cX5_tree 10 = .ok (.ireturn, 1) := by decide +kernel
theorem dX5_tree_11 : decode cX5_tree 11 = .ok (.iload_n 2, 1) := by decide +kernel
theorem dX5_tree_12 : decode cX5_tree 12 = .ok (.tableswitch 116 0 7 #[48, 55, 64, 71, 78, 85, 92, 102], 48) := by decide +kernel
theorem dX5_tree_60 : decode cX5_tree 60 = .ok (.aload_n 0, 1) := by decide +kernel
theorem dX5_tree_61 : decode cX5_tree 61 = .ok (.getfield 23, 3) := by decide +kernel
theorem dX5_tree_64 : decode cX5_tree 64 = .ok (.iload_n 1, 1) := by decide +kernel
theorem dX5_tree_65 : decode cX5_tree 65 = .ok (.iaload, 1) := by decide +kernel
theorem dX5_tree_66 : decode cX5_tree 66 = .ok (.ireturn, 1) := by decide +kernel
theorem dX5_tree_67 : decode cX5_tree 67 = .ok (.aload_n 0, 1) := by decide +kernel
theorem dX5_tree_68 : decode cX5_tree 68 = .ok (.getfield 7, 3) := by decide +kernel
theorem dX5_tree_71 : decode cX5_tree 71 = .ok (.iconst 2, 1) := by decide +kernel
theorem dX5_tree_72 : decode cX5_tree 72 = .ok (.iload_n 1, 1) := by decide +kernel
theorem dX5_tree_73 : decode cX5_tree 73 = .ok (.iadd, 1) := by decide +kernel
theorem dX5_tree_74 : decode cX5_tree 74 = .ok (.iaload, 1) := by decide +kernel
theorem dX5_tree_75 : decode cX5_tree 75 = .ok (.ireturn, 1) := by decide +kernel
theorem dX5_tree_76 : decode cX5_tree 76 = .ok (.aload_n 0, 1) := by decide +kernel
theorem dX5_tree_77 : decode cX5_tree 77 = .ok (.getfield 26, 3) := by decide +kernel
theorem dX5_tree_80 : decode cX5_tree 80 = .ok (.iload_n 1, 1) := by decide +kernel
theorem dX5_tree_81 : decode cX5_tree 81 = .ok (.iaload, 1) := by decide +kernel
theorem dX5_tree_82 : decode cX5_tree 82 = .ok (.ireturn, 1) := by decide +kernel
theorem dX5_tree_83 : decode cX5_tree 83 = .ok (.aload_n 0, 1) := by decide +kernel
theorem dX5_tree_84 : decode cX5_tree 84 = .ok (.getfield 29, 3) := by decide +kernel
theorem dX5_tree_87 : decode cX5_tree 87 = .ok (.iload_n 1, 1) := by decide +kernel
theorem dX5_tree_88 : decode cX5_tree 88 = .ok (.iaload, 1) := by decide +kernel
theorem dX5_tree_89 : decode cX5_tree 89 = .ok (.ireturn, 1) := by decide +kernel
theorem dX5_tree_90 : decode cX5_tree 90 = .ok (.aload_n 0, 1) := by decide +kernel
theorem dX5_tree_91 : decode cX5_tree 91 = .ok (.getfield 32, 3) := by decide +kernel
theorem dX5_tree_94 : decode cX5_tree 94 = .ok (.iload_n 1, 1) := by decide +kernel
theorem dX5_tree_95 : decode cX5_tree 95 = .ok (.iaload, 1) := by decide +kernel
theorem dX5_tree_96 : decode cX5_tree 96 = .ok (.ireturn, 1) := by decide +kernel
theorem dX5_tree_97 : decode cX5_tree 97 = .ok (.aload_n 0, 1) := by decide +kernel
theorem dX5_tree_98 : decode cX5_tree 98 = .ok (.iconst 0, 1) := by decide +kernel
theorem dX5_tree_99 : decode cX5_tree 99 = .ok (.iload_n 1, 1) := by decide +kernel
theorem dX5_tree_100 : decode cX5_tree 100 = .ok (.invokevirtual 140, 3) := by decide +kernel
theorem dX5_tree_103 : decode cX5_tree 103 = .ok (.ireturn, 1) := by decide +kernel
theorem dX5_tree_104 : decode cX5_tree 104 = .ok (.aload_n 0, 1) := by decide +kernel
theorem dX5_tree_105 : decode cX5_tree 105 = .ok (.getfield 7, 3) := by decide +kernel
theorem dX5_tree_108 : decode cX5_tree 108 = .ok (.bipush 8, 2) := by decide +kernel
theorem dX5_tree_110 : decode cX5_tree 110 = .ok (.iload_n 1, 1) := by decide +kernel
theorem dX5_tree_111 : decode cX5_tree 111 = .ok (.iadd, 1) := by decide +kernel
theorem dX5_tree_112 : decode cX5_tree 112 = .ok (.iaload, 1) := by decide +kernel
theorem dX5_tree_113 : decode cX5_tree 113 = .ok (.ireturn, 1) := by decide +kernel
theorem dX5_tree_114 : decode cX5_tree 114 = .ok (.aload_n 0, 1) := by decide +kernel
theorem dX5_tree_115 : decode cX5_tree 115 = .ok (.iload_n 1, 1) := by decide +kernel
theorem dX5_tree_116 : decode cX5_tree 116 = .ok (.invokevirtual 147, 3) := by decide +kernel
theorem dX5_tree_119 : decode cX5_tree 119 = .ok (.ifCond .eq 7, 3) := by decide +kernel
theorem dX5_tree_122 : decode cX5_tree 122 = .ok (.iconst 1, 1) := by decide +kernel
theorem dX5_tree_123 : decode cX5_tree 123 = .ok (.goto 4, 3) := by decide +kernel
theorem dX5_tree_126 : decode cX5_tree 126 = .ok (.iconst 0, 1) := by decide +kernel
theorem dX5_tree_127 : decode cX5_tree 127 = .ok (.ireturn, 1) := by decide +kernel
theorem dX5_tree_128 : decode cX5_tree 128 = .ok (.bipush (-3), 2) := by decide +kernel
theorem dX5_tree_130 : decode cX5_tree 130 = .ok (.ireturn, 1) := by decide +kernel
set_option maxRecDepth 20000 in
theorem ggX5_loan_X5_in : GoodIn wsX5_loan wsX5_in := goodIn_r _ [6] (by decide +kernel) (by decide +kernel)
set_option maxRecDepth 20000 in
theorem gX5_loan_X5_in : GoodIn wsX5_loan (va_wsS RX5 50 yX5_in wsX5_in) := goodIn_app (goodIn_of _ (by decide +kernel)) ggX5_loan_X5_in
set_option maxRecDepth 20000 in
theorem ggX5_loan_X5_placeOf : GoodIn wsX5_loan wsX5_placeOf := goodIn_r _ [9] (by decide +kernel) (by decide +kernel)
set_option maxRecDepth 20000 in
theorem gX5_loan_X5_placeOf : GoodIn wsX5_loan (va_wsS RX5 136 yX5_placeOf wsX5_placeOf) := goodIn_app (goodIn_of _ (by decide +kernel)) ggX5_loan_X5_placeOf
theorem dX5_loan_0 : decode cX5_loan 0 = .ok (.iload_n 1, 1) := by decide +kernel
theorem dX5_loan_1 : decode cX5_loan 1 = .ok (.i2l, 1) := by decide +kernel
theorem dX5_loan_2 : decode cX5_loan 2 = .ok (.lconst 0, 1) := by decide +kernel
theorem dX5_loan_3 : decode cX5_loan 3 = .ok (.aload_n 0, 1) := by decide +kernel
theorem dX5_loan_4 : decode cX5_loan 4 = .ok (.getfield 7, 3) := by decide +kernel
theorem dX5_loan_7 : decode cX5_loan 7 = .ok (.bipush 14, 2) := by decide +kernel
theorem dX5_loan_9 : decode cX5_loan 9 = .ok (.iaload, 1) := by decide +kernel
theorem dX5_loan_10 : decode cX5_loan 10 = .ok (.iconst 1, 1) := by decide +kernel
theorem dX5_loan_11 : decode cX5_loan 11 = .ok (.isub, 1) := by decide +kernel
theorem dX5_loan_12 : decode cX5_loan 12 = .ok (.i2l, 1) := by decide +kernel
theorem dX5_loan_13 : decode cX5_loan 13 = .ok (.invokestatic 50, 3) := by decide +kernel
theorem dX5_loan_16 : decode cX5_loan 16 = .ok (.ifCond .ne 6, 3) := by decide +kernel
theorem dX5_loan_19 : decode cX5_loan 19 = .ok (.bipush (-2), 2) := by decide +kernel
theorem dX5_loan_21 : decode cX5_loan 21 = .ok (.ireturn, 1) := by decide +kernel
theorem dX5_loan_22 : decode cX5_loan 22 = .ok (.iload_n 2, 1) := by decide +kernel
theorem dX5_loan_23 : decode cX5_loan 23 = .ok (.i2l, 1) := by decide +kernel
theorem dX5_loan_24 : decode cX5_loan 24 = .ok (.lconst 0, 1) := by decide +kernel
theorem dX5_loan_25 : decode cX5_loan 25 = .ok (.ldc2_w 100, 3) := by decide +kernel
theorem dX5_loan_28 : decode cX5_loan 28 = .ok (.invokestatic 50, 3) := by decide +kernel
theorem dX5_loan_31 : decode cX5_loan 31 = .ok (.ifCond .eq 17, 3) := by decide +kernel
theorem dX5_loan_34 : decode cX5_loan 34 = .ok (.aload_n 0, 1) := by decide +kernel
theorem dX5_loan_35 : decode cX5_loan 35 = .ok (.getfield 7, 3) := by decide +kernel
theorem dX5_loan_38 : decode cX5_loan 38 = .ok (.iconst 0, 1) := by decide +kernel
theorem dX5_loan_39 : decode cX5_loan 39 = .ok (.iload_n 1, 1) := by decide +kernel
theorem dX5_loan_40 : decode cX5_loan 40 = .ok (.iload_n 2, 1) := by decide +kernel
theorem dX5_loan_41 : decode cX5_loan 41 = .ok (.invokestatic 136, 3) := by decide +kernel
theorem dX5_loan_44 : decode cX5_loan 44 = .ok (.iaload, 1) := by decide +kernel
theorem dX5_loan_45 : decode cX5_loan 45 = .ok (.goto 5, 3) := by decide +kernel
theorem dX5_loan_48 : decode cX5_loan 48 = .ok (.bipush (-3), 2) := by decide +kernel
theorem dX5_loan_50 : decode cX5_loan 50 = .ok (.ireturn, 1) := by decide +kernel
set_option maxRecDepth 20000 in
theorem ggX5_as_X5_isTree : GoodIn wsX5_as wsX5_isTree := goodIn_r _ [7, 8, 9, 10, 6, 11, 18, 19, 20, 21, 22, 23, 24, 25, 26, 27, 28, 29, 30, 31, 32, 33, 34, 35, 36, 37, 38] (by decide +kernel) (by decide +kernel)
set_option maxRecDepth 20000 in
theorem gX5_as_X5_isTree : GoodIn wsX5_as (wsV RX5 166 RX5 yX5_isTree wsX5_isTree) := goodIn_app (goodIn_of _ (by decide +kernel)) ggX5_as_X5_isTree
set_option maxRecDepth 20000 in
theorem ggX5_as_X5_in : GoodIn wsX5_as wsX5_in := goodIn_r _ [11] (by decide +kernel) (by decide +kernel)
set_option maxRecDepth 20000 in
theorem gX5_as_X5_in : GoodIn wsX5_as (va_wsS RX5 50 yX5_in wsX5_in) := goodIn_app (goodIn_of _ (by decide +kernel)) ggX5_as_X5_in
set_option maxRecDepth 20000 in
theorem ggX5_as_X5_grown : GoodIn wsX5_as wsX5_grown := goodIn_r _ [15, 2, 16, 17, 18, 19, 20, 21, 22, 23, 24, 25, 26, 27, 28, 29, 30, 31, 32, 33, 34, 35, 36, 37, 38] (by decide +kernel) (by decide +kernel)
set_option maxRecDepth 20000 in
theorem gX5_as_X5_grown : GoodIn wsX5_as (wsV RX5 160 RX5 yX5_grown wsX5_grown) := goodIn_app (goodIn_of _ (by decide +kernel)) ggX5_as_X5_grown
theorem dX5_as_0 : decode cX5_as 0 = .ok (.aload_n 0, 1) := by decide +kernel
theorem dX5_as_1 : decode cX5_as 1 = .ok (.iload_n 1, 1) := by decide +kernel
theorem dX5_as_2 : decode cX5_as 2 = .ok (.invokevirtual 166, 3) := by decide +kernel
theorem dX5_as_5 : decode cX5_as 5 = .ok (.ifCond .ne 6, 3) := by decide +kernel
theorem dX5_as_8 : decode cX5_as 8 = .ok (.bipush (-2), 2) := by decide +kernel
theorem dX5_as_10 : decode cX5_as 10 = .ok (.ireturn, 1) := by decide +kernel
theorem dX5_as_11 : decode cX5_as 11 = .ok (.iload_n 2, 1) := by decide +kernel
theorem dX5_as_12 : decode cX5_as 12 = .ok (.i2l, 1) := by decide +kernel
theorem dX5_as_13 : decode cX5_as 13 = .ok (.lconst 0, 1) := by decide +kernel
theorem dX5_as_14 : decode cX5_as 14 = .ok (.ldc2_w 100, 3) := by decide +kernel
theorem dX5_as_17 : decode cX5_as 17 = .ok (.invokestatic 50, 3) := by decide +kernel
theorem dX5_as_20 : decode cX5_as 20 = .ok (.ifCond .ne 6, 3) := by decide +kernel
theorem dX5_as_23 : decode cX5_as 23 = .ok (.bipush (-3), 2) := by decide +kernel
theorem dX5_as_25 : decode cX5_as 25 = .ok (.ireturn, 1) := by decide +kernel
theorem dX5_as_26 : decode cX5_as 26 = .ok (.aload_n 0, 1) := by decide +kernel
theorem dX5_as_27 : decode cX5_as 27 = .ok (.getfield 23, 3) := by decide +kernel
theorem dX5_as_30 : decode cX5_as 30 = .ok (.iload_n 1, 1) := by decide +kernel
theorem dX5_as_31 : decode cX5_as 31 = .ok (.iaload, 1) := by decide +kernel
theorem dX5_as_32 : decode cX5_as 32 = .ok (.istore_n 3, 1) := by decide +kernel
theorem dX5_as_33 : decode cX5_as 33 = .ok (.iload_n 2, 1) := by decide +kernel
theorem dX5_as_34 : decode cX5_as 34 = .ok (.ifCond .eq 43, 3) := by decide +kernel
theorem dX5_as_37 : decode cX5_as 37 = .ok (.iload_n 2, 1) := by decide +kernel
theorem dX5_as_38 : decode cX5_as 38 = .ok (.iconst 1, 1) := by decide +kernel
theorem dX5_as_39 : decode cX5_as 39 = .ok (.if_icmp .ne 8, 3) := by decide +kernel
theorem dX5_as_42 : decode cX5_as 42 = .ok (.iload_n 3, 1) := by decide +kernel
theorem dX5_as_43 : decode cX5_as 43 = .ok (.iconst 3, 1) := by decide +kernel
theorem dX5_as_44 : decode cX5_as 44 = .ok (.if_icmp .ne 33, 3) := by decide +kernel
theorem dX5_as_47 : decode cX5_as 47 = .ok (.iload_n 2, 1) := by decide +kernel
theorem dX5_as_48 : decode cX5_as 48 = .ok (.iconst 2, 1) := by decide +kernel
theorem dX5_as_49 : decode cX5_as 49 = .ok (.if_icmp .ne 8, 3) := by decide +kernel
theorem dX5_as_52 : decode cX5_as 52 = .ok (.iload_n 3, 1) := by decide +kernel
theorem dX5_as_53 : decode cX5_as 53 = .ok (.iconst 1, 1) := by decide +kernel
theorem dX5_as_54 : decode cX5_as 54 = .ok (.if_icmp .eq 23, 3) := by decide +kernel
theorem dX5_as_57 : decode cX5_as 57 = .ok (.iload_n 2, 1) := by decide +kernel
theorem dX5_as_58 : decode cX5_as 58 = .ok (.iconst 3, 1) := by decide +kernel
theorem dX5_as_59 : decode cX5_as 59 = .ok (.if_icmp .ne 8, 3) := by decide +kernel
theorem dX5_as_62 : decode cX5_as 62 = .ok (.iload_n 3, 1) := by decide +kernel
theorem dX5_as_63 : decode cX5_as 63 = .ok (.iconst 2, 1) := by decide +kernel
theorem dX5_as_64 : decode cX5_as 64 = .ok (.if_icmp .eq 13, 3) := by decide +kernel
theorem dX5_as_67 : decode cX5_as 67 = .ok (.iload_n 2, 1) := by decide +kernel
theorem dX5_as_68 : decode cX5_as 68 = .ok (.iconst 4, 1) := by decide +kernel
theorem dX5_as_69 : decode cX5_as 69 = .ok (.if_icmp .ne 12, 3) := by decide +kernel
theorem dX5_as_72 : decode cX5_as 72 = .ok (.iload_n 3, 1) := by decide +kernel
theorem dX5_as_73 : decode cX5_as 73 = .ok (.iconst 3, 1) := by decide +kernel
theorem dX5_as_74 : decode cX5_as 74 = .ok (.if_icmp .ne 7, 3) := by decide +kernel
theorem dX5_as_77 : decode cX5_as 77 = .ok (.iconst 1, 1) := by decide +kernel
theorem dX5_as_78 : decode cX5_as 78 = .ok (.goto 4, 3) := by decide +kernel
theorem dX5_as_81 : decode cX5_as 81 = .ok (.iconst 0, 1) := by decide +kernel
theorem dX5_as_82 : decode cX5_as 82 = .ok (.istore 4, 2) := by decide +kernel
theorem dX5_as_84 : decode cX5_as 84 = .ok (.iload 4, 2) := by decide +kernel
theorem dX5_as_86 : decode cX5_as 86 = .ok (.ifCond .eq 14, 3) := by decide +kernel
theorem dX5_as_89 : decode cX5_as 89 = .ok (.aload_n 0, 1) := by decide +kernel
theorem dX5_as_90 : decode cX5_as 90 = .ok (.iload_n 1, 1) := by decide +kernel
theorem dX5_as_91 : decode cX5_as 91 = .ok (.bipush 100, 2) := by decide +kernel
theorem dX5_as_93 : decode cX5_as 93 = .ok (.iconst 1, 1) := by decide +kernel
theorem dX5_as_94 : decode cX5_as 94 = .ok (.invokevirtual 160, 3) := by decide +kernel
theorem dX5_as_97 : decode cX5_as 97 = .ok (.goto 5, 3) := by decide +kernel
theorem dX5_as_100 : decode cX5_as 100 = .ok (.bipush (-4), 2) := by decide +kernel
theorem dX5_as_102 : decode cX5_as 102 = .ok (.ireturn, 1) := by decide +kernel
set_option maxRecDepth 20000 in
theorem ggX5_borrow_X5_isTree : GoodIn wsX5_borrow wsX5_isTree := goodIn_r _ [9, 10, 11, 12, 8, 13, 35, 36, 37, 38, 39, 40, 41, 42, 43, 44, 45, 46, 47, 48, 49, 50, 51, 52, 53, 54, 55] (by decide +kernel) (by decide +kernel)
set_option maxRecDepth 20000 in
theorem gX5_borrow_X5_isTree : GoodIn wsX5_borrow (wsV RX5 166 RX5 yX5_isTree wsX5_isTree) := goodIn_app (goodIn_of _ (by decide +kernel)) ggX5_borrow_X5_isTree
set_option maxRecDepth 20000 in
theorem ggX5_borrow_X5_in : GoodIn wsX5_borrow wsX5_in := goodIn_r _ [13] (by decide +kernel) (by decide +kernel)
set_option maxRecDepth 20000 in
theorem gX5_borrow_X5_in : GoodIn wsX5_borrow (va_wsS RX5 50 yX5_in wsX5_in) := goodIn_app (goodIn_of _ (by decide +kernel)) ggX5_borrow_X5_in
set_option maxRecDepth 20000 in
theorem ggX5_borrow_X5_lends : GoodIn wsX5_borrow wsX5_lends := goodIn_r _ [17, 18, 19, 20, 8, 21, 2, 22, 23, 24, 25, 26, 27, 28, 29, 30, 31, 32, 33, 34, 35, 36, 37, 38, 39, 40, 41, 42, 43, 44, 45, 46, 47, 48, 49, 50, 51, 52, 53, 54, 55] (by decide +kernel) (by decide +kernel)
set_option maxRecDepth 20000 in
theorem gX5_borrow_X5_lends : GoodIn wsX5_borrow (wsV RX5 171 RX5 yX5_lends wsX5_lends) := goodIn_app (goodIn_of _ (by decide +kernel)) ggX5_borrow_X5_lends
set_option maxRecDepth 20000 in
theorem ggX5_borrow_X5_placeOf : GoodIn wsX5_borrow wsX5_placeOf := goodIn_r _ [34] (by decide +kernel) (by decide +kernel)
set_option maxRecDepth 20000 in
theorem gX5_borrow_X5_placeOf : GoodIn wsX5_borrow (va_wsS RX5 136 yX5_placeOf wsX5_placeOf) := goodIn_app (goodIn_of _ (by decide +kernel)) ggX5_borrow_X5_placeOf
theorem dX5_borrow_0 : decode cX5_borrow 0 = .ok (.aload_n 0, 1) := by decide +kernel
theorem dX5_borrow_1 : decode cX5_borrow 1 = .ok (.iload_n 1, 1) := by decide +kernel
theorem dX5_borrow_2 : decode cX5_borrow 2 = .ok (.invokevirtual 166, 3) := by decide +kernel
theorem dX5_borrow_5 : decode cX5_borrow 5 = .ok (.ifCond .ne 6, 3) := by decide +kernel
theorem dX5_borrow_8 : decode cX5_borrow 8 = .ok (.bipush (-2), 2) := by decide +kernel
theorem dX5_borrow_10 : decode cX5_borrow 10 = .ok (.ireturn, 1) := by decide +kernel
theorem dX5_borrow_11 : decode cX5_borrow 11 = .ok (.iload_n 2, 1) := by decide +kernel
theorem dX5_borrow_12 : decode cX5_borrow 12 = .ok (.i2l, 1) := by decide +kernel
theorem dX5_borrow_13 : decode cX5_borrow 13 = .ok (.lconst 1, 1) := by decide +kernel
theorem dX5_borrow_14 : decode cX5_borrow 14 = .ok (.ldc2_w 169, 3) := by decide +kernel
theorem dX5_borrow_17 : decode cX5_borrow 17 = .ok (.invokestatic 50, 3) := by decide +kernel
theorem dX5_borrow_20 : decode cX5_borrow 20 = .ok (.ifCond .ne 6, 3) := by decide +kernel
theorem dX5_borrow_23 : decode cX5_borrow 23 = .ok (.bipush (-3), 2) := by decide +kernel
theorem dX5_borrow_25 : decode cX5_borrow 25 = .ok (.ireturn, 1) := by decide +kernel
theorem dX5_borrow_26 : decode cX5_borrow 26 = .ok (.aload_n 0, 1) := by decide +kernel
theorem dX5_borrow_27 : decode cX5_borrow 27 = .ok (.iload_n 1, 1) := by decide +kernel
theorem dX5_borrow_28 : decode cX5_borrow 28 = .ok (.invokevirtual 171, 3) := by decide +kernel
theorem dX5_borrow_31 : decode cX5_borrow 31 = .ok (.ifCond .eq 15, 3) := by decide +kernel
theorem dX5_borrow_34 : decode cX5_borrow 34 = .ok (.aload_n 0, 1) := by decide +kernel
theorem dX5_borrow_35 : decode cX5_borrow 35 = .ok (.getfield 7, 3) := by decide +kernel
theorem dX5_borrow_38 : decode cX5_borrow 38 = .ok (.iconst 2, 1) := by decide +kernel
theorem dX5_borrow_39 : decode cX5_borrow 39 = .ok (.iload_n 1, 1) := by decide +kernel
theorem dX5_borrow_40 : decode cX5_borrow 40 = .ok (.iadd, 1) := by decide +kernel
theorem dX5_borrow_41 : decode cX5_borrow 41 = .ok (.iaload, 1) := by decide +kernel
theorem dX5_borrow_42 : decode cX5_borrow 42 = .ok (.iload_n 2, 1) := by decide +kernel
theorem dX5_borrow_43 : decode cX5_borrow 43 = .ok (.if_icmp .ge 6, 3) := by decide +kernel
theorem dX5_borrow_46 : decode cX5_borrow 46 = .ok (.bipush (-4), 2) := by decide +kernel
theorem dX5_borrow_48 : decode cX5_borrow 48 = .ok (.ireturn, 1) := by decide +kernel
theorem dX5_borrow_49 : decode cX5_borrow 49 = .ok (.aload_n 0, 1) := by decide +kernel
theorem dX5_borrow_50 : decode cX5_borrow 50 = .ok (.getfield 7, 3) := by decide +kernel
theorem dX5_borrow_53 : decode cX5_borrow 53 = .ok (.bipush 14, 2) := by decide +kernel
theorem dX5_borrow_55 : decode cX5_borrow 55 = .ok (.iaload, 1) := by decide +kernel
theorem dX5_borrow_56 : decode cX5_borrow 56 = .ok (.istore_n 3, 1) := by decide +kernel
theorem dX5_borrow_57 : decode cX5_borrow 57 = .ok (.iload_n 3, 1) := by decide +kernel
theorem dX5_borrow_58 : decode cX5_borrow 58 = .ok (.bipush 12, 2) := by decide +kernel
theorem dX5_borrow_60 : decode cX5_borrow 60 = .ok (.if_icmp .ne 6, 3) := by decide +kernel
theorem dX5_borrow_63 : decode cX5_borrow 63 = .ok (.bipush (-5), 2) := by decide +kernel
theorem dX5_borrow_65 : decode cX5_borrow 65 = .ok (.ireturn, 1) := by decide +kernel
theorem dX5_borrow_66 : decode cX5_borrow 66 = .ok (.aload_n 0, 1) := by decide +kernel
theorem dX5_borrow_67 : decode cX5_borrow 67 = .ok (.getfield 7, 3) := by decide +kernel
theorem dX5_borrow_70 : decode cX5_borrow 70 = .ok (.iconst 0, 1) := by decide +kernel
theorem dX5_borrow_71 : decode cX5_borrow 71 = .ok (.iload_n 3, 1) := by decide +kernel
theorem dX5_borrow_72 : decode cX5_borrow 72 = .ok (.iconst 0, 1) := by decide +kernel
theorem dX5_borrow_73 : decode cX5_borrow 73 = .ok (.invokestatic 136, 3) := by decide +kernel
theorem dX5_borrow_76 : decode cX5_borrow 76 = .ok (.iload_n 1, 1) := by decide +kernel
theorem dX5_borrow_77 : decode cX5_borrow 77 = .ok (.iastore, 1) := by decide +kernel
theorem dX5_borrow_78 : decode cX5_borrow 78 = .ok (.aload_n 0, 1) := by decide +kernel
theorem dX5_borrow_79 : decode cX5_borrow 79 = .ok (.getfield 7, 3) := by decide +kernel
theorem dX5_borrow_82 : decode cX5_borrow 82 = .ok (.iconst 0, 1) := by decide +kernel
theorem dX5_borrow_83 : decode cX5_borrow 83 = .ok (.iload_n 3, 1) := by decide +kernel
theorem dX5_borrow_84 : decode cX5_borrow 84 = .ok (.iconst 1, 1) := by decide +kernel
theorem dX5_borrow_85 : decode cX5_borrow 85 = .ok (.invokestatic 136, 3) := by decide +kernel
theorem dX5_borrow_88 : decode cX5_borrow 88 = .ok (.iload_n 2, 1) := by decide +kernel
theorem dX5_borrow_89 : decode cX5_borrow 89 = .ok (.iastore, 1) := by decide +kernel
theorem dX5_borrow_90 : decode cX5_borrow 90 = .ok (.aload_n 0, 1) := by decide +kernel
theorem dX5_borrow_91 : decode cX5_borrow 91 = .ok (.getfield 7, 3) := by decide +kernel
theorem dX5_borrow_94 : decode cX5_borrow 94 = .ok (.iconst 0, 1) := by decide +kernel
theorem dX5_borrow_95 : decode cX5_borrow 95 = .ok (.iload_n 3, 1) := by decide +kernel
theorem dX5_borrow_96 : decode cX5_borrow 96 = .ok (.iconst 2, 1) := by decide +kernel
theorem dX5_borrow_97 : decode cX5_borrow 97 = .ok (.invokestatic 136, 3) := by decide +kernel
theorem dX5_borrow_100 : decode cX5_borrow 100 = .ok (.bipush 100, 2) := by decide +kernel
theorem dX5_borrow_102 : decode cX5_borrow 102 = .ok (.iload_n 2, 1) := by decide +kernel
theorem dX5_borrow_103 : decode cX5_borrow 103 = .ok (.imul, 1) := by decide +kernel
theorem dX5_borrow_104 : decode cX5_borrow 104 = .ok (.iastore, 1) := by decide +kernel
theorem dX5_borrow_105 : decode cX5_borrow 105 = .ok (.aload_n 0, 1) := by decide +kernel
theorem dX5_borrow_106 : decode cX5_borrow 106 = .ok (.getfield 7, 3) := by decide +kernel
theorem dX5_borrow_109 : decode cX5_borrow 109 = .ok (.iconst 0, 1) := by decide +kernel
theorem dX5_borrow_110 : decode cX5_borrow 110 = .ok (.iload_n 3, 1) := by decide +kernel
theorem dX5_borrow_111 : decode cX5_borrow 111 = .ok (.iconst 3, 1) := by decide +kernel
theorem dX5_borrow_112 : decode cX5_borrow 112 = .ok (.invokestatic 136, 3) := by decide +kernel
theorem dX5_borrow_115 : decode cX5_borrow 115 = .ok (.aload_n 0, 1) := by decide +kernel
theorem dX5_borrow_116 : decode cX5_borrow 116 = .ok (.getfield 7, 3) := by decide +kernel
theorem dX5_borrow_119 : decode cX5_borrow 119 = .ok (.iconst 0, 1) := by decide +kernel
theorem dX5_borrow_120 : decode cX5_borrow 120 = .ok (.iaload, 1) := by decide +kernel
theorem dX5_borrow_121 : decode cX5_borrow 121 = .ok (.aload_n 0, 1) := by decide +kernel
theorem dX5_borrow_122 : decode cX5_borrow 122 = .ok (.getfield 23, 3) := by decide +kernel
theorem dX5_borrow_125 : decode cX5_borrow 125 = .ok (.iload_n 1, 1) := by decide +kernel
theorem dX5_borrow_126 : decode cX5_borrow 126 = .ok (.iaload, 1) := by decide +kernel
theorem dX5_borrow_127 : decode cX5_borrow 127 = .ok (.iconst 1, 1) := by decide +kernel
theorem dX5_borrow_128 : decode cX5_borrow 128 = .ok (.if_icmp .ne 7, 3) := by decide +kernel
theorem dX5_borrow_131 : decode cX5_borrow 131 = .ok (.iconst 1, 1) := by decide +kernel
theorem dX5_borrow_132 : decode cX5_borrow 132 = .ok (.goto 9, 3) := by decide +kernel
theorem dX5_borrow_135 : decode cX5_borrow 135 = .ok (.aload_n 0, 1) := by decide +kernel
theorem dX5_borrow_136 : decode cX5_borrow 136 = .ok (.getfield 29, 3) := by decide +kernel
theorem dX5_borrow_139 : decode cX5_borrow 139 = .ok (.iload_n 1, 1) := by decide +kernel
theorem dX5_borrow_140 : decode cX5_borrow 140 = .ok (.iaload, 1) := by decide +kernel
theorem dX5_borrow_141 : decode cX5_borrow 141 = .ok (.iadd, 1) := by decide +kernel
theorem dX5_borrow_142 : decode cX5_borrow 142 = .ok (.iastore, 1) := by decide +kernel
theorem dX5_borrow_143 : decode cX5_borrow 143 = .ok (.aload_n 0, 1) := by decide +kernel
theorem dX5_borrow_144 : decode cX5_borrow 144 = .ok (.getfield 7, 3) := by decide +kernel
theorem dX5_borrow_147 : decode cX5_borrow 147 = .ok (.iconst 0, 1) := by decide +kernel
theorem dX5_borrow_148 : decode cX5_borrow 148 = .ok (.iload_n 3, 1) := by decide +kernel
theorem dX5_borrow_149 : decode cX5_borrow 149 = .ok (.iconst 4, 1) := by decide +kernel
theorem dX5_borrow_150 : decode cX5_borrow 150 = .ok (.invokestatic 136, 3) := by decide +kernel
theorem dX5_borrow_153 : decode cX5_borrow 153 = .ok (.iconst 0, 1) := by decide +kernel
theorem dX5_borrow_154 : decode cX5_borrow 154 = .ok (.iastore, 1) := by decide +kernel
theorem dX5_borrow_155 : decode cX5_borrow 155 = .ok (.aload_n 0, 1) := by decide +kernel
theorem dX5_borrow_156 : decode cX5_borrow 156 = .ok (.getfield 7, 3) := by decide +kernel
theorem dX5_borrow_159 : decode cX5_borrow 159 = .ok (.iconst 2, 1) := by decide +kernel
theorem dX5_borrow_160 : decode cX5_borrow 160 = .ok (.iload_n 1, 1) := by decide +kernel
theorem dX5_borrow_161 : decode cX5_borrow 161 = .ok (.iadd, 1) := by decide +kernel
theorem dX5_borrow_162 : decode cX5_borrow 162 = .ok (.dup2, 1) := by decide +kernel
theorem dX5_borrow_163 : decode cX5_borrow 163 = .ok (.iaload, 1) := by decide +kernel
theorem dX5_borrow_164 : decode cX5_borrow 164 = .ok (.iload_n 2, 1) := by decide +kernel
theorem dX5_borrow_165 : decode cX5_borrow 165 = .ok (.isub, 1) := by decide +kernel
theorem dX5_borrow_166 : decode cX5_borrow 166 = .ok (.iastore, 1) := by decide +kernel
theorem dX5_borrow_167 : decode cX5_borrow 167 = .ok (.aload_n 0, 1) := by decide +kernel
theorem dX5_borrow_168 : decode cX5_borrow 168 = .ok (.getfield 7, 3) := by decide +kernel
theorem dX5_borrow_171 : decode cX5_borrow 171 = .ok (.bipush 14, 2) := by decide +kernel
theorem dX5_borrow_173 : decode cX5_borrow 173 = .ok (.dup2, 1) := by decide +kernel
theorem dX5_borrow_174 : decode cX5_borrow 174 = .ok (.iaload, 1) := by decide +kernel
theorem dX5_borrow_175 : decode cX5_borrow 175 = .ok (.iconst 1, 1) := by decide +kernel
theorem dX5_borrow_176 : decode cX5_borrow 176 = .ok (.iadd, 1) := by decide +kernel
theorem dX5_borrow_177 : decode cX5_borrow 177 = .ok (.iastore, 1) := by decide +kernel
theorem dX5_borrow_178 : decode cX5_borrow 178 = .ok (.iload_n 3, 1) := by decide +kernel
theorem dX5_borrow_179 : decode cX5_borrow 179 = .ok (.ireturn, 1) := by decide +kernel
set_option maxRecDepth 20000 in
theorem ggX5_days_X5_in : GoodIn wsX5_days wsX5_in := goodIn_r _ [7] (by decide +kernel) (by decide +kernel)
set_option maxRecDepth 20000 in
theorem gX5_days_X5_in : GoodIn wsX5_days (va_wsS RX5 50 yX5_in wsX5_in) := goodIn_app (goodIn_of _ (by decide +kernel)) ggX5_days_X5_in
set_option maxRecDepth 20000 in
theorem ggX5_days_X5_day : GoodIn wsX5_days wsX5_day := goodIn_r _ [11, 2, 12, 13, 6, 14, 15, 16, 17, 18, 19, 20, 21, 22, 23, 24, 25, 26, 27, 28, 29, 30, 31, 32, 33, 34, 35, 36, 37, 38, 39, 40, 41, 42, 43, 44, 45, 46, 47, 48, 49, 50, 51, 52, 53, 54, 55, 56, 57] (by decide +kernel) (by decide +kernel)
set_option maxRecDepth 20000 in
theorem gX5_days_X5_day : GoodIn wsX5_days (wsV RX5 174 RX5 yX5_day wsX5_day) := goodIn_app (goodIn_of _ (by decide +kernel)) ggX5_days_X5_day
theorem dX5_days_0 : decode cX5_days 0 = .ok (.iload_n 1, 1) := by decide +kernel
theorem dX5_days_1 : decode cX5_days 1 = .ok (.i2l, 1) := by decide +kernel
theorem dX5_days_2 : decode cX5_days 2 = .ok (.lconst 1, 1) := by decide +kernel
theorem dX5_days_3 : decode cX5_days 3 = .ok (.ldc2_w 169, 3) := by decide +kernel
theorem dX5_days_6 : decode cX5_days 6 = .ok (.invokestatic 50, 3) := by decide +kernel
theorem dX5_days_9 : decode cX5_days 9 = .ok (.ifCond .ne 6, 3) := by decide +kernel
theorem dX5_days_12 : decode cX5_days 12 = .ok (.bipush (-3), 2) := by decide +kernel
theorem dX5_days_14 : decode cX5_days 14 = .ok (.ireturn, 1) := by decide +kernel
theorem dX5_days_15 : decode cX5_days 15 = .ok (.aload_n 0, 1) := by decide +kernel
theorem dX5_days_16 : decode cX5_days 16 = .ok (.getfield 7, 3) := by decide +kernel
theorem dX5_days_19 : decode cX5_days 19 = .ok (.iconst 0, 1) := by decide +kernel
theorem dX5_days_20 : decode cX5_days 20 = .ok (.iaload, 1) := by decide +kernel
theorem dX5_days_21 : decode cX5_days 21 = .ok (.iload_n 1, 1) := by decide +kernel
theorem dX5_days_22 : decode cX5_days 22 = .ok (.iadd, 1) := by decide +kernel
theorem dX5_days_23 : decode cX5_days 23 = .ok (.sipush 9999, 3) := by decide +kernel
theorem dX5_days_26 : decode cX5_days 26 = .ok (.if_icmp .le 6, 3) := by decide +kernel
theorem dX5_days_29 : decode cX5_days 29 = .ok (.bipush (-5), 2) := by decide +kernel
theorem dX5_days_31 : decode cX5_days 31 = .ok (.ireturn, 1) := by decide +kernel
theorem dX5_days_32 : decode cX5_days 32 = .ok (.iconst 0, 1) := by decide +kernel
theorem dX5_days_33 : decode cX5_days 33 = .ok (.istore_n 2, 1) := by decide +kernel
theorem dX5_days_34 : decode cX5_days 34 = .ok (.iload_n 2, 1) := by decide +kernel
theorem dX5_days_35 : decode cX5_days 35 = .ok (.iload_n 1, 1) := by decide +kernel
theorem dX5_days_36 : decode cX5_days 36 = .ok (.if_icmp .ge 18, 3) := by decide +kernel
theorem dX5_days_39 : decode cX5_days 39 = .ok (.aload_n 0, 1) := by decide +kernel
theorem dX5_days_40 : decode cX5_days 40 = .ok (.iconst 0, 1) := by decide +kernel
theorem dX5_days_41 : decode cX5_days 41 = .ok (.aload_n 0, 1) := by decide +kernel
theorem dX5_days_42 : decode cX5_days 42 = .ok (.getfield 38, 3) := by decide +kernel
theorem dX5_days_45 : decode cX5_days 45 = .ok (.invokevirtual 174, 3) := by decide +kernel
theorem dX5_days_48 : decode cX5_days 48 = .ok (.iinc 2 1, 3) := by decide +kernel
theorem dX5_days_51 : decode cX5_days 51 = .ok (.goto (-17), 3) := by decide +kernel
theorem dX5_days_54 : decode cX5_days 54 = .ok (.aload_n 0, 1) := by decide +kernel
theorem dX5_days_55 : decode cX5_days 55 = .ok (.getfield 7, 3) := by decide +kernel
theorem dX5_days_58 : decode cX5_days 58 = .ok (.iconst 0, 1) := by decide +kernel
theorem dX5_days_59 : decode cX5_days 59 = .ok (.iaload, 1) := by decide +kernel
theorem dX5_days_60 : decode cX5_days 60 = .ok (.ireturn, 1) := by decide +kernel
set_option maxRecDepth 20000 in
theorem ggX5_burn_X5_placeOf : GoodIn wsX5_burn wsX5_placeOf := goodIn_r _ [5] (by decide +kernel) (by decide +kernel)
set_option maxRecDepth 20000 in
theorem gX5_burn_X5_placeOf : GoodIn wsX5_burn (va_wsS RX5 136 yX5_placeOf wsX5_placeOf) := goodIn_app (goodIn_of _ (by decide +kernel)) ggX5_burn_X5_placeOf
set_option maxRecDepth 20000 in
theorem ggX5_burn_X5_remove : GoodIn wsX5_burn wsX5_remove := goodIn_r _ [9, 1, 2, 3, 4, 5, 10, 11, 12, 13, 14, 15, 16, 17, 18, 19, 20, 21, 22, 23, 24, 25, 26, 27, 28, 29, 30] (by decide +kernel) (by decide +kernel)
set_option maxRecDepth 20000 in
theorem gX5_burn_X5_remove : GoodIn wsX5_burn (wsV RX5 157 RX5 yX5_remove wsX5_remove) := goodIn_app (goodIn_of _ (by decide +kernel)) ggX5_burn_X5_remove
theorem dX5_burn_0 : decode cX5_burn 0 = .ok (.aload_n 0, 1) := by decide +kernel
theorem dX5_burn_1 : decode cX5_burn 1 = .ok (.getfield 7, 3) := by decide +kernel
theorem dX5_burn_4 : decode cX5_burn 4 = .ok (.bipush 8, 2) := by decide +kernel
theorem dX5_burn_6 : decode cX5_burn 6 = .ok (.iload_n 1, 1) := by decide +kernel
theorem dX5_burn_7 : decode cX5_burn 7 = .ok (.iadd, 1) := by decide +kernel
theorem dX5_burn_8 : decode cX5_burn 8 = .ok (.iconst 1, 1) := by decide +kernel
theorem dX5_burn_9 : decode cX5_burn 9 = .ok (.iastore, 1) := by decide +kernel
theorem dX5_burn_10 : decode cX5_burn 10 = .ok (.aload_n 0, 1) := by decide +kernel
theorem dX5_burn_11 : decode cX5_burn 11 = .ok (.getfield 7, 3) := by decide +kernel
theorem dX5_burn_14 : decode cX5_burn 14 = .ok (.bipush 14, 2) := by decide +kernel
theorem dX5_burn_16 : decode cX5_burn 16 = .ok (.iaload, 1) := by decide +kernel
theorem dX5_burn_17 : decode cX5_burn 17 = .ok (.iconst 1, 1) := by decide +kernel
theorem dX5_burn_18 : decode cX5_burn 18 = .ok (.isub, 1) := by decide +kernel
theorem dX5_burn_19 : decode cX5_burn 19 = .ok (.istore_n 2, 1) := by decide +kernel
theorem dX5_burn_20 : decode cX5_burn 20 = .ok (.iload_n 2, 1) := by decide +kernel
theorem dX5_burn_21 : decode cX5_burn 21 = .ok (.ifCond .lt 30, 3) := by decide +kernel
theorem dX5_burn_24 : decode cX5_burn 24 = .ok (.aload_n 0, 1) := by decide +kernel
theorem dX5_burn_25 : decode cX5_burn 25 = .ok (.getfield 7, 3) := by decide +kernel
theorem dX5_burn_28 : decode cX5_burn 28 = .ok (.iconst 0, 1) := by decide +kernel
theorem dX5_burn_29 : decode cX5_burn 29 = .ok (.iload_n 2, 1) := by decide +kernel
theorem dX5_burn_30 : decode cX5_burn 30 = .ok (.iconst 0, 1) := by decide +kernel
theorem dX5_burn_31 : decode cX5_burn 31 = .ok (.invokestatic 136, 3) := by decide +kernel
theorem dX5_burn_34 : decode cX5_burn 34 = .ok (.iaload, 1) := by decide +kernel
theorem dX5_burn_35 : decode cX5_burn 35 = .ok (.iload_n 1, 1) := by decide +kernel
theorem dX5_burn_36 : decode cX5_burn 36 = .ok (.if_icmp .ne 9, 3) := by decide +kernel
theorem dX5_burn_39 : decode cX5_burn 39 = .ok (.aload_n 0, 1) := by decide +kernel
theorem dX5_burn_40 : decode cX5_burn 40 = .ok (.iconst 0, 1) := by decide +kernel
theorem dX5_burn_41 : decode cX5_burn 41 = .ok (.iload_n 2, 1) := by decide +kernel
theorem dX5_burn_42 : decode cX5_burn 42 = .ok (.invokevirtual 157, 3) := by decide +kernel
theorem dX5_burn_45 : decode cX5_burn 45 = .ok (.iinc 2 (-1), 3) := by decide +kernel
theorem dX5_burn_48 : decode cX5_burn 48 = .ok (.goto (-28), 3) := by decide +kernel
theorem dX5_burn_51 : decode cX5_burn 51 = .ok (.return_, 1) := by decide +kernel
set_option maxRecDepth 20000 in
theorem ggX5_fire_X5_in : GoodIn wsX5_fire wsX5_in := goodIn_r _ [7] (by decide +kernel) (by decide +kernel)
set_option maxRecDepth 20000 in
theorem gX5_fire_X5_in : GoodIn wsX5_fire (va_wsS RX5 50 yX5_in wsX5_in) := goodIn_app (goodIn_of _ (by decide +kernel)) ggX5_fire_X5_in
set_option maxRecDepth 20000 in
theorem ggX5_fire_X5_lives : GoodIn wsX5_fire wsX5_lives := goodIn_r _ [11, 12, 24, 25, 26, 27, 28, 29, 30, 31, 32, 33, 34, 35, 36, 37, 38, 39, 40, 41, 42, 43, 44] (by decide +kernel) (by decide +kernel)
set_option maxRecDepth 20000 in
theorem gX5_fire_X5_lives : GoodIn wsX5_fire (wsV RX5 144 RX5 yX5_lives wsX5_lives) := goodIn_app (goodIn_of _ (by decide +kernel)) ggX5_fire_X5_lives
set_option maxRecDepth 20000 in
theorem ggX5_fire_X5_burn : GoodIn wsX5_fire wsX5_burn := goodIn_r _ [16, 12, 17, 18, 6, 19, 20, 21, 22, 23, 24, 25, 26, 27, 28, 29, 30, 31, 32, 33, 34, 35, 36, 37, 38, 39, 40, 41, 42, 43, 44] (by decide +kernel) (by decide +kernel)
set_option maxRecDepth 20000 in
theorem gX5_fire_X5_burn : GoodIn wsX5_fire (wsV RX5 179 RX5 yX5_burn wsX5_burn) := goodIn_app (goodIn_of _ (by decide +kernel)) ggX5_fire_X5_burn
theorem dX5_fire_0 : decode cX5_fire 0 = .ok (.iload_n 1, 1) := by decide +kernel
theorem dX5_fire_1 : decode cX5_fire 1 = .ok (.i2l, 1) := by decide +kernel
theorem dX5_fire_2 : decode cX5_fire 2 = .ok (.lconst 0, 1) := by decide +kernel
theorem dX5_fire_3 : decode cX5_fire 3 = .ok (.ldc2_w 177, 3) := by decide +kernel
theorem dX5_fire_6 : decode cX5_fire 6 = .ok (.invokestatic 50, 3) := by decide +kernel
theorem dX5_fire_9 : decode cX5_fire 9 = .ok (.ifCond .ne 6, 3) := by decide +kernel
theorem dX5_fire_12 : decode cX5_fire 12 = .ok (.bipush (-3), 2) := by decide +kernel
theorem dX5_fire_14 : decode cX5_fire 14 = .ok (.ireturn, 1) := by decide +kernel
theorem dX5_fire_15 : decode cX5_fire 15 = .ok (.iconst 0, 1) := by decide +kernel
theorem dX5_fire_16 : decode cX5_fire 16 = .ok (.istore_n 2, 1) := by decide +kernel
theorem dX5_fire_17 : decode cX5_fire 17 = .ok (.iconst 0, 1) := by decide +kernel
theorem dX5_fire_18 : decode cX5_fire 18 = .ok (.istore_n 3, 1) := by decide +kernel
theorem dX5_fire_19 : decode cX5_fire 19 = .ok (.iload_n 3, 1) := by decide +kernel
theorem dX5_fire_20 : decode cX5_fire 20 = .ok (.aload_n 0, 1) := by decide +kernel
theorem dX5_fire_21 : decode cX5_fire 21 = .ok (.getfield 115, 3) := by decide +kernel
theorem dX5_fire_24 : decode cX5_fire 24 = .ok (.if_icmp .ge 35, 3) := by decide +kernel
theorem dX5_fire_27 : decode cX5_fire 27 = .ok (.aload_n 0, 1) := by decide +kernel
theorem dX5_fire_28 : decode cX5_fire 28 = .ok (.getfield 32, 3) := by decide +kernel
theorem dX5_fire_31 : decode cX5_fire 31 = .ok (.iload_n 3, 1) := by decide +kernel
theorem dX5_fire_32 : decode cX5_fire 32 = .ok (.iaload, 1) := by decide +kernel
theorem dX5_fire_33 : decode cX5_fire 33 = .ok (.iload_n 1, 1) := by decide +kernel
theorem dX5_fire_34 : decode cX5_fire 34 = .ok (.if_icmp .ne 19, 3) := by decide +kernel
theorem dX5_fire_37 : decode cX5_fire 37 = .ok (.aload_n 0, 1) := by decide +kernel
theorem dX5_fire_38 : decode cX5_fire 38 = .ok (.iload_n 3, 1) := by decide +kernel
theorem dX5_fire_39 : decode cX5_fire 39 = .ok (.invokevirtual 144, 3) := by decide +kernel
theorem dX5_fire_42 : decode cX5_fire 42 = .ok (.ifCond .eq 11, 3) := by decide +kernel
theorem dX5_fire_45 : decode cX5_fire 45 = .ok (.aload_n 0, 1) := by decide +kernel
theorem dX5_fire_46 : decode cX5_fire 46 = .ok (.iload_n 3, 1) := by decide +kernel
theorem dX5_fire_47 : decode cX5_fire 47 = .ok (.invokevirtual 179, 3) := by decide +kernel
theorem dX5_fire_50 : decode cX5_fire 50 = .ok (.iinc 2 1, 3) := by decide +kernel
theorem dX5_fire_53 : decode cX5_fire 53 = .ok (.iinc 3 1, 3) := by decide +kernel
theorem dX5_fire_56 : decode cX5_fire 56 = .ok (.goto (-37), 3) := by decide +kernel
theorem dX5_fire_59 : decode cX5_fire 59 = .ok (.iload_n 2, 1) := by decide +kernel
theorem dX5_fire_60 : decode cX5_fire 60 = .ok (.ireturn, 1) := by decide +kernel
set_option maxRecDepth 20000 in
theorem ggX5_sell_X5_isTree : GoodIn wsX5_sell wsX5_isTree := goodIn_r _ [6, 7, 8, 9, 5, 10, 21, 22, 23, 24, 25, 26, 27, 28, 29, 30, 31, 32, 33, 34, 35, 36, 37, 38, 39, 40, 41] (by decide +kernel) (by decide +kernel)
set_option maxRecDepth 20000 in
theorem gX5_sell_X5_isTree : GoodIn wsX5_sell (wsV RX5 166 RX5 yX5_isTree wsX5_isTree) := goodIn_app (goodIn_of _ (by decide +kernel)) ggX5_sell_X5_isTree
set_option maxRecDepth 20000 in
theorem ggX5_sell_X5_lives : GoodIn wsX5_sell wsX5_lives := goodIn_r _ [14, 1, 21, 22, 23, 24, 25, 26, 27, 28, 29, 30, 31, 32, 33, 34, 35, 36, 37, 38, 39, 40, 41] (by decide +kernel) (by decide +kernel)
set_option maxRecDepth 20000 in
theorem gX5_sell_X5_lives : GoodIn wsX5_sell (wsV RX5 144 RX5 yX5_lives wsX5_lives) := goodIn_app (goodIn_of _ (by decide +kernel)) ggX5_sell_X5_lives
set_option maxRecDepth 20000 in
theorem ggX5_sell_X5_placeOf : GoodIn wsX5_sell wsX5_placeOf := goodIn_r _ [17] (by decide +kernel) (by decide +kernel)
set_option maxRecDepth 20000 in
theorem gX5_sell_X5_placeOf : GoodIn wsX5_sell (va_wsS RX5 136 yX5_placeOf wsX5_placeOf) := goodIn_app (goodIn_of _ (by decide +kernel)) ggX5_sell_X5_placeOf
set_option maxRecDepth 20000 in
theorem ggX5_sell_X5_few : GoodIn wsX5_sell wsX5_few := goodIn_r _ [20] (by decide +kernel) (by decide +kernel)
set_option maxRecDepth 20000 in
theorem gX5_sell_X5_few : GoodIn wsX5_sell (va_wsS RX5 154 yX5_few wsX5_few) := goodIn_app (goodIn_of _ (by decide +kernel)) ggX5_sell_X5_few
theorem dX5_sell_0 : decode cX5_sell 0 = .ok (.aload_n 0, 1) := by decide +kernel
theorem dX5_sell_1 : decode cX5_sell 1 = .ok (.iload_n 1, 1) := by decide +kernel
theorem dX5_sell_2 : decode cX5_sell 2 = .ok (.invokevirtual 166, 3) := by decide +kernel
theorem dX5_sell_5 : decode cX5_sell 5 = .ok (.ifCond .eq 11, 3) := by decide +kernel
theorem dX5_sell_8 : decode cX5_sell 8 = .ok (.aload_n 0, 1) := by decide +kernel
theorem dX5_sell_9 : decode cX5_sell 9 = .ok (.iload_n 2, 1) := by decide +kernel
theorem dX5_sell_10 : decode cX5_sell 10 = .ok (.invokevirtual 166, 3) := by decide +kernel
theorem dX5_sell_13 : decode cX5_sell 13 = .ok (.ifCond .ne 6, 3) := by decide +kernel
theorem dX5_sell_16 : decode cX5_sell 16 = .ok (.bipush (-2), 2) := by decide +kernel
theorem dX5_sell_18 : decode cX5_sell 18 = .ok (.ireturn, 1) := by decide +kernel
theorem dX5_sell_19 : decode cX5_sell 19 = .ok (.iload_n 1, 1) := by decide +kernel
theorem dX5_sell_20 : decode cX5_sell 20 = .ok (.iload_n 2, 1) := by decide +kernel
theorem dX5_sell_21 : decode cX5_sell 21 = .ok (.if_icmp .ne 6, 3) := by decide +kernel
theorem dX5_sell_24 : decode cX5_sell 24 = .ok (.bipush (-3), 2) := by decide +kernel
theorem dX5_sell_26 : decode cX5_sell 26 = .ok (.ireturn, 1) := by decide +kernel
theorem dX5_sell_27 : decode cX5_sell 27 = .ok (.aload_n 0, 1) := by decide +kernel
theorem dX5_sell_28 : decode cX5_sell 28 = .ok (.iload_n 1, 1) := by decide +kernel
theorem dX5_sell_29 : decode cX5_sell 29 = .ok (.invokevirtual 144, 3) := by decide +kernel
theorem dX5_sell_32 : decode cX5_sell 32 = .ok (.ifCond .eq 11, 3) := by decide +kernel
theorem dX5_sell_35 : decode cX5_sell 35 = .ok (.aload_n 0, 1) := by decide +kernel
theorem dX5_sell_36 : decode cX5_sell 36 = .ok (.iload_n 2, 1) := by decide +kernel
theorem dX5_sell_37 : decode cX5_sell 37 = .ok (.invokevirtual 144, 3) := by decide +kernel
theorem dX5_sell_40 : decode cX5_sell 40 = .ok (.ifCond .ne 6, 3) := by decide +kernel
theorem dX5_sell_43 : decode cX5_sell 43 = .ok (.bipush (-4), 2) := by decide +kernel
theorem dX5_sell_45 : decode cX5_sell 45 = .ok (.ireturn, 1) := by decide +kernel
theorem dX5_sell_46 : decode cX5_sell 46 = .ok (.iconst 0, 1) := by decide +kernel
theorem dX5_sell_47 : decode cX5_sell 47 = .ok (.istore_n 3, 1) := by decide +kernel
theorem dX5_sell_48 : decode cX5_sell 48 = .ok (.iconst 0, 1) := by decide +kernel
theorem dX5_sell_49 : decode cX5_sell 49 = .ok (.istore 4, 2) := by decide +kernel
theorem dX5_sell_51 : decode cX5_sell 51 = .ok (.iload 4, 2) := by decide +kernel
theorem dX5_sell_53 : decode cX5_sell 53 = .ok (.aload_n 0, 1) := by decide +kernel
theorem dX5_sell_54 : decode cX5_sell 54 = .ok (.getfield 7, 3) := by decide +kernel
theorem dX5_sell_57 : decode cX5_sell 57 = .ok (.bipush 14, 2) := by decide +kernel
theorem dX5_sell_59 : decode cX5_sell 59 = .ok (.iaload, 1) := by decide +kernel
theorem dX5_sell_60 : decode cX5_sell 60 = .ok (.if_icmp .ge 78, 3) := by decide +kernel
theorem dX5_sell_63 : decode cX5_sell 63 = .ok (.aload_n 0, 1) := by decide +kernel
theorem dX5_sell_64 : decode cX5_sell 64 = .ok (.getfield 7, 3) := by decide +kernel
theorem dX5_sell_67 : decode cX5_sell 67 = .ok (.iconst 0, 1) := by decide +kernel
theorem dX5_sell_68 : decode cX5_sell 68 = .ok (.iload 4, 2) := by decide +kernel
theorem dX5_sell_70 : decode cX5_sell 70 = .ok (.iconst 0, 1) := by decide +kernel
theorem dX5_sell_71 : decode cX5_sell 71 = .ok (.invokestatic 136, 3) := by decide +kernel
theorem dX5_sell_74 : decode cX5_sell 74 = .ok (.iaload, 1) := by decide +kernel
theorem dX5_sell_75 : decode cX5_sell 75 = .ok (.iload_n 1, 1) := by decide +kernel
theorem dX5_sell_76 : decode cX5_sell 76 = .ok (.if_icmp .ne 7, 3) := by decide +kernel
theorem dX5_sell_79 : decode cX5_sell 79 = .ok (.iconst 1, 1) := by decide +kernel
theorem dX5_sell_80 : decode cX5_sell 80 = .ok (.goto 4, 3) := by decide +kernel
theorem dX5_sell_83 : decode cX5_sell 83 = .ok (.iconst 0, 1) := by decide +kernel
theorem dX5_sell_84 : decode cX5_sell 84 = .ok (.istore 5, 2) := by decide +kernel
theorem dX5_sell_86 : decode cX5_sell 86 = .ok (.aload_n 0, 1) := by decide +kernel
theorem dX5_sell_87 : decode cX5_sell 87 = .ok (.getfield 7, 3) := by decide +kernel
theorem dX5_sell_90 : decode cX5_sell 90 = .ok (.iconst 0, 1) := by decide +kernel
theorem dX5_sell_91 : decode cX5_sell 91 = .ok (.iload 4, 2) := by decide +kernel
theorem dX5_sell_93 : decode cX5_sell 93 = .ok (.iconst 0, 1) := by decide +kernel
theorem dX5_sell_94 : decode cX5_sell 94 = .ok (.invokestatic 136, 3) := by decide +kernel
theorem dX5_sell_97 : decode cX5_sell 97 = .ok (.iload 5, 2) := by decide +kernel
theorem dX5_sell_99 : decode cX5_sell 99 = .ok (.ifCond .eq 7, 3) := by decide +kernel
theorem dX5_sell_102 : decode cX5_sell 102 = .ok (.iload_n 2, 1) := by decide +kernel
theorem dX5_sell_103 : decode cX5_sell 103 = .ok (.goto 15, 3) := by decide +kernel
theorem dX5_sell_106 : decode cX5_sell 106 = .ok (.aload_n 0, 1) := by decide +kernel
theorem dX5_sell_107 : decode cX5_sell 107 = .ok (.getfield 7, 3) := by decide +kernel
theorem dX5_sell_110 : decode cX5_sell 110 = .ok (.iconst 0, 1) := by decide +kernel
theorem dX5_sell_111 : decode cX5_sell 111 = .ok (.iload 4, 2) := by decide +kernel
theorem dX5_sell_113 : decode cX5_sell 113 = .ok (.iconst 0, 1) := by decide +kernel
theorem dX5_sell_114 : decode cX5_sell 114 = .ok (.invokestatic 136, 3) := by decide +kernel
theorem dX5_sell_117 : decode cX5_sell 117 = .ok (.iaload, 1) := by decide +kernel
theorem dX5_sell_118 : decode cX5_sell 118 = .ok (.iastore, 1) := by decide +kernel
theorem dX5_sell_119 : decode cX5_sell 119 = .ok (.iload_n 3, 1) := by decide +kernel
theorem dX5_sell_120 : decode cX5_sell 120 = .ok (.iload 5, 2) := by decide +kernel
theorem dX5_sell_122 : decode cX5_sell 122 = .ok (.ifCond .eq 7, 3) := by decide +kernel
theorem dX5_sell_125 : decode cX5_sell 125 = .ok (.iconst 1, 1) := by decide +kernel
theorem dX5_sell_126 : decode cX5_sell 126 = .ok (.goto 4, 3) := by decide +kernel
theorem dX5_sell_129 : decode cX5_sell 129 = .ok (.iconst 0, 1) := by decide +kernel
theorem dX5_sell_130 : decode cX5_sell 130 = .ok (.iadd, 1) := by decide +kernel
theorem dX5_sell_131 : decode cX5_sell 131 = .ok (.istore_n 3, 1) := by decide +kernel
theorem dX5_sell_132 : decode cX5_sell 132 = .ok (.iinc 4 1, 3) := by decide +kernel
theorem dX5_sell_135 : decode cX5_sell 135 = .ok (.goto (-84), 3) := by decide +kernel
theorem dX5_sell_138 : decode cX5_sell 138 = .ok (.aload_n 0, 1) := by decide +kernel
theorem dX5_sell_139 : decode cX5_sell 139 = .ok (.getfield 7, 3) := by decide +kernel
theorem dX5_sell_142 : decode cX5_sell 142 = .ok (.iconst 2, 1) := by decide +kernel
theorem dX5_sell_143 : decode cX5_sell 143 = .ok (.iload_n 2, 1) := by decide +kernel
theorem dX5_sell_144 : decode cX5_sell 144 = .ok (.iadd, 1) := by decide +kernel
theorem dX5_sell_145 : decode cX5_sell 145 = .ok (.aload_n 0, 1) := by decide +kernel
theorem dX5_sell_146 : decode cX5_sell 146 = .ok (.getfield 7, 3) := by decide +kernel
theorem dX5_sell_149 : decode cX5_sell 149 = .ok (.iconst 2, 1) := by decide +kernel
theorem dX5_sell_150 : decode cX5_sell 150 = .ok (.iload_n 2, 1) := by decide +kernel
theorem dX5_sell_151 : decode cX5_sell 151 = .ok (.iadd, 1) := by decide +kernel
theorem dX5_sell_152 : decode cX5_sell 152 = .ok (.iaload, 1) := by decide +kernel
theorem dX5_sell_153 : decode cX5_sell 153 = .ok (.aload_n 0, 1) := by decide +kernel
theorem dX5_sell_154 : decode cX5_sell 154 = .ok (.getfield 7, 3) := by decide +kernel
theorem dX5_sell_157 : decode cX5_sell 157 = .ok (.iconst 2, 1) := by decide +kernel
theorem dX5_sell_158 : decode cX5_sell 158 = .ok (.iload_n 1, 1) := by decide +kernel
theorem dX5_sell_159 : decode cX5_sell 159 = .ok (.iadd, 1) := by decide +kernel
theorem dX5_sell_160 : decode cX5_sell 160 = .ok (.iaload, 1) := by decide +kernel
theorem dX5_sell_161 : decode cX5_sell 161 = .ok (.iadd, 1) := by decide +kernel
theorem dX5_sell_162 : decode cX5_sell 162 = .ok (.invokestatic 154, 3) := by decide +kernel
theorem dX5_sell_165 : decode cX5_sell 165 = .ok (.iastore, 1) := by decide +kernel
theorem dX5_sell_166 : decode cX5_sell 166 = .ok (.aload_n 0, 1) := by decide +kernel
theorem dX5_sell_167 : decode cX5_sell 167 = .ok (.getfield 7, 3) := by decide +kernel
theorem dX5_sell_170 : decode cX5_sell 170 = .ok (.iconst 2, 1) := by decide +kernel
theorem dX5_sell_171 : decode cX5_sell 171 = .ok (.iload_n 1, 1) := by decide +kernel
theorem dX5_sell_172 : decode cX5_sell 172 = .ok (.iadd, 1) := by decide +kernel
theorem dX5_sell_173 : decode cX5_sell 173 = .ok (.iconst 0, 1) := by decide +kernel
theorem dX5_sell_174 : decode cX5_sell 174 = .ok (.iastore, 1) := by decide +kernel
theorem dX5_sell_175 : decode cX5_sell 175 = .ok (.aload_n 0, 1) := by decide +kernel
theorem dX5_sell_176 : decode cX5_sell 176 = .ok (.getfield 7, 3) := by decide +kernel
theorem dX5_sell_179 : decode cX5_sell 179 = .ok (.bipush 8, 2) := by decide +kernel
theorem dX5_sell_181 : decode cX5_sell 181 = .ok (.iload_n 1, 1) := by decide +kernel
theorem dX5_sell_182 : decode cX5_sell 182 = .ok (.iadd, 1) := by decide +kernel
theorem dX5_sell_183 : decode cX5_sell 183 = .ok (.iconst 2, 1) := by decide +kernel
theorem dX5_sell_184 : decode cX5_sell 184 = .ok (.iastore, 1) := by decide +kernel
theorem dX5_sell_185 : decode cX5_sell 185 = .ok (.iload_n 3, 1) := by decide +kernel
theorem dX5_sell_186 : decode cX5_sell 186 = .ok (.ireturn, 1) := by decide +kernel
set_option maxRecDepth 20000 in
theorem ggX5_keep_X5_in : GoodIn wsX5_keep wsX5_in := goodIn_r _ [6] (by decide +kernel) (by decide +kernel)
set_option maxRecDepth 20000 in
theorem gX5_keep_X5_in : GoodIn wsX5_keep (va_wsS RX5 50 yX5_in wsX5_in) := goodIn_app (goodIn_of _ (by decide +kernel)) ggX5_keep_X5_in
set_option maxRecDepth 20000 in
theorem ggX5_keep_X5_copy : GoodIn wsX5_keep wsX5_copy := goodIn_r _ [10, 2, 11, 12, 13, 14, 15, 16, 17, 18, 19, 20, 21, 22, 23, 24, 25, 26, 27, 28, 29, 30, 31] (by decide +kernel) (by decide +kernel)
set_option maxRecDepth 20000 in
theorem gX5_keep_X5_copy : GoodIn wsX5_keep (wsV RX5 132 RX5 yX5_copy wsX5_copy) := goodIn_app (goodIn_of _ (by decide +kernel)) ggX5_keep_X5_copy
theorem dX5_keep_0 : decode cX5_keep 0 = .ok (.iload_n 1, 1) := by decide +kernel
theorem dX5_keep_1 : decode cX5_keep 1 = .ok (.i2l, 1) := by decide +kernel
theorem dX5_keep_2 : decode cX5_keep 2 = .ok (.lconst 0, 1) := by decide +kernel
theorem dX5_keep_3 : decode cX5_keep 3 = .ok (.lconst 1, 1) := by decide +kernel
theorem dX5_keep_4 : decode cX5_keep 4 = .ok (.invokestatic 50, 3) := by decide +kernel
theorem dX5_keep_7 : decode cX5_keep 7 = .ok (.ifCond .ne 6, 3) := by decide +kernel
theorem dX5_keep_10 : decode cX5_keep 10 = .ok (.bipush (-2), 2) := by decide +kernel
theorem dX5_keep_12 : decode cX5_keep 12 = .ok (.ireturn, 1) := by decide +kernel
theorem dX5_keep_13 : decode cX5_keep 13 = .ok (.aload_n 0, 1) := by decide +kernel
theorem dX5_keep_14 : decode cX5_keep 14 = .ok (.iconst 0, 1) := by decide +kernel
theorem dX5_keep_15 : decode cX5_keep 15 = .ok (.bipush 75, 2) := by decide +kernel
theorem dX5_keep_17 : decode cX5_keep 17 = .ok (.iconst 1, 1) := by decide +kernel
theorem dX5_keep_18 : decode cX5_keep 18 = .ok (.iload_n 1, 1) := by decide +kernel
theorem dX5_keep_19 : decode cX5_keep 19 = .ok (.iadd, 1) := by decide +kernel
theorem dX5_keep_20 : decode cX5_keep 20 = .ok (.imul, 1) := by decide +kernel
theorem dX5_keep_21 : decode cX5_keep 21 = .ok (.invokevirtual 132, 3) := by decide +kernel
theorem dX5_keep_24 : decode cX5_keep 24 = .ok (.aload_n 0, 1) := by decide +kernel
theorem dX5_keep_25 : decode cX5_keep 25 = .ok (.getfield 13, 3) := by decide +kernel
theorem dX5_keep_28 : decode cX5_keep 28 = .ok (.iload_n 1, 1) := by decide +kernel
theorem dX5_keep_29 : decode cX5_keep 29 = .ok (.iconst 1, 1) := by decide +kernel
theorem dX5_keep_30 : decode cX5_keep 30 = .ok (.bastore, 1) := by decide +kernel
theorem dX5_keep_31 : decode cX5_keep 31 = .ok (.aload_n 0, 1) := by decide +kernel
theorem dX5_keep_32 : decode cX5_keep 32 = .ok (.getfield 7, 3) := by decide +kernel
theorem dX5_keep_35 : decode cX5_keep 35 = .ok (.iconst 0, 1) := by decide +kernel
theorem dX5_keep_36 : decode cX5_keep 36 = .ok (.iaload, 1) := by decide +kernel
theorem dX5_keep_37 : decode cX5_keep 37 = .ok (.ireturn, 1) := by decide +kernel
set_option maxRecDepth 20000 in
theorem ggX5_back_X5_in : GoodIn wsX5_back wsX5_in := goodIn_r _ [6] (by decide +kernel) (by decide +kernel)
set_option maxRecDepth 20000 in
theorem gX5_back_X5_in : GoodIn wsX5_back (va_wsS RX5 50 yX5_in wsX5_in) := goodIn_app (goodIn_of _ (by decide +kernel)) ggX5_back_X5_in
set_option maxRecDepth 20000 in
theorem ggX5_back_X5_copy : GoodIn wsX5_back wsX5_copy := goodIn_r _ [10, 2, 11, 12, 13, 14, 15, 16, 17, 18, 19, 20, 21, 22, 23, 24, 25, 26, 27, 28, 29, 30, 31] (by decide +kernel) (by decide +kernel)
set_option maxRecDepth 20000 in
theorem gX5_back_X5_copy : GoodIn wsX5_back (wsV RX5 132 RX5 yX5_copy wsX5_copy) := goodIn_app (goodIn_of _ (by decide +kernel)) ggX5_back_X5_copy
theorem dX5_back_0 : decode cX5_back 0 = .ok (.iload_n 1, 1) := by decide +kernel
theorem dX5_back_1 : decode cX5_back 1 = .ok (.i2l, 1) := by decide +kernel
theorem dX5_back_2 : decode cX5_back 2 = .ok (.lconst 0, 1) := by decide +kernel
theorem dX5_back_3 : decode cX5_back 3 = .ok (.lconst 1, 1) := by decide +kernel
theorem dX5_back_4 : decode cX5_back 4 = .ok (.invokestatic 50, 3) := by decide +kernel
theorem dX5_back_7 : decode cX5_back 7 = .ok (.ifCond .ne 6, 3) := by decide +kernel
theorem dX5_back_10 : decode cX5_back 10 = .ok (.bipush (-2), 2) := by decide +kernel
theorem dX5_back_12 : decode cX5_back 12 = .ok (.ireturn, 1) := by decide +kernel
theorem dX5_back_13 : decode cX5_back 13 = .ok (.aload_n 0, 1) := by decide +kernel
theorem dX5_back_14 : decode cX5_back 14 = .ok (.getfield 13, 3) := by decide +kernel
theorem dX5_back_17 : decode cX5_back 17 = .ok (.iload_n 1, 1) := by decide +kernel
theorem dX5_back_18 : decode cX5_back 18 = .ok (.baload, 1) := by decide +kernel
theorem dX5_back_19 : decode cX5_back 19 = .ok (.ifCond .ne 6, 3) := by decide +kernel
theorem dX5_back_22 : decode cX5_back 22 = .ok (.bipush (-4), 2) := by decide +kernel
theorem dX5_back_24 : decode cX5_back 24 = .ok (.ireturn, 1) := by decide +kernel
theorem dX5_back_25 : decode cX5_back 25 = .ok (.aload_n 0, 1) := by decide +kernel
theorem dX5_back_26 : decode cX5_back 26 = .ok (.bipush 75, 2) := by decide +kernel
theorem dX5_back_28 : decode cX5_back 28 = .ok (.iconst 1, 1) := by decide +kernel
theorem dX5_back_29 : decode cX5_back 29 = .ok (.iload_n 1, 1) := by decide +kernel
theorem dX5_back_30 : decode cX5_back 30 = .ok (.iadd, 1) := by decide +kernel
theorem dX5_back_31 : decode cX5_back 31 = .ok (.imul, 1) := by decide +kernel
theorem dX5_back_32 : decode cX5_back 32 = .ok (.iconst 0, 1) := by decide +kernel
theorem dX5_back_33 : decode cX5_back 33 = .ok (.invokevirtual 132, 3) := by decide +kernel
theorem dX5_back_36 : decode cX5_back 36 = .ok (.aload_n 0, 1) := by decide +kernel
theorem dX5_back_37 : decode cX5_back 37 = .ok (.getfield 7, 3) := by decide +kernel
theorem dX5_back_40 : decode cX5_back 40 = .ok (.iconst 0, 1) := by decide +kernel
theorem dX5_back_41 : decode cX5_back 41 = .ok (.iaload, 1) := by decide +kernel
theorem dX5_back_42 : decode cX5_back 42 = .ok (.ireturn, 1) := by decide +kernel
set_option maxRecDepth 20000 in
theorem ggX5_tryDays_X5_copy : GoodIn wsX5_tryDays wsX5_copy := goodIn_r _ [5, 6, 36, 37, 38, 39, 40, 41, 42, 43, 44, 45, 46, 47, 48, 49, 50, 51, 52, 53, 54, 55, 56] (by decide +kernel) (by decide +kernel)
set_option maxRecDepth 20000 in
theorem gX5_tryDays_X5_copy : GoodIn wsX5_tryDays (wsV RX5 132 RX5 yX5_copy wsX5_copy) := goodIn_app (goodIn_of _ (by decide +kernel)) ggX5_tryDays_X5_copy
set_option maxRecDepth 20000 in
theorem ggX5_tryDays_X5_day : GoodIn wsX5_tryDays wsX5_day := goodIn_r _ [10, 6, 11, 12, 4, 13, 14, 15, 16, 17, 18, 19, 20, 21, 22, 23, 24, 25, 26, 27, 28, 29, 30, 31, 32, 33, 34, 35, 36, 37, 38, 39, 40, 41, 42, 43, 44, 45, 46, 47, 48, 49, 50, 51, 52, 53, 54, 55, 56] (by decide +kernel) (by decide +kernel)
set_option maxRecDepth 20000 in
theorem gX5_tryDays_X5_day : GoodIn wsX5_tryDays (wsV RX5 174 RX5 yX5_day wsX5_day) := goodIn_app (goodIn_of _ (by decide +kernel)) ggX5_tryDays_X5_day
theorem dX5_tryDays_0 : decode cX5_tryDays 0 = .ok (.aload_n 0, 1) := by decide +kernel
theorem dX5_tryDays_1 : decode cX5_tryDays 1 = .ok (.iconst 0, 1) := by decide +kernel
theorem dX5_tryDays_2 : decode cX5_tryDays 2 = .ok (.sipush 225, 3) := by decide +kernel
theorem dX5_tryDays_5 : decode cX5_tryDays 5 = .ok (.invokevirtual 132, 3) := by decide +kernel
theorem dX5_tryDays_8 : decode cX5_tryDays 8 = .ok (.iconst 0, 1) := by decide +kernel
theorem dX5_tryDays_9 : decode cX5_tryDays 9 = .ok (.istore_n 3, 1) := by decide +kernel
theorem dX5_tryDays_10 : decode cX5_tryDays 10 = .ok (.iload_n 3, 1) := by decide +kernel
theorem dX5_tryDays_11 : decode cX5_tryDays 11 = .ok (.iload_n 1, 1) := by decide +kernel
theorem dX5_tryDays_12 : decode cX5_tryDays 12 = .ok (.if_icmp .ge 17, 3) := by decide +kernel
theorem dX5_tryDays_15 : decode cX5_tryDays 15 = .ok (.aload_n 0, 1) := by decide +kernel
theorem dX5_tryDays_16 : decode cX5_tryDays 16 = .ok (.sipush 225, 3) := by decide +kernel
theorem dX5_tryDays_19 : decode cX5_tryDays 19 = .ok (.iload_n 2, 1) := by decide +kernel
theorem dX5_tryDays_20 : decode cX5_tryDays 20 = .ok (.invokevirtual 174, 3) := by decide +kernel
theorem dX5_tryDays_23 : decode cX5_tryDays 23 = .ok (.iinc 3 1, 3) := by decide +kernel
theorem dX5_tryDays_26 : decode cX5_tryDays 26 = .ok (.goto (-16), 3) := by decide +kernel
theorem dX5_tryDays_29 : decode cX5_tryDays 29 = .ok (.return_, 1) := by decide +kernel
set_option maxRecDepth 20000 in
theorem ggX5_later_X5_isTree : GoodIn wsX5_later wsX5_isTree := goodIn_r _ [7, 8, 9, 10, 6, 11, 54, 55, 56, 57, 58, 59, 60, 61, 62, 63, 64, 65, 66, 67, 68, 69, 70, 71, 72, 73, 74] (by decide +kernel) (by decide +kernel)
set_option maxRecDepth 20000 in
theorem gX5_later_X5_isTree : GoodIn wsX5_later (wsV RX5 166 RX5 yX5_isTree wsX5_isTree) := goodIn_app (goodIn_of _ (by decide +kernel)) ggX5_later_X5_isTree
set_option maxRecDepth 20000 in
theorem ggX5_later_X5_in : GoodIn wsX5_later wsX5_in := goodIn_r _ [11] (by decide +kernel) (by decide +kernel)
set_option maxRecDepth 20000 in
theorem gX5_later_X5_in : GoodIn wsX5_later (va_wsS RX5 50 yX5_in wsX5_in) := goodIn_app (goodIn_of _ (by decide +kernel)) ggX5_later_X5_in
set_option maxRecDepth 20000 in
theorem ggX5_later_X5_tryDays : GoodIn wsX5_later wsX5_tryDays := goodIn_r _ [15, 16, 17, 18, 6, 19, 20, 21, 22, 23, 24, 25, 26, 27, 28, 29, 30, 31, 32, 33, 34, 35, 36, 37, 38, 39, 40, 41, 42, 43, 44, 45, 46, 47, 48, 49, 54, 55, 56, 57, 58, 59, 60, 61, 62, 63, 64, 65, 66, 67, 68, 69, 70, 71, 72, 73, 74] (by decide +kernel) (by decide +kernel)
set_option maxRecDepth 20000 in
theorem gX5_later_X5_tryDays : GoodIn wsX5_later (wsV RX5 182 RX5 yX5_tryDays wsX5_tryDays) := goodIn_app (goodIn_of _ (by decide +kernel)) ggX5_later_X5_tryDays
set_option maxRecDepth 20000 in
theorem ggX5_later_X5_owedTo : GoodIn wsX5_later wsX5_owedTo := goodIn_r _ [53, 20, 25, 26, 6, 27, 54, 55, 56, 57, 58, 59, 60, 61, 62, 63, 64, 65, 66, 67, 68, 69, 70, 71, 72, 73, 74] (by decide +kernel) (by decide +kernel)
set_option maxRecDepth 20000 in
theorem gX5_later_X5_owedTo : GoodIn wsX5_later (wsV RX5 140 RX5 yX5_owedTo wsX5_owedTo) := goodIn_app (goodIn_of _ (by decide +kernel)) ggX5_later_X5_owedTo
theorem dX5_later_0 : decode cX5_later 0 = .ok (.aload_n 0, 1) := by decide +kernel
theorem dX5_later_1 : decode cX5_later 1 = .ok (.iload_n 1, 1) := by decide +kernel
theorem dX5_later_2 : decode cX5_later 2 = .ok (.invokevirtual 166, 3) := by decide +kernel
theorem dX5_later_5 : decode cX5_later 5 = .ok (.ifCond .ne 6, 3) := by decide +kernel
theorem dX5_later_8 : decode cX5_later 8 = .ok (.bipush (-2), 2) := by decide +kernel
theorem dX5_later_10 : decode cX5_later 10 = .ok (.ireturn, 1) := by decide +kernel
theorem dX5_later_11 : decode cX5_later 11 = .ok (.iload_n 2, 1) := by decide +kernel
theorem dX5_later_12 : decode cX5_later 12 = .ok (.i2l, 1) := by decide +kernel
theorem dX5_later_13 : decode cX5_later 13 = .ok (.lconst 0, 1) := by decide +kernel
theorem dX5_later_14 : decode cX5_later 14 = .ok (.ldc2_w 169, 3) := by decide +kernel
theorem dX5_later_17 : decode cX5_later 17 = .ok (.invokestatic 50, 3) := by decide +kernel
theorem dX5_later_20 : decode cX5_later 20 = .ok (.ifCond .ne 6, 3) := by decide +kernel
theorem dX5_later_23 : decode cX5_later 23 = .ok (.bipush (-3), 2) := by decide +kernel
theorem dX5_later_25 : decode cX5_later 25 = .ok (.ireturn, 1) := by decide +kernel
theorem dX5_later_26 : decode cX5_later 26 = .ok (.aload_n 0, 1) := by decide +kernel
theorem dX5_later_27 : decode cX5_later 27 = .ok (.iload_n 2, 1) := by decide +kernel
theorem dX5_later_28 : decode cX5_later 28 = .ok (.aload_n 0, 1) := by decide +kernel
theorem dX5_later_29 : decode cX5_later 29 = .ok (.getfield 38, 3) := by decide +kernel
theorem dX5_later_32 : decode cX5_later 32 = .ok (.invokevirtual 182, 3) := by decide +kernel
theorem dX5_later_35 : decode cX5_later 35 = .ok (.aload_n 0, 1) := by decide +kernel
theorem dX5_later_36 : decode cX5_later 36 = .ok (.sipush 225, 3) := by decide +kernel
theorem dX5_later_39 : decode cX5_later 39 = .ok (.iload_n 1, 1) := by decide +kernel
theorem dX5_later_40 : decode cX5_later 40 = .ok (.invokevirtual 140, 3) := by decide +kernel
theorem dX5_later_43 : decode cX5_later 43 = .ok (.ireturn, 1) := by decide +kernel
set_option maxRecDepth 20000 in
theorem ggX5_all_X5_in : GoodIn wsX5_all wsX5_in := goodIn_r _ [7] (by decide +kernel) (by decide +kernel)
set_option maxRecDepth 20000 in
theorem gX5_all_X5_in : GoodIn wsX5_all (va_wsS RX5 50 yX5_in wsX5_in) := goodIn_app (goodIn_of _ (by decide +kernel)) ggX5_all_X5_in
set_option maxRecDepth 20000 in
theorem ggX5_all_X5_tryDays : GoodIn wsX5_all wsX5_tryDays := goodIn_r _ [11, 12, 13, 14, 6, 15, 3, 16, 17, 18, 19, 20, 21, 22, 23, 24, 25, 26, 27, 28, 29, 30, 31, 32, 33, 34, 35, 36, 37, 38, 39, 40, 41, 42, 43, 44, 49, 50, 51, 52, 53, 54, 55, 56, 57, 58, 59, 60, 61, 62, 63, 64, 65, 66, 67, 68, 69] (by decide +kernel) (by decide +kernel)
set_option maxRecDepth 20000 in
theorem gX5_all_X5_tryDays : GoodIn wsX5_all (wsV RX5 182 RX5 yX5_tryDays wsX5_tryDays) := goodIn_app (goodIn_of _ (by decide +kernel)) ggX5_all_X5_tryDays
set_option maxRecDepth 20000 in
theorem ggX5_all_X5_owedAll : GoodIn wsX5_all wsX5_owedAll := goodIn_r _ [48, 3, 20, 21, 6, 22, 49, 50, 51, 52, 53, 54, 55, 56, 57, 58, 59, 60, 61, 62, 63, 64, 65, 66, 67, 68, 69] (by decide +kernel) (by decide +kernel)
set_option maxRecDepth 20000 in
theorem gX5_all_X5_owedAll : GoodIn wsX5_all (wsV RX5 185 RX5 yX5_owedAll wsX5_owedAll) := goodIn_app (goodIn_of _ (by decide +kernel)) ggX5_all_X5_owedAll
theorem dX5_all_0 : decode cX5_all 0 = .ok (.iload_n 1, 1) := by decide +kernel
theorem dX5_all_1 : decode cX5_all 1 = .ok (.i2l, 1) := by decide +kernel
theorem dX5_all_2 : decode cX5_all 2 = .ok (.lconst 0, 1) := by decide +kernel
theorem dX5_all_3 : decode cX5_all 3 = .ok (.ldc2_w 169, 3) := by decide +kernel
theorem dX5_all_6 : decode cX5_all 6 = .ok (.invokestatic 50, 3) := by decide +kernel
theorem dX5_all_9 : decode cX5_all 9 = .ok (.ifCond .eq 13, 3) := by decide +kernel
theorem dX5_all_12 : decode cX5_all 12 = .ok (.iload_n 2, 1) := by decide +kernel
theorem dX5_all_13 : decode cX5_all 13 = .ok (.i2l, 1) := by decide +kernel
theorem dX5_all_14 : decode cX5_all 14 = .ok (.lconst 0, 1) := by decide +kernel
theorem dX5_all_15 : decode cX5_all 15 = .ok (.lconst 1, 1) := by decide +kernel
theorem dX5_all_16 : decode cX5_all 16 = .ok (.invokestatic 50, 3) := by decide +kernel
theorem dX5_all_19 : decode cX5_all 19 = .ok (.ifCond .ne 6, 3) := by decide +kernel
theorem dX5_all_22 : decode cX5_all 22 = .ok (.bipush (-3), 2) := by decide +kernel
theorem dX5_all_24 : decode cX5_all 24 = .ok (.ireturn, 1) := by decide +kernel
theorem dX5_all_25 : decode cX5_all 25 = .ok (.aload_n 0, 1) := by decide +kernel
theorem dX5_all_26 : decode cX5_all 26 = .ok (.iload_n 1, 1) := by decide +kernel
theorem dX5_all_27 : decode cX5_all 27 = .ok (.aload_n 0, 1) := by decide +kernel
theorem dX5_all_28 : decode cX5_all 28 = .ok (.getfield 38, 3) := by decide +kernel
theorem dX5_all_31 : decode cX5_all 31 = .ok (.invokevirtual 182, 3) := by decide +kernel
theorem dX5_all_34 : decode cX5_all 34 = .ok (.iload_n 2, 1) := by decide +kernel
theorem dX5_all_35 : decode cX5_all 35 = .ok (.ifCond .ne 13, 3) := by decide +kernel
theorem dX5_all_38 : decode cX5_all 38 = .ok (.aload_n 0, 1) := by decide +kernel
theorem dX5_all_39 : decode cX5_all 39 = .ok (.sipush 225, 3) := by decide +kernel
theorem dX5_all_42 : decode cX5_all 42 = .ok (.invokevirtual 185, 3) := by decide +kernel
theorem dX5_all_45 : decode cX5_all 45 = .ok (.goto 11, 3) := by decide +kernel
theorem dX5_all_48 : decode cX5_all 48 = .ok (.aload_n 0, 1) := by decide +kernel
theorem dX5_all_49 : decode cX5_all 49 = .ok (.getfield 7, 3) := by decide +kernel
theorem dX5_all_52 : decode cX5_all 52 = .ok (.sipush 226, 3) := by decide +kernel
theorem dX5_all_55 : decode cX5_all 55 = .ok (.iaload, 1) := by decide +kernel
theorem dX5_all_56 : decode cX5_all 56 = .ok (.ireturn, 1) := by decide +kernel
set_option maxRecDepth 20000 in
theorem ggX5_clear_X5_copy : GoodIn wsX5_clear wsX5_copy := goodIn_r _ [7, 1, 37, 38, 39, 40, 41, 42, 43, 44, 45, 46, 47, 48, 49, 50, 51, 52, 53, 54, 55, 56, 57] (by decide +kernel) (by decide +kernel)
set_option maxRecDepth 20000 in
theorem gX5_clear_X5_copy : GoodIn wsX5_clear (wsV RX5 132 RX5 yX5_copy wsX5_copy) := goodIn_app (goodIn_of _ (by decide +kernel)) ggX5_clear_X5_copy
set_option maxRecDepth 20000 in
theorem ggX5_clear_X5_day : GoodIn wsX5_clear wsX5_day := goodIn_r _ [11, 1, 12, 13, 6, 14, 15, 16, 17, 18, 19, 20, 21, 22, 23, 24, 25, 26, 27, 28, 29, 30, 31, 32, 33, 34, 35, 36, 37, 38, 39, 40, 41, 42, 43, 44, 45, 46, 47, 48, 49, 50, 51, 52, 53, 54, 55, 56, 57] (by decide +kernel) (by decide +kernel)
set_option maxRecDepth 20000 in
theorem gX5_clear_X5_day : GoodIn wsX5_clear (wsV RX5 174 RX5 yX5_day wsX5_day) := goodIn_app (goodIn_of _ (by decide +kernel)) ggX5_clear_X5_day
theorem dX5_clear_0 : decode cX5_clear 0 = .ok (.aload_n 0, 1) := by decide +kernel
theorem dX5_clear_1 : decode cX5_clear 1 = .ok (.iconst 0, 1) := by decide +kernel
theorem dX5_clear_2 : decode cX5_clear 2 = .ok (.sipush 225, 3) := by decide +kernel
theorem dX5_clear_5 : decode cX5_clear 5 = .ok (.invokevirtual 132, 3) := by decide +kernel
theorem dX5_clear_8 : decode cX5_clear 8 = .ok (.iconst 0, 1) := by decide +kernel
theorem dX5_clear_9 : decode cX5_clear 9 = .ok (.istore_n 1, 1) := by decide +kernel
theorem dX5_clear_10 : decode cX5_clear 10 = .ok (.iload_n 1, 1) := by decide +kernel
theorem dX5_clear_11 : decode cX5_clear 11 = .ok (.sipush 999, 3) := by decide +kernel
theorem dX5_clear_14 : decode cX5_clear 14 = .ok (.if_icmp .ge 31, 3) := by decide +kernel
theorem dX5_clear_17 : decode cX5_clear 17 = .ok (.aload_n 0, 1) := by decide +kernel
theorem dX5_clear_18 : decode cX5_clear 18 = .ok (.getfield 7, 3) := by decide +kernel
theorem dX5_clear_21 : decode cX5_clear 21 = .ok (.sipush 239, 3) := by decide +kernel
theorem dX5_clear_24 : decode cX5_clear 24 = .ok (.iaload, 1) := by decide +kernel
theorem dX5_clear_25 : decode cX5_clear 25 = .ok (.ifCond .le 20, 3) := by decide +kernel
theorem dX5_clear_28 : decode cX5_clear 28 = .ok (.aload_n 0, 1) := by decide +kernel
theorem dX5_clear_29 : decode cX5_clear 29 = .ok (.sipush 225, 3) := by decide +kernel
theorem dX5_clear_32 : decode cX5_clear 32 = .ok (.aload_n 0, 1) := by decide +kernel
theorem dX5_clear_33 : decode cX5_clear 33 = .ok (.getfield 38, 3) := by decide +kernel
theorem dX5_clear_36 : decode cX5_clear 36 = .ok (.invokevirtual 174, 3) := by decide +kernel
theorem dX5_clear_39 : decode cX5_clear 39 = .ok (.iinc 1 1, 3) := by decide +kernel
theorem dX5_clear_42 : decode cX5_clear 42 = .ok (.goto (-32), 3) := by decide +kernel
theorem dX5_clear_45 : decode cX5_clear 45 = .ok (.aload_n 0, 1) := by decide +kernel
theorem dX5_clear_46 : decode cX5_clear 46 = .ok (.getfield 7, 3) := by decide +kernel
theorem dX5_clear_49 : decode cX5_clear 49 = .ok (.sipush 239, 3) := by decide +kernel
theorem dX5_clear_52 : decode cX5_clear 52 = .ok (.iaload, 1) := by decide +kernel
theorem dX5_clear_53 : decode cX5_clear 53 = .ok (.ifCond .ne 7, 3) := by decide +kernel
theorem dX5_clear_56 : decode cX5_clear 56 = .ok (.iload_n 1, 1) := by decide +kernel
theorem dX5_clear_57 : decode cX5_clear 57 = .ok (.goto 4, 3) := by decide +kernel
theorem dX5_clear_60 : decode cX5_clear 60 = .ok (.iconst (-1), 1) := by decide +kernel
theorem dX5_clear_61 : decode cX5_clear 61 = .ok (.ireturn, 1) := by decide +kernel
set_option maxRecDepth 20000 in
theorem ggX5_owedFor_X5_grown : GoodIn wsX5_owedFor wsX5_grown := goodIn_r _ [5, 6, 7, 8, 9, 10, 11, 12, 13, 14, 15, 16, 17, 18, 19, 20, 21, 22, 23, 24, 25, 26, 27, 28, 29] (by decide +kernel) (by decide +kernel)
set_option maxRecDepth 20000 in
theorem gX5_owedFor_X5_grown : GoodIn wsX5_owedFor (wsV RX5 160 RX5 yX5_grown wsX5_grown) := goodIn_app (goodIn_of _ (by decide +kernel)) ggX5_owedFor_X5_grown
theorem dX5_owedFor_0 : decode cX5_owedFor 0 = .ok (.bipush 100, 2) := by decide +kernel
theorem dX5_owedFor_2 : decode cX5_owedFor 2 = .ok (.iload_n 2, 1) := by decide +kernel
theorem dX5_owedFor_3 : decode cX5_owedFor 3 = .ok (.imul, 1) := by decide +kernel
theorem dX5_owedFor_4 : decode cX5_owedFor 4 = .ok (.istore 4, 2) := by decide +kernel
theorem dX5_owedFor_6 : decode cX5_owedFor 6 = .ok (.iconst 0, 1) := by decide +kernel
theorem dX5_owedFor_7 : decode cX5_owedFor 7 = .ok (.istore 5, 2) := by decide +kernel
theorem dX5_owedFor_9 : decode cX5_owedFor 9 = .ok (.iload 5, 2) := by decide +kernel
theorem dX5_owedFor_11 : decode cX5_owedFor 11 = .ok (.iload_n 3, 1) := by decide +kernel
theorem dX5_owedFor_12 : decode cX5_owedFor 12 = .ok (.if_icmp .ge 19, 3) := by decide +kernel
theorem dX5_owedFor_15 : decode cX5_owedFor 15 = .ok (.aload_n 0, 1) := by decide +kernel
theorem dX5_owedFor_16 : decode cX5_owedFor 16 = .ok (.iload_n 1, 1) := by decide +kernel
theorem dX5_owedFor_17 : decode cX5_owedFor 17 = .ok (.iload 4, 2) := by decide +kernel
theorem dX5_owedFor_19 : decode cX5_owedFor 19 = .ok (.iload_n 2, 1) := by decide +kernel
theorem dX5_owedFor_20 : decode cX5_owedFor 20 = .ok (.invokevirtual 160, 3) := by decide +kernel
theorem dX5_owedFor_23 : decode cX5_owedFor 23 = .ok (.istore 4, 2) := by decide +kernel
theorem dX5_owedFor_25 : decode cX5_owedFor 25 = .ok (.iinc 5 1, 3) := by decide +kernel
theorem dX5_owedFor_28 : decode cX5_owedFor 28 = .ok (.goto (-19), 3) := by decide +kernel
theorem dX5_owedFor_31 : decode cX5_owedFor 31 = .ok (.iload 4, 2) := by decide +kernel
theorem dX5_owedFor_33 : decode cX5_owedFor 33 = .ok (.ireturn, 1) := by decide +kernel
set_option maxRecDepth 20000 in
theorem ggX5_layPrices_X5_lends : GoodIn wsX5_layPrices wsX5_lends := goodIn_r _ [8, 9, 10, 11, 7, 12, 2, 13, 14, 15, 16, 17, 18, 19, 20, 21, 22, 23, 24, 25, 37, 38, 39, 40, 41, 42, 43, 44, 45, 46, 47, 48, 49, 50, 51, 52, 53, 54, 55, 56, 57] (by decide +kernel) (by decide +kernel)
set_option maxRecDepth 20000 in
theorem gX5_layPrices_X5_lends : GoodIn wsX5_layPrices (wsV RX5 171 RX5 yX5_lends wsX5_lends) := goodIn_app (goodIn_of _ (by decide +kernel)) ggX5_layPrices_X5_lends
set_option maxRecDepth 20000 in
theorem ggX5_layPrices_X5_owedFor : GoodIn wsX5_layPrices wsX5_owedFor := goodIn_r _ [29, 30, 31, 32, 7, 33, 34, 35, 36, 37, 38, 39, 40, 41, 42, 43, 44, 45, 46, 47, 48, 49, 50, 51, 52, 53, 54, 55, 56, 57] (by decide +kernel) (by decide +kernel)
set_option maxRecDepth 20000 in
theorem gX5_layPrices_X5_owedFor : GoodIn wsX5_layPrices (wsV RX5 188 RX5 yX5_owedFor wsX5_owedFor) := goodIn_app (goodIn_of _ (by decide +kernel)) ggX5_layPrices_X5_owedFor
theorem dX5_layPrices_0 : decode cX5_layPrices 0 = .ok (.iconst 0, 1) := by decide +kernel
theorem dX5_layPrices_1 : decode cX5_layPrices 1 = .ok (.istore_n 2, 1) := by decide +kernel
theorem dX5_layPrices_2 : decode cX5_layPrices 2 = .ok (.iload_n 2, 1) := by decide +kernel
theorem dX5_layPrices_3 : decode cX5_layPrices 3 = .ok (.aload_n 0, 1) := by decide +kernel
theorem dX5_layPrices_4 : decode cX5_layPrices 4 = .ok (.getfield 115, 3) := by decide +kernel
theorem dX5_layPrices_7 : decode cX5_layPrices 7 = .ok (.if_icmp .ge 76, 3) := by decide +kernel
theorem dX5_layPrices_10 : decode cX5_layPrices 10 = .ok (.aload_n 0, 1) := by decide +kernel
theorem dX5_layPrices_11 : decode cX5_layPrices 11 = .ok (.iload_n 2, 1) := by decide +kernel
theorem dX5_layPrices_12 : decode cX5_layPrices 12 = .ok (.invokevirtual 171, 3) := by decide +kernel
theorem dX5_layPrices_15 : decode cX5_layPrices 15 = .ok (.ifCond .eq 14, 3) := by decide +kernel
theorem dX5_layPrices_18 : decode cX5_layPrices 18 = .ok (.aload_n 0, 1) := by decide +kernel
theorem dX5_layPrices_19 : decode cX5_layPrices 19 = .ok (.getfield 7, 3) := by decide +kernel
theorem dX5_layPrices_22 : decode cX5_layPrices 22 = .ok (.iconst 2, 1) := by decide +kernel
theorem dX5_layPrices_23 : decode cX5_layPrices 23 = .ok (.iload_n 2, 1) := by decide +kernel
theorem dX5_layPrices_24 : decode cX5_layPrices 24 = .ok (.iadd, 1) := by decide +kernel
theorem dX5_layPrices_25 : decode cX5_layPrices 25 = .ok (.iaload, 1) := by decide +kernel
theorem dX5_layPrices_26 : decode cX5_layPrices 26 = .ok (.goto 4, 3) := by decide +kernel
theorem dX5_layPrices_29 : decode cX5_layPrices 29 = .ok (.iconst 0, 1) := by decide +kernel
theorem dX5_layPrices_30 : decode cX5_layPrices 30 = .ok (.istore_n 3, 1) := by decide +kernel
theorem dX5_layPrices_31 : decode cX5_layPrices 31 = .ok (.iconst 0, 1) := by decide +kernel
theorem dX5_layPrices_32 : decode cX5_layPrices 32 = .ok (.istore 4, 2) := by decide +kernel
theorem dX5_layPrices_34 : decode cX5_layPrices 34 = .ok (.iload 4, 2) := by decide +kernel
theorem dX5_layPrices_36 : decode cX5_layPrices 36 = .ok (.bipush 100, 2) := by decide +kernel
theorem dX5_layPrices_38 : decode cX5_layPrices 38 = .ok (.if_icmp .ge 39, 3) := by decide +kernel
theorem dX5_layPrices_41 : decode cX5_layPrices 41 = .ok (.aload_n 0, 1) := by decide +kernel
theorem dX5_layPrices_42 : decode cX5_layPrices 42 = .ok (.getfield 42, 3) := by decide +kernel
theorem dX5_layPrices_45 : decode cX5_layPrices 45 = .ok (.bipush 100, 2) := by decide +kernel
theorem dX5_layPrices_47 : decode cX5_layPrices 47 = .ok (.iload_n 2, 1) := by decide +kernel
theorem dX5_layPrices_48 : decode cX5_layPrices 48 = .ok (.imul, 1) := by decide +kernel
theorem dX5_layPrices_49 : decode cX5_layPrices 49 = .ok (.iload 4, 2) := by decide +kernel
theorem dX5_layPrices_51 : decode cX5_layPrices 51 = .ok (.iadd, 1) := by decide +kernel
theorem dX5_layPrices_52 : decode cX5_layPrices 52 = .ok (.iload 4, 2) := by decide +kernel
theorem dX5_layPrices_54 : decode cX5_layPrices 54 = .ok (.iload_n 3, 1) := by decide +kernel
theorem dX5_layPrices_55 : decode cX5_layPrices 55 = .ok (.if_icmp .gt 14, 3) := by decide +kernel
theorem dX5_layPrices_58 : decode cX5_layPrices 58 = .ok (.aload_n 0, 1) := by decide +kernel
theorem dX5_layPrices_59 : decode cX5_layPrices 59 = .ok (.iload_n 2, 1) := by decide +kernel
theorem dX5_layPrices_60 : decode cX5_layPrices 60 = .ok (.iload 4, 2) := by decide +kernel
theorem dX5_layPrices_62 : decode cX5_layPrices 62 = .ok (.iload_n 1, 1) := by decide +kernel
theorem dX5_layPrices_63 : decode cX5_layPrices 63 = .ok (.invokevirtual 188, 3) := by decide +kernel
theorem dX5_layPrices_66 : decode cX5_layPrices 66 = .ok (.goto 4, 3) := by decide +kernel
theorem dX5_layPrices_69 : decode cX5_layPrices 69 = .ok (.iconst (-1), 1) := by decide +kernel
theorem dX5_layPrices_70 : decode cX5_layPrices 70 = .ok (.iastore, 1) := by decide +kernel
theorem dX5_layPrices_71 : decode cX5_layPrices 71 = .ok (.iinc 4 1, 3) := by decide +kernel
theorem dX5_layPrices_74 : decode cX5_layPrices 74 = .ok (.goto (-40), 3) := by decide +kernel
theorem dX5_layPrices_77 : decode cX5_layPrices 77 = .ok (.iinc 2 1, 3) := by decide +kernel
theorem dX5_layPrices_80 : decode cX5_layPrices 80 = .ok (.goto (-78), 3) := by decide +kernel
theorem dX5_layPrices_83 : decode cX5_layPrices 83 = .ok (.return_, 1) := by decide +kernel
theorem dX5_by_0 : decode cX5_by 0 = .ok (.iload_n 2, 1) := by decide +kernel
theorem dX5_by_1 : decode cX5_by 1 = .ok (.iload_n 3, 1) := by decide +kernel
theorem dX5_by_2 : decode cX5_by 2 = .ok (.if_icmp .gt 17, 3) := by decide +kernel
theorem dX5_by_5 : decode cX5_by 5 = .ok (.aload_n 0, 1) := by decide +kernel
theorem dX5_by_6 : decode cX5_by 6 = .ok (.getfield 42, 3) := by decide +kernel
theorem dX5_by_9 : decode cX5_by 9 = .ok (.bipush 100, 2) := by decide +kernel
theorem dX5_by_11 : decode cX5_by 11 = .ok (.iload_n 1, 1) := by decide +kernel
theorem dX5_by_12 : decode cX5_by 12 = .ok (.imul, 1) := by decide +kernel
theorem dX5_by_13 : decode cX5_by 13 = .ok (.iload_n 2, 1) := by decide +kernel
theorem dX5_by_14 : decode cX5_by 14 = .ok (.iadd, 1) := by decide +kernel
theorem dX5_by_15 : decode cX5_by 15 = .ok (.iaload, 1) := by decide +kernel
theorem dX5_by_16 : decode cX5_by 16 = .ok (.goto 4, 3) := by decide +kernel
theorem dX5_by_19 : decode cX5_by 19 = .ok (.iconst (-1), 1) := by decide +kernel
theorem dX5_by_20 : decode cX5_by 20 = .ok (.istore 4, 2) := by decide +kernel
theorem dX5_by_22 : decode cX5_by 22 = .ok (.iload 4, 2) := by decide +kernel
theorem dX5_by_24 : decode cX5_by 24 = .ok (.iconst (-1), 1) := by decide +kernel
theorem dX5_by_25 : decode cX5_by 25 = .ok (.if_icmp .ne 7, 3) := by decide +kernel
theorem dX5_by_28 : decode cX5_by 28 = .ok (.iconst (-1), 1) := by decide +kernel
theorem dX5_by_29 : decode cX5_by 29 = .ok (.goto 18, 3) := by decide +kernel
theorem dX5_by_32 : decode cX5_by 32 = .ok (.aload_n 0, 1) := by decide +kernel
theorem dX5_by_33 : decode cX5_by 33 = .ok (.getfield 45, 3) := by decide +kernel
theorem dX5_by_36 : decode cX5_by 36 = .ok (.bipush 100, 2) := by decide +kernel
theorem dX5_by_38 : decode cX5_by 38 = .ok (.iload_n 1, 1) := by decide +kernel
theorem dX5_by_39 : decode cX5_by 39 = .ok (.iconst 1, 1) := by decide +kernel
theorem dX5_by_40 : decode cX5_by 40 = .ok (.iadd, 1) := by decide +kernel
theorem dX5_by_41 : decode cX5_by 41 = .ok (.imul, 1) := by decide +kernel
theorem dX5_by_42 : decode cX5_by 42 = .ok (.iload_n 3, 1) := by decide +kernel
theorem dX5_by_43 : decode cX5_by 43 = .ok (.iadd, 1) := by decide +kernel
theorem dX5_by_44 : decode cX5_by 44 = .ok (.iload_n 2, 1) := by decide +kernel
theorem dX5_by_45 : decode cX5_by 45 = .ok (.isub, 1) := by decide +kernel
theorem dX5_by_46 : decode cX5_by 46 = .ok (.iaload, 1) := by decide +kernel
theorem dX5_by_47 : decode cX5_by 47 = .ok (.istore 5, 2) := by decide +kernel
theorem dX5_by_49 : decode cX5_by 49 = .ok (.iload 5, 2) := by decide +kernel
theorem dX5_by_51 : decode cX5_by 51 = .ok (.iconst (-1), 1) := by decide +kernel
theorem dX5_by_52 : decode cX5_by 52 = .ok (.if_icmp .ne 7, 3) := by decide +kernel
theorem dX5_by_55 : decode cX5_by 55 = .ok (.iconst (-1), 1) := by decide +kernel
theorem dX5_by_56 : decode cX5_by 56 = .ok (.goto 8, 3) := by decide +kernel
theorem dX5_by_59 : decode cX5_by 59 = .ok (.iload 4, 2) := by decide +kernel
theorem dX5_by_61 : decode cX5_by 61 = .ok (.iload 5, 2) := by decide +kernel
theorem dX5_by_63 : decode cX5_by 63 = .ok (.iadd, 1) := by decide +kernel
theorem dX5_by_64 : decode cX5_by 64 = .ok (.ireturn, 1) := by decide +kernel
set_option maxRecDepth 20000 in
theorem ggX5_layLeasts_X5_by : GoodIn wsX5_layLeasts wsX5_by := goodIn_r _ [7, 8, 1, 9, 10, 11, 12, 13, 14, 15, 16, 17, 18, 19, 20, 21, 22, 23, 24, 25, 26, 27, 28, 29] (by decide +kernel) (by decide +kernel)
set_option maxRecDepth 20000 in
theorem gX5_layLeasts_X5_by : GoodIn wsX5_layLeasts (wsV RX5 191 RX5 yX5_by wsX5_by) := goodIn_app (goodIn_of _ (by decide +kernel)) ggX5_layLeasts_X5_by
theorem dX5_layLeasts_0 : decode cX5_layLeasts 0 = .ok (.iconst 0, 1) := by decide +kernel
theorem dX5_layLeasts_1 : decode cX5_layLeasts 1 = .ok (.istore_n 1, 1) := by decide +kernel
theorem dX5_layLeasts_2 : decode cX5_layLeasts 2 = .ok (.iload_n 1, 1) := by decide +kernel
theorem dX5_layLeasts_3 : decode cX5_layLeasts 3 = .ok (.bipush 100, 2) := by decide +kernel
theorem dX5_layLeasts_5 : decode cX5_layLeasts 5 = .ok (.if_icmp .ge 32, 3) := by decide +kernel
theorem dX5_layLeasts_8 : decode cX5_layLeasts 8 = .ok (.aload_n 0, 1) := by decide +kernel
theorem dX5_layLeasts_9 : decode cX5_layLeasts 9 = .ok (.getfield 45, 3) := by decide +kernel
theorem dX5_layLeasts_12 : decode cX5_layLeasts 12 = .ok (.bipush 100, 2) := by decide +kernel
theorem dX5_layLeasts_14 : decode cX5_layLeasts 14 = .ok (.aload_n 0, 1) := by decide +kernel
theorem dX5_layLeasts_15 : decode cX5_layLeasts 15 = .ok (.getfield 115, 3) := by decide +kernel
theorem dX5_layLeasts_18 : decode cX5_layLeasts 18 = .ok (.imul, 1) := by decide +kernel
theorem dX5_layLeasts_19 : decode cX5_layLeasts 19 = .ok (.iload_n 1, 1) := by decide +kernel
theorem dX5_layLeasts_20 : decode cX5_layLeasts 20 = .ok (.iadd, 1) := by decide +kernel
theorem dX5_layLeasts_21 : decode cX5_layLeasts 21 = .ok (.iload_n 1, 1) := by decide +kernel
theorem dX5_layLeasts_22 : decode cX5_layLeasts 22 = .ok (.ifCond .ne 7, 3) := by decide +kernel
theorem dX5_layLeasts_25 : decode cX5_layLeasts 25 = .ok (.iconst 0, 1) := by decide +kernel
theorem dX5_layLeasts_26 : decode cX5_layLeasts 26 = .ok (.goto 4, 3) := by decide +kernel
theorem dX5_layLeasts_29 : decode cX5_layLeasts 29 = .ok (.iconst (-1), 1) := by decide +kernel
theorem dX5_layLeasts_30 : decode cX5_layLeasts 30 = .ok (.iastore, 1) := by decide +kernel
theorem dX5_layLeasts_31 : decode cX5_layLeasts 31 = .ok (.iinc 1 1, 3) := by decide +kernel
theorem dX5_layLeasts_34 : decode cX5_layLeasts 34 = .ok (.goto (-32), 3) := by decide +kernel
theorem dX5_layLeasts_37 : decode cX5_layLeasts 37 = .ok (.aload_n 0, 1) := by decide +kernel
theorem dX5_layLeasts_38 : decode cX5_layLeasts 38 = .ok (.getfield 115, 3) := by decide +kernel
theorem dX5_layLeasts_41 : decode cX5_layLeasts 41 = .ok (.iconst 1, 1) := by decide +kernel
theorem dX5_layLeasts_42 : decode cX5_layLeasts 42 = .ok (.isub, 1) := by decide +kernel
theorem dX5_layLeasts_43 : decode cX5_layLeasts 43 = .ok (.istore_n 1, 1) := by decide +kernel
theorem dX5_layLeasts_44 : decode cX5_layLeasts 44 = .ok (.iload_n 1, 1) := by decide +kernel
theorem dX5_layLeasts_45 : decode cX5_layLeasts 45 = .ok (.ifCond .lt 86, 3) := by decide +kernel
theorem dX5_layLeasts_48 : decode cX5_layLeasts 48 = .ok (.iconst 0, 1) := by decide +kernel
theorem dX5_layLeasts_49 : decode cX5_layLeasts 49 = .ok (.istore_n 2, 1) := by decide +kernel
theorem dX5_layLeasts_50 : decode cX5_layLeasts 50 = .ok (.iload_n 2, 1) := by decide +kernel
theorem dX5_layLeasts_51 : decode cX5_layLeasts 51 = .ok (.bipush 100, 2) := by decide +kernel
theorem dX5_layLeasts_53 : decode cX5_layLeasts 53 = .ok (.if_icmp .ge 72, 3) := by decide +kernel
theorem dX5_layLeasts_56 : decode cX5_layLeasts 56 = .ok (.iconst (-1), 1) := by decide +kernel
theorem dX5_layLeasts_57 : decode cX5_layLeasts 57 = .ok (.istore_n 3, 1) := by decide +kernel
theorem dX5_layLeasts_58 : decode cX5_layLeasts 58 = .ok (.iconst 0, 1) := by decide +kernel
theorem dX5_layLeasts_59 : decode cX5_layLeasts 59 = .ok (.istore 4, 2) := by decide +kernel
theorem dX5_layLeasts_61 : decode cX5_layLeasts 61 = .ok (.iload 4, 2) := by decide +kernel
theorem dX5_layLeasts_63 : decode cX5_layLeasts 63 = .ok (.iload_n 2, 1) := by decide +kernel
theorem dX5_layLeasts_64 : decode cX5_layLeasts 64 = .ok (.if_icmp .gt 43, 3) := by decide +kernel
theorem dX5_layLeasts_67 : decode cX5_layLeasts 67 = .ok (.aload_n 0, 1) := by decide +kernel
theorem dX5_layLeasts_68 : decode cX5_layLeasts 68 = .ok (.iload_n 1, 1) := by decide +kernel
theorem dX5_layLeasts_69 : decode cX5_layLeasts 69 = .ok (.iload 4, 2) := by decide +kernel
theorem dX5_layLeasts_71 : decode cX5_layLeasts 71 = .ok (.iload_n 2, 1) := by decide +kernel
theorem dX5_layLeasts_72 : decode cX5_layLeasts 72 = .ok (.invokevirtual 191, 3) := by decide +kernel
theorem dX5_layLeasts_75 : decode cX5_layLeasts 75 = .ok (.istore 5, 2) := by decide +kernel
theorem dX5_layLeasts_77 : decode cX5_layLeasts 77 = .ok (.iload 5, 2) := by decide +kernel
theorem dX5_layLeasts_79 : decode cX5_layLeasts 79 = .ok (.iconst (-1), 1) := by decide +kernel
theorem dX5_layLeasts_80 : decode cX5_layLeasts 80 = .ok (.if_icmp .eq 19, 3) := by decide +kernel
theorem dX5_layLeasts_83 : decode cX5_layLeasts 83 = .ok (.iload_n 3, 1) := by decide +kernel
theorem dX5_layLeasts_84 : decode cX5_layLeasts 84 = .ok (.iconst (-1), 1) := by decide +kernel
theorem dX5_layLeasts_85 : decode cX5_layLeasts 85 = .ok (.if_icmp .eq 9, 3) := by decide +kernel
theorem dX5_layLeasts_88 : decode cX5_layLeasts 88 = .ok (.iload 5, 2) := by decide +kernel
theorem dX5_layLeasts_90 : decode cX5_layLeasts 90 = .ok (.iload_n 3, 1) := by decide +kernel
theorem dX5_layLeasts_91 : decode cX5_layLeasts 91 = .ok (.if_icmp .ge 8, 3) := by decide +kernel
theorem dX5_layLeasts_94 : decode cX5_layLeasts 94 = .ok (.iload 5, 2) := by decide +kernel
theorem dX5_layLeasts_96 : decode cX5_layLeasts 96 = .ok (.goto 4, 3) := by decide +kernel
theorem dX5_layLeasts_99 : decode cX5_layLeasts 99 = .ok (.iload_n 3, 1) := by decide +kernel
theorem dX5_layLeasts_100 : decode cX5_layLeasts 100 = .ok (.istore_n 3, 1) := by decide +kernel
theorem dX5_layLeasts_101 : decode cX5_layLeasts 101 = .ok (.iinc 4 1, 3) := by decide +kernel
theorem dX5_layLeasts_104 : decode cX5_layLeasts 104 = .ok (.goto (-43), 3) := by decide +kernel
theorem dX5_layLeasts_107 : decode cX5_layLeasts 107 = .ok (.aload_n 0, 1) := by decide +kernel
theorem dX5_layLeasts_108 : decode cX5_layLeasts 108 = .ok (.getfield 45, 3) := by decide +kernel
theorem dX5_layLeasts_111 : decode cX5_layLeasts 111 = .ok (.bipush 100, 2) := by decide +kernel
theorem dX5_layLeasts_113 : decode cX5_layLeasts 113 = .ok (.iload_n 1, 1) := by decide +kernel
theorem dX5_layLeasts_114 : decode cX5_layLeasts 114 = .ok (.imul, 1) := by decide +kernel
theorem dX5_layLeasts_115 : decode cX5_layLeasts 115 = .ok (.iload_n 2, 1) := by decide +kernel
theorem dX5_layLeasts_116 : decode cX5_layLeasts 116 = .ok (.iadd, 1) := by decide +kernel
theorem dX5_layLeasts_117 : decode cX5_layLeasts 117 = .ok (.iload_n 3, 1) := by decide +kernel
theorem dX5_layLeasts_118 : decode cX5_layLeasts 118 = .ok (.iastore, 1) := by decide +kernel
theorem dX5_layLeasts_119 : decode cX5_layLeasts 119 = .ok (.iinc 2 1, 3) := by decide +kernel
theorem dX5_layLeasts_122 : decode cX5_layLeasts 122 = .ok (.goto (-72), 3) := by decide +kernel
theorem dX5_layLeasts_125 : decode cX5_layLeasts 125 = .ok (.iinc 1 (-1), 3) := by decide +kernel
theorem dX5_layLeasts_128 : decode cX5_layLeasts 128 = .ok (.goto (-84), 3) := by decide +kernel
theorem dX5_layLeasts_131 : decode cX5_layLeasts 131 = .ok (.return_, 1) := by decide +kernel
set_option maxRecDepth 20000 in
theorem ggX5_hut_X5_in : GoodIn wsX5_hut wsX5_in := goodIn_r _ [7] (by decide +kernel) (by decide +kernel)
set_option maxRecDepth 20000 in
theorem gX5_hut_X5_in : GoodIn wsX5_hut (va_wsS RX5 50 yX5_in wsX5_in) := goodIn_app (goodIn_of _ (by decide +kernel)) ggX5_hut_X5_in
set_option maxRecDepth 20000 in
theorem ggX5_hut_X5_isTree : GoodIn wsX5_hut wsX5_isTree := goodIn_r _ [11, 12, 4, 5, 6, 7, 59, 60, 61, 62, 63, 64, 65, 66, 67, 68, 69, 70, 71, 72, 73, 74, 75, 76, 77, 78, 79] (by decide +kernel) (by decide +kernel)
set_option maxRecDepth 20000 in
theorem gX5_hut_X5_isTree : GoodIn wsX5_hut (wsV RX5 166 RX5 yX5_isTree wsX5_isTree) := goodIn_app (goodIn_of _ (by decide +kernel)) ggX5_hut_X5_isTree
set_option maxRecDepth 20000 in
theorem ggX5_hut_X5_layPrices : GoodIn wsX5_hut wsX5_layPrices := goodIn_r _ [16, 12, 17, 18, 19, 20, 21, 6, 22, 23, 24, 25, 26, 27, 28, 29, 30, 31, 32, 33, 34, 35, 36, 37, 38, 39, 40, 41, 42, 43, 44, 45, 46, 47, 48, 49, 50, 59, 60, 61, 62, 63, 64, 65, 66, 67, 68, 69, 70, 71, 72, 73, 74, 75, 76, 77, 78, 79] (by decide +kernel) (by decide +kernel)
set_option maxRecDepth 20000 in
theorem gX5_hut_X5_layPrices : GoodIn wsX5_hut (wsV RX5 196 RX5 yX5_layPrices wsX5_layPrices) := goodIn_app (goodIn_of _ (by decide +kernel)) ggX5_hut_X5_layPrices
set_option maxRecDepth 20000 in
theorem ggX5_hut_X5_layLeasts : GoodIn wsX5_hut wsX5_layLeasts := goodIn_r _ [54, 3, 12, 55, 56, 57, 6, 58, 18, 59, 60, 61, 62, 63, 64, 65, 66, 67, 68, 69, 70, 71, 72, 73, 74, 75, 76, 77, 78, 79] (by decide +kernel) (by decide +kernel)
set_option maxRecDepth 20000 in
theorem gX5_hut_X5_layLeasts : GoodIn wsX5_hut (wsV RX5 199 RX5 yX5_layLeasts wsX5_layLeasts) := goodIn_app (goodIn_of _ (by decide +kernel)) ggX5_hut_X5_layLeasts
set_option maxRecDepth 20000 in
theorem ggX5_hut_X5_by : GoodIn wsX5_hut wsX5_by := goodIn_r _ [58, 18, 3, 59, 60, 61, 62, 63, 64, 65, 66, 67, 68, 69, 70, 71, 72, 73, 74, 75, 76, 77, 78, 79] (by decide +kernel) (by decide +kernel)
set_option maxRecDepth 20000 in
theorem gX5_hut_X5_by : GoodIn wsX5_hut (wsV RX5 191 RX5 yX5_by wsX5_by) := goodIn_app (goodIn_of _ (by decide +kernel)) ggX5_hut_X5_by
theorem dX5_hut_0 : decode cX5_hut 0 = .ok (.iload_n 1, 1) := by decide +kernel
theorem dX5_hut_1 : decode cX5_hut 1 = .ok (.i2l, 1) := by decide +kernel
theorem dX5_hut_2 : decode cX5_hut 2 = .ok (.lconst 1, 1) := by decide +kernel
theorem dX5_hut_3 : decode cX5_hut 3 = .ok (.ldc2_w 169, 3) := by decide +kernel
theorem dX5_hut_6 : decode cX5_hut 6 = .ok (.invokestatic 50, 3) := by decide +kernel
theorem dX5_hut_9 : decode cX5_hut 9 = .ok (.ifCond .eq 15, 3) := by decide +kernel
theorem dX5_hut_12 : decode cX5_hut 12 = .ok (.iload_n 2, 1) := by decide +kernel
theorem dX5_hut_13 : decode cX5_hut 13 = .ok (.i2l, 1) := by decide +kernel
theorem dX5_hut_14 : decode cX5_hut 14 = .ok (.lconst 0, 1) := by decide +kernel
theorem dX5_hut_15 : decode cX5_hut 15 = .ok (.ldc2_w 194, 3) := by decide +kernel
theorem dX5_hut_18 : decode cX5_hut 18 = .ok (.invokestatic 50, 3) := by decide +kernel
theorem dX5_hut_21 : decode cX5_hut 21 = .ok (.ifCond .ne 6, 3) := by decide +kernel
theorem dX5_hut_24 : decode cX5_hut 24 = .ok (.bipush (-3), 2) := by decide +kernel
theorem dX5_hut_26 : decode cX5_hut 26 = .ok (.ireturn, 1) := by decide +kernel
theorem dX5_hut_27 : decode cX5_hut 27 = .ok (.iload_n 3, 1) := by decide +kernel
theorem dX5_hut_28 : decode cX5_hut 28 = .ok (.iconst (-1), 1) := by decide +kernel
theorem dX5_hut_29 : decode cX5_hut 29 = .ok (.if_icmp .eq 14, 3) := by decide +kernel
theorem dX5_hut_32 : decode cX5_hut 32 = .ok (.aload_n 0, 1) := by decide +kernel
theorem dX5_hut_33 : decode cX5_hut 33 = .ok (.iload_n 3, 1) := by decide +kernel
theorem dX5_hut_34 : decode cX5_hut 34 = .ok (.invokevirtual 166, 3) := by decide +kernel
theorem dX5_hut_37 : decode cX5_hut 37 = .ok (.ifCond .ne 6, 3) := by decide +kernel
theorem dX5_hut_40 : decode cX5_hut 40 = .ok (.bipush (-2), 2) := by decide +kernel
theorem dX5_hut_42 : decode cX5_hut 42 = .ok (.ireturn, 1) := by decide +kernel
theorem dX5_hut_43 : decode cX5_hut 43 = .ok (.aload_n 0, 1) := by decide +kernel
theorem dX5_hut_44 : decode cX5_hut 44 = .ok (.iload_n 2, 1) := by decide +kernel
theorem dX5_hut_45 : decode cX5_hut 45 = .ok (.invokevirtual 196, 3) := by decide +kernel
theorem dX5_hut_48 : decode cX5_hut 48 = .ok (.aload_n 0, 1) := by decide +kernel
theorem dX5_hut_49 : decode cX5_hut 49 = .ok (.invokevirtual 199, 3) := by decide +kernel
theorem dX5_hut_52 : decode cX5_hut 52 = .ok (.iload_n 3, 1) := by decide +kernel
theorem dX5_hut_53 : decode cX5_hut 53 = .ok (.iconst (-1), 1) := by decide +kernel
theorem dX5_hut_54 : decode cX5_hut 54 = .ok (.if_icmp .eq 13, 3) := by decide +kernel
theorem dX5_hut_57 : decode cX5_hut 57 = .ok (.aload_n 0, 1) := by decide +kernel
theorem dX5_hut_58 : decode cX5_hut 58 = .ok (.getfield 45, 3) := by decide +kernel
theorem dX5_hut_61 : decode cX5_hut 61 = .ok (.iload_n 1, 1) := by decide +kernel
theorem dX5_hut_62 : decode cX5_hut 62 = .ok (.iaload, 1) := by decide +kernel
theorem dX5_hut_63 : decode cX5_hut 63 = .ok (.iconst (-1), 1) := by decide +kernel
theorem dX5_hut_64 : decode cX5_hut 64 = .ok (.if_icmp .ne 10, 3) := by decide +kernel
theorem dX5_hut_67 : decode cX5_hut 67 = .ok (.aload_n 0, 1) := by decide +kernel
theorem dX5_hut_68 : decode cX5_hut 68 = .ok (.getfield 45, 3) := by decide +kernel
theorem dX5_hut_71 : decode cX5_hut 71 = .ok (.iload_n 1, 1) := by decide +kernel
theorem dX5_hut_72 : decode cX5_hut 72 = .ok (.iaload, 1) := by decide +kernel
theorem dX5_hut_73 : decode cX5_hut 73 = .ok (.ireturn, 1) := by decide +kernel
theorem dX5_hut_74 : decode cX5_hut 74 = .ok (.iload_n 1, 1) := by decide +kernel
theorem dX5_hut_75 : decode cX5_hut 75 = .ok (.istore 4, 2) := by decide +kernel
theorem dX5_hut_77 : decode cX5_hut 77 = .ok (.iconst 0, 1) := by decide +kernel
theorem dX5_hut_78 : decode cX5_hut 78 = .ok (.istore 5, 2) := by decide +kernel
theorem dX5_hut_80 : decode cX5_hut 80 = .ok (.iconst 0, 1) := by decide +kernel
theorem dX5_hut_81 : decode cX5_hut 81 = .ok (.istore 6, 2) := by decide +kernel
theorem dX5_hut_83 : decode cX5_hut 83 = .ok (.iload 6, 2) := by decide +kernel
theorem dX5_hut_85 : decode cX5_hut 85 = .ok (.iload_n 3, 1) := by decide +kernel
theorem dX5_hut_86 : decode cX5_hut 86 = .ok (.if_icmp .gt 51, 3) := by decide +kernel
theorem dX5_hut_89 : decode cX5_hut 89 = .ok (.iconst 0, 1) := by decide +kernel
theorem dX5_hut_90 : decode cX5_hut 90 = .ok (.istore 5, 2) := by decide +kernel
theorem dX5_hut_92 : decode cX5_hut 92 = .ok (.aload_n 0, 1) := by decide +kernel
theorem dX5_hut_93 : decode cX5_hut 93 = .ok (.iload 6, 2) := by decide +kernel
theorem dX5_hut_95 : decode cX5_hut 95 = .ok (.iload 5, 2) := by decide +kernel
theorem dX5_hut_97 : decode cX5_hut 97 = .ok (.iload 4, 2) := by decide +kernel
theorem dX5_hut_99 : decode cX5_hut 99 = .ok (.invokevirtual 191, 3) := by decide +kernel
theorem dX5_hut_102 : decode cX5_hut 102 = .ok (.aload_n 0, 1) := by decide +kernel
theorem dX5_hut_103 : decode cX5_hut 103 = .ok (.getfield 45, 3) := by decide +kernel
theorem dX5_hut_106 : decode cX5_hut 106 = .ok (.bipush 100, 2) := by decide +kernel
theorem dX5_hut_108 : decode cX5_hut 108 = .ok (.iload 6, 2) := by decide +kernel
theorem dX5_hut_110 : decode cX5_hut 110 = .ok (.imul, 1) := by decide +kernel
theorem dX5_hut_111 : decode cX5_hut 111 = .ok (.iload 4, 2) := by decide +kernel
theorem dX5_hut_113 : decode cX5_hut 113 = .ok (.iadd, 1) := by decide +kernel
theorem dX5_hut_114 : decode cX5_hut 114 = .ok (.iaload, 1) := by decide +kernel
theorem dX5_hut_115 : decode cX5_hut 115 = .ok (.if_icmp .eq 9, 3) := by decide +kernel
theorem dX5_hut_118 : decode cX5_hut 118 = .ok (.iinc 5 1, 3) := by decide +kernel
theorem dX5_hut_121 : decode cX5_hut 121 = .ok (.goto (-29), 3) := by decide +kernel
theorem dX5_hut_124 : decode cX5_hut 124 = .ok (.iload 4, 2) := by decide +kernel
theorem dX5_hut_126 : decode cX5_hut 126 = .ok (.iload 5, 2) := by decide +kernel
theorem dX5_hut_128 : decode cX5_hut 128 = .ok (.isub, 1) := by decide +kernel
theorem dX5_hut_129 : decode cX5_hut 129 = .ok (.istore 4, 2) := by decide +kernel
theorem dX5_hut_131 : decode cX5_hut 131 = .ok (.iinc 6 1, 3) := by decide +kernel
theorem dX5_hut_134 : decode cX5_hut 134 = .ok (.goto (-51), 3) := by decide +kernel
theorem dX5_hut_137 : decode cX5_hut 137 = .ok (.iload 5, 2) := by decide +kernel
theorem dX5_hut_139 : decode cX5_hut 139 = .ok (.ireturn, 1) := by decide +kernel
set_option maxRecDepth 20000 in
theorem ggX5_enough_X5_in : GoodIn wsX5_enough wsX5_in := goodIn_r _ [6] (by decide +kernel) (by decide +kernel)
set_option maxRecDepth 20000 in
theorem gX5_enough_X5_in : GoodIn wsX5_enough (va_wsS RX5 50 yX5_in wsX5_in) := goodIn_app (goodIn_of _ (by decide +kernel)) ggX5_enough_X5_in
set_option maxRecDepth 20000 in
theorem ggX5_enough_X5_tryDays : GoodIn wsX5_enough wsX5_tryDays := goodIn_r _ [10, 11, 12, 13, 5, 14, 2, 15, 16, 17, 18, 19, 20, 21, 22, 23, 24, 25, 26, 27, 28, 29, 30, 31, 32, 33, 34, 35, 36, 37, 38, 39, 40, 41, 42, 43, 44, 45, 46, 47, 48, 49, 50, 51, 52, 53, 54, 55, 56, 57, 58, 59, 60, 61, 62, 63, 64] (by decide +kernel) (by decide +kernel)
set_option maxRecDepth 20000 in
theorem gX5_enough_X5_tryDays : GoodIn wsX5_enough (wsV RX5 182 RX5 yX5_tryDays wsX5_tryDays) := goodIn_app (goodIn_of _ (by decide +kernel)) ggX5_enough_X5_tryDays
theorem dX5_enough_0 : decode cX5_enough 0 = .ok (.iload_n 1, 1) := by decide +kernel
theorem dX5_enough_1 : decode cX5_enough 1 = .ok (.i2l, 1) := by decide +kernel
theorem dX5_enough_2 : decode cX5_enough 2 = .ok (.lconst 1, 1) := by decide +kernel
theorem dX5_enough_3 : decode cX5_enough 3 = .ok (.ldc2_w 169, 3) := by decide +kernel
theorem dX5_enough_6 : decode cX5_enough 6 = .ok (.invokestatic 50, 3) := by decide +kernel
theorem dX5_enough_9 : decode cX5_enough 9 = .ok (.ifCond .ne 6, 3) := by decide +kernel
theorem dX5_enough_12 : decode cX5_enough 12 = .ok (.bipush (-3), 2) := by decide +kernel
theorem dX5_enough_14 : decode cX5_enough 14 = .ok (.ireturn, 1) := by decide +kernel
theorem dX5_enough_15 : decode cX5_enough 15 = .ok (.iconst 0, 1) := by decide +kernel
theorem dX5_enough_16 : decode cX5_enough 16 = .ok (.istore_n 2, 1) := by decide +kernel
theorem dX5_enough_17 : decode cX5_enough 17 = .ok (.iload_n 2, 1) := by decide +kernel
theorem dX5_enough_18 : decode cX5_enough 18 = .ok (.bipush 100, 2) := by decide +kernel
theorem dX5_enough_20 : decode cX5_enough 20 = .ok (.if_icmp .ge 34, 3) := by decide +kernel
theorem dX5_enough_23 : decode cX5_enough 23 = .ok (.aload_n 0, 1) := by decide +kernel
theorem dX5_enough_24 : decode cX5_enough 24 = .ok (.iload_n 1, 1) := by decide +kernel
theorem dX5_enough_25 : decode cX5_enough 25 = .ok (.iload_n 2, 1) := by decide +kernel
theorem dX5_enough_26 : decode cX5_enough 26 = .ok (.invokevirtual 182, 3) := by decide +kernel
theorem dX5_enough_29 : decode cX5_enough 29 = .ok (.aload_n 0, 1) := by decide +kernel
theorem dX5_enough_30 : decode cX5_enough 30 = .ok (.getfield 7, 3) := by decide +kernel
theorem dX5_enough_33 : decode cX5_enough 33 = .ok (.sipush 226, 3) := by decide +kernel
theorem dX5_enough_36 : decode cX5_enough 36 = .ok (.iaload, 1) := by decide +kernel
theorem dX5_enough_37 : decode cX5_enough 37 = .ok (.aload_n 0, 1) := by decide +kernel
theorem dX5_enough_38 : decode cX5_enough 38 = .ok (.getfield 7, 3) := by decide +kernel
theorem dX5_enough_41 : decode cX5_enough 41 = .ok (.iconst 1, 1) := by decide +kernel
theorem dX5_enough_42 : decode cX5_enough 42 = .ok (.iaload, 1) := by decide +kernel
theorem dX5_enough_43 : decode cX5_enough 43 = .ok (.if_icmp .ne 5, 3) := by decide +kernel
theorem dX5_enough_46 : decode cX5_enough 46 = .ok (.iload_n 2, 1) := by decide +kernel
theorem dX5_enough_47 : decode cX5_enough 47 = .ok (.ireturn, 1) := by decide +kernel
theorem dX5_enough_48 : decode cX5_enough 48 = .ok (.iinc 2 1, 3) := by decide +kernel
theorem dX5_enough_51 : decode cX5_enough 51 = .ok (.goto (-34), 3) := by decide +kernel
theorem dX5_enough_54 : decode cX5_enough 54 = .ok (.iconst (-1), 1) := by decide +kernel
theorem dX5_enough_55 : decode cX5_enough 55 = .ok (.ireturn, 1) := by decide +kernel
set_option maxRecDepth 20000 in
theorem ggX5_rid_X5_in : GoodIn wsX5_rid wsX5_in := goodIn_r _ [7] (by decide +kernel) (by decide +kernel)
set_option maxRecDepth 20000 in
theorem gX5_rid_X5_in : GoodIn wsX5_rid (va_wsS RX5 50 yX5_in wsX5_in) := goodIn_app (goodIn_of _ (by decide +kernel)) ggX5_rid_X5_in
set_option maxRecDepth 20000 in
theorem ggX5_rid_X5_placeOf : GoodIn wsX5_rid wsX5_placeOf := goodIn_r _ [10] (by decide +kernel) (by decide +kernel)
set_option maxRecDepth 20000 in
theorem gX5_rid_X5_placeOf : GoodIn wsX5_rid (va_wsS RX5 136 yX5_placeOf wsX5_placeOf) := goodIn_app (goodIn_of _ (by decide +kernel)) ggX5_rid_X5_placeOf
theorem dX5_rid_0 : decode cX5_rid 0 = .ok (.iload_n 1, 1) := by decide +kernel
theorem dX5_rid_1 : decode cX5_rid 1 = .ok (.i2l, 1) := by decide +kernel
theorem dX5_rid_2 : decode cX5_rid 2 = .ok (.lconst 0, 1) := by decide +kernel
theorem dX5_rid_3 : decode cX5_rid 3 = .ok (.ldc2_w 202, 3) := by decide +kernel
theorem dX5_rid_6 : decode cX5_rid 6 = .ok (.invokestatic 50, 3) := by decide +kernel
theorem dX5_rid_9 : decode cX5_rid 9 = .ok (.ifCond .eq 13, 3) := by decide +kernel
theorem dX5_rid_12 : decode cX5_rid 12 = .ok (.iload_n 2, 1) := by decide +kernel
theorem dX5_rid_13 : decode cX5_rid 13 = .ok (.i2l, 1) := by decide +kernel
theorem dX5_rid_14 : decode cX5_rid 14 = .ok (.lconst 0, 1) := by decide +kernel
theorem dX5_rid_15 : decode cX5_rid 15 = .ok (.lconst 1, 1) := by decide +kernel
theorem dX5_rid_16 : decode cX5_rid 16 = .ok (.invokestatic 50, 3) := by decide +kernel
theorem dX5_rid_19 : decode cX5_rid 19 = .ok (.ifCond .ne 6, 3) := by decide +kernel
theorem dX5_rid_22 : decode cX5_rid 22 = .ok (.bipush (-3), 2) := by decide +kernel
theorem dX5_rid_24 : decode cX5_rid 24 = .ok (.ireturn, 1) := by decide +kernel
theorem dX5_rid_25 : decode cX5_rid 25 = .ok (.iconst 0, 1) := by decide +kernel
theorem dX5_rid_26 : decode cX5_rid 26 = .ok (.istore_n 3, 1) := by decide +kernel
theorem dX5_rid_27 : decode cX5_rid 27 = .ok (.iconst 0, 1) := by decide +kernel
theorem dX5_rid_28 : decode cX5_rid 28 = .ok (.istore 4, 2) := by decide +kernel
theorem dX5_rid_30 : decode cX5_rid 30 = .ok (.iload 4, 2) := by decide +kernel
theorem dX5_rid_32 : decode cX5_rid 32 = .ok (.aload_n 0, 1) := by decide +kernel
theorem dX5_rid_33 : decode cX5_rid 33 = .ok (.getfield 7, 3) := by decide +kernel
theorem dX5_rid_36 : decode cX5_rid 36 = .ok (.bipush 14, 2) := by decide +kernel
theorem dX5_rid_38 : decode cX5_rid 38 = .ok (.iaload, 1) := by decide +kernel
theorem dX5_rid_39 : decode cX5_rid 39 = .ok (.if_icmp .ge 31, 3) := by decide +kernel
theorem dX5_rid_42 : decode cX5_rid 42 = .ok (.iload_n 3, 1) := by decide +kernel
theorem dX5_rid_43 : decode cX5_rid 43 = .ok (.iconst 1, 1) := by decide +kernel
theorem dX5_rid_44 : decode cX5_rid 44 = .ok (.aload_n 0, 1) := by decide +kernel
theorem dX5_rid_45 : decode cX5_rid 45 = .ok (.getfield 32, 3) := by decide +kernel
theorem dX5_rid_48 : decode cX5_rid 48 = .ok (.aload_n 0, 1) := by decide +kernel
theorem dX5_rid_49 : decode cX5_rid 49 = .ok (.getfield 7, 3) := by decide +kernel
theorem dX5_rid_52 : decode cX5_rid 52 = .ok (.iconst 0, 1) := by decide +kernel
theorem dX5_rid_53 : decode cX5_rid 53 = .ok (.iload 4, 2) := by decide +kernel
theorem dX5_rid_55 : decode cX5_rid 55 = .ok (.iconst 0, 1) := by decide +kernel
theorem dX5_rid_56 : decode cX5_rid 56 = .ok (.invokestatic 136, 3) := by decide +kernel
theorem dX5_rid_59 : decode cX5_rid 59 = .ok (.iaload, 1) := by decide +kernel
theorem dX5_rid_60 : decode cX5_rid 60 = .ok (.iaload, 1) := by decide +kernel
theorem dX5_rid_61 : decode cX5_rid 61 = .ok (.ishl, 1) := by decide +kernel
theorem dX5_rid_62 : decode cX5_rid 62 = .ok (.ior, 1) := by decide +kernel
theorem dX5_rid_63 : decode cX5_rid 63 = .ok (.istore_n 3, 1) := by decide +kernel
theorem dX5_rid_64 : decode cX5_rid 64 = .ok (.iinc 4 1, 3) := by decide +kernel
theorem dX5_rid_67 : decode cX5_rid 67 = .ok (.goto (-37), 3) := by decide +kernel
theorem dX5_rid_70 : decode cX5_rid 70 = .ok (.iconst 1, 1) := by decide +kernel
theorem dX5_rid_71 : decode cX5_rid 71 = .ok (.istore 4, 2) := by decide +kernel
theorem dX5_rid_73 : decode cX5_rid 73 = .ok (.iconst 1, 1) := by decide +kernel
theorem dX5_rid_74 : decode cX5_rid 74 = .ok (.istore 5, 2) := by decide +kernel
theorem dX5_rid_76 : decode cX5_rid 76 = .ok (.iconst 0, 1) := by decide +kernel
theorem dX5_rid_77 : decode cX5_rid 77 = .ok (.istore 6, 2) := by decide +kernel
theorem dX5_rid_79 : decode cX5_rid 79 = .ok (.iload 6, 2) := by decide +kernel
theorem dX5_rid_81 : decode cX5_rid 81 = .ok (.bipush 10, 2) := by decide +kernel
theorem dX5_rid_83 : decode cX5_rid 83 = .ok (.if_icmp .ge 50, 3) := by decide +kernel
theorem dX5_rid_86 : decode cX5_rid 86 = .ok (.iload 4, 2) := by decide +kernel
theorem dX5_rid_88 : decode cX5_rid 88 = .ok (.iload_n 3, 1) := by decide +kernel
theorem dX5_rid_89 : decode cX5_rid 89 = .ok (.iload 6, 2) := by decide +kernel
theorem dX5_rid_91 : decode cX5_rid 91 = .ok (.ishr, 1) := by decide +kernel
theorem dX5_rid_92 : decode cX5_rid 92 = .ok (.iconst 1, 1) := by decide +kernel
theorem dX5_rid_93 : decode cX5_rid 93 = .ok (.iand, 1) := by decide +kernel
theorem dX5_rid_94 : decode cX5_rid 94 = .ok (.iconst 1, 1) := by decide +kernel
theorem dX5_rid_95 : decode cX5_rid 95 = .ok (.if_icmp .ne 7, 3) := by decide +kernel
theorem dX5_rid_98 : decode cX5_rid 98 = .ok (.iload_n 1, 1) := by decide +kernel
theorem dX5_rid_99 : decode cX5_rid 99 = .ok (.goto 4, 3) := by decide +kernel
theorem dX5_rid_102 : decode cX5_rid 102 = .ok (.iconst 1, 1) := by decide +kernel
theorem dX5_rid_103 : decode cX5_rid 103 = .ok (.imul, 1) := by decide +kernel
theorem dX5_rid_104 : decode cX5_rid 104 = .ok (.istore 4, 2) := by decide +kernel
theorem dX5_rid_106 : decode cX5_rid 106 = .ok (.iload 5, 2) := by decide +kernel
theorem dX5_rid_108 : decode cX5_rid 108 = .ok (.iload_n 3, 1) := by decide +kernel
theorem dX5_rid_109 : decode cX5_rid 109 = .ok (.iload 6, 2) := by decide +kernel
theorem dX5_rid_111 : decode cX5_rid 111 = .ok (.ishr, 1) := by decide +kernel
theorem dX5_rid_112 : decode cX5_rid 112 = .ok (.iconst 1, 1) := by decide +kernel
theorem dX5_rid_113 : decode cX5_rid 113 = .ok (.iand, 1) := by decide +kernel
theorem dX5_rid_114 : decode cX5_rid 114 = .ok (.iconst 1, 1) := by decide +kernel
theorem dX5_rid_115 : decode cX5_rid 115 = .ok (.if_icmp .ne 8, 3) := by decide +kernel
theorem dX5_rid_118 : decode cX5_rid 118 = .ok (.bipush 10, 2) := by decide +kernel
theorem dX5_rid_120 : decode cX5_rid 120 = .ok (.goto 4, 3) := by decide +kernel
theorem dX5_rid_123 : decode cX5_rid 123 = .ok (.iconst 1, 1) := by decide +kernel
theorem dX5_rid_124 : decode cX5_rid 124 = .ok (.imul, 1) := by decide +kernel
theorem dX5_rid_125 : decode cX5_rid 125 = .ok (.istore 5, 2) := by decide +kernel
theorem dX5_rid_127 : decode cX5_rid 127 = .ok (.iinc 6 1, 3) := by decide +kernel
theorem dX5_rid_130 : decode cX5_rid 130 = .ok (.goto (-51), 3) := by decide +kernel
theorem dX5_rid_133 : decode cX5_rid 133 = .ok (.iload 4, 2) := by decide +kernel
theorem dX5_rid_135 : decode cX5_rid 135 = .ok (.istore 6, 2) := by decide +kernel
theorem dX5_rid_137 : decode cX5_rid 137 = .ok (.iload 5, 2) := by decide +kernel
theorem dX5_rid_139 : decode cX5_rid 139 = .ok (.istore 7, 2) := by decide +kernel
theorem dX5_rid_141 : decode cX5_rid 141 = .ok (.iload 7, 2) := by decide +kernel
theorem dX5_rid_143 : decode cX5_rid 143 = .ok (.ifCond .eq 21, 3) := by decide +kernel
theorem dX5_rid_146 : decode cX5_rid 146 = .ok (.iload 6, 2) := by decide +kernel
theorem dX5_rid_148 : decode cX5_rid 148 = .ok (.iload 7, 2) := by decide +kernel
theorem dX5_rid_150 : decode cX5_rid 150 = .ok (.irem, 1) := by decide +kernel
theorem dX5_rid_151 : decode cX5_rid 151 = .ok (.istore 8, 2) := by decide +kernel
theorem dX5_rid_153 : decode cX5_rid 153 = .ok (.iload 7, 2) := by decide +kernel
theorem dX5_rid_155 : decode cX5_rid 155 = .ok (.istore 6, 2) := by decide +kernel
theorem dX5_rid_157 : decode cX5_rid 157 = .ok (.iload 8, 2) := by decide +kernel
theorem dX5_rid_159 : decode cX5_rid 159 = .ok (.istore 7, 2) := by decide +kernel
theorem dX5_rid_161 : decode cX5_rid 161 = .ok (.goto (-20), 3) := by decide +kernel
theorem dX5_rid_164 : decode cX5_rid 164 = .ok (.iload_n 2, 1) := by decide +kernel
theorem dX5_rid_165 : decode cX5_rid 165 = .ok (.ifCond .ne 11, 3) := by decide +kernel
theorem dX5_rid_168 : decode cX5_rid 168 = .ok (.iload 4, 2) := by decide +kernel
theorem dX5_rid_170 : decode cX5_rid 170 = .ok (.iload 6, 2) := by decide +kernel
theorem dX5_rid_172 : decode cX5_rid 172 = .ok (.idiv, 1) := by decide +kernel
theorem dX5_rid_173 : decode cX5_rid 173 = .ok (.goto 8, 3) := by decide +kernel
theorem dX5_rid_176 : decode cX5_rid 176 = .ok (.iload 5, 2) := by decide +kernel
theorem dX5_rid_178 : decode cX5_rid 178 = .ok (.iload 6, 2) := by decide +kernel
theorem dX5_rid_180 : decode cX5_rid 180 = .ok (.idiv, 1) := by decide +kernel
theorem dX5_rid_181 : decode cX5_rid 181 = .ok (.ireturn, 1) := by decide +kernel
set_option maxRecDepth 20000 in
theorem ggX5_grandson_X5_in : GoodIn wsX5_grandson wsX5_in := goodIn_r _ [8] (by decide +kernel) (by decide +kernel)
set_option maxRecDepth 20000 in
theorem gX5_grandson_X5_in : GoodIn wsX5_grandson (va_wsS RX5 50 yX5_in wsX5_in) := goodIn_app (goodIn_of _ (by decide +kernel)) ggX5_grandson_X5_in
set_option maxRecDepth 20000 in
theorem ggX5_grandson_X5_tryDays : GoodIn wsX5_grandson wsX5_tryDays := goodIn_r _ [12, 13, 14, 15, 7, 16, 4, 17, 18, 19, 20, 21, 22, 23, 24, 25, 26, 27, 28, 29, 30, 31, 32, 33, 34, 35, 36, 37, 38, 39, 40, 41, 42, 43, 44, 45, 50, 51, 52, 53, 54, 55, 56, 57, 58, 59, 60, 61, 62, 63, 64, 65, 66, 67, 68, 69, 70] (by decide +kernel) (by decide +kernel)
set_option maxRecDepth 20000 in
theorem gX5_grandson_X5_tryDays : GoodIn wsX5_grandson (wsV RX5 182 RX5 yX5_tryDays wsX5_tryDays) := goodIn_app (goodIn_of _ (by decide +kernel)) ggX5_grandson_X5_tryDays
set_option maxRecDepth 20000 in
theorem ggX5_grandson_X5_lives : GoodIn wsX5_grandson wsX5_lives := goodIn_r _ [49, 4, 50, 51, 52, 53, 54, 55, 56, 57, 58, 59, 60, 61, 62, 63, 64, 65, 66, 67, 68, 69, 70] (by decide +kernel) (by decide +kernel)
set_option maxRecDepth 20000 in
theorem gX5_grandson_X5_lives : GoodIn wsX5_grandson (wsV RX5 144 RX5 yX5_lives wsX5_lives) := goodIn_app (goodIn_of _ (by decide +kernel)) ggX5_grandson_X5_lives
theorem dX5_grandson_0 : decode cX5_grandson 0 = .ok (.iload_n 1, 1) := by decide +kernel
theorem dX5_grandson_1 : decode cX5_grandson 1 = .ok (.i2l, 1) := by decide +kernel
theorem dX5_grandson_2 : decode cX5_grandson 2 = .ok (.lconst 0, 1) := by decide +kernel
theorem dX5_grandson_3 : decode cX5_grandson 3 = .ok (.ldc2_w 169, 3) := by decide +kernel
theorem dX5_grandson_6 : decode cX5_grandson 6 = .ok (.invokestatic 50, 3) := by decide +kernel
theorem dX5_grandson_9 : decode cX5_grandson 9 = .ok (.ifCond .ne 6, 3) := by decide +kernel
theorem dX5_grandson_12 : decode cX5_grandson 12 = .ok (.bipush (-3), 2) := by decide +kernel
theorem dX5_grandson_14 : decode cX5_grandson 14 = .ok (.ireturn, 1) := by decide +kernel
theorem dX5_grandson_15 : decode cX5_grandson 15 = .ok (.aload_n 0, 1) := by decide +kernel
theorem dX5_grandson_16 : decode cX5_grandson 16 = .ok (.iload_n 1, 1) := by decide +kernel
theorem dX5_grandson_17 : decode cX5_grandson 17 = .ok (.aload_n 0, 1) := by decide +kernel
theorem dX5_grandson_18 : decode cX5_grandson 18 = .ok (.getfield 38, 3) := by decide +kernel
theorem dX5_grandson_21 : decode cX5_grandson 21 = .ok (.invokevirtual 182, 3) := by decide +kernel
theorem dX5_grandson_24 : decode cX5_grandson 24 = .ok (.iconst 0, 1) := by decide +kernel
theorem dX5_grandson_25 : decode cX5_grandson 25 = .ok (.istore_n 2, 1) := by decide +kernel
theorem dX5_grandson_26 : decode cX5_grandson 26 = .ok (.iconst 0, 1) := by decide +kernel
theorem dX5_grandson_27 : decode cX5_grandson 27 = .ok (.istore_n 3, 1) := by decide +kernel
theorem dX5_grandson_28 : decode cX5_grandson 28 = .ok (.iload_n 3, 1) := by decide +kernel
theorem dX5_grandson_29 : decode cX5_grandson 29 = .ok (.aload_n 0, 1) := by decide +kernel
theorem dX5_grandson_30 : decode cX5_grandson 30 = .ok (.getfield 115, 3) := by decide +kernel
theorem dX5_grandson_33 : decode cX5_grandson 33 = .ok (.if_icmp .ge 34, 3) := by decide +kernel
theorem dX5_grandson_36 : decode cX5_grandson 36 = .ok (.iload_n 2, 1) := by decide +kernel
theorem dX5_grandson_37 : decode cX5_grandson 37 = .ok (.aload_n 0, 1) := by decide +kernel
theorem dX5_grandson_38 : decode cX5_grandson 38 = .ok (.iload_n 3, 1) := by decide +kernel
theorem dX5_grandson_39 : decode cX5_grandson 39 = .ok (.invokevirtual 144, 3) := by decide +kernel
theorem dX5_grandson_42 : decode cX5_grandson 42 = .ok (.ifCond .eq 16, 3) := by decide +kernel
theorem dX5_grandson_45 : decode cX5_grandson 45 = .ok (.aload_n 0, 1) := by decide +kernel
theorem dX5_grandson_46 : decode cX5_grandson 46 = .ok (.getfield 7, 3) := by decide +kernel
theorem dX5_grandson_49 : decode cX5_grandson 49 = .ok (.sipush 227, 3) := by decide +kernel
theorem dX5_grandson_52 : decode cX5_grandson 52 = .ok (.iload_n 3, 1) := by decide +kernel
theorem dX5_grandson_53 : decode cX5_grandson 53 = .ok (.iadd, 1) := by decide +kernel
theorem dX5_grandson_54 : decode cX5_grandson 54 = .ok (.iaload, 1) := by decide +kernel
theorem dX5_grandson_55 : decode cX5_grandson 55 = .ok (.goto 4, 3) := by decide +kernel
theorem dX5_grandson_58 : decode cX5_grandson 58 = .ok (.iconst 0, 1) := by decide +kernel
theorem dX5_grandson_59 : decode cX5_grandson 59 = .ok (.iadd, 1) := by decide +kernel
theorem dX5_grandson_60 : decode cX5_grandson 60 = .ok (.istore_n 2, 1) := by decide +kernel
theorem dX5_grandson_61 : decode cX5_grandson 61 = .ok (.iinc 3 1, 3) := by decide +kernel
theorem dX5_grandson_64 : decode cX5_grandson 64 = .ok (.goto (-36), 3) := by decide +kernel
theorem dX5_grandson_67 : decode cX5_grandson 67 = .ok (.iload_n 2, 1) := by decide +kernel
theorem dX5_grandson_68 : decode cX5_grandson 68 = .ok (.ireturn, 1) := by decide +kernel
set_option maxRecDepth 20000 in
theorem ggX5_toWhom_X5_in : GoodIn wsX5_toWhom wsX5_in := goodIn_r _ [8] (by decide +kernel) (by decide +kernel)
set_option maxRecDepth 20000 in
theorem gX5_toWhom_X5_in : GoodIn wsX5_toWhom (va_wsS RX5 50 yX5_in wsX5_in) := goodIn_app (goodIn_of _ (by decide +kernel)) ggX5_toWhom_X5_in
set_option maxRecDepth 20000 in
theorem ggX5_toWhom_X5_lives : GoodIn wsX5_toWhom wsX5_lives := goodIn_r _ [12, 13, 25, 26, 27, 28, 29, 30, 31, 32, 33, 34, 35, 36, 37, 38, 39, 40, 41, 42, 43, 44, 45] (by decide +kernel) (by decide +kernel)
set_option maxRecDepth 20000 in
theorem gX5_toWhom_X5_lives : GoodIn wsX5_toWhom (wsV RX5 144 RX5 yX5_lives wsX5_lives) := goodIn_app (goodIn_of _ (by decide +kernel)) ggX5_toWhom_X5_lives
set_option maxRecDepth 20000 in
theorem ggX5_toWhom_X5_owedFor : GoodIn wsX5_toWhom wsX5_owedFor := goodIn_r _ [17, 18, 19, 20, 7, 21, 22, 23, 24, 25, 26, 27, 28, 29, 30, 31, 32, 33, 34, 35, 36, 37, 38, 39, 40, 41, 42, 43, 44, 45] (by decide +kernel) (by decide +kernel)
set_option maxRecDepth 20000 in
theorem gX5_toWhom_X5_owedFor : GoodIn wsX5_toWhom (wsV RX5 188 RX5 yX5_owedFor wsX5_owedFor) := goodIn_app (goodIn_of _ (by decide +kernel)) ggX5_toWhom_X5_owedFor
theorem dX5_toWhom_0 : decode cX5_toWhom 0 = .ok (.iload_n 1, 1) := by decide +kernel
theorem dX5_toWhom_1 : decode cX5_toWhom 1 = .ok (.i2l, 1) := by decide +kernel
theorem dX5_toWhom_2 : decode cX5_toWhom 2 = .ok (.lconst 1, 1) := by decide +kernel
theorem dX5_toWhom_3 : decode cX5_toWhom 3 = .ok (.ldc2_w 169, 3) := by decide +kernel
theorem dX5_toWhom_6 : decode cX5_toWhom 6 = .ok (.invokestatic 50, 3) := by decide +kernel
theorem dX5_toWhom_9 : decode cX5_toWhom 9 = .ok (.ifCond .eq 27, 3) := by decide +kernel
theorem dX5_toWhom_12 : decode cX5_toWhom 12 = .ok (.iload_n 2, 1) := by decide +kernel
theorem dX5_toWhom_13 : decode cX5_toWhom 13 = .ok (.i2l, 1) := by decide +kernel
theorem dX5_toWhom_14 : decode cX5_toWhom 14 = .ok (.lconst 0, 1) := by decide +kernel
theorem dX5_toWhom_15 : decode cX5_toWhom 15 = .ok (.ldc2_w 194, 3) := by decide +kernel
theorem dX5_toWhom_18 : decode cX5_toWhom 18 = .ok (.invokestatic 50, 3) := by decide +kernel
theorem dX5_toWhom_21 : decode cX5_toWhom 21 = .ok (.ifCond .eq 15, 3) := by decide +kernel
theorem dX5_toWhom_24 : decode cX5_toWhom 24 = .ok (.iload_n 3, 1) := by decide +kernel
theorem dX5_toWhom_25 : decode cX5_toWhom 25 = .ok (.i2l, 1) := by decide +kernel
theorem dX5_toWhom_26 : decode cX5_toWhom 26 = .ok (.lconst 0, 1) := by decide +kernel
theorem dX5_toWhom_27 : decode cX5_toWhom 27 = .ok (.ldc2_w 204, 3) := by decide +kernel
theorem dX5_toWhom_30 : decode cX5_toWhom 30 = .ok (.invokestatic 50, 3) := by decide +kernel
theorem dX5_toWhom_33 : decode cX5_toWhom 33 = .ok (.ifCond .ne 6, 3) := by decide +kernel
theorem dX5_toWhom_36 : decode cX5_toWhom 36 = .ok (.bipush (-3), 2) := by decide +kernel
theorem dX5_toWhom_38 : decode cX5_toWhom 38 = .ok (.ireturn, 1) := by decide +kernel
theorem dX5_toWhom_39 : decode cX5_toWhom 39 = .ok (.iconst 0, 1) := by decide +kernel
theorem dX5_toWhom_40 : decode cX5_toWhom 40 = .ok (.istore 4, 2) := by decide +kernel
theorem dX5_toWhom_42 : decode cX5_toWhom 42 = .ok (.iconst 0, 1) := by decide +kernel
theorem dX5_toWhom_43 : decode cX5_toWhom 43 = .ok (.istore 5, 2) := by decide +kernel
theorem dX5_toWhom_45 : decode cX5_toWhom 45 = .ok (.iload 5, 2) := by decide +kernel
theorem dX5_toWhom_47 : decode cX5_toWhom 47 = .ok (.aload_n 0, 1) := by decide +kernel
theorem dX5_toWhom_48 : decode cX5_toWhom 48 = .ok (.getfield 115, 3) := by decide +kernel
theorem dX5_toWhom_51 : decode cX5_toWhom 51 = .ok (.if_icmp .ge 43, 3) := by decide +kernel
theorem dX5_toWhom_54 : decode cX5_toWhom 54 = .ok (.iload 4, 2) := by decide +kernel
theorem dX5_toWhom_56 : decode cX5_toWhom 56 = .ok (.aload_n 0, 1) := by decide +kernel
theorem dX5_toWhom_57 : decode cX5_toWhom 57 = .ok (.iload 5, 2) := by decide +kernel
theorem dX5_toWhom_59 : decode cX5_toWhom 59 = .ok (.invokevirtual 144, 3) := by decide +kernel
theorem dX5_toWhom_62 : decode cX5_toWhom 62 = .ok (.ifCond .eq 22, 3) := by decide +kernel
theorem dX5_toWhom_65 : decode cX5_toWhom 65 = .ok (.aload_n 0, 1) := by decide +kernel
theorem dX5_toWhom_66 : decode cX5_toWhom 66 = .ok (.iload 5, 2) := by decide +kernel
theorem dX5_toWhom_68 : decode cX5_toWhom 68 = .ok (.iload_n 1, 1) := by decide +kernel
theorem dX5_toWhom_69 : decode cX5_toWhom 69 = .ok (.iload_n 2, 1) := by decide +kernel
theorem dX5_toWhom_70 : decode cX5_toWhom 70 = .ok (.invokevirtual 188, 3) := by decide +kernel
theorem dX5_toWhom_73 : decode cX5_toWhom 73 = .ok (.iload_n 3, 1) := by decide +kernel
theorem dX5_toWhom_74 : decode cX5_toWhom 74 = .ok (.if_icmp .ne 10, 3) := by decide +kernel
theorem dX5_toWhom_77 : decode cX5_toWhom 77 = .ok (.iconst 1, 1) := by decide +kernel
theorem dX5_toWhom_78 : decode cX5_toWhom 78 = .ok (.iload 5, 2) := by decide +kernel
theorem dX5_toWhom_80 : decode cX5_toWhom 80 = .ok (.ishl, 1) := by decide +kernel
theorem dX5_toWhom_81 : decode cX5_toWhom 81 = .ok (.goto 4, 3) := by decide +kernel
theorem dX5_toWhom_84 : decode cX5_toWhom 84 = .ok (.iconst 0, 1) := by decide +kernel
theorem dX5_toWhom_85 : decode cX5_toWhom 85 = .ok (.ior, 1) := by decide +kernel
theorem dX5_toWhom_86 : decode cX5_toWhom 86 = .ok (.istore 4, 2) := by decide +kernel
theorem dX5_toWhom_88 : decode cX5_toWhom 88 = .ok (.iinc 5 1, 3) := by decide +kernel
theorem dX5_toWhom_91 : decode cX5_toWhom 91 = .ok (.goto (-46), 3) := by decide +kernel
theorem dX5_toWhom_94 : decode cX5_toWhom 94 = .ok (.iload 4, 2) := by decide +kernel
theorem dX5_toWhom_96 : decode cX5_toWhom 96 = .ok (.ireturn, 1) := by decide +kernel
set_option maxRecDepth 20000 in
theorem ggX5_count_X5_owedAll : GoodIn wsX5_count wsX5_owedAll := goodIn_r _ [10, 4, 11, 12, 9, 13, 14, 15, 16, 17, 18, 19, 20, 21, 22, 23, 24, 25, 26, 27, 28, 29, 30, 31, 32, 33, 34] (by decide +kernel) (by decide +kernel)
set_option maxRecDepth 20000 in
theorem gX5_count_X5_owedAll : GoodIn wsX5_count (wsV RX5 185 RX5 yX5_owedAll wsX5_owedAll) := goodIn_app (goodIn_of _ (by decide +kernel)) ggX5_count_X5_owedAll
theorem dX5_count_0 : decode cX5_count 0 = .ok (.iload_n 1, 1) := by decide +kernel
theorem dX5_count_1 : decode cX5_count 1 = .ok (.tableswitch 95 0 7 #[47, 52, 57, 62, 70, 77, 84, 90], 47) := by decide +kernel
theorem dX5_count_48 : decode cX5_count 48 = .ok (.aload_n 0, 1) := by decide +kernel
theorem dX5_count_49 : decode cX5_count 49 = .ok (.getfield 115, 3) := by decide +kernel
theorem dX5_count_52 : decode cX5_count 52 = .ok (.ireturn, 1) := by decide +kernel
theorem dX5_count_53 : decode cX5_count 53 = .ok (.aload_n 0, 1) := by decide +kernel
theorem dX5_count_54 : decode cX5_count 54 = .ok (.getfield 118, 3) := by decide +kernel
theorem dX5_count_57 : decode cX5_count 57 = .ok (.ireturn, 1) := by decide +kernel
theorem dX5_count_58 : decode cX5_count 58 = .ok (.aload_n 0, 1) := by decide +kernel
theorem dX5_count_59 : decode cX5_count 59 = .ok (.getfield 38, 3) := by decide +kernel
theorem dX5_count_62 : decode cX5_count 62 = .ok (.ireturn, 1) := by decide +kernel
theorem dX5_count_63 : decode cX5_count 63 = .ok (.aload_n 0, 1) := by decide +kernel
theorem dX5_count_64 : decode cX5_count 64 = .ok (.getfield 7, 3) := by decide +kernel
theorem dX5_count_67 : decode cX5_count 67 = .ok (.bipush 14, 2) := by decide +kernel
theorem dX5_count_69 : decode cX5_count 69 = .ok (.iaload, 1) := by decide +kernel
theorem dX5_count_70 : decode cX5_count 70 = .ok (.ireturn, 1) := by decide +kernel
theorem dX5_count_71 : decode cX5_count 71 = .ok (.aload_n 0, 1) := by decide +kernel
theorem dX5_count_72 : decode cX5_count 72 = .ok (.getfield 7, 3) := by decide +kernel
theorem dX5_count_75 : decode cX5_count 75 = .ok (.iconst 0, 1) := by decide +kernel
theorem dX5_count_76 : decode cX5_count 76 = .ok (.iaload, 1) := by decide +kernel
theorem dX5_count_77 : decode cX5_count 77 = .ok (.ireturn, 1) := by decide +kernel
theorem dX5_count_78 : decode cX5_count 78 = .ok (.aload_n 0, 1) := by decide +kernel
theorem dX5_count_79 : decode cX5_count 79 = .ok (.getfield 7, 3) := by decide +kernel
theorem dX5_count_82 : decode cX5_count 82 = .ok (.iconst 1, 1) := by decide +kernel
theorem dX5_count_83 : decode cX5_count 83 = .ok (.iaload, 1) := by decide +kernel
theorem dX5_count_84 : decode cX5_count 84 = .ok (.ireturn, 1) := by decide +kernel
theorem dX5_count_85 : decode cX5_count 85 = .ok (.aload_n 0, 1) := by decide +kernel
theorem dX5_count_86 : decode cX5_count 86 = .ok (.iconst 0, 1) := by decide +kernel
theorem dX5_count_87 : decode cX5_count 87 = .ok (.invokevirtual 185, 3) := by decide +kernel
theorem dX5_count_90 : decode cX5_count 90 = .ok (.ireturn, 1) := by decide +kernel
theorem dX5_count_91 : decode cX5_count 91 = .ok (.aload_n 0, 1) := by decide +kernel
theorem dX5_count_92 : decode cX5_count 92 = .ok (.getfield 54, 3) := by decide +kernel
theorem dX5_count_95 : decode cX5_count 95 = .ok (.ireturn, 1) := by decide +kernel
theorem dX5_count_96 : decode cX5_count 96 = .ok (.bipush (-3), 2) := by decide +kernel
theorem dX5_count_98 : decode cX5_count 98 = .ok (.ireturn, 1) := by decide +kernel
theorem dJ6_bitCount_0f7a4_0 : decode cJ6_bitCount_0f7a4 0 = .ok (.iload_n 0, 1) := by decide +kernel
theorem dJ6_bitCount_0f7a4_1 : decode cJ6_bitCount_0f7a4 1 = .ok (.iload_n 0, 1) := by decide +kernel
theorem dJ6_bitCount_0f7a4_2 : decode cJ6_bitCount_0f7a4 2 = .ok (.iconst 1, 1) := by decide +kernel
theorem dJ6_bitCount_0f7a4_3 : decode cJ6_bitCount_0f7a4 3 = .ok (.iushr, 1) := by decide +kernel
theorem dJ6_bitCount_0f7a4_4 : decode cJ6_bitCount_0f7a4 4 = .ok (.ldc_w 265, 3) := by decide +kernel
theorem dJ6_bitCount_0f7a4_7 : decode cJ6_bitCount_0f7a4 7 = .ok (.iand, 1) := by decide +kernel
theorem dJ6_bitCount_0f7a4_8 : decode cJ6_bitCount_0f7a4 8 = .ok (.isub, 1) := by decide +kernel
theorem dJ6_bitCount_0f7a4_9 : decode cJ6_bitCount_0f7a4 9 = .ok (.istore_n 0, 1) := by decide +kernel
theorem dJ6_bitCount_0f7a4_10 : decode cJ6_bitCount_0f7a4 10 = .ok (.iload_n 0, 1) := by decide +kernel
theorem dJ6_bitCount_0f7a4_11 : decode cJ6_bitCount_0f7a4 11 = .ok (.ldc_w 266, 3) := by decide +kernel
theorem dJ6_bitCount_0f7a4_14 : decode cJ6_bitCount_0f7a4 14 = .ok (.iand, 1) := by decide +kernel
theorem dJ6_bitCount_0f7a4_15 : decode cJ6_bitCount_0f7a4 15 = .ok (.iload_n 0, 1) := by decide +kernel
theorem dJ6_bitCount_0f7a4_16 : decode cJ6_bitCount_0f7a4 16 = .ok (.iconst 2, 1) := by decide +kernel
theorem dJ6_bitCount_0f7a4_17 : decode cJ6_bitCount_0f7a4 17 = .ok (.iushr, 1) := by decide +kernel
theorem dJ6_bitCount_0f7a4_18 : decode cJ6_bitCount_0f7a4 18 = .ok (.ldc_w 266, 3) := by decide +kernel
theorem dJ6_bitCount_0f7a4_21 : decode cJ6_bitCount_0f7a4 21 = .ok (.iand, 1) := by decide +kernel
theorem dJ6_bitCount_0f7a4_22 : decode cJ6_bitCount_0f7a4 22 = .ok (.iadd, 1) := by decide +kernel
theorem dJ6_bitCount_0f7a4_23 : decode cJ6_bitCount_0f7a4 23 = .ok (.istore_n 0, 1) := by decide +kernel
theorem dJ6_bitCount_0f7a4_24 : decode cJ6_bitCount_0f7a4 24 = .ok (.iload_n 0, 1) := by decide +kernel
theorem dJ6_bitCount_0f7a4_25 : decode cJ6_bitCount_0f7a4 25 = .ok (.iload_n 0, 1) := by decide +kernel
theorem dJ6_bitCount_0f7a4_26 : decode cJ6_bitCount_0f7a4 26 = .ok (.iconst 4, 1) := by decide +kernel
theorem dJ6_bitCount_0f7a4_27 : decode cJ6_bitCount_0f7a4 27 = .ok (.iushr, 1) := by decide +kernel
theorem dJ6_bitCount_0f7a4_28 : decode cJ6_bitCount_0f7a4 28 = .ok (.iadd, 1) := by decide +kernel
theorem dJ6_bitCount_0f7a4_29 : decode cJ6_bitCount_0f7a4 29 = .ok (.ldc_w 267, 3) := by decide +kernel
theorem dJ6_bitCount_0f7a4_32 : decode cJ6_bitCount_0f7a4 32 = .ok (.iand, 1) := by decide +kernel
theorem dJ6_bitCount_0f7a4_33 : decode cJ6_bitCount_0f7a4 33 = .ok (.istore_n 0, 1) := by decide +kernel
theorem dJ6_bitCount_0f7a4_34 : decode cJ6_bitCount_0f7a4 34 = .ok (.iload_n 0, 1) := by decide +kernel
theorem dJ6_bitCount_0f7a4_35 : decode cJ6_bitCount_0f7a4 35 = .ok (.iload_n 0, 1) := by decide +kernel
theorem dJ6_bitCount_0f7a4_36 : decode cJ6_bitCount_0f7a4 36 = .ok (.bipush 8, 2) := by decide +kernel
theorem dJ6_bitCount_0f7a4_38 : decode cJ6_bitCount_0f7a4 38 = .ok (.iushr, 1) := by decide +kernel
theorem dJ6_bitCount_0f7a4_39 : decode cJ6_bitCount_0f7a4 39 = .ok (.iadd, 1) := by decide +kernel
theorem dJ6_bitCount_0f7a4_40 : decode cJ6_bitCount_0f7a4 40 = .ok (.istore_n 0, 1) := by decide +kernel
theorem dJ6_bitCount_0f7a4_41 : decode cJ6_bitCount_0f7a4 41 = .ok (.iload_n 0, 1) := by decide +kernel
theorem dJ6_bitCount_0f7a4_42 : decode cJ6_bitCount_0f7a4 42 = .ok (.iload_n 0, 1) := by decide +kernel
theorem dJ6_bitCount_0f7a4_43 : decode cJ6_bitCount_0f7a4 43 = .ok (.bipush 16, 2) := by decide +kernel
theorem dJ6_bitCount_0f7a4_45 : decode cJ6_bitCount_0f7a4 45 = .ok (.iushr, 1) := by decide +kernel
theorem dJ6_bitCount_0f7a4_46 : decode cJ6_bitCount_0f7a4 46 = .ok (.iadd, 1) := by decide +kernel
theorem dJ6_bitCount_0f7a4_47 : decode cJ6_bitCount_0f7a4 47 = .ok (.istore_n 0, 1) := by decide +kernel
theorem dJ6_bitCount_0f7a4_48 : decode cJ6_bitCount_0f7a4 48 = .ok (.iload_n 0, 1) := by decide +kernel
theorem dJ6_bitCount_0f7a4_49 : decode cJ6_bitCount_0f7a4 49 = .ok (.bipush 63, 2) := by decide +kernel
theorem dJ6_bitCount_0f7a4_51 : decode cJ6_bitCount_0f7a4 51 = .ok (.iand, 1) := by decide +kernel
theorem dJ6_bitCount_0f7a4_52 : decode cJ6_bitCount_0f7a4 52 = .ok (.ireturn, 1) := by decide +kernel
theorem dJ9_min_7cf53_0 : decode cJ9_min_7cf53 0 = .ok (.iload_n 0, 1) := by decide +kernel
theorem dJ9_min_7cf53_1 : decode cJ9_min_7cf53 1 = .ok (.iload_n 1, 1) := by decide +kernel
theorem dJ9_min_7cf53_2 : decode cJ9_min_7cf53 2 = .ok (.if_icmp .gt 7, 3) := by decide +kernel
theorem dJ9_min_7cf53_5 : decode cJ9_min_7cf53 5 = .ok (.iload_n 0, 1) := by decide +kernel
theorem dJ9_min_7cf53_6 : decode cJ9_min_7cf53 6 = .ok (.goto 4, 3) := by decide +kernel
theorem dJ9_min_7cf53_9 : decode cJ9_min_7cf53 9 = .ok (.iload_n 1, 1) := by decide +kernel
theorem dJ9_min_7cf53_10 : decode cJ9_min_7cf53 10 = .ok (.ireturn, 1) := by decide +kernel
set_option maxRecDepth 20000 in
theorem ggJ0_length_8abf5_J0_coder_7d493 : GoodIn wsJ0_length_8abf5 wsJ0_coder_7d493 := goodIn_r _ [6, 7, 8] (by decide +kernel) (by decide +kernel)
set_option maxRecDepth 20000 in
theorem gJ0_length_8abf5_J0_coder_7d493 : GoodIn wsJ0_length_8abf5 (wsV RJ0 335 RJ0 yJ0_coder_7d493 wsJ0_coder_7d493) := goodIn_app (goodIn_of _ (by decide +kernel)) ggJ0_length_8abf5_J0_coder_7d493
theorem dJ0_length_8abf5_0 : decode cJ0_length_8abf5 0 = .ok (.aload_n 0, 1) := by decide +kernel
theorem dJ0_length_8abf5_1 : decode cJ0_length_8abf5 1 = .ok (.getfield 9, 3) := by decide +kernel
theorem dJ0_length_8abf5_4 : decode cJ0_length_8abf5 4 = .ok (.arraylength, 1) := by decide +kernel
theorem dJ0_length_8abf5_5 : decode cJ0_length_8abf5 5 = .ok (.aload_n 0, 1) := by decide +kernel
theorem dJ0_length_8abf5_6 : decode cJ0_length_8abf5 6 = .ok (.invokevirtual 335, 3) := by decide +kernel
theorem dJ0_length_8abf5_9 : decode cJ0_length_8abf5 9 = .ok (.ishr, 1) := by decide +kernel
theorem dJ0_length_8abf5_10 : decode cJ0_length_8abf5 10 = .ok (.ireturn, 1) := by decide +kernel
set_option maxRecDepth 20000 in
theorem ggJ0_charAt_5068e_J0_isLatin1_aae02 : GoodIn wsJ0_charAt_5068e wsJ0_isLatin1_aae02 := goodIn_r _ [6, 7, 8] (by decide +kernel) (by decide +kernel)
set_option maxRecDepth 20000 in
theorem gJ0_charAt_5068e_J0_isLatin1_aae02 : GoodIn wsJ0_charAt_5068e (wsV RJ0 492 RJ0 yJ0_isLatin1_aae02 wsJ0_isLatin1_aae02) := goodIn_app (goodIn_of _ (by decide +kernel)) ggJ0_charAt_5068e_J0_isLatin1_aae02
set_option maxRecDepth 20000 in
theorem ggJ0_charAt_5068e_J1_charAt_3b067 : GoodIn wsJ0_charAt_5068e wsJ1_charAt_3b067 := goodIn_r _ [12, 13, 14, 5, 15, 16, 17, 18, 19, 20] (by decide +kernel) (by decide +kernel)
set_option maxRecDepth 20000 in
theorem gJ0_charAt_5068e_J1_charAt_3b067 : GoodIn wsJ0_charAt_5068e (va_wsS RJ0 495 yJ1_charAt_3b067 wsJ1_charAt_3b067) := goodIn_app (goodIn_of _ (by decide +kernel)) ggJ0_charAt_5068e_J1_charAt_3b067
set_option maxRecDepth 20000 in
theorem ggJ0_charAt_5068e_J2_charAt_3b067 : GoodIn wsJ0_charAt_5068e wsJ2_charAt_3b067 := goodIn_r _ [24, 25, 26, 23, 27, 28, 29, 30, 31, 14, 5, 15, 16, 17, 18, 19, 20, 32, 33, 34, 35, 36, 37] (by decide +kernel) (by decide +kernel)
set_option maxRecDepth 20000 in
theorem gJ0_charAt_5068e_J2_charAt_3b067 : GoodIn wsJ0_charAt_5068e (va_wsS RJ0 498 yJ2_charAt_3b067 wsJ2_charAt_3b067) := goodIn_app (goodIn_of _ (by decide +kernel)) ggJ0_charAt_5068e_J2_charAt_3b067
theorem dJ0_charAt_5068e_0 : decode cJ0_charAt_5068e 0 = .ok (.aload_n 0, 1) := by decide +kernel
theorem dJ0_charAt_5068e_1 : decode cJ0_charAt_5068e 1 = .ok (.invokevirtual 492, 3) := by decide +kernel
theorem dJ0_charAt_5068e_4 : decode cJ0_charAt_5068e 4 = .ok (.ifCond .eq 12, 3) := by decide +kernel
theorem dJ0_charAt_5068e_7 : decode cJ0_charAt_5068e 7 = .ok (.aload_n 0, 1) := by decide +kernel
theorem dJ0_charAt_5068e_8 : decode cJ0_charAt_5068e 8 = .ok (.getfield 9, 3) := by decide +kernel
theorem dJ0_charAt_5068e_11 : decode cJ0_charAt_5068e 11 = .ok (.iload_n 1, 1) := by decide +kernel
theorem dJ0_charAt_5068e_12 : decode cJ0_charAt_5068e 12 = .ok (.invokestatic 495, 3) := by decide +kernel
theorem dJ0_charAt_5068e_15 : decode cJ0_charAt_5068e 15 = .ok (.ireturn, 1) := by decide +kernel
theorem dJ0_charAt_5068e_16 : decode cJ0_charAt_5068e 16 = .ok (.aload_n 0, 1) := by decide +kernel
theorem dJ0_charAt_5068e_17 : decode cJ0_charAt_5068e 17 = .ok (.getfield 9, 3) := by decide +kernel
theorem dJ0_charAt_5068e_20 : decode cJ0_charAt_5068e 20 = .ok (.iload_n 1, 1) := by decide +kernel
theorem dJ0_charAt_5068e_21 : decode cJ0_charAt_5068e 21 = .ok (.invokestatic 498, 3) := by decide +kernel
theorem dJ0_charAt_5068e_24 : decode cJ0_charAt_5068e 24 = .ok (.ireturn, 1) := by decide +kernel
theorem dJ0_coder_7d493_0 : decode cJ0_coder_7d493 0 = .ok (.getstatic 38, 3) := by decide +kernel
theorem dJ0_coder_7d493_3 : decode cJ0_coder_7d493 3 = .ok (.ifCond .eq 10, 3) := by decide +kernel
theorem dJ0_coder_7d493_6 : decode cJ0_coder_7d493 6 = .ok (.aload_n 0, 1) := by decide +kernel
theorem dJ0_coder_7d493_7 : decode cJ0_coder_7d493 7 = .ok (.getfield 15, 3) := by decide +kernel
theorem dJ0_coder_7d493_10 : decode cJ0_coder_7d493 10 = .ok (.goto 4, 3) := by decide +kernel
theorem dJ0_coder_7d493_13 : decode cJ0_coder_7d493 13 = .ok (.iconst 1, 1) := by decide +kernel
theorem dJ0_coder_7d493_14 : decode cJ0_coder_7d493 14 = .ok (.ireturn, 1) := by decide +kernel
theorem dJ0_isLatin1_aae02_0 : decode cJ0_isLatin1_aae02 0 = .ok (.getstatic 38, 3) := by decide +kernel
theorem dJ0_isLatin1_aae02_3 : decode cJ0_isLatin1_aae02 3 = .ok (.ifCond .eq 14, 3) := by decide +kernel
theorem dJ0_isLatin1_aae02_6 : decode cJ0_isLatin1_aae02 6 = .ok (.aload_n 0, 1) := by decide +kernel
theorem dJ0_isLatin1_aae02_7 : decode cJ0_isLatin1_aae02 7 = .ok (.getfield 15, 3) := by decide +kernel
theorem dJ0_isLatin1_aae02_10 : decode cJ0_isLatin1_aae02 10 = .ok (.ifCond .ne 7, 3) := by decide +kernel
theorem dJ0_isLatin1_aae02_13 : decode cJ0_isLatin1_aae02 13 = .ok (.iconst 1, 1) := by decide +kernel
theorem dJ0_isLatin1_aae02_14 : decode cJ0_isLatin1_aae02 14 = .ok (.goto 4, 3) := by decide +kernel
theorem dJ0_isLatin1_aae02_17 : decode cJ0_isLatin1_aae02 17 = .ok (.iconst 0, 1) := by decide +kernel
theorem dJ0_isLatin1_aae02_18 : decode cJ0_isLatin1_aae02 18 = .ok (.ireturn, 1) := by decide +kernel
set_option maxRecDepth 20000 in
theorem ggJ0_checkIndex_df160_J3_checkIndex_8e157 : GoodIn wsJ0_checkIndex_df160 wsJ3_checkIndex_8e157 := goodIn_r _ [5] (by decide +kernel) (by decide +kernel)
set_option maxRecDepth 20000 in
theorem gJ0_checkIndex_df160_J3_checkIndex_8e157 : GoodIn wsJ0_checkIndex_df160 (va_wsS RJ0 1059 yJ3_checkIndex_8e157 wsJ3_checkIndex_8e157) := goodIn_app (goodIn_of _ (by decide +kernel)) ggJ0_checkIndex_df160_J3_checkIndex_8e157
theorem dJ0_checkIndex_df160_0 : decode cJ0_checkIndex_df160 0 = .ok (.iload_n 0, 1) := by decide +kernel
theorem dJ0_checkIndex_df160_1 : decode cJ0_checkIndex_df160 1 = .ok (.iload_n 1, 1) := by decide +kernel
theorem dJ0_checkIndex_df160_2 : decode cJ0_checkIndex_df160 2 = .ok (.getstatic 1053, 3) := by decide +kernel
theorem dJ0_checkIndex_df160_5 : decode cJ0_checkIndex_df160 5 = .ok (.invokestatic 1059, 3) := by decide +kernel
theorem dJ0_checkIndex_df160_8 : decode cJ0_checkIndex_df160 8 = .ok (.pop, 1) := by decide +kernel
theorem dJ0_checkIndex_df160_9 : decode cJ0_checkIndex_df160 9 = .ok (.return_, 1) := by decide +kernel
set_option maxRecDepth 20000 in
theorem ggJ1_charAt_3b067_J0_checkIndex_df160 : GoodIn wsJ1_charAt_3b067 wsJ0_checkIndex_df160 := goodIn_r _ [4, 5, 6, 7, 8, 9] (by decide +kernel) (by decide +kernel)
set_option maxRecDepth 20000 in
theorem gJ1_charAt_3b067_J0_checkIndex_df160 : GoodIn wsJ1_charAt_3b067 (va_wsS RJ1 9 yJ0_checkIndex_df160 wsJ0_checkIndex_df160) := goodIn_app (goodIn_of _ (by decide +kernel)) ggJ1_charAt_3b067_J0_checkIndex_df160
theorem dJ1_charAt_3b067_0 : decode cJ1_charAt_3b067 0 = .ok (.iload_n 1, 1) := by decide +kernel
theorem dJ1_charAt_3b067_1 : decode cJ1_charAt_3b067 1 = .ok (.aload_n 0, 1) := by decide +kernel
theorem dJ1_charAt_3b067_2 : decode cJ1_charAt_3b067 2 = .ok (.arraylength, 1) := by decide +kernel
theorem dJ1_charAt_3b067_3 : decode cJ1_charAt_3b067 3 = .ok (.invokestatic 9, 3) := by decide +kernel
theorem dJ1_charAt_3b067_6 : decode cJ1_charAt_3b067 6 = .ok (.aload_n 0, 1) := by decide +kernel
theorem dJ1_charAt_3b067_7 : decode cJ1_charAt_3b067 7 = .ok (.iload_n 1, 1) := by decide +kernel
theorem dJ1_charAt_3b067_8 : decode cJ1_charAt_3b067 8 = .ok (.baload, 1) := by decide +kernel
theorem dJ1_charAt_3b067_9 : decode cJ1_charAt_3b067 9 = .ok (.sipush 255, 3) := by decide +kernel
theorem dJ1_charAt_3b067_12 : decode cJ1_charAt_3b067 12 = .ok (.iand, 1) := by decide +kernel
theorem dJ1_charAt_3b067_13 : decode cJ1_charAt_3b067 13 = .ok (.i2c, 1) := by decide +kernel
theorem dJ1_charAt_3b067_14 : decode cJ1_charAt_3b067 14 = .ok (.ireturn, 1) := by decide +kernel
set_option maxRecDepth 20000 in
theorem ggJ2_getChar_3b067_J2_length_9d52b : GoodIn wsJ2_getChar_3b067 wsJ2_length_9d52b := goodIn_r _ [7] (by decide +kernel) (by decide +kernel)
set_option maxRecDepth 20000 in
theorem gJ2_getChar_3b067_J2_length_9d52b : GoodIn wsJ2_getChar_3b067 (va_wsS RJ2 48 yJ2_length_9d52b wsJ2_length_9d52b) := goodIn_app (goodIn_of _ (by decide +kernel)) ggJ2_getChar_3b067_J2_length_9d52b
theorem dJ2_getChar_3b067_0 : decode cJ2_getChar_3b067 0 = .ok (.getstatic 44, 3) := by decide +kernel
theorem dJ2_getChar_3b067_3 : decode cJ2_getChar_3b067 3 = .ok (.ifCond .ne 25, 3) := by decide +kernel
theorem dJ2_getChar_3b067_6 : decode cJ2_getChar_3b067 6 = .ok (.iload_n 1, 1) := by decide +kernel
theorem dJ2_getChar_3b067_7 : decode cJ2_getChar_3b067 7 = .ok (.ifCond .lt 11, 3) := by decide +kernel
theorem dJ2_getChar_3b067_10 : decode cJ2_getChar_3b067 10 = .ok (.iload_n 1, 1) := by decide +kernel
theorem dJ2_getChar_3b067_11 : decode cJ2_getChar_3b067 11 = .ok (.aload_n 0, 1) := by decide +kernel
theorem dJ2_getChar_3b067_12 : decode cJ2_getChar_3b067 12 = .ok (.invokestatic 48, 3) := by decide +kernel
theorem dJ2_getChar_3b067_15 : decode cJ2_getChar_3b067 15 = .ok (.if_icmp .lt 13, 3) := by decide +kernel
theorem dJ2_getChar_3b067_18 : decode cJ2_getChar_3b067 18 = .ok (.new 52, 3) := by decide +kernel
theorem dJ2_getChar_3b067_21 : decode cJ2_getChar_3b067 21 = .ok (.dup, 1) := by decide +kernel
theorem dJ2_getChar_3b067_22 : decode cJ2_getChar_3b067 22 = .ok (.ldc 54, 2) := by decide +kernel
theorem dJ2_getChar_3b067_24 : decode cJ2_getChar_3b067 24 = .ok (.invokespecial 56, 3) := by decide +kernel
theorem dJ2_getChar_3b067_27 : decode cJ2_getChar_3b067 27 = .ok (.athrow, 1) := by decide +kernel
theorem dJ2_getChar_3b067_28 : decode cJ2_getChar_3b067 28 = .ok (.iload_n 1, 1) := by decide +kernel
theorem dJ2_getChar_3b067_29 : decode cJ2_getChar_3b067 29 = .ok (.iconst 1, 1) := by decide +kernel
theorem dJ2_getChar_3b067_30 : decode cJ2_getChar_3b067 30 = .ok (.ishl, 1) := by decide +kernel
theorem dJ2_getChar_3b067_31 : decode cJ2_getChar_3b067 31 = .ok (.istore_n 1, 1) := by decide +kernel
theorem dJ2_getChar_3b067_32 : decode cJ2_getChar_3b067 32 = .ok (.aload_n 0, 1) := by decide +kernel
theorem dJ2_getChar_3b067_33 : decode cJ2_getChar_3b067 33 = .ok (.iload_n 1, 1) := by decide +kernel
theorem dJ2_getChar_3b067_34 : decode cJ2_getChar_3b067 34 = .ok (.iinc 1 1, 3) := by decide +kernel
theorem dJ2_getChar_3b067_37 : decode cJ2_getChar_3b067 37 = .ok (.baload, 1) := by decide +kernel
theorem dJ2_getChar_3b067_38 : decode cJ2_getChar_3b067 38 = .ok (.sipush 255, 3) := by decide +kernel
theorem dJ2_getChar_3b067_41 : decode cJ2_getChar_3b067 41 = .ok (.iand, 1) := by decide +kernel
theorem dJ2_getChar_3b067_42 : decode cJ2_getChar_3b067 42 = .ok (.getstatic 59, 3) := by decide +kernel
theorem dJ2_getChar_3b067_45 : decode cJ2_getChar_3b067 45 = .ok (.ishl, 1) := by decide +kernel
theorem dJ2_getChar_3b067_46 : decode cJ2_getChar_3b067 46 = .ok (.aload_n 0, 1) := by decide +kernel
theorem dJ2_getChar_3b067_47 : decode cJ2_getChar_3b067 47 = .ok (.iload_n 1, 1) := by decide +kernel
theorem dJ2_getChar_3b067_48 : decode cJ2_getChar_3b067 48 = .ok (.baload, 1) := by decide +kernel
theorem dJ2_getChar_3b067_49 : decode cJ2_getChar_3b067 49 = .ok (.sipush 255, 3) := by decide +kernel
theorem dJ2_getChar_3b067_52 : decode cJ2_getChar_3b067 52 = .ok (.iand, 1) := by decide +kernel
theorem dJ2_getChar_3b067_53 : decode cJ2_getChar_3b067 53 = .ok (.getstatic 63, 3) := by decide +kernel
theorem dJ2_getChar_3b067_56 : decode cJ2_getChar_3b067 56 = .ok (.ishl, 1) := by decide +kernel
theorem dJ2_getChar_3b067_57 : decode cJ2_getChar_3b067 57 = .ok (.ior, 1) := by decide +kernel
theorem dJ2_getChar_3b067_58 : decode cJ2_getChar_3b067 58 = .ok (.i2c, 1) := by decide +kernel
theorem dJ2_getChar_3b067_59 : decode cJ2_getChar_3b067 59 = .ok (.ireturn, 1) := by decide +kernel
theorem dJ2_length_9d52b_0 : decode cJ2_length_9d52b 0 = .ok (.aload_n 0, 1) := by decide +kernel
theorem dJ2_length_9d52b_1 : decode cJ2_length_9d52b 1 = .ok (.arraylength, 1) := by decide +kernel
theorem dJ2_length_9d52b_2 : decode cJ2_length_9d52b 2 = .ok (.iconst 1, 1) := by decide +kernel
theorem dJ2_length_9d52b_3 : decode cJ2_length_9d52b 3 = .ok (.ishr, 1) := by decide +kernel
theorem dJ2_length_9d52b_4 : decode cJ2_length_9d52b 4 = .ok (.ireturn, 1) := by decide +kernel
set_option maxRecDepth 20000 in
theorem ggJ2_charAt_3b067_J2_checkIndex_2214a : GoodIn wsJ2_charAt_3b067 wsJ2_checkIndex_2214a := goodIn_r _ [4, 5, 6, 3, 7, 8, 9, 10, 11, 12, 13, 14, 15, 16] (by decide +kernel) (by decide +kernel)
set_option maxRecDepth 20000 in
theorem gJ2_charAt_3b067_J2_checkIndex_2214a : GoodIn wsJ2_charAt_3b067 (va_wsS RJ2 67 yJ2_checkIndex_2214a wsJ2_checkIndex_2214a) := goodIn_app (goodIn_of _ (by decide +kernel)) ggJ2_charAt_3b067_J2_checkIndex_2214a
set_option maxRecDepth 20000 in
theorem ggJ2_charAt_3b067_J2_getChar_3b067 : GoodIn wsJ2_charAt_3b067 wsJ2_getChar_3b067 := goodIn_r _ [19, 20, 21, 22, 5, 6, 3, 7] (by decide +kernel) (by decide +kernel)
set_option maxRecDepth 20000 in
theorem gJ2_charAt_3b067_J2_getChar_3b067 : GoodIn wsJ2_charAt_3b067 (va_wsS RJ2 71 yJ2_getChar_3b067 wsJ2_getChar_3b067) := goodIn_app (goodIn_of _ (by decide +kernel)) ggJ2_charAt_3b067_J2_getChar_3b067
theorem dJ2_charAt_3b067_0 : decode cJ2_charAt_3b067 0 = .ok (.iload_n 1, 1) := by decide +kernel
theorem dJ2_charAt_3b067_1 : decode cJ2_charAt_3b067 1 = .ok (.aload_n 0, 1) := by decide +kernel
theorem dJ2_charAt_3b067_2 : decode cJ2_charAt_3b067 2 = .ok (.invokestatic 67, 3) := by decide +kernel
theorem dJ2_charAt_3b067_5 : decode cJ2_charAt_3b067 5 = .ok (.aload_n 0, 1) := by decide +kernel
theorem dJ2_charAt_3b067_6 : decode cJ2_charAt_3b067 6 = .ok (.iload_n 1, 1) := by decide +kernel
theorem dJ2_charAt_3b067_7 : decode cJ2_charAt_3b067 7 = .ok (.invokestatic 71, 3) := by decide +kernel
theorem dJ2_charAt_3b067_10 : decode cJ2_charAt_3b067 10 = .ok (.ireturn, 1) := by decide +kernel
set_option maxRecDepth 20000 in
theorem ggJ2_checkIndex_2214a_J2_length_9d52b : GoodIn wsJ2_checkIndex_2214a wsJ2_length_9d52b := goodIn_r _ [4] (by decide +kernel) (by decide +kernel)
set_option maxRecDepth 20000 in
theorem gJ2_checkIndex_2214a_J2_length_9d52b : GoodIn wsJ2_checkIndex_2214a (va_wsS RJ2 48 yJ2_length_9d52b wsJ2_length_9d52b) := goodIn_app (goodIn_of _ (by decide +kernel)) ggJ2_checkIndex_2214a_J2_length_9d52b
set_option maxRecDepth 20000 in
theorem ggJ2_checkIndex_2214a_J0_checkIndex_df160 : GoodIn wsJ2_checkIndex_2214a wsJ0_checkIndex_df160 := goodIn_r _ [8, 9, 10, 11, 12, 13] (by decide +kernel) (by decide +kernel)
set_option maxRecDepth 20000 in
theorem gJ2_checkIndex_2214a_J0_checkIndex_df160 : GoodIn wsJ2_checkIndex_2214a (va_wsS RJ2 414 yJ0_checkIndex_df160 wsJ0_checkIndex_df160) := goodIn_app (goodIn_of _ (by decide +kernel)) ggJ2_checkIndex_2214a_J0_checkIndex_df160
theorem dJ2_checkIndex_2214a_0 : decode cJ2_checkIndex_2214a 0 = .ok (.iload_n 0, 1) := by decide +kernel
theorem dJ2_checkIndex_2214a_1 : decode cJ2_checkIndex_2214a 1 = .ok (.aload_n 1, 1) := by decide +kernel
theorem dJ2_checkIndex_2214a_2 : decode cJ2_checkIndex_2214a 2 = .ok (.invokestatic 48, 3) := by decide +kernel
theorem dJ2_checkIndex_2214a_5 : decode cJ2_checkIndex_2214a 5 = .ok (.invokestatic 414, 3) := by decide +kernel
theorem dJ2_checkIndex_2214a_8 : decode cJ2_checkIndex_2214a 8 = .ok (.return_, 1) := by decide +kernel
theorem dJ3_checkIndex_8e157_0 : decode cJ3_checkIndex_8e157 0 = .ok (.iload_n 0, 1) := by decide +kernel
theorem dJ3_checkIndex_8e157_1 : decode cJ3_checkIndex_8e157 1 = .ok (.ifCond .lt 8, 3) := by decide +kernel
theorem dJ3_checkIndex_8e157_4 : decode cJ3_checkIndex_8e157 4 = .ok (.iload_n 0, 1) := by decide +kernel
theorem dJ3_checkIndex_8e157_5 : decode cJ3_checkIndex_8e157 5 = .ok (.iload_n 1, 1) := by decide +kernel
theorem dJ3_checkIndex_8e157_6 : decode cJ3_checkIndex_8e157 6 = .ok (.if_icmp .lt 10, 3) := by decide +kernel
theorem dJ3_checkIndex_8e157_9 : decode cJ3_checkIndex_8e157 9 = .ok (.aload_n 2, 1) := by decide +kernel
theorem dJ3_checkIndex_8e157_10 : decode cJ3_checkIndex_8e157 10 = .ok (.iload_n 0, 1) := by decide +kernel
theorem dJ3_checkIndex_8e157_11 : decode cJ3_checkIndex_8e157 11 = .ok (.iload_n 1, 1) := by decide +kernel
theorem dJ3_checkIndex_8e157_12 : decode cJ3_checkIndex_8e157 12 = .ok (.invokestatic 95, 3) := by decide +kernel
theorem dJ3_checkIndex_8e157_15 : decode cJ3_checkIndex_8e157 15 = .ok (.athrow, 1) := by decide +kernel
theorem dJ3_checkIndex_8e157_16 : decode cJ3_checkIndex_8e157 16 = .ok (.iload_n 0, 1) := by decide +kernel
theorem dJ3_checkIndex_8e157_17 : decode cJ3_checkIndex_8e157 17 = .ok (.ireturn, 1) := by decide +kernel
set_option maxRecDepth 20000 in
theorem ggL_law_X4_init : GoodIn wsL_law wsX4_init := goodIn_r _ [9, 10, 11, 12, 13, 14, 15, 16, 17, 18, 19, 20, 21, 22, 23, 24, 25, 26, 27, 28, 29, 30, 31, 32, 33, 34, 35, 36, 37, 38, 39, 40, 41, 42, 43, 44, 45, 46, 47, 48, 49, 50, 51, 52, 53, 54, 55, 56, 57, 58, 59, 60, 61, 62, 63, 64, 65, 66, 67, 68, 751, 752, 753, 754, 755, 756, 757, 758, 723, 724, 725, 726, 727, 728, 729, 759, 760, 761, 762, 763, 764, 765, 766, 767, 768, 769, 770, 771, 772, 773, 774, 775, 776, 777, 778, 779, 780, 781, 782, 783] (by decide +kernel) (by decide +kernel)
set_option maxRecDepth 20000 in
theorem gL_law_X4_init : GoodIn wsL_law (wsX4_init) := ggL_law_X4_init
set_option maxRecDepth 20000 in
theorem ggL_law_X5_init : GoodIn wsL_law wsX5_init := goodIn_r _ [71, 72, 11, 12, 36, 73, 27, 74, 75, 76, 77, 78, 79, 80, 81, 82, 83, 84, 730, 731, 732, 733, 734, 735, 736, 737, 738, 739, 740, 741, 742, 743, 744, 745, 746, 747, 748, 749, 750] (by decide +kernel) (by decide +kernel)
set_option maxRecDepth 20000 in
theorem gL_law_X5_init : GoodIn wsL_law (wsX5_init) := ggL_law_X5_init
set_option maxRecDepth 20000 in
theorem ggL_law_X4_write : GoodIn wsL_law wsX4_write := goodIn_r _ [88, 16, 89, 90, 91, 92, 93, 15, 94, 95, 37, 723, 724, 725, 726, 727, 728, 729, 751, 752, 753, 754, 755, 756, 757, 758] (by decide +kernel) (by decide +kernel)
set_option maxRecDepth 20000 in
theorem gL_law_X4_write : GoodIn wsL_law (wsV RL 15 RX4 yX4_write wsX4_write) := goodIn_app (goodIn_of _ (by decide +kernel)) ggL_law_X4_write
set_option maxRecDepth 20000 in
theorem ggL_law_X5_write : GoodIn wsL_law wsX5_write := goodIn_r _ [99, 100, 101, 75, 102, 103, 104, 5, 105, 730, 731, 732, 733, 734, 735, 736, 737, 738, 739, 740, 741, 742, 743, 744, 745, 746, 747, 748, 749, 750] (by decide +kernel) (by decide +kernel)
set_option maxRecDepth 20000 in
theorem gL_law_X5_write : GoodIn wsL_law (wsV RL 19 RX5 yX5_write wsX5_write) := goodIn_app (goodIn_of _ (by decide +kernel)) ggL_law_X5_write
set_option maxRecDepth 20000 in
theorem ggL_law_X4_erase : GoodIn wsL_law wsX4_erase := goodIn_r _ [109, 16, 89, 723, 724, 725, 726, 727, 728, 729, 751, 752, 753, 754, 755, 756, 757, 758] (by decide +kernel) (by decide +kernel)
set_option maxRecDepth 20000 in
theorem gL_law_X4_erase : GoodIn wsL_law (wsV RL 20 RX4 yX4_erase wsX4_erase) := goodIn_app (goodIn_of _ (by decide +kernel)) ggL_law_X4_erase
set_option maxRecDepth 20000 in
theorem ggL_law_X5_erase : GoodIn wsL_law wsX5_erase := goodIn_r _ [113, 101, 730, 731, 732, 733, 734, 735, 736, 737, 738, 739, 740, 741, 742, 743, 744, 745, 746, 747, 748, 749, 750] (by decide +kernel) (by decide +kernel)
set_option maxRecDepth 20000 in
theorem gL_law_X5_erase : GoodIn wsL_law (wsV RL 24 RX5 yX5_erase wsX5_erase) := goodIn_app (goodIn_of _ (by decide +kernel)) ggL_law_X5_erase
set_option maxRecDepth 20000 in
theorem ggL_law_X4_fault : GoodIn wsL_law wsX4_fault := goodIn_r _ [117, 16, 20, 118, 119, 120, 15, 121, 39, 122, 123, 124, 125, 126, 127, 128, 19, 129, 130, 43, 131, 132, 133, 134, 44, 45, 46, 47, 135, 48, 49, 50, 136, 137, 138, 139, 95, 37, 140, 141, 142, 143, 144, 145, 146, 147, 148, 149, 150, 151, 152, 153, 154, 155, 156, 157, 158, 159, 160, 161, 162, 163, 164, 165, 166, 167, 168, 169, 170, 171, 172, 173, 174, 175, 176, 177, 178, 179, 180, 181, 182, 183, 184, 185, 186, 187, 188, 189, 190, 191, 192, 193, 194, 195, 196, 197, 198, 199, 200, 201, 202, 203, 204, 205, 206, 207, 208, 209, 210, 211, 212, 213, 214, 215, 216, 217, 218, 219, 220, 221, 222, 223, 224, 225, 226, 227, 228, 229, 230, 231, 232, 233, 234, 235, 236, 237, 238, 239, 240, 241, 242, 243, 244, 245, 246, 247, 248, 249, 250, 251, 723, 724, 725, 726, 727, 728, 729, 751, 752, 753, 754, 755, 756, 757, 758, 759, 760, 761, 762, 763, 764, 765, 766, 767, 768] (by decide +kernel) (by decide +kernel)
set_option maxRecDepth 20000 in
theorem gL_law_X4_fault : GoodIn wsL_law (wsV RL 25 RX4 yX4_fault wsX4_fault) := goodIn_app (goodIn_of _ (by decide +kernel)) ggL_law_X4_fault
set_option maxRecDepth 20000 in
theorem ggL_law_X5_fault : GoodIn wsL_law wsX5_fault := goodIn_r _ [255, 256, 257, 258, 259, 260, 261, 262, 101, 263, 75, 264, 265, 266, 5, 267, 268, 269, 270, 271, 272, 273, 274, 76, 275, 276, 277, 278, 279, 280, 281, 282, 283, 284, 285, 286, 287, 288, 289, 290, 291, 292, 293, 294, 295, 296, 297, 103, 104, 105, 298, 299, 300, 301, 302, 303, 304, 305, 730, 731, 732, 733, 734, 735, 736, 737, 738, 739, 740, 741, 742, 743, 744, 745, 746, 747, 748, 749, 750] (by decide +kernel) (by decide +kernel)
set_option maxRecDepth 20000 in
theorem gL_law_X5_fault : GoodIn wsL_law (wsV RL 28 RX5 yX5_fault wsX5_fault) := goodIn_app (goodIn_of _ (by decide +kernel)) ggL_law_X5_fault
set_option maxRecDepth 20000 in
theorem ggL_law_X4_wood : GoodIn wsL_law wsX4_wood := goodIn_r _ [309, 16, 20, 310, 89, 24, 28, 311, 118, 119, 120, 15, 121, 39, 122, 123, 124, 125, 126, 127, 128, 19, 129, 130, 43, 131, 132, 133, 134, 44, 45, 46, 47, 135, 48, 49, 50, 136, 137, 138, 139, 95, 37, 140, 141, 142, 143, 144, 145, 146, 147, 148, 149, 150, 151, 152, 153, 154, 155, 156, 157, 158, 159, 160, 161, 162, 163, 164, 165, 166, 167, 168, 169, 170, 171, 172, 173, 174, 175, 176, 177, 178, 179, 180, 181, 182, 183, 184, 185, 186, 187, 188, 189, 190, 191, 192, 193, 194, 195, 196, 197, 198, 199, 200, 201, 202, 203, 204, 205, 206, 207, 208, 209, 210, 211, 212, 213, 214, 215, 216, 217, 218, 219, 220, 221, 222, 223, 224, 225, 226, 227, 228, 229, 230, 231, 232, 233, 234, 235, 236, 237, 238, 239, 240, 241, 242, 243, 244, 245, 246, 247, 248, 249, 250, 251, 312, 313, 314, 315, 23, 316, 317, 318, 319, 54, 320, 55, 723, 724, 725, 726, 727, 728, 729, 751, 752, 753, 754, 755, 756, 757, 758, 759, 760, 761, 762, 763, 764, 765, 766, 767, 768, 769, 770, 771, 772, 773, 774, 775, 776, 777, 778] (by decide +kernel) (by decide +kernel)
set_option maxRecDepth 20000 in
theorem gL_law_X4_wood : GoodIn wsL_law (wsV RL 29 RX4 yX4_wood wsX4_wood) := goodIn_app (goodIn_of _ (by decide +kernel)) ggL_law_X4_wood
set_option maxRecDepth 20000 in
theorem ggL_law_X5_wood : GoodIn wsL_law wsX5_wood := goodIn_r _ [324, 257, 74, 101, 325, 253, 254, 5, 255, 256, 258, 259, 260, 261, 262, 263, 75, 264, 265, 266, 267, 268, 269, 270, 271, 272, 273, 274, 76, 275, 276, 277, 278, 279, 280, 281, 282, 283, 284, 285, 286, 287, 288, 289, 290, 291, 292, 293, 294, 295, 296, 297, 103, 104, 105, 298, 299, 300, 301, 302, 303, 304, 305, 326, 327, 328, 329, 82, 80, 81, 77, 73, 78, 79, 330, 331, 332, 333, 730, 731, 732, 733, 734, 735, 736, 737, 738, 739, 740, 741, 742, 743, 744, 745, 746, 747, 748, 749, 750] (by decide +kernel) (by decide +kernel)
set_option maxRecDepth 20000 in
theorem gL_law_X5_wood : GoodIn wsL_law (wsV RL 32 RX5 yX5_wood wsX5_wood) := goodIn_app (goodIn_of _ (by decide +kernel)) ggL_law_X5_wood
set_option maxRecDepth 20000 in
theorem ggL_law_X4_tree : GoodIn wsL_law wsX4_tree := goodIn_r _ [337, 20, 338, 24, 339, 340, 341, 342, 343, 344, 345, 346, 19, 347, 130, 348, 349, 350, 23, 351, 318, 56, 58, 352, 353, 354, 355, 356, 357, 358, 359, 723, 724, 725, 726, 727, 728, 729, 759, 760, 761, 762, 763, 764, 765, 766, 767, 768, 769, 770, 771, 772, 773, 774, 775, 776, 777, 778] (by decide +kernel) (by decide +kernel)
set_option maxRecDepth 20000 in
theorem gL_law_X4_tree : GoodIn wsL_law (wsV RL 33 RX4 yX4_tree wsX4_tree) := goodIn_app (goodIn_of _ (by decide +kernel)) ggL_law_X4_tree
set_option maxRecDepth 20000 in
theorem ggL_law_X5_tree : GoodIn wsL_law wsX5_tree := goodIn_r _ [363, 77, 73, 78, 79, 80, 364, 365, 366, 5, 367, 258, 103, 104, 105, 368, 369, 370, 371, 372, 373, 374, 375, 376, 377, 378, 260, 81, 730, 731, 732, 733, 734, 735, 736, 737, 738, 739, 740, 741, 742, 743, 744, 745, 746, 747, 748, 749, 750] (by decide +kernel) (by decide +kernel)
set_option maxRecDepth 20000 in
theorem gL_law_X5_tree : GoodIn wsL_law (wsV RL 37 RX5 yX5_tree wsX5_tree) := goodIn_app (goodIn_of _ (by decide +kernel)) ggL_law_X5_tree
set_option maxRecDepth 20000 in
theorem ggL_law_X4_loan : GoodIn wsL_law wsX4_loan := goodIn_r _ [382, 24, 383, 384, 385, 386, 387, 388, 723, 724, 725, 726, 727, 728, 729, 769, 770, 771, 772, 773, 774, 775, 776, 777, 778] (by decide +kernel) (by decide +kernel)
set_option maxRecDepth 20000 in
theorem gL_law_X4_loan : GoodIn wsL_law (wsV RL 38 RX4 yX4_loan wsX4_loan) := goodIn_app (goodIn_of _ (by decide +kernel)) ggL_law_X4_loan
set_option maxRecDepth 20000 in
theorem ggL_law_X5_loan : GoodIn wsL_law wsX5_loan := goodIn_r _ [392, 73, 297, 103, 104, 5, 105, 372, 373, 374, 730, 731, 732, 733, 734, 735, 736, 737, 738, 739, 740, 741, 742, 743, 744, 745, 746, 747, 748, 749, 750] (by decide +kernel) (by decide +kernel)
set_option maxRecDepth 20000 in
theorem gL_law_X5_loan : GoodIn wsL_law (wsV RL 41 RX5 yX5_loan wsX5_loan) := goodIn_app (goodIn_of _ (by decide +kernel)) ggL_law_X5_loan
set_option maxRecDepth 20000 in
theorem ggL_law_X4_as : GoodIn wsL_law wsX4_as := goodIn_r _ [396, 20, 397, 344, 345, 346, 19, 347, 130, 398, 399, 400, 401, 43, 402, 403, 404, 405, 406, 407, 408, 409, 45, 410, 411, 412, 413, 414, 723, 724, 725, 726, 727, 728, 729, 759, 760, 761, 762, 763, 764, 765, 766, 767, 768] (by decide +kernel) (by decide +kernel)
set_option maxRecDepth 20000 in
theorem gL_law_X4_as : GoodIn wsL_law (wsV RL 42 RX4 yX4_as wsX4_as) := goodIn_app (goodIn_of _ (by decide +kernel)) ggL_law_X4_as
set_option maxRecDepth 20000 in
theorem ggL_law_X5_as : GoodIn wsL_law wsX5_as := goodIn_r _ [418, 297, 77, 364, 365, 366, 5, 367, 258, 103, 104, 105, 419, 420, 421, 422, 78, 423, 730, 731, 732, 733, 734, 735, 736, 737, 738, 739, 740, 741, 742, 743, 744, 745, 746, 747, 748, 749, 750] (by decide +kernel) (by decide +kernel)
set_option maxRecDepth 20000 in
theorem gL_law_X5_as : GoodIn wsL_law (wsV RL 45 RX5 yX5_as wsX5_as) := goodIn_app (goodIn_of _ (by decide +kernel)) ggL_law_X5_as
set_option maxRecDepth 20000 in
theorem ggL_law_X4_borrow : GoodIn wsL_law wsX4_borrow := goodIn_r _ [427, 20, 24, 339, 383, 344, 345, 346, 19, 347, 130, 428, 429, 430, 23, 431, 55, 432, 353, 354, 355, 356, 357, 358, 359, 349, 350, 351, 318, 56, 58, 433, 434, 435, 436, 57, 59, 317, 60, 54, 437, 438, 439, 440, 43, 46, 723, 724, 725, 726, 727, 728, 729, 769, 770, 771, 772, 773, 774, 775, 776, 777, 778, 759, 760, 761, 762, 763, 764, 765, 766, 767, 768] (by decide +kernel) (by decide +kernel)
set_option maxRecDepth 20000 in
theorem gL_law_X4_borrow : GoodIn wsL_law (wsV RL 46 RX4 yX4_borrow wsX4_borrow) := goodIn_app (goodIn_of _ (by decide +kernel)) ggL_law_X4_borrow
set_option maxRecDepth 20000 in
theorem ggL_law_X5_borrow : GoodIn wsL_law wsX5_borrow := goodIn_r _ [444, 445, 73, 77, 79, 364, 365, 366, 5, 367, 258, 103, 104, 105, 446, 447, 448, 449, 450, 451, 452, 453, 375, 376, 377, 378, 260, 81, 368, 369, 370, 371, 372, 373, 374, 730, 731, 732, 733, 734, 735, 736, 737, 738, 739, 740, 741, 742, 743, 744, 745, 746, 747, 748, 749, 750] (by decide +kernel) (by decide +kernel)
set_option maxRecDepth 20000 in
theorem gL_law_X5_borrow : GoodIn wsL_law (wsV RL 49 RX5 yX5_borrow wsX5_borrow) := goodIn_app (goodIn_of _ (by decide +kernel)) ggL_law_X5_borrow
set_option maxRecDepth 20000 in
theorem ggL_law_X4_days : GoodIn wsL_law wsX4_days := goodIn_r _ [457, 24, 458, 20, 459, 460, 461, 462, 23, 463, 317, 464, 465, 466, 467, 318, 58, 56, 57, 468, 407, 408, 19, 409, 45, 43, 410, 411, 412, 413, 414, 469, 470, 471, 472, 473, 474, 475, 476, 477, 59, 478, 479, 480, 481, 54, 482, 483, 484, 485, 60, 486, 487, 488, 489, 319, 723, 724, 725, 726, 727, 728, 729, 769, 770, 771, 772, 773, 774, 775, 776, 777, 778, 759, 760, 761, 762, 763, 764, 765, 766, 767, 768] (by decide +kernel) (by decide +kernel)
set_option maxRecDepth 20000 in
theorem gL_law_X4_days : GoodIn wsL_law (wsV RL 50 RX4 yX4_days wsX4_days) := goodIn_app (goodIn_of _ (by decide +kernel)) ggL_law_X4_days
set_option maxRecDepth 20000 in
theorem ggL_law_X5_days : GoodIn wsL_law wsX5_days := goodIn_r _ [493, 445, 73, 82, 103, 104, 5, 105, 494, 495, 496, 497, 372, 373, 374, 419, 420, 421, 422, 77, 78, 423, 498, 499, 500, 501, 502, 503, 504, 505, 506, 507, 508, 509, 510, 511, 512, 730, 731, 732, 733, 734, 735, 736, 737, 738, 739, 740, 741, 742, 743, 744, 745, 746, 747, 748, 749, 750] (by decide +kernel) (by decide +kernel)
set_option maxRecDepth 20000 in
theorem gL_law_X5_days : GoodIn wsL_law (wsV RL 54 RX5 yX5_days wsX5_days) := goodIn_app (goodIn_of _ (by decide +kernel)) ggL_law_X5_days
set_option maxRecDepth 20000 in
theorem ggL_law_X4_fire : GoodIn wsL_law wsX4_fire := goodIn_r _ [516, 24, 20, 517, 518, 519, 23, 520, 521, 522, 55, 523, 524, 525, 526, 318, 56, 482, 483, 484, 485, 57, 58, 59, 60, 723, 724, 725, 726, 727, 728, 729, 759, 760, 761, 762, 763, 764, 765, 766, 767, 768, 769, 770, 771, 772, 773, 774, 775, 776, 777, 778] (by decide +kernel) (by decide +kernel)
set_option maxRecDepth 20000 in
theorem gL_law_X4_fire : GoodIn wsL_law (wsV RL 55 RX4 yX4_fire wsX4_fire) := goodIn_app (goodIn_of _ (by decide +kernel)) ggL_law_X4_fire
set_option maxRecDepth 20000 in
theorem ggL_law_X5_fire : GoodIn wsL_law wsX5_fire := goodIn_r _ [530, 531, 258, 80, 103, 104, 5, 105, 450, 451, 452, 453, 73, 532, 533, 534, 535, 372, 373, 374, 509, 510, 511, 512, 730, 731, 732, 733, 734, 735, 736, 737, 738, 739, 740, 741, 742, 743, 744, 745, 746, 747, 748, 749, 750] (by decide +kernel) (by decide +kernel)
set_option maxRecDepth 20000 in
theorem gL_law_X5_fire : GoodIn wsL_law (wsV RL 58 RX5 yX5_fire wsX5_fire) := goodIn_app (goodIn_of _ (by decide +kernel)) ggL_law_X5_fire
set_option maxRecDepth 20000 in
theorem ggL_law_X4_sell : GoodIn wsL_law wsX4_sell := goodIn_r _ [539, 20, 24, 343, 344, 345, 346, 19, 347, 130, 540, 541, 542, 23, 543, 318, 56, 54, 55, 478, 479, 480, 481, 473, 412, 413, 414, 723, 724, 725, 726, 727, 728, 729, 769, 770, 771, 772, 773, 774, 775, 776, 777, 778, 759, 760, 761, 762, 763, 764, 765, 766, 767, 768] (by decide +kernel) (by decide +kernel)
set_option maxRecDepth 20000 in
theorem gL_law_X4_sell : GoodIn wsL_law (wsV RL 59 RX4 yX4_sell wsX4_sell) := goodIn_app (goodIn_of _ (by decide +kernel)) ggL_law_X4_sell
set_option maxRecDepth 20000 in
theorem ggL_law_X5_sell : GoodIn wsL_law wsX5_sell := goodIn_r _ [547, 73, 364, 365, 366, 5, 367, 258, 103, 104, 105, 450, 451, 452, 453, 372, 373, 374, 506, 507, 508, 730, 731, 732, 733, 734, 735, 736, 737, 738, 739, 740, 741, 742, 743, 744, 745, 746, 747, 748, 749, 750] (by decide +kernel) (by decide +kernel)
set_option maxRecDepth 20000 in
theorem gL_law_X5_sell : GoodIn wsL_law (wsV RL 62 RX5 yX5_sell wsX5_sell) := goodIn_app (goodIn_of _ (by decide +kernel)) ggL_law_X5_sell
set_option maxRecDepth 20000 in
theorem ggL_law_X4_keep : GoodIn wsL_law wsX4_keep := goodIn_r _ [551, 26, 24, 28, 458, 552, 553, 554, 23, 555, 317, 54, 556, 132, 133, 134, 55, 318, 56, 57, 58, 59, 60, 319, 723, 724, 725, 726, 727, 728, 729, 769, 770, 771, 772, 773, 774, 775, 776, 777, 778] (by decide +kernel) (by decide +kernel)
set_option maxRecDepth 20000 in
theorem gL_law_X4_keep : GoodIn wsL_law (wsV RL 63 RX4 yX4_keep wsX4_keep) := goodIn_app (goodIn_of _ (by decide +kernel)) ggL_law_X4_keep
set_option maxRecDepth 20000 in
theorem ggL_law_X5_keep : GoodIn wsL_law wsX5_keep := goodIn_r _ [560, 74, 73, 103, 104, 5, 105, 330, 331, 332, 333, 730, 731, 732, 733, 734, 735, 736, 737, 738, 739, 740, 741, 742, 743, 744, 745, 746, 747, 748, 749, 750] (by decide +kernel) (by decide +kernel)
set_option maxRecDepth 20000 in
theorem gL_law_X5_keep : GoodIn wsL_law (wsV RL 66 RX5 yX5_keep wsX5_keep) := goodIn_app (goodIn_of _ (by decide +kernel)) ggL_law_X5_keep
set_option maxRecDepth 20000 in
theorem ggL_law_X4_back : GoodIn wsL_law wsX4_back := goodIn_r _ [564, 26, 28, 24, 458, 552, 553, 554, 23, 555, 317, 54, 556, 132, 133, 134, 55, 318, 56, 57, 58, 59, 60, 319, 723, 724, 725, 726, 727, 728, 729, 769, 770, 771, 772, 773, 774, 775, 776, 777, 778] (by decide +kernel) (by decide +kernel)
set_option maxRecDepth 20000 in
theorem gL_law_X4_back : GoodIn wsL_law (wsV RL 67 RX4 yX4_back wsX4_back) := goodIn_app (goodIn_of _ (by decide +kernel)) ggL_law_X4_back
set_option maxRecDepth 20000 in
theorem ggL_law_X5_back : GoodIn wsL_law wsX5_back := goodIn_r _ [568, 74, 73, 103, 104, 5, 105, 330, 331, 332, 333, 730, 731, 732, 733, 734, 735, 736, 737, 738, 739, 740, 741, 742, 743, 744, 745, 746, 747, 748, 749, 750] (by decide +kernel) (by decide +kernel)
set_option maxRecDepth 20000 in
theorem gL_law_X5_back : GoodIn wsL_law (wsV RL 70 RX5 yX5_back wsX5_back) := goodIn_app (goodIn_of _ (by decide +kernel)) ggL_law_X5_back
set_option maxRecDepth 20000 in
theorem ggL_law_X4_later : GoodIn wsL_law wsX4_later := goodIn_r _ [572, 20, 25, 344, 345, 346, 19, 347, 130, 573, 574, 575, 2, 576, 24, 459, 552, 553, 554, 23, 555, 317, 54, 556, 132, 133, 134, 55, 318, 56, 57, 58, 59, 60, 319, 460, 461, 462, 463, 464, 465, 466, 467, 468, 407, 408, 409, 45, 43, 410, 411, 412, 413, 414, 469, 470, 471, 472, 473, 474, 475, 476, 477, 478, 479, 480, 481, 482, 483, 484, 485, 486, 487, 488, 489, 348, 349, 350, 351, 723, 724, 725, 726, 727, 728, 729, 759, 760, 761, 762, 763, 764, 765, 766, 767, 768, 769, 770, 771, 772, 773, 774, 775, 776, 777, 778] (by decide +kernel) (by decide +kernel)
set_option maxRecDepth 20000 in
theorem gL_law_X4_later : GoodIn wsL_law (wsV RL 71 RX4 yX4_later wsX4_later) := goodIn_app (goodIn_of _ (by decide +kernel)) ggL_law_X4_later
set_option maxRecDepth 20000 in
theorem ggL_law_X5_later : GoodIn wsL_law wsX5_later := goodIn_r _ [580, 445, 82, 364, 365, 366, 5, 367, 258, 103, 104, 105, 581, 582, 583, 584, 330, 331, 332, 333, 73, 494, 495, 496, 497, 372, 373, 374, 419, 420, 421, 422, 77, 78, 423, 498, 499, 500, 501, 502, 503, 504, 505, 506, 507, 508, 509, 510, 511, 512, 368, 369, 370, 371, 730, 731, 732, 733, 734, 735, 736, 737, 738, 739, 740, 741, 742, 743, 744, 745, 746, 747, 748, 749, 750] (by decide +kernel) (by decide +kernel)
set_option maxRecDepth 20000 in
theorem gL_law_X5_later : GoodIn wsL_law (wsV RL 74 RX5 yX5_later wsX5_later) := goodIn_app (goodIn_of _ (by decide +kernel)) ggL_law_X5_later
set_option maxRecDepth 20000 in
theorem ggL_law_X4_all : GoodIn wsL_law wsX4_all := goodIn_r _ [588, 25, 589, 573, 574, 575, 2, 576, 24, 20, 459, 552, 553, 554, 23, 555, 317, 54, 556, 132, 133, 134, 55, 318, 56, 57, 58, 59, 60, 319, 460, 461, 462, 463, 464, 465, 466, 467, 468, 407, 408, 19, 409, 45, 43, 410, 411, 412, 413, 414, 469, 470, 471, 472, 473, 474, 475, 476, 477, 478, 479, 480, 481, 482, 483, 484, 485, 486, 487, 488, 489, 590, 591, 592, 593, 723, 724, 725, 726, 727, 728, 729, 769, 770, 771, 772, 773, 774, 775, 776, 777, 778, 759, 760, 761, 762, 763, 764, 765, 766, 767, 768] (by decide +kernel) (by decide +kernel)
set_option maxRecDepth 20000 in
theorem gL_law_X4_all : GoodIn wsL_law (wsV RL 75 RX4 yX4_all wsX4_all) := goodIn_app (goodIn_of _ (by decide +kernel)) ggL_law_X4_all
set_option maxRecDepth 20000 in
theorem ggL_law_X5_all : GoodIn wsL_law wsX5_all := goodIn_r _ [597, 445, 82, 73, 103, 104, 5, 105, 581, 582, 583, 584, 330, 331, 332, 333, 494, 495, 496, 497, 372, 373, 374, 419, 420, 421, 422, 77, 78, 423, 498, 499, 500, 501, 502, 503, 504, 505, 506, 507, 508, 509, 510, 511, 512, 598, 599, 600, 601, 730, 731, 732, 733, 734, 735, 736, 737, 738, 739, 740, 741, 742, 743, 744, 745, 746, 747, 748, 749, 750] (by decide +kernel) (by decide +kernel)
set_option maxRecDepth 20000 in
theorem gL_law_X5_all : GoodIn wsL_law (wsV RL 78 RX5 yX5_all wsX5_all) := goodIn_app (goodIn_of _ (by decide +kernel)) ggL_law_X5_all
set_option maxRecDepth 20000 in
theorem ggL_law_X4_clear : GoodIn wsL_law wsX4_clear := goodIn_r _ [605, 25, 383, 20, 459, 573, 574, 575, 2, 576, 24, 552, 553, 554, 23, 555, 317, 54, 556, 132, 133, 134, 55, 318, 56, 57, 58, 59, 60, 319, 460, 461, 462, 463, 464, 465, 466, 467, 468, 407, 408, 19, 409, 45, 43, 410, 411, 412, 413, 414, 469, 470, 471, 472, 473, 474, 475, 476, 477, 478, 479, 480, 481, 482, 483, 484, 485, 486, 487, 488, 489, 723, 724, 725, 726, 727, 728, 729, 769, 770, 771, 772, 773, 774, 775, 776, 777, 778, 759, 760, 761, 762, 763, 764, 765, 766, 767, 768] (by decide +kernel) (by decide +kernel)
set_option maxRecDepth 20000 in
theorem gL_law_X4_clear : GoodIn wsL_law (wsV RL 79 RX4 yX4_clear wsX4_clear) := goodIn_app (goodIn_of _ (by decide +kernel)) ggL_law_X4_clear
set_option maxRecDepth 20000 in
theorem ggL_law_X5_clear : GoodIn wsL_law wsX5_clear := goodIn_r _ [609, 73, 82, 330, 331, 332, 5, 333, 494, 495, 496, 497, 372, 373, 374, 419, 420, 421, 422, 77, 78, 423, 498, 499, 500, 501, 502, 503, 504, 505, 506, 507, 508, 509, 510, 511, 512, 730, 731, 732, 733, 734, 735, 736, 737, 738, 739, 740, 741, 742, 743, 744, 745, 746, 747, 748, 749, 750] (by decide +kernel) (by decide +kernel)
set_option maxRecDepth 20000 in
theorem gL_law_X5_clear : GoodIn wsL_law (wsV RL 82 RX5 yX5_clear wsX5_clear) := goodIn_app (goodIn_of _ (by decide +kernel)) ggL_law_X5_clear
set_option maxRecDepth 20000 in
theorem ggL_law_X4_hut : GoodIn wsL_law wsX4_hut := goodIn_r _ [613, 20, 32, 24, 614, 344, 345, 346, 19, 347, 130, 615, 616, 617, 31, 618, 619, 65, 620, 621, 622, 623, 412, 413, 414, 67, 624, 429, 430, 23, 431, 55, 432, 353, 354, 355, 356, 357, 358, 359, 349, 350, 351, 318, 56, 58, 625, 403, 404, 405, 406, 407, 408, 409, 45, 43, 410, 411, 626, 627, 628, 629, 66, 630, 631, 632, 633, 634, 635, 636, 637, 68, 638, 723, 724, 725, 726, 727, 728, 729, 779, 780, 781, 782, 783, 759, 760, 761, 762, 763, 764, 765, 766, 767, 768, 769, 770, 771, 772, 773, 774, 775, 776, 777, 778] (by decide +kernel) (by decide +kernel)
set_option maxRecDepth 20000 in
theorem gL_law_X4_hut : GoodIn wsL_law (wsV RL 83 RX4 yX4_hut wsX4_hut) := goodIn_app (goodIn_of _ (by decide +kernel)) ggL_law_X4_hut
set_option maxRecDepth 20000 in
theorem ggL_law_X5_hut : GoodIn wsL_law wsX5_hut := goodIn_r _ [642, 445, 643, 84, 103, 104, 5, 105, 364, 365, 366, 367, 258, 644, 645, 646, 647, 73, 83, 446, 447, 448, 449, 450, 451, 452, 453, 375, 376, 377, 378, 260, 81, 368, 369, 370, 371, 372, 373, 374, 648, 649, 650, 651, 419, 420, 421, 422, 77, 78, 423, 652, 653, 654, 655, 656, 657, 658, 659, 730, 731, 732, 733, 734, 735, 736, 737, 738, 739, 740, 741, 742, 743, 744, 745, 746, 747, 748, 749, 750] (by decide +kernel) (by decide +kernel)
set_option maxRecDepth 20000 in
theorem gL_law_X5_hut : GoodIn wsL_law (wsV RL 87 RX5 yX5_hut wsX5_hut) := goodIn_app (goodIn_of _ (by decide +kernel)) ggL_law_X5_hut
set_option maxRecDepth 20000 in
theorem ggL_law_X4_enough : GoodIn wsL_law wsX4_enough := goodIn_r _ [663, 664, 665, 666, 2, 667, 25, 24, 20, 589, 552, 553, 554, 23, 555, 317, 54, 556, 132, 133, 134, 55, 318, 56, 57, 58, 59, 60, 319, 460, 461, 462, 463, 464, 465, 466, 467, 468, 407, 408, 19, 409, 45, 43, 410, 411, 412, 413, 414, 469, 470, 471, 472, 473, 474, 475, 476, 477, 478, 479, 480, 481, 482, 483, 484, 485, 486, 487, 488, 489, 723, 724, 725, 726, 727, 728, 729, 769, 770, 771, 772, 773, 774, 775, 776, 777, 778, 759, 760, 761, 762, 763, 764, 765, 766, 767, 768] (by decide +kernel) (by decide +kernel)
set_option maxRecDepth 20000 in
theorem gL_law_X4_enough : GoodIn wsL_law (wsV RL 88 RX4 yX4_enough wsX4_enough) := goodIn_app (goodIn_of _ (by decide +kernel)) ggL_law_X4_enough
set_option maxRecDepth 20000 in
theorem ggL_law_X5_enough : GoodIn wsL_law wsX5_enough := goodIn_r _ [671, 445, 73, 103, 104, 5, 105, 581, 582, 583, 584, 330, 331, 332, 333, 494, 495, 496, 497, 372, 373, 374, 419, 420, 421, 422, 77, 78, 423, 498, 499, 500, 501, 502, 503, 504, 505, 506, 507, 508, 509, 510, 511, 512, 730, 731, 732, 733, 734, 735, 736, 737, 738, 739, 740, 741, 742, 743, 744, 745, 746, 747, 748, 749, 750] (by decide +kernel) (by decide +kernel)
set_option maxRecDepth 20000 in
theorem gL_law_X5_enough : GoodIn wsL_law (wsV RL 91 RX5 yX5_enough wsX5_enough) := goodIn_app (goodIn_of _ (by decide +kernel)) ggL_law_X5_enough
set_option maxRecDepth 20000 in
theorem ggL_law_X4_rid : GoodIn wsL_law wsX4_rid := goodIn_r _ [675, 24, 20, 676, 677, 2, 678, 679, 680, 681, 23, 682, 318, 522, 56, 683, 684, 685, 686, 687, 688, 689, 723, 724, 725, 726, 727, 728, 729, 769, 770, 771, 772, 773, 774, 775, 776, 777, 778, 759, 760, 761, 762, 763, 764, 765, 766, 767, 768] (by decide +kernel) (by decide +kernel)
set_option maxRecDepth 20000 in
theorem gL_law_X4_rid : GoodIn wsL_law (wsV RL 92 RX4 yX4_rid wsX4_rid) := goodIn_app (goodIn_of _ (by decide +kernel)) ggL_law_X4_rid
set_option maxRecDepth 20000 in
theorem ggL_law_X5_rid : GoodIn wsL_law wsX5_rid := goodIn_r _ [693, 694, 73, 80, 103, 104, 5, 105, 372, 373, 374, 730, 731, 732, 733, 734, 735, 736, 737, 738, 739, 740, 741, 742, 743, 744, 745, 746, 747, 748, 749, 750] (by decide +kernel) (by decide +kernel)
set_option maxRecDepth 20000 in
theorem gL_law_X5_rid : GoodIn wsL_law (wsV RL 95 RX5 yX5_rid wsX5_rid) := goodIn_app (goodIn_of _ (by decide +kernel)) ggL_law_X5_rid
set_option maxRecDepth 20000 in
theorem ggL_law_X4_grandson : GoodIn wsL_law wsX4_grandson := goodIn_r _ [698, 20, 699, 25, 343, 339, 573, 574, 575, 2, 576, 24, 459, 552, 553, 554, 23, 555, 317, 54, 556, 132, 133, 134, 55, 318, 56, 57, 58, 59, 60, 319, 460, 461, 462, 463, 464, 465, 466, 467, 468, 407, 408, 19, 409, 45, 43, 410, 411, 412, 413, 414, 469, 470, 471, 472, 473, 474, 475, 476, 477, 478, 479, 480, 481, 482, 483, 484, 485, 486, 487, 488, 489, 723, 724, 725, 726, 727, 728, 729, 759, 760, 761, 762, 763, 764, 765, 766, 767, 768, 769, 770, 771, 772, 773, 774, 775, 776, 777, 778] (by decide +kernel) (by decide +kernel)
set_option maxRecDepth 20000 in
theorem gL_law_X4_grandson : GoodIn wsL_law (wsV RL 96 RX4 yX4_grandson wsX4_grandson) := goodIn_app (goodIn_of _ (by decide +kernel)) ggL_law_X4_grandson
set_option maxRecDepth 20000 in
theorem ggL_law_X5_grandson : GoodIn wsL_law wsX5_grandson := goodIn_r _ [703, 445, 82, 258, 73, 103, 104, 5, 105, 581, 582, 583, 584, 330, 331, 332, 333, 494, 495, 496, 497, 372, 373, 374, 419, 420, 421, 422, 77, 78, 423, 498, 499, 500, 501, 502, 503, 504, 505, 506, 507, 508, 509, 510, 511, 512, 450, 451, 452, 453, 730, 731, 732, 733, 734, 735, 736, 737, 738, 739, 740, 741, 742, 743, 744, 745, 746, 747, 748, 749, 750] (by decide +kernel) (by decide +kernel)
set_option maxRecDepth 20000 in
theorem gL_law_X5_grandson : GoodIn wsL_law (wsV RL 99 RX5 yX5_grandson wsX5_grandson) := goodIn_app (goodIn_of _ (by decide +kernel)) ggL_law_X5_grandson
set_option maxRecDepth 20000 in
theorem ggL_law_X4_toWhom : GoodIn wsL_law wsX4_toWhom := goodIn_r _ [707, 708, 20, 699, 24, 343, 402, 403, 404, 19, 405, 406, 407, 408, 409, 45, 43, 410, 411, 412, 413, 414, 723, 724, 725, 726, 727, 728, 729, 759, 760, 761, 762, 763, 764, 765, 766, 767, 768, 769, 770, 771, 772, 773, 774, 775, 776, 777, 778] (by decide +kernel) (by decide +kernel)
set_option maxRecDepth 20000 in
theorem gL_law_X4_toWhom : GoodIn wsL_law (wsV RL 100 RX4 yX4_toWhom wsX4_toWhom) := goodIn_app (goodIn_of _ (by decide +kernel)) ggL_law_X4_toWhom
set_option maxRecDepth 20000 in
theorem ggL_law_X5_toWhom : GoodIn wsL_law wsX5_toWhom := goodIn_r _ [712, 445, 643, 713, 258, 103, 104, 5, 105, 450, 451, 452, 453, 73, 648, 649, 650, 651, 419, 420, 421, 422, 77, 78, 423, 730, 731, 732, 733, 734, 735, 736, 737, 738, 739, 740, 741, 742, 743, 744, 745, 746, 747, 748, 749, 750] (by decide +kernel) (by decide +kernel)
set_option maxRecDepth 20000 in
theorem gL_law_X5_toWhom : GoodIn wsL_law (wsV RL 103 RX5 yX5_toWhom wsX5_toWhom) := goodIn_app (goodIn_of _ (by decide +kernel)) ggL_law_X5_toWhom
set_option maxRecDepth 20000 in
theorem ggL_law_X4_count : GoodIn wsL_law wsX4_count := goodIn_r _ [717, 20, 699, 718, 459, 24, 383, 458, 589, 16, 89, 590, 591, 592, 23, 593, 318, 58, 723, 724, 725, 726, 727, 728, 729, 759, 760, 761, 762, 763, 764, 765, 766, 767, 768, 769, 770, 771, 772, 773, 774, 775, 776, 777, 778, 751, 752, 753, 754, 755, 756, 757, 758] (by decide +kernel) (by decide +kernel)
set_option maxRecDepth 20000 in
theorem gL_law_X4_count : GoodIn wsL_law (wsV RL 104 RX4 yX4_count wsX4_count) := goodIn_app (goodIn_of _ (by decide +kernel)) ggL_law_X4_count
set_option maxRecDepth 20000 in
theorem ggL_law_X5_count : GoodIn wsL_law wsX5_count := goodIn_r _ [722, 258, 260, 82, 73, 101, 598, 599, 600, 5, 601, 372, 373, 374, 730, 731, 732, 733, 734, 735, 736, 737, 738, 739, 740, 741, 742, 743, 744, 745, 746, 747, 748, 749, 750] (by decide +kernel) (by decide +kernel)
set_option maxRecDepth 20000 in
theorem gL_law_X5_count : GoodIn wsL_law (wsV RL 107 RX5 yX5_count wsX5_count) := goodIn_app (goodIn_of _ (by decide +kernel)) ggL_law_X5_count
theorem dL_law_0 : decode cL_law 0 = .ok (.new 7, 3) := by decide +kernel
theorem dL_law_3 : decode cL_law 3 = .ok (.dup, 1) := by decide +kernel
theorem dL_law_4 : decode cL_law 4 = .ok (.invokespecial 9, 3) := by decide +kernel
theorem dL_law_7 : decode cL_law 7 = .ok (.astore_n 1, 1) := by decide +kernel
theorem dL_law_8 : decode cL_law 8 = .ok (.new 10, 3) := by decide +kernel
theorem dL_law_11 : decode cL_law 11 = .ok (.dup, 1) := by decide +kernel
theorem dL_law_12 : decode cL_law 12 = .ok (.invokespecial 12, 3) := by decide +kernel
theorem dL_law_15 : decode cL_law 15 = .ok (.astore_n 2, 1) := by decide +kernel
theorem dL_law_16 : decode cL_law 16 = .ok (.iconst 0, 1) := by decide +kernel
theorem dL_law_17 : decode cL_law 17 = .ok (.istore_n 3, 1) := by decide +kernel
theorem dL_law_18 : decode cL_law 18 = .ok (.iload_n 3, 1) := by decide +kernel
theorem dL_law_19 : decode cL_law 19 = .ok (.aload_n 0, 1) := by decide +kernel
theorem dL_law_20 : decode cL_law 20 = .ok (.arraylength, 1) := by decide +kernel
theorem dL_law_21 : decode cL_law 21 = .ok (.iconst 4, 1) := by decide +kernel
theorem dL_law_22 : decode cL_law 22 = .ok (.isub, 1) := by decide +kernel
theorem dL_law_23 : decode cL_law 23 = .ok (.if_icmp .gt 745, 3) := by decide +kernel
theorem dL_law_26 : decode cL_law 26 = .ok (.aload_n 0, 1) := by decide +kernel
theorem dL_law_27 : decode cL_law 27 = .ok (.iload_n 3, 1) := by decide +kernel
theorem dL_law_28 : decode cL_law 28 = .ok (.iaload, 1) := by decide +kernel
theorem dL_law_29 : decode cL_law 29 = .ok (.bipush 31, 2) := by decide +kernel
theorem dL_law_31 : decode cL_law 31 = .ok (.iand, 1) := by decide +kernel
theorem dL_law_32 : decode cL_law 32 = .ok (.tableswitch 730 0 21 #[104, 167, 180, 193, 206, 239, 272, 305, 338, 361, 384, 417, 440, 463, 496, 529, 542, 585, 608, 641, 664, 707], 104) := by decide +kernel
theorem dL_law_136 : decode cL_law 136 = .ok (.aload_n 1, 1) := by decide +kernel
theorem dL_law_137 : decode cL_law 137 = .ok (.aload_n 0, 1) := by decide +kernel
theorem dL_law_138 : decode cL_law 138 = .ok (.iload_n 3, 1) := by decide +kernel
theorem dL_law_139 : decode cL_law 139 = .ok (.iconst 1, 1) := by decide +kernel
theorem dL_law_140 : decode cL_law 140 = .ok (.iadd, 1) := by decide +kernel
theorem dL_law_141 : decode cL_law 141 = .ok (.iaload, 1) := by decide +kernel
theorem dL_law_142 : decode cL_law 142 = .ok (.i2l, 1) := by decide +kernel
theorem dL_law_143 : decode cL_law 143 = .ok (.bipush 32, 2) := by decide +kernel
theorem dL_law_145 : decode cL_law 145 = .ok (.lshl, 1) := by decide +kernel
theorem dL_law_146 : decode cL_law 146 = .ok (.aload_n 0, 1) := by decide +kernel
theorem dL_law_147 : decode cL_law 147 = .ok (.iload_n 3, 1) := by decide +kernel
theorem dL_law_148 : decode cL_law 148 = .ok (.iconst 2, 1) := by decide +kernel
theorem dL_law_149 : decode cL_law 149 = .ok (.iadd, 1) := by decide +kernel
theorem dL_law_150 : decode cL_law 150 = .ok (.iaload, 1) := by decide +kernel
theorem dL_law_151 : decode cL_law 151 = .ok (.i2l, 1) := by decide +kernel
theorem dL_law_152 : decode cL_law 152 = .ok (.ldc2_w 13, 3) := by decide +kernel
theorem dL_law_155 : decode cL_law 155 = .ok (.land, 1) := by decide +kernel
theorem dL_law_156 : decode cL_law 156 = .ok (.lor, 1) := by decide +kernel
theorem dL_law_157 : decode cL_law 157 = .ok (.aload_n 0, 1) := by decide +kernel
theorem dL_law_158 : decode cL_law 158 = .ok (.iload_n 3, 1) := by decide +kernel
theorem dL_law_159 : decode cL_law 159 = .ok (.iconst 3, 1) := by decide +kernel
theorem dL_law_160 : decode cL_law 160 = .ok (.iadd, 1) := by decide +kernel
theorem dL_law_161 : decode cL_law 161 = .ok (.iaload, 1) := by decide +kernel
theorem dL_law_162 : decode cL_law 162 = .ok (.invokevirtual 15, 3) := by decide +kernel
theorem dL_law_165 : decode cL_law 165 = .ok (.pop, 1) := by decide +kernel
theorem dL_law_166 : decode cL_law 166 = .ok (.aload_n 2, 1) := by decide +kernel
theorem dL_law_167 : decode cL_law 167 = .ok (.aload_n 0, 1) := by decide +kernel
theorem dL_law_168 : decode cL_law 168 = .ok (.iload_n 3, 1) := by decide +kernel
theorem dL_law_169 : decode cL_law 169 = .ok (.iconst 1, 1) := by decide +kernel
theorem dL_law_170 : decode cL_law 170 = .ok (.iadd, 1) := by decide +kernel
theorem dL_law_171 : decode cL_law 171 = .ok (.iaload, 1) := by decide +kernel
theorem dL_law_172 : decode cL_law 172 = .ok (.i2l, 1) := by decide +kernel
theorem dL_law_173 : decode cL_law 173 = .ok (.bipush 32, 2) := by decide +kernel
theorem dL_law_175 : decode cL_law 175 = .ok (.lshl, 1) := by decide +kernel
theorem dL_law_176 : decode cL_law 176 = .ok (.aload_n 0, 1) := by decide +kernel
theorem dL_law_177 : decode cL_law 177 = .ok (.iload_n 3, 1) := by decide +kernel
theorem dL_law_178 : decode cL_law 178 = .ok (.iconst 2, 1) := by decide +kernel
theorem dL_law_179 : decode cL_law 179 = .ok (.iadd, 1) := by decide +kernel
theorem dL_law_180 : decode cL_law 180 = .ok (.iaload, 1) := by decide +kernel
theorem dL_law_181 : decode cL_law 181 = .ok (.i2l, 1) := by decide +kernel
theorem dL_law_182 : decode cL_law 182 = .ok (.ldc2_w 13, 3) := by decide +kernel
theorem dL_law_185 : decode cL_law 185 = .ok (.land, 1) := by decide +kernel
theorem dL_law_186 : decode cL_law 186 = .ok (.lor, 1) := by decide +kernel
theorem dL_law_187 : decode cL_law 187 = .ok (.aload_n 0, 1) := by decide +kernel
theorem dL_law_188 : decode cL_law 188 = .ok (.iload_n 3, 1) := by decide +kernel
theorem dL_law_189 : decode cL_law 189 = .ok (.iconst 3, 1) := by decide +kernel
theorem dL_law_190 : decode cL_law 190 = .ok (.iadd, 1) := by decide +kernel
theorem dL_law_191 : decode cL_law 191 = .ok (.iaload, 1) := by decide +kernel
theorem dL_law_192 : decode cL_law 192 = .ok (.invokevirtual 19, 3) := by decide +kernel
theorem dL_law_195 : decode cL_law 195 = .ok (.pop, 1) := by decide +kernel
theorem dL_law_196 : decode cL_law 196 = .ok (.goto 566, 3) := by decide +kernel
theorem dL_law_199 : decode cL_law 199 = .ok (.aload_n 1, 1) := by decide +kernel
theorem dL_law_200 : decode cL_law 200 = .ok (.invokevirtual 20, 3) := by decide +kernel
theorem dL_law_203 : decode cL_law 203 = .ok (.aload_n 2, 1) := by decide +kernel
theorem dL_law_204 : decode cL_law 204 = .ok (.invokevirtual 24, 3) := by decide +kernel
theorem dL_law_207 : decode cL_law 207 = .ok (.if_icmp .eq 555, 3) := by decide +kernel
theorem dL_law_210 : decode cL_law 210 = .ok (.iconst 0, 1) := by decide +kernel
theorem dL_law_211 : decode cL_law 211 = .ok (.ireturn, 1) := by decide +kernel
theorem dL_law_212 : decode cL_law 212 = .ok (.aload_n 1, 1) := by decide +kernel
theorem dL_law_213 : decode cL_law 213 = .ok (.invokevirtual 25, 3) := by decide +kernel
theorem dL_law_216 : decode cL_law 216 = .ok (.pop, 1) := by decide +kernel
theorem dL_law_217 : decode cL_law 217 = .ok (.aload_n 2, 1) := by decide +kernel
theorem dL_law_218 : decode cL_law 218 = .ok (.invokevirtual 28, 3) := by decide +kernel
theorem dL_law_221 : decode cL_law 221 = .ok (.pop, 1) := by decide +kernel
theorem dL_law_222 : decode cL_law 222 = .ok (.goto 540, 3) := by decide +kernel
theorem dL_law_225 : decode cL_law 225 = .ok (.aload_n 1, 1) := by decide +kernel
theorem dL_law_226 : decode cL_law 226 = .ok (.invokevirtual 29, 3) := by decide +kernel
theorem dL_law_229 : decode cL_law 229 = .ok (.pop, 1) := by decide +kernel
theorem dL_law_230 : decode cL_law 230 = .ok (.aload_n 2, 1) := by decide +kernel
theorem dL_law_231 : decode cL_law 231 = .ok (.invokevirtual 32, 3) := by decide +kernel
theorem dL_law_234 : decode cL_law 234 = .ok (.pop, 1) := by decide +kernel
theorem dL_law_235 : decode cL_law 235 = .ok (.goto 527, 3) := by decide +kernel
theorem dL_law_238 : decode cL_law 238 = .ok (.aload_n 1, 1) := by decide +kernel
theorem dL_law_239 : decode cL_law 239 = .ok (.aload_n 0, 1) := by decide +kernel
theorem dL_law_240 : decode cL_law 240 = .ok (.iload_n 3, 1) := by decide +kernel
theorem dL_law_241 : decode cL_law 241 = .ok (.iconst 1, 1) := by decide +kernel
theorem dL_law_242 : decode cL_law 242 = .ok (.iadd, 1) := by decide +kernel
theorem dL_law_243 : decode cL_law 243 = .ok (.iaload, 1) := by decide +kernel
theorem dL_law_244 : decode cL_law 244 = .ok (.aload_n 0, 1) := by decide +kernel
theorem dL_law_245 : decode cL_law 245 = .ok (.iload_n 3, 1) := by decide +kernel
theorem dL_law_246 : decode cL_law 246 = .ok (.iconst 2, 1) := by decide +kernel
theorem dL_law_247 : decode cL_law 247 = .ok (.iadd, 1) := by decide +kernel
theorem dL_law_248 : decode cL_law 248 = .ok (.iaload, 1) := by decide +kernel
theorem dL_law_249 : decode cL_law 249 = .ok (.invokevirtual 33, 3) := by decide +kernel
theorem dL_law_252 : decode cL_law 252 = .ok (.pop, 1) := by decide +kernel
theorem dL_law_253 : decode cL_law 253 = .ok (.aload_n 2, 1) := by decide +kernel
theorem dL_law_254 : decode cL_law 254 = .ok (.aload_n 0, 1) := by decide +kernel
theorem dL_law_255 : decode cL_law 255 = .ok (.iload_n 3, 1) := by decide +kernel
theorem dL_law_256 : decode cL_law 256 = .ok (.iconst 1, 1) := by decide +kernel
theorem dL_law_257 : decode cL_law 257 = .ok (.iadd, 1) := by decide +kernel
theorem dL_law_258 : decode cL_law 258 = .ok (.iaload, 1) := by decide +kernel
theorem dL_law_259 : decode cL_law 259 = .ok (.aload_n 0, 1) := by decide +kernel
theorem dL_law_260 : decode cL_law 260 = .ok (.iload_n 3, 1) := by decide +kernel
theorem dL_law_261 : decode cL_law 261 = .ok (.iconst 2, 1) := by decide +kernel
theorem dL_law_262 : decode cL_law 262 = .ok (.iadd, 1) := by decide +kernel
theorem dL_law_263 : decode cL_law 263 = .ok (.iaload, 1) := by decide +kernel
theorem dL_law_264 : decode cL_law 264 = .ok (.invokevirtual 37, 3) := by decide +kernel
theorem dL_law_267 : decode cL_law 267 = .ok (.pop, 1) := by decide +kernel
theorem dL_law_268 : decode cL_law 268 = .ok (.goto 494, 3) := by decide +kernel
theorem dL_law_271 : decode cL_law 271 = .ok (.aload_n 1, 1) := by decide +kernel
theorem dL_law_272 : decode cL_law 272 = .ok (.aload_n 0, 1) := by decide +kernel
theorem dL_law_273 : decode cL_law 273 = .ok (.iload_n 3, 1) := by decide +kernel
theorem dL_law_274 : decode cL_law 274 = .ok (.iconst 1, 1) := by decide +kernel
theorem dL_law_275 : decode cL_law 275 = .ok (.iadd, 1) := by decide +kernel
theorem dL_law_276 : decode cL_law 276 = .ok (.iaload, 1) := by decide +kernel
theorem dL_law_277 : decode cL_law 277 = .ok (.aload_n 0, 1) := by decide +kernel
theorem dL_law_278 : decode cL_law 278 = .ok (.iload_n 3, 1) := by decide +kernel
theorem dL_law_279 : decode cL_law 279 = .ok (.iconst 2, 1) := by decide +kernel
theorem dL_law_280 : decode cL_law 280 = .ok (.iadd, 1) := by decide +kernel
theorem dL_law_281 : decode cL_law 281 = .ok (.iaload, 1) := by decide +kernel
theorem dL_law_282 : decode cL_law 282 = .ok (.invokevirtual 38, 3) := by decide +kernel
theorem dL_law_285 : decode cL_law 285 = .ok (.pop, 1) := by decide +kernel
theorem dL_law_286 : decode cL_law 286 = .ok (.aload_n 2, 1) := by decide +kernel
theorem dL_law_287 : decode cL_law 287 = .ok (.aload_n 0, 1) := by decide +kernel
theorem dL_law_288 : decode cL_law 288 = .ok (.iload_n 3, 1) := by decide +kernel
theorem dL_law_289 : decode cL_law 289 = .ok (.iconst 1, 1) := by decide +kernel
theorem dL_law_290 : decode cL_law 290 = .ok (.iadd, 1) := by decide +kernel
theorem dL_law_291 : decode cL_law 291 = .ok (.iaload, 1) := by decide +kernel
theorem dL_law_292 : decode cL_law 292 = .ok (.aload_n 0, 1) := by decide +kernel
theorem dL_law_293 : decode cL_law 293 = .ok (.iload_n 3, 1) := by decide +kernel
theorem dL_law_294 : decode cL_law 294 = .ok (.iconst 2, 1) := by decide +kernel
theorem dL_law_295 : decode cL_law 295 = .ok (.iadd, 1) := by decide +kernel
theorem dL_law_296 : decode cL_law 296 = .ok (.iaload, 1) := by decide +kernel
theorem dL_law_297 : decode cL_law 297 = .ok (.invokevirtual 41, 3) := by decide +kernel
theorem dL_law_300 : decode cL_law 300 = .ok (.pop, 1) := by decide +kernel
theorem dL_law_301 : decode cL_law 301 = .ok (.goto 461, 3) := by decide +kernel
theorem dL_law_304 : decode cL_law 304 = .ok (.aload_n 1, 1) := by decide +kernel
theorem dL_law_305 : decode cL_law 305 = .ok (.aload_n 0, 1) := by decide +kernel
theorem dL_law_306 : decode cL_law 306 = .ok (.iload_n 3, 1) := by decide +kernel
theorem dL_law_307 : decode cL_law 307 = .ok (.iconst 1, 1) := by decide +kernel
theorem dL_law_308 : decode cL_law 308 = .ok (.iadd, 1) := by decide +kernel
theorem dL_law_309 : decode cL_law 309 = .ok (.iaload, 1) := by decide +kernel
theorem dL_law_310 : decode cL_law 310 = .ok (.aload_n 0, 1) := by decide +kernel
theorem dL_law_311 : decode cL_law 311 = .ok (.iload_n 3, 1) := by decide +kernel
theorem dL_law_312 : decode cL_law 312 = .ok (.iconst 2, 1) := by decide +kernel
theorem dL_law_313 : decode cL_law 313 = .ok (.iadd, 1) := by decide +kernel
theorem dL_law_314 : decode cL_law 314 = .ok (.iaload, 1) := by decide +kernel
theorem dL_law_315 : decode cL_law 315 = .ok (.invokevirtual 42, 3) := by decide +kernel
theorem dL_law_318 : decode cL_law 318 = .ok (.pop, 1) := by decide +kernel
theorem dL_law_319 : decode cL_law 319 = .ok (.aload_n 2, 1) := by decide +kernel
theorem dL_law_320 : decode cL_law 320 = .ok (.aload_n 0, 1) := by decide +kernel
theorem dL_law_321 : decode cL_law 321 = .ok (.iload_n 3, 1) := by decide +kernel
theorem dL_law_322 : decode cL_law 322 = .ok (.iconst 1, 1) := by decide +kernel
theorem dL_law_323 : decode cL_law 323 = .ok (.iadd, 1) := by decide +kernel
theorem dL_law_324 : decode cL_law 324 = .ok (.iaload, 1) := by decide +kernel
theorem dL_law_325 : decode cL_law 325 = .ok (.aload_n 0, 1) := by decide +kernel
theorem dL_law_326 : decode cL_law 326 = .ok (.iload_n 3, 1) := by decide +kernel
theorem dL_law_327 : decode cL_law 327 = .ok (.iconst 2, 1) := by decide +kernel
theorem dL_law_328 : decode cL_law 328 = .ok (.iadd, 1) := by decide +kernel
theorem dL_law_329 : decode cL_law 329 = .ok (.iaload, 1) := by decide +kernel
theorem dL_law_330 : decode cL_law 330 = .ok (.invokevirtual 45, 3) := by decide +kernel
theorem dL_law_333 : decode cL_law 333 = .ok (.pop, 1) := by decide +kernel
theorem dL_law_334 : decode cL_law 334 = .ok (.goto 428, 3) := by decide +kernel
theorem dL_law_337 : decode cL_law 337 = .ok (.aload_n 1, 1) := by decide +kernel
theorem dL_law_338 : decode cL_law 338 = .ok (.aload_n 0, 1) := by decide +kernel
theorem dL_law_339 : decode cL_law 339 = .ok (.iload_n 3, 1) := by decide +kernel
theorem dL_law_340 : decode cL_law 340 = .ok (.iconst 1, 1) := by decide +kernel
theorem dL_law_341 : decode cL_law 341 = .ok (.iadd, 1) := by decide +kernel
theorem dL_law_342 : decode cL_law 342 = .ok (.iaload, 1) := by decide +kernel
theorem dL_law_343 : decode cL_law 343 = .ok (.aload_n 0, 1) := by decide +kernel
theorem dL_law_344 : decode cL_law 344 = .ok (.iload_n 3, 1) := by decide +kernel
theorem dL_law_345 : decode cL_law 345 = .ok (.iconst 2, 1) := by decide +kernel
theorem dL_law_346 : decode cL_law 346 = .ok (.iadd, 1) := by decide +kernel
theorem dL_law_347 : decode cL_law 347 = .ok (.iaload, 1) := by decide +kernel
theorem dL_law_348 : decode cL_law 348 = .ok (.invokevirtual 46, 3) := by decide +kernel
theorem dL_law_351 : decode cL_law 351 = .ok (.pop, 1) := by decide +kernel
theorem dL_law_352 : decode cL_law 352 = .ok (.aload_n 2, 1) := by decide +kernel
theorem dL_law_353 : decode cL_law 353 = .ok (.aload_n 0, 1) := by decide +kernel
theorem dL_law_354 : decode cL_law 354 = .ok (.iload_n 3, 1) := by decide +kernel
theorem dL_law_355 : decode cL_law 355 = .ok (.iconst 1, 1) := by decide +kernel
theorem dL_law_356 : decode cL_law 356 = .ok (.iadd, 1) := by decide +kernel
theorem dL_law_357 : decode cL_law 357 = .ok (.iaload, 1) := by decide +kernel
theorem dL_law_358 : decode cL_law 358 = .ok (.aload_n 0, 1) := by decide +kernel
theorem dL_law_359 : decode cL_law 359 = .ok (.iload_n 3, 1) := by decide +kernel
theorem dL_law_360 : decode cL_law 360 = .ok (.iconst 2, 1) := by decide +kernel
theorem dL_law_361 : decode cL_law 361 = .ok (.iadd, 1) := by decide +kernel
theorem dL_law_362 : decode cL_law 362 = .ok (.iaload, 1) := by decide +kernel
theorem dL_law_363 : decode cL_law 363 = .ok (.invokevirtual 49, 3) := by decide +kernel
theorem dL_law_366 : decode cL_law 366 = .ok (.pop, 1) := by decide +kernel
theorem dL_law_367 : decode cL_law 367 = .ok (.goto 395, 3) := by decide +kernel
theorem dL_law_370 : decode cL_law 370 = .ok (.aload_n 1, 1) := by decide +kernel
theorem dL_law_371 : decode cL_law 371 = .ok (.aload_n 0, 1) := by decide +kernel
theorem dL_law_372 : decode cL_law 372 = .ok (.iload_n 3, 1) := by decide +kernel
theorem dL_law_373 : decode cL_law 373 = .ok (.iconst 1, 1) := by decide +kernel
theorem dL_law_374 : decode cL_law 374 = .ok (.iadd, 1) := by decide +kernel
theorem dL_law_375 : decode cL_law 375 = .ok (.iaload, 1) := by decide +kernel
theorem dL_law_376 : decode cL_law 376 = .ok (.invokevirtual 50, 3) := by decide +kernel
theorem dL_law_379 : decode cL_law 379 = .ok (.pop, 1) := by decide +kernel
theorem dL_law_380 : decode cL_law 380 = .ok (.aload_n 2, 1) := by decide +kernel
theorem dL_law_381 : decode cL_law 381 = .ok (.aload_n 0, 1) := by decide +kernel
theorem dL_law_382 : decode cL_law 382 = .ok (.iload_n 3, 1) := by decide +kernel
theorem dL_law_383 : decode cL_law 383 = .ok (.iconst 1, 1) := by decide +kernel
theorem dL_law_384 : decode cL_law 384 = .ok (.iadd, 1) := by decide +kernel
theorem dL_law_385 : decode cL_law 385 = .ok (.iaload, 1) := by decide +kernel
theorem dL_law_386 : decode cL_law 386 = .ok (.invokevirtual 54, 3) := by decide +kernel
theorem dL_law_389 : decode cL_law 389 = .ok (.pop, 1) := by decide +kernel
theorem dL_law_390 : decode cL_law 390 = .ok (.goto 372, 3) := by decide +kernel
theorem dL_law_393 : decode cL_law 393 = .ok (.aload_n 1, 1) := by decide +kernel
theorem dL_law_394 : decode cL_law 394 = .ok (.aload_n 0, 1) := by decide +kernel
theorem dL_law_395 : decode cL_law 395 = .ok (.iload_n 3, 1) := by decide +kernel
theorem dL_law_396 : decode cL_law 396 = .ok (.iconst 1, 1) := by decide +kernel
theorem dL_law_397 : decode cL_law 397 = .ok (.iadd, 1) := by decide +kernel
theorem dL_law_398 : decode cL_law 398 = .ok (.iaload, 1) := by decide +kernel
theorem dL_law_399 : decode cL_law 399 = .ok (.invokevirtual 55, 3) := by decide +kernel
theorem dL_law_402 : decode cL_law 402 = .ok (.pop, 1) := by decide +kernel
theorem dL_law_403 : decode cL_law 403 = .ok (.aload_n 2, 1) := by decide +kernel
theorem dL_law_404 : decode cL_law 404 = .ok (.aload_n 0, 1) := by decide +kernel
theorem dL_law_405 : decode cL_law 405 = .ok (.iload_n 3, 1) := by decide +kernel
theorem dL_law_406 : decode cL_law 406 = .ok (.iconst 1, 1) := by decide +kernel
theorem dL_law_407 : decode cL_law 407 = .ok (.iadd, 1) := by decide +kernel
theorem dL_law_408 : decode cL_law 408 = .ok (.iaload, 1) := by decide +kernel
theorem dL_law_409 : decode cL_law 409 = .ok (.invokevirtual 58, 3) := by decide +kernel
theorem dL_law_412 : decode cL_law 412 = .ok (.pop, 1) := by decide +kernel
theorem dL_law_413 : decode cL_law 413 = .ok (.goto 349, 3) := by decide +kernel
theorem dL_law_416 : decode cL_law 416 = .ok (.aload_n 1, 1) := by decide +kernel
theorem dL_law_417 : decode cL_law 417 = .ok (.aload_n 0, 1) := by decide +kernel
theorem dL_law_418 : decode cL_law 418 = .ok (.iload_n 3, 1) := by decide +kernel
theorem dL_law_419 : decode cL_law 419 = .ok (.iconst 1, 1) := by decide +kernel
theorem dL_law_420 : decode cL_law 420 = .ok (.iadd, 1) := by decide +kernel
theorem dL_law_421 : decode cL_law 421 = .ok (.iaload, 1) := by decide +kernel
theorem dL_law_422 : decode cL_law 422 = .ok (.aload_n 0, 1) := by decide +kernel
theorem dL_law_423 : decode cL_law 423 = .ok (.iload_n 3, 1) := by decide +kernel
theorem dL_law_424 : decode cL_law 424 = .ok (.iconst 2, 1) := by decide +kernel
theorem dL_law_425 : decode cL_law 425 = .ok (.iadd, 1) := by decide +kernel
theorem dL_law_426 : decode cL_law 426 = .ok (.iaload, 1) := by decide +kernel
theorem dL_law_427 : decode cL_law 427 = .ok (.invokevirtual 59, 3) := by decide +kernel
theorem dL_law_430 : decode cL_law 430 = .ok (.pop, 1) := by decide +kernel
theorem dL_law_431 : decode cL_law 431 = .ok (.aload_n 2, 1) := by decide +kernel
theorem dL_law_432 : decode cL_law 432 = .ok (.aload_n 0, 1) := by decide +kernel
theorem dL_law_433 : decode cL_law 433 = .ok (.iload_n 3, 1) := by decide +kernel
theorem dL_law_434 : decode cL_law 434 = .ok (.iconst 1, 1) := by decide +kernel
theorem dL_law_435 : decode cL_law 435 = .ok (.iadd, 1) := by decide +kernel
theorem dL_law_436 : decode cL_law 436 = .ok (.iaload, 1) := by decide +kernel
theorem dL_law_437 : decode cL_law 437 = .ok (.aload_n 0, 1) := by decide +kernel
theorem dL_law_438 : decode cL_law 438 = .ok (.iload_n 3, 1) := by decide +kernel
theorem dL_law_439 : decode cL_law 439 = .ok (.iconst 2, 1) := by decide +kernel
theorem dL_law_440 : decode cL_law 440 = .ok (.iadd, 1) := by decide +kernel
theorem dL_law_441 : decode cL_law 441 = .ok (.iaload, 1) := by decide +kernel
theorem dL_law_442 : decode cL_law 442 = .ok (.invokevirtual 62, 3) := by decide +kernel
theorem dL_law_445 : decode cL_law 445 = .ok (.pop, 1) := by decide +kernel
theorem dL_law_446 : decode cL_law 446 = .ok (.goto 316, 3) := by decide +kernel
theorem dL_law_449 : decode cL_law 449 = .ok (.aload_n 1, 1) := by decide +kernel
theorem dL_law_450 : decode cL_law 450 = .ok (.aload_n 0, 1) := by decide +kernel
theorem dL_law_451 : decode cL_law 451 = .ok (.iload_n 3, 1) := by decide +kernel
theorem dL_law_452 : decode cL_law 452 = .ok (.iconst 1, 1) := by decide +kernel
theorem dL_law_453 : decode cL_law 453 = .ok (.iadd, 1) := by decide +kernel
theorem dL_law_454 : decode cL_law 454 = .ok (.iaload, 1) := by decide +kernel
theorem dL_law_455 : decode cL_law 455 = .ok (.invokevirtual 63, 3) := by decide +kernel
theorem dL_law_458 : decode cL_law 458 = .ok (.pop, 1) := by decide +kernel
theorem dL_law_459 : decode cL_law 459 = .ok (.aload_n 2, 1) := by decide +kernel
theorem dL_law_460 : decode cL_law 460 = .ok (.aload_n 0, 1) := by decide +kernel
theorem dL_law_461 : decode cL_law 461 = .ok (.iload_n 3, 1) := by decide +kernel
theorem dL_law_462 : decode cL_law 462 = .ok (.iconst 1, 1) := by decide +kernel
theorem dL_law_463 : decode cL_law 463 = .ok (.iadd, 1) := by decide +kernel
theorem dL_law_464 : decode cL_law 464 = .ok (.iaload, 1) := by decide +kernel
theorem dL_law_465 : decode cL_law 465 = .ok (.invokevirtual 66, 3) := by decide +kernel
theorem dL_law_468 : decode cL_law 468 = .ok (.pop, 1) := by decide +kernel
theorem dL_law_469 : decode cL_law 469 = .ok (.goto 293, 3) := by decide +kernel
theorem dL_law_472 : decode cL_law 472 = .ok (.aload_n 1, 1) := by decide +kernel
theorem dL_law_473 : decode cL_law 473 = .ok (.aload_n 0, 1) := by decide +kernel
theorem dL_law_474 : decode cL_law 474 = .ok (.iload_n 3, 1) := by decide +kernel
theorem dL_law_475 : decode cL_law 475 = .ok (.iconst 1, 1) := by decide +kernel
theorem dL_law_476 : decode cL_law 476 = .ok (.iadd, 1) := by decide +kernel
theorem dL_law_477 : decode cL_law 477 = .ok (.iaload, 1) := by decide +kernel
theorem dL_law_478 : decode cL_law 478 = .ok (.invokevirtual 67, 3) := by decide +kernel
theorem dL_law_481 : decode cL_law 481 = .ok (.pop, 1) := by decide +kernel
theorem dL_law_482 : decode cL_law 482 = .ok (.aload_n 2, 1) := by decide +kernel
theorem dL_law_483 : decode cL_law 483 = .ok (.aload_n 0, 1) := by decide +kernel
theorem dL_law_484 : decode cL_law 484 = .ok (.iload_n 3, 1) := by decide +kernel
theorem dL_law_485 : decode cL_law 485 = .ok (.iconst 1, 1) := by decide +kernel
theorem dL_law_486 : decode cL_law 486 = .ok (.iadd, 1) := by decide +kernel
theorem dL_law_487 : decode cL_law 487 = .ok (.iaload, 1) := by decide +kernel
theorem dL_law_488 : decode cL_law 488 = .ok (.invokevirtual 70, 3) := by decide +kernel
theorem dL_law_491 : decode cL_law 491 = .ok (.pop, 1) := by decide +kernel
theorem dL_law_492 : decode cL_law 492 = .ok (.goto 270, 3) := by decide +kernel
theorem dL_law_495 : decode cL_law 495 = .ok (.aload_n 1, 1) := by decide +kernel
theorem dL_law_496 : decode cL_law 496 = .ok (.aload_n 0, 1) := by decide +kernel
theorem dL_law_497 : decode cL_law 497 = .ok (.iload_n 3, 1) := by decide +kernel
theorem dL_law_498 : decode cL_law 498 = .ok (.iconst 1, 1) := by decide +kernel
theorem dL_law_499 : decode cL_law 499 = .ok (.iadd, 1) := by decide +kernel
theorem dL_law_500 : decode cL_law 500 = .ok (.iaload, 1) := by decide +kernel
theorem dL_law_501 : decode cL_law 501 = .ok (.aload_n 0, 1) := by decide +kernel
theorem dL_law_502 : decode cL_law 502 = .ok (.iload_n 3, 1) := by decide +kernel
theorem dL_law_503 : decode cL_law 503 = .ok (.iconst 2, 1) := by decide +kernel
theorem dL_law_504 : decode cL_law 504 = .ok (.iadd, 1) := by decide +kernel
theorem dL_law_505 : decode cL_law 505 = .ok (.iaload, 1) := by decide +kernel
theorem dL_law_506 : decode cL_law 506 = .ok (.invokevirtual 71, 3) := by decide +kernel
theorem dL_law_509 : decode cL_law 509 = .ok (.pop, 1) := by decide +kernel
theorem dL_law_510 : decode cL_law 510 = .ok (.aload_n 2, 1) := by decide +kernel
theorem dL_law_511 : decode cL_law 511 = .ok (.aload_n 0, 1) := by decide +kernel
theorem dL_law_512 : decode cL_law 512 = .ok (.iload_n 3, 1) := by decide +kernel
theorem dL_law_513 : decode cL_law 513 = .ok (.iconst 1, 1) := by decide +kernel
theorem dL_law_514 : decode cL_law 514 = .ok (.iadd, 1) := by decide +kernel
theorem dL_law_515 : decode cL_law 515 = .ok (.iaload, 1) := by decide +kernel
theorem dL_law_516 : decode cL_law 516 = .ok (.aload_n 0, 1) := by decide +kernel
theorem dL_law_517 : decode cL_law 517 = .ok (.iload_n 3, 1) := by decide +kernel
theorem dL_law_518 : decode cL_law 518 = .ok (.iconst 2, 1) := by decide +kernel
theorem dL_law_519 : decode cL_law 519 = .ok (.iadd, 1) := by decide +kernel
theorem dL_law_520 : decode cL_law 520 = .ok (.iaload, 1) := by decide +kernel
theorem dL_law_521 : decode cL_law 521 = .ok (.invokevirtual 74, 3) := by decide +kernel
theorem dL_law_524 : decode cL_law 524 = .ok (.pop, 1) := by decide +kernel
theorem dL_law_525 : decode cL_law 525 = .ok (.goto 237, 3) := by decide +kernel
theorem dL_law_528 : decode cL_law 528 = .ok (.aload_n 1, 1) := by decide +kernel
theorem dL_law_529 : decode cL_law 529 = .ok (.aload_n 0, 1) := by decide +kernel
theorem dL_law_530 : decode cL_law 530 = .ok (.iload_n 3, 1) := by decide +kernel
theorem dL_law_531 : decode cL_law 531 = .ok (.iconst 1, 1) := by decide +kernel
theorem dL_law_532 : decode cL_law 532 = .ok (.iadd, 1) := by decide +kernel
theorem dL_law_533 : decode cL_law 533 = .ok (.iaload, 1) := by decide +kernel
theorem dL_law_534 : decode cL_law 534 = .ok (.aload_n 0, 1) := by decide +kernel
theorem dL_law_535 : decode cL_law 535 = .ok (.iload_n 3, 1) := by decide +kernel
theorem dL_law_536 : decode cL_law 536 = .ok (.iconst 2, 1) := by decide +kernel
theorem dL_law_537 : decode cL_law 537 = .ok (.iadd, 1) := by decide +kernel
theorem dL_law_538 : decode cL_law 538 = .ok (.iaload, 1) := by decide +kernel
theorem dL_law_539 : decode cL_law 539 = .ok (.invokevirtual 75, 3) := by decide +kernel
theorem dL_law_542 : decode cL_law 542 = .ok (.pop, 1) := by decide +kernel
theorem dL_law_543 : decode cL_law 543 = .ok (.aload_n 2, 1) := by decide +kernel
theorem dL_law_544 : decode cL_law 544 = .ok (.aload_n 0, 1) := by decide +kernel
theorem dL_law_545 : decode cL_law 545 = .ok (.iload_n 3, 1) := by decide +kernel
theorem dL_law_546 : decode cL_law 546 = .ok (.iconst 1, 1) := by decide +kernel
theorem dL_law_547 : decode cL_law 547 = .ok (.iadd, 1) := by decide +kernel
theorem dL_law_548 : decode cL_law 548 = .ok (.iaload, 1) := by decide +kernel
theorem dL_law_549 : decode cL_law 549 = .ok (.aload_n 0, 1) := by decide +kernel
theorem dL_law_550 : decode cL_law 550 = .ok (.iload_n 3, 1) := by decide +kernel
theorem dL_law_551 : decode cL_law 551 = .ok (.iconst 2, 1) := by decide +kernel
theorem dL_law_552 : decode cL_law 552 = .ok (.iadd, 1) := by decide +kernel
theorem dL_law_553 : decode cL_law 553 = .ok (.iaload, 1) := by decide +kernel
theorem dL_law_554 : decode cL_law 554 = .ok (.invokevirtual 78, 3) := by decide +kernel
theorem dL_law_557 : decode cL_law 557 = .ok (.pop, 1) := by decide +kernel
theorem dL_law_558 : decode cL_law 558 = .ok (.goto 204, 3) := by decide +kernel
theorem dL_law_561 : decode cL_law 561 = .ok (.aload_n 1, 1) := by decide +kernel
theorem dL_law_562 : decode cL_law 562 = .ok (.invokevirtual 79, 3) := by decide +kernel
theorem dL_law_565 : decode cL_law 565 = .ok (.pop, 1) := by decide +kernel
theorem dL_law_566 : decode cL_law 566 = .ok (.aload_n 2, 1) := by decide +kernel
theorem dL_law_567 : decode cL_law 567 = .ok (.invokevirtual 82, 3) := by decide +kernel
theorem dL_law_570 : decode cL_law 570 = .ok (.pop, 1) := by decide +kernel
theorem dL_law_571 : decode cL_law 571 = .ok (.goto 191, 3) := by decide +kernel
theorem dL_law_574 : decode cL_law 574 = .ok (.aload_n 1, 1) := by decide +kernel
theorem dL_law_575 : decode cL_law 575 = .ok (.aload_n 0, 1) := by decide +kernel
theorem dL_law_576 : decode cL_law 576 = .ok (.iload_n 3, 1) := by decide +kernel
theorem dL_law_577 : decode cL_law 577 = .ok (.iconst 1, 1) := by decide +kernel
theorem dL_law_578 : decode cL_law 578 = .ok (.iadd, 1) := by decide +kernel
theorem dL_law_579 : decode cL_law 579 = .ok (.iaload, 1) := by decide +kernel
theorem dL_law_580 : decode cL_law 580 = .ok (.aload_n 0, 1) := by decide +kernel
theorem dL_law_581 : decode cL_law 581 = .ok (.iload_n 3, 1) := by decide +kernel
theorem dL_law_582 : decode cL_law 582 = .ok (.iconst 2, 1) := by decide +kernel
theorem dL_law_583 : decode cL_law 583 = .ok (.iadd, 1) := by decide +kernel
theorem dL_law_584 : decode cL_law 584 = .ok (.iaload, 1) := by decide +kernel
theorem dL_law_585 : decode cL_law 585 = .ok (.aload_n 0, 1) := by decide +kernel
theorem dL_law_586 : decode cL_law 586 = .ok (.iload_n 3, 1) := by decide +kernel
theorem dL_law_587 : decode cL_law 587 = .ok (.iconst 3, 1) := by decide +kernel
theorem dL_law_588 : decode cL_law 588 = .ok (.iadd, 1) := by decide +kernel
theorem dL_law_589 : decode cL_law 589 = .ok (.iaload, 1) := by decide +kernel
theorem dL_law_590 : decode cL_law 590 = .ok (.invokevirtual 83, 3) := by decide +kernel
theorem dL_law_593 : decode cL_law 593 = .ok (.pop, 1) := by decide +kernel
theorem dL_law_594 : decode cL_law 594 = .ok (.aload_n 2, 1) := by decide +kernel
theorem dL_law_595 : decode cL_law 595 = .ok (.aload_n 0, 1) := by decide +kernel
theorem dL_law_596 : decode cL_law 596 = .ok (.iload_n 3, 1) := by decide +kernel
theorem dL_law_597 : decode cL_law 597 = .ok (.iconst 1, 1) := by decide +kernel
theorem dL_law_598 : decode cL_law 598 = .ok (.iadd, 1) := by decide +kernel
theorem dL_law_599 : decode cL_law 599 = .ok (.iaload, 1) := by decide +kernel
theorem dL_law_600 : decode cL_law 600 = .ok (.aload_n 0, 1) := by decide +kernel
theorem dL_law_601 : decode cL_law 601 = .ok (.iload_n 3, 1) := by decide +kernel
theorem dL_law_602 : decode cL_law 602 = .ok (.iconst 2, 1) := by decide +kernel
theorem dL_law_603 : decode cL_law 603 = .ok (.iadd, 1) := by decide +kernel
theorem dL_law_604 : decode cL_law 604 = .ok (.iaload, 1) := by decide +kernel
theorem dL_law_605 : decode cL_law 605 = .ok (.aload_n 0, 1) := by decide +kernel
theorem dL_law_606 : decode cL_law 606 = .ok (.iload_n 3, 1) := by decide +kernel
theorem dL_law_607 : decode cL_law 607 = .ok (.iconst 3, 1) := by decide +kernel
theorem dL_law_608 : decode cL_law 608 = .ok (.iadd, 1) := by decide +kernel
theorem dL_law_609 : decode cL_law 609 = .ok (.iaload, 1) := by decide +kernel
theorem dL_law_610 : decode cL_law 610 = .ok (.invokevirtual 87, 3) := by decide +kernel
theorem dL_law_613 : decode cL_law 613 = .ok (.pop, 1) := by decide +kernel
theorem dL_law_614 : decode cL_law 614 = .ok (.goto 148, 3) := by decide +kernel
theorem dL_law_617 : decode cL_law 617 = .ok (.aload_n 1, 1) := by decide +kernel
theorem dL_law_618 : decode cL_law 618 = .ok (.aload_n 0, 1) := by decide +kernel
theorem dL_law_619 : decode cL_law 619 = .ok (.iload_n 3, 1) := by decide +kernel
theorem dL_law_620 : decode cL_law 620 = .ok (.iconst 1, 1) := by decide +kernel
theorem dL_law_621 : decode cL_law 621 = .ok (.iadd, 1) := by decide +kernel
theorem dL_law_622 : decode cL_law 622 = .ok (.iaload, 1) := by decide +kernel
theorem dL_law_623 : decode cL_law 623 = .ok (.invokevirtual 88, 3) := by decide +kernel
theorem dL_law_626 : decode cL_law 626 = .ok (.pop, 1) := by decide +kernel
theorem dL_law_627 : decode cL_law 627 = .ok (.aload_n 2, 1) := by decide +kernel
theorem dL_law_628 : decode cL_law 628 = .ok (.aload_n 0, 1) := by decide +kernel
theorem dL_law_629 : decode cL_law 629 = .ok (.iload_n 3, 1) := by decide +kernel
theorem dL_law_630 : decode cL_law 630 = .ok (.iconst 1, 1) := by decide +kernel
theorem dL_law_631 : decode cL_law 631 = .ok (.iadd, 1) := by decide +kernel
theorem dL_law_632 : decode cL_law 632 = .ok (.iaload, 1) := by decide +kernel
theorem dL_law_633 : decode cL_law 633 = .ok (.invokevirtual 91, 3) := by decide +kernel
theorem dL_law_636 : decode cL_law 636 = .ok (.pop, 1) := by decide +kernel
theorem dL_law_637 : decode cL_law 637 = .ok (.goto 125, 3) := by decide +kernel
theorem dL_law_640 : decode cL_law 640 = .ok (.aload_n 1, 1) := by decide +kernel
theorem dL_law_641 : decode cL_law 641 = .ok (.aload_n 0, 1) := by decide +kernel
theorem dL_law_642 : decode cL_law 642 = .ok (.iload_n 3, 1) := by decide +kernel
theorem dL_law_643 : decode cL_law 643 = .ok (.iconst 1, 1) := by decide +kernel
theorem dL_law_644 : decode cL_law 644 = .ok (.iadd, 1) := by decide +kernel
theorem dL_law_645 : decode cL_law 645 = .ok (.iaload, 1) := by decide +kernel
theorem dL_law_646 : decode cL_law 646 = .ok (.aload_n 0, 1) := by decide +kernel
theorem dL_law_647 : decode cL_law 647 = .ok (.iload_n 3, 1) := by decide +kernel
theorem dL_law_648 : decode cL_law 648 = .ok (.iconst 2, 1) := by decide +kernel
theorem dL_law_649 : decode cL_law 649 = .ok (.iadd, 1) := by decide +kernel
theorem dL_law_650 : decode cL_law 650 = .ok (.iaload, 1) := by decide +kernel
theorem dL_law_651 : decode cL_law 651 = .ok (.invokevirtual 92, 3) := by decide +kernel
theorem dL_law_654 : decode cL_law 654 = .ok (.pop, 1) := by decide +kernel
theorem dL_law_655 : decode cL_law 655 = .ok (.aload_n 2, 1) := by decide +kernel
theorem dL_law_656 : decode cL_law 656 = .ok (.aload_n 0, 1) := by decide +kernel
theorem dL_law_657 : decode cL_law 657 = .ok (.iload_n 3, 1) := by decide +kernel
theorem dL_law_658 : decode cL_law 658 = .ok (.iconst 1, 1) := by decide +kernel
theorem dL_law_659 : decode cL_law 659 = .ok (.iadd, 1) := by decide +kernel
theorem dL_law_660 : decode cL_law 660 = .ok (.iaload, 1) := by decide +kernel
theorem dL_law_661 : decode cL_law 661 = .ok (.aload_n 0, 1) := by decide +kernel
theorem dL_law_662 : decode cL_law 662 = .ok (.iload_n 3, 1) := by decide +kernel
theorem dL_law_663 : decode cL_law 663 = .ok (.iconst 2, 1) := by decide +kernel
theorem dL_law_664 : decode cL_law 664 = .ok (.iadd, 1) := by decide +kernel
theorem dL_law_665 : decode cL_law 665 = .ok (.iaload, 1) := by decide +kernel
theorem dL_law_666 : decode cL_law 666 = .ok (.invokevirtual 95, 3) := by decide +kernel
theorem dL_law_669 : decode cL_law 669 = .ok (.pop, 1) := by decide +kernel
theorem dL_law_670 : decode cL_law 670 = .ok (.goto 92, 3) := by decide +kernel
theorem dL_law_673 : decode cL_law 673 = .ok (.aload_n 1, 1) := by decide +kernel
theorem dL_law_674 : decode cL_law 674 = .ok (.aload_n 0, 1) := by decide +kernel
theorem dL_law_675 : decode cL_law 675 = .ok (.iload_n 3, 1) := by decide +kernel
theorem dL_law_676 : decode cL_law 676 = .ok (.iconst 1, 1) := by decide +kernel
theorem dL_law_677 : decode cL_law 677 = .ok (.iadd, 1) := by decide +kernel
theorem dL_law_678 : decode cL_law 678 = .ok (.iaload, 1) := by decide +kernel
theorem dL_law_679 : decode cL_law 679 = .ok (.invokevirtual 96, 3) := by decide +kernel
theorem dL_law_682 : decode cL_law 682 = .ok (.pop, 1) := by decide +kernel
theorem dL_law_683 : decode cL_law 683 = .ok (.aload_n 2, 1) := by decide +kernel
theorem dL_law_684 : decode cL_law 684 = .ok (.aload_n 0, 1) := by decide +kernel
theorem dL_law_685 : decode cL_law 685 = .ok (.iload_n 3, 1) := by decide +kernel
theorem dL_law_686 : decode cL_law 686 = .ok (.iconst 1, 1) := by decide +kernel
theorem dL_law_687 : decode cL_law 687 = .ok (.iadd, 1) := by decide +kernel
theorem dL_law_688 : decode cL_law 688 = .ok (.iaload, 1) := by decide +kernel
theorem dL_law_689 : decode cL_law 689 = .ok (.invokevirtual 99, 3) := by decide +kernel
theorem dL_law_692 : decode cL_law 692 = .ok (.pop, 1) := by decide +kernel
theorem dL_law_693 : decode cL_law 693 = .ok (.goto 69, 3) := by decide +kernel
theorem dL_law_696 : decode cL_law 696 = .ok (.aload_n 1, 1) := by decide +kernel
theorem dL_law_697 : decode cL_law 697 = .ok (.aload_n 0, 1) := by decide +kernel
theorem dL_law_698 : decode cL_law 698 = .ok (.iload_n 3, 1) := by decide +kernel
theorem dL_law_699 : decode cL_law 699 = .ok (.iconst 1, 1) := by decide +kernel
theorem dL_law_700 : decode cL_law 700 = .ok (.iadd, 1) := by decide +kernel
theorem dL_law_701 : decode cL_law 701 = .ok (.iaload, 1) := by decide +kernel
theorem dL_law_702 : decode cL_law 702 = .ok (.aload_n 0, 1) := by decide +kernel
theorem dL_law_703 : decode cL_law 703 = .ok (.iload_n 3, 1) := by decide +kernel
theorem dL_law_704 : decode cL_law 704 = .ok (.iconst 2, 1) := by decide +kernel
theorem dL_law_705 : decode cL_law 705 = .ok (.iadd, 1) := by decide +kernel
theorem dL_law_706 : decode cL_law 706 = .ok (.iaload, 1) := by decide +kernel
theorem dL_law_707 : decode cL_law 707 = .ok (.aload_n 0, 1) := by decide +kernel
theorem dL_law_708 : decode cL_law 708 = .ok (.iload_n 3, 1) := by decide +kernel
theorem dL_law_709 : decode cL_law 709 = .ok (.iconst 3, 1) := by decide +kernel
theorem dL_law_710 : decode cL_law 710 = .ok (.iadd, 1) := by decide +kernel
theorem dL_law_711 : decode cL_law 711 = .ok (.iaload, 1) := by decide +kernel
theorem dL_law_712 : decode cL_law 712 = .ok (.invokevirtual 100, 3) := by decide +kernel
theorem dL_law_715 : decode cL_law 715 = .ok (.pop, 1) := by decide +kernel
theorem dL_law_716 : decode cL_law 716 = .ok (.aload_n 2, 1) := by decide +kernel
theorem dL_law_717 : decode cL_law 717 = .ok (.aload_n 0, 1) := by decide +kernel
theorem dL_law_718 : decode cL_law 718 = .ok (.iload_n 3, 1) := by decide +kernel
theorem dL_law_719 : decode cL_law 719 = .ok (.iconst 1, 1) := by decide +kernel
theorem dL_law_720 : decode cL_law 720 = .ok (.iadd, 1) := by decide +kernel
theorem dL_law_721 : decode cL_law 721 = .ok (.iaload, 1) := by decide +kernel
theorem dL_law_722 : decode cL_law 722 = .ok (.aload_n 0, 1) := by decide +kernel
theorem dL_law_723 : decode cL_law 723 = .ok (.iload_n 3, 1) := by decide +kernel
theorem dL_law_724 : decode cL_law 724 = .ok (.iconst 2, 1) := by decide +kernel
theorem dL_law_725 : decode cL_law 725 = .ok (.iadd, 1) := by decide +kernel
theorem dL_law_726 : decode cL_law 726 = .ok (.iaload, 1) := by decide +kernel
theorem dL_law_727 : decode cL_law 727 = .ok (.aload_n 0, 1) := by decide +kernel
theorem dL_law_728 : decode cL_law 728 = .ok (.iload_n 3, 1) := by decide +kernel
theorem dL_law_729 : decode cL_law 729 = .ok (.iconst 3, 1) := by decide +kernel
theorem dL_law_730 : decode cL_law 730 = .ok (.iadd, 1) := by decide +kernel
theorem dL_law_731 : decode cL_law 731 = .ok (.iaload, 1) := by decide +kernel
theorem dL_law_732 : decode cL_law 732 = .ok (.invokevirtual 103, 3) := by decide +kernel
theorem dL_law_735 : decode cL_law 735 = .ok (.pop, 1) := by decide +kernel
theorem dL_law_736 : decode cL_law 736 = .ok (.goto 26, 3) := by decide +kernel
theorem dL_law_739 : decode cL_law 739 = .ok (.aload_n 1, 1) := by decide +kernel
theorem dL_law_740 : decode cL_law 740 = .ok (.aload_n 0, 1) := by decide +kernel
theorem dL_law_741 : decode cL_law 741 = .ok (.iload_n 3, 1) := by decide +kernel
theorem dL_law_742 : decode cL_law 742 = .ok (.iconst 1, 1) := by decide +kernel
theorem dL_law_743 : decode cL_law 743 = .ok (.iadd, 1) := by decide +kernel
theorem dL_law_744 : decode cL_law 744 = .ok (.iaload, 1) := by decide +kernel
theorem dL_law_745 : decode cL_law 745 = .ok (.invokevirtual 104, 3) := by decide +kernel
theorem dL_law_748 : decode cL_law 748 = .ok (.pop, 1) := by decide +kernel
theorem dL_law_749 : decode cL_law 749 = .ok (.aload_n 2, 1) := by decide +kernel
theorem dL_law_750 : decode cL_law 750 = .ok (.aload_n 0, 1) := by decide +kernel
theorem dL_law_751 : decode cL_law 751 = .ok (.iload_n 3, 1) := by decide +kernel
theorem dL_law_752 : decode cL_law 752 = .ok (.iconst 1, 1) := by decide +kernel
theorem dL_law_753 : decode cL_law 753 = .ok (.iadd, 1) := by decide +kernel
theorem dL_law_754 : decode cL_law 754 = .ok (.iaload, 1) := by decide +kernel
theorem dL_law_755 : decode cL_law 755 = .ok (.invokevirtual 107, 3) := by decide +kernel
theorem dL_law_758 : decode cL_law 758 = .ok (.pop, 1) := by decide +kernel
theorem dL_law_759 : decode cL_law 759 = .ok (.goto 3, 3) := by decide +kernel
theorem dL_law_762 : decode cL_law 762 = .ok (.iinc 3 4, 3) := by decide +kernel
theorem dL_law_765 : decode cL_law 765 = .ok (.goto (-747), 3) := by decide +kernel
theorem dL_law_768 : decode cL_law 768 = .ok (.iconst 1, 1) := by decide +kernel
theorem dL_law_769 : decode cL_law 769 = .ok (.ireturn, 1) := by decide +kernel
abbrev vwCl : List vw_C := [(RX0, TX0, 5), (RX1, TX1, 10), (RX2, TX2, 8), (RX3, TX3, 10), (RX4, TX4, 7), (RX5, TX5, 21)]

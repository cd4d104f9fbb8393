/-! ===== 62 making: what the tables say, one rule an instruction ===== -/
def tyL (C : Nat → ClassId) : List (ClassId × FieldType) := [(C 0, .int), (C 1, .boolean), (C 2, .object "TreeDebts$State"), (C 3, .array .int)]
/-- the tables, while objects are made -/
def tbF (D : va_G) (C : Nat → ClassId) (U : State) : Prop := va_K D vwCl (tyL C) U ∧ (∃ (kA kI : Class) (cx : ClassId), U.vm.classes[C 3]? = some kA ∧ kA.kind = .array (C 0) (.array .int) ∧ U.vm.classes[C 0]? = some kI ∧ kI.kind = .array cx .int) ∧ (va_Nw (.methodLinkNest "TreeDebts" 9 yX2_init "TreeDebts") U ∧ va_Nw (.methodLinkNest "TreeDebts$Text" 17 yX3_init "TreeDebts") U ∧ va_Nw (.methodLinkNest "TreeDebts" 18 yX3_init "TreeDebts") U ∧ va_Nw (.methodLinkNest "TreeDebts" 25 yX1_init "TreeDebts") U ∧ va_Nw (.methodLinkNest "TreeDebts" 43 yX0_init "TreeDebts") U) ∧ va_AO "TreeDebts$State" U
theorem tbF.next {D : va_G} {C : Nat → ClassId} {s U : State} (h : tbF D C s) (hW : s.WarmedH U.vm) : tbF D C U := by
  obtain ⟨h1, ⟨kA, kI, cx, a1, a2, a3, a4⟩, ⟨n1, n2, n3, n4, n5⟩, h4⟩ := h
  obtain ⟨kA', b1, b2⟩ := hW.alike.2.2 _ _ a1
  obtain ⟨kI', b3, b4⟩ := hW.alike.2.2 _ _ a3
  exact ⟨va_K.moved hW.alike h1, ⟨kA', kI', cx, b1, by rw [b2]; exact a2, b3, by rw [b4]; exact a4⟩, ⟨va_Nw.warmM hW n1, va_Nw.warmM hW n2, va_Nw.warmM hW n3, va_Nw.warmM hW n4, va_Nw.warmM hW n5⟩, va_AO.moved hW.alike h4⟩
theorem tbF.same {D : va_G} {C : Nat → ClassId} {s U : State} (h : tbF D C s) (hv : U.vm = s.vm) : tbF D C U := by
  obtain ⟨h1, ⟨kA, kI, cx, a1, a2, a3, a4⟩, ⟨n1, n2, n3, n4, n5⟩, h4⟩ := h
  have hA : s.vm.Alike U.vm := by rw [hv]; exact Vm.Alike.refl _
  exact ⟨va_K.moved hA h1, ⟨kA, kI, cx, by rw [hv]; exact a1, a2, by rw [hv]; exact a3, a4⟩, ⟨va_Nw.same rfl hv.symm n1, va_Nw.same rfl hv.symm n2, va_Nw.same rfl hv.symm n3, va_Nw.same rfl hv.symm n4, va_Nw.same rfl hv.symm n5⟩, va_AO.moved hA h4⟩
section NR
variable {p : Program} {l : Launch} {e : Env} {R : Room} {s : State} {m : MethodId} {args : Array Value} {below : List Frame} {meth : Method} {c : Code} {H : Heap} {locs : List Loc} {cells slots : Nat} {Q : State → Prop} {cc : ByteArray} {pc : Nat} {ls : Array Slot} {rest : List Value} {D : va_G} {C : Nat → ClassId} {ws : va_W} {A : Nat → Prop} {H0 : Heap}
/-- a cell more, at the end -/
theorem nw_push {x : va_E} {H1 : Heap} (hP : va_P D vwCl ws H) (hD : va_D A ws) (hS : va_S A H0 H locs) (hA : ∀ q, H0.size ≤ q → A q) (z1 : H1.size = H.size + 1) (o1 : ∀ q, q < H.size → H1[q]? = H[q]?) (hx : va_at D vwCl (H.size, x) H1) : va_P D vwCl (ws ++ [(H.size, x)]) H1 ∧ va_D A (ws ++ [(H.size, x)]) ∧ va_S A H0 H1 locs := by
  have hk : ∀ (k : Nat) (x : Nat × va_E), ws[k]? = some x → H1[x.1]? = H[x.1]? := fun k x hx => o1 x.1 ((hP k x hx).lt)
  refine ⟨(hP.kept hk).app (fun k y hy => ?_), hD.push hP rfl (hA _ hS.1), ⟨Nat.le_trans hS.1 (by omega), fun x h1 h2 => (o1 x (Nat.lt_of_lt_of_le h1 hS.1)).trans (hS.2.1 x h1 h2), hS.2.2⟩⟩
  have hz : k < 1 := (List.getElem?_eq_some_iff.mp hy).1
  rw [show k = 0 by omega] at hy
  cases hy
  exact hx
theorem nwI (hx : p.tables.exec = Jvm.exec) (hb : c.code = cc) (harr : (Cond.arrayClass .int).before args s = true) (hB : tbF D C s) (hP : va_P D vwCl ws H) (hD : va_D A ws) (hS : va_S A H0 H locs) (hA : ∀ q, H0.size ≤ q → A q) {n : Int32} {N : Nat} (hn : ¬ n < 0) (hN : n.toNatClampNeg = N) (hbytes : N * 4 ≤ 536870912) (hcells : cells + 1 ≤ R.cells) (hslots : slots + N ≤ R.slots) {h : Nat} (hh : H.size = h) (hdg : decode cc pc = .ok (.newarray .int, 2))
    (kk : ∀ H1 : Heap, H1.size = h + 1 → va_P D vwCl (ws ++ [(h, .inl (C 0, N, .inl (fun _ => 0)))]) H1 → va_D A (ws ++ [(h, .inl (C 0, N, .inl (fun _ => 0)))]) → va_S A H0 H1 locs → W p l e R s m args below meth c H1 locs (cells + 1) (slots + N) Q (F0 m (pc + 2) ls (.ref h :: rest))) : W p l e R s m args below meth c H locs cells slots Q (F0 m pc ls (.int n :: rest)) := by
  subst hh
  refine va_newaK (atype := .int) hx hb harr rfl hdg rfl hn hN hbytes hcells hslots rfl fun H1 cA e1 z1 o1 hAr hNm => ?_
  have eA : cA = C 0 := by
    have h9 := (hB.1.2 0 _ rfl).2
    exact Option.some.inj (hNm.symm.trans h9)
  subst eA
  obtain ⟨a1, a2, a3⟩ := nw_push (x := .inl (C 0, N, .inl (fun _ => 0))) hP hD hS hA z1 o1 e1
  exact kk H1 z1 a1 a2 a3
theorem nwZ (hx : p.tables.exec = Jvm.exec) (hb : c.code = cc) (harr : (Cond.arrayClass .boolean).before args s = true) (hB : tbF D C s) (hP : va_P D vwCl ws H) (hD : va_D A ws) (hS : va_S A H0 H locs) (hA : ∀ q, H0.size ≤ q → A q) {n : Int32} {N : Nat} (hn : ¬ n < 0) (hN : n.toNatClampNeg = N) (hbytes : N * 1 ≤ 536870912) (hcells : cells + 1 ≤ R.cells) (hslots : slots + N ≤ R.slots) {h : Nat} (hh : H.size = h) (hdg : decode cc pc = .ok (.newarray .boolean, 2))
    (kk : ∀ H1 : Heap, H1.size = h + 1 → va_P D vwCl (ws ++ [(h, .inl (C 1, N, .inl (fun _ => 0)))]) H1 → va_D A (ws ++ [(h, .inl (C 1, N, .inl (fun _ => 0)))]) → va_S A H0 H1 locs → W p l e R s m args below meth c H1 locs (cells + 1) (slots + N) Q (F0 m (pc + 2) ls (.ref h :: rest))) : W p l e R s m args below meth c H locs cells slots Q (F0 m pc ls (.int n :: rest)) := by
  subst hh
  refine va_newaK (atype := .boolean) hx hb harr rfl hdg rfl hn hN hbytes hcells hslots rfl fun H1 cA e1 z1 o1 hAr hNm => ?_
  have eA : cA = C 1 := by
    have h9 := (hB.1.2 1 _ rfl).2
    exact Option.some.inj (hNm.symm.trans h9)
  subst eA
  obtain ⟨a1, a2, a3⟩ := nw_push (x := .inl (C 1, N, .inl (fun _ => 0))) hP hD hS hA z1 o1 e1
  exact kk H1 z1 a1 a2 a3
theorem nwQ (hx : p.tables.exec = Jvm.exec) (hb : c.code = cc) {own : String} {index : Nat} (hown : s.vm.findClass own = some m.cls) (hclink : (Cond.classLink own index "TreeDebts$State").before args s = true) (hB : tbF D C s) (hP : va_P D vwCl ws H) (hD : va_D A ws) (hS : va_S A H0 H locs) (hA : ∀ q, H0.size ≤ q → A q) {n : Int32} {N : Nat} (hn : ¬ n < 0) (hN : n.toNatClampNeg = N) (hbytes : N * 4 ≤ 536870912) (hcells : cells + 1 ≤ R.cells) (hslots : slots + N ≤ R.slots) {h : Nat} (hh : H.size = h) (hdg : decode cc pc = .ok (.anewarray index, 3))
    (kk : ∀ H1 : Heap, H1.size = h + 1 → va_P D vwCl (ws ++ [(h, .inl (C 2, N, .inr (.inr (.inr (.inr (fun _ => none))))))]) H1 → va_D A (ws ++ [(h, .inl (C 2, N, .inr (.inr (.inr (.inr (fun _ => none))))))]) → va_S A H0 H1 locs → W p l e R s m args below meth c H1 locs (cells + 1) (slots + N) Q (F0 m (pc + 3) ls (.ref h :: rest))) : W p l e R s m args below meth c H locs cells slots Q (F0 m pc ls (.int n :: rest)) := by
  subst hh
  subst hN
  refine W.anew hx hb hown hclink (va_AO.use hB.2.2.2) rfl hdg rfl hn hbytes hcells hslots fun cA kA comp f1 f2 f3 f4 => ?_
  have eA : cA = C 2 := by
    have h9 := (hB.1.2 2 _ rfl).2
    obtain ⟨_, _, -, -, -, h8⟩ := h9
    exact Option.some.inj (f1.symm.trans h8)
  subst eA
  generalize hH1 : H.push ({ cls := C 2, slots := Array.replicate n.toNatClampNeg .null, vm := .none } : Cell) = H1
  have z1 : H1.size = H.size + 1 := by rw [← hH1, Array.size_push]
  have e1 : H1[H.size]? = some (arrV (C 2) n.toNatClampNeg (fun _ => .null)) := by rw [← hH1, Array.getElem?_push_size, ← arrV_new]
  have o1 : ∀ q : Nat, q < H.size → H1[q]? = H[q]? := fun q hq => by rw [← hH1, Array.getElem?_push, if_neg (Nat.ne_of_lt hq)]
  obtain ⟨a1, a2, a3⟩ := nw_push (x := .inl (C 2, n.toNatClampNeg, .inr (.inr (.inr (.inr (fun _ => none)))))) hP hD hS hA z1 o1 e1
  exact kk H1 z1 a1 a2 a3
/-- the cells of a row of rows at h -/
def mrW (C : Nat → ClassId) (h N M : Nat) : va_W := (h, .inl (C 3, N, .inr (.inr (.inr (.inr (fun j => if j < N then some (h + 1 + j) else none)))))) :: (List.range N).map (fun j => (h + 1 + j, .inl (C 0, M, .inl (fun _ => 0))))
theorem nwM (hx : p.tables.exec = Jvm.exec) (hb : c.code = cc) {own : String} {index : Nat} (hown : s.vm.findClass own = some m.cls) (hclink : (Cond.classLink own index "[[I").before args s = true) (hB : tbF D C s) (hP : va_P D vwCl ws H) (hD : va_D A ws) (hS : va_S A H0 H locs) (hA : ∀ q, H0.size ≤ q → A q) {n k : Int32} {N M : Nat} (hn : ¬ n < 0) (hk : ¬ k < 0) (hN : n.toNatClampNeg = N) (hM : k.toNatClampNeg = M) (bN : N ≤ 1000) (bM : M ≤ 1000) (hcells : cells + (1 + N) ≤ R.cells) (hslots : slots + (N + N * M) ≤ R.slots) {h : Nat} (hh : H.size = h) (hdg : decode cc pc = .ok (.multianewarray index 2, 4))
    (kk : ∀ (H1 : Heap) (locs1 : List Loc), H1.size = h + 1 + N → va_P D vwCl (ws ++ mrW C h N M) H1 → va_D A (ws ++ mrW C h N M) → va_S A H0 H1 locs1 → W p l e R s m args below meth c H1 locs1 (cells + 1 + N) (slots + N + N * M) Q (F0 m (pc + 4) ls (.ref h :: rest))) : W p l e R s m args below meth c H locs cells slots Q (F0 m pc ls (.int k :: .int n :: rest)) := by
  subst hh
  obtain ⟨kA, kI, cx, a1, a2, a3, a4⟩ := hB.2.1
  refine W_multi hx hb hown hclink (hB.1.2 3 _ rfl).2 a1 a2 a3 a4 rfl hdg rfl hn hk hN hM bN bM hcells hslots fun H1 locs1 z1 o1 e1 r1 l1 => ?_
  have hkp : ∀ (k : Nat) (x : Nat × va_E), ws[k]? = some x → H1[x.1]? = H[x.1]? := fun k x hx => o1 x.1 ((hP k x hx).lt)
  have hrow : va_P D vwCl (mrW C H.size N M) H1 := by
    intro k q hq
    unfold mrW at hq
    cases k with
    | zero =>
      cases hq
      show H1[H.size]? = some (vp_cell _ _)
      rw [e1]
      show some (arrV (C 3) N (mO H.size N)) = some (arrV (C 3) N (fun j => va_rf (if j < N then some (H.size + 1 + j) else none)))
      congr 2
      funext j
      unfold mO
      split <;> rfl
    | succ k =>
      rw [List.getElem?_cons_succ, List.getElem?_map] at hq
      by_cases hkN : k < N
      · rw [List.getElem?_range hkN] at hq
        cases hq
        show H1[H.size + 1 + k]? = some (vp_cell _ _)
        rw [r1 k hkN]
        rfl
      · rw [List.getElem?_eq_none (by simpa using hkN)] at hq
        cases hq
  have adr : ∀ (k : Nat) (q : Nat × va_E), (mrW C H.size N M)[k]? = some q → q.1 = H.size + k := by
    intro k q hq
    unfold mrW at hq
    cases k with
    | zero => cases hq; rfl
    | succ k =>
      rw [List.getElem?_cons_succ, List.getElem?_map] at hq
      by_cases hkN : k < N
      · rw [List.getElem?_range hkN] at hq
        cases hq
        show H.size + 1 + k = H.size + (k + 1)
        omega
      · rw [List.getElem?_eq_none (by simpa using hkN)] at hq
        cases hq
  have hDn : va_D A (ws ++ mrW C H.size N M) := by
    have key : ∀ (k : Nat) (q : Nat × va_E), (ws ++ mrW C H.size N M)[k]? = some q → (ws[k]? = some q ∧ q.1 < H.size) ∨ (ws.length ≤ k ∧ q.1 = H.size + (k - ws.length)) := by
      intro k q hq
      by_cases hl : k < ws.length
      · rw [List.getElem?_append_left hl] at hq
        exact Or.inl ⟨hq, (hP k q hq).lt⟩
      · rw [List.getElem?_append_right (by omega)] at hq
        exact Or.inr ⟨by omega, adr _ q hq⟩
    refine ⟨fun i j x y hi hj hxy => ?_, fun k q hq => ?_⟩
    · rcases key i x hi with ⟨u1, u2⟩ | ⟨u1, u2⟩ <;> rcases key j y hj with ⟨v1, v2⟩ | ⟨v1, v2⟩
      · exact hD.1 i j x y u1 v1 hxy
      · omega
      · omega
      · omega
    · rcases key k q hq with ⟨u1, u2⟩ | ⟨u1, u2⟩
      · exact hD.2 k q u1
      · exact hA _ (by have := hS.1; omega)
  exact kk H1 locs1 z1 ((hP.kept hkp).app hrow) hDn ⟨Nat.le_trans hS.1 (by omega), fun x h1 h2 => (o1 x (Nat.lt_of_lt_of_le h1 hS.1)).trans (hS.2.1 x h1 h2), fun q hq => by
    rcases l1 q hq with h | h
    · exact hS.2.2 q h
    · rw [h]; exact hA _ hS.1⟩
end NR

/-! ===== 63 making: an object, its constructor's contract ===== -/
section NO
variable {p : Program} {l : Launch} {e : Env} {R : Room} {s : State} {m : MethodId} {args : Array Value} {below : List Frame} {meth : Method} {c : Code} {H : Heap} {locs : List Loc} {cells slots : Nat} {Q : State → Prop} {cc : ByteArray} {pc : Nat} {ls : Array Slot} {rest : List Value} {D : va_G} {C : Nat → ClassId} {ws : va_W} {A : Nat → Prop} {H0 : Heap}
abbrev nwPc (D : va_G) (C : Nat → ClassId) (ci : Nat) (fs : List Value) (a : Nat) : Array Value → State → Prop := va_Pc [.ref a] (fun U => tbF D C U ∧ U.heap.size = a + 1 ∧ va_P D vwCl [(a, .inr (ci, fs))] U.heap)
abbrev nwQc (D : va_G) (cw : Nat → va_W) (mc a : Nat) : Array Value → State → Outcome → State → Prop := va_Qv (fun _ : Unit => True) (fun _ t => t.heap.size = a + 1 + mc ∧ va_P D vwCl (cw a) t.heap ∧ va_D (fun q => a ≤ q) (cw a)) (fun q => a ≤ q)
/-- a constructor's contract: its object stands at a, the last cell; cw a are the cells behind it -/
def NM (l : Launch) (D : va_G) (C : Nat → ClassId) (y : MethodName) (wsy : List Cond) (rm : Room) (ci : Nat) (fs : List Value) (cw : Nat → va_W) (mc ms : Nat) : Prop := ∀ a, Met l y wsy rm (nwPc D C ci fs a) (nwQc D cw mc a) mc ms (fun q => a ≤ q)
theorem nm_blind (D : va_G) (C : Nat → ClassId) (ci : Nat) (fs : List Value) (a : Nat) : FrameBlind (nwPc D C ci fs a) := fun A U g mk q => by
  obtain ⟨q0, q1, q2, q3⟩ := q
  exact ⟨q0, q1.same (U := U.calling g mk A) rfl, q2, q3⟩
theorem nwC {own C0 : String} {T : u_T} {N ci index : Nat} {Ts : List Cond} (hx : p.tables.exec = Jvm.exec) (hb : c.code = cc) (hts : ∀ w ∈ Ts, w.before args s = true) (hin : ∀ w ∈ u_ws C0 T N, w ∈ Ts) (ty : Nat → FieldType) (hty : ∀ k, k < N → parseFieldDescriptor (T k).2.2.1 = some (ty k)) (hown : s.vm.findClass own = some m.cls) (hcl : (Cond.classLink own index C0).before args s = true) (hinst : (Cond.instantiable C0 N).before args s = true) (hini : (Cond.initialized C0).before args s = true)
    (hB : tbF D C s) (hP : va_P D vwCl ws H) (hD : va_D A ws) (hS : va_S A H0 H locs) (hA : ∀ q, H0.size ≤ q → A q) (hc : vwCl[ci]? = some (C0, T, N)) {fs : List Value} (hfs : ∀ j, j < N → defaultValue (ty j) = vp_V fs j) (hcells : cells + 1 ≤ R.cells) (hslots : slots + N ≤ R.slots) {h : Nat} (hh : H.size = h) (hdg : decode cc pc = .ok (.new index, 3))
    (kk : ∀ H1 : Heap, H1.size = h + 1 → (∀ q, q < h → H1[q]? = H[q]?) → va_P D vwCl (ws ++ [(h, .inr (ci, fs))]) H1 → va_D A (ws ++ [(h, .inr (ci, fs))]) → va_S A H0 H1 locs →
      W p l e R s m args below meth c H1 locs (cells + 1) (slots + N) Q (F0 m (pc + 3) ls (.ref h :: rest))) : W p l e R s m args below meth c H locs cells slots Q (F0 m pc ls rest) := by
  subst hh
  have hKn := hB.1.1 ci _ hc
  refine W.newcK hx hb hown hcl hinst hini rfl hdg hcells hslots hKn.2.1 rfl fun H1 kC hkC e1 z1 o1 => ?_
  obtain ⟨a1, a2, a3⟩ := nw_push (x := .inr (ci, fs)) hP hD hS hA z1 o1 ⟨_, hc, (u_born ty hts hin hKn hkC e1 hty).to hfs⟩
  exact kk H1 z1 o1 a1 a2 a3
/-- new, dup, the constructor -/
theorem nwObj {own C0 : String} {T : u_T} {N ci index mc ms : Nat} {cw : Nat → va_W} {Ts : List Cond} (hx : p.tables.exec = Jvm.exec) (hb : c.code = cc) (hts : ∀ w ∈ Ts, w.before args s = true) (hin : ∀ w ∈ u_ws C0 T N, w ∈ Ts) (ty : Nat → FieldType) (hty : ∀ k, k < N → parseFieldDescriptor (T k).2.2.1 = some (ty k)) (hown : s.vm.findClass own = some m.cls) (hcl : (Cond.classLink own index C0).before args s = true) (hinst : (Cond.instantiable C0 N).before args s = true) (hini : (Cond.initialized C0).before args s = true)
    (hB : tbF D C s) (hP : va_P D vwCl ws H) (hD : va_D A ws) (hS : va_S A H0 H locs) (hA : ∀ q, H0.size ≤ q → A q) (hc : vwCl[ci]? = some (C0, T, N)) {fs : List Value} (hfs : ∀ j, j < N → defaultValue (ty j) = vp_V fs j) (hcells : cells + 1 ≤ R.cells) (hslots : slots + N ≤ R.slots) {h : Nat} (hh : H.size = h) (hdg : decode cc pc = .ok (.new index, 3)) (hdg2 : decode cc (pc + 3) = .ok (.dup, 1))
    (hrun : ∀ H1 : Heap, H1.size = h + 1 → va_P D vwCl [(h, .inr (ci, fs))] H1 → va_Run p l e R s m args below meth c H1 locs (cells + 1) (slots + N) mc ms (F0 m (pc + 4) ls (.ref h :: .ref h :: rest)) (.ref h :: rest) (nwQc D cw mc h #[.ref h]) (fun q => h ≤ q))
    (kk : ∀ (H1 : Heap) (locs1 : List Loc), H1.size = h + 1 + mc → va_P D vwCl (ws ++ cw h) H1 → va_D A (ws ++ cw h) → va_S A H0 H1 locs1 →
      W p l e R s m args below meth c H1 locs1 (cells + 1 + mc) (slots + N + ms) Q (F0 m (pc + 7) ls (.ref h :: rest))) : W p l e R s m args below meth c H locs cells slots Q (F0 m pc ls rest) := by
  refine nwC hx hb hts hin ty hty hown hcl hinst hini hB hP hD hS hA hc hfs hcells hslots hh hdg fun H1 z1 o1 hP1 hD1 hS1 => ?_
  subst hh
  refine lv_dup hx hb hdg2 rfl ?_
  have hPo : va_P D vwCl [(H.size, .inr (ci, fs))] H1 := fun k q hk => by
    have hz : k < 1 := (List.getElem?_eq_some_iff.mp hk).1
    have e0 : k = 0 := by omega
    subst e0
    cases hk
    exact hP1 ws.length _ (by rw [List.getElem?_append_right (Nat.le_refl _), Nat.sub_self]; rfl)
  have hAh : ∀ q, H.size ≤ q → A q := fun q hq => hA q (Nat.le_trans hS.1 hq)
  refine va_callv (hrun H1 z1 hPo) hS1 (fun q _ hq => hAh q hq) hAh (fun u t H2 locs2 ht hvm hw hB2 hz2 hk2 hS2 => ?_)
  obtain ⟨b1, b2, b3⟩ := hB2
  rw [ht] at b1 b2
  have hkp : ∀ (k : Nat) (x : Nat × va_E), ws[k]? = some x → H2[x.1]? = H[x.1]? := fun k x hxk => by
    have hlt := (hP k x hxk).lt
    rw [hk2 x.1 (by omega) (by omega), o1 x.1 hlt]
  refine kk H2 locs2 b1 ((hP.kept hkp).app b2) ?_ hS2
  have key : ∀ (k : Nat) (q : Nat × va_E), (ws ++ cw H.size)[k]? = some q → (ws[k]? = some q ∧ q.1 < H.size) ∨ (ws.length ≤ k ∧ (cw H.size)[k - ws.length]? = some q ∧ H.size ≤ q.1) := by
    intro k q hq
    by_cases hl : k < ws.length
    · rw [List.getElem?_append_left hl] at hq
      exact Or.inl ⟨hq, (hP k q hq).lt⟩
    · rw [List.getElem?_append_right (by omega)] at hq
      exact Or.inr ⟨by omega, hq, b3.2 _ q hq⟩
  refine ⟨fun i j x y hi hj hxy => ?_, fun k q hq => ?_⟩
  · rcases key i x hi with ⟨u1, u2⟩ | ⟨u1, u2, u3⟩ <;> rcases key j y hj with ⟨v1, v2⟩ | ⟨v1, v2, v3⟩
    · exact hD.1 i j x y u1 v1 hxy
    · omega
    · omega
    · have := b3.1 _ _ x y u2 v2 hxy
      omega
  · rcases key k q hq with ⟨u1, u2⟩ | ⟨u1, u2, u3⟩
    · exact hD.2 k q u1
    · exact hAh _ u3
/-- a constructor's start -/
theorem nm_start {l : Launch} {D : va_G} {C : Nat → ClassId} {y : MethodName} {cc : ByteArray} {own : String} {wsy ws' : List Cond} {rm : Room} {ci mc ms : Nat} {fs : List Value} {cw : Nat → va_W} (hy : plainName y.cls = true) (hyn : y.name = "<init>") (hown : y.cls = own) (hw : wsy = Cond.code y cc 1 none :: ws')
    (k : ∀ (p : Program) (e : Env) (s : State) (m : MethodId) (args : Array Value) (below : List Frame) (meth : Method) (c : Code) (ls : Array Slot) (a : Nat), p.tables.exec = Jvm.exec → c.code = cc → meth.sig.returnType = none → c.maxLocals = 1 → s.vm.findClass own = some m.cls → (∀ x ∈ wsy, x.before args s = true) → meth.locks = false → meth.name = "<init>" → tbF D C s → s.heap.size = a + 1 → va_P D vwCl [(a, .inr (ci, fs))] s.heap → lv_has ls 1 [(0, .ref a)] →
      W p l e rm s m args below meth c s.heap [] 0 0 (MQ below (nwQc D cw mc a) args s mc ms (fun q => a ≤ q)) (F0 m 0 ls [])) : NM l D C y wsy rm ci fs cw mc ms := by
  intro a
  refine Met.ofW (cc := cc) (maxL := 1) (ret := none) hy hw ?_
  intro p e s m args below meth c s₁ B hml hv
  obtain ⟨rfl, hB, hsz, hP⟩ := hv
  have hts := atoms_spec (ws := wsy) B.pre
  have ho : s.vm.findClass own = some m.cls := by rw [← hown]; exact findClass_of_methodNamed B.named
  have hinm : meth.name = y.name := (name_of_methodNamed B.named B.method).1
  have hl := lv_entry ([.ref a]) (n := 1) (Nat.le_of_ble_eq_true rfl)
  rw [lg_entry_eq]
  generalize (lg_sl ([.ref a]) ++ List.replicate (1 - (lg_sl ([.ref a])).length) Slot.unset).toArray = ls at hl ⊢
  exact k p e s m _ below meth c ls a B.exec B.bytes B.returns hml ho hts B.notSynchronized (hinm.trans hyn) hB hsz hP hl
/-- how many cells there are is known again -/
theorem W_size {cl : List vw_C} {k q : Nat} {x : va_E} {g : JFrame} (hP : va_P D cl ws H) (hk : ws[k]? = some (q, x)) (hq : q + 1 = s.heap.size + cells) (kk : H.size = s.heap.size + cells → W p l e R s m args below meth c H locs cells slots Q g) : W p l e R s m args below meth c H locs cells slots Q g := fun T hT X => kk (by
  have h1 := X.heapSize
  rw [hT] at h1
  have h2 : q < H.size := (hP k _ hk).lt
  omega) T hT X
/-- a final field of the object at the head is written -/
theorem pfF {own C0 : String} {T : u_T} {N ci idx k a kl q : Nat} {x : va_E} {Ts : List Cond} {fs : List Value} {wr : va_W} {v : Value} {ty : FieldType} (hx : p.tables.exec = Jvm.exec) (hb : c.code = cc) (hts : ∀ w ∈ Ts, w.before args s = true) (hin : ∀ w ∈ u_ws C0 T N, w ∈ Ts) (ty0 : Nat → FieldType) (hty : ∀ k, k < N → parseFieldDescriptor (T k).2.2.1 = some (ty0 k)) (hnm : ∀ a, a < N → ∀ b, b < N → a ≠ b → (T a).2.1 ≠ (T b).2.1) (hown : s.vm.findClass own = some m.cls) (hname : meth.name = "<init>")
    (hB : tbF D C s) (hP : va_P D vwCl ((a, .inr (ci, fs)) :: wr) H) (hD : va_D A ((a, .inr (ci, fs)) :: wr)) (hS : va_S A H0 H locs) (hc : vwCl[ci]? = some (C0, T, N)) (hk : k < N) (hlink : Cond.fieldLink own idx (T k).1 (T k).2.1 (T k).2.2.1 ∈ Ts) (hfin : (T k).2.2.2 = true) (hdecl : (T k).1 = own) (hd : parseFieldDescriptor (T k).2.2.1 = some ty) (hnr : narrow ty v = v) (hft : fits ty v = true) (hl : k < fs.length) (hkl : wr[kl]? = some (q, x)) (hq : q + 1 = s.heap.size + cells) (d4 : decode cc pc = .ok (.putfield idx, 3))
    (kk : ∀ (H1 : Heap) (locs1 : List Loc), H1.size = s.heap.size + cells → va_P D vwCl ((a, .inr (ci, fs.set k v)) :: wr) H1 → va_D A ((a, .inr (ci, fs.set k v)) :: wr) → va_S A H0 H1 locs1 → W p l e R s m args below meth c H1 locs1 cells slots Q (F0 m (pc + 3) ls rest)) : W p l e R s m args below meth c H locs cells slots Q (F0 m pc ls (v :: .ref a :: rest)) := by
  refine va_putF (D := D) (ci := ci) (v := v) (ty := ty) (C := C0) (T := T) (N := N) hx hb hts hin ty0 hty hnm hown hB.1 hP hD hS 0 rfl hc k hk (hts _ hlink) (fun _ h9 => h9) hfin hname hdecl hd hnr hft hl d4 (fun H2 locs2 hP2 hD2 hS2 => ?_)
  have hP2 : va_P D vwCl ((a, .inr (ci, fs.set k v)) :: wr) H2 := hP2
  exact W_size (k := kl + 1) hP2 hkl hq (fun z => kk H2 locs2 z hP2 hD2 hS2)
/-- a field of it that is no final one -/
theorem pfN {own C0 : String} {T : u_T} {N ci idx k a kl q : Nat} {x : va_E} {Ts : List Cond} {fs : List Value} {wr : va_W} {v : Value} {ty : FieldType} (hx : p.tables.exec = Jvm.exec) (hb : c.code = cc) (hts : ∀ w ∈ Ts, w.before args s = true) (hin : ∀ w ∈ u_ws C0 T N, w ∈ Ts) (ty0 : Nat → FieldType) (hty : ∀ k, k < N → parseFieldDescriptor (T k).2.2.1 = some (ty0 k)) (hnm : ∀ a, a < N → ∀ b, b < N → a ≠ b → (T a).2.1 ≠ (T b).2.1) (hown : s.vm.findClass own = some m.cls)
    (hB : tbF D C s) (hP : va_P D vwCl ((a, .inr (ci, fs)) :: wr) H) (hD : va_D A ((a, .inr (ci, fs)) :: wr)) (hS : va_S A H0 H locs) (hc : vwCl[ci]? = some (C0, T, N)) (hk : k < N) (hlink : Cond.fieldLink own idx (T k).1 (T k).2.1 (T k).2.2.1 ∈ Ts) (hfin : (T k).2.2.2 = false) (hd : parseFieldDescriptor (T k).2.2.1 = some ty) (hnr : narrow ty v = v) (hft : fits ty v = true) (hl : k < fs.length) (hkl : wr[kl]? = some (q, x)) (hq : q + 1 = s.heap.size + cells) (d4 : decode cc pc = .ok (.putfield idx, 3))
    (kk : ∀ (H1 : Heap) (locs1 : List Loc), H1.size = s.heap.size + cells → va_P D vwCl ((a, .inr (ci, fs.set k v)) :: wr) H1 → va_D A ((a, .inr (ci, fs.set k v)) :: wr) → va_S A H0 H1 locs1 → W p l e R s m args below meth c H1 locs1 cells slots Q (F0 m (pc + 3) ls rest)) : W p l e R s m args below meth c H locs cells slots Q (F0 m pc ls (v :: .ref a :: rest)) := by
  refine va_put (D := D) (ci := ci) (v := v) (ty := ty) (C := C0) (T := T) (N := N) hx hb hts hin ty0 hty hnm hown hB.1 hP hD hS 0 rfl hc k hk (hts _ hlink) (fun _ h9 => h9) hfin hd hnr hft hl d4 (fun H2 locs2 hP2 hD2 hS2 => ?_)
  have hP2 : va_P D vwCl ((a, .inr (ci, fs.set k v)) :: wr) H2 := hP2
  exact W_size (k := kl + 1) hP2 hkl hq (fun z => kk H2 locs2 z hP2 hD2 hS2)
end NO

/-! ===== 04 contracts: what a method answers, and what the world is behind it ===== -/
abbrev PcOf (G : Gb) (avs : List Value) (w : Wd) : Array Value → State → Prop := va_Pc avs (fun U => gGl G U ∧ va_P (gD G) vwCl (ces G w) U.heap)
abbrev Qi (G : Gb) (Post : Int → Wd → Prop) : Array Value → State → Outcome → State → Prop := va_Qi (fun (r : Int32) (w' : Wd) => ∃ z : Int, r = iZ z ∧ Post z w') (fun w' t => va_P (gD G) vwCl (ces G w') t.heap) (gAw G)
abbrev Qv (G : Gb) (Post : Wd → Prop) : Array Value → State → Outcome → State → Prop := va_Qv (fun w' : Wd => Post w') (fun w' t => va_P (gD G) vwCl (ces G w') t.heap) (gAw G)
/-- the method answers a number -/
def Ci (G : Gb) (l : Launch) (y : MethodName) (M : MB) (avs : List Value) (w : Wd) (Post : Int → Wd → Prop) : Prop := Met l y M.2.2.2.2.1 M.2.2.2.2.2 (PcOf G avs w) (Qi G Post) 0 0 (gAw G)
/-- the method answers nothing -/
def Cv (G : Gb) (l : Launch) (y : MethodName) (M : MB) (avs : List Value) (w : Wd) (Post : Wd → Prop) : Prop := Met l y M.2.2.2.2.1 M.2.2.2.2.2 (PcOf G avs w) (Qv G Post) 0 0 (gAw G)
/-- the locals at a method's start -/
def mkL : List Value → List (Option Value)
  | [] => []
  | v :: vs => if v.category = 2 then some v :: none :: mkL vs else some v :: mkL vs
theorem mkL_args : ∀ (vs : List Value) (b i : Nat) (v : Value), (mkL vs)[i]? = some (some v) → (b + i, v) ∈ lv_args b vs
  | [], b, i, v, h => by simp [mkL] at h
  | u :: vs, b, i, v, h => by
    unfold mkL at h
    unfold lv_args
    by_cases hc : u.category = 2
    · rw [if_pos hc] at h ⊢
      match i, h with
      | 0, h => cases h; exact List.mem_cons_self
      | 1, h => cases h
      | i + 2, h =>
        have h1 := mkL_args vs (b + 2) i v h
        rw [show b + (i + 2) = b + 2 + i by omega]
        exact List.mem_cons_of_mem _ h1
    · rw [if_neg hc] at h ⊢
      match i, h with
      | 0, h => cases h; exact List.mem_cons_self
      | i + 1, h =>
        have h1 := mkL_args vs (b + 1) i v h
        rw [show b + (i + 1) = b + 1 + i by omega]
        exact List.mem_cons_of_mem _ h1
theorem lvL_entry (vs : List Value) {n : Nat} (h : (lg_sl vs).length ≤ n) (j : Nat) : lvL ((lg_sl vs ++ List.replicate (n - (lg_sl vs).length) Slot.unset).toArray) n (mkL vs ++ List.replicate j none) := by
  obtain ⟨h1, h2, h3⟩ := lv_entry vs h
  refine ⟨h1, h2, fun i v hi => ?_⟩
  by_cases hl : i < (mkL vs).length
  · rw [List.getElem?_append_left hl] at hi
    have := mkL_args vs 0 i v hi
    rw [Nat.zero_add] at this
    exact h3 (i, v) this
  · rw [List.getElem?_append_right (by omega)] at hi
    have := List.mem_of_getElem? hi
    rw [List.mem_replicate] at this
    cases this.2
section VC
variable {G : Gb} {l : Launch} {M : MB} {Qc : Array Value → State → Outcome → State → Prop} {pc : Nat} {L : List (Option Value)} {st : List Value} {w : Wd}
theorem V_start {y : MethodName} {cc : ByteArray} {maxL : Nat} {own : String} {ret : Option FieldType} {ws ws' : List Cond} {rm : Room} {avs : List Value} (j : Nat) (hy : plainName y.cls = true) (hown : y.cls = own) (hw : ws = Cond.code y cc maxL ret :: ws') (hlen : (lg_sl avs).length ≤ maxL)
    (k : V G l (cc, maxL, own, ret, ws, rm) Qc 0 (mkL avs ++ List.replicate j none) [] w) : Met l y ws rm (PcOf G avs w) Qc 0 0 (gAw G) := by
  refine Met.ofW (cc := cc) (maxL := maxL) (ret := ret) hy hw ?_
  intro p e s m args below meth c s₁ B hml hv
  obtain ⟨rfl, hG, hP⟩ := hv
  rw [lg_entry_eq]
  have hts := atoms_spec (ws := ws) B.pre
  have ho : s.vm.findClass own = some m.cls := by rw [← hown]; exact findClass_of_methodNamed B.named
  exact k p e s m _ below meth c s.heap [] _ ⟨B.exec, B.bytes, B.returns, hml, ho, hts, B.notSynchronized, hG⟩ hP va_S.rf (lvL_entry avs hlen j)
theorem V_iret {z : Int} {Post : Int → Wd → Prop} (hd : decode M.1 pc = .ok (.ireturn, 1)) (hr0 : M.2.2.2.1 = some .int) (h : Post z w) : V G l M (Qi G Post) pc L [.int (iZ z)] w := by
  intro p e s m args below meth c H locs ls C hP hS hl
  obtain ⟨hx, hb, hr, hml, hown, hts, hlo, hG⟩ := C
  exact W.iret hx hb (hr.trans hr0) (fun t ht hW => ⟨⟨iZ z, w, rfl, ⟨z, rfl, h⟩, by show va_P _ _ _ t.heap; rw [ht]; exact hP⟩, hS.F ht⟩) hS.2.2 hd hlo
theorem V_zret {z : Int} {Post : Int → Wd → Prop} (hd : decode M.1 pc = .ok (.ireturn, 1)) (hr0 : M.2.2.2.1 = some .boolean) (hz : z = 0 ∨ z = 1) (h : Post z w) : V G l M (Qi G Post) pc L [.int (iZ z)] w := by
  intro p e s m args below meth c H locs ls C hP hS hl
  obtain ⟨hx, hb, hr, hml, hown, hts, hlo, hG⟩ := C
  exact W.zret (ty := .boolean) hx hb (hr.trans hr0) (by rcases hz with rfl | rfl <;> rfl) (fun t ht hW => ⟨⟨iZ z, w, rfl, ⟨z, rfl, h⟩, by show va_P _ _ _ t.heap; rw [ht]; exact hP⟩, hS.F ht⟩) hS.2.2 hd hlo
theorem V_vret {Post : Wd → Prop} (hd : decode M.1 pc = .ok (.return_, 1)) (hr0 : M.2.2.2.1 = none) (h : Post w) : V G l M (Qv G Post) pc L [] w := by
  intro p e s m args below meth c H locs ls C hP hS hl
  obtain ⟨hx, hb, hr, hml, hown, hts, hlo, hG⟩ := C
  exact W.vret hx hb (hr.trans hr0) (fun t ht hW => ⟨⟨w, rfl, h, by show va_P _ _ _ t.heap; rw [ht]; exact hP⟩, hS.F ht⟩) hS.2.2 hd hlo
/-- a contract's start is blind for frames, and holds in the caller's world -/
theorem pc_blind (G : Gb) (avs : List Value) (w : Wd) : FrameBlind (PcOf G avs w) := fun a U g mk q => by
  obtain ⟨q0, q1, q2⟩ := q
  exact ⟨q0, gGl.same (U := U.calling g mk a) q1 rfl rfl, q2⟩
theorem pc_in {G : Gb} {avs : List Value} {w : Wd} {s : State} {H : Heap} {locs : List Loc} (hG : gGl G s) (hP : va_P (gD G) vwCl (ces G w) H) (hS : va_S (gAw G) s.heap H locs) (U : State) (hU : U.heap = H) (hW : s.WarmedH U.vm) : PcOf G avs w avs.toArray U :=
  ⟨rfl, hG.next hW (fun a h1 h2 => by rw [hU]; exact hS.2.1 a h1 h2), by rw [hU]; exact hP⟩
/-- what a call needs beside the contract: words, and room -/
def OkV (M M' : MB) (y : MethodName) (idx n : Nat) (C0 : String) : Prop := GoodIn M.2.2.2.2.1 (wsV M.2.2.1 idx C0 y M'.2.2.2.2.1) ∧ (∃ ws', M'.2.2.2.2.1 = Cond.code y M'.1 M'.2.1 M'.2.2.2.1 :: ws') ∧ (M'.2.2.2.2.2.cells = 0 ∧ M'.2.2.2.2.2.slots = 0) ∧ (y.cls = C0 ∧ y.cls ≠ "java/lang/invoke/MethodHandle" ∧ y.cls ≠ "java/lang/invoke/VarHandle" ∧ (parseMethodDescriptor y.desc).map (fun d => d.parameters.length) = some n) ∧ (M'.2.2.2.2.2.frames + 1 ≤ M.2.2.2.2.2.frames ∧ 8 + (M'.2.1 + 11) + M'.2.2.2.2.2.locals ≤ M.2.2.2.2.2.locals)
def OkS (M M' : MB) (y : MethodName) (idx n : Nat) : Prop := GoodIn M.2.2.2.2.1 (va_wsS M.2.2.1 idx y M'.2.2.2.2.1) ∧ (∃ ws', M'.2.2.2.2.1 = Cond.code y M'.1 M'.2.1 M'.2.2.2.1 :: ws') ∧ (M'.2.2.2.2.2.cells = 0 ∧ M'.2.2.2.2.2.slots = 0) ∧ (y.cls ≠ "java/lang/invoke/MethodHandle" ∧ y.cls ≠ "java/lang/invoke/VarHandle" ∧ (parseMethodDescriptor y.desc).map (fun d => d.parameters.length) = some n) ∧ (M'.2.2.2.2.2.frames + 1 ≤ M.2.2.2.2.2.frames ∧ 8 + (M'.2.1 + 11) + M'.2.2.2.2.2.locals ≤ M.2.2.2.2.2.locals)
theorem run_V {y : MethodName} {M' : MB} {idx n kk ci N : Nat} {fl : List (Option Nat)} {C0 : String} {T : u_T} {As rest : List Value} {Qa : Array Value → State → Outcome → State → Prop} (hM : Met l y M'.2.2.2.2.1 M'.2.2.2.2.2 (PcOf G (.ref (gA G kk) :: As) w) Qa 0 0 (gAw G)) (ok : OkV M M' y idx n C0) (hs : shL[kk]? = some (shO ci fl)) (hc : vwCl[ci]? = some (C0, T, N)) (hn : As.length = n) (hst : st = As.reverse ++ .ref (gA G kk) :: rest) (hrest : (rest.map fun v => v.category).sum ≤ 8) (hd : decode M.1 pc = .ok (.invokevirtual idx, 3))
    {p : Program} {e : Env} {s : State} {m : MethodId} {args : Array Value} {below : List Frame} {meth : Method} {c : Code} {H : Heap} {locs : List Loc} {ls : Array Slot} (C : Cx G M p s m args meth c) (hP : va_P (gD G) vwCl (ces G w) H) (hS : va_S (gAw G) s.heap H locs) (hl : lvL ls M.2.1 L) :
    va_Run p l e M.2.2.2.2.2 s m args below meth c H locs 0 0 0 0 (F0 m pc ls st) rest (Qa (Value.ref (gA G kk) :: As).toArray) (gAw G) := by
  obtain ⟨hx, hb, hr, hml, hown, hts, hlo, hG⟩ := C
  obtain ⟨o1, ⟨ws', o2⟩, ⟨o3, o3'⟩, o4, o5⟩ := ok
  exact va_runV (As := As) (rest := rest) ⟨hx, hb, hml, hown, hts⟩ hM (cwV n hts o1 o2 o3 o3' o4 o5) ⟨pc_blind G _ w, va_recv hG.1 hP hc (ces_of hs), fun U hU hW => pc_in hG hP hS U hU hW⟩ rfl hn hl.1 hst (lv_room hrest) hd ⟨Nat.zero_le _, Nat.zero_le _⟩
theorem run_S {y : MethodName} {M' : MB} {idx n : Nat} {As rest : List Value} {Qa : Array Value → State → Outcome → State → Prop} (hM : Met l y M'.2.2.2.2.1 M'.2.2.2.2.2 (PcOf G As w) Qa 0 0 (gAw G)) (ok : OkS M M' y idx n) (hn : As.length = n) (hst : st = As.reverse ++ rest) (hrest : (rest.map fun v => v.category).sum ≤ 8) (hd : decode M.1 pc = .ok (.invokestatic idx, 3))
    {p : Program} {e : Env} {s : State} {m : MethodId} {args : Array Value} {below : List Frame} {meth : Method} {c : Code} {H : Heap} {locs : List Loc} {ls : Array Slot} (C : Cx G M p s m args meth c) (hP : va_P (gD G) vwCl (ces G w) H) (hS : va_S (gAw G) s.heap H locs) (hl : lvL ls M.2.1 L) :
    va_Run p l e M.2.2.2.2.2 s m args below meth c H locs 0 0 0 0 (F0 m pc ls st) rest (Qa As.toArray) (gAw G) := by
  obtain ⟨hx, hb, hr, hml, hown, hts, hlo, hG⟩ := C
  obtain ⟨o1, ⟨ws', o2⟩, ⟨o3, o3'⟩, o4, o5⟩ := ok
  exact va_runS (As := As) (rest := rest) ⟨hx, hb, hml, hown, hts⟩ hM (va_cwS n hts o1 o2 o3 o3' o4 o5) ⟨pc_blind G _ w, fun U hU hW => pc_in hG hP hS U hU hW⟩ rfl hn hl.1 hst (lv_room hrest) hd ⟨Nat.zero_le _, Nat.zero_le _⟩
theorem V_of_run_i {As0 : Array Value} {rest : List Value} {Post : Int → Wd → Prop} (hr : ∀ {p : Program} {e : Env} {s : State} {m : MethodId} {args : Array Value} {below : List Frame} {meth : Method} {c : Code} {H : Heap} {locs : List Loc} {ls : Array Slot}, Cx G M p s m args meth c → va_P (gD G) vwCl (ces G w) H → va_S (gAw G) s.heap H locs → lvL ls M.2.1 L → va_Run p l e M.2.2.2.2.2 s m args below meth c H locs 0 0 0 0 (F0 m pc ls st) rest (Qi G Post As0) (gAw G))
    (k : ∀ (z : Int) (w' : Wd), Post z w' → V G l M Qc (pc + 3) L (.int (iZ z) :: rest) w') : V G l M Qc pc L st w := by
  intro p e s m args below meth c H locs ls C hP hS hl
  refine va_calli (hr C hP hS hl) hS (fun _ _ h => h) (fun _ h => h) (fun r w' t H1 locs1 ht hvm hw hB hz1 hk1 hS1 => ?_)
  obtain ⟨z, rfl, hpost⟩ := hw
  rw [ht] at hB
  exact k z w' hpost p e s m args below meth c H1 locs1 ls C hB hS1 hl
theorem V_of_run_v {As0 : Array Value} {rest : List Value} {Post : Wd → Prop} (hr : ∀ {p : Program} {e : Env} {s : State} {m : MethodId} {args : Array Value} {below : List Frame} {meth : Method} {c : Code} {H : Heap} {locs : List Loc} {ls : Array Slot}, Cx G M p s m args meth c → va_P (gD G) vwCl (ces G w) H → va_S (gAw G) s.heap H locs → lvL ls M.2.1 L → va_Run p l e M.2.2.2.2.2 s m args below meth c H locs 0 0 0 0 (F0 m pc ls st) rest (Qv G Post As0) (gAw G))
    (k : ∀ (w' : Wd), Post w' → V G l M Qc (pc + 3) L rest w') : V G l M Qc pc L st w := by
  intro p e s m args below meth c H locs ls C hP hS hl
  refine va_callv (hr C hP hS hl) hS (fun _ _ h => h) (fun _ h => h) (fun w' t H1 locs1 ht hvm hw hB hz1 hk1 hS1 => ?_)
  rw [ht] at hB
  exact k w' hw p e s m args below meth c H1 locs1 ls C hB hS1 hl
variable {y : MethodName} {M' : MB} {idx kk ci N : Nat} {fl : List (Option Nat)} {C0 : String} {T : u_T} {rest : List Value} {v1 v2 v3 v4 : Value}
theorem V_iV0 {Post : Int → Wd → Prop} (hd : decode M.1 pc = .ok (.invokevirtual idx, 3)) (ok : OkV M M' y idx 0 C0) (hs : shL[kk]? = some (shO ci fl)) (hc : vwCl[ci]? = some (C0, T, N)) (hrest : (rest.map fun v => v.category).sum ≤ 8) (hM : Ci G l y M' [.ref (gA G kk)] w Post) (k : ∀ (z : Int) (w' : Wd), Post z w' → V G l M Qc (pc + 3) L (.int (iZ z) :: rest) w') : V G l M Qc pc L (.ref (gA G kk) :: rest) w := V_of_run_i (fun C hP hS hl => run_V (As := []) hM ok hs hc rfl rfl hrest hd C hP hS hl) k
theorem V_iV1 {Post : Int → Wd → Prop} (hd : decode M.1 pc = .ok (.invokevirtual idx, 3)) (ok : OkV M M' y idx 1 C0) (hs : shL[kk]? = some (shO ci fl)) (hc : vwCl[ci]? = some (C0, T, N)) (hrest : (rest.map fun v => v.category).sum ≤ 8) (hM : Ci G l y M' [.ref (gA G kk), v1] w Post) (k : ∀ (z : Int) (w' : Wd), Post z w' → V G l M Qc (pc + 3) L (.int (iZ z) :: rest) w') : V G l M Qc pc L (v1 :: .ref (gA G kk) :: rest) w := V_of_run_i (fun C hP hS hl => run_V (As := [v1]) hM ok hs hc rfl rfl hrest hd C hP hS hl) k
theorem V_iV2 {Post : Int → Wd → Prop} (hd : decode M.1 pc = .ok (.invokevirtual idx, 3)) (ok : OkV M M' y idx 2 C0) (hs : shL[kk]? = some (shO ci fl)) (hc : vwCl[ci]? = some (C0, T, N)) (hrest : (rest.map fun v => v.category).sum ≤ 8) (hM : Ci G l y M' [.ref (gA G kk), v1, v2] w Post) (k : ∀ (z : Int) (w' : Wd), Post z w' → V G l M Qc (pc + 3) L (.int (iZ z) :: rest) w') : V G l M Qc pc L (v2 :: v1 :: .ref (gA G kk) :: rest) w := V_of_run_i (fun C hP hS hl => run_V (As := [v1, v2]) hM ok hs hc rfl rfl hrest hd C hP hS hl) k
theorem V_iV3 {Post : Int → Wd → Prop} (hd : decode M.1 pc = .ok (.invokevirtual idx, 3)) (ok : OkV M M' y idx 3 C0) (hs : shL[kk]? = some (shO ci fl)) (hc : vwCl[ci]? = some (C0, T, N)) (hrest : (rest.map fun v => v.category).sum ≤ 8) (hM : Ci G l y M' [.ref (gA G kk), v1, v2, v3] w Post) (k : ∀ (z : Int) (w' : Wd), Post z w' → V G l M Qc (pc + 3) L (.int (iZ z) :: rest) w') : V G l M Qc pc L (v3 :: v2 :: v1 :: .ref (gA G kk) :: rest) w := V_of_run_i (fun C hP hS hl => run_V (As := [v1, v2, v3]) hM ok hs hc rfl rfl hrest hd C hP hS hl) k
theorem V_iV4 {Post : Int → Wd → Prop} (hd : decode M.1 pc = .ok (.invokevirtual idx, 3)) (ok : OkV M M' y idx 4 C0) (hs : shL[kk]? = some (shO ci fl)) (hc : vwCl[ci]? = some (C0, T, N)) (hrest : (rest.map fun v => v.category).sum ≤ 8) (hM : Ci G l y M' [.ref (gA G kk), v1, v2, v3, v4] w Post) (k : ∀ (z : Int) (w' : Wd), Post z w' → V G l M Qc (pc + 3) L (.int (iZ z) :: rest) w') : V G l M Qc pc L (v4 :: v3 :: v2 :: v1 :: .ref (gA G kk) :: rest) w := V_of_run_i (fun C hP hS hl => run_V (As := [v1, v2, v3, v4]) hM ok hs hc rfl rfl hrest hd C hP hS hl) k
theorem V_vV0 {Post : Wd → Prop} (hd : decode M.1 pc = .ok (.invokevirtual idx, 3)) (ok : OkV M M' y idx 0 C0) (hs : shL[kk]? = some (shO ci fl)) (hc : vwCl[ci]? = some (C0, T, N)) (hrest : (rest.map fun v => v.category).sum ≤ 8) (hM : Cv G l y M' [.ref (gA G kk)] w Post) (k : ∀ w' : Wd, Post w' → V G l M Qc (pc + 3) L rest w') : V G l M Qc pc L (.ref (gA G kk) :: rest) w := V_of_run_v (fun C hP hS hl => run_V (As := []) hM ok hs hc rfl rfl hrest hd C hP hS hl) k
theorem V_vV1 {Post : Wd → Prop} (hd : decode M.1 pc = .ok (.invokevirtual idx, 3)) (ok : OkV M M' y idx 1 C0) (hs : shL[kk]? = some (shO ci fl)) (hc : vwCl[ci]? = some (C0, T, N)) (hrest : (rest.map fun v => v.category).sum ≤ 8) (hM : Cv G l y M' [.ref (gA G kk), v1] w Post) (k : ∀ w' : Wd, Post w' → V G l M Qc (pc + 3) L rest w') : V G l M Qc pc L (v1 :: .ref (gA G kk) :: rest) w := V_of_run_v (fun C hP hS hl => run_V (As := [v1]) hM ok hs hc rfl rfl hrest hd C hP hS hl) k
theorem V_vV2 {Post : Wd → Prop} (hd : decode M.1 pc = .ok (.invokevirtual idx, 3)) (ok : OkV M M' y idx 2 C0) (hs : shL[kk]? = some (shO ci fl)) (hc : vwCl[ci]? = some (C0, T, N)) (hrest : (rest.map fun v => v.category).sum ≤ 8) (hM : Cv G l y M' [.ref (gA G kk), v1, v2] w Post) (k : ∀ w' : Wd, Post w' → V G l M Qc (pc + 3) L rest w') : V G l M Qc pc L (v2 :: v1 :: .ref (gA G kk) :: rest) w := V_of_run_v (fun C hP hS hl => run_V (As := [v1, v2]) hM ok hs hc rfl rfl hrest hd C hP hS hl) k
theorem V_vV3 {Post : Wd → Prop} (hd : decode M.1 pc = .ok (.invokevirtual idx, 3)) (ok : OkV M M' y idx 3 C0) (hs : shL[kk]? = some (shO ci fl)) (hc : vwCl[ci]? = some (C0, T, N)) (hrest : (rest.map fun v => v.category).sum ≤ 8) (hM : Cv G l y M' [.ref (gA G kk), v1, v2, v3] w Post) (k : ∀ w' : Wd, Post w' → V G l M Qc (pc + 3) L rest w') : V G l M Qc pc L (v3 :: v2 :: v1 :: .ref (gA G kk) :: rest) w := V_of_run_v (fun C hP hS hl => run_V (As := [v1, v2, v3]) hM ok hs hc rfl rfl hrest hd C hP hS hl) k
theorem V_vV4 {Post : Wd → Prop} (hd : decode M.1 pc = .ok (.invokevirtual idx, 3)) (ok : OkV M M' y idx 4 C0) (hs : shL[kk]? = some (shO ci fl)) (hc : vwCl[ci]? = some (C0, T, N)) (hrest : (rest.map fun v => v.category).sum ≤ 8) (hM : Cv G l y M' [.ref (gA G kk), v1, v2, v3, v4] w Post) (k : ∀ w' : Wd, Post w' → V G l M Qc (pc + 3) L rest w') : V G l M Qc pc L (v4 :: v3 :: v2 :: v1 :: .ref (gA G kk) :: rest) w := V_of_run_v (fun C hP hS hl => run_V (As := [v1, v2, v3, v4]) hM ok hs hc rfl rfl hrest hd C hP hS hl) k
theorem V_iS1 {Post : Int → Wd → Prop} (hd : decode M.1 pc = .ok (.invokestatic idx, 3)) (ok : OkS M M' y idx 1) (hrest : (rest.map fun v => v.category).sum ≤ 8) (hM : Ci G l y M' [v1] w Post) (k : ∀ (z : Int) (w' : Wd), Post z w' → V G l M Qc (pc + 3) L (.int (iZ z) :: rest) w') : V G l M Qc pc L (v1 :: rest) w := V_of_run_i (fun C hP hS hl => run_S (As := [v1]) hM ok rfl rfl hrest hd C hP hS hl) k
theorem V_iS3 {Post : Int → Wd → Prop} (hd : decode M.1 pc = .ok (.invokestatic idx, 3)) (ok : OkS M M' y idx 3) (hrest : (rest.map fun v => v.category).sum ≤ 8) (hM : Ci G l y M' [v1, v2, v3] w Post) (k : ∀ (z : Int) (w' : Wd), Post z w' → V G l M Qc (pc + 3) L (.int (iZ z) :: rest) w') : V G l M Qc pc L (v3 :: v2 :: v1 :: rest) w := V_of_run_i (fun C hP hS hl => run_S (As := [v1, v2, v3]) hM ok rfl rfl hrest hd C hP hS hl) k
/-- Math.min -/
theorem V_min {a b : Int} (hd : decode M.1 pc = .ok (.invokestatic idx, 3)) (ha : inR a) (hb : inR b) (h1 : Cond.methodLink M.2.2.1 idx Lib.Math.min.name ∈ M.2.2.2.2.1) (h2 : Cond.static Lib.Math.min.name ∈ M.2.2.2.2.1) (h3 : Cond.initialized "java/lang/Math" ∈ M.2.2.2.2.1) (h4 : Cond.code Lib.Math.min.name Lib.Math.min.code 2 (some .int) ∈ M.2.2.2.2.1) (hf : 1 ≤ M.2.2.2.2.2.frames) (hlo : (rest.map fun v => v.category).sum + 13 ≤ M.2.2.2.2.2.locals)
    (k : V G l M Qc (pc + 3) L (.int (iZ (min a b)) :: rest) w) : V G l M Qc pc L (.int (iZ b) :: .int (iZ a) :: rest) w := by
  intro p e s m args below meth c H locs ls C hP hS hl
  have C2 := C
  obtain ⟨hx, hb', hr, hml, hown, hts, hlk, hG⟩ := C2
  refine va_mmin hx hb' (hml.trans hl.1.symm) hown (hts _ h1) (hts _ h2) (hts _ h3) (hts _ h4) hf hlo (Nat.zero_le _) (Nat.zero_le _) hd ?_
  have e0 : (if iZ b < iZ a then iZ b else iZ a) = iZ (min a b) := by
    by_cases h : b < a
    · rw [if_pos ((iZ_lt hb ha).mpr h), Int.min_eq_right (Int.le_of_lt h)]
    · rw [if_neg (fun z => h ((iZ_lt hb ha).mp z)), Int.min_eq_left (Int.not_lt.mp h)]
  rw [e0]
  exact k p e s m args below meth c H locs ls C hP hS hl
/-- n elements from the place 0 on of array a0 into array a1 -/
def cpA (w : Wd) (a0 a1 : Nat) (n : Int) : Wd := fun k j => if k = a1 ∧ 0 ≤ j ∧ j < n then w a0 j else w k j
/-- System.arraycopy of int arrays, from place 0 to place 0 -/
theorem V_copy {a0 a1 n0 n1 : Nat} {n : Int} (hd : decode M.1 pc = .ok (.invokestatic idx, 3)) (hs0 : shL[a0]? = some (shA 0 n0)) (hs1 : shL[a1]? = some (shA 0 n1)) (hn : 0 ≤ n ∧ n ≤ (n0 : Int) ∧ n ≤ (n1 : Int)) (h1 : Cond.methodLink M.2.2.1 idx arraycopyName ∈ M.2.2.2.2.1) (h2 : Cond.native arraycopyName ∈ M.2.2.2.2.1) (h3 : Cond.static arraycopyName ∈ M.2.2.2.2.1) (h4 : Cond.initialized "java/lang/System" ∈ M.2.2.2.2.1) (hf : 1 ≤ M.2.2.2.2.2.frames) (hlo : (rest.map fun v => v.category).sum + (nativeFrameWords "java/lang/System" "arraycopy" 5 + 11) ≤ M.2.2.2.2.2.locals)
    (k : V G l M Qc (pc + 3) L rest (cpA w a0 a1 n)) : V G l M Qc pc L (.int (iZ n) :: .int (iZ 0) :: .ref (gA G a1) :: .int (iZ 0) :: .ref (gA G a0) :: rest) w := by
  intro p e s m args below meth c H locs ls C hP hS hl
  have C2 := C
  obtain ⟨hx, hb', hr, hml, hown, hts, hlk, hG⟩ := C2
  have g0 := sh_n hs0
  have e0 : (iZ 0).toNatClampNeg = 0 := by rw [iZ_clamp (by omega)]; rfl
  have e1 : (iZ n).toNatClampNeg = n.toNat := iZ_clamp (by omega)
  refine va_copyi (D := gD G) (ty := .int) hx hb' (hml.trans hl.1.symm) hown (hts _ h1) (hts _ h2) (hts _ h3) (hts _ h4) hG.1 hP (ces_D hG.2.1 w) hS a0 a1 0 0 (ces_of hs0) (ces_of hs1) rfl rfl rfl (sp := iZ 0) (dp := iZ 0) (n := iZ n) (by decide) (by decide) ?_ ?_ ?_ (fun i _ => rfl) hf hlo hd (fun H1 locs1 hP1 _ hS1 => k p e s m args below meth c H1 locs1 ls C ?_ hS1 hl)
  · rw [iZ_0, iZ_lt (by omega) (by omega)]; omega
  · rw [e0, e1]; omega
  · rw [e0, e1]; omega
  · rw [e0, e1, ces_putA hs1 (w' := cpA w a0 a1 n) (fun j => ?_) (fun a b h => ?_)] at hP1
    · exact hP1
    · unfold va_cpy cpA
      by_cases h : j < n.toNat
      · rw [if_pos (by omega), if_pos (by omega)]
        simp
      · rw [if_neg (by omega), if_neg (by omega)]
    · unfold cpA
      rw [if_neg (by rintro ⟨rfl, -⟩; exact h rfl)]
/-- getstatic OVER, in TreeDebts itself -/
theorem V_over (hd : decode M.1 pc = .ok (.getstatic idx, 3)) (h1 : Cond.fieldLink M.2.2.1 idx "TreeDebts" "OVER" "[I" ∈ M.2.2.2.2.1) (k : V G l M Qc (pc + 3) L (.ref (gO G) :: rest) w) : V G l M Qc pc L rest w := by
  intro p e s m args below meth c H locs ls C hP hS hl
  have C2 := C
  obtain ⟨hx, hb', hr, hml, hown, hts, hlk, hG⟩ := C2
  exact va_gets hx hb' hG.2.2.1 hS hown (hts _ h1) (fun _ h => h) hd (k p e s m args below meth c H locs ls C hP hS hl)
/-- getstatic OVER, in Told, its nest mate -/
theorem V_overN (ho : M.2.2.1 = RX3) (hd : decode M.1 pc = .ok (.getstatic 49, 3)) (k : V G l M Qc (pc + 3) L (.ref (gO G) :: rest) w) : V G l M Qc pc L rest w := by
  intro p e s m args below meth c H locs ls C hP hS hl
  have C2 := C
  obtain ⟨hx, hb', hr, hml, hown, hts, hlk, hG⟩ := C2
  rw [ho] at hown
  exact va_getsN hx hb' hG.2.2.1 hS hown (va_Nw.use rfl hG.2.2.2.2.1) (fun _ h => h) hd (k p e s m args below meth c H locs ls C hP hS hl)
theorem V_overLen (hd : decode M.1 pc = .ok (.arraylength, 1)) (k : V G l M Qc (pc + 1) L (.int (iZ 5) :: rest) w) : V G l M Qc pc L (.ref (gO G) :: rest) w := by
  intro p e s m args below meth c H locs ls C hP hS hl
  have C2 := C
  obtain ⟨hx, hb', hr, hml, hown, hts, hlk, hG⟩ := C2
  exact va_tlen hx hb' hG.2.2.2.1 hS (v := iZ 5) rfl hd (k p e s m args below meth c H locs ls C hP hS hl)
theorem V_overLd {i : Int} (hd : decode M.1 pc = .ok (.iaload, 1)) (hi : 0 ≤ i ∧ i < 5) (k : V G l M Qc (pc + 1) L (.int (iZ (ovL.getD i.toNat 0)) :: rest) w) : V G l M Qc pc L (.int (iZ i) :: .ref (gO G) :: rest) w := by
  intro p e s m args below meth c H locs ls C hP hS hl
  have C2 := C
  obtain ⟨hx, hb', hr, hml, hown, hts, hlk, hG⟩ := C2
  refine va_ti hx hb' hG.2.2.2.1 hS (iZ_in (n := 5) hi (by omega)) (v := .int (iZ (ovL.getD i.toNat 0))) ?_ hd (k p e s m args below meth c H locs ls C hP hS hl)
  rw [iZ_clamp (by omega)]
/-- a word of Text's constants -/
theorem V_word {i q : Nat} (ho : M.2.2.1 = RX2) (hd : decode M.1 pc = .ok (.ldc q, 2)) (hi : i < 8) (hq : scIx.getD i 0 = q) (k : V G l M Qc (pc + 2) L (.ref (gK G i) :: rest) w) : V G l M Qc pc L rest w := by
  intro p e s m args below meth c H locs ls C hP hS hl
  have C2 := C
  obtain ⟨hx, hb', hr, hml, hown, hts, hlk, hG⟩ := C2
  rw [ho] at hown
  subst hq
  exact va_ldcS hx hb' hown (hG.2.2.2.2.2.2.1 i hi) hd (k p e s m args below meth c H locs ls C hP hS hl)
end VC

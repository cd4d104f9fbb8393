/-! ===== 03 the walk V: one rule an instruction ===== -/
/-- the locals: what is known of each -/
def lvL (ls : Array Slot) (n : Nat) (L : List (Option Value)) : Prop := ls.size = n ∧ lv_wf ls ∧ ∀ (i : Nat) (v : Value), L[i]? = some (some v) → ls[i]? = some (.val v)
def lvE (L : List (Option Value)) : List (Nat × Value) := L.zipIdx.filterMap (fun q => q.1.map (fun v => (q.2, v)))
theorem lvE_mem {L : List (Option Value)} {q : Nat × Value} : q ∈ lvE L ↔ L[q.1]? = some (some q.2) := by
  unfold lvE
  rw [List.mem_filterMap]
  constructor
  · rintro ⟨⟨o, i⟩, h1, h2⟩
    have h3 := List.mem_zipIdx_iff_getElem?.mp h1
    cases o with
    | none => cases h2
    | some v => cases h2; exact h3
  · intro h
    exact ⟨(some q.2, q.1), List.mem_zipIdx_iff_getElem?.mpr h, rfl⟩
theorem lvL.has {ls : Array Slot} {n : Nat} {L : List (Option Value)} (h : lvL ls n L) : lv_has ls n (lvE L) := ⟨h.1, h.2.1, fun q hq => h.2.2 q.1 q.2 (lvE_mem.mp hq)⟩
/-- no long stands right before place i -/
def okS (L : List (Option Value)) (i : Nat) : Bool := match i with
  | 0 => true
  | j + 1 => match L[j]? with
    | some (some v) => v.category == 1
    | _ => true
theorem lvL.set {ls : Array Slot} {n i : Nat} {L : List (Option Value)} {v : Value} (ho : okS L i = true) (h : lv_has ls n ((i, v) :: (lvE L).filter (fun q => !(q.1 == i) && !(q.1 + 1 == i && q.2.category == 2)))) : lvL ls n (L.set i (some v)) := by
  refine ⟨h.1, h.2.1, fun j u hj => ?_⟩
  rw [List.getElem?_set] at hj
  by_cases hij : i = j
  · subst hij
    rw [if_pos rfl] at hj
    split at hj
    · cases hj
      exact h.2.2 (i, v) List.mem_cons_self
    · cases hj
  · rw [if_neg hij] at hj
    refine h.2.2 (j, u) (List.mem_cons_of_mem _ (List.mem_filter.mpr ⟨lvE_mem.mpr hj, ?_⟩))
    have h1 : (j == i) = false := by simpa using fun e => hij e.symm
    have h2 : (j + 1 == i && u.category == 2) = false := by
      by_cases e : j + 1 = i
      · subst e
        have h3 : (u.category == 1) = true := by
          have := ho
          simp only [okS, hj] at this
          exact this
        have h4 : u.category = 1 := by simpa using h3
        simp [h4]
      · simp [e]
    simp [h1, h2]
/-- a method: its bytes, locals, class, answer, words, room -/
abbrev MB : Type := ByteArray × Nat × String × Option FieldType × List Cond × Room
/-- what a frame of the method stands on -/
def Cx (G : Gb) (M : MB) (p : Program) (s : State) (m : MethodId) (args : Array Value) (meth : Method) (c : Code) : Prop :=
  p.tables.exec = Jvm.exec ∧ c.code = M.1 ∧ meth.sig.returnType = M.2.2.2.1 ∧ c.maxLocals = M.2.1 ∧ s.vm.findClass M.2.2.1 = some m.cls ∧ (∀ x ∈ M.2.2.2.2.1, x.before args s = true) ∧ meth.locks = false ∧ gGl G s
/-- THE WALK: from this pc, these locals, this stack, this world the method comes to its end as Qc says -/
def V (G : Gb) (l : Launch) (M : MB) (Qc : Array Value → State → Outcome → State → Prop) (pc : Nat) (L : List (Option Value)) (st : List Value) (w : Wd) : Prop :=
  ∀ (p : Program) (e : Env) (s : State) (m : MethodId) (args : Array Value) (below : List Frame) (meth : Method) (c : Code) (H : Heap) (locs : List Loc) (ls : Array Slot),
    Cx G M p s m args meth c → va_P (gD G) vwCl (ces G w) H → va_S (gAw G) s.heap H locs → lvL ls M.2.1 L →
    W p l e M.2.2.2.2.2 s m args below meth c H locs 0 0 (MQ below Qc args s 0 0 (gAw G)) (F0 m pc ls st)
section VR
variable {G : Gb} {l : Launch} {M : MB} {Qc : Array Value → State → Outcome → State → Prop} {pc : Nat} {L : List (Option Value)} {st : List Value} {w : Wd}
/-- less is known of the locals -/
theorem V_forget {L' : List (Option Value)} (h : ∀ (i : Nat) (v : Value), L'[i]? = some (some v) → L[i]? = some (some v)) (k : V G l M Qc pc L' st w) : V G l M Qc pc L st w :=
  fun p e s m args below meth c H locs ls C hP hS hl => k p e s m args below meth c H locs ls C hP hS ⟨hl.1, hl.2.1, fun i v q => hl.2.2 i v (h i v q)⟩
theorem V_w {w' : Wd} (h : w = w') (k : V G l M Qc pc L st w') : V G l M Qc pc L st w := h ▸ k
theorem V_iconst {n : Int} (hd : decode M.1 pc = .ok (.iconst n, 1)) (k : V G l M Qc (pc + 1) L (.int (iZ n) :: st) w) : V G l M Qc pc L st w :=
  fun p e s m args below meth c H locs ls C hP hS hl => lv_iconst C.1 C.2.1 hd rfl (k p e s m args below meth c H locs ls C hP hS hl)
theorem V_bipush {n : Int} (hd : decode M.1 pc = .ok (.bipush n, 2)) (hv : (Int8.ofInt n).toInt32 = iZ n) (k : V G l M Qc (pc + 2) L (.int (iZ n) :: st) w) : V G l M Qc pc L st w :=
  fun p e s m args below meth c H locs ls C hP hS hl => lv_bipush C.1 C.2.1 hd hv (k p e s m args below meth c H locs ls C hP hS hl)
theorem V_sipush {n : Int} (hd : decode M.1 pc = .ok (.sipush n, 3)) (hv : (Int16.ofInt n).toInt32 = iZ n) (k : V G l M Qc (pc + 3) L (.int (iZ n) :: st) w) : V G l M Qc pc L st w :=
  fun p e s m args below meth c H locs ls C hP hS hl => lv_sipush C.1 C.2.1 hd hv (k p e s m args below meth c H locs ls C hP hS hl)
theorem V_ldc {idx : Nat} {n : Int} (hd : decode M.1 pc = .ok (.ldc idx, 2)) (hc : Jvm.Cond.constant M.2.2.1 idx (iZ n) ∈ M.2.2.2.2.1) (k : V G l M Qc (pc + 2) L (.int (iZ n) :: st) w) : V G l M Qc pc L st w :=
  fun p e s m args below meth c H locs ls C hP hS hl => lv_ldc C.1 C.2.1 C.2.2.2.2.1 (C.2.2.2.2.2.1 _ hc) hd (k p e s m args below meth c H locs ls C hP hS hl)
theorem V_ldcw {idx : Nat} {n : Int} (hd : decode M.1 pc = .ok (.ldc_w idx, 3)) (hc : Jvm.Cond.constant M.2.2.1 idx (iZ n) ∈ M.2.2.2.2.1) (k : V G l M Qc (pc + 3) L (.int (iZ n) :: st) w) : V G l M Qc pc L st w :=
  fun p e s m args below meth c H locs ls C hP hS hl => lv_ldcw C.1 C.2.1 C.2.2.2.2.1 (C.2.2.2.2.2.1 _ hc) hd (k p e s m args below meth c H locs ls C hP hS hl)
theorem V_lconst {n : Fin 2} {v : Int64} (hd : decode M.1 pc = .ok (.lconst n, 1)) (hv : Int64.ofNat (n : Nat) = v) (k : V G l M Qc (pc + 1) L (.long v :: st) w) : V G l M Qc pc L st w :=
  fun p e s m args below meth c H locs ls C hP hS hl => lv_lconst C.1 C.2.1 hd hv (k p e s m args below meth c H locs ls C hP hS hl)
theorem V_ldc2 {idx : Nat} {v : Int64} (hd : decode M.1 pc = .ok (.ldc2_w idx, 3)) (hc : Jvm.Cond.constantLong M.2.2.1 idx v ∈ M.2.2.2.2.1) (k : V G l M Qc (pc + 3) L (.long v :: st) w) : V G l M Qc pc L st w :=
  fun p e s m args below meth c H locs ls C hP hS hl => lv_ldc2 C.1 C.2.1 C.2.2.2.2.1 (C.2.2.2.2.2.1 _ hc) hd (k p e s m args below meth c H locs ls C hP hS hl)
theorem V_iload_n {i : Fin 4} {x : Int32} (hd : decode M.1 pc = .ok (.iload_n i, 1)) (hi : L[(i : Nat)]? = some (some (.int x))) (k : V G l M Qc (pc + 1) L (.int x :: st) w) : V G l M Qc pc L st w :=
  fun p e s m args below meth c H locs ls C hP hS hl => lv_iload_n C.1 C.2.1 hd rfl (hl.2.2 _ _ hi) (k p e s m args below meth c H locs ls C hP hS hl)
theorem V_iload {i : Nat} {x : Int32} (hd : decode M.1 pc = .ok (.iload i, 2)) (hi : L[i]? = some (some (.int x))) (k : V G l M Qc (pc + 2) L (.int x :: st) w) : V G l M Qc pc L st w :=
  fun p e s m args below meth c H locs ls C hP hS hl => lv_iload C.1 C.2.1 hd (hl.2.2 _ _ hi) (k p e s m args below meth c H locs ls C hP hS hl)
theorem V_lload_n {i : Fin 4} {x : Int64} (hd : decode M.1 pc = .ok (.lload_n i, 1)) (hi : L[(i : Nat)]? = some (some (.long x))) (k : V G l M Qc (pc + 1) L (.long x :: st) w) : V G l M Qc pc L st w :=
  fun p e s m args below meth c H locs ls C hP hS hl => lv_lload_n C.1 C.2.1 hd rfl (hl.2.2 _ _ hi) (k p e s m args below meth c H locs ls C hP hS hl)
theorem V_lload {i : Nat} {x : Int64} (hd : decode M.1 pc = .ok (.lload i, 2)) (hi : L[i]? = some (some (.long x))) (k : V G l M Qc (pc + 2) L (.long x :: st) w) : V G l M Qc pc L st w :=
  fun p e s m args below meth c H locs ls C hP hS hl => lv_lload C.1 C.2.1 hd (hl.2.2 _ _ hi) (k p e s m args below meth c H locs ls C hP hS hl)
theorem V_aload_n {i : Fin 4} {x : Nat} (hd : decode M.1 pc = .ok (.aload_n i, 1)) (hi : L[(i : Nat)]? = some (some (.ref x))) (k : V G l M Qc (pc + 1) L (.ref x :: st) w) : V G l M Qc pc L st w :=
  fun p e s m args below meth c H locs ls C hP hS hl => lv_aload_n C.1 C.2.1 hd rfl (hl.2.2 _ _ hi) (k p e s m args below meth c H locs ls C hP hS hl)
theorem V_aload {i : Nat} {x : Nat} (hd : decode M.1 pc = .ok (.aload i, 2)) (hi : L[i]? = some (some (.ref x))) (k : V G l M Qc (pc + 2) L (.ref x :: st) w) : V G l M Qc pc L st w :=
  fun p e s m args below meth c H locs ls C hP hS hl => lv_aload C.1 C.2.1 hd (hl.2.2 _ _ hi) (k p e s m args below meth c H locs ls C hP hS hl)
theorem V_istore_n {i : Fin 4} {x : Int32} (hd : decode M.1 pc = .ok (.istore_n i, 1)) (hn : (i : Nat) < M.2.1) (ho : okS L i = true) (k : V G l M Qc (pc + 1) (L.set i (some (.int x))) st w) : V G l M Qc pc L (.int x :: st) w :=
  fun p e s m args below meth c H locs ls C hP hS hl => lv_istore_n C.1 C.2.1 hd rfl hl.has hn rfl (fun ls' hl' => k p e s m args below meth c H locs ls' C hP hS (lvL.set ho hl'))
theorem V_istore {i : Nat} {x : Int32} (hd : decode M.1 pc = .ok (.istore i, 2)) (hn : i < M.2.1) (ho : okS L i = true) (k : V G l M Qc (pc + 2) (L.set i (some (.int x))) st w) : V G l M Qc pc L (.int x :: st) w :=
  fun p e s m args below meth c H locs ls C hP hS hl => lv_istore C.1 C.2.1 hd hl.has hn rfl (fun ls' hl' => k p e s m args below meth c H locs ls' C hP hS (lvL.set ho hl'))
theorem V_iinc {i : Nat} {n a : Int} (hd : decode M.1 pc = .ok (.iinc i n, 3)) (hi : L[i]? = some (some (.int (iZ a)))) (hn : i < M.2.1) (ho : okS L i = true) (k : V G l M Qc (pc + 3) (L.set i (some (.int (iZ (a + n))))) st w) : V G l M Qc pc L st w := by
  intro p e s m args below meth c H locs ls C hP hS hl
  obtain ⟨j, hj⟩ := List.getElem?_of_mem ((lvE_mem (q := (i, Value.int (iZ a)))).mpr hi)
  refine lv_iinc (v := iZ (a + n)) C.1 C.2.1 hd hl.has (k := j) hj ?_ hn rfl (fun ls' hl' => k p e s m args below meth c H locs ls' C hP hS (lvL.set ho hl'))
  exact iZ_add a n
theorem V_iadd {a b : Int} (hd : decode M.1 pc = .ok (.iadd, 1)) (k : V G l M Qc (pc + 1) L (.int (iZ (a + b)) :: st) w) : V G l M Qc pc L (.int (iZ b) :: .int (iZ a) :: st) w :=
  fun p e s m args below meth c H locs ls C hP hS hl => lv_iadd C.1 C.2.1 hd (by rw [iZ_add]; exact k p e s m args below meth c H locs ls C hP hS hl)
theorem V_isub {a b : Int} (hd : decode M.1 pc = .ok (.isub, 1)) (k : V G l M Qc (pc + 1) L (.int (iZ (a - b)) :: st) w) : V G l M Qc pc L (.int (iZ b) :: .int (iZ a) :: st) w :=
  fun p e s m args below meth c H locs ls C hP hS hl => lv_isub C.1 C.2.1 hd (by rw [iZ_sub]; exact k p e s m args below meth c H locs ls C hP hS hl)
theorem V_imul {a b : Int} (hd : decode M.1 pc = .ok (.imul, 1)) (k : V G l M Qc (pc + 1) L (.int (iZ (a * b)) :: st) w) : V G l M Qc pc L (.int (iZ b) :: .int (iZ a) :: st) w :=
  fun p e s m args below meth c H locs ls C hP hS hl => lv_imul C.1 C.2.1 hd (by rw [iZ_mul]; exact k p e s m args below meth c H locs ls C hP hS hl)
theorem iZ_nI {a : Int} (h : 0 ≤ a) : iZ a = nI a.toNat := by
  obtain ⟨n, rfl⟩ := Int.eq_ofNat_of_zero_le h
  rw [Int.toNat_natCast]
  first
    | rfl
    | (unfold iZ nI; exact Int32.ofInt_eq_ofNat)
    | simp [iZ, nI]
theorem iZ_div {a b : Int} (ha : 0 ≤ a ∧ a ≤ 2147483647) (hb : 0 < b ∧ b ≤ 2147483647) : iZ a / iZ b = iZ (a / b) := by
  have e : (a.toNat : Int) = a := by omega
  have e2 : (b.toNat : Int) = b := by omega
  have h0 : 0 ≤ a / b := Int.ediv_nonneg ha.1 (by omega)
  rw [iZ_nI ha.1, iZ_nI (by omega : 0 ≤ b), iZ_nI h0, pk_div (by omega) (by omega) (by omega)]
  congr 1
  have h1 : ((a.toNat / b.toNat : Nat) : Int) = a / b := by rw [Int.natCast_ediv, e, e2]
  omega
theorem iZ_rem {a b : Int} (ha : 0 ≤ a ∧ a ≤ 2147483647) (hb : 0 < b ∧ b ≤ 2147483647) : iZ a - iZ a / iZ b * iZ b = iZ (a % b) := by
  have e : (a.toNat : Int) = a := by omega
  have e2 : (b.toNat : Int) = b := by omega
  have h0 : 0 ≤ a % b := Int.emod_nonneg a (by omega)
  rw [iZ_nI ha.1, iZ_nI (by omega : 0 ≤ b), iZ_nI h0, pk_rem (by omega) (by omega) (by omega)]
  congr 1
  have h1 : ((a.toNat % b.toNat : Nat) : Int) = a % b := by rw [Int.natCast_emod, e, e2]
  omega
theorem iZ_n0 {b : Int} (hb : 0 < b ∧ b ≤ 2147483647) : ¬ iZ b = 0 := by
  rw [iZ_0, iZ_eq (by omega) (by omega)]
  omega
theorem V_idiv {a b : Int} (hd : decode M.1 pc = .ok (.idiv, 1)) (ha : 0 ≤ a ∧ a ≤ 2147483647) (hb : 0 < b ∧ b ≤ 2147483647) (k : V G l M Qc (pc + 1) L (.int (iZ (a / b)) :: st) w) : V G l M Qc pc L (.int (iZ b) :: .int (iZ a) :: st) w :=
  fun p e s m args below meth c H locs ls C hP hS hl => lv_idiv C.1 C.2.1 hd (iZ_n0 hb) (by rw [iZ_div ha hb]; exact k p e s m args below meth c H locs ls C hP hS hl)
theorem V_irem {a b : Int} (hd : decode M.1 pc = .ok (.irem, 1)) (ha : 0 ≤ a ∧ a ≤ 2147483647) (hb : 0 < b ∧ b ≤ 2147483647) (k : V G l M Qc (pc + 1) L (.int (iZ (a % b)) :: st) w) : V G l M Qc pc L (.int (iZ b) :: .int (iZ a) :: st) w :=
  fun p e s m args below meth c H locs ls C hP hS hl => lv_irem C.1 C.2.1 hd (iZ_n0 hb) (by rw [iZ_rem ha hb]; exact k p e s m args below meth c H locs ls C hP hS hl)
/-- bits, as numbers -/
def bAnd (a b : Int) : Int := (iZ a &&& iZ b).toInt
def bOr (a b : Int) : Int := (iZ a ||| iZ b).toInt
def bShl (a b : Int) : Int := (iZ a <<< (iZ b &&& 31)).toInt
def bShr (a b : Int) : Int := (iZ a >>> (iZ b &&& 31)).toInt
theorem V_iand {a b : Int} (hd : decode M.1 pc = .ok (.iand, 1)) (k : V G l M Qc (pc + 1) L (.int (iZ (bAnd a b)) :: st) w) : V G l M Qc pc L (.int (iZ b) :: .int (iZ a) :: st) w :=
  fun p e s m args below meth c H locs ls C hP hS hl => lv_iand C.1 C.2.1 hd (by rw [← iZ_self (iZ a &&& iZ b)]; exact k p e s m args below meth c H locs ls C hP hS hl)
theorem V_ior {a b : Int} (hd : decode M.1 pc = .ok (.ior, 1)) (k : V G l M Qc (pc + 1) L (.int (iZ (bOr a b)) :: st) w) : V G l M Qc pc L (.int (iZ b) :: .int (iZ a) :: st) w :=
  fun p e s m args below meth c H locs ls C hP hS hl => lv_ior C.1 C.2.1 hd (by rw [← iZ_self (iZ a ||| iZ b)]; exact k p e s m args below meth c H locs ls C hP hS hl)
theorem V_ishl {a b : Int} (hd : decode M.1 pc = .ok (.ishl, 1)) (k : V G l M Qc (pc + 1) L (.int (iZ (bShl a b)) :: st) w) : V G l M Qc pc L (.int (iZ b) :: .int (iZ a) :: st) w :=
  fun p e s m args below meth c H locs ls C hP hS hl => lv_ishl C.1 C.2.1 hd (by rw [← iZ_self (iZ a <<< (iZ b &&& 31))]; exact k p e s m args below meth c H locs ls C hP hS hl)
theorem V_ishr {a b : Int} (hd : decode M.1 pc = .ok (.ishr, 1)) (k : V G l M Qc (pc + 1) L (.int (iZ (bShr a b)) :: st) w) : V G l M Qc pc L (.int (iZ b) :: .int (iZ a) :: st) w :=
  fun p e s m args below meth c H locs ls C hP hS hl => lv_ishr C.1 C.2.1 hd (by rw [← iZ_self (iZ a >>> (iZ b &&& 31))]; exact k p e s m args below meth c H locs ls C hP hS hl)
theorem V_i2l {x : Int32} {v : Int64} (hd : decode M.1 pc = .ok (.i2l, 1)) (hv : x.toInt64 = v) (k : V G l M Qc (pc + 1) L (.long v :: st) w) : V G l M Qc pc L (.int x :: st) w :=
  fun p e s m args below meth c H locs ls C hP hS hl => lv_i2l C.1 C.2.1 hd hv (k p e s m args below meth c H locs ls C hP hS hl)
theorem V_l2i {x : Int64} {a : Int} (hd : decode M.1 pc = .ok (.l2i, 1)) (hv : x.toInt32 = iZ a) (k : V G l M Qc (pc + 1) L (.int (iZ a) :: st) w) : V G l M Qc pc L (.long x :: st) w :=
  fun p e s m args below meth c H locs ls C hP hS hl => lv_l2i C.1 C.2.1 hd hv (k p e s m args below meth c H locs ls C hP hS hl)
theorem V_land {x y : Int64} (hd : decode M.1 pc = .ok (.land, 1)) (k : V G l M Qc (pc + 1) L (.long (x &&& y) :: st) w) : V G l M Qc pc L (.long y :: .long x :: st) w :=
  fun p e s m args below meth c H locs ls C hP hS hl => lv_land C.1 C.2.1 hd (k p e s m args below meth c H locs ls C hP hS hl)
theorem V_lshr {x v : Int64} {y : Int32} (hd : decode M.1 pc = .ok (.lshr, 1)) (hv : x >>> (y.toInt64 &&& 63) = v) (k : V G l M Qc (pc + 1) L (.long v :: st) w) : V G l M Qc pc L (.int y :: .long x :: st) w :=
  fun p e s m args below meth c H locs ls C hP hS hl => lv_lshr C.1 C.2.1 hd hv (k p e s m args below meth c H locs ls C hP hS hl)
theorem V_lcmp {x y : Int64} {a : Int} (hd : decode M.1 pc = .ok (.lcmp, 1)) (hv : lg_cmp x y = iZ a) (k : V G l M Qc (pc + 1) L (.int (iZ a) :: st) w) : V G l M Qc pc L (.long y :: .long x :: st) w :=
  fun p e s m args below meth c H locs ls C hP hS hl => W.lcmp C.1 C.2.1 hd (by rw [hv]; exact k p e s m args below meth c H locs ls C hP hS hl)
theorem V_dup {va : Value} (hd : decode M.1 pc = .ok (.dup, 1)) (hva : va.category = 1) (k : V G l M Qc (pc + 1) L (va :: va :: st) w) : V G l M Qc pc L (va :: st) w :=
  fun p e s m args below meth c H locs ls C hP hS hl => lv_dup C.1 C.2.1 hd hva (k p e s m args below meth c H locs ls C hP hS hl)
theorem V_dup2 {va vb : Value} (hd : decode M.1 pc = .ok (.dup2, 1)) (hva : va.category = 1) (hvb : vb.category = 1) (k : V G l M Qc (pc + 1) L (va :: vb :: va :: vb :: st) w) : V G l M Qc pc L (va :: vb :: st) w :=
  fun p e s m args below meth c H locs ls C hP hS hl => lv_dup2_11 C.1 C.2.1 hd hva hvb (k p e s m args below meth c H locs ls C hP hS hl)
theorem V_pop {va : Value} (hd : decode M.1 pc = .ok (.pop, 1)) (hva : va.category = 1) (k : V G l M Qc (pc + 1) L st w) : V G l M Qc pc L (va :: st) w :=
  fun p e s m args below meth c H locs ls C hP hS hl => lv_pop C.1 C.2.1 hd hva (k p e s m args below meth c H locs ls C hP hS hl)
theorem V_goto {off : Int} {tgt : Nat} (hd : decode M.1 pc = .ok (.goto off, 3)) (ht : (pc : Int) + off = (tgt : Int)) (k : V G l M Qc tgt L st w) : V G l M Qc pc L st w :=
  fun p e s m args below meth c H locs ls C hP hS hl => lv_goto C.1 C.2.1 hd ht (k p e s m args below meth c H locs ls C hP hS hl)
theorem V_if_eq {a : Int} {off : Int} {tgt : Nat} (hd : decode M.1 pc = .ok (.ifCond .eq off, 3)) (ht : (pc : Int) + off = (tgt : Int)) (ha : inR a) (kt : a = 0 → V G l M Qc tgt L st w) (kf : a ≠ 0 → V G l M Qc (pc + 3) L st w) : V G l M Qc pc L (.int (iZ a) :: st) w :=
  fun p e s m args below meth c H locs ls C hP hS hl => lv_if_eq C.1 C.2.1 hd ht (fun h => kt ((iZ_eq ha (by omega)).mp (h.trans iZ_0)) p e s m args below meth c H locs ls C hP hS hl) (fun h => kf (fun z => h (by rw [z]; rfl)) p e s m args below meth c H locs ls C hP hS hl)
theorem V_if_ne {a : Int} {off : Int} {tgt : Nat} (hd : decode M.1 pc = .ok (.ifCond .ne off, 3)) (ht : (pc : Int) + off = (tgt : Int)) (ha : inR a) (kt : a ≠ 0 → V G l M Qc tgt L st w) (kf : a = 0 → V G l M Qc (pc + 3) L st w) : V G l M Qc pc L (.int (iZ a) :: st) w :=
  fun p e s m args below meth c H locs ls C hP hS hl => lv_if_ne C.1 C.2.1 hd ht (fun h => kt (fun z => h (by rw [z]; rfl)) p e s m args below meth c H locs ls C hP hS hl) (fun h => kf ((iZ_eq ha (by omega)).mp (h.trans iZ_0)) p e s m args below meth c H locs ls C hP hS hl)
theorem V_if_lt {a : Int} {off : Int} {tgt : Nat} (hd : decode M.1 pc = .ok (.ifCond .lt off, 3)) (ht : (pc : Int) + off = (tgt : Int)) (ha : inR a) (kt : a < 0 → V G l M Qc tgt L st w) (kf : 0 ≤ a → V G l M Qc (pc + 3) L st w) : V G l M Qc pc L (.int (iZ a) :: st) w :=
  fun p e s m args below meth c H locs ls C hP hS hl => lv_if_lt C.1 C.2.1 hd ht (fun h => kt ((iZ_lt ha (by omega)).mp h) p e s m args below meth c H locs ls C hP hS hl) (fun h => kf (Int.not_lt.mp (fun z => h ((iZ_lt ha (by omega)).mpr z))) p e s m args below meth c H locs ls C hP hS hl)
theorem V_if_ge {a : Int} {off : Int} {tgt : Nat} (hd : decode M.1 pc = .ok (.ifCond .ge off, 3)) (ht : (pc : Int) + off = (tgt : Int)) (ha : inR a) (kt : 0 ≤ a → V G l M Qc tgt L st w) (kf : a < 0 → V G l M Qc (pc + 3) L st w) : V G l M Qc pc L (.int (iZ a) :: st) w :=
  fun p e s m args below meth c H locs ls C hP hS hl => lv_if_ge C.1 C.2.1 hd ht (fun h => kt ((iZ_le (by omega) ha).mp h) p e s m args below meth c H locs ls C hP hS hl) (fun h => kf (Int.not_le.mp (fun z => h ((iZ_le (by omega) ha).mpr z))) p e s m args below meth c H locs ls C hP hS hl)
theorem V_if_gt {a : Int} {off : Int} {tgt : Nat} (hd : decode M.1 pc = .ok (.ifCond .gt off, 3)) (ht : (pc : Int) + off = (tgt : Int)) (ha : inR a) (kt : 0 < a → V G l M Qc tgt L st w) (kf : a ≤ 0 → V G l M Qc (pc + 3) L st w) : V G l M Qc pc L (.int (iZ a) :: st) w :=
  fun p e s m args below meth c H locs ls C hP hS hl => lv_if_gt C.1 C.2.1 hd ht (fun h => kt ((iZ_lt (by omega) ha).mp h) p e s m args below meth c H locs ls C hP hS hl) (fun h => kf (Int.not_lt.mp (fun z => h ((iZ_lt (by omega) ha).mpr z))) p e s m args below meth c H locs ls C hP hS hl)
theorem V_if_le {a : Int} {off : Int} {tgt : Nat} (hd : decode M.1 pc = .ok (.ifCond .le off, 3)) (ht : (pc : Int) + off = (tgt : Int)) (ha : inR a) (kt : a ≤ 0 → V G l M Qc tgt L st w) (kf : 0 < a → V G l M Qc (pc + 3) L st w) : V G l M Qc pc L (.int (iZ a) :: st) w :=
  fun p e s m args below meth c H locs ls C hP hS hl => lv_if_le C.1 C.2.1 hd ht (fun h => kt ((iZ_le ha (by omega)).mp h) p e s m args below meth c H locs ls C hP hS hl) (fun h => kf (Int.not_le.mp (fun z => h ((iZ_le ha (by omega)).mpr z))) p e s m args below meth c H locs ls C hP hS hl)
theorem V_icmp_eq {a b : Int} {off : Int} {tgt : Nat} (hd : decode M.1 pc = .ok (.if_icmp .eq off, 3)) (ht : (pc : Int) + off = (tgt : Int)) (ha : inR a) (hb : inR b) (kt : a = b → V G l M Qc tgt L st w) (kf : a ≠ b → V G l M Qc (pc + 3) L st w) : V G l M Qc pc L (.int (iZ b) :: .int (iZ a) :: st) w :=
  fun p e s m args below meth c H locs ls C hP hS hl => lv_icmp_eq C.1 C.2.1 hd ht (fun h => kt ((iZ_eq ha hb).mp h) p e s m args below meth c H locs ls C hP hS hl) (fun h => kf (fun z => h (by rw [z])) p e s m args below meth c H locs ls C hP hS hl)
theorem V_icmp_ne {a b : Int} {off : Int} {tgt : Nat} (hd : decode M.1 pc = .ok (.if_icmp .ne off, 3)) (ht : (pc : Int) + off = (tgt : Int)) (ha : inR a) (hb : inR b) (kt : a ≠ b → V G l M Qc tgt L st w) (kf : a = b → V G l M Qc (pc + 3) L st w) : V G l M Qc pc L (.int (iZ b) :: .int (iZ a) :: st) w :=
  fun p e s m args below meth c H locs ls C hP hS hl => lv_icmp_ne C.1 C.2.1 hd ht (fun h => kt (fun z => h (by rw [z])) p e s m args below meth c H locs ls C hP hS hl) (fun h => kf ((iZ_eq ha hb).mp h) p e s m args below meth c H locs ls C hP hS hl)
theorem V_icmp_lt {a b : Int} {off : Int} {tgt : Nat} (hd : decode M.1 pc = .ok (.if_icmp .lt off, 3)) (ht : (pc : Int) + off = (tgt : Int)) (ha : inR a) (hb : inR b) (kt : a < b → V G l M Qc tgt L st w) (kf : b ≤ a → V G l M Qc (pc + 3) L st w) : V G l M Qc pc L (.int (iZ b) :: .int (iZ a) :: st) w :=
  fun p e s m args below meth c H locs ls C hP hS hl => lv_icmp_lt C.1 C.2.1 hd ht (fun h => kt ((iZ_lt ha hb).mp h) p e s m args below meth c H locs ls C hP hS hl) (fun h => kf (Int.not_lt.mp (fun z => h ((iZ_lt ha hb).mpr z))) p e s m args below meth c H locs ls C hP hS hl)
theorem V_icmp_ge {a b : Int} {off : Int} {tgt : Nat} (hd : decode M.1 pc = .ok (.if_icmp .ge off, 3)) (ht : (pc : Int) + off = (tgt : Int)) (ha : inR a) (hb : inR b) (kt : b ≤ a → V G l M Qc tgt L st w) (kf : a < b → V G l M Qc (pc + 3) L st w) : V G l M Qc pc L (.int (iZ b) :: .int (iZ a) :: st) w :=
  fun p e s m args below meth c H locs ls C hP hS hl => lv_icmp_ge C.1 C.2.1 hd ht (fun h => kt ((iZ_le hb ha).mp h) p e s m args below meth c H locs ls C hP hS hl) (fun h => kf (Int.not_le.mp (fun z => h ((iZ_le hb ha).mpr z))) p e s m args below meth c H locs ls C hP hS hl)
theorem V_icmp_gt {a b : Int} {off : Int} {tgt : Nat} (hd : decode M.1 pc = .ok (.if_icmp .gt off, 3)) (ht : (pc : Int) + off = (tgt : Int)) (ha : inR a) (hb : inR b) (kt : b < a → V G l M Qc tgt L st w) (kf : a ≤ b → V G l M Qc (pc + 3) L st w) : V G l M Qc pc L (.int (iZ b) :: .int (iZ a) :: st) w :=
  fun p e s m args below meth c H locs ls C hP hS hl => lv_icmp_gt C.1 C.2.1 hd ht (fun h => kt ((iZ_lt hb ha).mp h) p e s m args below meth c H locs ls C hP hS hl) (fun h => kf (Int.not_lt.mp (fun z => h ((iZ_lt hb ha).mpr z))) p e s m args below meth c H locs ls C hP hS hl)
theorem V_icmp_le {a b : Int} {off : Int} {tgt : Nat} (hd : decode M.1 pc = .ok (.if_icmp .le off, 3)) (ht : (pc : Int) + off = (tgt : Int)) (ha : inR a) (hb : inR b) (kt : a ≤ b → V G l M Qc tgt L st w) (kf : b < a → V G l M Qc (pc + 3) L st w) : V G l M Qc pc L (.int (iZ b) :: .int (iZ a) :: st) w :=
  fun p e s m args below meth c H locs ls C hP hS hl => lv_icmp_le C.1 C.2.1 hd ht (fun h => kt ((iZ_le ha hb).mp h) p e s m args below meth c H locs ls C hP hS hl) (fun h => kf (Int.not_le.mp (fun z => h ((iZ_le ha hb).mpr z))) p e s m args below meth c H locs ls C hP hS hl)
theorem V_tswI {a v dflt lo hi off : Int} {offs : Array Int} {len tgt : Nat} (hd : decode M.1 pc = .ok (.tableswitch dflt lo hi offs, len)) (ha : a = v) (hv : inR v ∧ lo ≤ v ∧ v ≤ hi) (ho : offs[(v - lo).toNat]? = some off) (ht : (pc : Int) + off = (tgt : Int)) (k : V G l M Qc tgt L st w) : V G l M Qc pc L (.int (iZ a) :: st) w :=
  fun p e s m args below meth c H locs ls C hP hS hl => lv_tableIn C.1 C.2.1 hd (by rw [ha, iZ_toInt hv.1]; omega) (by rw [ha, iZ_toInt hv.1]; omega) (by rw [ha, iZ_toInt hv.1]; exact ho) ht (k p e s m args below meth c H locs ls C hP hS hl)
theorem V_tswO {a dflt lo hi : Int} {offs : Array Int} {len tgt : Nat} (hd : decode M.1 pc = .ok (.tableswitch dflt lo hi offs, len)) (ha : inR a) (hv : a < lo ∨ hi < a) (ht : (pc : Int) + dflt = (tgt : Int)) (k : V G l M Qc tgt L st w) : V G l M Qc pc L (.int (iZ a) :: st) w :=
  fun p e s m args below meth c H locs ls C hP hS hl => lv_tableOut C.1 C.2.1 hd (by rw [iZ_toInt ha]; exact hv) ht (k p e s m args below meth c H locs ls C hP hS hl)
theorem V_lsw {a dflt off : Int} {ps : Array (Int × Int)} {len tgt : Nat} (hd : decode M.1 pc = .ok (.lookupswitch dflt ps, len)) (ha : inR a) (hp : (ps.toList.zip (ps.toList.drop 1)).all (fun (a, next) => a.1 < next.1) = true) (ho : Op.lookupswitch.offset ps.toList dflt a = off) (ht : (pc : Int) + off = (tgt : Int)) (k : V G l M Qc tgt L st w) : V G l M Qc pc L (.int (iZ a) :: st) w :=
  fun p e s m args below meth c H locs ls C hP hS hl => lv_lookup C.1 C.2.1 hd hp (by rw [iZ_toInt ha]; exact ho) ht (k p e s m args below meth c H locs ls C hP hS hl)
/-- getfield: a number -/
theorem V_getI {kk ci idx j N : Nat} {ji : Int} {fl : List (Option Nat)} {C0 : String} {T : u_T} (hd : decode M.1 pc = .ok (.getfield idx, 3)) (hs : shL[kk]? = some (shO ci fl)) (hc : vwCl[ci]? = some (C0, T, N)) (hj : fl[j]? = some none) (hin : ∀ x ∈ u_ws C0 T N, x ∈ M.2.2.2.2.1) (hN : j < N) (hl0 : Cond.fieldLink M.2.2.1 idx (T j).1 (T j).2.1 (T j).2.2.1 ∈ M.2.2.2.2.1) (hji : (j : Int) = ji)
    (k : V G l M Qc (pc + 3) L (.int (iZ (w kk ji)) :: st) w) : V G l M Qc pc L (.ref (gA G kk) :: st) w := by
  subst hji
  intro p e s m args below meth c H locs ls C hP hS hl
  have C2 := C
  obtain ⟨hx, hb, hr, hml, hown, hts, hlo, hG⟩ := C2
  refine va_get (D := gD G) (ci := ci) (C := C0) (T := T) (N := N) hx hb hts hin hown hG.1 hP kk (ces_of hs) hc j hN (hts _ hl0) (fun _ h9 => h9) (v := .int (iZ (w kk (j : Int)))) ?_ hd (k p e s m args below meth c H locs ls C hP hS hl)
  rw [List.getElem?_mapIdx, hj]
  rfl
/-- getfield: a cell -/
theorem V_getR {kk ci idx j N q : Nat} {fl : List (Option Nat)} {C0 : String} {T : u_T} (hd : decode M.1 pc = .ok (.getfield idx, 3)) (hs : shL[kk]? = some (shO ci fl)) (hc : vwCl[ci]? = some (C0, T, N)) (hj : fl[j]? = some (some q)) (hin : ∀ x ∈ u_ws C0 T N, x ∈ M.2.2.2.2.1) (hN : j < N) (hl0 : Cond.fieldLink M.2.2.1 idx (T j).1 (T j).2.1 (T j).2.2.1 ∈ M.2.2.2.2.1)
    (k : V G l M Qc (pc + 3) L (.ref (gA G q) :: st) w) : V G l M Qc pc L (.ref (gA G kk) :: st) w := by
  intro p e s m args below meth c H locs ls C hP hS hl
  have C2 := C
  obtain ⟨hx, hb, hr, hml, hown, hts, hlo, hG⟩ := C2
  refine va_get (D := gD G) (ci := ci) (C := C0) (T := T) (N := N) hx hb hts hin hown hG.1 hP kk (ces_of hs) hc j hN (hts _ hl0) (fun _ h9 => h9) (v := .ref (gA G q)) ?_ hd (k p e s m args below meth c H locs ls C hP hS hl)
  rw [List.getElem?_mapIdx, hj]
  rfl
/-- putfield: a number -/
theorem V_putI {kk ci idx j N : Nat} {z ji : Int} {fl : List (Option Nat)} {C0 : String} {T : u_T} {ty0 : Nat → FieldType} (hd : decode M.1 pc = .ok (.putfield idx, 3)) (hs : shL[kk]? = some (shO ci fl)) (hc : vwCl[ci]? = some (C0, T, N)) (hj : fl[j]? = some none) (hin : ∀ x ∈ u_ws C0 T N, x ∈ M.2.2.2.2.1) (hty : ∀ k, k < N → parseFieldDescriptor (T k).2.2.1 = some (ty0 k)) (hnm : ∀ a, a < N → ∀ b, b < N → a ≠ b → (T a).2.1 ≠ (T b).2.1) (hN : j < N) (hl0 : Cond.fieldLink M.2.2.1 idx (T j).1 (T j).2.1 (T j).2.2.1 ∈ M.2.2.2.2.1) (hfin : (T j).2.2.2 = false) (hpd : parseFieldDescriptor (T j).2.2.1 = some .int) (hji : (j : Int) = ji)
    (k : V G l M Qc (pc + 3) L st (up w kk ji z)) : V G l M Qc pc L (.int (iZ z) :: .ref (gA G kk) :: st) w := by
  subst hji
  intro p e s m args below meth c H locs ls C hP hS hl
  have C2 := C
  obtain ⟨hx, hb, hr, hml, hown, hts, hlo, hG⟩ := C2
  refine va_put (D := gD G) (ci := ci) (C := C0) (T := T) (N := N) (ty := .int) hx hb hts hin ty0 hty hnm hown hG.1 hP (ces_D hG.2.1 w) hS kk (ces_of hs) hc j hN (hts _ hl0) (fun _ h9 => h9) hfin hpd rfl rfl ?_ hd (fun H1 locs1 hP1 _ hS1 => k p e s m args below meth c H1 locs1 ls C ?_ hS1 hl)
  · rw [List.length_mapIdx]
    exact (List.getElem?_eq_some_iff.mp hj).1
  · rw [← ces_putF hs hj]
    exact hP1
theorem V_iald {kk n : Nat} {i : Int} (hd : decode M.1 pc = .ok (.iaload, 1)) (hs : shL[kk]? = some (shA 0 n)) (hi : 0 ≤ i ∧ i < (n : Int)) (k : V G l M Qc (pc + 1) L (.int (iZ (w kk i)) :: st) w) : V G l M Qc pc L (.int (iZ i) :: .ref (gA G kk) :: st) w := by
  intro p e s m args below meth c H locs ls C hP hS hl
  have hn := sh_n hs
  refine va_iald (D := gD G) C.1 C.2.1 C.2.2.2.2.2.2.2.1 hP kk 0 (ces_of hs) rfl (iZ_in hi hn) hd ?_
  rw [iZ_clamp (by omega), show ((i.toNat : Nat) : Int) = i by omega]
  exact k p e s m args below meth c H locs ls C hP hS hl
theorem V_zald {kk n : Nat} {i : Int} (hd : decode M.1 pc = .ok (.baload, 1)) (hs : shL[kk]? = some (shA 1 n)) (hi : 0 ≤ i ∧ i < (n : Int)) (k : V G l M Qc (pc + 1) L (.int (iZ (w kk i)) :: st) w) : V G l M Qc pc L (.int (iZ i) :: .ref (gA G kk) :: st) w := by
  intro p e s m args below meth c H locs ls C hP hS hl
  have hn := sh_n hs
  refine va_zald (D := gD G) C.1 C.2.1 C.2.2.2.2.2.2.2.1 hP kk 1 (ces_of hs) rfl (iZ_in hi hn) hd ?_
  rw [iZ_clamp (by omega), show ((i.toNat : Nat) : Int) = i by omega]
  exact k p e s m args below meth c H locs ls C hP hS hl
theorem up_arr {w : Wd} {kk : Nat} {i z : Int} (hi : 0 ≤ i) (j : Nat) : upd (fun j : Nat => iZ (w kk (j : Int))) i.toNat (iZ z) j = iZ (up w kk i z kk (j : Int)) := by
  unfold upd up
  by_cases h : j = i.toNat
  · rw [if_pos h, if_pos ⟨rfl, by omega⟩]
  · rw [if_neg h, if_neg (by rintro ⟨-, h2⟩; omega)]
theorem V_iast {kk n : Nat} {i z : Int} (hd : decode M.1 pc = .ok (.iastore, 1)) (hs : shL[kk]? = some (shA 0 n)) (hi : 0 ≤ i ∧ i < (n : Int)) (k : V G l M Qc (pc + 1) L st (up w kk i z)) : V G l M Qc pc L (.int (iZ z) :: .int (iZ i) :: .ref (gA G kk) :: st) w := by
  intro p e s m args below meth c H locs ls C hP hS hl
  have hn := sh_n hs
  refine va_iast (D := gD G) C.1 C.2.1 C.2.2.2.2.2.2.2.1 hP (ces_D C.2.2.2.2.2.2.2.2.1 w) hS kk 0 (ces_of hs) rfl (iZ_in hi hn) hd (fun H1 locs1 hP1 _ hS1 => k p e s m args below meth c H1 locs1 ls C ?_ hS1 hl)
  rw [iZ_clamp (by omega), ces_putA hs (w' := up w kk i z) (fun j => up_arr hi.1 j) (fun a b h => up_ne (Or.inl h))] at hP1
  exact hP1
theorem V_zast {kk n : Nat} {i z : Int} (hd : decode M.1 pc = .ok (.bastore, 1)) (hs : shL[kk]? = some (shA 1 n)) (hi : 0 ≤ i ∧ i < (n : Int)) (hz : z = 0 ∨ z = 1) (k : V G l M Qc (pc + 1) L st (up w kk i z)) : V G l M Qc pc L (.int (iZ z) :: .int (iZ i) :: .ref (gA G kk) :: st) w := by
  intro p e s m args below meth c H locs ls C hP hS hl
  have hn := sh_n hs
  have hz9 : vp_nar .boolean (iZ z) = iZ z := by rcases hz with rfl | rfl <;> decide
  refine va_zast (D := gD G) C.1 C.2.1 C.2.2.2.2.2.2.2.1 hP (ces_D C.2.2.2.2.2.2.2.2.1 w) hS kk 1 (ces_of hs) rfl (iZ_in hi hn) hd (fun H1 locs1 hP1 _ hS1 => k p e s m args below meth c H1 locs1 ls C ?_ hS1 hl)
  rw [hz9, iZ_clamp (by omega), ces_putA hs (w' := up w kk i z) (fun j => up_arr hi.1 j) (fun a b h => up_ne (Or.inl h))] at hP1
  exact hP1
theorem V_alen {kk t n : Nat} {nz : Int} (hd : decode M.1 pc = .ok (.arraylength, 1)) (hs : shL[kk]? = some (shA t n)) (ht : t = 0 ∨ t = 1) (hz : (n : Int) = nz) (k : V G l M Qc (pc + 1) L (.int (iZ nz) :: st) w) : V G l M Qc pc L (.ref (gA G kk) :: st) w := by
  subst hz
  intro p e s m args below meth c H locs ls C hP hS hl
  rcases ht with rfl | rfl
  · exact va_alen (D := gD G) C.1 C.2.1 C.2.2.2.2.2.2.2.1 hP kk 0 (ces_of hs) rfl (v := iZ (n : Int)) (by rw [iZ_nI (by omega)]; rfl) hd (k p e s m args below meth c H locs ls C hP hS hl)
  · exact va_alen (D := gD G) C.1 C.2.1 C.2.2.2.2.2.2.2.1 hP kk 1 (ces_of hs) rfl (v := iZ (n : Int)) (by rw [iZ_nI (by omega)]; rfl) hd (k p e s m args below meth c H locs ls C hP hS hl)
theorem V_alenR {kk t : Nat} {qs : List Nat} {nz : Int} (hd : decode M.1 pc = .ok (.arraylength, 1)) (hs : shL[kk]? = some (shR t qs)) (ht : t = 2 ∨ t = 3) (hz : (qs.length : Int) = nz) (k : V G l M Qc (pc + 1) L (.int (iZ nz) :: st) w) : V G l M Qc pc L (.ref (gA G kk) :: st) w := by
  subst hz
  intro p e s m args below meth c H locs ls C hP hS hl
  rcases ht with rfl | rfl
  · exact va_alen (D := gD G) C.1 C.2.1 C.2.2.2.2.2.2.2.1 hP kk 2 (ces_of hs) rfl (v := iZ (qs.length : Int)) (by rw [iZ_nI (by omega)]; rfl) hd (k p e s m args below meth c H locs ls C hP hS hl)
  · exact va_alen (D := gD G) C.1 C.2.1 C.2.2.2.2.2.2.2.1 hP kk 3 (ces_of hs) rfl (v := iZ (qs.length : Int)) (by rw [iZ_nI (by omega)]; rfl) hd (k p e s m args below meth c H locs ls C hP hS hl)
theorem V_aald {kk t q : Nat} {qs : List Nat} {i : Int} (hd : decode M.1 pc = .ok (.aaload, 1)) (hs : shL[kk]? = some (shR t qs)) (ht : t = 2 ∨ t = 3) (hi : 0 ≤ i ∧ i < (qs.length : Int)) (hq : qs[i.toNat]? = some q) (k : V G l M Qc (pc + 1) L (.ref (gA G q) :: st) w) : V G l M Qc pc L (.int (iZ i) :: .ref (gA G kk) :: st) w := by
  intro p e s m args below meth c H locs ls C hP hS hl
  have hn := sh_q hs
  have hcell := hP kk _ (ces_of hs)
  have hlt : i.toNat < qs.length := by omega
  have hin := iZ_in hi hn
  rcases ht with rfl | rfl
  · refine W.aald (v := .ref (gA G q)) (ty := .object "TreeDebts$State") C.1 C.2.1 hcell ((C.2.2.2.2.2.2.2.1.2 2 _ rfl).1 qs.length (fun j => va_rf ((qs[j]?).map (gA G)))) rfl (fun q => by cases q) (by show ¬ (iZ i < 0 ∨ (arrV _ _ _).slots.size ≤ _); rw [arrV_size]; exact hin) ?_ rfl rfl hd (k p e s m args below meth c H locs ls C hP hS hl)
    show (arrV _ _ _).slots[_]? = _
    rw [iZ_clamp (by omega), arrV_read _ _ hlt]
    show some (va_rf ((qs[i.toNat]?).map (gA G))) = _
    rw [hq]
    rfl
  · refine W.aald (v := .ref (gA G q)) (ty := .array .int) C.1 C.2.1 hcell ((C.2.2.2.2.2.2.2.1.2 3 _ rfl).1 qs.length (fun j => va_rf ((qs[j]?).map (gA G)))) rfl (fun q => by cases q) (by show ¬ (iZ i < 0 ∨ (arrV _ _ _).slots.size ≤ _); rw [arrV_size]; exact hin) ?_ rfl rfl hd (k p e s m args below meth c H locs ls C hP hS hl)
    show (arrV _ _ _).slots[_]? = _
    rw [iZ_clamp (by omega), arrV_read _ _ hlt]
    show some (va_rf ((qs[i.toNat]?).map (gA G))) = _
    rw [hq]
    rfl
end VR

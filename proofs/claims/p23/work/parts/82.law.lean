/-! ===== 82 the law: its walk ===== -/
def mL_law : MB := (code, 4, RL, ret, wsL_law, room_1)
/-- the law's locals: script, class, reference, place -/
def lwL (G : Gb) (b : Nat) (i : Int) : List (Option Value) := [some (.ref b), some (.ref (gA G 0)), some (.ref (gA G 71)), some (.int (iZ i))]
def LC (G : Gb) (b Ln : Nat) (xs : Nat → Int32) (p : Program) (s : State) (m : MethodId) (meth : Method) (c : Code) : Prop := p.tables.exec = Jvm.exec ∧ c.code = code ∧ meth.sig.returnType = ret ∧ c.maxLocals = 4 ∧ s.vm.findClass RL = some m.cls ∧ (∀ x ∈ wsL_law, x.before #[.ref b] s = true) ∧ meth.locks = false ∧ (va_X b Ln xs s s.heap ∧ b < s.heap.size) ∧ gGl G s ∧ (∀ q : Nat, gAw G q → s.heap.size ≤ q) ∧ Ln ≤ 2048
def LV (G : Gb) (l : Launch) (b Ln : Nat) (xs : Nat → Int32) (pc : Nat) (i : Int) (st : List Value) (w : Wd) : Prop :=
  ∀ (p : Program) (e : Env) (s : State) (m : MethodId) (below : List Frame) (meth : Method) (c : Code) (H : Heap) (locs : List Loc) (ls : Array Slot), LC G b Ln xs p s m meth c → va_P (gD G) vwCl (ces G w) H → va_S (fun q : Nat => s.heap.size ≤ q) s.heap H locs → lvL ls 4 (lwL G b i) → W p l e room_1 s m #[Value.ref b] below meth c H locs 600000 7302250 (lw_Z below #[Value.ref b] s) (F0 m pc ls st)
/-- a number of the script -/
def sx (xs : Nat → Int32) (j : Int) : Int := (xs j.toNat).toInt
theorem sx_r (xs : Nat → Int32) (j : Int) : inR (sx xs j) := iZ_rng _
section LR
variable {G : Gb} {l : Launch} {b Ln : Nat} {xs : Nat → Int32} {pc : Nat} {i : Int} {st : List Value} {w : Wd}
theorem LV_a0 (hd : decode code pc = .ok (.aload_n 0, 1)) (k : LV G l b Ln xs (pc + 1) i (.ref b :: st) w) : LV G l b Ln xs pc i st w :=
  fun p e s m below meth c H locs ls C hP hS hl => lv_aload_n C.1 C.2.1 hd rfl (hl.2.2 0 _ rfl) (k p e s m below meth c H locs ls C hP hS hl)
theorem LV_a1 (hd : decode code pc = .ok (.aload_n 1, 1)) (k : LV G l b Ln xs (pc + 1) i (.ref (gA G 0) :: st) w) : LV G l b Ln xs pc i st w :=
  fun p e s m below meth c H locs ls C hP hS hl => lv_aload_n C.1 C.2.1 hd rfl (hl.2.2 1 _ rfl) (k p e s m below meth c H locs ls C hP hS hl)
theorem LV_a2 (hd : decode code pc = .ok (.aload_n 2, 1)) (k : LV G l b Ln xs (pc + 1) i (.ref (gA G 71) :: st) w) : LV G l b Ln xs pc i st w :=
  fun p e s m below meth c H locs ls C hP hS hl => lv_aload_n C.1 C.2.1 hd rfl (hl.2.2 2 _ rfl) (k p e s m below meth c H locs ls C hP hS hl)
theorem LV_i3 (hd : decode code pc = .ok (.iload_n 3, 1)) (k : LV G l b Ln xs (pc + 1) i (.int (iZ i) :: st) w) : LV G l b Ln xs pc i st w :=
  fun p e s m below meth c H locs ls C hP hS hl => lv_iload_n C.1 C.2.1 hd rfl (hl.2.2 3 _ rfl) (k p e s m below meth c H locs ls C hP hS hl)
theorem LV_iconst {n : Int} (hd : decode code pc = .ok (.iconst n, 1)) (k : LV G l b Ln xs (pc + 1) i (.int (iZ n) :: st) w) : LV G l b Ln xs pc i st w :=
  fun p e s m below meth c H locs ls C hP hS hl => lv_iconst C.1 C.2.1 hd rfl (k p e s m below meth c H locs ls C hP hS hl)
theorem LV_bipush {n : Int} (hd : decode code pc = .ok (.bipush n, 2)) (hv : (Int8.ofInt n).toInt32 = iZ n) (k : LV G l b Ln xs (pc + 2) i (.int (iZ n) :: st) w) : LV G l b Ln xs pc i st w :=
  fun p e s m below meth c H locs ls C hP hS hl => lv_bipush C.1 C.2.1 hd hv (k p e s m below meth c H locs ls C hP hS hl)
theorem LV_iadd {a d : Int} (hd : decode code pc = .ok (.iadd, 1)) (k : LV G l b Ln xs (pc + 1) i (.int (iZ (a + d)) :: st) w) : LV G l b Ln xs pc i (.int (iZ d) :: .int (iZ a) :: st) w :=
  fun p e s m below meth c H locs ls C hP hS hl => lv_iadd C.1 C.2.1 hd (by rw [iZ_add]; exact k p e s m below meth c H locs ls C hP hS hl)
theorem LV_isub {a d : Int} (hd : decode code pc = .ok (.isub, 1)) (k : LV G l b Ln xs (pc + 1) i (.int (iZ (a - d)) :: st) w) : LV G l b Ln xs pc i (.int (iZ d) :: .int (iZ a) :: st) w :=
  fun p e s m below meth c H locs ls C hP hS hl => lv_isub C.1 C.2.1 hd (by rw [iZ_sub]; exact k p e s m below meth c H locs ls C hP hS hl)
theorem LV_iand {a d : Int} (hd : decode code pc = .ok (.iand, 1)) (k : LV G l b Ln xs (pc + 1) i (.int (iZ (bAnd a d)) :: st) w) : LV G l b Ln xs pc i (.int (iZ d) :: .int (iZ a) :: st) w :=
  fun p e s m below meth c H locs ls C hP hS hl => lv_iand C.1 C.2.1 hd (by rw [← iZ_self (iZ a &&& iZ d)]; exact k p e s m below meth c H locs ls C hP hS hl)
theorem LV_i2l {x : Int32} (hd : decode code pc = .ok (.i2l, 1)) (k : LV G l b Ln xs (pc + 1) i (.long x.toInt64 :: st) w) : LV G l b Ln xs pc i (.int x :: st) w :=
  fun p e s m below meth c H locs ls C hP hS hl => lv_i2l C.1 C.2.1 hd rfl (k p e s m below meth c H locs ls C hP hS hl)
theorem LV_lshl {x : Int64} {y : Int32} (hd : decode code pc = .ok (.lshl, 1)) (k : LV G l b Ln xs (pc + 1) i (.long (x <<< (y.toInt64 &&& 63)) :: st) w) : LV G l b Ln xs pc i (.int y :: .long x :: st) w :=
  fun p e s m below meth c H locs ls C hP hS hl => lv_lshl C.1 C.2.1 hd rfl (k p e s m below meth c H locs ls C hP hS hl)
theorem LV_ldc2 {idx : Nat} {v : Int64} (hd : decode code pc = .ok (.ldc2_w idx, 3)) (hc : Jvm.Cond.constantLong RL idx v ∈ wsL_law) (k : LV G l b Ln xs (pc + 3) i (.long v :: st) w) : LV G l b Ln xs pc i st w :=
  fun p e s m below meth c H locs ls C hP hS hl => lv_ldc2 C.1 C.2.1 C.2.2.2.2.1 (C.2.2.2.2.2.1 _ hc) hd (k p e s m below meth c H locs ls C hP hS hl)
theorem LV_land {x y : Int64} (hd : decode code pc = .ok (.land, 1)) (k : LV G l b Ln xs (pc + 1) i (.long (x &&& y) :: st) w) : LV G l b Ln xs pc i (.long y :: .long x :: st) w :=
  fun p e s m below meth c H locs ls C hP hS hl => lv_land C.1 C.2.1 hd (k p e s m below meth c H locs ls C hP hS hl)
theorem LV_lor {x y : Int64} (hd : decode code pc = .ok (.lor, 1)) (k : LV G l b Ln xs (pc + 1) i (.long (x ||| y) :: st) w) : LV G l b Ln xs pc i (.long y :: .long x :: st) w :=
  fun p e s m below meth c H locs ls C hP hS hl => lv_lor C.1 C.2.1 hd (k p e s m below meth c H locs ls C hP hS hl)
theorem LV_pop {va : Value} (hd : decode code pc = .ok (.pop, 1)) (hva : va.category = 1) (k : LV G l b Ln xs (pc + 1) i st w) : LV G l b Ln xs pc i (va :: st) w :=
  fun p e s m below meth c H locs ls C hP hS hl => lv_pop C.1 C.2.1 hd hva (k p e s m below meth c H locs ls C hP hS hl)
theorem LV_goto {off : Int} {tgt : Nat} (hd : decode code pc = .ok (.goto off, 3)) (ht : (pc : Int) + off = (tgt : Int)) (k : LV G l b Ln xs tgt i st w) : LV G l b Ln xs pc i st w :=
  fun p e s m below meth c H locs ls C hP hS hl => lv_goto C.1 C.2.1 hd ht (k p e s m below meth c H locs ls C hP hS hl)
theorem LV_gt {a d : Int} {off : Int} {tgt : Nat} (hd : decode code pc = .ok (.if_icmp .gt off, 3)) (ht : (pc : Int) + off = (tgt : Int)) (ha : inR a) (hb : inR d) (kt : d < a → LV G l b Ln xs tgt i st w) (kf : a ≤ d → LV G l b Ln xs (pc + 3) i st w) : LV G l b Ln xs pc i (.int (iZ d) :: .int (iZ a) :: st) w :=
  fun p e s m below meth c H locs ls C hP hS hl => lv_icmp_gt C.1 C.2.1 hd ht (fun h => kt ((iZ_lt hb ha).mp h) p e s m below meth c H locs ls C hP hS hl) (fun h => kf (Int.not_lt.mp (fun z => h ((iZ_lt hb ha).mpr z))) p e s m below meth c H locs ls C hP hS hl)
/-- two equal numbers -/
theorem LV_eq {a d : Int} {off : Int} {tgt : Nat} (hd : decode code pc = .ok (.if_icmp .eq off, 3)) (ht : (pc : Int) + off = (tgt : Int)) (h : a = d) (kt : LV G l b Ln xs tgt i st w) : LV G l b Ln xs pc i (.int (iZ d) :: .int (iZ a) :: st) w :=
  fun p e s m below meth c H locs ls C hP hS hl => lv_icmp_eq C.1 C.2.1 hd ht (fun _ => kt p e s m below meth c H locs ls C hP hS hl) (fun q => absurd (by rw [h]) q)
theorem LV_tswI {a v dflt lo hi off : Int} {offs : Array Int} {len tgt : Nat} (hd : decode code pc = .ok (.tableswitch dflt lo hi offs, len)) (ha : a = v) (hv : inR v ∧ lo ≤ v ∧ v ≤ hi) (ho : offs[(v - lo).toNat]? = some off) (ht : (pc : Int) + off = (tgt : Int)) (k : LV G l b Ln xs tgt i st w) : LV G l b Ln xs pc i (.int (iZ a) :: st) w :=
  fun p e s m below meth c H locs ls C hP hS hl => lv_tableIn C.1 C.2.1 hd (by rw [ha, iZ_toInt hv.1]; omega) (by rw [ha, iZ_toInt hv.1]; omega) (by rw [ha, iZ_toInt hv.1]; exact ho) ht (k p e s m below meth c H locs ls C hP hS hl)
theorem LV_tswO {a dflt lo hi : Int} {offs : Array Int} {len tgt : Nat} (hd : decode code pc = .ok (.tableswitch dflt lo hi offs, len)) (ha : inR a) (hv : a < lo ∨ hi < a) (ht : (pc : Int) + dflt = (tgt : Int)) (k : LV G l b Ln xs tgt i st w) : LV G l b Ln xs pc i (.int (iZ a) :: st) w :=
  fun p e s m below meth c H locs ls C hP hS hl => lv_tableOut C.1 C.2.1 hd (by rw [iZ_toInt ha]; exact hv) ht (k p e s m below meth c H locs ls C hP hS hl)
theorem LV_len (hd : decode code pc = .ok (.arraylength, 1)) (k : LV G l b Ln xs (pc + 1) i (.int (iZ (Ln : Int)) :: st) w) : LV G l b Ln xs pc i (.ref b :: st) w := by
  intro p e s m below meth c H locs ls C hP hS hl
  obtain ⟨hX, hbl⟩ := C.2.2.2.2.2.2.2.1
  refine va_slen C.1 C.2.1 hX hbl (Nat.not_le.mpr hbl) hS hd ?_
  rw [show Int32.ofNat Ln = iZ (Ln : Int) from (Int32.ofInt_eq_ofNat (n := Ln)).symm]
  exact k p e s m below meth c H locs ls C hP hS hl
theorem LV_ild {j : Int} (hd : decode code pc = .ok (.iaload, 1)) (hj : 0 ≤ j ∧ j < (Ln : Int)) (k : LV G l b Ln xs (pc + 1) i (.int (iZ (sx xs j)) :: st) w) : LV G l b Ln xs pc i (.int (iZ j) :: .ref b :: st) w := by
  intro p e s m below meth c H locs ls C hP hS hl
  obtain ⟨hX, hbl⟩ := C.2.2.2.2.2.2.2.1
  have hLn := C.2.2.2.2.2.2.2.2.2.2
  refine va_sld C.1 C.2.1 hX hbl (Nat.not_le.mpr hbl) hS (by rw [vp_in_iff, iZ_toInt (by omega)]; exact hj) hd ?_
  rw [iZ_clamp (by omega), ← iZ_self (xs j.toNat)]
  exact k p e s m below meth c H locs ls C hP hS hl
/-- script[i + d] -/
theorem LV_arg {d : Int} (h0 : decode code pc = .ok (.aload_n 0, 1)) (h1 : decode code (pc + 1) = .ok (.iload_n 3, 1)) (h2 : decode code (pc + 2) = .ok (.iconst d, 1)) (h3 : decode code (pc + 3) = .ok (.iadd, 1)) (h4 : decode code (pc + 4) = .ok (.iaload, 1)) (hj : 0 ≤ i + d ∧ i + d < (Ln : Int)) (k : LV G l b Ln xs (pc + 5) i (.int (iZ (sx xs (i + d))) :: st) w) : LV G l b Ln xs pc i st w :=
  LV_a0 h0 (LV_i3 h1 (LV_iconst h2 (LV_iadd h3 (LV_ild h4 hj k))))
theorem LV_inc {n : Int} (hd : decode code pc = .ok (.iinc 3 n, 3)) (k : LV G l b Ln xs (pc + 3) (i + n) st w) : LV G l b Ln xs pc i st w := by
  intro p e s m below meth c H locs ls C hP hS hl
  obtain ⟨j, hj⟩ := List.getElem?_of_mem ((lvE_mem (q := (3, Value.int (iZ i))) (L := lwL G b i)).mpr rfl)
  refine lv_iinc (v := iZ (i + n)) C.1 C.2.1 hd hl.has (k := j) hj ?_ (by decide) rfl (fun ls' hl' => k p e s m below meth c H locs ls' C hP hS (lvL.set (L := lwL G b i) rfl hl'))
  exact iZ_add i n
theorem LV_call {y : MethodName} {M' : MB} {idx n kk ci N : Nat} {fl : List (Option Nat)} {C0 : String} {T : u_T} {As rest : List Value} {Post : Int → Wd → Prop} (hd : decode code pc = .ok (.invokevirtual idx, 3)) (ok : OkV mL_law M' y idx n C0) (hs : shL[kk]? = some (shO ci fl)) (hc : vwCl[ci]? = some (C0, T, N)) (hn : As.length = n) (hst : st = As.reverse ++ .ref (gA G kk) :: rest) (hrest : (rest.map fun v => v.category).sum ≤ 8) (hM : Ci G l y M' (.ref (gA G kk) :: As) w Post) (k : ∀ (z : Int) (w' : Wd), Post z w' → LV G l b Ln xs (pc + 3) i (.int (iZ z) :: rest) w') : LV G l b Ln xs pc i st w := by
  intro p e s m below meth c H locs ls C hP hS hl
  have C' := C
  obtain ⟨hx, hb, hr, hml, hown, hts, hlo, hX, hG, hA, hLn⟩ := C'
  obtain ⟨o1, ⟨ws', o2⟩, ⟨o3, o3'⟩, o4, o5⟩ := ok
  have hrun := va_runV (p := p) (l := l) (e := e) (below := below) (meth := meth) (g := F0 m pc ls st) (As := As) (rest := rest) (cells := 600000) (slots := 7302250) (R := room_1) (locs := locs) ⟨hx, hb, hml, hown, hts⟩ hM (cwV n hts o1 o2 o3 o3' o4 o5) ⟨pc_blind G _ w, va_recv hG.1 hP hc (ces_of hs), fun U hU hW => ⟨rfl, hG.next hW (fun a h1 h2 => by rw [hU]; exact hS.2.1 a h1 (Nat.not_le.mpr h1)), by rw [hU]; exact hP⟩⟩ rfl hn hl.1 hst (lv_room hrest) hd ⟨Nat.le_of_ble_eq_true rfl, Nat.le_of_ble_eq_true rfl⟩
  refine va_calli hrun hS (fun q _ h => hA q h) (fun q h => hA q h) (fun r w' t H1 locs1 ht hvm hw hB hz1 hk1 hS1 => ?_)
  obtain ⟨z, rfl, hpost⟩ := hw
  rw [ht] at hB
  exact k z w' hpost p e s m below meth c H1 locs1 ls C hB hS1 hl
/-- the law's end -/
theorem LV_end (hd : decode code pc = .ok (.ireturn, 1)) : LV G l b Ln xs pc i [.int (iZ 1)] w := by
  intro p e s m below meth c H locs ls C hP hS hl
  exact va_forget (fun q hq => hS.2.2 q hq) (lw_ret C.1 C.2.1 C.2.2.1 C.2.2.2.2.2.2.1 hd)
end LR
/-- what of the world each side looks at -/
def rC (w : Wd) : Wd := fun k j => cond (Nat.blt k 71) (w k j) 0
def rM (w : Wd) : Wd := fun k j => cond (Nat.blt k 71) 0 (w k j)
theorem SC_r (c : Int) (σ : SG) (w : Wd) : SC c σ (rC w) ↔ SC c σ w := Iff.rfl
theorem SM_r (c : Int) (σ : SG) (w : Wd) : SM c σ (rM w) ↔ SM c σ w := Iff.rfl
theorem SC_fr {c : Int} {σ : SG} {w w' : Wd} (h : SC c σ w) (f : frM w w') : SC c σ w' := by
  rw [← SC_r] at h ⊢
  have e : rC w' = rC w := by
    funext k j
    unfold rC
    by_cases q : k < 71
    · rw [f k j q]
    · rw [show Nat.blt k 71 = false from Bool.eq_false_iff.mpr (fun z => q (Nat.le_of_ble_eq_true z))]
      rfl
  rw [e]
  exact h
theorem SM_fr {c : Int} {σ : SG} {w w' : Wd} (h : SM c σ w) (f : frC w w') : SM c σ w' := by
  rw [← SM_r] at h ⊢
  have e : rM w' = rM w := by
    funext k j
    unfold rM
    by_cases q : k < 71
    · rw [show Nat.blt k 71 = true from Nat.ble_eq_true_of_le q]
      rfl
    · rw [f k j (by omega)]
  rw [e]
  exact h

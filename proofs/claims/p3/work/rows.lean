section
-- ===== PART A: goes FIRST, ahead of the names: the tables' words, and 'selects' of the private methods out of them =====
/-- a private method of a class that the tables say can be made, by its rows of tables_1 -/
def lw_okq (q : MethodName × Nat) : Prop := (q.1.cls ≠ "java/lang/invoke/MethodHandle" ∧ q.1.cls ≠ "java/lang/invoke/VarHandle") ∧ Cond.instantiable q.1.cls q.2 ∈ tables_1 ∧ Cond.privateMethod q.1 ∈ tables_1 ∧ Cond.instanceMethod q.1 ∈ tables_1
theorem lw_p0 : lw_okq (⟨"TreeDebts", "foretell", "(I)V"⟩, 7) := ⟨⟨by decide +kernel, by decide +kernel⟩, List.mem_of_getElem? (i := 15) (by decide +kernel), List.mem_of_getElem? (i := 500) (by decide +kernel), List.mem_of_getElem? (i := 501) (by decide +kernel)⟩
theorem lw_p1 : lw_okq (⟨"TreeDebts", "anyFails", "(II)Z"⟩, 7) := ⟨⟨by decide +kernel, by decide +kernel⟩, List.mem_of_getElem? (i := 15) (by decide +kernel), List.mem_of_getElem? (i := 545) (by decide +kernel), List.mem_of_getElem? (i := 546) (by decide +kernel)⟩
theorem lw_p2 : lw_okq (⟨"TreeDebtsModel", "token", "()V"⟩, 21) := ⟨⟨by decide +kernel, by decide +kernel⟩, List.mem_of_getElem? (i := 579) (by decide +kernel), List.mem_of_getElem? (i := 666) (by decide +kernel), List.mem_of_getElem? (i := 667) (by decide +kernel)⟩
theorem lw_p3 : lw_okq (⟨"TreeDebtsModel", "readsLine", "()Z"⟩, 21) := ⟨⟨by decide +kernel, by decide +kernel⟩, List.mem_of_getElem? (i := 579) (by decide +kernel), List.mem_of_getElem? (i := 673) (by decide +kernel), List.mem_of_getElem? (i := 674) (by decide +kernel)⟩
theorem lw_p4 : lw_okq (⟨"TreeDebtsModel", "wordOf", "()I"⟩, 21) := ⟨⟨by decide +kernel, by decide +kernel⟩, List.mem_of_getElem? (i := 579) (by decide +kernel), List.mem_of_getElem? (i := 677) (by decide +kernel), List.mem_of_getElem? (i := 678) (by decide +kernel)⟩
theorem lw_p5 : lw_okq (⟨"TreeDebtsModel", "treeWord", "()I"⟩, 21) := ⟨⟨by decide +kernel, by decide +kernel⟩, List.mem_of_getElem? (i := 579) (by decide +kernel), List.mem_of_getElem? (i := 681) (by decide +kernel), List.mem_of_getElem? (i := 682) (by decide +kernel)⟩
theorem lw_p6 : lw_okq (⟨"TreeDebtsModel", "isWord", "(III)Z"⟩, 21) := ⟨⟨by decide +kernel, by decide +kernel⟩, List.mem_of_getElem? (i := 579) (by decide +kernel), List.mem_of_getElem? (i := 685) (by decide +kernel), List.mem_of_getElem? (i := 686) (by decide +kernel)⟩
theorem lw_p7 : lw_okq (⟨"TreeDebtsModel", "readsRest", "(I)Z"⟩, 21) := ⟨⟨by decide +kernel, by decide +kernel⟩, List.mem_of_getElem? (i := 579) (by decide +kernel), List.mem_of_getElem? (i := 700) (by decide +kernel), List.mem_of_getElem? (i := 701) (by decide +kernel)⟩
theorem lw_p8 : lw_okq (⟨"TreeDebtsModel", "reads", "(IIII)Z"⟩, 21) := ⟨⟨by decide +kernel, by decide +kernel⟩, List.mem_of_getElem? (i := 579) (by decide +kernel), List.mem_of_getElem? (i := 704) (by decide +kernel), List.mem_of_getElem? (i := 705) (by decide +kernel)⟩
theorem lw_p9 : lw_okq (⟨"TreeDebtsModel", "tell", "(I)V"⟩, 21) := ⟨⟨by decide +kernel, by decide +kernel⟩, List.mem_of_getElem? (i := 579) (by decide +kernel), List.mem_of_getElem? (i := 713) (by decide +kernel), List.mem_of_getElem? (i := 714) (by decide +kernel)⟩
theorem lw_p10 : lw_okq (⟨"TreeDebtsModel", "copy", "(II)V"⟩, 21) := ⟨⟨by decide +kernel, by decide +kernel⟩, List.mem_of_getElem? (i := 579) (by decide +kernel), List.mem_of_getElem? (i := 717) (by decide +kernel), List.mem_of_getElem? (i := 718) (by decide +kernel)⟩
theorem lw_p11 : lw_okq (⟨"TreeDebtsModel", "isTree", "(I)Z"⟩, 21) := ⟨⟨by decide +kernel, by decide +kernel⟩, List.mem_of_getElem? (i := 579) (by decide +kernel), List.mem_of_getElem? (i := 725) (by decide +kernel), List.mem_of_getElem? (i := 726) (by decide +kernel)⟩
theorem lw_p12 : lw_okq (⟨"TreeDebtsModel", "owedTo", "(II)I"⟩, 21) := ⟨⟨by decide +kernel, by decide +kernel⟩, List.mem_of_getElem? (i := 579) (by decide +kernel), List.mem_of_getElem? (i := 729) (by decide +kernel), List.mem_of_getElem? (i := 730) (by decide +kernel)⟩
theorem lw_p13 : lw_okq (⟨"TreeDebtsModel", "isCross", "(I)Z"⟩, 21) := ⟨⟨by decide +kernel, by decide +kernel⟩, List.mem_of_getElem? (i := 579) (by decide +kernel), List.mem_of_getElem? (i := 736) (by decide +kernel), List.mem_of_getElem? (i := 737) (by decide +kernel)⟩
theorem lw_p14 : lw_okq (⟨"TreeDebtsModel", "grown", "(III)I"⟩, 21) := ⟨⟨by decide +kernel, by decide +kernel⟩, List.mem_of_getElem? (i := 579) (by decide +kernel), List.mem_of_getElem? (i := 748) (by decide +kernel), List.mem_of_getElem? (i := 749) (by decide +kernel)⟩
theorem lw_p15 : lw_okq (⟨"TreeDebtsModel", "lends", "(I)Z"⟩, 21) := ⟨⟨by decide +kernel, by decide +kernel⟩, List.mem_of_getElem? (i := 579) (by decide +kernel), List.mem_of_getElem? (i := 758) (by decide +kernel), List.mem_of_getElem? (i := 759) (by decide +kernel)⟩
def lw_privs_1 : List (MethodName × Nat) := [(⟨"TreeDebts", "foretell", "(I)V"⟩, 7), (⟨"TreeDebts", "anyFails", "(II)Z"⟩, 7), (⟨"TreeDebtsModel", "token", "()V"⟩, 21), (⟨"TreeDebtsModel", "readsLine", "()Z"⟩, 21), (⟨"TreeDebtsModel", "wordOf", "()I"⟩, 21), (⟨"TreeDebtsModel", "treeWord", "()I"⟩, 21), (⟨"TreeDebtsModel", "isWord", "(III)Z"⟩, 21), (⟨"TreeDebtsModel", "readsRest", "(I)Z"⟩, 21), (⟨"TreeDebtsModel", "reads", "(IIII)Z"⟩, 21), (⟨"TreeDebtsModel", "tell", "(I)V"⟩, 21), (⟨"TreeDebtsModel", "copy", "(II)V"⟩, 21), (⟨"TreeDebtsModel", "isTree", "(I)Z"⟩, 21), (⟨"TreeDebtsModel", "owedTo", "(II)I"⟩, 21), (⟨"TreeDebtsModel", "isCross", "(I)Z"⟩, 21), (⟨"TreeDebtsModel", "grown", "(III)I"⟩, 21), (⟨"TreeDebtsModel", "lends", "(I)Z"⟩, 21)]
theorem lw_r1 : ∀ q ∈ lw_privs_1, lw_okq q := List.forall_mem_cons.mpr ⟨lw_p0, List.forall_mem_cons.mpr ⟨lw_p1, List.forall_mem_cons.mpr ⟨lw_p2, List.forall_mem_cons.mpr ⟨lw_p3, List.forall_mem_cons.mpr ⟨lw_p4, List.forall_mem_cons.mpr ⟨lw_p5, List.forall_mem_cons.mpr ⟨lw_p6, List.forall_mem_cons.mpr ⟨lw_p7, List.forall_mem_cons.mpr ⟨lw_p8, List.forall_mem_cons.mpr ⟨lw_p9, List.forall_mem_cons.mpr ⟨lw_p10, List.forall_mem_cons.mpr ⟨lw_p11, List.forall_mem_cons.mpr ⟨lw_p12, List.forall_mem_cons.mpr ⟨lw_p13, List.forall_mem_cons.mpr ⟨lw_p14, List.forall_mem_cons.mpr ⟨lw_p15, fun _ h => absurd h List.not_mem_nil⟩⟩⟩⟩⟩⟩⟩⟩⟩⟩⟩⟩⟩⟩⟩⟩
theorem lw_p16 : lw_okq (⟨"TreeDebtsModel", "lives", "(I)Z"⟩, 21) := ⟨⟨by decide +kernel, by decide +kernel⟩, List.mem_of_getElem? (i := 579) (by decide +kernel), List.mem_of_getElem? (i := 762) (by decide +kernel), List.mem_of_getElem? (i := 763) (by decide +kernel)⟩
theorem lw_p17 : lw_okq (⟨"TreeDebtsModel", "day", "(II)V"⟩, 21) := ⟨⟨by decide +kernel, by decide +kernel⟩, List.mem_of_getElem? (i := 579) (by decide +kernel), List.mem_of_getElem? (i := 770) (by decide +kernel), List.mem_of_getElem? (i := 771) (by decide +kernel)⟩
theorem lw_p18 : lw_okq (⟨"TreeDebtsModel", "work", "(II)V"⟩, 21) := ⟨⟨by decide +kernel, by decide +kernel⟩, List.mem_of_getElem? (i := 579) (by decide +kernel), List.mem_of_getElem? (i := 774) (by decide +kernel), List.mem_of_getElem? (i := 775) (by decide +kernel)⟩
theorem lw_p19 : lw_okq (⟨"TreeDebtsModel", "firstDue", "(I)I"⟩, 21) := ⟨⟨by decide +kernel, by decide +kernel⟩, List.mem_of_getElem? (i := 579) (by decide +kernel), List.mem_of_getElem? (i := 778) (by decide +kernel), List.mem_of_getElem? (i := 779) (by decide +kernel)⟩
theorem lw_p20 : lw_okq (⟨"TreeDebtsModel", "remove", "(II)V"⟩, 21) := ⟨⟨by decide +kernel, by decide +kernel⟩, List.mem_of_getElem? (i := 579) (by decide +kernel), List.mem_of_getElem? (i := 785) (by decide +kernel), List.mem_of_getElem? (i := 786) (by decide +kernel)⟩
theorem lw_p21 : lw_okq (⟨"TreeDebtsModel", "burn", "(I)V"⟩, 21) := ⟨⟨by decide +kernel, by decide +kernel⟩, List.mem_of_getElem? (i := 579) (by decide +kernel), List.mem_of_getElem? (i := 794) (by decide +kernel), List.mem_of_getElem? (i := 795) (by decide +kernel)⟩
theorem lw_p22 : lw_okq (⟨"TreeDebtsModel", "tryDays", "(II)V"⟩, 21) := ⟨⟨by decide +kernel, by decide +kernel⟩, List.mem_of_getElem? (i := 579) (by decide +kernel), List.mem_of_getElem? (i := 814) (by decide +kernel), List.mem_of_getElem? (i := 815) (by decide +kernel)⟩
theorem lw_p23 : lw_okq (⟨"TreeDebtsModel", "owedAll", "(I)I"⟩, 21) := ⟨⟨by decide +kernel, by decide +kernel⟩, List.mem_of_getElem? (i := 579) (by decide +kernel), List.mem_of_getElem? (i := 822) (by decide +kernel), List.mem_of_getElem? (i := 823) (by decide +kernel)⟩
theorem lw_p24 : lw_okq (⟨"TreeDebtsModel", "layPrices", "(I)V"⟩, 21) := ⟨⟨by decide +kernel, by decide +kernel⟩, List.mem_of_getElem? (i := 579) (by decide +kernel), List.mem_of_getElem? (i := 835) (by decide +kernel), List.mem_of_getElem? (i := 836) (by decide +kernel)⟩
theorem lw_p25 : lw_okq (⟨"TreeDebtsModel", "owedFor", "(III)I"⟩, 21) := ⟨⟨by decide +kernel, by decide +kernel⟩, List.mem_of_getElem? (i := 579) (by decide +kernel), List.mem_of_getElem? (i := 839) (by decide +kernel), List.mem_of_getElem? (i := 840) (by decide +kernel)⟩
theorem lw_p26 : lw_okq (⟨"TreeDebtsModel", "layLeasts", "()V"⟩, 21) := ⟨⟨by decide +kernel, by decide +kernel⟩, List.mem_of_getElem? (i := 579) (by decide +kernel), List.mem_of_getElem? (i := 843) (by decide +kernel), List.mem_of_getElem? (i := 844) (by decide +kernel)⟩
theorem lw_p27 : lw_okq (⟨"TreeDebtsModel", "by", "(III)I"⟩, 21) := ⟨⟨by decide +kernel, by decide +kernel⟩, List.mem_of_getElem? (i := 579) (by decide +kernel), List.mem_of_getElem? (i := 847) (by decide +kernel), List.mem_of_getElem? (i := 848) (by decide +kernel)⟩
def lw_privs_2 : List (MethodName × Nat) := [(⟨"TreeDebtsModel", "lives", "(I)Z"⟩, 21), (⟨"TreeDebtsModel", "day", "(II)V"⟩, 21), (⟨"TreeDebtsModel", "work", "(II)V"⟩, 21), (⟨"TreeDebtsModel", "firstDue", "(I)I"⟩, 21), (⟨"TreeDebtsModel", "remove", "(II)V"⟩, 21), (⟨"TreeDebtsModel", "burn", "(I)V"⟩, 21), (⟨"TreeDebtsModel", "tryDays", "(II)V"⟩, 21), (⟨"TreeDebtsModel", "owedAll", "(I)I"⟩, 21), (⟨"TreeDebtsModel", "layPrices", "(I)V"⟩, 21), (⟨"TreeDebtsModel", "owedFor", "(III)I"⟩, 21), (⟨"TreeDebtsModel", "layLeasts", "()V"⟩, 21), (⟨"TreeDebtsModel", "by", "(III)I"⟩, 21)]
theorem lw_r2 : ∀ q ∈ lw_privs_2, lw_okq q := List.forall_mem_cons.mpr ⟨lw_p16, List.forall_mem_cons.mpr ⟨lw_p17, List.forall_mem_cons.mpr ⟨lw_p18, List.forall_mem_cons.mpr ⟨lw_p19, List.forall_mem_cons.mpr ⟨lw_p20, List.forall_mem_cons.mpr ⟨lw_p21, List.forall_mem_cons.mpr ⟨lw_p22, List.forall_mem_cons.mpr ⟨lw_p23, List.forall_mem_cons.mpr ⟨lw_p24, List.forall_mem_cons.mpr ⟨lw_p25, List.forall_mem_cons.mpr ⟨lw_p26, List.forall_mem_cons.mpr ⟨lw_p27, fun _ h => absurd h List.not_mem_nil⟩⟩⟩⟩⟩⟩⟩⟩⟩⟩⟩⟩
def lw_privs : List (MethodName × Nat) := lw_privs_1 ++ (lw_privs_2)
def lw_tbl : List Cond := k2_sels lw_privs ++ tables_1
theorem lw_privs_ok : ∀ q ∈ lw_privs, lw_okq q := by
  show ∀ q ∈ lw_privs_1 ++ (lw_privs_2), lw_okq q
  exact List.forall_mem_append.mpr ⟨lw_r1, lw_r2⟩
end
section
/-! ===== BEGIN words of one list among another's, by their places ===== -/
theorem goodIn_r {big : List Cond} (ws : List Cond) (ps : List Nat) (hp : ws = ps.filterMap (fun i => big[i]?)) (h : ws.all goodWord = true) : GoodIn big ws := by
  intro w hw
  have h1 := List.all_eq_true.mp h w hw
  rw [hp] at hw
  obtain ⟨i, -, hi⟩ := List.mem_filterMap.mp hw
  have hm : w ∈ big := by first | exact List.mem_of_getElem? hi | exact List.getElem?_mem hi
  exact ⟨hm, good_of_word h1⟩
theorem goodIn_app {big a b : List Cond} (ha : GoodIn big a) (hb : GoodIn big b) : GoodIn big (a ++ b) := fun w h => (List.mem_append.mp h).elim (ha w) (hb w)
theorem goodIn_ca {big a b : List Cond} {c : Cond} (ha : GoodIn big (c :: a)) (hb : GoodIn big b) : GoodIn big (c :: (a ++ b)) := fun w h => (List.mem_cons.mp h).elim (fun e => ha w (List.mem_cons.mpr (Or.inl e))) (fun h => (List.mem_append.mp h).elim (fun h => ha w (List.mem_cons.mpr (Or.inr h))) (hb w))
theorem goodIn_sub {big ws : List Cond} (hm : ∀ w ∈ ws, w ∈ big) (h : ws.all goodWord = true) : GoodIn big ws := fun w hw => ⟨hm w hw, good_of_word (List.all_eq_true.mp h w hw)⟩
/-! ===== END ===== -/

/-- what the tables say of an array of arrays (the kit's va_AO, of an array type) -/
def va_AOA (ty : FieldType) (U : State) : Prop := (Cond.arrayOver (.array ty)).before #[] U = true
theorem va_AOA.of {ty : FieldType} {A : Array Value} {U : State} (h : (Cond.arrayOver (.array ty)).before A U = true) : va_AOA ty U := h
theorem va_AOA.use {ty : FieldType} {A : Array Value} {U : State} (h : va_AOA ty U) : (Cond.arrayOver (.array ty)).before A U = true := h
/-! ===== BEGIN new T[n][m]: the outer array a place, the inner ones among the pooled ===== -/
/-- f, but v at every address of l -/
def vr_up {α : Type} (f : Nat → α) (l : List Nat) (v : α) : Nat → α := fun a => if a ∈ l then v else f a
theorem vr_up_in {α : Type} {f : Nat → α} {l : List Nat} {v : α} {a : Nat} (h : a ∈ l) : vr_up f l v a = v := if_pos h
theorem vr_up_ne {α : Type} {f : Nat → α} {l : List Nat} {v : α} {a : Nat} (h : a ∉ l) : vr_up f l v a = f a := if_neg h
theorem vr_rows {L l : List Nat} {f : Nat → va_E} {e : va_E} (h : ∀ a, a ∈ l → a ∉ L) : va_pl L f ++ l.map (fun a => (a, e)) = va_pl (L ++ l) (vr_up f l e) := by
  unfold va_pl
  rw [List.map_append]
  congr 1
  · apply List.map_congr_left
    intro a ha
    rw [vr_up_ne (fun q => h a q ha)]
  · apply List.map_congr_left
    intro a ha
    rw [vr_up_in ha]
theorem vr_lay {X rows : va_W} {x : Nat × va_E} {pl : va_W} {D : va_G} {cl : List vw_C} {H : Heap} (hP : va_P D cl (((X ++ pl) ++ [x]) ++ rows) H) : va_P D cl ((X ++ [x]) ++ (pl ++ rows)) H := by
  rw [List.append_assoc (X ++ pl)] at hP
  have h := va_P.swap hP
  rw [← List.append_assoc X] at h
  have h2 := va_P.swap h
  rw [List.append_assoc (X ++ [x])] at h2
  exact h2
theorem vr_layD {X rows : va_W} {x : Nat × va_E} {pl : va_W} {A : Nat → Prop} (hD : va_D A (((X ++ pl) ++ [x]) ++ rows)) : va_D A ((X ++ [x]) ++ (pl ++ rows)) := by
  rw [List.append_assoc (X ++ pl)] at hD
  have h := va_D.swap hD
  rw [← List.append_assoc X] at h
  have h2 := va_D.swap h
  rw [List.append_assoc (X ++ [x])] at h2
  exact h2
theorem vr_outer (c : ClassId) (N h0 : Nat) : ∀ i : Nat, Jvm.Free.Multi.outerC c N h0 i = arrV c N (fun j => va_rf (if j < i then some (h0 + 1 + j) else none))
  | 0 => by
    show ({ cls := c, slots := Array.replicate N .null, vm := .none } : Cell) = _
    rw [arrV_new]
    refine congrArg (arrV c N) (funext fun j => ?_)
    simp [va_rf]
  | i + 1 => by
    show (Jvm.Free.Multi.outerC c N h0 i).setSlot i (.ref (h0 + 1 + i)) = _
    rw [vr_outer c N h0 i, arrV_store]
    refine congrArg (arrV c N) (funext fun j => ?_)
    by_cases e : j = i
    · subst e
      simp [updV, va_rf]
    · by_cases h : j < i
      · simp [updV, e, h, Nat.lt_succ_of_lt h]
      · simp [updV, e, h, show ¬ j < i + 1 by omega]
section VGM
variable {p : Program} {l : Launch} {e : Env} {R : Room} {s : State} {m : MethodId} {args : Array Value} {below : List Frame} {meth : Method} {c : Code} {H : Heap} {locs : List Loc} {cells slots : Nat} {Q : State → Prop}
variable {cc : ByteArray} {pc : Nat} {ls : Array Slot} {rest : List Value} {D : va_G} {cl : List vw_C} {A : Nat → Prop} {a : Nat} {tys : List (ClassId × FieldType)} {ws : va_W} {H0 : Heap}
theorem va_mna {X : va_W} {L : List Nat} {f : Nat → va_E} {cc : ByteArray} (hexec : p.tables.exec = Jvm.exec) (hb : c.code = cc) {own : String} {index : Nat} {ty : FieldType} {cy : ClassId} (hown : s.vm.findClass own = some m.cls) (hclink : (Cond.classLink own index ("[" ++ (FieldType.array ty).toString)).before args s = true) (hover : va_AOA ty s) (harr : (Cond.arrayClass ty).before args s = true) (hcy : s.vm.findClass (FieldType.array ty).toString = some cy)
    (hK : va_K D cl tys s) (hP : va_P D cl (X ++ va_pl L f) H) (hD : va_D A (X ++ va_pl L f)) (hS : va_S A H0 H locs) (hA : ∀ q, H0.size ≤ q → A q) {n k : Int32} {N' K' : Nat} {z : vp_A} (hn : ¬ n < 0) (hk : ¬ k < 0) (hN : n.toNatClampNeg = N') (hM : k.toNatClampNeg = K')
    (hb1 : N' * 4 ≤ 536870912) (hb2 : K' * componentBytes ty ≤ 536870912) (hb3 : K' ≤ 536870912) (hdf : fits ty (defaultValue ty) = true) (hdd : (defaultValue ty).isDefault = true) (hcells : cells + (1 + N') ≤ R.cells) (hslots : slots + (N' + N' * K') ≤ R.slots) (hz : ∀ c : ClassId, Jvm.Free.Multi.innerC c K' (defaultValue ty) = vp_cell c z) (hdg : decode cc pc = .ok (.multianewarray index 2, 4))
    (kk : ∀ (q : Nat) (r : Nat → Nat) (cA : ClassId) (H1 : Heap), (∀ i j : Nat, i < N' → j < N' → r i = r j → i = j) → (∀ i : Nat, i < N' → r i ∉ L) → va_K D cl (tys ++ [(cA, .array ty)]) s →
      va_P D cl ((X ++ [(q, .inl (cA, N', .inr (.inr (.inr (.inr (fun i => if i < N' then some (r i) else none))))))]) ++ va_pl (L ++ (List.range N').map r) (vr_up f ((List.range N').map r) (.inl (cy, z)))) H1 → va_D A ((X ++ [(q, .inl (cA, N', .inr (.inr (.inr (.inr (fun i => if i < N' then some (r i) else none))))))]) ++ va_pl (L ++ (List.range N').map r) (vr_up f ((List.range N').map r) (.inl (cy, z)))) → va_S A H0 H1 locs →
      W p l e R s m args below meth c H1 locs (cells + 1 + N') (slots + N' + N' * K') Q (F0 m (pc + 4) ls (.ref q :: rest))) : W p l e R s m args below meth c H locs cells slots Q (F0 m pc ls (.int k :: .int n :: rest)) := by
  subst hN
  subst hM
  intro T hT Xs
  obtain ⟨vm₁, cA, comp, -, fA, fC, hO, -, X', step⟩ := Xs.multianewarray2F hexec hown hclink (va_AOA.use hover) harr (g := F0 m pc ls (.int k :: .int n :: rest)) rfl (by rw [hb]; exact hdg) rfl hn hk hb1 hb2 hb3 hdf hdd hcells hslots
  have ec : some cy = some comp := hcy.symm.trans fC
  cases ec
  generalize hF : Jvm.Free.Multi.fill (T.setVm vm₁) cA cy n.toNatClampNeg k.toNatClampNeg (defaultValue ty) n.toNatClampNeg = F at X' step
  have hTh : (T.setVm vm₁).heap = H := hT
  obtain ⟨f1, f2, -, -⟩ := Jvm.Free.Multi.fill_facts (T.setVm vm₁) cA cy n.toNatClampNeg k.toNatClampNeg (defaultValue ty) n.toNatClampNeg
  rw [hF, hTh] at f1 f2
  have hold : ∀ x : Nat, x < H.size → F.heap[x]? = H[x]? := fun x hx => by
    have := Jvm.Free.Multi.fill_old (T.setVm vm₁) cA cy n.toNatClampNeg k.toNatClampNeg (defaultValue ty) (a := x) (by rw [hTh]; exact hx) n.toNatClampNeg
    rw [hF, hTh] at this
    exact this
  have hrow : ∀ j : Nat, j < n.toNatClampNeg → F.heap[H.size + 1 + j]? = some (vp_cell cy z) := fun j hj => by
    have := Jvm.Free.Multi.fill_inner (T.setVm vm₁) cA cy n.toNatClampNeg k.toNatClampNeg (defaultValue ty) n.toNatClampNeg j hj
    rw [hF, hTh, hz] at this
    exact this
  have hout : Jvm.Free.Multi.outerC cA n.toNatClampNeg H.size n.toNatClampNeg = vp_cell cA (n.toNatClampNeg, .inr (.inr (.inr (.inr (fun i => if i < n.toNatClampNeg then some (H.size + 1 + i) else none))))) := by
    rw [vp_cell_q]
    exact vr_outer cA n.toNatClampNeg H.size n.toNatClampNeg
  rw [hout] at f2
  have hlt : ∀ a, a ∈ L → a < H.size := fun a ha => by
    obtain ⟨k9, hk9⟩ := va_pl_get (X := X) (f := f) ha
    exact (hP k9 _ hk9).lt
  have hnl : ∀ i : Nat, i < n.toNatClampNeg → H.size + 1 + i ∉ L := fun i _ h => by
    have := hlt _ h
    omega
  have hnm : ∀ a, a ∈ (List.range n.toNatClampNeg).map (fun i => H.size + 1 + i) → a ∉ L := fun a ha h => by
    obtain ⟨i, -, rfl⟩ := List.mem_map.mp ha
    have := hlt _ h
    omega
  have hP0 : va_P D cl (X ++ va_pl L f) F.heap := hP.kept (fun k9 x hx => hold x.1 ((hP k9 x hx).lt))
  have hP1 : va_P D cl ((X ++ va_pl L f) ++ [(H.size, .inl (cA, n.toNatClampNeg, .inr (.inr (.inr (.inr (fun i => if i < n.toNatClampNeg then some (H.size + 1 + i) else none))))))]) F.heap := hP0.app (fun k9 x hx => by
    have h0 : k9 < 1 := (List.getElem?_eq_some_iff.mp hx).1
    rw [show k9 = 0 by omega] at hx
    cases hx
    exact f2)
  have hP2 : va_P D cl (((X ++ va_pl L f) ++ [(H.size, .inl (cA, n.toNatClampNeg, .inr (.inr (.inr (.inr (fun i => if i < n.toNatClampNeg then some (H.size + 1 + i) else none))))))]) ++ ((List.range n.toNatClampNeg).map (fun i => H.size + 1 + i)).map (fun a => (a, .inl (cy, z)))) F.heap := hP1.app (fun k9 x hx => by
    obtain ⟨a, ha, rfl⟩ := List.mem_map.mp (List.mem_of_getElem? hx)
    obtain ⟨i, hi, rfl⟩ := List.mem_map.mp ha
    exact hrow i (List.mem_range.mp hi))
  have hD2 : va_D A (((X ++ va_pl L f) ++ [(H.size, .inl (cA, n.toNatClampNeg, .inr (.inr (.inr (.inr (fun i => if i < n.toNatClampNeg then some (H.size + 1 + i) else none))))))]) ++ ((List.range n.toNatClampNeg).map (fun i => H.size + 1 + i)).map (fun a => (a, .inl (cy, z)))) := by
    have hD1 := hD.push (e := .inl (cA, n.toNatClampNeg, .inr (.inr (.inr (.inr (fun i => if i < n.toNatClampNeg then some (H.size + 1 + i) else none)))))) hP rfl (hA _ hS.1)
    generalize hW1 : (X ++ va_pl L f) ++ [(H.size, .inl (cA, n.toNatClampNeg, .inr (.inr (.inr (.inr (fun i => if i < n.toNatClampNeg then some (H.size + 1 + i) else none))))))] = W1 at hD1 hP1 ⊢
    have hle : ∀ (k9 : Nat) (x : Nat × va_E), W1[k9]? = some x → x.1 ≤ H.size := fun k9 x hx => by
      rw [← hW1] at hx
      by_cases hl : k9 < (X ++ va_pl L f).length
      · rw [List.getElem?_append_left hl] at hx
        exact Nat.le_of_lt ((hP k9 x hx).lt)
      · rw [List.getElem?_append_right (by omega)] at hx
        have h0 : k9 - (X ++ va_pl L f).length < 1 := (List.getElem?_eq_some_iff.mp hx).1
        rw [show k9 - (X ++ va_pl L f).length = 0 by omega] at hx
        cases hx
        exact Nat.le_refl _
    have hr : ∀ (k9 : Nat) (x : Nat × va_E), (((List.range n.toNatClampNeg).map (fun i => H.size + 1 + i)).map (fun a => ((a, .inl (cy, z)) : Nat × va_E)))[k9]? = some x → x.1 = H.size + 1 + k9 := fun k9 x hx => by
      rw [List.getElem?_map, List.getElem?_map] at hx
      by_cases h9 : k9 < n.toNatClampNeg
      · rw [List.getElem?_range h9] at hx
        cases hx
        rfl
      · have hn0 : (List.range n.toNatClampNeg)[k9]? = none := List.getElem?_eq_none (by rw [List.length_range]; omega)
        rw [hn0] at hx
        cases hx
    refine ⟨fun i j x y hi hj hxy => ?_, fun k9 x hx => ?_⟩
    · by_cases h1 : i < W1.length <;> by_cases h2 : j < W1.length
      · rw [List.getElem?_append_left h1] at hi
        rw [List.getElem?_append_left h2] at hj
        exact hD1.1 i j x y hi hj hxy
      · rw [List.getElem?_append_left h1] at hi
        rw [List.getElem?_append_right (by omega)] at hj
        have := hle _ _ hi
        have := hr _ _ hj
        omega
      · rw [List.getElem?_append_right (by omega)] at hi
        rw [List.getElem?_append_left h2] at hj
        have := hle _ _ hj
        have := hr _ _ hi
        omega
      · rw [List.getElem?_append_right (by omega)] at hi hj
        have := hr _ _ hi
        have := hr _ _ hj
        omega
    · by_cases h1 : k9 < W1.length
      · rw [List.getElem?_append_left h1] at hx
        exact hD1.2 k9 x hx
      · rw [List.getElem?_append_right (by omega)] at hx
        have := hr _ _ hx
        exact hA _ (by have := hS.1; omega)
  have hAr : ArrOfT s cA (.array ty) := fun N9 z9 => by
    obtain ⟨-, k9, hk9, cm9, hkk9⟩ := (hO 0 0 0).1
    exact ⟨(fun q hq => by cases hq), k9, hk9, cm9, hkk9⟩
  have hK2 : va_K D cl (tys ++ [(cA, .array ty)]) s := ⟨hK.1, fun k9 x hx => by
    by_cases hl : k9 < tys.length
    · rw [List.getElem?_append_left hl] at hx
      exact hK.2 k9 x hx
    · rw [List.getElem?_append_right (by omega)] at hx
      have h0 : k9 - tys.length < 1 := (List.getElem?_eq_some_iff.mp hx).1
      rw [show k9 - tys.length = 0 by omega] at hx
      cases hx
      exact ⟨hAr, fA⟩⟩
  obtain ⟨t, a1, b1⟩ := kk H.size (fun i => H.size + 1 + i) cA F.heap (fun i j _ _ h => by have h9 : H.size + 1 + i = H.size + 1 + j := h; omega) hnl hK2 (by rw [← vr_rows hnm]; exact vr_lay hP2) (by rw [← vr_rows hnm]; exact vr_layD hD2) ⟨by rw [f1]; have := hS.1; omega, fun x h1 h2 => (hold x (Nat.lt_of_lt_of_le h1 hS.1)).trans (hS.2.1 x h1 h2), hS.2.2⟩ F rfl X'
  refine ⟨t, step t ?_, b1⟩
  have e : T.heap.size = H.size := by rw [hT]
  rw [e]
  exact a1
end VGM
/-! ===== END ===== -/
end
section
/-! ===== BEGIN printed: names, fields, word lists, decode rows ===== -/
def RX0 : String := "TreeDebts$HutPlan"
def TX0 : u_T := fun k => match k with
  | 0 => ("TreeDebts$HutPlan", "least", "[[I", true)
  | 1 => ("TreeDebts$HutPlan", "choice", "[[I", true)
  | 2 => ("TreeDebts$HutPlan", "costs", "[I", true)
  | 3 => ("TreeDebts$HutPlan", "from", "[I", true)
  | _ => ("TreeDebts$HutPlan", "hutBranches", "I", false)
def tyX0 : Nat → FieldType := fun k => match k with
  | 0 => .array (.array .int)
  | 1 => .array (.array .int)
  | 2 => .array .int
  | 3 => .array .int
  | _ => .int
abbrev wsX00 : List Cond := u_ws RX0 TX0 5
theorem nmX0 : ∀ a, a < 5 → ∀ b, b < 5 → a ≠ b → (TX0 a).2.1 ≠ (TX0 b).2.1 := by decide +kernel
theorem tyX0_ok : ∀ k, k < 5 → parseFieldDescriptor (TX0 k).2.2.1 = some (tyX0 k) := by decide +kernel
abbrev cX0_init : ByteArray := prog_2_method_1_code
def yX0_init : MethodName := ⟨RX0, "<init>", "()V"⟩
abbrev cX0_find : ByteArray := prog_2_method_2_code
def yX0_find : MethodName := ⟨RX0, "find", "(LTreeDebts$Told;LTreeDebts$State;II)Z"⟩
abbrev cX0_owedTogether : ByteArray := prog_2_method_3_code
def yX0_owedTogether : MethodName := ⟨RX0, "owedTogether", "()I"⟩
abbrev cX0_chooseFrom : ByteArray := prog_2_method_4_code
def yX0_chooseFrom : MethodName := ⟨RX0, "chooseFrom", "(III)V"⟩
abbrev cX0_followChoices : ByteArray := prog_2_method_5_code
def yX0_followChoices : MethodName := ⟨RX0, "followChoices", "(I)V"⟩
def RX1 : String := "TreeDebts$State"
def TX1 : u_T := fun k => match k with
  | 0 => ("TreeDebts$State", "day", "I", false)
  | 1 => ("TreeDebts$State", "branches", "[I", true)
  | 2 => ("TreeDebts$State", "fates", "[I", true)
  | 3 => ("TreeDebts$State", "loans", "I", false)
  | 4 => ("TreeDebts$State", "lenders", "[I", true)
  | 5 => ("TreeDebts$State", "lent", "[I", true)
  | 6 => ("TreeDebts$State", "owed", "[I", true)
  | 7 => ("TreeDebts$State", "dues", "[I", true)
  | 8 => ("TreeDebts$State", "failed", "[I", true)
  | _ => ("TreeDebts$State", "failures", "I", false)
def tyX1 : Nat → FieldType := fun k => match k with
  | 0 => .int
  | 1 => .array .int
  | 2 => .array .int
  | 3 => .int
  | 4 => .array .int
  | 5 => .array .int
  | 6 => .array .int
  | 7 => .array .int
  | 8 => .array .int
  | _ => .int
abbrev wsX10 : List Cond := u_ws RX1 TX1 10
theorem nmX1 : ∀ a, a < 10 → ∀ b, b < 10 → a ≠ b → (TX1 a).2.1 ≠ (TX1 b).2.1 := by decide +kernel
theorem tyX1_ok : ∀ k, k < 10 → parseFieldDescriptor (TX1 k).2.2.1 = some (tyX1 k) := by decide +kernel
abbrev cX1_init : ByteArray := prog_3_method_1_code
def yX1_init : MethodName := ⟨RX1, "<init>", "()V"⟩
abbrev cX1_begin : ByteArray := prog_3_method_2_code
def yX1_begin : MethodName := ⟨RX1, "begin", "(LTreeDebts$Told;)V"⟩
abbrev cX1_copyFrom : ByteArray := prog_3_method_3_code
def yX1_copyFrom : MethodName := ⟨RX1, "copyFrom", "(LTreeDebts$State;)V"⟩
abbrev cX1_owedTo : ByteArray := prog_3_method_4_code
def yX1_owedTo : MethodName := ⟨RX1, "owedTo", "(I)I"⟩
abbrev cX1_owedInAll : ByteArray := prog_3_method_5_code
def yX1_owedInAll : MethodName := ⟨RX1, "owedInAll", "()I"⟩
abbrev cX1_isCross : ByteArray := prog_3_method_6_code
def yX1_isCross : MethodName := ⟨RX1, "isCross", "(LTreeDebts$Told;I)Z"⟩
abbrev cX1_lends : ByteArray := prog_3_method_7_code
def yX1_lends : MethodName := ⟨RX1, "lends", "(LTreeDebts$Told;I)Z"⟩
abbrev cX1_lend : ByteArray := prog_3_method_8_code
def yX1_lend : MethodName := ⟨RX1, "lend", "(LTreeDebts$Told;II)I"⟩
abbrev cX1_addBranches : ByteArray := prog_3_method_9_code
def yX1_addBranches : MethodName := ⟨RX1, "addBranches", "(II)V"⟩
abbrev cX1_passDays : ByteArray := prog_3_method_10_code
def yX1_passDays : MethodName := ⟨RX1, "passDays", "(LTreeDebts$Told;II)V"⟩
abbrev cX1_growLoans : ByteArray := prog_3_method_11_code
def yX1_growLoans : MethodName := ⟨RX1, "growLoans", "(LTreeDebts$Told;)V"⟩
abbrev cX1_workOff : ByteArray := prog_3_method_12_code
def yX1_workOff : MethodName := ⟨RX1, "workOff", "(I)V"⟩
abbrev cX1_firstDue : ByteArray := prog_3_method_13_code
def yX1_firstDue : MethodName := ⟨RX1, "firstDue", "()I"⟩
abbrev cX1_failDueLoans : ByteArray := prog_3_method_14_code
def yX1_failDueLoans : MethodName := ⟨RX1, "failDueLoans", "()V"⟩
abbrev cX1_removeLoan : ByteArray := prog_3_method_15_code
def yX1_removeLoan : MethodName := ⟨RX1, "removeLoan", "(I)V"⟩
abbrev cX1_burn : ByteArray := prog_3_method_16_code
def yX1_burn : MethodName := ⟨RX1, "burn", "(LTreeDebts$Told;I)I"⟩
abbrev cX1_removeLoansOf : ByteArray := prog_3_method_17_code
def yX1_removeLoansOf : MethodName := ⟨RX1, "removeLoansOf", "(I)V"⟩
abbrev cX1_handOver : ByteArray := prog_3_method_18_code
def yX1_handOver : MethodName := ⟨RX1, "handOver", "(II)I"⟩
abbrev cX1_partsWithLoans : ByteArray := prog_3_method_19_code
def yX1_partsWithLoans : MethodName := ⟨RX1, "partsWithLoans", "(LTreeDebts$Told;)I"⟩
def RX2 : String := "TreeDebts$Text"
def TX2 : u_T := fun k => match k with
  | 0 => ("TreeDebts$Text", "bytes", "[I", true)
  | 1 => ("TreeDebts$Text", "length", "I", false)
  | 2 => ("TreeDebts$Text", "draft", "LTreeDebts$Told;", true)
  | 3 => ("TreeDebts$Text", "lines", "I", false)
  | 4 => ("TreeDebts$Text", "start", "I", false)
  | 5 => ("TreeDebts$Text", "end", "I", false)
  | 6 => ("TreeDebts$Text", "token", "I", false)
  | _ => ("TreeDebts$Text", "value", "I", false)
def tyX2 : Nat → FieldType := fun k => match k with
  | 0 => .array .int
  | 1 => .int
  | 2 => .object "TreeDebts$Told"
  | 3 => .int
  | 4 => .int
  | 5 => .int
  | 6 => .int
  | _ => .int
abbrev wsX20 : List Cond := u_ws RX2 TX2 8
theorem nmX2 : ∀ a, a < 8 → ∀ b, b < 8 → a ≠ b → (TX2 a).2.1 ≠ (TX2 b).2.1 := by decide +kernel
theorem tyX2_ok : ∀ k, k < 8 → parseFieldDescriptor (TX2 k).2.2.1 = some (tyX2 k) := by decide +kernel
abbrev cX2_init : ByteArray := prog_4_method_1_code
def yX2_init : MethodName := ⟨RX2, "<init>", "()V"⟩
abbrev cX2_add : ByteArray := prog_4_method_2_code
def yX2_add : MethodName := ⟨RX2, "add", "(I)V"⟩
abbrev cX2_read : ByteArray := prog_4_method_3_code
def yX2_read : MethodName := ⟨RX2, "read", "(LTreeDebts$Told;)I"⟩
abbrev cX2_isAtSemicolon : ByteArray := prog_4_method_4_code
def yX2_isAtSemicolon : MethodName := ⟨RX2, "isAtSemicolon", "()Z"⟩
abbrev cX2_readLine : ByteArray := prog_4_method_5_code
def yX2_readLine : MethodName := ⟨RX2, "readLine", "()Z"⟩
abbrev cX2_readWood : ByteArray := prog_4_method_6_code
def yX2_readWood : MethodName := ⟨RX2, "readWood", "()Z"⟩
abbrev cX2_readTree : ByteArray := prog_4_method_7_code
def yX2_readTree : MethodName := ⟨RX2, "readTree", "(I)Z"⟩
abbrev cX2_readPart : ByteArray := prog_4_method_8_code
def yX2_readPart : MethodName := ⟨RX2, "readPart", "()Z"⟩
abbrev cX2_readQuarrel : ByteArray := prog_4_method_9_code
def yX2_readQuarrel : MethodName := ⟨RX2, "readQuarrel", "()Z"⟩
abbrev cX2_readHands : ByteArray := prog_4_method_10_code
def yX2_readHands : MethodName := ⟨RX2, "readHands", "()Z"⟩
abbrev cX2_readNumber : ByteArray := prog_4_method_11_code
def yX2_readNumber : MethodName := ⟨RX2, "readNumber", "(II)I"⟩
abbrev cX2_nextToken : ByteArray := prog_4_method_12_code
def yX2_nextToken : MethodName := ⟨RX2, "nextToken", "()V"⟩
abbrev cX2_readDigits : ByteArray := prog_4_method_13_code
def yX2_readDigits : MethodName := ⟨RX2, "readDigits", "()V"⟩
abbrev cX2_isWord : ByteArray := prog_4_method_14_code
def yX2_isWord : MethodName := ⟨RX2, "isWord", "(Ljava/lang/String;)Z"⟩
abbrev cX2_isLetter : ByteArray := prog_4_method_15_code
def yX2_isLetter : MethodName := ⟨RX2, "isLetter", "(I)Z"⟩
abbrev cX2_isDigit : ByteArray := prog_4_method_16_code
def yX2_isDigit : MethodName := ⟨RX2, "isDigit", "(I)Z"⟩
def RX3 : String := "TreeDebts$Told"
def TX3 : u_T := fun k => match k with
  | 0 => ("TreeDebts$Told", "trees", "I", false)
  | 1 => ("TreeDebts$Told", "kinds", "[I", true)
  | 2 => ("TreeDebts$Told", "branches", "[I", true)
  | 3 => ("TreeDebts$Told", "rates", "[I", true)
  | 4 => ("TreeDebts$Told", "terms", "[I", true)
  | 5 => ("TreeDebts$Told", "parts", "[I", true)
  | 6 => ("TreeDebts$Told", "quarrels", "I", false)
  | 7 => ("TreeDebts$Told", "ones", "[I", true)
  | 8 => ("TreeDebts$Told", "others", "[I", true)
  | _ => ("TreeDebts$Told", "hands", "I", false)
def tyX3 : Nat → FieldType := fun k => match k with
  | 0 => .int
  | 1 => .array .int
  | 2 => .array .int
  | 3 => .array .int
  | 4 => .array .int
  | 5 => .array .int
  | 6 => .int
  | 7 => .array .int
  | 8 => .array .int
  | _ => .int
abbrev wsX30 : List Cond := u_ws RX3 TX3 10
theorem nmX3 : ∀ a, a < 10 → ∀ b, b < 10 → a ≠ b → (TX3 a).2.1 ≠ (TX3 b).2.1 := by decide +kernel
theorem tyX3_ok : ∀ k, k < 10 → parseFieldDescriptor (TX3 k).2.2.1 = some (tyX3 k) := by decide +kernel
abbrev cX3_init : ByteArray := prog_5_method_1_code
def yX3_init : MethodName := ⟨RX3, "<init>", "()V"⟩
abbrev cX3_has : ByteArray := prog_5_method_2_code
def yX3_has : MethodName := ⟨RX3, "has", "(I)Z"⟩
abbrev cX3_forget : ByteArray := prog_5_method_3_code
def yX3_forget : MethodName := ⟨RX3, "forget", "()V"⟩
abbrev cX3_copyFrom : ByteArray := prog_5_method_4_code
def yX3_copyFrom : MethodName := ⟨RX3, "copyFrom", "(LTreeDebts$Told;)V"⟩
abbrev cX3_addTree : ByteArray := prog_5_method_5_code
def yX3_addTree : MethodName := ⟨RX3, "addTree", "(IIII)V"⟩
abbrev cX3_addQuarrel : ByteArray := prog_5_method_6_code
def yX3_addQuarrel : MethodName := ⟨RX3, "addQuarrel", "(II)V"⟩
abbrev cX3_isOfKind : ByteArray := prog_5_method_7_code
def yX3_isOfKind : MethodName := ⟨RX3, "isOfKind", "(II)Z"⟩
abbrev cX3_dueOf : ByteArray := prog_5_method_8_code
def yX3_dueOf : MethodName := ⟨RX3, "dueOf", "(II)I"⟩
abbrev cX3_grownOnce : ByteArray := prog_5_method_9_code
def yX3_grownOnce : MethodName := ⟨RX3, "grownOnce", "(III)I"⟩
abbrev cX3_grownIn : ByteArray := prog_5_method_10_code
def yX3_grownIn : MethodName := ⟨RX3, "grownIn", "(III)I"⟩
def RX4 : String := "TreeDebts"
def TX4 : u_T := fun k => match k with
  | 0 => ("TreeDebts", "text", "LTreeDebts$Text;", true)
  | 1 => ("TreeDebts", "told", "LTreeDebts$Told;", true)
  | 2 => ("TreeDebts", "now", "LTreeDebts$State;", true)
  | 3 => ("TreeDebts", "foretold", "LTreeDebts$State;", true)
  | 4 => ("TreeDebts", "kept", "[LTreeDebts$State;", true)
  | 5 => ("TreeDebts", "isKept", "[Z", true)
  | _ => ("TreeDebts", "hutPlan", "LTreeDebts$HutPlan;", true)
def tyX4 : Nat → FieldType := fun k => match k with
  | 0 => .object "TreeDebts$Text"
  | 1 => .object "TreeDebts$Told"
  | 2 => .object "TreeDebts$State"
  | 3 => .object "TreeDebts$State"
  | 4 => .array (.object "TreeDebts$State")
  | 5 => .array .boolean
  | _ => .object "TreeDebts$HutPlan"
abbrev wsX40 : List Cond := u_ws RX4 TX4 7
theorem nmX4 : ∀ a, a < 7 → ∀ b, b < 7 → a ≠ b → (TX4 a).2.1 ≠ (TX4 b).2.1 := by decide +kernel
theorem tyX4_ok : ∀ k, k < 7 → parseFieldDescriptor (TX4 k).2.2.1 = some (tyX4 k) := by decide +kernel
abbrev cX4_init : ByteArray := prog_1_method_1_code
def yX4_init : MethodName := ⟨RX4, "<init>", "()V"⟩
abbrev cX4_write : ByteArray := prog_1_method_2_code
def yX4_write : MethodName := ⟨RX4, "write", "(JI)I"⟩
abbrev cX4_erase : ByteArray := prog_1_method_3_code
def yX4_erase : MethodName := ⟨RX4, "erase", "()I"⟩
abbrev cX4_fault : ByteArray := prog_1_method_4_code
def yX4_fault : MethodName := ⟨RX4, "fault", "()I"⟩
abbrev cX4_wood : ByteArray := prog_1_method_5_code
def yX4_wood : MethodName := ⟨RX4, "wood", "()I"⟩
abbrev cX4_tree : ByteArray := prog_1_method_6_code
def yX4_tree : MethodName := ⟨RX4, "tree", "(II)I"⟩
abbrev cX4_loan : ByteArray := prog_1_method_7_code
def yX4_loan : MethodName := ⟨RX4, "loan", "(II)I"⟩
abbrev cX4_as : ByteArray := prog_1_method_8_code
def yX4_as : MethodName := ⟨RX4, "as", "(II)I"⟩
abbrev cX4_borrow : ByteArray := prog_1_method_9_code
def yX4_borrow : MethodName := ⟨RX4, "borrow", "(II)I"⟩
abbrev cX4_days : ByteArray := prog_1_method_10_code
def yX4_days : MethodName := ⟨RX4, "days", "(I)I"⟩
abbrev cX4_fire : ByteArray := prog_1_method_11_code
def yX4_fire : MethodName := ⟨RX4, "fire", "(I)I"⟩
abbrev cX4_sell : ByteArray := prog_1_method_12_code
def yX4_sell : MethodName := ⟨RX4, "sell", "(II)I"⟩
abbrev cX4_keep : ByteArray := prog_1_method_13_code
def yX4_keep : MethodName := ⟨RX4, "keep", "(I)I"⟩
abbrev cX4_back : ByteArray := prog_1_method_14_code
def yX4_back : MethodName := ⟨RX4, "back", "(I)I"⟩
abbrev cX4_later : ByteArray := prog_1_method_15_code
def yX4_later : MethodName := ⟨RX4, "later", "(II)I"⟩
abbrev cX4_all : ByteArray := prog_1_method_16_code
def yX4_all : MethodName := ⟨RX4, "all", "(II)I"⟩
abbrev cX4_clear : ByteArray := prog_1_method_17_code
def yX4_clear : MethodName := ⟨RX4, "clear", "()I"⟩
abbrev cX4_hut : ByteArray := prog_1_method_18_code
def yX4_hut : MethodName := ⟨RX4, "hut", "(III)I"⟩
abbrev cX4_enough : ByteArray := prog_1_method_19_code
def yX4_enough : MethodName := ⟨RX4, "enough", "(I)I"⟩
abbrev cX4_rid : ByteArray := prog_1_method_20_code
def yX4_rid : MethodName := ⟨RX4, "rid", "(II)I"⟩
abbrev cX4_grandson : ByteArray := prog_1_method_21_code
def yX4_grandson : MethodName := ⟨RX4, "grandson", "(I)I"⟩
abbrev cX4_toWhom : ByteArray := prog_1_method_22_code
def yX4_toWhom : MethodName := ⟨RX4, "toWhom", "(III)I"⟩
abbrev cX4_count : ByteArray := prog_1_method_23_code
def yX4_count : MethodName := ⟨RX4, "count", "(I)I"⟩
abbrev cX4_foretell : ByteArray := prog_1_method_24_code
def yX4_foretell : MethodName := ⟨RX4, "foretell", "(I)V"⟩
abbrev cX4_anyFails : ByteArray := prog_1_method_25_code
def yX4_anyFails : MethodName := ⟨RX4, "anyFails", "(II)Z"⟩
abbrev cX4_commonWithTen : ByteArray := prog_1_method_26_code
def yX4_commonWithTen : MethodName := ⟨RX4, "commonWithTen", "(I)I"⟩
def RX5 : String := "TreeDebtsModel"
def TX5 : u_T := fun k => match k with
  | 0 => ("TreeDebtsModel", "row", "[I", true)
  | 1 => ("TreeDebtsModel", "isKept", "[Z", true)
  | 2 => ("TreeDebtsModel", "text", "[I", true)
  | 3 => ("TreeDebtsModel", "length", "I", false)
  | 4 => ("TreeDebtsModel", "read", "[I", true)
  | 5 => ("TreeDebtsModel", "readMany", "I", false)
  | 6 => ("TreeDebtsModel", "kinds", "[I", true)
  | 7 => ("TreeDebtsModel", "rates", "[I", true)
  | 8 => ("TreeDebtsModel", "terms", "[I", true)
  | 9 => ("TreeDebtsModel", "parts", "[I", true)
  | 10 => ("TreeDebtsModel", "many", "I", false)
  | 11 => ("TreeDebtsModel", "quarrels", "[I", true)
  | 12 => ("TreeDebtsModel", "quarrelMany", "I", false)
  | 13 => ("TreeDebtsModel", "hands", "I", false)
  | 14 => ("TreeDebtsModel", "at", "I", false)
  | 15 => ("TreeDebtsModel", "place", "I", false)
  | 16 => ("TreeDebtsModel", "end", "I", false)
  | 17 => ("TreeDebtsModel", "readTrees", "I", false)
  | 18 => ("TreeDebtsModel", "readQuarrels", "I", false)
  | 19 => ("TreeDebtsModel", "prices", "[I", true)
  | _ => ("TreeDebtsModel", "leasts", "[I", true)
def tyX5 : Nat → FieldType := fun k => match k with
  | 0 => .array .int
  | 1 => .array .boolean
  | 2 => .array .int
  | 3 => .int
  | 4 => .array .int
  | 5 => .int
  | 6 => .array .int
  | 7 => .array .int
  | 8 => .array .int
  | 9 => .array .int
  | 10 => .int
  | 11 => .array .int
  | 12 => .int
  | 13 => .int
  | 14 => .int
  | 15 => .int
  | 16 => .int
  | 17 => .int
  | 18 => .int
  | 19 => .array .int
  | _ => .array .int
abbrev wsX50 : List Cond := u_ws RX5 TX5 21
theorem nmX5 : ∀ a, a < 21 → ∀ b, b < 21 → a ≠ b → (TX5 a).2.1 ≠ (TX5 b).2.1 := by decide +kernel
theorem tyX5_ok : ∀ k, k < 21 → parseFieldDescriptor (TX5 k).2.2.1 = some (tyX5 k) := by decide +kernel
abbrev cX5_init : ByteArray := prog_7_method_1_code
def yX5_init : MethodName := ⟨RX5, "<init>", "()V"⟩
abbrev cX5_in : ByteArray := prog_7_method_2_code
def yX5_in : MethodName := ⟨RX5, "in", "(JJJ)Z"⟩
abbrev cX5_copy : ByteArray := prog_7_method_3_code
def yX5_copy : MethodName := ⟨RX5, "copy", "(II)V"⟩
abbrev cX5_write : ByteArray := prog_7_method_4_code
def yX5_write : MethodName := ⟨RX5, "write", "(JI)I"⟩
abbrev cX5_erase : ByteArray := prog_7_method_5_code
def yX5_erase : MethodName := ⟨RX5, "erase", "()I"⟩
abbrev cX5_sort : ByteArray := prog_7_method_6_code
def yX5_sort : MethodName := ⟨RX5, "sort", "(I)I"⟩
abbrev cX5_token : ByteArray := prog_7_method_7_code
def yX5_token : MethodName := ⟨RX5, "token", "()V"⟩
abbrev cX5_isWord : ByteArray := prog_7_method_8_code
def yX5_isWord : MethodName := ⟨RX5, "isWord", "(III)Z"⟩
abbrev cX5_treeWord : ByteArray := prog_7_method_9_code
def yX5_treeWord : MethodName := ⟨RX5, "treeWord", "()I"⟩
abbrev cX5_wordOf : ByteArray := prog_7_method_10_code
def yX5_wordOf : MethodName := ⟨RX5, "wordOf", "()I"⟩
abbrev cX5_reads : ByteArray := prog_7_method_11_code
def yX5_reads : MethodName := ⟨RX5, "reads", "(IIII)Z"⟩
abbrev cX5_readsRest : ByteArray := prog_7_method_12_code
def yX5_readsRest : MethodName := ⟨RX5, "readsRest", "(I)Z"⟩
abbrev cX5_isTreeWord : ByteArray := prog_7_method_13_code
def yX5_isTreeWord : MethodName := ⟨RX5, "isTreeWord", "(I)Z"⟩
abbrev cX5_readsLine : ByteArray := prog_7_method_14_code
def yX5_readsLine : MethodName := ⟨RX5, "readsLine", "()Z"⟩
abbrev cX5_fault : ByteArray := prog_7_method_15_code
def yX5_fault : MethodName := ⟨RX5, "fault", "()I"⟩
abbrev cX5_tell : ByteArray := prog_7_method_16_code
def yX5_tell : MethodName := ⟨RX5, "tell", "(I)V"⟩
abbrev cX5_wood : ByteArray := prog_7_method_17_code
def yX5_wood : MethodName := ⟨RX5, "wood", "()I"⟩
abbrev cX5_isTree : ByteArray := prog_7_method_18_code
def yX5_isTree : MethodName := ⟨RX5, "isTree", "(I)Z"⟩
abbrev cX5_lives : ByteArray := prog_7_method_19_code
def yX5_lives : MethodName := ⟨RX5, "lives", "(I)Z"⟩
abbrev cX5_placeOf : ByteArray := prog_7_method_20_code
def yX5_placeOf : MethodName := ⟨RX5, "placeOf", "(III)I"⟩
abbrev cX5_owedTo : ByteArray := prog_7_method_21_code
def yX5_owedTo : MethodName := ⟨RX5, "owedTo", "(II)I"⟩
abbrev cX5_owedAll : ByteArray := prog_7_method_22_code
def yX5_owedAll : MethodName := ⟨RX5, "owedAll", "(I)I"⟩
abbrev cX5_isCross : ByteArray := prog_7_method_23_code
def yX5_isCross : MethodName := ⟨RX5, "isCross", "(I)Z"⟩
abbrev cX5_lends : ByteArray := prog_7_method_24_code
def yX5_lends : MethodName := ⟨RX5, "lends", "(I)Z"⟩
abbrev cX5_grown : ByteArray := prog_7_method_25_code
def yX5_grown : MethodName := ⟨RX5, "grown", "(III)I"⟩
abbrev cX5_remove : ByteArray := prog_7_method_26_code
def yX5_remove : MethodName := ⟨RX5, "remove", "(II)V"⟩
abbrev cX5_few : ByteArray := prog_7_method_27_code
def yX5_few : MethodName := ⟨RX5, "few", "(I)I"⟩
abbrev cX5_firstDue : ByteArray := prog_7_method_28_code
def yX5_firstDue : MethodName := ⟨RX5, "firstDue", "(I)I"⟩
abbrev cX5_work : ByteArray := prog_7_method_29_code
def yX5_work : MethodName := ⟨RX5, "work", "(II)V"⟩
abbrev cX5_day : ByteArray := prog_7_method_30_code
def yX5_day : MethodName := ⟨RX5, "day", "(II)V"⟩
abbrev cX5_tree : ByteArray := prog_7_method_31_code
def yX5_tree : MethodName := ⟨RX5, "tree", "(II)I"⟩
abbrev cX5_loan : ByteArray := prog_7_method_32_code
def yX5_loan : MethodName := ⟨RX5, "loan", "(II)I"⟩
abbrev cX5_as : ByteArray := prog_7_method_33_code
def yX5_as : MethodName := ⟨RX5, "as", "(II)I"⟩
abbrev cX5_borrow : ByteArray := prog_7_method_34_code
def yX5_borrow : MethodName := ⟨RX5, "borrow", "(II)I"⟩
abbrev cX5_days : ByteArray := prog_7_method_35_code
def yX5_days : MethodName := ⟨RX5, "days", "(I)I"⟩
abbrev cX5_burn : ByteArray := prog_7_method_36_code
def yX5_burn : MethodName := ⟨RX5, "burn", "(I)V"⟩
abbrev cX5_fire : ByteArray := prog_7_method_37_code
def yX5_fire : MethodName := ⟨RX5, "fire", "(I)I"⟩
abbrev cX5_sell : ByteArray := prog_7_method_38_code
def yX5_sell : MethodName := ⟨RX5, "sell", "(II)I"⟩
abbrev cX5_keep : ByteArray := prog_7_method_39_code
def yX5_keep : MethodName := ⟨RX5, "keep", "(I)I"⟩
abbrev cX5_back : ByteArray := prog_7_method_40_code
def yX5_back : MethodName := ⟨RX5, "back", "(I)I"⟩
abbrev cX5_tryDays : ByteArray := prog_7_method_41_code
def yX5_tryDays : MethodName := ⟨RX5, "tryDays", "(II)V"⟩
abbrev cX5_later : ByteArray := prog_7_method_42_code
def yX5_later : MethodName := ⟨RX5, "later", "(II)I"⟩
abbrev cX5_all : ByteArray := prog_7_method_43_code
def yX5_all : MethodName := ⟨RX5, "all", "(II)I"⟩
abbrev cX5_clear : ByteArray := prog_7_method_44_code
def yX5_clear : MethodName := ⟨RX5, "clear", "()I"⟩
abbrev cX5_owedFor : ByteArray := prog_7_method_45_code
def yX5_owedFor : MethodName := ⟨RX5, "owedFor", "(III)I"⟩
abbrev cX5_layPrices : ByteArray := prog_7_method_46_code
def yX5_layPrices : MethodName := ⟨RX5, "layPrices", "(I)V"⟩
abbrev cX5_by : ByteArray := prog_7_method_47_code
def yX5_by : MethodName := ⟨RX5, "by", "(III)I"⟩
abbrev cX5_layLeasts : ByteArray := prog_7_method_48_code
def yX5_layLeasts : MethodName := ⟨RX5, "layLeasts", "()V"⟩
abbrev cX5_hut : ByteArray := prog_7_method_49_code
def yX5_hut : MethodName := ⟨RX5, "hut", "(III)I"⟩
abbrev cX5_enough : ByteArray := prog_7_method_50_code
def yX5_enough : MethodName := ⟨RX5, "enough", "(I)I"⟩
abbrev cX5_rid : ByteArray := prog_7_method_51_code
def yX5_rid : MethodName := ⟨RX5, "rid", "(II)I"⟩
abbrev cX5_grandson : ByteArray := prog_7_method_52_code
def yX5_grandson : MethodName := ⟨RX5, "grandson", "(I)I"⟩
abbrev cX5_toWhom : ByteArray := prog_7_method_53_code
def yX5_toWhom : MethodName := ⟨RX5, "toWhom", "(III)I"⟩
abbrev cX5_count : ByteArray := prog_7_method_54_code
def yX5_count : MethodName := ⟨RX5, "count", "(I)I"⟩
def RJ6 : String := "java/lang/Integer"
def TJ6 : u_T := fun k => match k with
  | _ => ("", "", "", false)
def tyJ6 : Nat → FieldType := fun k => match k with
  | _ => .int
abbrev wsJ60 : List Cond := u_ws RJ6 TJ6 0
theorem nmJ6 : ∀ a, a < 0 → ∀ b, b < 0 → a ≠ b → (TJ6 a).2.1 ≠ (TJ6 b).2.1 := by decide +kernel
theorem tyJ6_ok : ∀ k, k < 0 → parseFieldDescriptor (TJ6 k).2.2.1 = some (tyJ6 k) := by decide +kernel
abbrev cJ6_bitCount_0f7a4 : ByteArray := prog_8_method_49_code
def yJ6_bitCount_0f7a4 : MethodName := ⟨RJ6, "bitCount", "(I)I"⟩
def RJ9 : String := "java/lang/Math"
def TJ9 : u_T := fun k => match k with
  | _ => ("", "", "", false)
def tyJ9 : Nat → FieldType := fun k => match k with
  | _ => .int
abbrev wsJ90 : List Cond := u_ws RJ9 TJ9 0
theorem nmJ9 : ∀ a, a < 0 → ∀ b, b < 0 → a ≠ b → (TJ9 a).2.1 ≠ (TJ9 b).2.1 := by decide +kernel
theorem tyJ9_ok : ∀ k, k < 0 → parseFieldDescriptor (TJ9 k).2.2.1 = some (tyJ9 k) := by decide +kernel
abbrev cJ9_min_7cf53 : ByteArray := prog_9_method_69_code
def yJ9_min_7cf53 : MethodName := ⟨RJ9, "min", "(II)I"⟩
def RJ0 : String := "java/lang/String"
def TJ0 : u_T := fun k => match k with
  | _ => ("", "", "", false)
def tyJ0 : Nat → FieldType := fun k => match k with
  | _ => .int
abbrev wsJ00 : List Cond := u_ws RJ0 TJ0 0
theorem nmJ0 : ∀ a, a < 0 → ∀ b, b < 0 → a ≠ b → (TJ0 a).2.1 ≠ (TJ0 b).2.1 := by decide +kernel
theorem tyJ0_ok : ∀ k, k < 0 → parseFieldDescriptor (TJ0 k).2.2.1 = some (tyJ0 k) := by decide +kernel
abbrev cJ0_length_8abf5 : ByteArray := prog_10_method_54_code
def yJ0_length_8abf5 : MethodName := ⟨RJ0, "length", "()I"⟩
abbrev cJ0_charAt_5068e : ByteArray := prog_10_method_56_code
def yJ0_charAt_5068e : MethodName := ⟨RJ0, "charAt", "(I)C"⟩
abbrev cJ0_coder_7d493 : ByteArray := prog_10_method_152_code
def yJ0_coder_7d493 : MethodName := ⟨RJ0, "coder", "()B"⟩
abbrev cJ0_isLatin1_aae02 : ByteArray := prog_10_method_154_code
def yJ0_isLatin1_aae02 : MethodName := ⟨RJ0, "isLatin1", "()Z"⟩
abbrev cJ0_checkIndex_df160 : ByteArray := prog_10_method_155_code
def yJ0_checkIndex_df160 : MethodName := ⟨RJ0, "checkIndex", "(II)V"⟩
def RJ1 : String := "java/lang/StringLatin1"
def TJ1 : u_T := fun k => match k with
  | _ => ("", "", "", false)
def tyJ1 : Nat → FieldType := fun k => match k with
  | _ => .int
abbrev wsJ10 : List Cond := u_ws RJ1 TJ1 0
theorem nmJ1 : ∀ a, a < 0 → ∀ b, b < 0 → a ≠ b → (TJ1 a).2.1 ≠ (TJ1 b).2.1 := by decide +kernel
theorem tyJ1_ok : ∀ k, k < 0 → parseFieldDescriptor (TJ1 k).2.2.1 = some (tyJ1 k) := by decide +kernel
abbrev cJ1_charAt_3b067 : ByteArray := prog_11_method_2_code
def yJ1_charAt_3b067 : MethodName := ⟨RJ1, "charAt", "([BI)C"⟩
def RJ2 : String := "java/lang/StringUTF16"
def TJ2 : u_T := fun k => match k with
  | _ => ("", "", "", false)
def tyJ2 : Nat → FieldType := fun k => match k with
  | _ => .int
abbrev wsJ20 : List Cond := u_ws RJ2 TJ2 0
theorem nmJ2 : ∀ a, a < 0 → ∀ b, b < 0 → a ≠ b → (TJ2 a).2.1 ≠ (TJ2 b).2.1 := by decide +kernel
theorem tyJ2_ok : ∀ k, k < 0 → parseFieldDescriptor (TJ2 k).2.2.1 = some (tyJ2 k) := by decide +kernel
abbrev cJ2_getChar_3b067 : ByteArray := prog_12_method_5_code
def yJ2_getChar_3b067 : MethodName := ⟨RJ2, "getChar", "([BI)C"⟩
abbrev cJ2_length_9d52b : ByteArray := prog_12_method_6_code
def yJ2_length_9d52b : MethodName := ⟨RJ2, "length", "([B)I"⟩
abbrev cJ2_charAt_3b067 : ByteArray := prog_12_method_83_code
def yJ2_charAt_3b067 : MethodName := ⟨RJ2, "charAt", "([BI)C"⟩
abbrev cJ2_checkIndex_2214a : ByteArray := prog_12_method_91_code
def yJ2_checkIndex_2214a : MethodName := ⟨RJ2, "checkIndex", "(I[B)V"⟩
def RJ10 : String := "java/lang/System"
def TJ10 : u_T := fun k => match k with
  | _ => ("", "", "", false)
def tyJ10 : Nat → FieldType := fun k => match k with
  | _ => .int
abbrev wsJ100 : List Cond := u_ws RJ10 TJ10 0
theorem nmJ10 : ∀ a, a < 0 → ∀ b, b < 0 → a ≠ b → (TJ10 a).2.1 ≠ (TJ10 b).2.1 := by decide +kernel
theorem tyJ10_ok : ∀ k, k < 0 → parseFieldDescriptor (TJ10 k).2.2.1 = some (tyJ10 k) := by decide +kernel
def RJ3 : String := "jdk/internal/util/Preconditions"
def TJ3 : u_T := fun k => match k with
  | _ => ("", "", "", false)
def tyJ3 : Nat → FieldType := fun k => match k with
  | _ => .int
abbrev wsJ30 : List Cond := u_ws RJ3 TJ3 0
theorem nmJ3 : ∀ a, a < 0 → ∀ b, b < 0 → a ≠ b → (TJ3 a).2.1 ≠ (TJ3 b).2.1 := by decide +kernel
theorem tyJ3_ok : ∀ k, k < 0 → parseFieldDescriptor (TJ3 k).2.2.1 = some (tyJ3 k) := by decide +kernel
abbrev cJ3_checkIndex_8e157 : ByteArray := prog_14_method_11_code
def yJ3_checkIndex_8e157 : MethodName := ⟨RJ3, "checkIndex", "(IILjava/util/function/BiFunction;)I"⟩
def RL : String := "TreeDebtsLaw"
abbrev cL_law : ByteArray := code
def yL_law : MethodName := ⟨RL, "law", "([I)Z"⟩
def wsX0_init : List Cond := .code yX0_init cX0_init 1 none :: ([.methodLink RX0 3 objectInit, .instanceMethod objectInit, .code objectInit ⟨#[0xb1]⟩ 1 none, .classLink RX0 9 "[[I", .arrayClass .int, .fieldLink RX0 11 "TreeDebts$HutPlan" "least" "[[I", .fieldLink RX0 16 "TreeDebts$HutPlan" "choice" "[[I", .fieldLink RX0 19 "TreeDebts$HutPlan" "costs" "[I", .fieldLink RX0 23 "TreeDebts$HutPlan" "from" "[I"] ++ wsX00)
def wsX1_owedTo : List Cond := .code yX1_owedTo cX1_owedTo 4 (some .int) :: ([.fieldLink RX1 37 "TreeDebts$State" "loans" "I", .fieldLink RX1 18 "TreeDebts$State" "lenders" "[I", .fieldLink RX1 24 "TreeDebts$State" "owed" "[I"] ++ wsX10)
def wsX1_isCross : List Cond := .code yX1_isCross cX1_isCross 5 (some .boolean) :: ([.fieldLink RX1 56 "TreeDebts$Told" "quarrels" "I", .fieldLink RX1 59 "TreeDebts$Told" "ones" "[I", .fieldLink RX1 62 "TreeDebts$Told" "others" "[I", .methodLink RX1 52 yX1_owedTo, .instanceMethod yX1_owedTo, .selects RX1 yX1_owedTo yX1_owedTo, .initialized RX1, .code yX1_owedTo cX1_owedTo 4 (some .int), .fieldLink RX1 37 "TreeDebts$State" "loans" "I", .fieldLink RX1 18 "TreeDebts$State" "lenders" "[I", .fieldLink RX1 24 "TreeDebts$State" "owed" "[I"] ++ wsX30 ++ wsX10)
def wsX1_lends : List Cond := .code yX1_lends cX1_lends 3 (some .boolean) :: ([.fieldLink RX1 15 "TreeDebts$State" "fates" "[I", .methodLink RX1 65 yX1_isCross, .instanceMethod yX1_isCross, .selects RX1 yX1_isCross yX1_isCross, .initialized RX1, .code yX1_isCross cX1_isCross 5 (some .boolean), .fieldLink RX1 56 "TreeDebts$Told" "quarrels" "I", .fieldLink RX1 59 "TreeDebts$Told" "ones" "[I", .fieldLink RX1 62 "TreeDebts$Told" "others" "[I", .methodLink RX1 52 yX1_owedTo, .instanceMethod yX1_owedTo, .selects RX1 yX1_owedTo yX1_owedTo, .code yX1_owedTo cX1_owedTo 4 (some .int), .fieldLink RX1 37 "TreeDebts$State" "loans" "I", .fieldLink RX1 18 "TreeDebts$State" "lenders" "[I", .fieldLink RX1 24 "TreeDebts$State" "owed" "[I"] ++ wsX10 ++ wsX30)
def wsX3_grownOnce : List Cond := .code yX3_grownOnce cX3_grownOnce 6 (some .int) :: ([.fieldLink RX3 18 "TreeDebts$Told" "rates" "[I", .fieldLink RX3 9 "TreeDebts$Told" "kinds" "[I", .constant RX3 52 (1000000), .methodLink RX3 53 Lib.Math.min.name, .static Lib.Math.min.name, .initialized "java/lang/Math", .code Lib.Math.min.name Lib.Math.min.code 2 (some .int)] ++ wsX30)
def wsX3_grownIn : List Cond := .code yX3_grownIn cX3_grownIn 6 (some .int) :: ([.methodLink RX3 59 yX3_grownOnce, .instanceMethod yX3_grownOnce, .selects RX3 yX3_grownOnce yX3_grownOnce, .initialized RX3, .code yX3_grownOnce cX3_grownOnce 6 (some .int), .fieldLink RX3 18 "TreeDebts$Told" "rates" "[I", .fieldLink RX3 9 "TreeDebts$Told" "kinds" "[I", .constant RX3 52 (1000000), .methodLink RX3 53 Lib.Math.min.name, .static Lib.Math.min.name, .initialized "java/lang/Math", .code Lib.Math.min.name Lib.Math.min.code 2 (some .int)] ++ wsX30)
def wsX0_chooseFrom : List Cond := .code yX0_chooseFrom cX0_chooseFrom 8 none :: ([.constant RX0 35 (100000000), .fieldLink RX0 19 "TreeDebts$HutPlan" "costs" "[I", .fieldLink RX0 11 "TreeDebts$HutPlan" "least" "[[I", .fieldLink RX0 16 "TreeDebts$HutPlan" "choice" "[[I"] ++ wsX00)
def wsX0_owedTogether : List Cond := .code yX0_owedTogether cX0_owedTogether 1 (some .int) :: ([.fieldLink RX0 11 "TreeDebts$HutPlan" "least" "[[I", .fieldLink RX0 26 "TreeDebts$HutPlan" "hutBranches" "I"] ++ wsX00)
def wsX0_followChoices : List Cond := .code yX0_followChoices cX0_followChoices 4 none :: ([.fieldLink RX0 26 "TreeDebts$HutPlan" "hutBranches" "I", .fieldLink RX0 23 "TreeDebts$HutPlan" "from" "[I", .fieldLink RX0 16 "TreeDebts$HutPlan" "choice" "[[I"] ++ wsX00)
def wsX0_find_r1 : List Cond := [Cond.fieldLink RX0 26 "TreeDebts$HutPlan" "hutBranches" "I", Cond.fieldLink RX0 11 "TreeDebts$HutPlan" "least" "[[I", Cond.fieldLink RX0 30 "TreeDebts$Told" "trees" "I", Cond.constant RX0 35 (100000000), Cond.fieldLink RX0 42 "TreeDebts$State" "branches" "[I", Cond.methodLink RX0 45 Lib.Math.min.name, Cond.static Lib.Math.min.name, Cond.initialized "java/lang/Math", Cond.code Lib.Math.min.name Lib.Math.min.code 2 (some .int), Cond.fieldLink RX0 19 "TreeDebts$HutPlan" "costs" "[I", Cond.methodLink RX0 36 yX1_lends, Cond.instanceMethod yX1_lends, Cond.selects RX1 yX1_lends yX1_lends, Cond.initialized RX1, Cond.code yX1_lends cX1_lends 3 (some .boolean), Cond.fieldLink RX1 15 "TreeDebts$State" "fates" "[I", Cond.methodLink RX1 65 yX1_isCross, Cond.instanceMethod yX1_isCross, Cond.selects RX1 yX1_isCross yX1_isCross, Cond.code yX1_isCross cX1_isCross 5 (some .boolean), Cond.fieldLink RX1 56 "TreeDebts$Told" "quarrels" "I", Cond.fieldLink RX1 59 "TreeDebts$Told" "ones" "[I", Cond.fieldLink RX1 62 "TreeDebts$Told" "others" "[I", Cond.methodLink RX1 52 yX1_owedTo]
def wsX0_find_r2 : List Cond := [Cond.instanceMethod yX1_owedTo, Cond.selects RX1 yX1_owedTo yX1_owedTo, Cond.code yX1_owedTo cX1_owedTo 4 (some .int), Cond.fieldLink RX1 37 "TreeDebts$State" "loans" "I", Cond.fieldLink RX1 18 "TreeDebts$State" "lenders" "[I", Cond.fieldLink RX1 24 "TreeDebts$State" "owed" "[I", Cond.methodLink RX0 51 yX3_grownIn, Cond.instanceMethod yX3_grownIn, Cond.selects RX3 yX3_grownIn yX3_grownIn, Cond.initialized RX3, Cond.code yX3_grownIn cX3_grownIn 6 (some .int), Cond.methodLink RX3 59 yX3_grownOnce, Cond.instanceMethod yX3_grownOnce, Cond.selects RX3 yX3_grownOnce yX3_grownOnce, Cond.code yX3_grownOnce cX3_grownOnce 6 (some .int), Cond.fieldLink RX3 18 "TreeDebts$Told" "rates" "[I", Cond.fieldLink RX3 9 "TreeDebts$Told" "kinds" "[I", Cond.constant RX3 52 (1000000), Cond.methodLink RX3 53 Lib.Math.min.name, Cond.methodLink RX0 55 yX0_chooseFrom, Cond.instanceMethod yX0_chooseFrom, Cond.selects RX0 yX0_chooseFrom yX0_chooseFrom, Cond.initialized RX0, Cond.code yX0_chooseFrom cX0_chooseFrom 8 none]
def wsX0_find_r3 : List Cond := [Cond.fieldLink RX0 16 "TreeDebts$HutPlan" "choice" "[[I", Cond.methodLink RX0 59 yX0_owedTogether, Cond.instanceMethod yX0_owedTogether, Cond.selects RX0 yX0_owedTogether yX0_owedTogether, Cond.code yX0_owedTogether cX0_owedTogether 1 (some .int), Cond.methodLink RX0 63 yX0_followChoices, Cond.instanceMethod yX0_followChoices, Cond.selects RX0 yX0_followChoices yX0_followChoices, Cond.code yX0_followChoices cX0_followChoices 4 none, Cond.fieldLink RX0 23 "TreeDebts$HutPlan" "from" "[I"]
def wsX0_find : List Cond := .code yX0_find cX0_find 8 (some .boolean) :: ((wsX0_find_r1 ++ (wsX0_find_r2 ++ wsX0_find_r3)) ++ wsX00 ++ wsX30 ++ wsX10)
def wsX1_init : List Cond := .code yX1_init cX1_init 1 none :: ([.methodLink RX1 3 objectInit, .instanceMethod objectInit, .code objectInit ⟨#[0xb1]⟩ 1 none, .arrayClass .int, .fieldLink RX1 9 "TreeDebts$State" "branches" "[I", .fieldLink RX1 15 "TreeDebts$State" "fates" "[I", .fieldLink RX1 18 "TreeDebts$State" "lenders" "[I", .fieldLink RX1 21 "TreeDebts$State" "lent" "[I", .fieldLink RX1 24 "TreeDebts$State" "owed" "[I", .fieldLink RX1 27 "TreeDebts$State" "dues" "[I", .fieldLink RX1 30 "TreeDebts$State" "failed" "[I"] ++ wsX10)
def wsX1_begin : List Cond := .code yX1_begin cX1_begin 3 none :: ([.fieldLink RX1 33 "TreeDebts$State" "day" "I", .fieldLink RX1 37 "TreeDebts$State" "loans" "I", .fieldLink RX1 40 "TreeDebts$State" "failures" "I", .fieldLink RX1 9 "TreeDebts$State" "branches" "[I", .fieldLink RX1 43 "TreeDebts$Told" "branches" "[I", .fieldLink RX1 15 "TreeDebts$State" "fates" "[I"] ++ wsX10 ++ wsX30)
def wsX1_copyFrom : List Cond := .code yX1_copyFrom cX1_copyFrom 2 none :: ([.fieldLink RX1 33 "TreeDebts$State" "day" "I", .fieldLink RX1 9 "TreeDebts$State" "branches" "[I", .methodLink RX1 46 arraycopyName, .native arraycopyName, .static arraycopyName, .initialized "java/lang/System", .fieldLink RX1 15 "TreeDebts$State" "fates" "[I", .fieldLink RX1 37 "TreeDebts$State" "loans" "I", .fieldLink RX1 18 "TreeDebts$State" "lenders" "[I", .fieldLink RX1 21 "TreeDebts$State" "lent" "[I", .fieldLink RX1 24 "TreeDebts$State" "owed" "[I", .fieldLink RX1 27 "TreeDebts$State" "dues" "[I", .fieldLink RX1 30 "TreeDebts$State" "failed" "[I", .fieldLink RX1 40 "TreeDebts$State" "failures" "I"] ++ wsX10)
def wsX1_owedInAll : List Cond := .code yX1_owedInAll cX1_owedInAll 3 (some .int) :: ([.fieldLink RX1 37 "TreeDebts$State" "loans" "I", .fieldLink RX1 24 "TreeDebts$State" "owed" "[I"] ++ wsX10)
def wsX3_dueOf : List Cond := .code yX3_dueOf cX3_dueOf 3 (some .int) :: ([.fieldLink RX3 9 "TreeDebts$Told" "kinds" "[I", .fieldLink RX3 21 "TreeDebts$Told" "terms" "[I"] ++ wsX30)
def wsX1_lend : List Cond := .code yX1_lend cX1_lend 5 (some .int) :: ([.fieldLink RX1 37 "TreeDebts$State" "loans" "I", .fieldLink RX1 18 "TreeDebts$State" "lenders" "[I", .fieldLink RX1 21 "TreeDebts$State" "lent" "[I", .fieldLink RX1 24 "TreeDebts$State" "owed" "[I", .fieldLink RX1 27 "TreeDebts$State" "dues" "[I", .fieldLink RX1 33 "TreeDebts$State" "day" "I", .fieldLink RX1 30 "TreeDebts$State" "failed" "[I", .fieldLink RX1 9 "TreeDebts$State" "branches" "[I", .methodLink RX1 69 yX3_dueOf, .instanceMethod yX3_dueOf, .selects RX3 yX3_dueOf yX3_dueOf, .initialized RX3, .code yX3_dueOf cX3_dueOf 3 (some .int), .fieldLink RX3 9 "TreeDebts$Told" "kinds" "[I", .fieldLink RX3 21 "TreeDebts$Told" "terms" "[I"] ++ wsX10 ++ wsX30)
def wsX1_addBranches : List Cond := .code yX1_addBranches cX1_addBranches 3 none :: ([.fieldLink RX1 9 "TreeDebts$State" "branches" "[I", .methodLink RX1 73 Lib.Math.min.name, .static Lib.Math.min.name, .initialized "java/lang/Math", .code Lib.Math.min.name Lib.Math.min.code 2 (some .int)] ++ wsX10)
def wsX1_growLoans : List Cond := .code yX1_growLoans cX1_growLoans 3 none :: ([.fieldLink RX1 37 "TreeDebts$State" "loans" "I", .fieldLink RX1 24 "TreeDebts$State" "owed" "[I", .fieldLink RX1 18 "TreeDebts$State" "lenders" "[I", .fieldLink RX1 21 "TreeDebts$State" "lent" "[I", .methodLink RX1 89 yX3_grownOnce, .instanceMethod yX3_grownOnce, .selects RX3 yX3_grownOnce yX3_grownOnce, .initialized RX3, .code yX3_grownOnce cX3_grownOnce 6 (some .int), .fieldLink RX3 18 "TreeDebts$Told" "rates" "[I", .fieldLink RX3 9 "TreeDebts$Told" "kinds" "[I", .constant RX3 52 (1000000), .methodLink RX3 53 Lib.Math.min.name, .static Lib.Math.min.name, .initialized "java/lang/Math", .code Lib.Math.min.name Lib.Math.min.code 2 (some .int)] ++ wsX10 ++ wsX30)
def wsX1_firstDue : List Cond := .code yX1_firstDue cX1_firstDue 3 (some .int) :: ([.fieldLink RX1 37 "TreeDebts$State" "loans" "I", .fieldLink RX1 27 "TreeDebts$State" "dues" "[I"] ++ wsX10)
def wsX1_removeLoan : List Cond := .code yX1_removeLoan cX1_removeLoan 3 none :: ([.fieldLink RX1 37 "TreeDebts$State" "loans" "I", .fieldLink RX1 18 "TreeDebts$State" "lenders" "[I", .fieldLink RX1 21 "TreeDebts$State" "lent" "[I", .fieldLink RX1 24 "TreeDebts$State" "owed" "[I", .fieldLink RX1 27 "TreeDebts$State" "dues" "[I", .fieldLink RX1 30 "TreeDebts$State" "failed" "[I"] ++ wsX10)
def wsX1_workOff : List Cond := .code yX1_workOff cX1_workOff 6 none :: ([.fieldLink RX1 37 "TreeDebts$State" "loans" "I", .fieldLink RX1 24 "TreeDebts$State" "owed" "[I", .methodLink RX1 73 Lib.Math.min.name, .static Lib.Math.min.name, .initialized "java/lang/Math", .code Lib.Math.min.name Lib.Math.min.code 2 (some .int), .fieldLink RX1 18 "TreeDebts$State" "lenders" "[I", .fieldLink RX1 21 "TreeDebts$State" "lent" "[I", .methodLink RX1 93 yX1_firstDue, .instanceMethod yX1_firstDue, .selects RX1 yX1_firstDue yX1_firstDue, .initialized RX1, .code yX1_firstDue cX1_firstDue 3 (some .int), .fieldLink RX1 27 "TreeDebts$State" "dues" "[I", .methodLink RX1 97 yX1_addBranches, .instanceMethod yX1_addBranches, .selects RX1 yX1_addBranches yX1_addBranches, .code yX1_addBranches cX1_addBranches 3 none, .fieldLink RX1 9 "TreeDebts$State" "branches" "[I", .methodLink RX1 101 yX1_removeLoan, .instanceMethod yX1_removeLoan, .selects RX1 yX1_removeLoan yX1_removeLoan, .code yX1_removeLoan cX1_removeLoan 3 none, .fieldLink RX1 30 "TreeDebts$State" "failed" "[I"] ++ wsX10)
def wsX1_failDueLoans : List Cond := .code yX1_failDueLoans cX1_failDueLoans 2 none :: ([.fieldLink RX1 37 "TreeDebts$State" "loans" "I", .fieldLink RX1 27 "TreeDebts$State" "dues" "[I", .fieldLink RX1 33 "TreeDebts$State" "day" "I", .fieldLink RX1 30 "TreeDebts$State" "failed" "[I", .fieldLink RX1 40 "TreeDebts$State" "failures" "I"] ++ wsX10)
def wsX1_passDays_r1 : List Cond := [Cond.fieldLink RX1 33 "TreeDebts$State" "day" "I", Cond.methodLink RX1 78 yX1_growLoans, Cond.instanceMethod yX1_growLoans, Cond.selects RX1 yX1_growLoans yX1_growLoans, Cond.initialized RX1, Cond.code yX1_growLoans cX1_growLoans 3 none, Cond.fieldLink RX1 37 "TreeDebts$State" "loans" "I", Cond.fieldLink RX1 24 "TreeDebts$State" "owed" "[I", Cond.fieldLink RX1 18 "TreeDebts$State" "lenders" "[I", Cond.fieldLink RX1 21 "TreeDebts$State" "lent" "[I", Cond.methodLink RX1 89 yX3_grownOnce, Cond.instanceMethod yX3_grownOnce, Cond.selects RX3 yX3_grownOnce yX3_grownOnce, Cond.initialized RX3, Cond.code yX3_grownOnce cX3_grownOnce 6 (some .int), Cond.fieldLink RX3 18 "TreeDebts$Told" "rates" "[I", Cond.fieldLink RX3 9 "TreeDebts$Told" "kinds" "[I", Cond.constant RX3 52 (1000000), Cond.methodLink RX3 53 Lib.Math.min.name, Cond.static Lib.Math.min.name, Cond.initialized "java/lang/Math", Cond.code Lib.Math.min.name Lib.Math.min.code 2 (some .int), Cond.methodLink RX1 82 yX1_workOff, Cond.instanceMethod yX1_workOff]
def wsX1_passDays_r2 : List Cond := [Cond.selects RX1 yX1_workOff yX1_workOff, Cond.code yX1_workOff cX1_workOff 6 none, Cond.methodLink RX1 73 Lib.Math.min.name, Cond.methodLink RX1 93 yX1_firstDue, Cond.instanceMethod yX1_firstDue, Cond.selects RX1 yX1_firstDue yX1_firstDue, Cond.code yX1_firstDue cX1_firstDue 3 (some .int), Cond.fieldLink RX1 27 "TreeDebts$State" "dues" "[I", Cond.methodLink RX1 97 yX1_addBranches, Cond.instanceMethod yX1_addBranches, Cond.selects RX1 yX1_addBranches yX1_addBranches, Cond.code yX1_addBranches cX1_addBranches 3 none, Cond.fieldLink RX1 9 "TreeDebts$State" "branches" "[I", Cond.methodLink RX1 101 yX1_removeLoan, Cond.instanceMethod yX1_removeLoan, Cond.selects RX1 yX1_removeLoan yX1_removeLoan, Cond.code yX1_removeLoan cX1_removeLoan 3 none, Cond.fieldLink RX1 30 "TreeDebts$State" "failed" "[I", Cond.methodLink RX1 86 yX1_failDueLoans, Cond.instanceMethod yX1_failDueLoans, Cond.selects RX1 yX1_failDueLoans yX1_failDueLoans, Cond.code yX1_failDueLoans cX1_failDueLoans 2 none, Cond.fieldLink RX1 40 "TreeDebts$State" "failures" "I"]
def wsX1_passDays : List Cond := .code yX1_passDays cX1_passDays 5 none :: ((wsX1_passDays_r1 ++ wsX1_passDays_r2) ++ wsX10 ++ wsX30)
def wsX1_removeLoansOf : List Cond := .code yX1_removeLoansOf cX1_removeLoansOf 3 none :: ([.fieldLink RX1 37 "TreeDebts$State" "loans" "I", .fieldLink RX1 18 "TreeDebts$State" "lenders" "[I", .methodLink RX1 101 yX1_removeLoan, .instanceMethod yX1_removeLoan, .selects RX1 yX1_removeLoan yX1_removeLoan, .initialized RX1, .code yX1_removeLoan cX1_removeLoan 3 none, .fieldLink RX1 21 "TreeDebts$State" "lent" "[I", .fieldLink RX1 24 "TreeDebts$State" "owed" "[I", .fieldLink RX1 27 "TreeDebts$State" "dues" "[I", .fieldLink RX1 30 "TreeDebts$State" "failed" "[I"] ++ wsX10)
def wsX1_burn : List Cond := .code yX1_burn cX1_burn 5 (some .int) :: ([.fieldLink RX1 104 "TreeDebts$Told" "trees" "I", .fieldLink RX1 107 "TreeDebts$Told" "parts" "[I", .fieldLink RX1 15 "TreeDebts$State" "fates" "[I", .methodLink RX1 110 yX1_removeLoansOf, .instanceMethod yX1_removeLoansOf, .selects RX1 yX1_removeLoansOf yX1_removeLoansOf, .initialized RX1, .code yX1_removeLoansOf cX1_removeLoansOf 3 none, .fieldLink RX1 37 "TreeDebts$State" "loans" "I", .fieldLink RX1 18 "TreeDebts$State" "lenders" "[I", .methodLink RX1 101 yX1_removeLoan, .instanceMethod yX1_removeLoan, .selects RX1 yX1_removeLoan yX1_removeLoan, .code yX1_removeLoan cX1_removeLoan 3 none, .fieldLink RX1 21 "TreeDebts$State" "lent" "[I", .fieldLink RX1 24 "TreeDebts$State" "owed" "[I", .fieldLink RX1 27 "TreeDebts$State" "dues" "[I", .fieldLink RX1 30 "TreeDebts$State" "failed" "[I"] ++ wsX30 ++ wsX10)
def wsX1_handOver : List Cond := .code yX1_handOver cX1_handOver 5 (some .int) :: ([.fieldLink RX1 37 "TreeDebts$State" "loans" "I", .fieldLink RX1 18 "TreeDebts$State" "lenders" "[I", .fieldLink RX1 9 "TreeDebts$State" "branches" "[I", .fieldLink RX1 15 "TreeDebts$State" "fates" "[I", .methodLink RX1 97 yX1_addBranches, .instanceMethod yX1_addBranches, .selects RX1 yX1_addBranches yX1_addBranches, .initialized RX1, .code yX1_addBranches cX1_addBranches 3 none, .methodLink RX1 73 Lib.Math.min.name, .static Lib.Math.min.name, .initialized "java/lang/Math", .code Lib.Math.min.name Lib.Math.min.code 2 (some .int)] ++ wsX10)
def wsJ6_bitCount_0f7a4 : List Cond := .code yJ6_bitCount_0f7a4 cJ6_bitCount_0f7a4 1 (some .int) :: ([.constant RJ6 265 (1431655765), .constant RJ6 266 (858993459), .constant RJ6 267 (252645135)])
def wsX1_partsWithLoans : List Cond := .code yX1_partsWithLoans cX1_partsWithLoans 4 (some .int) :: ([.fieldLink RX1 37 "TreeDebts$State" "loans" "I", .fieldLink RX1 107 "TreeDebts$Told" "parts" "[I", .fieldLink RX1 18 "TreeDebts$State" "lenders" "[I", .methodLink RX1 113 yJ6_bitCount_0f7a4, .static yJ6_bitCount_0f7a4, .initialized RJ6, .code yJ6_bitCount_0f7a4 cJ6_bitCount_0f7a4 1 (some .int), .constant RJ6 265 (1431655765), .constant RJ6 266 (858993459), .constant RJ6 267 (252645135)] ++ wsX10 ++ wsX30)
def wsX3_init : List Cond := .code yX3_init cX3_init 1 none :: ([.methodLink RX3 3 objectInit, .instanceMethod objectInit, .code objectInit ⟨#[0xb1]⟩ 1 none, .arrayClass .int, .fieldLink RX3 9 "TreeDebts$Told" "kinds" "[I", .fieldLink RX3 15 "TreeDebts$Told" "branches" "[I", .fieldLink RX3 18 "TreeDebts$Told" "rates" "[I", .fieldLink RX3 21 "TreeDebts$Told" "terms" "[I", .fieldLink RX3 24 "TreeDebts$Told" "parts" "[I", .fieldLink RX3 27 "TreeDebts$Told" "ones" "[I", .fieldLink RX3 30 "TreeDebts$Told" "others" "[I", .fieldLink RX3 33 "TreeDebts$Told" "hands" "I"] ++ wsX30)
def wsX2_init : List Cond := .code yX2_init cX2_init 1 none :: ([.methodLink RX2 3 objectInit, .instanceMethod objectInit, .code objectInit ⟨#[0xb1]⟩ 1 none, .arrayClass .int, .fieldLink RX2 9 "TreeDebts$Text" "bytes" "[I", .classLink RX2 15 RX3, .instantiable RX3 10, .initialized RX3, .fieldLink RX2 18 "TreeDebts$Text" "draft" "LTreeDebts$Told;", .instanceMethod yX3_init, .code yX3_init cX3_init 1 none, .methodLink RX3 3 objectInit, .fieldLink RX3 9 "TreeDebts$Told" "kinds" "[I", .fieldLink RX3 15 "TreeDebts$Told" "branches" "[I", .fieldLink RX3 18 "TreeDebts$Told" "rates" "[I", .fieldLink RX3 21 "TreeDebts$Told" "terms" "[I", .fieldLink RX3 24 "TreeDebts$Told" "parts" "[I", .fieldLink RX3 27 "TreeDebts$Told" "ones" "[I", .fieldLink RX3 30 "TreeDebts$Told" "others" "[I", .fieldLink RX3 33 "TreeDebts$Told" "hands" "I"] ++ wsX20 ++ wsX30)
def wsX2_add : List Cond := .code yX2_add cX2_add 2 none :: ([.fieldLink RX2 22 "TreeDebts$Text" "length" "I", .fieldLink RX2 9 "TreeDebts$Text" "bytes" "[I"] ++ wsX20)
def wsX3_copyFrom : List Cond := .code yX3_copyFrom cX3_copyFrom 2 none :: ([.fieldLink RX3 37 "TreeDebts$Told" "trees" "I", .fieldLink RX3 9 "TreeDebts$Told" "kinds" "[I", .methodLink RX3 43 arraycopyName, .native arraycopyName, .static arraycopyName, .initialized "java/lang/System", .fieldLink RX3 15 "TreeDebts$Told" "branches" "[I", .fieldLink RX3 18 "TreeDebts$Told" "rates" "[I", .fieldLink RX3 21 "TreeDebts$Told" "terms" "[I", .fieldLink RX3 24 "TreeDebts$Told" "parts" "[I", .fieldLink RX3 40 "TreeDebts$Told" "quarrels" "I", .fieldLink RX3 27 "TreeDebts$Told" "ones" "[I", .fieldLink RX3 30 "TreeDebts$Told" "others" "[I", .fieldLink RX3 33 "TreeDebts$Told" "hands" "I"] ++ wsX30)
def wsX2_isLetter : List Cond := .code yX2_isLetter cX2_isLetter 1 (some .boolean) :: ([])
def wsX2_isDigit : List Cond := .code yX2_isDigit cX2_isDigit 1 (some .boolean) :: ([])
def wsX2_readDigits : List Cond := .code yX2_readDigits cX2_readDigits 1 none :: ([.fieldLink RX2 108 "TreeDebts$Text" "value" "I", .fieldLink RX2 33 "TreeDebts$Text" "end" "I", .fieldLink RX2 22 "TreeDebts$Text" "length" "I", .fieldLink RX2 9 "TreeDebts$Text" "bytes" "[I", .methodLink RX2 120 yX2_isDigit, .static yX2_isDigit, .initialized RX2, .code yX2_isDigit cX2_isDigit 1 (some .boolean)] ++ wsX20)
def wsX2_nextToken : List Cond := .code yX2_nextToken cX2_nextToken 1 none :: ([.fieldLink RX2 33 "TreeDebts$Text" "end" "I", .fieldLink RX2 43 "TreeDebts$Text" "start" "I", .fieldLink RX2 22 "TreeDebts$Text" "length" "I", .fieldLink RX2 9 "TreeDebts$Text" "bytes" "[I", .fieldLink RX2 46 "TreeDebts$Text" "token" "I", .methodLink RX2 117 yX2_isLetter, .static yX2_isLetter, .initialized RX2, .code yX2_isLetter cX2_isLetter 1 (some .boolean), .methodLink RX2 120 yX2_isDigit, .static yX2_isDigit, .code yX2_isDigit cX2_isDigit 1 (some .boolean), .methodLink RX2 123 yX2_readDigits, .instanceMethod yX2_readDigits, .selects RX2 yX2_readDigits yX2_readDigits, .code yX2_readDigits cX2_readDigits 1 none, .fieldLink RX2 108 "TreeDebts$Text" "value" "I"] ++ wsX20)
def wsJ0_coder_7d493 : List Cond := .code yJ0_coder_7d493 cJ0_coder_7d493 1 (some .byte) :: ([.fieldLink RJ0 38 "java/lang/String" "COMPACT_STRINGS" "Z", .fieldLink RJ0 15 "java/lang/String" "coder" "B"])
def wsJ0_length_8abf5 : List Cond := .code yJ0_length_8abf5 cJ0_length_8abf5 1 (some .int) :: ([.fieldLink RJ0 9 "java/lang/String" "value" "[B", .methodLink RJ0 335 yJ0_coder_7d493, .instanceMethod yJ0_coder_7d493, .selects RJ0 yJ0_coder_7d493 yJ0_coder_7d493, .initialized RJ0, .code yJ0_coder_7d493 cJ0_coder_7d493 1 (some .byte), .fieldLink RJ0 38 "java/lang/String" "COMPACT_STRINGS" "Z", .fieldLink RJ0 15 "java/lang/String" "coder" "B"])
def wsJ0_isLatin1_aae02 : List Cond := .code yJ0_isLatin1_aae02 cJ0_isLatin1_aae02 1 (some .boolean) :: ([.fieldLink RJ0 38 "java/lang/String" "COMPACT_STRINGS" "Z", .fieldLink RJ0 15 "java/lang/String" "coder" "B"])
def wsJ3_checkIndex_8e157 : List Cond := .code yJ3_checkIndex_8e157 cJ3_checkIndex_8e157 3 (some .int) :: ([])
def wsJ0_checkIndex_df160 : List Cond := .code yJ0_checkIndex_df160 cJ0_checkIndex_df160 2 none :: ([.fieldLink RJ0 1053 "jdk/internal/util/Preconditions" "SIOOBE_FORMATTER" "Ljava/util/function/BiFunction;", .methodLink RJ0 1059 yJ3_checkIndex_8e157, .static yJ3_checkIndex_8e157, .initialized RJ3, .code yJ3_checkIndex_8e157 cJ3_checkIndex_8e157 3 (some .int)])
def wsJ1_charAt_3b067 : List Cond := .code yJ1_charAt_3b067 cJ1_charAt_3b067 2 (some .char) :: ([.methodLink RJ1 9 yJ0_checkIndex_df160, .static yJ0_checkIndex_df160, .initialized RJ0, .code yJ0_checkIndex_df160 cJ0_checkIndex_df160 2 none, .fieldLink RJ0 1053 "jdk/internal/util/Preconditions" "SIOOBE_FORMATTER" "Ljava/util/function/BiFunction;", .methodLink RJ0 1059 yJ3_checkIndex_8e157, .static yJ3_checkIndex_8e157, .initialized RJ3, .code yJ3_checkIndex_8e157 cJ3_checkIndex_8e157 3 (some .int)])
def wsJ2_length_9d52b : List Cond := .code yJ2_length_9d52b cJ2_length_9d52b 1 (some .int) :: ([])
def wsJ2_checkIndex_2214a : List Cond := .code yJ2_checkIndex_2214a cJ2_checkIndex_2214a 2 none :: ([.methodLink RJ2 48 yJ2_length_9d52b, .static yJ2_length_9d52b, .initialized RJ2, .code yJ2_length_9d52b cJ2_length_9d52b 1 (some .int), .methodLink RJ2 414 yJ0_checkIndex_df160, .static yJ0_checkIndex_df160, .initialized RJ0, .code yJ0_checkIndex_df160 cJ0_checkIndex_df160 2 none, .fieldLink RJ0 1053 "jdk/internal/util/Preconditions" "SIOOBE_FORMATTER" "Ljava/util/function/BiFunction;", .methodLink RJ0 1059 yJ3_checkIndex_8e157, .static yJ3_checkIndex_8e157, .initialized RJ3, .code yJ3_checkIndex_8e157 cJ3_checkIndex_8e157 3 (some .int)])
def wsJ2_getChar_3b067 : List Cond := .code yJ2_getChar_3b067 cJ2_getChar_3b067 2 (some .char) :: ([.fieldLink RJ2 44 "java/lang/StringUTF16" "$assertionsDisabled" "Z", .fieldLink RJ2 59 "java/lang/StringUTF16" "HI_BYTE_SHIFT" "I", .fieldLink RJ2 63 "java/lang/StringUTF16" "LO_BYTE_SHIFT" "I", .methodLink RJ2 48 yJ2_length_9d52b, .static yJ2_length_9d52b, .initialized RJ2, .code yJ2_length_9d52b cJ2_length_9d52b 1 (some .int)])
def wsJ2_charAt_3b067 : List Cond := .code yJ2_charAt_3b067 cJ2_charAt_3b067 2 (some .char) :: ([.methodLink RJ2 67 yJ2_checkIndex_2214a, .static yJ2_checkIndex_2214a, .initialized RJ2, .code yJ2_checkIndex_2214a cJ2_checkIndex_2214a 2 none, .methodLink RJ2 48 yJ2_length_9d52b, .static yJ2_length_9d52b, .code yJ2_length_9d52b cJ2_length_9d52b 1 (some .int), .methodLink RJ2 414 yJ0_checkIndex_df160, .static yJ0_checkIndex_df160, .initialized RJ0, .code yJ0_checkIndex_df160 cJ0_checkIndex_df160 2 none, .fieldLink RJ0 1053 "jdk/internal/util/Preconditions" "SIOOBE_FORMATTER" "Ljava/util/function/BiFunction;", .methodLink RJ0 1059 yJ3_checkIndex_8e157, .static yJ3_checkIndex_8e157, .initialized RJ3, .code yJ3_checkIndex_8e157 cJ3_checkIndex_8e157 3 (some .int), .methodLink RJ2 71 yJ2_getChar_3b067, .static yJ2_getChar_3b067, .code yJ2_getChar_3b067 cJ2_getChar_3b067 2 (some .char), .fieldLink RJ2 44 "java/lang/StringUTF16" "$assertionsDisabled" "Z", .fieldLink RJ2 59 "java/lang/StringUTF16" "HI_BYTE_SHIFT" "I", .fieldLink RJ2 63 "java/lang/StringUTF16" "LO_BYTE_SHIFT" "I"])
def wsJ0_charAt_5068e_r1 : List Cond := [Cond.fieldLink RJ0 9 "java/lang/String" "value" "[B", Cond.methodLink RJ0 492 yJ0_isLatin1_aae02, Cond.instanceMethod yJ0_isLatin1_aae02, Cond.selects RJ0 yJ0_isLatin1_aae02 yJ0_isLatin1_aae02, Cond.initialized RJ0, Cond.code yJ0_isLatin1_aae02 cJ0_isLatin1_aae02 1 (some .boolean), Cond.fieldLink RJ0 38 "java/lang/String" "COMPACT_STRINGS" "Z", Cond.fieldLink RJ0 15 "java/lang/String" "coder" "B", Cond.methodLink RJ0 495 yJ1_charAt_3b067, Cond.static yJ1_charAt_3b067, Cond.initialized RJ1, Cond.code yJ1_charAt_3b067 cJ1_charAt_3b067 2 (some .char), Cond.methodLink RJ1 9 yJ0_checkIndex_df160, Cond.static yJ0_checkIndex_df160, Cond.code yJ0_checkIndex_df160 cJ0_checkIndex_df160 2 none, Cond.fieldLink RJ0 1053 "jdk/internal/util/Preconditions" "SIOOBE_FORMATTER" "Ljava/util/function/BiFunction;", Cond.methodLink RJ0 1059 yJ3_checkIndex_8e157, Cond.static yJ3_checkIndex_8e157, Cond.initialized RJ3, Cond.code yJ3_checkIndex_8e157 cJ3_checkIndex_8e157 3 (some .int), Cond.methodLink RJ0 498 yJ2_charAt_3b067, Cond.static yJ2_charAt_3b067, Cond.initialized RJ2, Cond.code yJ2_charAt_3b067 cJ2_charAt_3b067 2 (some .char)]
def wsJ0_charAt_5068e_r2 : List Cond := [Cond.methodLink RJ2 67 yJ2_checkIndex_2214a, Cond.static yJ2_checkIndex_2214a, Cond.code yJ2_checkIndex_2214a cJ2_checkIndex_2214a 2 none, Cond.methodLink RJ2 48 yJ2_length_9d52b, Cond.static yJ2_length_9d52b, Cond.code yJ2_length_9d52b cJ2_length_9d52b 1 (some .int), Cond.methodLink RJ2 414 yJ0_checkIndex_df160, Cond.methodLink RJ2 71 yJ2_getChar_3b067, Cond.static yJ2_getChar_3b067, Cond.code yJ2_getChar_3b067 cJ2_getChar_3b067 2 (some .char), Cond.fieldLink RJ2 44 "java/lang/StringUTF16" "$assertionsDisabled" "Z", Cond.fieldLink RJ2 59 "java/lang/StringUTF16" "HI_BYTE_SHIFT" "I", Cond.fieldLink RJ2 63 "java/lang/StringUTF16" "LO_BYTE_SHIFT" "I"]
def wsJ0_charAt_5068e : List Cond := .code yJ0_charAt_5068e cJ0_charAt_5068e 2 (some .char) :: ((wsJ0_charAt_5068e_r1 ++ wsJ0_charAt_5068e_r2))
def wsX2_isWord_r1 : List Cond := [Cond.fieldLink RX2 33 "TreeDebts$Text" "end" "I", Cond.fieldLink RX2 43 "TreeDebts$Text" "start" "I", Cond.fieldLink RX2 9 "TreeDebts$Text" "bytes" "[I", Cond.methodLink RX2 126 yJ0_length_8abf5, Cond.instanceMethod yJ0_length_8abf5, Cond.selects RJ0 yJ0_length_8abf5 yJ0_length_8abf5, Cond.initialized RJ0, Cond.code yJ0_length_8abf5 cJ0_length_8abf5 1 (some .int), Cond.fieldLink RJ0 9 "java/lang/String" "value" "[B", Cond.methodLink RJ0 335 yJ0_coder_7d493, Cond.instanceMethod yJ0_coder_7d493, Cond.selects RJ0 yJ0_coder_7d493 yJ0_coder_7d493, Cond.code yJ0_coder_7d493 cJ0_coder_7d493 1 (some .byte), Cond.fieldLink RJ0 38 "java/lang/String" "COMPACT_STRINGS" "Z", Cond.fieldLink RJ0 15 "java/lang/String" "coder" "B", Cond.methodLink RX2 131 yJ0_charAt_5068e, Cond.instanceMethod yJ0_charAt_5068e, Cond.selects RJ0 yJ0_charAt_5068e yJ0_charAt_5068e, Cond.code yJ0_charAt_5068e cJ0_charAt_5068e 2 (some .char), Cond.methodLink RJ0 492 yJ0_isLatin1_aae02, Cond.instanceMethod yJ0_isLatin1_aae02, Cond.selects RJ0 yJ0_isLatin1_aae02 yJ0_isLatin1_aae02, Cond.code yJ0_isLatin1_aae02 cJ0_isLatin1_aae02 1 (some .boolean), Cond.methodLink RJ0 495 yJ1_charAt_3b067]
def wsX2_isWord_r2 : List Cond := [Cond.static yJ1_charAt_3b067, Cond.initialized RJ1, Cond.code yJ1_charAt_3b067 cJ1_charAt_3b067 2 (some .char), Cond.methodLink RJ1 9 yJ0_checkIndex_df160, Cond.static yJ0_checkIndex_df160, Cond.code yJ0_checkIndex_df160 cJ0_checkIndex_df160 2 none, Cond.fieldLink RJ0 1053 "jdk/internal/util/Preconditions" "SIOOBE_FORMATTER" "Ljava/util/function/BiFunction;", Cond.methodLink RJ0 1059 yJ3_checkIndex_8e157, Cond.static yJ3_checkIndex_8e157, Cond.initialized RJ3, Cond.code yJ3_checkIndex_8e157 cJ3_checkIndex_8e157 3 (some .int), Cond.methodLink RJ0 498 yJ2_charAt_3b067, Cond.static yJ2_charAt_3b067, Cond.initialized RJ2, Cond.code yJ2_charAt_3b067 cJ2_charAt_3b067 2 (some .char), Cond.methodLink RJ2 67 yJ2_checkIndex_2214a, Cond.static yJ2_checkIndex_2214a, Cond.code yJ2_checkIndex_2214a cJ2_checkIndex_2214a 2 none, Cond.methodLink RJ2 48 yJ2_length_9d52b, Cond.static yJ2_length_9d52b, Cond.code yJ2_length_9d52b cJ2_length_9d52b 1 (some .int), Cond.methodLink RJ2 414 yJ0_checkIndex_df160, Cond.methodLink RJ2 71 yJ2_getChar_3b067, Cond.static yJ2_getChar_3b067]
def wsX2_isWord_r3 : List Cond := [Cond.code yJ2_getChar_3b067 cJ2_getChar_3b067 2 (some .char), Cond.fieldLink RJ2 44 "java/lang/StringUTF16" "$assertionsDisabled" "Z", Cond.fieldLink RJ2 59 "java/lang/StringUTF16" "HI_BYTE_SHIFT" "I", Cond.fieldLink RJ2 63 "java/lang/StringUTF16" "LO_BYTE_SHIFT" "I"]
def wsX2_isWord : List Cond := .code yX2_isWord cX2_isWord 3 (some .boolean) :: ((wsX2_isWord_r1 ++ (wsX2_isWord_r2 ++ wsX2_isWord_r3)) ++ wsX20)
def wsX3_forget : List Cond := .code yX3_forget cX3_forget 1 none :: ([.fieldLink RX3 37 "TreeDebts$Told" "trees" "I", .fieldLink RX3 40 "TreeDebts$Told" "quarrels" "I", .fieldLink RX3 33 "TreeDebts$Told" "hands" "I"] ++ wsX30)
def wsX2_readWood_r1 : List Cond := [Cond.fieldLink RX2 18 "TreeDebts$Text" "draft" "LTreeDebts$Told;", Cond.methodLink RX2 88 yX3_forget, Cond.instanceMethod yX3_forget, Cond.selects RX3 yX3_forget yX3_forget, Cond.initialized RX3, Cond.code yX3_forget cX3_forget 1 none, Cond.fieldLink RX3 37 "TreeDebts$Told" "trees" "I", Cond.fieldLink RX3 40 "TreeDebts$Told" "quarrels" "I", Cond.fieldLink RX3 33 "TreeDebts$Told" "hands" "I", Cond.methodLink RX2 36 yX2_nextToken, Cond.instanceMethod yX2_nextToken, Cond.selects RX2 yX2_nextToken yX2_nextToken, Cond.initialized RX2, Cond.code yX2_nextToken cX2_nextToken 1 none, Cond.fieldLink RX2 33 "TreeDebts$Text" "end" "I", Cond.fieldLink RX2 43 "TreeDebts$Text" "start" "I", Cond.fieldLink RX2 22 "TreeDebts$Text" "length" "I", Cond.fieldLink RX2 9 "TreeDebts$Text" "bytes" "[I", Cond.fieldLink RX2 46 "TreeDebts$Text" "token" "I", Cond.methodLink RX2 117 yX2_isLetter, Cond.static yX2_isLetter, Cond.code yX2_isLetter cX2_isLetter 1 (some .boolean), Cond.methodLink RX2 120 yX2_isDigit, Cond.static yX2_isDigit]
def wsX2_readWood_r2 : List Cond := [Cond.code yX2_isDigit cX2_isDigit 1 (some .boolean), Cond.methodLink RX2 123 yX2_readDigits, Cond.instanceMethod yX2_readDigits, Cond.selects RX2 yX2_readDigits yX2_readDigits, Cond.code yX2_readDigits cX2_readDigits 1 none, Cond.fieldLink RX2 108 "TreeDebts$Text" "value" "I"]
def wsX2_readWood : List Cond := .code yX2_readWood cX2_readWood 1 (some .boolean) :: ((wsX2_readWood_r1 ++ wsX2_readWood_r2) ++ wsX20 ++ wsX30)
def wsX2_readNumber : List Cond := .code yX2_readNumber cX2_readNumber 4 (some .int) :: ([.fieldLink RX2 46 "TreeDebts$Text" "token" "I", .fieldLink RX2 33 "TreeDebts$Text" "end" "I", .fieldLink RX2 43 "TreeDebts$Text" "start" "I", .fieldLink RX2 108 "TreeDebts$Text" "value" "I", .methodLink RX2 36 yX2_nextToken, .instanceMethod yX2_nextToken, .selects RX2 yX2_nextToken yX2_nextToken, .initialized RX2, .code yX2_nextToken cX2_nextToken 1 none, .fieldLink RX2 22 "TreeDebts$Text" "length" "I", .fieldLink RX2 9 "TreeDebts$Text" "bytes" "[I", .methodLink RX2 117 yX2_isLetter, .static yX2_isLetter, .code yX2_isLetter cX2_isLetter 1 (some .boolean), .methodLink RX2 120 yX2_isDigit, .static yX2_isDigit, .code yX2_isDigit cX2_isDigit 1 (some .boolean), .methodLink RX2 123 yX2_readDigits, .instanceMethod yX2_readDigits, .selects RX2 yX2_readDigits yX2_readDigits, .code yX2_readDigits cX2_readDigits 1 none] ++ wsX20)
def wsX3_addTree : List Cond := .code yX3_addTree cX3_addTree 5 none :: ([.fieldLink RX3 37 "TreeDebts$Told" "trees" "I", .fieldLink RX3 9 "TreeDebts$Told" "kinds" "[I", .fieldLink RX3 15 "TreeDebts$Told" "branches" "[I", .fieldLink RX3 18 "TreeDebts$Told" "rates" "[I", .fieldLink RX3 21 "TreeDebts$Told" "terms" "[I", .fieldLink RX3 24 "TreeDebts$Told" "parts" "[I"] ++ wsX30)
def wsX2_readTree_r1 : List Cond := [Cond.fieldLink RX2 18 "TreeDebts$Text" "draft" "LTreeDebts$Told;", Cond.fieldLink RX2 91 "TreeDebts$Told" "trees" "I", Cond.methodLink RX2 36 yX2_nextToken, Cond.instanceMethod yX2_nextToken, Cond.selects RX2 yX2_nextToken yX2_nextToken, Cond.initialized RX2, Cond.code yX2_nextToken cX2_nextToken 1 none, Cond.fieldLink RX2 33 "TreeDebts$Text" "end" "I", Cond.fieldLink RX2 43 "TreeDebts$Text" "start" "I", Cond.fieldLink RX2 22 "TreeDebts$Text" "length" "I", Cond.fieldLink RX2 9 "TreeDebts$Text" "bytes" "[I", Cond.fieldLink RX2 46 "TreeDebts$Text" "token" "I", Cond.methodLink RX2 117 yX2_isLetter, Cond.static yX2_isLetter, Cond.code yX2_isLetter cX2_isLetter 1 (some .boolean), Cond.methodLink RX2 120 yX2_isDigit, Cond.static yX2_isDigit, Cond.code yX2_isDigit cX2_isDigit 1 (some .boolean), Cond.methodLink RX2 123 yX2_readDigits, Cond.instanceMethod yX2_readDigits, Cond.selects RX2 yX2_readDigits yX2_readDigits, Cond.code yX2_readDigits cX2_readDigits 1 none, Cond.fieldLink RX2 108 "TreeDebts$Text" "value" "I", Cond.methodLink RX2 94 yX2_readNumber]
def wsX2_readTree_r2 : List Cond := [Cond.instanceMethod yX2_readNumber, Cond.selects RX2 yX2_readNumber yX2_readNumber, Cond.code yX2_readNumber cX2_readNumber 4 (some .int), Cond.methodLink RX2 98 yX3_addTree, Cond.instanceMethod yX3_addTree, Cond.selects RX3 yX3_addTree yX3_addTree, Cond.initialized RX3, Cond.code yX3_addTree cX3_addTree 5 none, Cond.fieldLink RX3 37 "TreeDebts$Told" "trees" "I", Cond.fieldLink RX3 9 "TreeDebts$Told" "kinds" "[I", Cond.fieldLink RX3 15 "TreeDebts$Told" "branches" "[I", Cond.fieldLink RX3 18 "TreeDebts$Told" "rates" "[I", Cond.fieldLink RX3 21 "TreeDebts$Told" "terms" "[I", Cond.fieldLink RX3 24 "TreeDebts$Told" "parts" "[I"]
def wsX2_readTree : List Cond := .code yX2_readTree cX2_readTree 5 (some .boolean) :: ((wsX2_readTree_r1 ++ wsX2_readTree_r2) ++ wsX20 ++ wsX30)
def wsX2_readPart_r1 : List Cond := [Cond.fieldLink RX2 18 "TreeDebts$Text" "draft" "LTreeDebts$Told;", Cond.fieldLink RX2 91 "TreeDebts$Told" "trees" "I", Cond.fieldLink RX2 102 "TreeDebts$Told" "parts" "[I", Cond.methodLink RX2 36 yX2_nextToken, Cond.instanceMethod yX2_nextToken, Cond.selects RX2 yX2_nextToken yX2_nextToken, Cond.initialized RX2, Cond.code yX2_nextToken cX2_nextToken 1 none, Cond.fieldLink RX2 33 "TreeDebts$Text" "end" "I", Cond.fieldLink RX2 43 "TreeDebts$Text" "start" "I", Cond.fieldLink RX2 22 "TreeDebts$Text" "length" "I", Cond.fieldLink RX2 9 "TreeDebts$Text" "bytes" "[I", Cond.fieldLink RX2 46 "TreeDebts$Text" "token" "I", Cond.methodLink RX2 117 yX2_isLetter, Cond.static yX2_isLetter, Cond.code yX2_isLetter cX2_isLetter 1 (some .boolean), Cond.methodLink RX2 120 yX2_isDigit, Cond.static yX2_isDigit, Cond.code yX2_isDigit cX2_isDigit 1 (some .boolean), Cond.methodLink RX2 123 yX2_readDigits, Cond.instanceMethod yX2_readDigits, Cond.selects RX2 yX2_readDigits yX2_readDigits, Cond.code yX2_readDigits cX2_readDigits 1 none, Cond.fieldLink RX2 108 "TreeDebts$Text" "value" "I"]
def wsX2_readPart_r2 : List Cond := [Cond.methodLink RX2 94 yX2_readNumber, Cond.instanceMethod yX2_readNumber, Cond.selects RX2 yX2_readNumber yX2_readNumber, Cond.code yX2_readNumber cX2_readNumber 4 (some .int)]
def wsX2_readPart : List Cond := .code yX2_readPart cX2_readPart 3 (some .boolean) :: ((wsX2_readPart_r1 ++ wsX2_readPart_r2) ++ wsX20 ++ wsX30)
def wsX3_addQuarrel : List Cond := .code yX3_addQuarrel cX3_addQuarrel 3 none :: ([.fieldLink RX3 40 "TreeDebts$Told" "quarrels" "I", .fieldLink RX3 27 "TreeDebts$Told" "ones" "[I", .fieldLink RX3 30 "TreeDebts$Told" "others" "[I"] ++ wsX30)
def wsX2_readQuarrel_r1 : List Cond := [Cond.fieldLink RX2 18 "TreeDebts$Text" "draft" "LTreeDebts$Told;", Cond.fieldLink RX2 105 "TreeDebts$Told" "quarrels" "I", Cond.fieldLink RX2 91 "TreeDebts$Told" "trees" "I", Cond.fieldLink RX2 46 "TreeDebts$Text" "token" "I", Cond.fieldLink RX2 108 "TreeDebts$Text" "value" "I", Cond.methodLink RX2 36 yX2_nextToken, Cond.instanceMethod yX2_nextToken, Cond.selects RX2 yX2_nextToken yX2_nextToken, Cond.initialized RX2, Cond.code yX2_nextToken cX2_nextToken 1 none, Cond.fieldLink RX2 33 "TreeDebts$Text" "end" "I", Cond.fieldLink RX2 43 "TreeDebts$Text" "start" "I", Cond.fieldLink RX2 22 "TreeDebts$Text" "length" "I", Cond.fieldLink RX2 9 "TreeDebts$Text" "bytes" "[I", Cond.methodLink RX2 117 yX2_isLetter, Cond.static yX2_isLetter, Cond.code yX2_isLetter cX2_isLetter 1 (some .boolean), Cond.methodLink RX2 120 yX2_isDigit, Cond.static yX2_isDigit, Cond.code yX2_isDigit cX2_isDigit 1 (some .boolean), Cond.methodLink RX2 123 yX2_readDigits, Cond.instanceMethod yX2_readDigits, Cond.selects RX2 yX2_readDigits yX2_readDigits, Cond.code yX2_readDigits cX2_readDigits 1 none]
def wsX2_readQuarrel_r2 : List Cond := [Cond.methodLink RX2 94 yX2_readNumber, Cond.instanceMethod yX2_readNumber, Cond.selects RX2 yX2_readNumber yX2_readNumber, Cond.code yX2_readNumber cX2_readNumber 4 (some .int), Cond.methodLink RX2 111 yX3_addQuarrel, Cond.instanceMethod yX3_addQuarrel, Cond.selects RX3 yX3_addQuarrel yX3_addQuarrel, Cond.initialized RX3, Cond.code yX3_addQuarrel cX3_addQuarrel 3 none, Cond.fieldLink RX3 40 "TreeDebts$Told" "quarrels" "I", Cond.fieldLink RX3 27 "TreeDebts$Told" "ones" "[I", Cond.fieldLink RX3 30 "TreeDebts$Told" "others" "[I"]
def wsX2_readQuarrel : List Cond := .code yX2_readQuarrel cX2_readQuarrel 3 (some .boolean) :: ((wsX2_readQuarrel_r1 ++ wsX2_readQuarrel_r2) ++ wsX20 ++ wsX30)
def wsX2_readHands_r1 : List Cond := [Cond.fieldLink RX2 18 "TreeDebts$Text" "draft" "LTreeDebts$Told;", Cond.fieldLink RX2 115 "TreeDebts$Told" "hands" "I", Cond.methodLink RX2 36 yX2_nextToken, Cond.instanceMethod yX2_nextToken, Cond.selects RX2 yX2_nextToken yX2_nextToken, Cond.initialized RX2, Cond.code yX2_nextToken cX2_nextToken 1 none, Cond.fieldLink RX2 33 "TreeDebts$Text" "end" "I", Cond.fieldLink RX2 43 "TreeDebts$Text" "start" "I", Cond.fieldLink RX2 22 "TreeDebts$Text" "length" "I", Cond.fieldLink RX2 9 "TreeDebts$Text" "bytes" "[I", Cond.fieldLink RX2 46 "TreeDebts$Text" "token" "I", Cond.methodLink RX2 117 yX2_isLetter, Cond.static yX2_isLetter, Cond.code yX2_isLetter cX2_isLetter 1 (some .boolean), Cond.methodLink RX2 120 yX2_isDigit, Cond.static yX2_isDigit, Cond.code yX2_isDigit cX2_isDigit 1 (some .boolean), Cond.methodLink RX2 123 yX2_readDigits, Cond.instanceMethod yX2_readDigits, Cond.selects RX2 yX2_readDigits yX2_readDigits, Cond.code yX2_readDigits cX2_readDigits 1 none, Cond.fieldLink RX2 108 "TreeDebts$Text" "value" "I", Cond.methodLink RX2 94 yX2_readNumber]
def wsX2_readHands_r2 : List Cond := [Cond.instanceMethod yX2_readNumber, Cond.selects RX2 yX2_readNumber yX2_readNumber, Cond.code yX2_readNumber cX2_readNumber 4 (some .int)]
def wsX2_readHands : List Cond := .code yX2_readHands cX2_readHands 2 (some .boolean) :: ((wsX2_readHands_r1 ++ wsX2_readHands_r2) ++ wsX20 ++ wsX30)
def wsX2_readLine_r1 : List Cond := [Cond.fieldLink RX2 46 "TreeDebts$Text" "token" "I", Cond.methodLink RX2 54 yX2_isWord, Cond.instanceMethod yX2_isWord, Cond.selects RX2 yX2_isWord yX2_isWord, Cond.initialized RX2, Cond.code yX2_isWord cX2_isWord 3 (some .boolean), Cond.fieldLink RX2 33 "TreeDebts$Text" "end" "I", Cond.fieldLink RX2 43 "TreeDebts$Text" "start" "I", Cond.fieldLink RX2 9 "TreeDebts$Text" "bytes" "[I", Cond.methodLink RX2 126 yJ0_length_8abf5, Cond.instanceMethod yJ0_length_8abf5, Cond.selects RJ0 yJ0_length_8abf5 yJ0_length_8abf5, Cond.initialized RJ0, Cond.code yJ0_length_8abf5 cJ0_length_8abf5 1 (some .int), Cond.fieldLink RJ0 9 "java/lang/String" "value" "[B", Cond.methodLink RJ0 335 yJ0_coder_7d493, Cond.instanceMethod yJ0_coder_7d493, Cond.selects RJ0 yJ0_coder_7d493 yJ0_coder_7d493, Cond.code yJ0_coder_7d493 cJ0_coder_7d493 1 (some .byte), Cond.fieldLink RJ0 38 "java/lang/String" "COMPACT_STRINGS" "Z", Cond.fieldLink RJ0 15 "java/lang/String" "coder" "B", Cond.methodLink RX2 131 yJ0_charAt_5068e, Cond.instanceMethod yJ0_charAt_5068e, Cond.selects RJ0 yJ0_charAt_5068e yJ0_charAt_5068e]
def wsX2_readLine_r2 : List Cond := [Cond.code yJ0_charAt_5068e cJ0_charAt_5068e 2 (some .char), Cond.methodLink RJ0 492 yJ0_isLatin1_aae02, Cond.instanceMethod yJ0_isLatin1_aae02, Cond.selects RJ0 yJ0_isLatin1_aae02 yJ0_isLatin1_aae02, Cond.code yJ0_isLatin1_aae02 cJ0_isLatin1_aae02 1 (some .boolean), Cond.methodLink RJ0 495 yJ1_charAt_3b067, Cond.static yJ1_charAt_3b067, Cond.initialized RJ1, Cond.code yJ1_charAt_3b067 cJ1_charAt_3b067 2 (some .char), Cond.methodLink RJ1 9 yJ0_checkIndex_df160, Cond.static yJ0_checkIndex_df160, Cond.code yJ0_checkIndex_df160 cJ0_checkIndex_df160 2 none, Cond.fieldLink RJ0 1053 "jdk/internal/util/Preconditions" "SIOOBE_FORMATTER" "Ljava/util/function/BiFunction;", Cond.methodLink RJ0 1059 yJ3_checkIndex_8e157, Cond.static yJ3_checkIndex_8e157, Cond.initialized RJ3, Cond.code yJ3_checkIndex_8e157 cJ3_checkIndex_8e157 3 (some .int), Cond.methodLink RJ0 498 yJ2_charAt_3b067, Cond.static yJ2_charAt_3b067, Cond.initialized RJ2, Cond.code yJ2_charAt_3b067 cJ2_charAt_3b067 2 (some .char), Cond.methodLink RJ2 67 yJ2_checkIndex_2214a, Cond.static yJ2_checkIndex_2214a, Cond.code yJ2_checkIndex_2214a cJ2_checkIndex_2214a 2 none]
def wsX2_readLine_r3 : List Cond := [Cond.methodLink RJ2 48 yJ2_length_9d52b, Cond.static yJ2_length_9d52b, Cond.code yJ2_length_9d52b cJ2_length_9d52b 1 (some .int), Cond.methodLink RJ2 414 yJ0_checkIndex_df160, Cond.methodLink RJ2 71 yJ2_getChar_3b067, Cond.static yJ2_getChar_3b067, Cond.code yJ2_getChar_3b067 cJ2_getChar_3b067 2 (some .char), Cond.fieldLink RJ2 44 "java/lang/StringUTF16" "$assertionsDisabled" "Z", Cond.fieldLink RJ2 59 "java/lang/StringUTF16" "HI_BYTE_SHIFT" "I", Cond.fieldLink RJ2 63 "java/lang/StringUTF16" "LO_BYTE_SHIFT" "I", Cond.methodLink RX2 58 yX2_readWood, Cond.instanceMethod yX2_readWood, Cond.selects RX2 yX2_readWood yX2_readWood, Cond.code yX2_readWood cX2_readWood 1 (some .boolean), Cond.fieldLink RX2 18 "TreeDebts$Text" "draft" "LTreeDebts$Told;", Cond.methodLink RX2 88 yX3_forget, Cond.instanceMethod yX3_forget, Cond.selects RX3 yX3_forget yX3_forget, Cond.initialized RX3, Cond.code yX3_forget cX3_forget 1 none, Cond.fieldLink RX3 37 "TreeDebts$Told" "trees" "I", Cond.fieldLink RX3 40 "TreeDebts$Told" "quarrels" "I", Cond.fieldLink RX3 33 "TreeDebts$Told" "hands" "I", Cond.methodLink RX2 36 yX2_nextToken]
def wsX2_readLine_r4 : List Cond := [Cond.instanceMethod yX2_nextToken, Cond.selects RX2 yX2_nextToken yX2_nextToken, Cond.code yX2_nextToken cX2_nextToken 1 none, Cond.fieldLink RX2 22 "TreeDebts$Text" "length" "I", Cond.methodLink RX2 117 yX2_isLetter, Cond.static yX2_isLetter, Cond.code yX2_isLetter cX2_isLetter 1 (some .boolean), Cond.methodLink RX2 120 yX2_isDigit, Cond.static yX2_isDigit, Cond.code yX2_isDigit cX2_isDigit 1 (some .boolean), Cond.methodLink RX2 123 yX2_readDigits, Cond.instanceMethod yX2_readDigits, Cond.selects RX2 yX2_readDigits yX2_readDigits, Cond.code yX2_readDigits cX2_readDigits 1 none, Cond.fieldLink RX2 108 "TreeDebts$Text" "value" "I", Cond.methodLink RX2 63 yX2_readTree, Cond.instanceMethod yX2_readTree, Cond.selects RX2 yX2_readTree yX2_readTree, Cond.code yX2_readTree cX2_readTree 5 (some .boolean), Cond.fieldLink RX2 91 "TreeDebts$Told" "trees" "I", Cond.methodLink RX2 94 yX2_readNumber, Cond.instanceMethod yX2_readNumber, Cond.selects RX2 yX2_readNumber yX2_readNumber, Cond.code yX2_readNumber cX2_readNumber 4 (some .int)]
def wsX2_readLine_r5 : List Cond := [Cond.methodLink RX2 98 yX3_addTree, Cond.instanceMethod yX3_addTree, Cond.selects RX3 yX3_addTree yX3_addTree, Cond.code yX3_addTree cX3_addTree 5 none, Cond.fieldLink RX3 9 "TreeDebts$Told" "kinds" "[I", Cond.fieldLink RX3 15 "TreeDebts$Told" "branches" "[I", Cond.fieldLink RX3 18 "TreeDebts$Told" "rates" "[I", Cond.fieldLink RX3 21 "TreeDebts$Told" "terms" "[I", Cond.fieldLink RX3 24 "TreeDebts$Told" "parts" "[I", Cond.methodLink RX2 75 yX2_readPart, Cond.instanceMethod yX2_readPart, Cond.selects RX2 yX2_readPart yX2_readPart, Cond.code yX2_readPart cX2_readPart 3 (some .boolean), Cond.fieldLink RX2 102 "TreeDebts$Told" "parts" "[I", Cond.methodLink RX2 80 yX2_readQuarrel, Cond.instanceMethod yX2_readQuarrel, Cond.selects RX2 yX2_readQuarrel yX2_readQuarrel, Cond.code yX2_readQuarrel cX2_readQuarrel 3 (some .boolean), Cond.fieldLink RX2 105 "TreeDebts$Told" "quarrels" "I", Cond.methodLink RX2 111 yX3_addQuarrel, Cond.instanceMethod yX3_addQuarrel, Cond.selects RX3 yX3_addQuarrel yX3_addQuarrel, Cond.code yX3_addQuarrel cX3_addQuarrel 3 none, Cond.fieldLink RX3 27 "TreeDebts$Told" "ones" "[I"]
def wsX2_readLine_r6 : List Cond := [Cond.fieldLink RX3 30 "TreeDebts$Told" "others" "[I", Cond.methodLink RX2 85 yX2_readHands, Cond.instanceMethod yX2_readHands, Cond.selects RX2 yX2_readHands yX2_readHands, Cond.code yX2_readHands cX2_readHands 2 (some .boolean), Cond.fieldLink RX2 115 "TreeDebts$Told" "hands" "I"]
def wsX2_readLine : List Cond := .code yX2_readLine cX2_readLine 1 (some .boolean) :: ((wsX2_readLine_r1 ++ (wsX2_readLine_r2 ++ (wsX2_readLine_r3 ++ (wsX2_readLine_r4 ++ (wsX2_readLine_r5 ++ wsX2_readLine_r6))))) ++ wsX20 ++ wsX30)
def wsX2_isAtSemicolon : List Cond := .code yX2_isAtSemicolon cX2_isAtSemicolon 1 (some .boolean) :: ([.fieldLink RX2 46 "TreeDebts$Text" "token" "I", .fieldLink RX2 9 "TreeDebts$Text" "bytes" "[I", .fieldLink RX2 43 "TreeDebts$Text" "start" "I"] ++ wsX20)
def wsX2_read_r1 : List Cond := [Cond.fieldLink RX2 18 "TreeDebts$Text" "draft" "LTreeDebts$Told;", Cond.fieldLink RX2 30 "TreeDebts$Text" "lines" "I", Cond.fieldLink RX2 33 "TreeDebts$Text" "end" "I", Cond.fieldLink RX2 43 "TreeDebts$Text" "start" "I", Cond.fieldLink RX2 46 "TreeDebts$Text" "token" "I", Cond.methodLink RX2 26 yX3_copyFrom, Cond.instanceMethod yX3_copyFrom, Cond.selects RX3 yX3_copyFrom yX3_copyFrom, Cond.initialized RX3, Cond.code yX3_copyFrom cX3_copyFrom 2 none, Cond.fieldLink RX3 37 "TreeDebts$Told" "trees" "I", Cond.fieldLink RX3 9 "TreeDebts$Told" "kinds" "[I", Cond.methodLink RX3 43 arraycopyName, Cond.native arraycopyName, Cond.static arraycopyName, Cond.initialized "java/lang/System", Cond.fieldLink RX3 15 "TreeDebts$Told" "branches" "[I", Cond.fieldLink RX3 18 "TreeDebts$Told" "rates" "[I", Cond.fieldLink RX3 21 "TreeDebts$Told" "terms" "[I", Cond.fieldLink RX3 24 "TreeDebts$Told" "parts" "[I", Cond.fieldLink RX3 40 "TreeDebts$Told" "quarrels" "I", Cond.fieldLink RX3 27 "TreeDebts$Told" "ones" "[I", Cond.fieldLink RX3 30 "TreeDebts$Told" "others" "[I", Cond.fieldLink RX3 33 "TreeDebts$Told" "hands" "I"]
def wsX2_read_r2 : List Cond := [Cond.methodLink RX2 36 yX2_nextToken, Cond.instanceMethod yX2_nextToken, Cond.selects RX2 yX2_nextToken yX2_nextToken, Cond.initialized RX2, Cond.code yX2_nextToken cX2_nextToken 1 none, Cond.fieldLink RX2 22 "TreeDebts$Text" "length" "I", Cond.fieldLink RX2 9 "TreeDebts$Text" "bytes" "[I", Cond.methodLink RX2 117 yX2_isLetter, Cond.static yX2_isLetter, Cond.code yX2_isLetter cX2_isLetter 1 (some .boolean), Cond.methodLink RX2 120 yX2_isDigit, Cond.static yX2_isDigit, Cond.code yX2_isDigit cX2_isDigit 1 (some .boolean), Cond.methodLink RX2 123 yX2_readDigits, Cond.instanceMethod yX2_readDigits, Cond.selects RX2 yX2_readDigits yX2_readDigits, Cond.code yX2_readDigits cX2_readDigits 1 none, Cond.fieldLink RX2 108 "TreeDebts$Text" "value" "I", Cond.methodLink RX2 39 yX2_readLine, Cond.instanceMethod yX2_readLine, Cond.selects RX2 yX2_readLine yX2_readLine, Cond.code yX2_readLine cX2_readLine 1 (some .boolean), Cond.methodLink RX2 54 yX2_isWord, Cond.instanceMethod yX2_isWord]
def wsX2_read_r3 : List Cond := [Cond.selects RX2 yX2_isWord yX2_isWord, Cond.code yX2_isWord cX2_isWord 3 (some .boolean), Cond.methodLink RX2 126 yJ0_length_8abf5, Cond.instanceMethod yJ0_length_8abf5, Cond.selects RJ0 yJ0_length_8abf5 yJ0_length_8abf5, Cond.initialized RJ0, Cond.code yJ0_length_8abf5 cJ0_length_8abf5 1 (some .int), Cond.fieldLink RJ0 9 "java/lang/String" "value" "[B", Cond.methodLink RJ0 335 yJ0_coder_7d493, Cond.instanceMethod yJ0_coder_7d493, Cond.selects RJ0 yJ0_coder_7d493 yJ0_coder_7d493, Cond.code yJ0_coder_7d493 cJ0_coder_7d493 1 (some .byte), Cond.fieldLink RJ0 38 "java/lang/String" "COMPACT_STRINGS" "Z", Cond.fieldLink RJ0 15 "java/lang/String" "coder" "B", Cond.methodLink RX2 131 yJ0_charAt_5068e, Cond.instanceMethod yJ0_charAt_5068e, Cond.selects RJ0 yJ0_charAt_5068e yJ0_charAt_5068e, Cond.code yJ0_charAt_5068e cJ0_charAt_5068e 2 (some .char), Cond.methodLink RJ0 492 yJ0_isLatin1_aae02, Cond.instanceMethod yJ0_isLatin1_aae02, Cond.selects RJ0 yJ0_isLatin1_aae02 yJ0_isLatin1_aae02, Cond.code yJ0_isLatin1_aae02 cJ0_isLatin1_aae02 1 (some .boolean), Cond.methodLink RJ0 495 yJ1_charAt_3b067, Cond.static yJ1_charAt_3b067]
def wsX2_read_r4 : List Cond := [Cond.initialized RJ1, Cond.code yJ1_charAt_3b067 cJ1_charAt_3b067 2 (some .char), Cond.methodLink RJ1 9 yJ0_checkIndex_df160, Cond.static yJ0_checkIndex_df160, Cond.code yJ0_checkIndex_df160 cJ0_checkIndex_df160 2 none, Cond.fieldLink RJ0 1053 "jdk/internal/util/Preconditions" "SIOOBE_FORMATTER" "Ljava/util/function/BiFunction;", Cond.methodLink RJ0 1059 yJ3_checkIndex_8e157, Cond.static yJ3_checkIndex_8e157, Cond.initialized RJ3, Cond.code yJ3_checkIndex_8e157 cJ3_checkIndex_8e157 3 (some .int), Cond.methodLink RJ0 498 yJ2_charAt_3b067, Cond.static yJ2_charAt_3b067, Cond.initialized RJ2, Cond.code yJ2_charAt_3b067 cJ2_charAt_3b067 2 (some .char), Cond.methodLink RJ2 67 yJ2_checkIndex_2214a, Cond.static yJ2_checkIndex_2214a, Cond.code yJ2_checkIndex_2214a cJ2_checkIndex_2214a 2 none, Cond.methodLink RJ2 48 yJ2_length_9d52b, Cond.static yJ2_length_9d52b, Cond.code yJ2_length_9d52b cJ2_length_9d52b 1 (some .int), Cond.methodLink RJ2 414 yJ0_checkIndex_df160, Cond.methodLink RJ2 71 yJ2_getChar_3b067, Cond.static yJ2_getChar_3b067, Cond.code yJ2_getChar_3b067 cJ2_getChar_3b067 2 (some .char)]
def wsX2_read_r5 : List Cond := [Cond.fieldLink RJ2 44 "java/lang/StringUTF16" "$assertionsDisabled" "Z", Cond.fieldLink RJ2 59 "java/lang/StringUTF16" "HI_BYTE_SHIFT" "I", Cond.fieldLink RJ2 63 "java/lang/StringUTF16" "LO_BYTE_SHIFT" "I", Cond.methodLink RX2 58 yX2_readWood, Cond.instanceMethod yX2_readWood, Cond.selects RX2 yX2_readWood yX2_readWood, Cond.code yX2_readWood cX2_readWood 1 (some .boolean), Cond.methodLink RX2 88 yX3_forget, Cond.instanceMethod yX3_forget, Cond.selects RX3 yX3_forget yX3_forget, Cond.code yX3_forget cX3_forget 1 none, Cond.methodLink RX2 63 yX2_readTree, Cond.instanceMethod yX2_readTree, Cond.selects RX2 yX2_readTree yX2_readTree, Cond.code yX2_readTree cX2_readTree 5 (some .boolean), Cond.fieldLink RX2 91 "TreeDebts$Told" "trees" "I", Cond.methodLink RX2 94 yX2_readNumber, Cond.instanceMethod yX2_readNumber, Cond.selects RX2 yX2_readNumber yX2_readNumber, Cond.code yX2_readNumber cX2_readNumber 4 (some .int), Cond.methodLink RX2 98 yX3_addTree, Cond.instanceMethod yX3_addTree, Cond.selects RX3 yX3_addTree yX3_addTree, Cond.code yX3_addTree cX3_addTree 5 none]
def wsX2_read_r6 : List Cond := [Cond.methodLink RX2 75 yX2_readPart, Cond.instanceMethod yX2_readPart, Cond.selects RX2 yX2_readPart yX2_readPart, Cond.code yX2_readPart cX2_readPart 3 (some .boolean), Cond.fieldLink RX2 102 "TreeDebts$Told" "parts" "[I", Cond.methodLink RX2 80 yX2_readQuarrel, Cond.instanceMethod yX2_readQuarrel, Cond.selects RX2 yX2_readQuarrel yX2_readQuarrel, Cond.code yX2_readQuarrel cX2_readQuarrel 3 (some .boolean), Cond.fieldLink RX2 105 "TreeDebts$Told" "quarrels" "I", Cond.methodLink RX2 111 yX3_addQuarrel, Cond.instanceMethod yX3_addQuarrel, Cond.selects RX3 yX3_addQuarrel yX3_addQuarrel, Cond.code yX3_addQuarrel cX3_addQuarrel 3 none, Cond.methodLink RX2 85 yX2_readHands, Cond.instanceMethod yX2_readHands, Cond.selects RX2 yX2_readHands yX2_readHands, Cond.code yX2_readHands cX2_readHands 2 (some .boolean), Cond.fieldLink RX2 115 "TreeDebts$Told" "hands" "I", Cond.methodLink RX2 49 yX2_isAtSemicolon, Cond.instanceMethod yX2_isAtSemicolon, Cond.selects RX2 yX2_isAtSemicolon yX2_isAtSemicolon, Cond.code yX2_isAtSemicolon cX2_isAtSemicolon 1 (some .boolean)]
def wsX2_read : List Cond := .code yX2_read cX2_read 3 (some .int) :: ((wsX2_read_r1 ++ (wsX2_read_r2 ++ (wsX2_read_r3 ++ (wsX2_read_r4 ++ (wsX2_read_r5 ++ wsX2_read_r6))))) ++ wsX20 ++ wsX30)
def wsX3_has : List Cond := .code yX3_has cX3_has 2 (some .boolean) :: ([.fieldLink RX3 37 "TreeDebts$Told" "trees" "I"] ++ wsX30)
def wsX3_isOfKind : List Cond := .code yX3_isOfKind cX3_isOfKind 5 (some .boolean) :: ([.fieldLink RX3 9 "TreeDebts$Told" "kinds" "[I"] ++ wsX30)
def wsX4_init_r1 : List Cond := [Cond.methodLink RX4 1 objectInit, Cond.instanceMethod objectInit, Cond.code objectInit ⟨#[0xb1]⟩ 1 none, Cond.classLink RX4 7 RX2, Cond.instantiable RX2 8, Cond.initialized RX2, Cond.fieldLink RX4 10 "TreeDebts" "text" "LTreeDebts$Text;", Cond.classLink RX4 16 RX3, Cond.instantiable RX3 10, Cond.initialized RX3, Cond.fieldLink RX4 19 "TreeDebts" "told" "LTreeDebts$Told;", Cond.classLink RX4 23 RX1, Cond.instantiable RX1 10, Cond.initialized RX1, Cond.fieldLink RX4 26 "TreeDebts" "now" "LTreeDebts$State;", Cond.fieldLink RX4 30 "TreeDebts" "foretold" "LTreeDebts$State;", Cond.fieldLink RX4 33 "TreeDebts" "kept" "[LTreeDebts$State;", Cond.arrayClass .boolean, Cond.fieldLink RX4 37 "TreeDebts" "isKept" "[Z", Cond.classLink RX4 41 RX0, Cond.instantiable RX0 5, Cond.initialized RX0, Cond.fieldLink RX4 44 "TreeDebts" "hutPlan" "LTreeDebts$HutPlan;", Cond.instanceMethod yX2_init]
def wsX4_init_r2 : List Cond := [Cond.code yX2_init cX2_init 1 none, Cond.methodLink RX2 3 objectInit, Cond.arrayClass .int, Cond.fieldLink RX2 9 "TreeDebts$Text" "bytes" "[I", Cond.classLink RX2 15 RX3, Cond.fieldLink RX2 18 "TreeDebts$Text" "draft" "LTreeDebts$Told;", Cond.instanceMethod yX3_init, Cond.code yX3_init cX3_init 1 none, Cond.methodLink RX3 3 objectInit, Cond.fieldLink RX3 9 "TreeDebts$Told" "kinds" "[I", Cond.fieldLink RX3 15 "TreeDebts$Told" "branches" "[I", Cond.fieldLink RX3 18 "TreeDebts$Told" "rates" "[I", Cond.fieldLink RX3 21 "TreeDebts$Told" "terms" "[I", Cond.fieldLink RX3 24 "TreeDebts$Told" "parts" "[I", Cond.fieldLink RX3 27 "TreeDebts$Told" "ones" "[I", Cond.fieldLink RX3 30 "TreeDebts$Told" "others" "[I", Cond.fieldLink RX3 33 "TreeDebts$Told" "hands" "I", Cond.instanceMethod yX1_init, Cond.code yX1_init cX1_init 1 none, Cond.methodLink RX1 3 objectInit, Cond.fieldLink RX1 9 "TreeDebts$State" "branches" "[I", Cond.fieldLink RX1 15 "TreeDebts$State" "fates" "[I", Cond.fieldLink RX1 18 "TreeDebts$State" "lenders" "[I", Cond.fieldLink RX1 21 "TreeDebts$State" "lent" "[I"]
def wsX4_init_r3 : List Cond := [Cond.fieldLink RX1 24 "TreeDebts$State" "owed" "[I", Cond.fieldLink RX1 27 "TreeDebts$State" "dues" "[I", Cond.fieldLink RX1 30 "TreeDebts$State" "failed" "[I", Cond.instanceMethod yX0_init, Cond.code yX0_init cX0_init 1 none, Cond.methodLink RX0 3 objectInit, Cond.classLink RX0 9 "[[I", Cond.fieldLink RX0 11 "TreeDebts$HutPlan" "least" "[[I", Cond.fieldLink RX0 16 "TreeDebts$HutPlan" "choice" "[[I", Cond.fieldLink RX0 19 "TreeDebts$HutPlan" "costs" "[I", Cond.fieldLink RX0 23 "TreeDebts$HutPlan" "from" "[I"]
def wsX4_init : List Cond := .code yX4_init cX4_init 1 none :: ((wsX4_init_r1 ++ (wsX4_init_r2 ++ wsX4_init_r3)) ++ wsX20 ++ wsX40 ++ wsX30 ++ wsX10 ++ wsX00)
def wsX4_write : List Cond := .code yX4_write cX4_write 5 (some .int) :: ([.fieldLink RX4 10 "TreeDebts" "text" "LTreeDebts$Text;", .fieldLink RX4 48 "TreeDebts$Text" "length" "I", .constantLong RX4 52 (255), .methodLink RX4 54 yX2_add, .instanceMethod yX2_add, .selects RX2 yX2_add yX2_add, .initialized RX2, .code yX2_add cX2_add 2 none, .fieldLink RX2 22 "TreeDebts$Text" "length" "I", .fieldLink RX2 9 "TreeDebts$Text" "bytes" "[I"] ++ wsX40 ++ wsX20)
def wsX4_erase : List Cond := .code yX4_erase cX4_erase 2 (some .int) :: ([.fieldLink RX4 10 "TreeDebts" "text" "LTreeDebts$Text;", .fieldLink RX4 48 "TreeDebts$Text" "length" "I"] ++ wsX40 ++ wsX20)
def wsX4_fault_r1 : List Cond := [Cond.fieldLink RX4 10 "TreeDebts" "text" "LTreeDebts$Text;", Cond.fieldLink RX4 19 "TreeDebts" "told" "LTreeDebts$Told;", Cond.methodLink RX4 58 yX2_read, Cond.instanceMethod yX2_read, Cond.selects RX2 yX2_read yX2_read, Cond.initialized RX2, Cond.code yX2_read cX2_read 3 (some .int), Cond.fieldLink RX2 18 "TreeDebts$Text" "draft" "LTreeDebts$Told;", Cond.fieldLink RX2 30 "TreeDebts$Text" "lines" "I", Cond.fieldLink RX2 33 "TreeDebts$Text" "end" "I", Cond.fieldLink RX2 43 "TreeDebts$Text" "start" "I", Cond.fieldLink RX2 46 "TreeDebts$Text" "token" "I", Cond.methodLink RX2 26 yX3_copyFrom, Cond.instanceMethod yX3_copyFrom, Cond.selects RX3 yX3_copyFrom yX3_copyFrom, Cond.initialized RX3, Cond.code yX3_copyFrom cX3_copyFrom 2 none, Cond.fieldLink RX3 37 "TreeDebts$Told" "trees" "I", Cond.fieldLink RX3 9 "TreeDebts$Told" "kinds" "[I", Cond.methodLink RX3 43 arraycopyName, Cond.native arraycopyName, Cond.static arraycopyName, Cond.initialized "java/lang/System", Cond.fieldLink RX3 15 "TreeDebts$Told" "branches" "[I"]
def wsX4_fault_r2 : List Cond := [Cond.fieldLink RX3 18 "TreeDebts$Told" "rates" "[I", Cond.fieldLink RX3 21 "TreeDebts$Told" "terms" "[I", Cond.fieldLink RX3 24 "TreeDebts$Told" "parts" "[I", Cond.fieldLink RX3 40 "TreeDebts$Told" "quarrels" "I", Cond.fieldLink RX3 27 "TreeDebts$Told" "ones" "[I", Cond.fieldLink RX3 30 "TreeDebts$Told" "others" "[I", Cond.fieldLink RX3 33 "TreeDebts$Told" "hands" "I", Cond.methodLink RX2 36 yX2_nextToken, Cond.instanceMethod yX2_nextToken, Cond.selects RX2 yX2_nextToken yX2_nextToken, Cond.code yX2_nextToken cX2_nextToken 1 none, Cond.fieldLink RX2 22 "TreeDebts$Text" "length" "I", Cond.fieldLink RX2 9 "TreeDebts$Text" "bytes" "[I", Cond.methodLink RX2 117 yX2_isLetter, Cond.static yX2_isLetter, Cond.code yX2_isLetter cX2_isLetter 1 (some .boolean), Cond.methodLink RX2 120 yX2_isDigit, Cond.static yX2_isDigit, Cond.code yX2_isDigit cX2_isDigit 1 (some .boolean), Cond.methodLink RX2 123 yX2_readDigits, Cond.instanceMethod yX2_readDigits, Cond.selects RX2 yX2_readDigits yX2_readDigits, Cond.code yX2_readDigits cX2_readDigits 1 none, Cond.fieldLink RX2 108 "TreeDebts$Text" "value" "I"]
def wsX4_fault_r3 : List Cond := [Cond.methodLink RX2 39 yX2_readLine, Cond.instanceMethod yX2_readLine, Cond.selects RX2 yX2_readLine yX2_readLine, Cond.code yX2_readLine cX2_readLine 1 (some .boolean), Cond.methodLink RX2 54 yX2_isWord, Cond.instanceMethod yX2_isWord, Cond.selects RX2 yX2_isWord yX2_isWord, Cond.code yX2_isWord cX2_isWord 3 (some .boolean), Cond.methodLink RX2 126 yJ0_length_8abf5, Cond.instanceMethod yJ0_length_8abf5, Cond.selects RJ0 yJ0_length_8abf5 yJ0_length_8abf5, Cond.initialized RJ0, Cond.code yJ0_length_8abf5 cJ0_length_8abf5 1 (some .int), Cond.fieldLink RJ0 9 "java/lang/String" "value" "[B", Cond.methodLink RJ0 335 yJ0_coder_7d493, Cond.instanceMethod yJ0_coder_7d493, Cond.selects RJ0 yJ0_coder_7d493 yJ0_coder_7d493, Cond.code yJ0_coder_7d493 cJ0_coder_7d493 1 (some .byte), Cond.fieldLink RJ0 38 "java/lang/String" "COMPACT_STRINGS" "Z", Cond.fieldLink RJ0 15 "java/lang/String" "coder" "B", Cond.methodLink RX2 131 yJ0_charAt_5068e, Cond.instanceMethod yJ0_charAt_5068e, Cond.selects RJ0 yJ0_charAt_5068e yJ0_charAt_5068e, Cond.code yJ0_charAt_5068e cJ0_charAt_5068e 2 (some .char)]
def wsX4_fault_r4 : List Cond := [Cond.methodLink RJ0 492 yJ0_isLatin1_aae02, Cond.instanceMethod yJ0_isLatin1_aae02, Cond.selects RJ0 yJ0_isLatin1_aae02 yJ0_isLatin1_aae02, Cond.code yJ0_isLatin1_aae02 cJ0_isLatin1_aae02 1 (some .boolean), Cond.methodLink RJ0 495 yJ1_charAt_3b067, Cond.static yJ1_charAt_3b067, Cond.initialized RJ1, Cond.code yJ1_charAt_3b067 cJ1_charAt_3b067 2 (some .char), Cond.methodLink RJ1 9 yJ0_checkIndex_df160, Cond.static yJ0_checkIndex_df160, Cond.code yJ0_checkIndex_df160 cJ0_checkIndex_df160 2 none, Cond.fieldLink RJ0 1053 "jdk/internal/util/Preconditions" "SIOOBE_FORMATTER" "Ljava/util/function/BiFunction;", Cond.methodLink RJ0 1059 yJ3_checkIndex_8e157, Cond.static yJ3_checkIndex_8e157, Cond.initialized RJ3, Cond.code yJ3_checkIndex_8e157 cJ3_checkIndex_8e157 3 (some .int), Cond.methodLink RJ0 498 yJ2_charAt_3b067, Cond.static yJ2_charAt_3b067, Cond.initialized RJ2, Cond.code yJ2_charAt_3b067 cJ2_charAt_3b067 2 (some .char), Cond.methodLink RJ2 67 yJ2_checkIndex_2214a, Cond.static yJ2_checkIndex_2214a, Cond.code yJ2_checkIndex_2214a cJ2_checkIndex_2214a 2 none, Cond.methodLink RJ2 48 yJ2_length_9d52b]
def wsX4_fault_r5 : List Cond := [Cond.static yJ2_length_9d52b, Cond.code yJ2_length_9d52b cJ2_length_9d52b 1 (some .int), Cond.methodLink RJ2 414 yJ0_checkIndex_df160, Cond.methodLink RJ2 71 yJ2_getChar_3b067, Cond.static yJ2_getChar_3b067, Cond.code yJ2_getChar_3b067 cJ2_getChar_3b067 2 (some .char), Cond.fieldLink RJ2 44 "java/lang/StringUTF16" "$assertionsDisabled" "Z", Cond.fieldLink RJ2 59 "java/lang/StringUTF16" "HI_BYTE_SHIFT" "I", Cond.fieldLink RJ2 63 "java/lang/StringUTF16" "LO_BYTE_SHIFT" "I", Cond.methodLink RX2 58 yX2_readWood, Cond.instanceMethod yX2_readWood, Cond.selects RX2 yX2_readWood yX2_readWood, Cond.code yX2_readWood cX2_readWood 1 (some .boolean), Cond.methodLink RX2 88 yX3_forget, Cond.instanceMethod yX3_forget, Cond.selects RX3 yX3_forget yX3_forget, Cond.code yX3_forget cX3_forget 1 none, Cond.methodLink RX2 63 yX2_readTree, Cond.instanceMethod yX2_readTree, Cond.selects RX2 yX2_readTree yX2_readTree, Cond.code yX2_readTree cX2_readTree 5 (some .boolean), Cond.fieldLink RX2 91 "TreeDebts$Told" "trees" "I", Cond.methodLink RX2 94 yX2_readNumber, Cond.instanceMethod yX2_readNumber]
def wsX4_fault_r6 : List Cond := [Cond.selects RX2 yX2_readNumber yX2_readNumber, Cond.code yX2_readNumber cX2_readNumber 4 (some .int), Cond.methodLink RX2 98 yX3_addTree, Cond.instanceMethod yX3_addTree, Cond.selects RX3 yX3_addTree yX3_addTree, Cond.code yX3_addTree cX3_addTree 5 none, Cond.methodLink RX2 75 yX2_readPart, Cond.instanceMethod yX2_readPart, Cond.selects RX2 yX2_readPart yX2_readPart, Cond.code yX2_readPart cX2_readPart 3 (some .boolean), Cond.fieldLink RX2 102 "TreeDebts$Told" "parts" "[I", Cond.methodLink RX2 80 yX2_readQuarrel, Cond.instanceMethod yX2_readQuarrel, Cond.selects RX2 yX2_readQuarrel yX2_readQuarrel, Cond.code yX2_readQuarrel cX2_readQuarrel 3 (some .boolean), Cond.fieldLink RX2 105 "TreeDebts$Told" "quarrels" "I", Cond.methodLink RX2 111 yX3_addQuarrel, Cond.instanceMethod yX3_addQuarrel, Cond.selects RX3 yX3_addQuarrel yX3_addQuarrel, Cond.code yX3_addQuarrel cX3_addQuarrel 3 none, Cond.methodLink RX2 85 yX2_readHands, Cond.instanceMethod yX2_readHands, Cond.selects RX2 yX2_readHands yX2_readHands, Cond.code yX2_readHands cX2_readHands 2 (some .boolean)]
def wsX4_fault_r7 : List Cond := [Cond.fieldLink RX2 115 "TreeDebts$Told" "hands" "I", Cond.methodLink RX2 49 yX2_isAtSemicolon, Cond.instanceMethod yX2_isAtSemicolon, Cond.selects RX2 yX2_isAtSemicolon yX2_isAtSemicolon, Cond.code yX2_isAtSemicolon cX2_isAtSemicolon 1 (some .boolean)]
def wsX4_fault : List Cond := .code yX4_fault cX4_fault 1 (some .int) :: ((wsX4_fault_r1 ++ (wsX4_fault_r2 ++ (wsX4_fault_r3 ++ (wsX4_fault_r4 ++ (wsX4_fault_r5 ++ (wsX4_fault_r6 ++ wsX4_fault_r7)))))) ++ wsX40 ++ wsX20 ++ wsX30)
def wsX4_wood_r1 : List Cond := [Cond.fieldLink RX4 10 "TreeDebts" "text" "LTreeDebts$Text;", Cond.fieldLink RX4 19 "TreeDebts" "told" "LTreeDebts$Told;", Cond.fieldLink RX4 62 "TreeDebts$Text" "draft" "LTreeDebts$Told;", Cond.fieldLink RX4 48 "TreeDebts$Text" "length" "I", Cond.fieldLink RX4 26 "TreeDebts" "now" "LTreeDebts$State;", Cond.fieldLink RX4 37 "TreeDebts" "isKept" "[Z", Cond.fieldLink RX4 72 "TreeDebts$Text" "lines" "I", Cond.methodLink RX4 58 yX2_read, Cond.instanceMethod yX2_read, Cond.selects RX2 yX2_read yX2_read, Cond.initialized RX2, Cond.code yX2_read cX2_read 3 (some .int), Cond.fieldLink RX2 18 "TreeDebts$Text" "draft" "LTreeDebts$Told;", Cond.fieldLink RX2 30 "TreeDebts$Text" "lines" "I", Cond.fieldLink RX2 33 "TreeDebts$Text" "end" "I", Cond.fieldLink RX2 43 "TreeDebts$Text" "start" "I", Cond.fieldLink RX2 46 "TreeDebts$Text" "token" "I", Cond.methodLink RX2 26 yX3_copyFrom, Cond.instanceMethod yX3_copyFrom, Cond.selects RX3 yX3_copyFrom yX3_copyFrom, Cond.initialized RX3, Cond.code yX3_copyFrom cX3_copyFrom 2 none, Cond.fieldLink RX3 37 "TreeDebts$Told" "trees" "I", Cond.fieldLink RX3 9 "TreeDebts$Told" "kinds" "[I"]
def wsX4_wood_r2 : List Cond := [Cond.methodLink RX3 43 arraycopyName, Cond.native arraycopyName, Cond.static arraycopyName, Cond.initialized "java/lang/System", Cond.fieldLink RX3 15 "TreeDebts$Told" "branches" "[I", Cond.fieldLink RX3 18 "TreeDebts$Told" "rates" "[I", Cond.fieldLink RX3 21 "TreeDebts$Told" "terms" "[I", Cond.fieldLink RX3 24 "TreeDebts$Told" "parts" "[I", Cond.fieldLink RX3 40 "TreeDebts$Told" "quarrels" "I", Cond.fieldLink RX3 27 "TreeDebts$Told" "ones" "[I", Cond.fieldLink RX3 30 "TreeDebts$Told" "others" "[I", Cond.fieldLink RX3 33 "TreeDebts$Told" "hands" "I", Cond.methodLink RX2 36 yX2_nextToken, Cond.instanceMethod yX2_nextToken, Cond.selects RX2 yX2_nextToken yX2_nextToken, Cond.code yX2_nextToken cX2_nextToken 1 none, Cond.fieldLink RX2 22 "TreeDebts$Text" "length" "I", Cond.fieldLink RX2 9 "TreeDebts$Text" "bytes" "[I", Cond.methodLink RX2 117 yX2_isLetter, Cond.static yX2_isLetter, Cond.code yX2_isLetter cX2_isLetter 1 (some .boolean), Cond.methodLink RX2 120 yX2_isDigit, Cond.static yX2_isDigit, Cond.code yX2_isDigit cX2_isDigit 1 (some .boolean)]
def wsX4_wood_r3 : List Cond := [Cond.methodLink RX2 123 yX2_readDigits, Cond.instanceMethod yX2_readDigits, Cond.selects RX2 yX2_readDigits yX2_readDigits, Cond.code yX2_readDigits cX2_readDigits 1 none, Cond.fieldLink RX2 108 "TreeDebts$Text" "value" "I", Cond.methodLink RX2 39 yX2_readLine, Cond.instanceMethod yX2_readLine, Cond.selects RX2 yX2_readLine yX2_readLine, Cond.code yX2_readLine cX2_readLine 1 (some .boolean), Cond.methodLink RX2 54 yX2_isWord, Cond.instanceMethod yX2_isWord, Cond.selects RX2 yX2_isWord yX2_isWord, Cond.code yX2_isWord cX2_isWord 3 (some .boolean), Cond.methodLink RX2 126 yJ0_length_8abf5, Cond.instanceMethod yJ0_length_8abf5, Cond.selects RJ0 yJ0_length_8abf5 yJ0_length_8abf5, Cond.initialized RJ0, Cond.code yJ0_length_8abf5 cJ0_length_8abf5 1 (some .int), Cond.fieldLink RJ0 9 "java/lang/String" "value" "[B", Cond.methodLink RJ0 335 yJ0_coder_7d493, Cond.instanceMethod yJ0_coder_7d493, Cond.selects RJ0 yJ0_coder_7d493 yJ0_coder_7d493, Cond.code yJ0_coder_7d493 cJ0_coder_7d493 1 (some .byte), Cond.fieldLink RJ0 38 "java/lang/String" "COMPACT_STRINGS" "Z"]
def wsX4_wood_r4 : List Cond := [Cond.fieldLink RJ0 15 "java/lang/String" "coder" "B", Cond.methodLink RX2 131 yJ0_charAt_5068e, Cond.instanceMethod yJ0_charAt_5068e, Cond.selects RJ0 yJ0_charAt_5068e yJ0_charAt_5068e, Cond.code yJ0_charAt_5068e cJ0_charAt_5068e 2 (some .char), Cond.methodLink RJ0 492 yJ0_isLatin1_aae02, Cond.instanceMethod yJ0_isLatin1_aae02, Cond.selects RJ0 yJ0_isLatin1_aae02 yJ0_isLatin1_aae02, Cond.code yJ0_isLatin1_aae02 cJ0_isLatin1_aae02 1 (some .boolean), Cond.methodLink RJ0 495 yJ1_charAt_3b067, Cond.static yJ1_charAt_3b067, Cond.initialized RJ1, Cond.code yJ1_charAt_3b067 cJ1_charAt_3b067 2 (some .char), Cond.methodLink RJ1 9 yJ0_checkIndex_df160, Cond.static yJ0_checkIndex_df160, Cond.code yJ0_checkIndex_df160 cJ0_checkIndex_df160 2 none, Cond.fieldLink RJ0 1053 "jdk/internal/util/Preconditions" "SIOOBE_FORMATTER" "Ljava/util/function/BiFunction;", Cond.methodLink RJ0 1059 yJ3_checkIndex_8e157, Cond.static yJ3_checkIndex_8e157, Cond.initialized RJ3, Cond.code yJ3_checkIndex_8e157 cJ3_checkIndex_8e157 3 (some .int), Cond.methodLink RJ0 498 yJ2_charAt_3b067, Cond.static yJ2_charAt_3b067, Cond.initialized RJ2]
def wsX4_wood_r5 : List Cond := [Cond.code yJ2_charAt_3b067 cJ2_charAt_3b067 2 (some .char), Cond.methodLink RJ2 67 yJ2_checkIndex_2214a, Cond.static yJ2_checkIndex_2214a, Cond.code yJ2_checkIndex_2214a cJ2_checkIndex_2214a 2 none, Cond.methodLink RJ2 48 yJ2_length_9d52b, Cond.static yJ2_length_9d52b, Cond.code yJ2_length_9d52b cJ2_length_9d52b 1 (some .int), Cond.methodLink RJ2 414 yJ0_checkIndex_df160, Cond.methodLink RJ2 71 yJ2_getChar_3b067, Cond.static yJ2_getChar_3b067, Cond.code yJ2_getChar_3b067 cJ2_getChar_3b067 2 (some .char), Cond.fieldLink RJ2 44 "java/lang/StringUTF16" "$assertionsDisabled" "Z", Cond.fieldLink RJ2 59 "java/lang/StringUTF16" "HI_BYTE_SHIFT" "I", Cond.fieldLink RJ2 63 "java/lang/StringUTF16" "LO_BYTE_SHIFT" "I", Cond.methodLink RX2 58 yX2_readWood, Cond.instanceMethod yX2_readWood, Cond.selects RX2 yX2_readWood yX2_readWood, Cond.code yX2_readWood cX2_readWood 1 (some .boolean), Cond.methodLink RX2 88 yX3_forget, Cond.instanceMethod yX3_forget, Cond.selects RX3 yX3_forget yX3_forget, Cond.code yX3_forget cX3_forget 1 none, Cond.methodLink RX2 63 yX2_readTree, Cond.instanceMethod yX2_readTree]
def wsX4_wood_r6 : List Cond := [Cond.selects RX2 yX2_readTree yX2_readTree, Cond.code yX2_readTree cX2_readTree 5 (some .boolean), Cond.fieldLink RX2 91 "TreeDebts$Told" "trees" "I", Cond.methodLink RX2 94 yX2_readNumber, Cond.instanceMethod yX2_readNumber, Cond.selects RX2 yX2_readNumber yX2_readNumber, Cond.code yX2_readNumber cX2_readNumber 4 (some .int), Cond.methodLink RX2 98 yX3_addTree, Cond.instanceMethod yX3_addTree, Cond.selects RX3 yX3_addTree yX3_addTree, Cond.code yX3_addTree cX3_addTree 5 none, Cond.methodLink RX2 75 yX2_readPart, Cond.instanceMethod yX2_readPart, Cond.selects RX2 yX2_readPart yX2_readPart, Cond.code yX2_readPart cX2_readPart 3 (some .boolean), Cond.fieldLink RX2 102 "TreeDebts$Told" "parts" "[I", Cond.methodLink RX2 80 yX2_readQuarrel, Cond.instanceMethod yX2_readQuarrel, Cond.selects RX2 yX2_readQuarrel yX2_readQuarrel, Cond.code yX2_readQuarrel cX2_readQuarrel 3 (some .boolean), Cond.fieldLink RX2 105 "TreeDebts$Told" "quarrels" "I", Cond.methodLink RX2 111 yX3_addQuarrel, Cond.instanceMethod yX3_addQuarrel, Cond.selects RX3 yX3_addQuarrel yX3_addQuarrel]
def wsX4_wood_r7 : List Cond := [Cond.code yX3_addQuarrel cX3_addQuarrel 3 none, Cond.methodLink RX2 85 yX2_readHands, Cond.instanceMethod yX2_readHands, Cond.selects RX2 yX2_readHands yX2_readHands, Cond.code yX2_readHands cX2_readHands 2 (some .boolean), Cond.fieldLink RX2 115 "TreeDebts$Told" "hands" "I", Cond.methodLink RX2 49 yX2_isAtSemicolon, Cond.instanceMethod yX2_isAtSemicolon, Cond.selects RX2 yX2_isAtSemicolon yX2_isAtSemicolon, Cond.code yX2_isAtSemicolon cX2_isAtSemicolon 1 (some .boolean), Cond.methodLink RX4 65 yX3_copyFrom, Cond.methodLink RX4 69 yX1_begin, Cond.instanceMethod yX1_begin, Cond.selects RX1 yX1_begin yX1_begin, Cond.initialized RX1, Cond.code yX1_begin cX1_begin 3 none, Cond.fieldLink RX1 33 "TreeDebts$State" "day" "I", Cond.fieldLink RX1 37 "TreeDebts$State" "loans" "I", Cond.fieldLink RX1 40 "TreeDebts$State" "failures" "I", Cond.fieldLink RX1 9 "TreeDebts$State" "branches" "[I", Cond.fieldLink RX1 43 "TreeDebts$Told" "branches" "[I", Cond.fieldLink RX1 15 "TreeDebts$State" "fates" "[I"]
def wsX4_wood : List Cond := .code yX4_wood cX4_wood 2 (some .int) :: ((wsX4_wood_r1 ++ (wsX4_wood_r2 ++ (wsX4_wood_r3 ++ (wsX4_wood_r4 ++ (wsX4_wood_r5 ++ (wsX4_wood_r6 ++ wsX4_wood_r7)))))) ++ wsX40 ++ wsX20 ++ wsX30 ++ wsX10)
def wsX4_tree_r1 : List Cond := [Cond.fieldLink RX4 19 "TreeDebts" "told" "LTreeDebts$Told;", Cond.fieldLink RX4 79 "TreeDebts$Told" "kinds" "[I", Cond.fieldLink RX4 26 "TreeDebts" "now" "LTreeDebts$State;", Cond.fieldLink RX4 83 "TreeDebts$State" "branches" "[I", Cond.fieldLink RX4 86 "TreeDebts$Told" "rates" "[I", Cond.fieldLink RX4 89 "TreeDebts$Told" "terms" "[I", Cond.fieldLink RX4 92 "TreeDebts$Told" "parts" "[I", Cond.fieldLink RX4 99 "TreeDebts$State" "fates" "[I", Cond.methodLink RX4 75 yX3_has, Cond.instanceMethod yX3_has, Cond.selects RX3 yX3_has yX3_has, Cond.initialized RX3, Cond.code yX3_has cX3_has 2 (some .boolean), Cond.fieldLink RX3 37 "TreeDebts$Told" "trees" "I", Cond.methodLink RX4 95 yX1_owedTo, Cond.instanceMethod yX1_owedTo, Cond.selects RX1 yX1_owedTo yX1_owedTo, Cond.initialized RX1, Cond.code yX1_owedTo cX1_owedTo 4 (some .int), Cond.fieldLink RX1 37 "TreeDebts$State" "loans" "I", Cond.fieldLink RX1 18 "TreeDebts$State" "lenders" "[I", Cond.fieldLink RX1 24 "TreeDebts$State" "owed" "[I", Cond.methodLink RX4 102 yX1_isCross, Cond.instanceMethod yX1_isCross]
def wsX4_tree_r2 : List Cond := [Cond.selects RX1 yX1_isCross yX1_isCross, Cond.code yX1_isCross cX1_isCross 5 (some .boolean), Cond.fieldLink RX1 56 "TreeDebts$Told" "quarrels" "I", Cond.fieldLink RX1 59 "TreeDebts$Told" "ones" "[I", Cond.fieldLink RX1 62 "TreeDebts$Told" "others" "[I", Cond.methodLink RX1 52 yX1_owedTo]
def wsX4_tree : List Cond := .code yX4_tree cX4_tree 3 (some .int) :: ((wsX4_tree_r1 ++ wsX4_tree_r2) ++ wsX40 ++ wsX30 ++ wsX10)
def wsX4_loan : List Cond := .code yX4_loan cX4_loan 3 (some .int) :: ([.fieldLink RX4 26 "TreeDebts" "now" "LTreeDebts$State;", .fieldLink RX4 106 "TreeDebts$State" "loans" "I", .fieldLink RX4 109 "TreeDebts$State" "lenders" "[I", .fieldLink RX4 112 "TreeDebts$State" "lent" "[I", .fieldLink RX4 115 "TreeDebts$State" "owed" "[I", .fieldLink RX4 118 "TreeDebts$State" "dues" "[I", .fieldLink RX4 121 "TreeDebts$State" "failed" "[I"] ++ wsX40 ++ wsX10)
def wsX4_as_r1 : List Cond := [Cond.fieldLink RX4 19 "TreeDebts" "told" "LTreeDebts$Told;", Cond.fieldLink RX4 124 "TreeDebts" "OVER" "[I", Cond.methodLink RX4 75 yX3_has, Cond.instanceMethod yX3_has, Cond.selects RX3 yX3_has yX3_has, Cond.initialized RX3, Cond.code yX3_has cX3_has 2 (some .boolean), Cond.fieldLink RX3 37 "TreeDebts$Told" "trees" "I", Cond.methodLink RX4 127 yX3_isOfKind, Cond.instanceMethod yX3_isOfKind, Cond.selects RX3 yX3_isOfKind yX3_isOfKind, Cond.code yX3_isOfKind cX3_isOfKind 5 (some .boolean), Cond.fieldLink RX3 9 "TreeDebts$Told" "kinds" "[I", Cond.methodLink RX4 131 yX3_grownIn, Cond.instanceMethod yX3_grownIn, Cond.selects RX3 yX3_grownIn yX3_grownIn, Cond.code yX3_grownIn cX3_grownIn 6 (some .int), Cond.methodLink RX3 59 yX3_grownOnce, Cond.instanceMethod yX3_grownOnce, Cond.selects RX3 yX3_grownOnce yX3_grownOnce, Cond.code yX3_grownOnce cX3_grownOnce 6 (some .int), Cond.fieldLink RX3 18 "TreeDebts$Told" "rates" "[I", Cond.constant RX3 52 (1000000), Cond.methodLink RX3 53 Lib.Math.min.name]
def wsX4_as_r2 : List Cond := [Cond.static Lib.Math.min.name, Cond.initialized "java/lang/Math", Cond.code Lib.Math.min.name Lib.Math.min.code 2 (some .int)]
def wsX4_as : List Cond := .code yX4_as cX4_as 3 (some .int) :: ((wsX4_as_r1 ++ wsX4_as_r2) ++ wsX40 ++ wsX30)
def wsX4_borrow_r1 : List Cond := [Cond.fieldLink RX4 19 "TreeDebts" "told" "LTreeDebts$Told;", Cond.fieldLink RX4 26 "TreeDebts" "now" "LTreeDebts$State;", Cond.fieldLink RX4 83 "TreeDebts$State" "branches" "[I", Cond.fieldLink RX4 106 "TreeDebts$State" "loans" "I", Cond.methodLink RX4 75 yX3_has, Cond.instanceMethod yX3_has, Cond.selects RX3 yX3_has yX3_has, Cond.initialized RX3, Cond.code yX3_has cX3_has 2 (some .boolean), Cond.fieldLink RX3 37 "TreeDebts$Told" "trees" "I", Cond.methodLink RX4 135 yX1_lends, Cond.instanceMethod yX1_lends, Cond.selects RX1 yX1_lends yX1_lends, Cond.initialized RX1, Cond.code yX1_lends cX1_lends 3 (some .boolean), Cond.fieldLink RX1 15 "TreeDebts$State" "fates" "[I", Cond.methodLink RX1 65 yX1_isCross, Cond.instanceMethod yX1_isCross, Cond.selects RX1 yX1_isCross yX1_isCross, Cond.code yX1_isCross cX1_isCross 5 (some .boolean), Cond.fieldLink RX1 56 "TreeDebts$Told" "quarrels" "I", Cond.fieldLink RX1 59 "TreeDebts$Told" "ones" "[I", Cond.fieldLink RX1 62 "TreeDebts$Told" "others" "[I", Cond.methodLink RX1 52 yX1_owedTo]
def wsX4_borrow_r2 : List Cond := [Cond.instanceMethod yX1_owedTo, Cond.selects RX1 yX1_owedTo yX1_owedTo, Cond.code yX1_owedTo cX1_owedTo 4 (some .int), Cond.fieldLink RX1 37 "TreeDebts$State" "loans" "I", Cond.fieldLink RX1 18 "TreeDebts$State" "lenders" "[I", Cond.fieldLink RX1 24 "TreeDebts$State" "owed" "[I", Cond.methodLink RX4 138 yX1_lend, Cond.instanceMethod yX1_lend, Cond.selects RX1 yX1_lend yX1_lend, Cond.code yX1_lend cX1_lend 5 (some .int), Cond.fieldLink RX1 21 "TreeDebts$State" "lent" "[I", Cond.fieldLink RX1 27 "TreeDebts$State" "dues" "[I", Cond.fieldLink RX1 33 "TreeDebts$State" "day" "I", Cond.fieldLink RX1 30 "TreeDebts$State" "failed" "[I", Cond.fieldLink RX1 9 "TreeDebts$State" "branches" "[I", Cond.methodLink RX1 69 yX3_dueOf, Cond.instanceMethod yX3_dueOf, Cond.selects RX3 yX3_dueOf yX3_dueOf, Cond.code yX3_dueOf cX3_dueOf 3 (some .int), Cond.fieldLink RX3 9 "TreeDebts$Told" "kinds" "[I", Cond.fieldLink RX3 21 "TreeDebts$Told" "terms" "[I"]
def wsX4_borrow : List Cond := .code yX4_borrow cX4_borrow 3 (some .int) :: ((wsX4_borrow_r1 ++ wsX4_borrow_r2) ++ wsX40 ++ wsX10 ++ wsX30)
def wsX4_days_r1 : List Cond := [Cond.fieldLink RX4 26 "TreeDebts" "now" "LTreeDebts$State;", Cond.fieldLink RX4 142 "TreeDebts$State" "day" "I", Cond.fieldLink RX4 19 "TreeDebts" "told" "LTreeDebts$Told;", Cond.fieldLink RX4 145 "TreeDebts$Told" "hands" "I", Cond.methodLink RX4 148 yX1_passDays, Cond.instanceMethod yX1_passDays, Cond.selects RX1 yX1_passDays yX1_passDays, Cond.initialized RX1, Cond.code yX1_passDays cX1_passDays 5 none, Cond.fieldLink RX1 33 "TreeDebts$State" "day" "I", Cond.methodLink RX1 78 yX1_growLoans, Cond.instanceMethod yX1_growLoans, Cond.selects RX1 yX1_growLoans yX1_growLoans, Cond.code yX1_growLoans cX1_growLoans 3 none, Cond.fieldLink RX1 37 "TreeDebts$State" "loans" "I", Cond.fieldLink RX1 24 "TreeDebts$State" "owed" "[I", Cond.fieldLink RX1 18 "TreeDebts$State" "lenders" "[I", Cond.fieldLink RX1 21 "TreeDebts$State" "lent" "[I", Cond.methodLink RX1 89 yX3_grownOnce, Cond.instanceMethod yX3_grownOnce, Cond.selects RX3 yX3_grownOnce yX3_grownOnce, Cond.initialized RX3, Cond.code yX3_grownOnce cX3_grownOnce 6 (some .int), Cond.fieldLink RX3 18 "TreeDebts$Told" "rates" "[I"]
def wsX4_days_r2 : List Cond := [Cond.fieldLink RX3 9 "TreeDebts$Told" "kinds" "[I", Cond.constant RX3 52 (1000000), Cond.methodLink RX3 53 Lib.Math.min.name, Cond.static Lib.Math.min.name, Cond.initialized "java/lang/Math", Cond.code Lib.Math.min.name Lib.Math.min.code 2 (some .int), Cond.methodLink RX1 82 yX1_workOff, Cond.instanceMethod yX1_workOff, Cond.selects RX1 yX1_workOff yX1_workOff, Cond.code yX1_workOff cX1_workOff 6 none, Cond.methodLink RX1 73 Lib.Math.min.name, Cond.methodLink RX1 93 yX1_firstDue, Cond.instanceMethod yX1_firstDue, Cond.selects RX1 yX1_firstDue yX1_firstDue, Cond.code yX1_firstDue cX1_firstDue 3 (some .int), Cond.fieldLink RX1 27 "TreeDebts$State" "dues" "[I", Cond.methodLink RX1 97 yX1_addBranches, Cond.instanceMethod yX1_addBranches, Cond.selects RX1 yX1_addBranches yX1_addBranches, Cond.code yX1_addBranches cX1_addBranches 3 none, Cond.fieldLink RX1 9 "TreeDebts$State" "branches" "[I", Cond.methodLink RX1 101 yX1_removeLoan, Cond.instanceMethod yX1_removeLoan, Cond.selects RX1 yX1_removeLoan yX1_removeLoan]
def wsX4_days_r3 : List Cond := [Cond.code yX1_removeLoan cX1_removeLoan 3 none, Cond.fieldLink RX1 30 "TreeDebts$State" "failed" "[I", Cond.methodLink RX1 86 yX1_failDueLoans, Cond.instanceMethod yX1_failDueLoans, Cond.selects RX1 yX1_failDueLoans yX1_failDueLoans, Cond.code yX1_failDueLoans cX1_failDueLoans 2 none, Cond.fieldLink RX1 40 "TreeDebts$State" "failures" "I"]
def wsX4_days : List Cond := .code yX4_days cX4_days 2 (some .int) :: ((wsX4_days_r1 ++ (wsX4_days_r2 ++ wsX4_days_r3)) ++ wsX40 ++ wsX10 ++ wsX30)
def wsX4_fire : List Cond := .code yX4_fire cX4_fire 2 (some .int) :: ([.fieldLink RX4 26 "TreeDebts" "now" "LTreeDebts$State;", .fieldLink RX4 19 "TreeDebts" "told" "LTreeDebts$Told;", .methodLink RX4 152 yX1_burn, .instanceMethod yX1_burn, .selects RX1 yX1_burn yX1_burn, .initialized RX1, .code yX1_burn cX1_burn 5 (some .int), .fieldLink RX1 104 "TreeDebts$Told" "trees" "I", .fieldLink RX1 107 "TreeDebts$Told" "parts" "[I", .fieldLink RX1 15 "TreeDebts$State" "fates" "[I", .methodLink RX1 110 yX1_removeLoansOf, .instanceMethod yX1_removeLoansOf, .selects RX1 yX1_removeLoansOf yX1_removeLoansOf, .code yX1_removeLoansOf cX1_removeLoansOf 3 none, .fieldLink RX1 37 "TreeDebts$State" "loans" "I", .fieldLink RX1 18 "TreeDebts$State" "lenders" "[I", .methodLink RX1 101 yX1_removeLoan, .instanceMethod yX1_removeLoan, .selects RX1 yX1_removeLoan yX1_removeLoan, .code yX1_removeLoan cX1_removeLoan 3 none, .fieldLink RX1 21 "TreeDebts$State" "lent" "[I", .fieldLink RX1 24 "TreeDebts$State" "owed" "[I", .fieldLink RX1 27 "TreeDebts$State" "dues" "[I", .fieldLink RX1 30 "TreeDebts$State" "failed" "[I"] ++ wsX40 ++ wsX30 ++ wsX10)
def wsX4_sell_r1 : List Cond := [Cond.fieldLink RX4 19 "TreeDebts" "told" "LTreeDebts$Told;", Cond.fieldLink RX4 26 "TreeDebts" "now" "LTreeDebts$State;", Cond.fieldLink RX4 99 "TreeDebts$State" "fates" "[I", Cond.methodLink RX4 75 yX3_has, Cond.instanceMethod yX3_has, Cond.selects RX3 yX3_has yX3_has, Cond.initialized RX3, Cond.code yX3_has cX3_has 2 (some .boolean), Cond.fieldLink RX3 37 "TreeDebts$Told" "trees" "I", Cond.methodLink RX4 156 yX1_handOver, Cond.instanceMethod yX1_handOver, Cond.selects RX1 yX1_handOver yX1_handOver, Cond.initialized RX1, Cond.code yX1_handOver cX1_handOver 5 (some .int), Cond.fieldLink RX1 37 "TreeDebts$State" "loans" "I", Cond.fieldLink RX1 18 "TreeDebts$State" "lenders" "[I", Cond.fieldLink RX1 9 "TreeDebts$State" "branches" "[I", Cond.fieldLink RX1 15 "TreeDebts$State" "fates" "[I", Cond.methodLink RX1 97 yX1_addBranches, Cond.instanceMethod yX1_addBranches, Cond.selects RX1 yX1_addBranches yX1_addBranches, Cond.code yX1_addBranches cX1_addBranches 3 none, Cond.methodLink RX1 73 Lib.Math.min.name, Cond.static Lib.Math.min.name]
def wsX4_sell_r2 : List Cond := [Cond.initialized "java/lang/Math", Cond.code Lib.Math.min.name Lib.Math.min.code 2 (some .int)]
def wsX4_sell : List Cond := .code yX4_sell cX4_sell 3 (some .int) :: ((wsX4_sell_r1 ++ wsX4_sell_r2) ++ wsX40 ++ wsX10 ++ wsX30)
def wsX4_keep : List Cond := .code yX4_keep cX4_keep 2 (some .int) :: ([.fieldLink RX4 33 "TreeDebts" "kept" "[LTreeDebts$State;", .fieldLink RX4 26 "TreeDebts" "now" "LTreeDebts$State;", .fieldLink RX4 37 "TreeDebts" "isKept" "[Z", .fieldLink RX4 142 "TreeDebts$State" "day" "I", .methodLink RX4 160 yX1_copyFrom, .instanceMethod yX1_copyFrom, .selects RX1 yX1_copyFrom yX1_copyFrom, .initialized RX1, .code yX1_copyFrom cX1_copyFrom 2 none, .fieldLink RX1 33 "TreeDebts$State" "day" "I", .fieldLink RX1 9 "TreeDebts$State" "branches" "[I", .methodLink RX1 46 arraycopyName, .native arraycopyName, .static arraycopyName, .initialized "java/lang/System", .fieldLink RX1 15 "TreeDebts$State" "fates" "[I", .fieldLink RX1 37 "TreeDebts$State" "loans" "I", .fieldLink RX1 18 "TreeDebts$State" "lenders" "[I", .fieldLink RX1 21 "TreeDebts$State" "lent" "[I", .fieldLink RX1 24 "TreeDebts$State" "owed" "[I", .fieldLink RX1 27 "TreeDebts$State" "dues" "[I", .fieldLink RX1 30 "TreeDebts$State" "failed" "[I", .fieldLink RX1 40 "TreeDebts$State" "failures" "I"] ++ wsX40 ++ wsX10)
def wsX4_back : List Cond := .code yX4_back cX4_back 2 (some .int) :: ([.fieldLink RX4 33 "TreeDebts" "kept" "[LTreeDebts$State;", .fieldLink RX4 37 "TreeDebts" "isKept" "[Z", .fieldLink RX4 26 "TreeDebts" "now" "LTreeDebts$State;", .fieldLink RX4 142 "TreeDebts$State" "day" "I", .methodLink RX4 160 yX1_copyFrom, .instanceMethod yX1_copyFrom, .selects RX1 yX1_copyFrom yX1_copyFrom, .initialized RX1, .code yX1_copyFrom cX1_copyFrom 2 none, .fieldLink RX1 33 "TreeDebts$State" "day" "I", .fieldLink RX1 9 "TreeDebts$State" "branches" "[I", .methodLink RX1 46 arraycopyName, .native arraycopyName, .static arraycopyName, .initialized "java/lang/System", .fieldLink RX1 15 "TreeDebts$State" "fates" "[I", .fieldLink RX1 37 "TreeDebts$State" "loans" "I", .fieldLink RX1 18 "TreeDebts$State" "lenders" "[I", .fieldLink RX1 21 "TreeDebts$State" "lent" "[I", .fieldLink RX1 24 "TreeDebts$State" "owed" "[I", .fieldLink RX1 27 "TreeDebts$State" "dues" "[I", .fieldLink RX1 30 "TreeDebts$State" "failed" "[I", .fieldLink RX1 40 "TreeDebts$State" "failures" "I"] ++ wsX40 ++ wsX10)
def wsX4_foretell_r1 : List Cond := [Cond.fieldLink RX4 30 "TreeDebts" "foretold" "LTreeDebts$State;", Cond.fieldLink RX4 26 "TreeDebts" "now" "LTreeDebts$State;", Cond.fieldLink RX4 19 "TreeDebts" "told" "LTreeDebts$Told;", Cond.fieldLink RX4 145 "TreeDebts$Told" "hands" "I", Cond.methodLink RX4 160 yX1_copyFrom, Cond.instanceMethod yX1_copyFrom, Cond.selects RX1 yX1_copyFrom yX1_copyFrom, Cond.initialized RX1, Cond.code yX1_copyFrom cX1_copyFrom 2 none, Cond.fieldLink RX1 33 "TreeDebts$State" "day" "I", Cond.fieldLink RX1 9 "TreeDebts$State" "branches" "[I", Cond.methodLink RX1 46 arraycopyName, Cond.native arraycopyName, Cond.static arraycopyName, Cond.initialized "java/lang/System", Cond.fieldLink RX1 15 "TreeDebts$State" "fates" "[I", Cond.fieldLink RX1 37 "TreeDebts$State" "loans" "I", Cond.fieldLink RX1 18 "TreeDebts$State" "lenders" "[I", Cond.fieldLink RX1 21 "TreeDebts$State" "lent" "[I", Cond.fieldLink RX1 24 "TreeDebts$State" "owed" "[I", Cond.fieldLink RX1 27 "TreeDebts$State" "dues" "[I", Cond.fieldLink RX1 30 "TreeDebts$State" "failed" "[I", Cond.fieldLink RX1 40 "TreeDebts$State" "failures" "I", Cond.methodLink RX4 148 yX1_passDays]
def wsX4_foretell_r2 : List Cond := [Cond.instanceMethod yX1_passDays, Cond.selects RX1 yX1_passDays yX1_passDays, Cond.code yX1_passDays cX1_passDays 5 none, Cond.methodLink RX1 78 yX1_growLoans, Cond.instanceMethod yX1_growLoans, Cond.selects RX1 yX1_growLoans yX1_growLoans, Cond.code yX1_growLoans cX1_growLoans 3 none, Cond.methodLink RX1 89 yX3_grownOnce, Cond.instanceMethod yX3_grownOnce, Cond.selects RX3 yX3_grownOnce yX3_grownOnce, Cond.initialized RX3, Cond.code yX3_grownOnce cX3_grownOnce 6 (some .int), Cond.fieldLink RX3 18 "TreeDebts$Told" "rates" "[I", Cond.fieldLink RX3 9 "TreeDebts$Told" "kinds" "[I", Cond.constant RX3 52 (1000000), Cond.methodLink RX3 53 Lib.Math.min.name, Cond.static Lib.Math.min.name, Cond.initialized "java/lang/Math", Cond.code Lib.Math.min.name Lib.Math.min.code 2 (some .int), Cond.methodLink RX1 82 yX1_workOff, Cond.instanceMethod yX1_workOff, Cond.selects RX1 yX1_workOff yX1_workOff, Cond.code yX1_workOff cX1_workOff 6 none, Cond.methodLink RX1 73 Lib.Math.min.name]
def wsX4_foretell_r3 : List Cond := [Cond.methodLink RX1 93 yX1_firstDue, Cond.instanceMethod yX1_firstDue, Cond.selects RX1 yX1_firstDue yX1_firstDue, Cond.code yX1_firstDue cX1_firstDue 3 (some .int), Cond.methodLink RX1 97 yX1_addBranches, Cond.instanceMethod yX1_addBranches, Cond.selects RX1 yX1_addBranches yX1_addBranches, Cond.code yX1_addBranches cX1_addBranches 3 none, Cond.methodLink RX1 101 yX1_removeLoan, Cond.instanceMethod yX1_removeLoan, Cond.selects RX1 yX1_removeLoan yX1_removeLoan, Cond.code yX1_removeLoan cX1_removeLoan 3 none, Cond.methodLink RX1 86 yX1_failDueLoans, Cond.instanceMethod yX1_failDueLoans, Cond.selects RX1 yX1_failDueLoans yX1_failDueLoans, Cond.code yX1_failDueLoans cX1_failDueLoans 2 none]
def wsX4_foretell : List Cond := .code yX4_foretell cX4_foretell 2 none :: ((wsX4_foretell_r1 ++ (wsX4_foretell_r2 ++ wsX4_foretell_r3)) ++ wsX40 ++ wsX30 ++ wsX10)
def wsX4_later_r1 : List Cond := [Cond.fieldLink RX4 19 "TreeDebts" "told" "LTreeDebts$Told;", Cond.fieldLink RX4 30 "TreeDebts" "foretold" "LTreeDebts$State;", Cond.methodLink RX4 75 yX3_has, Cond.instanceMethod yX3_has, Cond.selects RX3 yX3_has yX3_has, Cond.initialized RX3, Cond.code yX3_has cX3_has 2 (some .boolean), Cond.fieldLink RX3 37 "TreeDebts$Told" "trees" "I", Cond.methodLink RX4 163 yX4_foretell, Cond.instanceMethod yX4_foretell, Cond.selects RX4 yX4_foretell yX4_foretell, Cond.initialized RX4, Cond.code yX4_foretell cX4_foretell 2 none, Cond.fieldLink RX4 26 "TreeDebts" "now" "LTreeDebts$State;", Cond.fieldLink RX4 145 "TreeDebts$Told" "hands" "I", Cond.methodLink RX4 160 yX1_copyFrom, Cond.instanceMethod yX1_copyFrom, Cond.selects RX1 yX1_copyFrom yX1_copyFrom, Cond.initialized RX1, Cond.code yX1_copyFrom cX1_copyFrom 2 none, Cond.fieldLink RX1 33 "TreeDebts$State" "day" "I", Cond.fieldLink RX1 9 "TreeDebts$State" "branches" "[I", Cond.methodLink RX1 46 arraycopyName, Cond.native arraycopyName]
def wsX4_later_r2 : List Cond := [Cond.static arraycopyName, Cond.initialized "java/lang/System", Cond.fieldLink RX1 15 "TreeDebts$State" "fates" "[I", Cond.fieldLink RX1 37 "TreeDebts$State" "loans" "I", Cond.fieldLink RX1 18 "TreeDebts$State" "lenders" "[I", Cond.fieldLink RX1 21 "TreeDebts$State" "lent" "[I", Cond.fieldLink RX1 24 "TreeDebts$State" "owed" "[I", Cond.fieldLink RX1 27 "TreeDebts$State" "dues" "[I", Cond.fieldLink RX1 30 "TreeDebts$State" "failed" "[I", Cond.fieldLink RX1 40 "TreeDebts$State" "failures" "I", Cond.methodLink RX4 148 yX1_passDays, Cond.instanceMethod yX1_passDays, Cond.selects RX1 yX1_passDays yX1_passDays, Cond.code yX1_passDays cX1_passDays 5 none, Cond.methodLink RX1 78 yX1_growLoans, Cond.instanceMethod yX1_growLoans, Cond.selects RX1 yX1_growLoans yX1_growLoans, Cond.code yX1_growLoans cX1_growLoans 3 none, Cond.methodLink RX1 89 yX3_grownOnce, Cond.instanceMethod yX3_grownOnce, Cond.selects RX3 yX3_grownOnce yX3_grownOnce, Cond.code yX3_grownOnce cX3_grownOnce 6 (some .int), Cond.fieldLink RX3 18 "TreeDebts$Told" "rates" "[I", Cond.fieldLink RX3 9 "TreeDebts$Told" "kinds" "[I"]
def wsX4_later_r3 : List Cond := [Cond.constant RX3 52 (1000000), Cond.methodLink RX3 53 Lib.Math.min.name, Cond.static Lib.Math.min.name, Cond.initialized "java/lang/Math", Cond.code Lib.Math.min.name Lib.Math.min.code 2 (some .int), Cond.methodLink RX1 82 yX1_workOff, Cond.instanceMethod yX1_workOff, Cond.selects RX1 yX1_workOff yX1_workOff, Cond.code yX1_workOff cX1_workOff 6 none, Cond.methodLink RX1 73 Lib.Math.min.name, Cond.methodLink RX1 93 yX1_firstDue, Cond.instanceMethod yX1_firstDue, Cond.selects RX1 yX1_firstDue yX1_firstDue, Cond.code yX1_firstDue cX1_firstDue 3 (some .int), Cond.methodLink RX1 97 yX1_addBranches, Cond.instanceMethod yX1_addBranches, Cond.selects RX1 yX1_addBranches yX1_addBranches, Cond.code yX1_addBranches cX1_addBranches 3 none, Cond.methodLink RX1 101 yX1_removeLoan, Cond.instanceMethod yX1_removeLoan, Cond.selects RX1 yX1_removeLoan yX1_removeLoan, Cond.code yX1_removeLoan cX1_removeLoan 3 none, Cond.methodLink RX1 86 yX1_failDueLoans, Cond.instanceMethod yX1_failDueLoans]
def wsX4_later_r4 : List Cond := [Cond.selects RX1 yX1_failDueLoans yX1_failDueLoans, Cond.code yX1_failDueLoans cX1_failDueLoans 2 none, Cond.methodLink RX4 95 yX1_owedTo, Cond.instanceMethod yX1_owedTo, Cond.selects RX1 yX1_owedTo yX1_owedTo, Cond.code yX1_owedTo cX1_owedTo 4 (some .int)]
def wsX4_later : List Cond := .code yX4_later cX4_later 3 (some .int) :: ((wsX4_later_r1 ++ (wsX4_later_r2 ++ (wsX4_later_r3 ++ wsX4_later_r4))) ++ wsX40 ++ wsX30 ++ wsX10)
def wsX4_all_r1 : List Cond := [Cond.fieldLink RX4 30 "TreeDebts" "foretold" "LTreeDebts$State;", Cond.fieldLink RX4 170 "TreeDebts$State" "failures" "I", Cond.methodLink RX4 163 yX4_foretell, Cond.instanceMethod yX4_foretell, Cond.selects RX4 yX4_foretell yX4_foretell, Cond.initialized RX4, Cond.code yX4_foretell cX4_foretell 2 none, Cond.fieldLink RX4 26 "TreeDebts" "now" "LTreeDebts$State;", Cond.fieldLink RX4 19 "TreeDebts" "told" "LTreeDebts$Told;", Cond.fieldLink RX4 145 "TreeDebts$Told" "hands" "I", Cond.methodLink RX4 160 yX1_copyFrom, Cond.instanceMethod yX1_copyFrom, Cond.selects RX1 yX1_copyFrom yX1_copyFrom, Cond.initialized RX1, Cond.code yX1_copyFrom cX1_copyFrom 2 none, Cond.fieldLink RX1 33 "TreeDebts$State" "day" "I", Cond.fieldLink RX1 9 "TreeDebts$State" "branches" "[I", Cond.methodLink RX1 46 arraycopyName, Cond.native arraycopyName, Cond.static arraycopyName, Cond.initialized "java/lang/System", Cond.fieldLink RX1 15 "TreeDebts$State" "fates" "[I", Cond.fieldLink RX1 37 "TreeDebts$State" "loans" "I", Cond.fieldLink RX1 18 "TreeDebts$State" "lenders" "[I"]
def wsX4_all_r2 : List Cond := [Cond.fieldLink RX1 21 "TreeDebts$State" "lent" "[I", Cond.fieldLink RX1 24 "TreeDebts$State" "owed" "[I", Cond.fieldLink RX1 27 "TreeDebts$State" "dues" "[I", Cond.fieldLink RX1 30 "TreeDebts$State" "failed" "[I", Cond.fieldLink RX1 40 "TreeDebts$State" "failures" "I", Cond.methodLink RX4 148 yX1_passDays, Cond.instanceMethod yX1_passDays, Cond.selects RX1 yX1_passDays yX1_passDays, Cond.code yX1_passDays cX1_passDays 5 none, Cond.methodLink RX1 78 yX1_growLoans, Cond.instanceMethod yX1_growLoans, Cond.selects RX1 yX1_growLoans yX1_growLoans, Cond.code yX1_growLoans cX1_growLoans 3 none, Cond.methodLink RX1 89 yX3_grownOnce, Cond.instanceMethod yX3_grownOnce, Cond.selects RX3 yX3_grownOnce yX3_grownOnce, Cond.initialized RX3, Cond.code yX3_grownOnce cX3_grownOnce 6 (some .int), Cond.fieldLink RX3 18 "TreeDebts$Told" "rates" "[I", Cond.fieldLink RX3 9 "TreeDebts$Told" "kinds" "[I", Cond.constant RX3 52 (1000000), Cond.methodLink RX3 53 Lib.Math.min.name, Cond.static Lib.Math.min.name, Cond.initialized "java/lang/Math"]
def wsX4_all_r3 : List Cond := [Cond.code Lib.Math.min.name Lib.Math.min.code 2 (some .int), Cond.methodLink RX1 82 yX1_workOff, Cond.instanceMethod yX1_workOff, Cond.selects RX1 yX1_workOff yX1_workOff, Cond.code yX1_workOff cX1_workOff 6 none, Cond.methodLink RX1 73 Lib.Math.min.name, Cond.methodLink RX1 93 yX1_firstDue, Cond.instanceMethod yX1_firstDue, Cond.selects RX1 yX1_firstDue yX1_firstDue, Cond.code yX1_firstDue cX1_firstDue 3 (some .int), Cond.methodLink RX1 97 yX1_addBranches, Cond.instanceMethod yX1_addBranches, Cond.selects RX1 yX1_addBranches yX1_addBranches, Cond.code yX1_addBranches cX1_addBranches 3 none, Cond.methodLink RX1 101 yX1_removeLoan, Cond.instanceMethod yX1_removeLoan, Cond.selects RX1 yX1_removeLoan yX1_removeLoan, Cond.code yX1_removeLoan cX1_removeLoan 3 none, Cond.methodLink RX1 86 yX1_failDueLoans, Cond.instanceMethod yX1_failDueLoans, Cond.selects RX1 yX1_failDueLoans yX1_failDueLoans, Cond.code yX1_failDueLoans cX1_failDueLoans 2 none, Cond.methodLink RX4 166 yX1_owedInAll, Cond.instanceMethod yX1_owedInAll]
def wsX4_all_r4 : List Cond := [Cond.selects RX1 yX1_owedInAll yX1_owedInAll, Cond.code yX1_owedInAll cX1_owedInAll 3 (some .int)]
def wsX4_all : List Cond := .code yX4_all cX4_all 3 (some .int) :: ((wsX4_all_r1 ++ (wsX4_all_r2 ++ (wsX4_all_r3 ++ wsX4_all_r4))) ++ wsX40 ++ wsX10 ++ wsX30)
def wsX4_clear_r1 : List Cond := [Cond.fieldLink RX4 30 "TreeDebts" "foretold" "LTreeDebts$State;", Cond.fieldLink RX4 106 "TreeDebts$State" "loans" "I", Cond.fieldLink RX4 19 "TreeDebts" "told" "LTreeDebts$Told;", Cond.fieldLink RX4 145 "TreeDebts$Told" "hands" "I", Cond.methodLink RX4 163 yX4_foretell, Cond.instanceMethod yX4_foretell, Cond.selects RX4 yX4_foretell yX4_foretell, Cond.initialized RX4, Cond.code yX4_foretell cX4_foretell 2 none, Cond.fieldLink RX4 26 "TreeDebts" "now" "LTreeDebts$State;", Cond.methodLink RX4 160 yX1_copyFrom, Cond.instanceMethod yX1_copyFrom, Cond.selects RX1 yX1_copyFrom yX1_copyFrom, Cond.initialized RX1, Cond.code yX1_copyFrom cX1_copyFrom 2 none, Cond.fieldLink RX1 33 "TreeDebts$State" "day" "I", Cond.fieldLink RX1 9 "TreeDebts$State" "branches" "[I", Cond.methodLink RX1 46 arraycopyName, Cond.native arraycopyName, Cond.static arraycopyName, Cond.initialized "java/lang/System", Cond.fieldLink RX1 15 "TreeDebts$State" "fates" "[I", Cond.fieldLink RX1 37 "TreeDebts$State" "loans" "I", Cond.fieldLink RX1 18 "TreeDebts$State" "lenders" "[I"]
def wsX4_clear_r2 : List Cond := [Cond.fieldLink RX1 21 "TreeDebts$State" "lent" "[I", Cond.fieldLink RX1 24 "TreeDebts$State" "owed" "[I", Cond.fieldLink RX1 27 "TreeDebts$State" "dues" "[I", Cond.fieldLink RX1 30 "TreeDebts$State" "failed" "[I", Cond.fieldLink RX1 40 "TreeDebts$State" "failures" "I", Cond.methodLink RX4 148 yX1_passDays, Cond.instanceMethod yX1_passDays, Cond.selects RX1 yX1_passDays yX1_passDays, Cond.code yX1_passDays cX1_passDays 5 none, Cond.methodLink RX1 78 yX1_growLoans, Cond.instanceMethod yX1_growLoans, Cond.selects RX1 yX1_growLoans yX1_growLoans, Cond.code yX1_growLoans cX1_growLoans 3 none, Cond.methodLink RX1 89 yX3_grownOnce, Cond.instanceMethod yX3_grownOnce, Cond.selects RX3 yX3_grownOnce yX3_grownOnce, Cond.initialized RX3, Cond.code yX3_grownOnce cX3_grownOnce 6 (some .int), Cond.fieldLink RX3 18 "TreeDebts$Told" "rates" "[I", Cond.fieldLink RX3 9 "TreeDebts$Told" "kinds" "[I", Cond.constant RX3 52 (1000000), Cond.methodLink RX3 53 Lib.Math.min.name, Cond.static Lib.Math.min.name, Cond.initialized "java/lang/Math"]
def wsX4_clear_r3 : List Cond := [Cond.code Lib.Math.min.name Lib.Math.min.code 2 (some .int), Cond.methodLink RX1 82 yX1_workOff, Cond.instanceMethod yX1_workOff, Cond.selects RX1 yX1_workOff yX1_workOff, Cond.code yX1_workOff cX1_workOff 6 none, Cond.methodLink RX1 73 Lib.Math.min.name, Cond.methodLink RX1 93 yX1_firstDue, Cond.instanceMethod yX1_firstDue, Cond.selects RX1 yX1_firstDue yX1_firstDue, Cond.code yX1_firstDue cX1_firstDue 3 (some .int), Cond.methodLink RX1 97 yX1_addBranches, Cond.instanceMethod yX1_addBranches, Cond.selects RX1 yX1_addBranches yX1_addBranches, Cond.code yX1_addBranches cX1_addBranches 3 none, Cond.methodLink RX1 101 yX1_removeLoan, Cond.instanceMethod yX1_removeLoan, Cond.selects RX1 yX1_removeLoan yX1_removeLoan, Cond.code yX1_removeLoan cX1_removeLoan 3 none, Cond.methodLink RX1 86 yX1_failDueLoans, Cond.instanceMethod yX1_failDueLoans, Cond.selects RX1 yX1_failDueLoans yX1_failDueLoans, Cond.code yX1_failDueLoans cX1_failDueLoans 2 none]
def wsX4_clear : List Cond := .code yX4_clear cX4_clear 2 (some .int) :: ((wsX4_clear_r1 ++ (wsX4_clear_r2 ++ wsX4_clear_r3)) ++ wsX40 ++ wsX10 ++ wsX30)
def wsX4_hut_r1 : List Cond := [Cond.fieldLink RX4 19 "TreeDebts" "told" "LTreeDebts$Told;", Cond.fieldLink RX4 44 "TreeDebts" "hutPlan" "LTreeDebts$HutPlan;", Cond.fieldLink RX4 26 "TreeDebts" "now" "LTreeDebts$State;", Cond.fieldLink RX4 180 "TreeDebts$HutPlan" "from" "[I", Cond.methodLink RX4 75 yX3_has, Cond.instanceMethod yX3_has, Cond.selects RX3 yX3_has yX3_has, Cond.initialized RX3, Cond.code yX3_has cX3_has 2 (some .boolean), Cond.fieldLink RX3 37 "TreeDebts$Told" "trees" "I", Cond.methodLink RX4 173 yX0_find, Cond.instanceMethod yX0_find, Cond.selects RX0 yX0_find yX0_find, Cond.initialized RX0, Cond.code yX0_find cX0_find 8 (some .boolean), Cond.fieldLink RX0 26 "TreeDebts$HutPlan" "hutBranches" "I", Cond.fieldLink RX0 11 "TreeDebts$HutPlan" "least" "[[I", Cond.fieldLink RX0 30 "TreeDebts$Told" "trees" "I", Cond.constant RX0 35 (100000000), Cond.fieldLink RX0 42 "TreeDebts$State" "branches" "[I", Cond.methodLink RX0 45 Lib.Math.min.name, Cond.static Lib.Math.min.name, Cond.initialized "java/lang/Math", Cond.code Lib.Math.min.name Lib.Math.min.code 2 (some .int)]
def wsX4_hut_r2 : List Cond := [Cond.fieldLink RX0 19 "TreeDebts$HutPlan" "costs" "[I", Cond.methodLink RX0 36 yX1_lends, Cond.instanceMethod yX1_lends, Cond.selects RX1 yX1_lends yX1_lends, Cond.initialized RX1, Cond.code yX1_lends cX1_lends 3 (some .boolean), Cond.fieldLink RX1 15 "TreeDebts$State" "fates" "[I", Cond.methodLink RX1 65 yX1_isCross, Cond.instanceMethod yX1_isCross, Cond.selects RX1 yX1_isCross yX1_isCross, Cond.code yX1_isCross cX1_isCross 5 (some .boolean), Cond.fieldLink RX1 56 "TreeDebts$Told" "quarrels" "I", Cond.fieldLink RX1 59 "TreeDebts$Told" "ones" "[I", Cond.fieldLink RX1 62 "TreeDebts$Told" "others" "[I", Cond.methodLink RX1 52 yX1_owedTo, Cond.instanceMethod yX1_owedTo, Cond.selects RX1 yX1_owedTo yX1_owedTo, Cond.code yX1_owedTo cX1_owedTo 4 (some .int), Cond.fieldLink RX1 37 "TreeDebts$State" "loans" "I", Cond.fieldLink RX1 18 "TreeDebts$State" "lenders" "[I", Cond.fieldLink RX1 24 "TreeDebts$State" "owed" "[I", Cond.methodLink RX0 51 yX3_grownIn, Cond.instanceMethod yX3_grownIn, Cond.selects RX3 yX3_grownIn yX3_grownIn]
def wsX4_hut_r3 : List Cond := [Cond.code yX3_grownIn cX3_grownIn 6 (some .int), Cond.methodLink RX3 59 yX3_grownOnce, Cond.instanceMethod yX3_grownOnce, Cond.selects RX3 yX3_grownOnce yX3_grownOnce, Cond.code yX3_grownOnce cX3_grownOnce 6 (some .int), Cond.fieldLink RX3 18 "TreeDebts$Told" "rates" "[I", Cond.fieldLink RX3 9 "TreeDebts$Told" "kinds" "[I", Cond.constant RX3 52 (1000000), Cond.methodLink RX3 53 Lib.Math.min.name, Cond.methodLink RX0 55 yX0_chooseFrom, Cond.instanceMethod yX0_chooseFrom, Cond.selects RX0 yX0_chooseFrom yX0_chooseFrom, Cond.code yX0_chooseFrom cX0_chooseFrom 8 none, Cond.fieldLink RX0 16 "TreeDebts$HutPlan" "choice" "[[I", Cond.methodLink RX0 59 yX0_owedTogether, Cond.instanceMethod yX0_owedTogether, Cond.selects RX0 yX0_owedTogether yX0_owedTogether, Cond.code yX0_owedTogether cX0_owedTogether 1 (some .int), Cond.methodLink RX0 63 yX0_followChoices, Cond.instanceMethod yX0_followChoices, Cond.selects RX0 yX0_followChoices yX0_followChoices, Cond.code yX0_followChoices cX0_followChoices 4 none, Cond.fieldLink RX0 23 "TreeDebts$HutPlan" "from" "[I", Cond.methodLink RX4 177 yX0_owedTogether]
def wsX4_hut : List Cond := .code yX4_hut cX4_hut 4 (some .int) :: ((wsX4_hut_r1 ++ (wsX4_hut_r2 ++ wsX4_hut_r3)) ++ wsX40 ++ wsX00 ++ wsX30 ++ wsX10)
def wsX4_anyFails_r1 : List Cond := [Cond.fieldLink RX4 30 "TreeDebts" "foretold" "LTreeDebts$State;", Cond.fieldLink RX4 26 "TreeDebts" "now" "LTreeDebts$State;", Cond.fieldLink RX4 19 "TreeDebts" "told" "LTreeDebts$Told;", Cond.fieldLink RX4 170 "TreeDebts$State" "failures" "I", Cond.methodLink RX4 160 yX1_copyFrom, Cond.instanceMethod yX1_copyFrom, Cond.selects RX1 yX1_copyFrom yX1_copyFrom, Cond.initialized RX1, Cond.code yX1_copyFrom cX1_copyFrom 2 none, Cond.fieldLink RX1 33 "TreeDebts$State" "day" "I", Cond.fieldLink RX1 9 "TreeDebts$State" "branches" "[I", Cond.methodLink RX1 46 arraycopyName, Cond.native arraycopyName, Cond.static arraycopyName, Cond.initialized "java/lang/System", Cond.fieldLink RX1 15 "TreeDebts$State" "fates" "[I", Cond.fieldLink RX1 37 "TreeDebts$State" "loans" "I", Cond.fieldLink RX1 18 "TreeDebts$State" "lenders" "[I", Cond.fieldLink RX1 21 "TreeDebts$State" "lent" "[I", Cond.fieldLink RX1 24 "TreeDebts$State" "owed" "[I", Cond.fieldLink RX1 27 "TreeDebts$State" "dues" "[I", Cond.fieldLink RX1 30 "TreeDebts$State" "failed" "[I", Cond.fieldLink RX1 40 "TreeDebts$State" "failures" "I", Cond.methodLink RX4 148 yX1_passDays]
def wsX4_anyFails_r2 : List Cond := [Cond.instanceMethod yX1_passDays, Cond.selects RX1 yX1_passDays yX1_passDays, Cond.code yX1_passDays cX1_passDays 5 none, Cond.methodLink RX1 78 yX1_growLoans, Cond.instanceMethod yX1_growLoans, Cond.selects RX1 yX1_growLoans yX1_growLoans, Cond.code yX1_growLoans cX1_growLoans 3 none, Cond.methodLink RX1 89 yX3_grownOnce, Cond.instanceMethod yX3_grownOnce, Cond.selects RX3 yX3_grownOnce yX3_grownOnce, Cond.initialized RX3, Cond.code yX3_grownOnce cX3_grownOnce 6 (some .int), Cond.fieldLink RX3 18 "TreeDebts$Told" "rates" "[I", Cond.fieldLink RX3 9 "TreeDebts$Told" "kinds" "[I", Cond.constant RX3 52 (1000000), Cond.methodLink RX3 53 Lib.Math.min.name, Cond.static Lib.Math.min.name, Cond.initialized "java/lang/Math", Cond.code Lib.Math.min.name Lib.Math.min.code 2 (some .int), Cond.methodLink RX1 82 yX1_workOff, Cond.instanceMethod yX1_workOff, Cond.selects RX1 yX1_workOff yX1_workOff, Cond.code yX1_workOff cX1_workOff 6 none, Cond.methodLink RX1 73 Lib.Math.min.name]
def wsX4_anyFails_r3 : List Cond := [Cond.methodLink RX1 93 yX1_firstDue, Cond.instanceMethod yX1_firstDue, Cond.selects RX1 yX1_firstDue yX1_firstDue, Cond.code yX1_firstDue cX1_firstDue 3 (some .int), Cond.methodLink RX1 97 yX1_addBranches, Cond.instanceMethod yX1_addBranches, Cond.selects RX1 yX1_addBranches yX1_addBranches, Cond.code yX1_addBranches cX1_addBranches 3 none, Cond.methodLink RX1 101 yX1_removeLoan, Cond.instanceMethod yX1_removeLoan, Cond.selects RX1 yX1_removeLoan yX1_removeLoan, Cond.code yX1_removeLoan cX1_removeLoan 3 none, Cond.methodLink RX1 86 yX1_failDueLoans, Cond.instanceMethod yX1_failDueLoans, Cond.selects RX1 yX1_failDueLoans yX1_failDueLoans, Cond.code yX1_failDueLoans cX1_failDueLoans 2 none]
def wsX4_anyFails : List Cond := .code yX4_anyFails cX4_anyFails 4 (some .boolean) :: ((wsX4_anyFails_r1 ++ (wsX4_anyFails_r2 ++ wsX4_anyFails_r3)) ++ wsX40 ++ wsX10 ++ wsX30)
def wsX4_enough_r1 : List Cond := [Cond.methodLink RX4 183 yX4_anyFails, Cond.instanceMethod yX4_anyFails, Cond.selects RX4 yX4_anyFails yX4_anyFails, Cond.initialized RX4, Cond.code yX4_anyFails cX4_anyFails 4 (some .boolean), Cond.fieldLink RX4 30 "TreeDebts" "foretold" "LTreeDebts$State;", Cond.fieldLink RX4 26 "TreeDebts" "now" "LTreeDebts$State;", Cond.fieldLink RX4 19 "TreeDebts" "told" "LTreeDebts$Told;", Cond.fieldLink RX4 170 "TreeDebts$State" "failures" "I", Cond.methodLink RX4 160 yX1_copyFrom, Cond.instanceMethod yX1_copyFrom, Cond.selects RX1 yX1_copyFrom yX1_copyFrom, Cond.initialized RX1, Cond.code yX1_copyFrom cX1_copyFrom 2 none, Cond.fieldLink RX1 33 "TreeDebts$State" "day" "I", Cond.fieldLink RX1 9 "TreeDebts$State" "branches" "[I", Cond.methodLink RX1 46 arraycopyName, Cond.native arraycopyName, Cond.static arraycopyName, Cond.initialized "java/lang/System", Cond.fieldLink RX1 15 "TreeDebts$State" "fates" "[I", Cond.fieldLink RX1 37 "TreeDebts$State" "loans" "I", Cond.fieldLink RX1 18 "TreeDebts$State" "lenders" "[I", Cond.fieldLink RX1 21 "TreeDebts$State" "lent" "[I"]
def wsX4_enough_r2 : List Cond := [Cond.fieldLink RX1 24 "TreeDebts$State" "owed" "[I", Cond.fieldLink RX1 27 "TreeDebts$State" "dues" "[I", Cond.fieldLink RX1 30 "TreeDebts$State" "failed" "[I", Cond.fieldLink RX1 40 "TreeDebts$State" "failures" "I", Cond.methodLink RX4 148 yX1_passDays, Cond.instanceMethod yX1_passDays, Cond.selects RX1 yX1_passDays yX1_passDays, Cond.code yX1_passDays cX1_passDays 5 none, Cond.methodLink RX1 78 yX1_growLoans, Cond.instanceMethod yX1_growLoans, Cond.selects RX1 yX1_growLoans yX1_growLoans, Cond.code yX1_growLoans cX1_growLoans 3 none, Cond.methodLink RX1 89 yX3_grownOnce, Cond.instanceMethod yX3_grownOnce, Cond.selects RX3 yX3_grownOnce yX3_grownOnce, Cond.initialized RX3, Cond.code yX3_grownOnce cX3_grownOnce 6 (some .int), Cond.fieldLink RX3 18 "TreeDebts$Told" "rates" "[I", Cond.fieldLink RX3 9 "TreeDebts$Told" "kinds" "[I", Cond.constant RX3 52 (1000000), Cond.methodLink RX3 53 Lib.Math.min.name, Cond.static Lib.Math.min.name, Cond.initialized "java/lang/Math", Cond.code Lib.Math.min.name Lib.Math.min.code 2 (some .int)]
def wsX4_enough_r3 : List Cond := [Cond.methodLink RX1 82 yX1_workOff, Cond.instanceMethod yX1_workOff, Cond.selects RX1 yX1_workOff yX1_workOff, Cond.code yX1_workOff cX1_workOff 6 none, Cond.methodLink RX1 73 Lib.Math.min.name, Cond.methodLink RX1 93 yX1_firstDue, Cond.instanceMethod yX1_firstDue, Cond.selects RX1 yX1_firstDue yX1_firstDue, Cond.code yX1_firstDue cX1_firstDue 3 (some .int), Cond.methodLink RX1 97 yX1_addBranches, Cond.instanceMethod yX1_addBranches, Cond.selects RX1 yX1_addBranches yX1_addBranches, Cond.code yX1_addBranches cX1_addBranches 3 none, Cond.methodLink RX1 101 yX1_removeLoan, Cond.instanceMethod yX1_removeLoan, Cond.selects RX1 yX1_removeLoan yX1_removeLoan, Cond.code yX1_removeLoan cX1_removeLoan 3 none, Cond.methodLink RX1 86 yX1_failDueLoans, Cond.instanceMethod yX1_failDueLoans, Cond.selects RX1 yX1_failDueLoans yX1_failDueLoans, Cond.code yX1_failDueLoans cX1_failDueLoans 2 none]
def wsX4_enough : List Cond := .code yX4_enough cX4_enough 6 (some .int) :: ((wsX4_enough_r1 ++ (wsX4_enough_r2 ++ wsX4_enough_r3)) ++ wsX40 ++ wsX10 ++ wsX30)
def wsX4_commonWithTen : List Cond := .code yX4_commonWithTen cX4_commonWithTen 1 (some .int) :: ([])
def wsX4_rid : List Cond := .code yX4_rid cX4_rid 7 (some .int) :: ([.fieldLink RX4 26 "TreeDebts" "now" "LTreeDebts$State;", .fieldLink RX4 19 "TreeDebts" "told" "LTreeDebts$Told;", .methodLink RX4 186 yX4_commonWithTen, .static yX4_commonWithTen, .initialized RX4, .code yX4_commonWithTen cX4_commonWithTen 1 (some .int), .methodLink RX4 189 yX1_partsWithLoans, .instanceMethod yX1_partsWithLoans, .selects RX1 yX1_partsWithLoans yX1_partsWithLoans, .initialized RX1, .code yX1_partsWithLoans cX1_partsWithLoans 4 (some .int), .fieldLink RX1 37 "TreeDebts$State" "loans" "I", .fieldLink RX1 107 "TreeDebts$Told" "parts" "[I", .fieldLink RX1 18 "TreeDebts$State" "lenders" "[I", .methodLink RX1 113 yJ6_bitCount_0f7a4, .static yJ6_bitCount_0f7a4, .initialized RJ6, .code yJ6_bitCount_0f7a4 cJ6_bitCount_0f7a4 1 (some .int), .constant RJ6 265 (1431655765), .constant RJ6 266 (858993459), .constant RJ6 267 (252645135)] ++ wsX40 ++ wsX10 ++ wsX30)
def wsX4_grandson_r1 : List Cond := [Cond.fieldLink RX4 19 "TreeDebts" "told" "LTreeDebts$Told;", Cond.fieldLink RX4 192 "TreeDebts$Told" "trees" "I", Cond.fieldLink RX4 30 "TreeDebts" "foretold" "LTreeDebts$State;", Cond.fieldLink RX4 99 "TreeDebts$State" "fates" "[I", Cond.fieldLink RX4 83 "TreeDebts$State" "branches" "[I", Cond.methodLink RX4 163 yX4_foretell, Cond.instanceMethod yX4_foretell, Cond.selects RX4 yX4_foretell yX4_foretell, Cond.initialized RX4, Cond.code yX4_foretell cX4_foretell 2 none, Cond.fieldLink RX4 26 "TreeDebts" "now" "LTreeDebts$State;", Cond.fieldLink RX4 145 "TreeDebts$Told" "hands" "I", Cond.methodLink RX4 160 yX1_copyFrom, Cond.instanceMethod yX1_copyFrom, Cond.selects RX1 yX1_copyFrom yX1_copyFrom, Cond.initialized RX1, Cond.code yX1_copyFrom cX1_copyFrom 2 none, Cond.fieldLink RX1 33 "TreeDebts$State" "day" "I", Cond.fieldLink RX1 9 "TreeDebts$State" "branches" "[I", Cond.methodLink RX1 46 arraycopyName, Cond.native arraycopyName, Cond.static arraycopyName, Cond.initialized "java/lang/System", Cond.fieldLink RX1 15 "TreeDebts$State" "fates" "[I"]
def wsX4_grandson_r2 : List Cond := [Cond.fieldLink RX1 37 "TreeDebts$State" "loans" "I", Cond.fieldLink RX1 18 "TreeDebts$State" "lenders" "[I", Cond.fieldLink RX1 21 "TreeDebts$State" "lent" "[I", Cond.fieldLink RX1 24 "TreeDebts$State" "owed" "[I", Cond.fieldLink RX1 27 "TreeDebts$State" "dues" "[I", Cond.fieldLink RX1 30 "TreeDebts$State" "failed" "[I", Cond.fieldLink RX1 40 "TreeDebts$State" "failures" "I", Cond.methodLink RX4 148 yX1_passDays, Cond.instanceMethod yX1_passDays, Cond.selects RX1 yX1_passDays yX1_passDays, Cond.code yX1_passDays cX1_passDays 5 none, Cond.methodLink RX1 78 yX1_growLoans, Cond.instanceMethod yX1_growLoans, Cond.selects RX1 yX1_growLoans yX1_growLoans, Cond.code yX1_growLoans cX1_growLoans 3 none, Cond.methodLink RX1 89 yX3_grownOnce, Cond.instanceMethod yX3_grownOnce, Cond.selects RX3 yX3_grownOnce yX3_grownOnce, Cond.initialized RX3, Cond.code yX3_grownOnce cX3_grownOnce 6 (some .int), Cond.fieldLink RX3 18 "TreeDebts$Told" "rates" "[I", Cond.fieldLink RX3 9 "TreeDebts$Told" "kinds" "[I", Cond.constant RX3 52 (1000000), Cond.methodLink RX3 53 Lib.Math.min.name]
def wsX4_grandson_r3 : List Cond := [Cond.static Lib.Math.min.name, Cond.initialized "java/lang/Math", Cond.code Lib.Math.min.name Lib.Math.min.code 2 (some .int), Cond.methodLink RX1 82 yX1_workOff, Cond.instanceMethod yX1_workOff, Cond.selects RX1 yX1_workOff yX1_workOff, Cond.code yX1_workOff cX1_workOff 6 none, Cond.methodLink RX1 73 Lib.Math.min.name, Cond.methodLink RX1 93 yX1_firstDue, Cond.instanceMethod yX1_firstDue, Cond.selects RX1 yX1_firstDue yX1_firstDue, Cond.code yX1_firstDue cX1_firstDue 3 (some .int), Cond.methodLink RX1 97 yX1_addBranches, Cond.instanceMethod yX1_addBranches, Cond.selects RX1 yX1_addBranches yX1_addBranches, Cond.code yX1_addBranches cX1_addBranches 3 none, Cond.methodLink RX1 101 yX1_removeLoan, Cond.instanceMethod yX1_removeLoan, Cond.selects RX1 yX1_removeLoan yX1_removeLoan, Cond.code yX1_removeLoan cX1_removeLoan 3 none, Cond.methodLink RX1 86 yX1_failDueLoans, Cond.instanceMethod yX1_failDueLoans, Cond.selects RX1 yX1_failDueLoans yX1_failDueLoans, Cond.code yX1_failDueLoans cX1_failDueLoans 2 none]
def wsX4_grandson : List Cond := .code yX4_grandson cX4_grandson 4 (some .int) :: ((wsX4_grandson_r1 ++ (wsX4_grandson_r2 ++ wsX4_grandson_r3)) ++ wsX40 ++ wsX30 ++ wsX10)
def wsX4_toWhom : List Cond := .code yX4_toWhom cX4_toWhom 6 (some .int) :: ([.constant RX4 195 (1000000), .fieldLink RX4 19 "TreeDebts" "told" "LTreeDebts$Told;", .fieldLink RX4 192 "TreeDebts$Told" "trees" "I", .fieldLink RX4 26 "TreeDebts" "now" "LTreeDebts$State;", .fieldLink RX4 99 "TreeDebts$State" "fates" "[I", .methodLink RX4 131 yX3_grownIn, .instanceMethod yX3_grownIn, .selects RX3 yX3_grownIn yX3_grownIn, .initialized RX3, .code yX3_grownIn cX3_grownIn 6 (some .int), .methodLink RX3 59 yX3_grownOnce, .instanceMethod yX3_grownOnce, .selects RX3 yX3_grownOnce yX3_grownOnce, .code yX3_grownOnce cX3_grownOnce 6 (some .int), .fieldLink RX3 18 "TreeDebts$Told" "rates" "[I", .fieldLink RX3 9 "TreeDebts$Told" "kinds" "[I", .constant RX3 52 (1000000), .methodLink RX3 53 Lib.Math.min.name, .static Lib.Math.min.name, .initialized "java/lang/Math", .code Lib.Math.min.name Lib.Math.min.code 2 (some .int)] ++ wsX40 ++ wsX30 ++ wsX10)
def wsX4_count : List Cond := .code yX4_count cX4_count 2 (some .int) :: ([.fieldLink RX4 19 "TreeDebts" "told" "LTreeDebts$Told;", .fieldLink RX4 192 "TreeDebts$Told" "trees" "I", .fieldLink RX4 196 "TreeDebts$Told" "quarrels" "I", .fieldLink RX4 145 "TreeDebts$Told" "hands" "I", .fieldLink RX4 26 "TreeDebts" "now" "LTreeDebts$State;", .fieldLink RX4 106 "TreeDebts$State" "loans" "I", .fieldLink RX4 142 "TreeDebts$State" "day" "I", .fieldLink RX4 170 "TreeDebts$State" "failures" "I", .fieldLink RX4 10 "TreeDebts" "text" "LTreeDebts$Text;", .fieldLink RX4 48 "TreeDebts$Text" "length" "I", .methodLink RX4 166 yX1_owedInAll, .instanceMethod yX1_owedInAll, .selects RX1 yX1_owedInAll yX1_owedInAll, .initialized RX1, .code yX1_owedInAll cX1_owedInAll 3 (some .int), .fieldLink RX1 37 "TreeDebts$State" "loans" "I", .fieldLink RX1 24 "TreeDebts$State" "owed" "[I"] ++ wsX40 ++ wsX30 ++ wsX10 ++ wsX20)
def wsX5_init : List Cond := .code yX5_init cX5_init 1 none :: ([.methodLink RX5 1 objectInit, .instanceMethod objectInit, .code objectInit ⟨#[0xb1]⟩ 1 none, .arrayClass .int, .fieldLink RX5 7 "TreeDebtsModel" "row" "[I", .arrayClass .boolean, .fieldLink RX5 13 "TreeDebtsModel" "isKept" "[Z", .fieldLink RX5 17 "TreeDebtsModel" "text" "[I", .fieldLink RX5 20 "TreeDebtsModel" "read" "[I", .fieldLink RX5 23 "TreeDebtsModel" "kinds" "[I", .fieldLink RX5 26 "TreeDebtsModel" "rates" "[I", .fieldLink RX5 29 "TreeDebtsModel" "terms" "[I", .fieldLink RX5 32 "TreeDebtsModel" "parts" "[I", .fieldLink RX5 35 "TreeDebtsModel" "quarrels" "[I", .fieldLink RX5 38 "TreeDebtsModel" "hands" "I", .fieldLink RX5 42 "TreeDebtsModel" "prices" "[I", .fieldLink RX5 45 "TreeDebtsModel" "leasts" "[I"] ++ wsX50)
def wsX5_in : List Cond := .code yX5_in cX5_in 6 (some .boolean) :: ([])
def wsX5_copy : List Cond := .code yX5_copy cX5_copy 4 none :: ([.fieldLink RX5 7 "TreeDebtsModel" "row" "[I"] ++ wsX50)
def wsX5_write : List Cond := .code yX5_write cX5_write 5 (some .int) :: ([.constantLong RX5 48 (8), .fieldLink RX5 54 "TreeDebtsModel" "length" "I", .fieldLink RX5 17 "TreeDebtsModel" "text" "[I", .constantLong RX5 57 (255), .methodLink RX5 50 yX5_in, .static yX5_in, .initialized RX5, .code yX5_in cX5_in 6 (some .boolean)] ++ wsX50)
def wsX5_erase : List Cond := .code yX5_erase cX5_erase 2 (some .int) :: ([.fieldLink RX5 54 "TreeDebtsModel" "length" "I"] ++ wsX50)
def wsX5_sort : List Cond := .code yX5_sort cX5_sort 1 (some .int) :: ([])
def wsX5_token : List Cond := .code yX5_token cX5_token 1 none :: ([.fieldLink RX5 59 "TreeDebtsModel" "at" "I", .fieldLink RX5 54 "TreeDebtsModel" "length" "I", .fieldLink RX5 17 "TreeDebtsModel" "text" "[I", .fieldLink RX5 62 "TreeDebtsModel" "place" "I", .fieldLink RX5 69 "TreeDebtsModel" "end" "I", .methodLink RX5 65 yX5_sort, .static yX5_sort, .initialized RX5, .code yX5_sort cX5_sort 1 (some .int)] ++ wsX50)
def wsX5_isWord : List Cond := .code yX5_isWord cX5_isWord 6 (some .boolean) :: ([.fieldLink RX5 69 "TreeDebtsModel" "end" "I", .fieldLink RX5 62 "TreeDebtsModel" "place" "I", .fieldLink RX5 17 "TreeDebtsModel" "text" "[I"] ++ wsX50)
def wsX5_treeWord : List Cond := .code yX5_treeWord cX5_treeWord 1 (some .int) :: ([.constant RX5 76 (8505634), .constant RX5 77 (468724), .constant RX5 78 (787886568), .methodLink RX5 72 yX5_isWord, .instanceMethod yX5_isWord, .selects RX5 yX5_isWord yX5_isWord, .initialized RX5, .code yX5_isWord cX5_isWord 6 (some .boolean), .fieldLink RX5 69 "TreeDebtsModel" "end" "I", .fieldLink RX5 62 "TreeDebtsModel" "place" "I", .fieldLink RX5 17 "TreeDebtsModel" "text" "[I"] ++ wsX50)
def wsX5_wordOf : List Cond := .code yX5_wordOf cX5_wordOf 2 (some .int) :: ([.constant RX5 83 (146935), .constant RX5 84 (673840), .constant RX5 85 (187238065), .constant RX5 86 (20068392), .methodLink RX5 79 yX5_treeWord, .instanceMethod yX5_treeWord, .selects RX5 yX5_treeWord yX5_treeWord, .initialized RX5, .code yX5_treeWord cX5_treeWord 1 (some .int), .constant RX5 76 (8505634), .constant RX5 77 (468724), .constant RX5 78 (787886568), .methodLink RX5 72 yX5_isWord, .instanceMethod yX5_isWord, .selects RX5 yX5_isWord yX5_isWord, .code yX5_isWord cX5_isWord 6 (some .boolean), .fieldLink RX5 69 "TreeDebtsModel" "end" "I", .fieldLink RX5 62 "TreeDebtsModel" "place" "I", .fieldLink RX5 17 "TreeDebtsModel" "text" "[I"] ++ wsX50)
def wsX5_reads : List Cond := .code yX5_reads cX5_reads 7 (some .boolean) :: ([.fieldLink RX5 62 "TreeDebtsModel" "place" "I", .fieldLink RX5 54 "TreeDebtsModel" "length" "I", .fieldLink RX5 17 "TreeDebtsModel" "text" "[I", .fieldLink RX5 69 "TreeDebtsModel" "end" "I", .fieldLink RX5 20 "TreeDebtsModel" "read" "[I", .fieldLink RX5 87 "TreeDebtsModel" "readMany" "I", .methodLink RX5 65 yX5_sort, .static yX5_sort, .initialized RX5, .code yX5_sort cX5_sort 1 (some .int), .methodLink RX5 50 yX5_in, .static yX5_in, .code yX5_in cX5_in 6 (some .boolean), .methodLink RX5 90 yX5_token, .instanceMethod yX5_token, .selects RX5 yX5_token yX5_token, .code yX5_token cX5_token 1 none, .fieldLink RX5 59 "TreeDebtsModel" "at" "I"] ++ wsX50)
def wsX5_readsRest : List Cond := .code yX5_readsRest cX5_readsRest 3 (some .boolean) :: ([.fieldLink RX5 93 "TreeDebtsModel" "readTrees" "I", .fieldLink RX5 20 "TreeDebtsModel" "read" "[I", .fieldLink RX5 87 "TreeDebtsModel" "readMany" "I", .methodLink RX5 96 yX5_reads, .instanceMethod yX5_reads, .selects RX5 yX5_reads yX5_reads, .initialized RX5, .code yX5_reads cX5_reads 7 (some .boolean), .fieldLink RX5 62 "TreeDebtsModel" "place" "I", .fieldLink RX5 54 "TreeDebtsModel" "length" "I", .fieldLink RX5 17 "TreeDebtsModel" "text" "[I", .fieldLink RX5 69 "TreeDebtsModel" "end" "I", .methodLink RX5 65 yX5_sort, .static yX5_sort, .code yX5_sort cX5_sort 1 (some .int), .methodLink RX5 50 yX5_in, .static yX5_in, .code yX5_in cX5_in 6 (some .boolean), .methodLink RX5 90 yX5_token, .instanceMethod yX5_token, .selects RX5 yX5_token yX5_token, .code yX5_token cX5_token 1 none, .fieldLink RX5 59 "TreeDebtsModel" "at" "I"] ++ wsX50)
def wsX5_isTreeWord : List Cond := .code yX5_isTreeWord cX5_isTreeWord 1 (some .boolean) :: ([.constantLong RX5 100 (4), .methodLink RX5 50 yX5_in, .static yX5_in, .initialized RX5, .code yX5_in cX5_in 6 (some .boolean)])
def wsX5_readsLine_r1 : List Cond := [Cond.fieldLink RX5 93 "TreeDebtsModel" "readTrees" "I", Cond.fieldLink RX5 109 "TreeDebtsModel" "readQuarrels" "I", Cond.fieldLink RX5 20 "TreeDebtsModel" "read" "[I", Cond.fieldLink RX5 87 "TreeDebtsModel" "readMany" "I", Cond.methodLink RX5 102 yX5_wordOf, Cond.instanceMethod yX5_wordOf, Cond.selects RX5 yX5_wordOf yX5_wordOf, Cond.initialized RX5, Cond.code yX5_wordOf cX5_wordOf 2 (some .int), Cond.constant RX5 83 (146935), Cond.constant RX5 84 (673840), Cond.constant RX5 85 (187238065), Cond.constant RX5 86 (20068392), Cond.methodLink RX5 79 yX5_treeWord, Cond.instanceMethod yX5_treeWord, Cond.selects RX5 yX5_treeWord yX5_treeWord, Cond.code yX5_treeWord cX5_treeWord 1 (some .int), Cond.constant RX5 76 (8505634), Cond.constant RX5 77 (468724), Cond.constant RX5 78 (787886568), Cond.methodLink RX5 72 yX5_isWord, Cond.instanceMethod yX5_isWord, Cond.selects RX5 yX5_isWord yX5_isWord, Cond.code yX5_isWord cX5_isWord 6 (some .boolean)]
def wsX5_readsLine_r2 : List Cond := [Cond.fieldLink RX5 69 "TreeDebtsModel" "end" "I", Cond.fieldLink RX5 62 "TreeDebtsModel" "place" "I", Cond.fieldLink RX5 17 "TreeDebtsModel" "text" "[I", Cond.methodLink RX5 105 yX5_isTreeWord, Cond.static yX5_isTreeWord, Cond.code yX5_isTreeWord cX5_isTreeWord 1 (some .boolean), Cond.constantLong RX5 100 (4), Cond.methodLink RX5 50 yX5_in, Cond.static yX5_in, Cond.code yX5_in cX5_in 6 (some .boolean), Cond.methodLink RX5 90 yX5_token, Cond.instanceMethod yX5_token, Cond.selects RX5 yX5_token yX5_token, Cond.code yX5_token cX5_token 1 none, Cond.fieldLink RX5 59 "TreeDebtsModel" "at" "I", Cond.fieldLink RX5 54 "TreeDebtsModel" "length" "I", Cond.methodLink RX5 65 yX5_sort, Cond.static yX5_sort, Cond.code yX5_sort cX5_sort 1 (some .int), Cond.methodLink RX5 112 yX5_readsRest, Cond.instanceMethod yX5_readsRest, Cond.selects RX5 yX5_readsRest yX5_readsRest, Cond.code yX5_readsRest cX5_readsRest 3 (some .boolean), Cond.methodLink RX5 96 yX5_reads]
def wsX5_readsLine_r3 : List Cond := [Cond.instanceMethod yX5_reads, Cond.selects RX5 yX5_reads yX5_reads, Cond.code yX5_reads cX5_reads 7 (some .boolean)]
def wsX5_readsLine : List Cond := .code yX5_readsLine cX5_readsLine 2 (some .boolean) :: ((wsX5_readsLine_r1 ++ (wsX5_readsLine_r2 ++ wsX5_readsLine_r3)) ++ wsX50)
def wsX5_fault_r1 : List Cond := [Cond.fieldLink RX5 59 "TreeDebtsModel" "at" "I", Cond.fieldLink RX5 87 "TreeDebtsModel" "readMany" "I", Cond.fieldLink RX5 115 "TreeDebtsModel" "many" "I", Cond.fieldLink RX5 93 "TreeDebtsModel" "readTrees" "I", Cond.fieldLink RX5 118 "TreeDebtsModel" "quarrelMany" "I", Cond.fieldLink RX5 109 "TreeDebtsModel" "readQuarrels" "I", Cond.fieldLink RX5 62 "TreeDebtsModel" "place" "I", Cond.fieldLink RX5 54 "TreeDebtsModel" "length" "I", Cond.fieldLink RX5 69 "TreeDebtsModel" "end" "I", Cond.fieldLink RX5 17 "TreeDebtsModel" "text" "[I", Cond.methodLink RX5 90 yX5_token, Cond.instanceMethod yX5_token, Cond.selects RX5 yX5_token yX5_token, Cond.initialized RX5, Cond.code yX5_token cX5_token 1 none, Cond.methodLink RX5 65 yX5_sort, Cond.static yX5_sort, Cond.code yX5_sort cX5_sort 1 (some .int), Cond.methodLink RX5 121 yX5_readsLine, Cond.instanceMethod yX5_readsLine, Cond.selects RX5 yX5_readsLine yX5_readsLine, Cond.code yX5_readsLine cX5_readsLine 2 (some .boolean), Cond.fieldLink RX5 20 "TreeDebtsModel" "read" "[I", Cond.methodLink RX5 102 yX5_wordOf]
def wsX5_fault_r2 : List Cond := [Cond.instanceMethod yX5_wordOf, Cond.selects RX5 yX5_wordOf yX5_wordOf, Cond.code yX5_wordOf cX5_wordOf 2 (some .int), Cond.constant RX5 83 (146935), Cond.constant RX5 84 (673840), Cond.constant RX5 85 (187238065), Cond.constant RX5 86 (20068392), Cond.methodLink RX5 79 yX5_treeWord, Cond.instanceMethod yX5_treeWord, Cond.selects RX5 yX5_treeWord yX5_treeWord, Cond.code yX5_treeWord cX5_treeWord 1 (some .int), Cond.constant RX5 76 (8505634), Cond.constant RX5 77 (468724), Cond.constant RX5 78 (787886568), Cond.methodLink RX5 72 yX5_isWord, Cond.instanceMethod yX5_isWord, Cond.selects RX5 yX5_isWord yX5_isWord, Cond.code yX5_isWord cX5_isWord 6 (some .boolean), Cond.methodLink RX5 105 yX5_isTreeWord, Cond.static yX5_isTreeWord, Cond.code yX5_isTreeWord cX5_isTreeWord 1 (some .boolean), Cond.constantLong RX5 100 (4), Cond.methodLink RX5 50 yX5_in, Cond.static yX5_in]
def wsX5_fault_r3 : List Cond := [Cond.code yX5_in cX5_in 6 (some .boolean), Cond.methodLink RX5 112 yX5_readsRest, Cond.instanceMethod yX5_readsRest, Cond.selects RX5 yX5_readsRest yX5_readsRest, Cond.code yX5_readsRest cX5_readsRest 3 (some .boolean), Cond.methodLink RX5 96 yX5_reads, Cond.instanceMethod yX5_reads, Cond.selects RX5 yX5_reads yX5_reads, Cond.code yX5_reads cX5_reads 7 (some .boolean)]
def wsX5_fault : List Cond := .code yX5_fault cX5_fault 2 (some .int) :: ((wsX5_fault_r1 ++ (wsX5_fault_r2 ++ wsX5_fault_r3)) ++ wsX50)
def wsX5_tell : List Cond := .code yX5_tell cX5_tell 3 none :: ([.fieldLink RX5 20 "TreeDebtsModel" "read" "[I", .fieldLink RX5 115 "TreeDebtsModel" "many" "I", .fieldLink RX5 118 "TreeDebtsModel" "quarrelMany" "I", .fieldLink RX5 38 "TreeDebtsModel" "hands" "I", .fieldLink RX5 32 "TreeDebtsModel" "parts" "[I", .fieldLink RX5 35 "TreeDebtsModel" "quarrels" "[I", .fieldLink RX5 23 "TreeDebtsModel" "kinds" "[I", .fieldLink RX5 7 "TreeDebtsModel" "row" "[I", .fieldLink RX5 26 "TreeDebtsModel" "rates" "[I", .fieldLink RX5 29 "TreeDebtsModel" "terms" "[I"] ++ wsX50)
def wsX5_wood_r1 : List Cond := [Cond.fieldLink RX5 87 "TreeDebtsModel" "readMany" "I", Cond.fieldLink RX5 13 "TreeDebtsModel" "isKept" "[Z", Cond.fieldLink RX5 54 "TreeDebtsModel" "length" "I", Cond.methodLink RX5 125 yX5_fault, Cond.instanceMethod yX5_fault, Cond.selects RX5 yX5_fault yX5_fault, Cond.initialized RX5, Cond.code yX5_fault cX5_fault 2 (some .int), Cond.fieldLink RX5 59 "TreeDebtsModel" "at" "I", Cond.fieldLink RX5 115 "TreeDebtsModel" "many" "I", Cond.fieldLink RX5 93 "TreeDebtsModel" "readTrees" "I", Cond.fieldLink RX5 118 "TreeDebtsModel" "quarrelMany" "I", Cond.fieldLink RX5 109 "TreeDebtsModel" "readQuarrels" "I", Cond.fieldLink RX5 62 "TreeDebtsModel" "place" "I", Cond.fieldLink RX5 69 "TreeDebtsModel" "end" "I", Cond.fieldLink RX5 17 "TreeDebtsModel" "text" "[I", Cond.methodLink RX5 90 yX5_token, Cond.instanceMethod yX5_token, Cond.selects RX5 yX5_token yX5_token, Cond.code yX5_token cX5_token 1 none, Cond.methodLink RX5 65 yX5_sort, Cond.static yX5_sort, Cond.code yX5_sort cX5_sort 1 (some .int), Cond.methodLink RX5 121 yX5_readsLine]
def wsX5_wood_r2 : List Cond := [Cond.instanceMethod yX5_readsLine, Cond.selects RX5 yX5_readsLine yX5_readsLine, Cond.code yX5_readsLine cX5_readsLine 2 (some .boolean), Cond.fieldLink RX5 20 "TreeDebtsModel" "read" "[I", Cond.methodLink RX5 102 yX5_wordOf, Cond.instanceMethod yX5_wordOf, Cond.selects RX5 yX5_wordOf yX5_wordOf, Cond.code yX5_wordOf cX5_wordOf 2 (some .int), Cond.constant RX5 83 (146935), Cond.constant RX5 84 (673840), Cond.constant RX5 85 (187238065), Cond.constant RX5 86 (20068392), Cond.methodLink RX5 79 yX5_treeWord, Cond.instanceMethod yX5_treeWord, Cond.selects RX5 yX5_treeWord yX5_treeWord, Cond.code yX5_treeWord cX5_treeWord 1 (some .int), Cond.constant RX5 76 (8505634), Cond.constant RX5 77 (468724), Cond.constant RX5 78 (787886568), Cond.methodLink RX5 72 yX5_isWord, Cond.instanceMethod yX5_isWord, Cond.selects RX5 yX5_isWord yX5_isWord, Cond.code yX5_isWord cX5_isWord 6 (some .boolean), Cond.methodLink RX5 105 yX5_isTreeWord]
def wsX5_wood_r3 : List Cond := [Cond.static yX5_isTreeWord, Cond.code yX5_isTreeWord cX5_isTreeWord 1 (some .boolean), Cond.constantLong RX5 100 (4), Cond.methodLink RX5 50 yX5_in, Cond.static yX5_in, Cond.code yX5_in cX5_in 6 (some .boolean), Cond.methodLink RX5 112 yX5_readsRest, Cond.instanceMethod yX5_readsRest, Cond.selects RX5 yX5_readsRest yX5_readsRest, Cond.code yX5_readsRest cX5_readsRest 3 (some .boolean), Cond.methodLink RX5 96 yX5_reads, Cond.instanceMethod yX5_reads, Cond.selects RX5 yX5_reads yX5_reads, Cond.code yX5_reads cX5_reads 7 (some .boolean), Cond.methodLink RX5 128 yX5_tell, Cond.instanceMethod yX5_tell, Cond.selects RX5 yX5_tell yX5_tell, Cond.code yX5_tell cX5_tell 3 none, Cond.fieldLink RX5 38 "TreeDebtsModel" "hands" "I", Cond.fieldLink RX5 32 "TreeDebtsModel" "parts" "[I", Cond.fieldLink RX5 35 "TreeDebtsModel" "quarrels" "[I", Cond.fieldLink RX5 23 "TreeDebtsModel" "kinds" "[I", Cond.fieldLink RX5 7 "TreeDebtsModel" "row" "[I", Cond.fieldLink RX5 26 "TreeDebtsModel" "rates" "[I"]
def wsX5_wood_r4 : List Cond := [Cond.fieldLink RX5 29 "TreeDebtsModel" "terms" "[I", Cond.methodLink RX5 132 yX5_copy, Cond.instanceMethod yX5_copy, Cond.selects RX5 yX5_copy yX5_copy, Cond.code yX5_copy cX5_copy 4 none]
def wsX5_wood : List Cond := .code yX5_wood cX5_wood 2 (some .int) :: ((wsX5_wood_r1 ++ (wsX5_wood_r2 ++ (wsX5_wood_r3 ++ wsX5_wood_r4))) ++ wsX50)
def wsX5_isTree : List Cond := .code yX5_isTree cX5_isTree 2 (some .boolean) :: ([.fieldLink RX5 115 "TreeDebtsModel" "many" "I", .methodLink RX5 50 yX5_in, .static yX5_in, .initialized RX5, .code yX5_in cX5_in 6 (some .boolean)] ++ wsX50)
def wsX5_lives : List Cond := .code yX5_lives cX5_lives 2 (some .boolean) :: ([.fieldLink RX5 7 "TreeDebtsModel" "row" "[I"] ++ wsX50)
def wsX5_placeOf : List Cond := .code yX5_placeOf cX5_placeOf 3 (some .int) :: ([])
def wsX5_owedTo : List Cond := .code yX5_owedTo cX5_owedTo 5 (some .int) :: ([.fieldLink RX5 7 "TreeDebtsModel" "row" "[I", .methodLink RX5 136 yX5_placeOf, .static yX5_placeOf, .initialized RX5, .code yX5_placeOf cX5_placeOf 3 (some .int)] ++ wsX50)
def wsX5_owedAll : List Cond := .code yX5_owedAll cX5_owedAll 4 (some .int) :: ([.fieldLink RX5 7 "TreeDebtsModel" "row" "[I", .methodLink RX5 136 yX5_placeOf, .static yX5_placeOf, .initialized RX5, .code yX5_placeOf cX5_placeOf 3 (some .int)] ++ wsX50)
def wsX5_isCross : List Cond := .code yX5_isCross cX5_isCross 5 (some .boolean) :: ([.fieldLink RX5 118 "TreeDebtsModel" "quarrelMany" "I", .fieldLink RX5 35 "TreeDebtsModel" "quarrels" "[I", .methodLink RX5 140 yX5_owedTo, .instanceMethod yX5_owedTo, .selects RX5 yX5_owedTo yX5_owedTo, .initialized RX5, .code yX5_owedTo cX5_owedTo 5 (some .int), .fieldLink RX5 7 "TreeDebtsModel" "row" "[I", .methodLink RX5 136 yX5_placeOf, .static yX5_placeOf, .code yX5_placeOf cX5_placeOf 3 (some .int)] ++ wsX50)
def wsX5_lends : List Cond := .code yX5_lends cX5_lends 2 (some .boolean) :: ([.methodLink RX5 144 yX5_lives, .instanceMethod yX5_lives, .selects RX5 yX5_lives yX5_lives, .initialized RX5, .code yX5_lives cX5_lives 2 (some .boolean), .fieldLink RX5 7 "TreeDebtsModel" "row" "[I", .methodLink RX5 147 yX5_isCross, .instanceMethod yX5_isCross, .selects RX5 yX5_isCross yX5_isCross, .code yX5_isCross cX5_isCross 5 (some .boolean), .fieldLink RX5 118 "TreeDebtsModel" "quarrelMany" "I", .fieldLink RX5 35 "TreeDebtsModel" "quarrels" "[I", .methodLink RX5 140 yX5_owedTo, .instanceMethod yX5_owedTo, .selects RX5 yX5_owedTo yX5_owedTo, .code yX5_owedTo cX5_owedTo 5 (some .int), .methodLink RX5 136 yX5_placeOf, .static yX5_placeOf, .code yX5_placeOf cX5_placeOf 3 (some .int)] ++ wsX50)
def wsX5_grown : List Cond := .code yX5_grown cX5_grown 6 (some .int) :: ([.fieldLink RX5 23 "TreeDebtsModel" "kinds" "[I", .fieldLink RX5 26 "TreeDebtsModel" "rates" "[I", .constant RX5 150 (1000000)] ++ wsX50)
def wsX5_remove : List Cond := .code yX5_remove cX5_remove 4 none :: ([.fieldLink RX5 7 "TreeDebtsModel" "row" "[I", .methodLink RX5 136 yX5_placeOf, .static yX5_placeOf, .initialized RX5, .code yX5_placeOf cX5_placeOf 3 (some .int)] ++ wsX50)
def wsX5_few : List Cond := .code yX5_few cX5_few 1 (some .int) :: ([])
def wsX5_firstDue : List Cond := .code yX5_firstDue cX5_firstDue 4 (some .int) :: ([.fieldLink RX5 7 "TreeDebtsModel" "row" "[I", .methodLink RX5 136 yX5_placeOf, .static yX5_placeOf, .initialized RX5, .code yX5_placeOf cX5_placeOf 3 (some .int)] ++ wsX50)
def wsX5_work : List Cond := .code yX5_work cX5_work 8 none :: ([.fieldLink RX5 7 "TreeDebtsModel" "row" "[I", .methodLink RX5 151 yX5_firstDue, .instanceMethod yX5_firstDue, .selects RX5 yX5_firstDue yX5_firstDue, .initialized RX5, .code yX5_firstDue cX5_firstDue 4 (some .int), .methodLink RX5 136 yX5_placeOf, .static yX5_placeOf, .code yX5_placeOf cX5_placeOf 3 (some .int), .methodLink RX5 154 yX5_few, .static yX5_few, .code yX5_few cX5_few 1 (some .int), .methodLink RX5 157 yX5_remove, .instanceMethod yX5_remove, .selects RX5 yX5_remove yX5_remove, .code yX5_remove cX5_remove 4 none] ++ wsX50)
def wsX5_day_r1 : List Cond := [Cond.fieldLink RX5 7 "TreeDebtsModel" "row" "[I", Cond.methodLink RX5 136 yX5_placeOf, Cond.static yX5_placeOf, Cond.initialized RX5, Cond.code yX5_placeOf cX5_placeOf 3 (some .int), Cond.methodLink RX5 160 yX5_grown, Cond.instanceMethod yX5_grown, Cond.selects RX5 yX5_grown yX5_grown, Cond.code yX5_grown cX5_grown 6 (some .int), Cond.fieldLink RX5 23 "TreeDebtsModel" "kinds" "[I", Cond.fieldLink RX5 26 "TreeDebtsModel" "rates" "[I", Cond.constant RX5 150 (1000000), Cond.methodLink RX5 163 yX5_work, Cond.instanceMethod yX5_work, Cond.selects RX5 yX5_work yX5_work, Cond.code yX5_work cX5_work 8 none, Cond.methodLink RX5 151 yX5_firstDue, Cond.instanceMethod yX5_firstDue, Cond.selects RX5 yX5_firstDue yX5_firstDue, Cond.code yX5_firstDue cX5_firstDue 4 (some .int), Cond.methodLink RX5 154 yX5_few, Cond.static yX5_few, Cond.code yX5_few cX5_few 1 (some .int), Cond.methodLink RX5 157 yX5_remove]
def wsX5_day_r2 : List Cond := [Cond.instanceMethod yX5_remove, Cond.selects RX5 yX5_remove yX5_remove, Cond.code yX5_remove cX5_remove 4 none]
def wsX5_day : List Cond := .code yX5_day cX5_day 5 none :: ((wsX5_day_r1 ++ wsX5_day_r2) ++ wsX50)
def wsX5_tree_r1 : List Cond := [Cond.fieldLink RX5 23 "TreeDebtsModel" "kinds" "[I", Cond.fieldLink RX5 7 "TreeDebtsModel" "row" "[I", Cond.fieldLink RX5 26 "TreeDebtsModel" "rates" "[I", Cond.fieldLink RX5 29 "TreeDebtsModel" "terms" "[I", Cond.fieldLink RX5 32 "TreeDebtsModel" "parts" "[I", Cond.methodLink RX5 166 yX5_isTree, Cond.instanceMethod yX5_isTree, Cond.selects RX5 yX5_isTree yX5_isTree, Cond.initialized RX5, Cond.code yX5_isTree cX5_isTree 2 (some .boolean), Cond.fieldLink RX5 115 "TreeDebtsModel" "many" "I", Cond.methodLink RX5 50 yX5_in, Cond.static yX5_in, Cond.code yX5_in cX5_in 6 (some .boolean), Cond.methodLink RX5 140 yX5_owedTo, Cond.instanceMethod yX5_owedTo, Cond.selects RX5 yX5_owedTo yX5_owedTo, Cond.code yX5_owedTo cX5_owedTo 5 (some .int), Cond.methodLink RX5 136 yX5_placeOf, Cond.static yX5_placeOf, Cond.code yX5_placeOf cX5_placeOf 3 (some .int), Cond.methodLink RX5 147 yX5_isCross, Cond.instanceMethod yX5_isCross, Cond.selects RX5 yX5_isCross yX5_isCross]
def wsX5_tree_r2 : List Cond := [Cond.code yX5_isCross cX5_isCross 5 (some .boolean), Cond.fieldLink RX5 118 "TreeDebtsModel" "quarrelMany" "I", Cond.fieldLink RX5 35 "TreeDebtsModel" "quarrels" "[I"]
def wsX5_tree : List Cond := .code yX5_tree cX5_tree 3 (some .int) :: ((wsX5_tree_r1 ++ wsX5_tree_r2) ++ wsX50)
def wsX5_loan : List Cond := .code yX5_loan cX5_loan 3 (some .int) :: ([.fieldLink RX5 7 "TreeDebtsModel" "row" "[I", .constantLong RX5 100 (4), .methodLink RX5 50 yX5_in, .static yX5_in, .initialized RX5, .code yX5_in cX5_in 6 (some .boolean), .methodLink RX5 136 yX5_placeOf, .static yX5_placeOf, .code yX5_placeOf cX5_placeOf 3 (some .int)] ++ wsX50)
def wsX5_as : List Cond := .code yX5_as cX5_as 5 (some .int) :: ([.constantLong RX5 100 (4), .fieldLink RX5 23 "TreeDebtsModel" "kinds" "[I", .methodLink RX5 166 yX5_isTree, .instanceMethod yX5_isTree, .selects RX5 yX5_isTree yX5_isTree, .initialized RX5, .code yX5_isTree cX5_isTree 2 (some .boolean), .fieldLink RX5 115 "TreeDebtsModel" "many" "I", .methodLink RX5 50 yX5_in, .static yX5_in, .code yX5_in cX5_in 6 (some .boolean), .methodLink RX5 160 yX5_grown, .instanceMethod yX5_grown, .selects RX5 yX5_grown yX5_grown, .code yX5_grown cX5_grown 6 (some .int), .fieldLink RX5 26 "TreeDebtsModel" "rates" "[I", .constant RX5 150 (1000000)] ++ wsX50)
def wsX5_borrow_r1 : List Cond := [Cond.constantLong RX5 169 (99), Cond.fieldLink RX5 7 "TreeDebtsModel" "row" "[I", Cond.fieldLink RX5 23 "TreeDebtsModel" "kinds" "[I", Cond.fieldLink RX5 29 "TreeDebtsModel" "terms" "[I", Cond.methodLink RX5 166 yX5_isTree, Cond.instanceMethod yX5_isTree, Cond.selects RX5 yX5_isTree yX5_isTree, Cond.initialized RX5, Cond.code yX5_isTree cX5_isTree 2 (some .boolean), Cond.fieldLink RX5 115 "TreeDebtsModel" "many" "I", Cond.methodLink RX5 50 yX5_in, Cond.static yX5_in, Cond.code yX5_in cX5_in 6 (some .boolean), Cond.methodLink RX5 171 yX5_lends, Cond.instanceMethod yX5_lends, Cond.selects RX5 yX5_lends yX5_lends, Cond.code yX5_lends cX5_lends 2 (some .boolean), Cond.methodLink RX5 144 yX5_lives, Cond.instanceMethod yX5_lives, Cond.selects RX5 yX5_lives yX5_lives, Cond.code yX5_lives cX5_lives 2 (some .boolean), Cond.methodLink RX5 147 yX5_isCross, Cond.instanceMethod yX5_isCross, Cond.selects RX5 yX5_isCross yX5_isCross]
def wsX5_borrow_r2 : List Cond := [Cond.code yX5_isCross cX5_isCross 5 (some .boolean), Cond.fieldLink RX5 118 "TreeDebtsModel" "quarrelMany" "I", Cond.fieldLink RX5 35 "TreeDebtsModel" "quarrels" "[I", Cond.methodLink RX5 140 yX5_owedTo, Cond.instanceMethod yX5_owedTo, Cond.selects RX5 yX5_owedTo yX5_owedTo, Cond.code yX5_owedTo cX5_owedTo 5 (some .int), Cond.methodLink RX5 136 yX5_placeOf, Cond.static yX5_placeOf, Cond.code yX5_placeOf cX5_placeOf 3 (some .int)]
def wsX5_borrow : List Cond := .code yX5_borrow cX5_borrow 4 (some .int) :: ((wsX5_borrow_r1 ++ wsX5_borrow_r2) ++ wsX50)
def wsX5_days_r1 : List Cond := [Cond.constantLong RX5 169 (99), Cond.fieldLink RX5 7 "TreeDebtsModel" "row" "[I", Cond.fieldLink RX5 38 "TreeDebtsModel" "hands" "I", Cond.methodLink RX5 50 yX5_in, Cond.static yX5_in, Cond.initialized RX5, Cond.code yX5_in cX5_in 6 (some .boolean), Cond.methodLink RX5 174 yX5_day, Cond.instanceMethod yX5_day, Cond.selects RX5 yX5_day yX5_day, Cond.code yX5_day cX5_day 5 none, Cond.methodLink RX5 136 yX5_placeOf, Cond.static yX5_placeOf, Cond.code yX5_placeOf cX5_placeOf 3 (some .int), Cond.methodLink RX5 160 yX5_grown, Cond.instanceMethod yX5_grown, Cond.selects RX5 yX5_grown yX5_grown, Cond.code yX5_grown cX5_grown 6 (some .int), Cond.fieldLink RX5 23 "TreeDebtsModel" "kinds" "[I", Cond.fieldLink RX5 26 "TreeDebtsModel" "rates" "[I", Cond.constant RX5 150 (1000000), Cond.methodLink RX5 163 yX5_work, Cond.instanceMethod yX5_work, Cond.selects RX5 yX5_work yX5_work]
def wsX5_days_r2 : List Cond := [Cond.code yX5_work cX5_work 8 none, Cond.methodLink RX5 151 yX5_firstDue, Cond.instanceMethod yX5_firstDue, Cond.selects RX5 yX5_firstDue yX5_firstDue, Cond.code yX5_firstDue cX5_firstDue 4 (some .int), Cond.methodLink RX5 154 yX5_few, Cond.static yX5_few, Cond.code yX5_few cX5_few 1 (some .int), Cond.methodLink RX5 157 yX5_remove, Cond.instanceMethod yX5_remove, Cond.selects RX5 yX5_remove yX5_remove, Cond.code yX5_remove cX5_remove 4 none]
def wsX5_days : List Cond := .code yX5_days cX5_days 3 (some .int) :: ((wsX5_days_r1 ++ wsX5_days_r2) ++ wsX50)
def wsX5_burn : List Cond := .code yX5_burn cX5_burn 3 none :: ([.fieldLink RX5 7 "TreeDebtsModel" "row" "[I", .methodLink RX5 136 yX5_placeOf, .static yX5_placeOf, .initialized RX5, .code yX5_placeOf cX5_placeOf 3 (some .int), .methodLink RX5 157 yX5_remove, .instanceMethod yX5_remove, .selects RX5 yX5_remove yX5_remove, .code yX5_remove cX5_remove 4 none] ++ wsX50)
def wsX5_fire : List Cond := .code yX5_fire cX5_fire 4 (some .int) :: ([.constantLong RX5 177 (9), .fieldLink RX5 115 "TreeDebtsModel" "many" "I", .fieldLink RX5 32 "TreeDebtsModel" "parts" "[I", .methodLink RX5 50 yX5_in, .static yX5_in, .initialized RX5, .code yX5_in cX5_in 6 (some .boolean), .methodLink RX5 144 yX5_lives, .instanceMethod yX5_lives, .selects RX5 yX5_lives yX5_lives, .code yX5_lives cX5_lives 2 (some .boolean), .fieldLink RX5 7 "TreeDebtsModel" "row" "[I", .methodLink RX5 179 yX5_burn, .instanceMethod yX5_burn, .selects RX5 yX5_burn yX5_burn, .code yX5_burn cX5_burn 3 none, .methodLink RX5 136 yX5_placeOf, .static yX5_placeOf, .code yX5_placeOf cX5_placeOf 3 (some .int), .methodLink RX5 157 yX5_remove, .instanceMethod yX5_remove, .selects RX5 yX5_remove yX5_remove, .code yX5_remove cX5_remove 4 none] ++ wsX50)
def wsX5_sell : List Cond := .code yX5_sell cX5_sell 6 (some .int) :: ([.fieldLink RX5 7 "TreeDebtsModel" "row" "[I", .methodLink RX5 166 yX5_isTree, .instanceMethod yX5_isTree, .selects RX5 yX5_isTree yX5_isTree, .initialized RX5, .code yX5_isTree cX5_isTree 2 (some .boolean), .fieldLink RX5 115 "TreeDebtsModel" "many" "I", .methodLink RX5 50 yX5_in, .static yX5_in, .code yX5_in cX5_in 6 (some .boolean), .methodLink RX5 144 yX5_lives, .instanceMethod yX5_lives, .selects RX5 yX5_lives yX5_lives, .code yX5_lives cX5_lives 2 (some .boolean), .methodLink RX5 136 yX5_placeOf, .static yX5_placeOf, .code yX5_placeOf cX5_placeOf 3 (some .int), .methodLink RX5 154 yX5_few, .static yX5_few, .code yX5_few cX5_few 1 (some .int)] ++ wsX50)
def wsX5_keep : List Cond := .code yX5_keep cX5_keep 2 (some .int) :: ([.fieldLink RX5 13 "TreeDebtsModel" "isKept" "[Z", .fieldLink RX5 7 "TreeDebtsModel" "row" "[I", .methodLink RX5 50 yX5_in, .static yX5_in, .initialized RX5, .code yX5_in cX5_in 6 (some .boolean), .methodLink RX5 132 yX5_copy, .instanceMethod yX5_copy, .selects RX5 yX5_copy yX5_copy, .code yX5_copy cX5_copy 4 none] ++ wsX50)
def wsX5_back : List Cond := .code yX5_back cX5_back 2 (some .int) :: ([.fieldLink RX5 13 "TreeDebtsModel" "isKept" "[Z", .fieldLink RX5 7 "TreeDebtsModel" "row" "[I", .methodLink RX5 50 yX5_in, .static yX5_in, .initialized RX5, .code yX5_in cX5_in 6 (some .boolean), .methodLink RX5 132 yX5_copy, .instanceMethod yX5_copy, .selects RX5 yX5_copy yX5_copy, .code yX5_copy cX5_copy 4 none] ++ wsX50)
def wsX5_tryDays_r1 : List Cond := [Cond.methodLink RX5 132 yX5_copy, Cond.instanceMethod yX5_copy, Cond.selects RX5 yX5_copy yX5_copy, Cond.initialized RX5, Cond.code yX5_copy cX5_copy 4 none, Cond.fieldLink RX5 7 "TreeDebtsModel" "row" "[I", Cond.methodLink RX5 174 yX5_day, Cond.instanceMethod yX5_day, Cond.selects RX5 yX5_day yX5_day, Cond.code yX5_day cX5_day 5 none, Cond.methodLink RX5 136 yX5_placeOf, Cond.static yX5_placeOf, Cond.code yX5_placeOf cX5_placeOf 3 (some .int), Cond.methodLink RX5 160 yX5_grown, Cond.instanceMethod yX5_grown, Cond.selects RX5 yX5_grown yX5_grown, Cond.code yX5_grown cX5_grown 6 (some .int), Cond.fieldLink RX5 23 "TreeDebtsModel" "kinds" "[I", Cond.fieldLink RX5 26 "TreeDebtsModel" "rates" "[I", Cond.constant RX5 150 (1000000), Cond.methodLink RX5 163 yX5_work, Cond.instanceMethod yX5_work, Cond.selects RX5 yX5_work yX5_work, Cond.code yX5_work cX5_work 8 none]
def wsX5_tryDays_r2 : List Cond := [Cond.methodLink RX5 151 yX5_firstDue, Cond.instanceMethod yX5_firstDue, Cond.selects RX5 yX5_firstDue yX5_firstDue, Cond.code yX5_firstDue cX5_firstDue 4 (some .int), Cond.methodLink RX5 154 yX5_few, Cond.static yX5_few, Cond.code yX5_few cX5_few 1 (some .int), Cond.methodLink RX5 157 yX5_remove, Cond.instanceMethod yX5_remove, Cond.selects RX5 yX5_remove yX5_remove, Cond.code yX5_remove cX5_remove 4 none]
def wsX5_tryDays : List Cond := .code yX5_tryDays cX5_tryDays 4 none :: ((wsX5_tryDays_r1 ++ wsX5_tryDays_r2) ++ wsX50)
def wsX5_later_r1 : List Cond := [Cond.constantLong RX5 169 (99), Cond.fieldLink RX5 38 "TreeDebtsModel" "hands" "I", Cond.methodLink RX5 166 yX5_isTree, Cond.instanceMethod yX5_isTree, Cond.selects RX5 yX5_isTree yX5_isTree, Cond.initialized RX5, Cond.code yX5_isTree cX5_isTree 2 (some .boolean), Cond.fieldLink RX5 115 "TreeDebtsModel" "many" "I", Cond.methodLink RX5 50 yX5_in, Cond.static yX5_in, Cond.code yX5_in cX5_in 6 (some .boolean), Cond.methodLink RX5 182 yX5_tryDays, Cond.instanceMethod yX5_tryDays, Cond.selects RX5 yX5_tryDays yX5_tryDays, Cond.code yX5_tryDays cX5_tryDays 4 none, Cond.methodLink RX5 132 yX5_copy, Cond.instanceMethod yX5_copy, Cond.selects RX5 yX5_copy yX5_copy, Cond.code yX5_copy cX5_copy 4 none, Cond.fieldLink RX5 7 "TreeDebtsModel" "row" "[I", Cond.methodLink RX5 174 yX5_day, Cond.instanceMethod yX5_day, Cond.selects RX5 yX5_day yX5_day, Cond.code yX5_day cX5_day 5 none]
def wsX5_later_r2 : List Cond := [Cond.methodLink RX5 136 yX5_placeOf, Cond.static yX5_placeOf, Cond.code yX5_placeOf cX5_placeOf 3 (some .int), Cond.methodLink RX5 160 yX5_grown, Cond.instanceMethod yX5_grown, Cond.selects RX5 yX5_grown yX5_grown, Cond.code yX5_grown cX5_grown 6 (some .int), Cond.fieldLink RX5 23 "TreeDebtsModel" "kinds" "[I", Cond.fieldLink RX5 26 "TreeDebtsModel" "rates" "[I", Cond.constant RX5 150 (1000000), Cond.methodLink RX5 163 yX5_work, Cond.instanceMethod yX5_work, Cond.selects RX5 yX5_work yX5_work, Cond.code yX5_work cX5_work 8 none, Cond.methodLink RX5 151 yX5_firstDue, Cond.instanceMethod yX5_firstDue, Cond.selects RX5 yX5_firstDue yX5_firstDue, Cond.code yX5_firstDue cX5_firstDue 4 (some .int), Cond.methodLink RX5 154 yX5_few, Cond.static yX5_few, Cond.code yX5_few cX5_few 1 (some .int), Cond.methodLink RX5 157 yX5_remove, Cond.instanceMethod yX5_remove, Cond.selects RX5 yX5_remove yX5_remove]
def wsX5_later_r3 : List Cond := [Cond.code yX5_remove cX5_remove 4 none, Cond.methodLink RX5 140 yX5_owedTo, Cond.instanceMethod yX5_owedTo, Cond.selects RX5 yX5_owedTo yX5_owedTo, Cond.code yX5_owedTo cX5_owedTo 5 (some .int)]
def wsX5_later : List Cond := .code yX5_later cX5_later 3 (some .int) :: ((wsX5_later_r1 ++ (wsX5_later_r2 ++ wsX5_later_r3)) ++ wsX50)
def wsX5_all_r1 : List Cond := [Cond.constantLong RX5 169 (99), Cond.fieldLink RX5 38 "TreeDebtsModel" "hands" "I", Cond.fieldLink RX5 7 "TreeDebtsModel" "row" "[I", Cond.methodLink RX5 50 yX5_in, Cond.static yX5_in, Cond.initialized RX5, Cond.code yX5_in cX5_in 6 (some .boolean), Cond.methodLink RX5 182 yX5_tryDays, Cond.instanceMethod yX5_tryDays, Cond.selects RX5 yX5_tryDays yX5_tryDays, Cond.code yX5_tryDays cX5_tryDays 4 none, Cond.methodLink RX5 132 yX5_copy, Cond.instanceMethod yX5_copy, Cond.selects RX5 yX5_copy yX5_copy, Cond.code yX5_copy cX5_copy 4 none, Cond.methodLink RX5 174 yX5_day, Cond.instanceMethod yX5_day, Cond.selects RX5 yX5_day yX5_day, Cond.code yX5_day cX5_day 5 none, Cond.methodLink RX5 136 yX5_placeOf, Cond.static yX5_placeOf, Cond.code yX5_placeOf cX5_placeOf 3 (some .int), Cond.methodLink RX5 160 yX5_grown, Cond.instanceMethod yX5_grown]
def wsX5_all_r2 : List Cond := [Cond.selects RX5 yX5_grown yX5_grown, Cond.code yX5_grown cX5_grown 6 (some .int), Cond.fieldLink RX5 23 "TreeDebtsModel" "kinds" "[I", Cond.fieldLink RX5 26 "TreeDebtsModel" "rates" "[I", Cond.constant RX5 150 (1000000), Cond.methodLink RX5 163 yX5_work, Cond.instanceMethod yX5_work, Cond.selects RX5 yX5_work yX5_work, Cond.code yX5_work cX5_work 8 none, Cond.methodLink RX5 151 yX5_firstDue, Cond.instanceMethod yX5_firstDue, Cond.selects RX5 yX5_firstDue yX5_firstDue, Cond.code yX5_firstDue cX5_firstDue 4 (some .int), Cond.methodLink RX5 154 yX5_few, Cond.static yX5_few, Cond.code yX5_few cX5_few 1 (some .int), Cond.methodLink RX5 157 yX5_remove, Cond.instanceMethod yX5_remove, Cond.selects RX5 yX5_remove yX5_remove, Cond.code yX5_remove cX5_remove 4 none, Cond.methodLink RX5 185 yX5_owedAll, Cond.instanceMethod yX5_owedAll, Cond.selects RX5 yX5_owedAll yX5_owedAll, Cond.code yX5_owedAll cX5_owedAll 4 (some .int)]
def wsX5_all : List Cond := .code yX5_all cX5_all 3 (some .int) :: ((wsX5_all_r1 ++ wsX5_all_r2) ++ wsX50)
def wsX5_clear_r1 : List Cond := [Cond.fieldLink RX5 7 "TreeDebtsModel" "row" "[I", Cond.fieldLink RX5 38 "TreeDebtsModel" "hands" "I", Cond.methodLink RX5 132 yX5_copy, Cond.instanceMethod yX5_copy, Cond.selects RX5 yX5_copy yX5_copy, Cond.initialized RX5, Cond.code yX5_copy cX5_copy 4 none, Cond.methodLink RX5 174 yX5_day, Cond.instanceMethod yX5_day, Cond.selects RX5 yX5_day yX5_day, Cond.code yX5_day cX5_day 5 none, Cond.methodLink RX5 136 yX5_placeOf, Cond.static yX5_placeOf, Cond.code yX5_placeOf cX5_placeOf 3 (some .int), Cond.methodLink RX5 160 yX5_grown, Cond.instanceMethod yX5_grown, Cond.selects RX5 yX5_grown yX5_grown, Cond.code yX5_grown cX5_grown 6 (some .int), Cond.fieldLink RX5 23 "TreeDebtsModel" "kinds" "[I", Cond.fieldLink RX5 26 "TreeDebtsModel" "rates" "[I", Cond.constant RX5 150 (1000000), Cond.methodLink RX5 163 yX5_work, Cond.instanceMethod yX5_work, Cond.selects RX5 yX5_work yX5_work]
def wsX5_clear_r2 : List Cond := [Cond.code yX5_work cX5_work 8 none, Cond.methodLink RX5 151 yX5_firstDue, Cond.instanceMethod yX5_firstDue, Cond.selects RX5 yX5_firstDue yX5_firstDue, Cond.code yX5_firstDue cX5_firstDue 4 (some .int), Cond.methodLink RX5 154 yX5_few, Cond.static yX5_few, Cond.code yX5_few cX5_few 1 (some .int), Cond.methodLink RX5 157 yX5_remove, Cond.instanceMethod yX5_remove, Cond.selects RX5 yX5_remove yX5_remove, Cond.code yX5_remove cX5_remove 4 none]
def wsX5_clear : List Cond := .code yX5_clear cX5_clear 2 (some .int) :: ((wsX5_clear_r1 ++ wsX5_clear_r2) ++ wsX50)
def wsX5_owedFor : List Cond := .code yX5_owedFor cX5_owedFor 6 (some .int) :: ([.methodLink RX5 160 yX5_grown, .instanceMethod yX5_grown, .selects RX5 yX5_grown yX5_grown, .initialized RX5, .code yX5_grown cX5_grown 6 (some .int), .fieldLink RX5 23 "TreeDebtsModel" "kinds" "[I", .fieldLink RX5 26 "TreeDebtsModel" "rates" "[I", .constant RX5 150 (1000000)] ++ wsX50)
def wsX5_layPrices_r1 : List Cond := [Cond.fieldLink RX5 115 "TreeDebtsModel" "many" "I", Cond.fieldLink RX5 7 "TreeDebtsModel" "row" "[I", Cond.fieldLink RX5 42 "TreeDebtsModel" "prices" "[I", Cond.methodLink RX5 171 yX5_lends, Cond.instanceMethod yX5_lends, Cond.selects RX5 yX5_lends yX5_lends, Cond.initialized RX5, Cond.code yX5_lends cX5_lends 2 (some .boolean), Cond.methodLink RX5 144 yX5_lives, Cond.instanceMethod yX5_lives, Cond.selects RX5 yX5_lives yX5_lives, Cond.code yX5_lives cX5_lives 2 (some .boolean), Cond.methodLink RX5 147 yX5_isCross, Cond.instanceMethod yX5_isCross, Cond.selects RX5 yX5_isCross yX5_isCross, Cond.code yX5_isCross cX5_isCross 5 (some .boolean), Cond.fieldLink RX5 118 "TreeDebtsModel" "quarrelMany" "I", Cond.fieldLink RX5 35 "TreeDebtsModel" "quarrels" "[I", Cond.methodLink RX5 140 yX5_owedTo, Cond.instanceMethod yX5_owedTo, Cond.selects RX5 yX5_owedTo yX5_owedTo, Cond.code yX5_owedTo cX5_owedTo 5 (some .int), Cond.methodLink RX5 136 yX5_placeOf, Cond.static yX5_placeOf]
def wsX5_layPrices_r2 : List Cond := [Cond.code yX5_placeOf cX5_placeOf 3 (some .int), Cond.methodLink RX5 188 yX5_owedFor, Cond.instanceMethod yX5_owedFor, Cond.selects RX5 yX5_owedFor yX5_owedFor, Cond.code yX5_owedFor cX5_owedFor 6 (some .int), Cond.methodLink RX5 160 yX5_grown, Cond.instanceMethod yX5_grown, Cond.selects RX5 yX5_grown yX5_grown, Cond.code yX5_grown cX5_grown 6 (some .int), Cond.fieldLink RX5 23 "TreeDebtsModel" "kinds" "[I", Cond.fieldLink RX5 26 "TreeDebtsModel" "rates" "[I", Cond.constant RX5 150 (1000000)]
def wsX5_layPrices : List Cond := .code yX5_layPrices cX5_layPrices 5 none :: ((wsX5_layPrices_r1 ++ wsX5_layPrices_r2) ++ wsX50)
def wsX5_by : List Cond := .code yX5_by cX5_by 6 (some .int) :: ([.fieldLink RX5 42 "TreeDebtsModel" "prices" "[I", .fieldLink RX5 45 "TreeDebtsModel" "leasts" "[I"] ++ wsX50)
def wsX5_layLeasts : List Cond := .code yX5_layLeasts cX5_layLeasts 6 none :: ([.fieldLink RX5 45 "TreeDebtsModel" "leasts" "[I", .fieldLink RX5 115 "TreeDebtsModel" "many" "I", .methodLink RX5 191 yX5_by, .instanceMethod yX5_by, .selects RX5 yX5_by yX5_by, .initialized RX5, .code yX5_by cX5_by 6 (some .int), .fieldLink RX5 42 "TreeDebtsModel" "prices" "[I"] ++ wsX50)
def wsX5_hut_r1 : List Cond := [Cond.constantLong RX5 169 (99), Cond.constantLong RX5 194 (30), Cond.fieldLink RX5 45 "TreeDebtsModel" "leasts" "[I", Cond.methodLink RX5 50 yX5_in, Cond.static yX5_in, Cond.initialized RX5, Cond.code yX5_in cX5_in 6 (some .boolean), Cond.methodLink RX5 166 yX5_isTree, Cond.instanceMethod yX5_isTree, Cond.selects RX5 yX5_isTree yX5_isTree, Cond.code yX5_isTree cX5_isTree 2 (some .boolean), Cond.fieldLink RX5 115 "TreeDebtsModel" "many" "I", Cond.methodLink RX5 196 yX5_layPrices, Cond.instanceMethod yX5_layPrices, Cond.selects RX5 yX5_layPrices yX5_layPrices, Cond.code yX5_layPrices cX5_layPrices 5 none, Cond.fieldLink RX5 7 "TreeDebtsModel" "row" "[I", Cond.fieldLink RX5 42 "TreeDebtsModel" "prices" "[I", Cond.methodLink RX5 171 yX5_lends, Cond.instanceMethod yX5_lends, Cond.selects RX5 yX5_lends yX5_lends, Cond.code yX5_lends cX5_lends 2 (some .boolean), Cond.methodLink RX5 144 yX5_lives, Cond.instanceMethod yX5_lives]
def wsX5_hut_r2 : List Cond := [Cond.selects RX5 yX5_lives yX5_lives, Cond.code yX5_lives cX5_lives 2 (some .boolean), Cond.methodLink RX5 147 yX5_isCross, Cond.instanceMethod yX5_isCross, Cond.selects RX5 yX5_isCross yX5_isCross, Cond.code yX5_isCross cX5_isCross 5 (some .boolean), Cond.fieldLink RX5 118 "TreeDebtsModel" "quarrelMany" "I", Cond.fieldLink RX5 35 "TreeDebtsModel" "quarrels" "[I", Cond.methodLink RX5 140 yX5_owedTo, Cond.instanceMethod yX5_owedTo, Cond.selects RX5 yX5_owedTo yX5_owedTo, Cond.code yX5_owedTo cX5_owedTo 5 (some .int), Cond.methodLink RX5 136 yX5_placeOf, Cond.static yX5_placeOf, Cond.code yX5_placeOf cX5_placeOf 3 (some .int), Cond.methodLink RX5 188 yX5_owedFor, Cond.instanceMethod yX5_owedFor, Cond.selects RX5 yX5_owedFor yX5_owedFor, Cond.code yX5_owedFor cX5_owedFor 6 (some .int), Cond.methodLink RX5 160 yX5_grown, Cond.instanceMethod yX5_grown, Cond.selects RX5 yX5_grown yX5_grown, Cond.code yX5_grown cX5_grown 6 (some .int), Cond.fieldLink RX5 23 "TreeDebtsModel" "kinds" "[I"]
def wsX5_hut_r3 : List Cond := [Cond.fieldLink RX5 26 "TreeDebtsModel" "rates" "[I", Cond.constant RX5 150 (1000000), Cond.methodLink RX5 199 yX5_layLeasts, Cond.instanceMethod yX5_layLeasts, Cond.selects RX5 yX5_layLeasts yX5_layLeasts, Cond.code yX5_layLeasts cX5_layLeasts 6 none, Cond.methodLink RX5 191 yX5_by, Cond.instanceMethod yX5_by, Cond.selects RX5 yX5_by yX5_by, Cond.code yX5_by cX5_by 6 (some .int)]
def wsX5_hut : List Cond := .code yX5_hut cX5_hut 7 (some .int) :: ((wsX5_hut_r1 ++ (wsX5_hut_r2 ++ wsX5_hut_r3)) ++ wsX50)
def wsX5_enough_r1 : List Cond := [Cond.constantLong RX5 169 (99), Cond.fieldLink RX5 7 "TreeDebtsModel" "row" "[I", Cond.methodLink RX5 50 yX5_in, Cond.static yX5_in, Cond.initialized RX5, Cond.code yX5_in cX5_in 6 (some .boolean), Cond.methodLink RX5 182 yX5_tryDays, Cond.instanceMethod yX5_tryDays, Cond.selects RX5 yX5_tryDays yX5_tryDays, Cond.code yX5_tryDays cX5_tryDays 4 none, Cond.methodLink RX5 132 yX5_copy, Cond.instanceMethod yX5_copy, Cond.selects RX5 yX5_copy yX5_copy, Cond.code yX5_copy cX5_copy 4 none, Cond.methodLink RX5 174 yX5_day, Cond.instanceMethod yX5_day, Cond.selects RX5 yX5_day yX5_day, Cond.code yX5_day cX5_day 5 none, Cond.methodLink RX5 136 yX5_placeOf, Cond.static yX5_placeOf, Cond.code yX5_placeOf cX5_placeOf 3 (some .int), Cond.methodLink RX5 160 yX5_grown, Cond.instanceMethod yX5_grown, Cond.selects RX5 yX5_grown yX5_grown]
def wsX5_enough_r2 : List Cond := [Cond.code yX5_grown cX5_grown 6 (some .int), Cond.fieldLink RX5 23 "TreeDebtsModel" "kinds" "[I", Cond.fieldLink RX5 26 "TreeDebtsModel" "rates" "[I", Cond.constant RX5 150 (1000000), Cond.methodLink RX5 163 yX5_work, Cond.instanceMethod yX5_work, Cond.selects RX5 yX5_work yX5_work, Cond.code yX5_work cX5_work 8 none, Cond.methodLink RX5 151 yX5_firstDue, Cond.instanceMethod yX5_firstDue, Cond.selects RX5 yX5_firstDue yX5_firstDue, Cond.code yX5_firstDue cX5_firstDue 4 (some .int), Cond.methodLink RX5 154 yX5_few, Cond.static yX5_few, Cond.code yX5_few cX5_few 1 (some .int), Cond.methodLink RX5 157 yX5_remove, Cond.instanceMethod yX5_remove, Cond.selects RX5 yX5_remove yX5_remove, Cond.code yX5_remove cX5_remove 4 none]
def wsX5_enough : List Cond := .code yX5_enough cX5_enough 3 (some .int) :: ((wsX5_enough_r1 ++ wsX5_enough_r2) ++ wsX50)
def wsX5_rid : List Cond := .code yX5_rid cX5_rid 9 (some .int) :: ([.constantLong RX5 202 (10), .fieldLink RX5 7 "TreeDebtsModel" "row" "[I", .fieldLink RX5 32 "TreeDebtsModel" "parts" "[I", .methodLink RX5 50 yX5_in, .static yX5_in, .initialized RX5, .code yX5_in cX5_in 6 (some .boolean), .methodLink RX5 136 yX5_placeOf, .static yX5_placeOf, .code yX5_placeOf cX5_placeOf 3 (some .int)] ++ wsX50)
def wsX5_grandson_r1 : List Cond := [Cond.constantLong RX5 169 (99), Cond.fieldLink RX5 38 "TreeDebtsModel" "hands" "I", Cond.fieldLink RX5 115 "TreeDebtsModel" "many" "I", Cond.fieldLink RX5 7 "TreeDebtsModel" "row" "[I", Cond.methodLink RX5 50 yX5_in, Cond.static yX5_in, Cond.initialized RX5, Cond.code yX5_in cX5_in 6 (some .boolean), Cond.methodLink RX5 182 yX5_tryDays, Cond.instanceMethod yX5_tryDays, Cond.selects RX5 yX5_tryDays yX5_tryDays, Cond.code yX5_tryDays cX5_tryDays 4 none, Cond.methodLink RX5 132 yX5_copy, Cond.instanceMethod yX5_copy, Cond.selects RX5 yX5_copy yX5_copy, Cond.code yX5_copy cX5_copy 4 none, Cond.methodLink RX5 174 yX5_day, Cond.instanceMethod yX5_day, Cond.selects RX5 yX5_day yX5_day, Cond.code yX5_day cX5_day 5 none, Cond.methodLink RX5 136 yX5_placeOf, Cond.static yX5_placeOf, Cond.code yX5_placeOf cX5_placeOf 3 (some .int), Cond.methodLink RX5 160 yX5_grown]
def wsX5_grandson_r2 : List Cond := [Cond.instanceMethod yX5_grown, Cond.selects RX5 yX5_grown yX5_grown, Cond.code yX5_grown cX5_grown 6 (some .int), Cond.fieldLink RX5 23 "TreeDebtsModel" "kinds" "[I", Cond.fieldLink RX5 26 "TreeDebtsModel" "rates" "[I", Cond.constant RX5 150 (1000000), Cond.methodLink RX5 163 yX5_work, Cond.instanceMethod yX5_work, Cond.selects RX5 yX5_work yX5_work, Cond.code yX5_work cX5_work 8 none, Cond.methodLink RX5 151 yX5_firstDue, Cond.instanceMethod yX5_firstDue, Cond.selects RX5 yX5_firstDue yX5_firstDue, Cond.code yX5_firstDue cX5_firstDue 4 (some .int), Cond.methodLink RX5 154 yX5_few, Cond.static yX5_few, Cond.code yX5_few cX5_few 1 (some .int), Cond.methodLink RX5 157 yX5_remove, Cond.instanceMethod yX5_remove, Cond.selects RX5 yX5_remove yX5_remove, Cond.code yX5_remove cX5_remove 4 none, Cond.methodLink RX5 144 yX5_lives, Cond.instanceMethod yX5_lives, Cond.selects RX5 yX5_lives yX5_lives]
def wsX5_grandson_r3 : List Cond := [Cond.code yX5_lives cX5_lives 2 (some .boolean)]
def wsX5_grandson : List Cond := .code yX5_grandson cX5_grandson 4 (some .int) :: ((wsX5_grandson_r1 ++ (wsX5_grandson_r2 ++ wsX5_grandson_r3)) ++ wsX50)
def wsX5_toWhom : List Cond := .code yX5_toWhom cX5_toWhom 6 (some .int) :: ([.constantLong RX5 169 (99), .constantLong RX5 194 (30), .constantLong RX5 204 (1000000), .fieldLink RX5 115 "TreeDebtsModel" "many" "I", .methodLink RX5 50 yX5_in, .static yX5_in, .initialized RX5, .code yX5_in cX5_in 6 (some .boolean), .methodLink RX5 144 yX5_lives, .instanceMethod yX5_lives, .selects RX5 yX5_lives yX5_lives, .code yX5_lives cX5_lives 2 (some .boolean), .fieldLink RX5 7 "TreeDebtsModel" "row" "[I", .methodLink RX5 188 yX5_owedFor, .instanceMethod yX5_owedFor, .selects RX5 yX5_owedFor yX5_owedFor, .code yX5_owedFor cX5_owedFor 6 (some .int), .methodLink RX5 160 yX5_grown, .instanceMethod yX5_grown, .selects RX5 yX5_grown yX5_grown, .code yX5_grown cX5_grown 6 (some .int), .fieldLink RX5 23 "TreeDebtsModel" "kinds" "[I", .fieldLink RX5 26 "TreeDebtsModel" "rates" "[I", .constant RX5 150 (1000000)] ++ wsX50)
def wsX5_count : List Cond := .code yX5_count cX5_count 2 (some .int) :: ([.fieldLink RX5 115 "TreeDebtsModel" "many" "I", .fieldLink RX5 118 "TreeDebtsModel" "quarrelMany" "I", .fieldLink RX5 38 "TreeDebtsModel" "hands" "I", .fieldLink RX5 7 "TreeDebtsModel" "row" "[I", .fieldLink RX5 54 "TreeDebtsModel" "length" "I", .methodLink RX5 185 yX5_owedAll, .instanceMethod yX5_owedAll, .selects RX5 yX5_owedAll yX5_owedAll, .initialized RX5, .code yX5_owedAll cX5_owedAll 4 (some .int), .methodLink RX5 136 yX5_placeOf, .static yX5_placeOf, .code yX5_placeOf cX5_placeOf 3 (some .int)] ++ wsX50)
def wsJ9_min_7cf53 : List Cond := .code yJ9_min_7cf53 cJ9_min_7cf53 2 (some .int) :: ([])
def wsL_law_r1 : List Cond := [Cond.classLink RL 7 RX4, Cond.instantiable RX4 7, Cond.initialized RX4, Cond.classLink RL 10 RX5, Cond.instantiable RX5 21, Cond.initialized RX5, Cond.constantLong RL 13 (4294967295), Cond.methodLink RL 9 yX4_init, Cond.instanceMethod yX4_init, Cond.code yX4_init cX4_init 1 none, Cond.methodLink RX4 1 objectInit, Cond.instanceMethod objectInit, Cond.code objectInit ⟨#[0xb1]⟩ 1 none, Cond.classLink RX4 7 RX2, Cond.instantiable RX2 8, Cond.initialized RX2, Cond.fieldLink RX4 10 "TreeDebts" "text" "LTreeDebts$Text;", Cond.classLink RX4 16 RX3, Cond.instantiable RX3 10, Cond.initialized RX3, Cond.fieldLink RX4 19 "TreeDebts" "told" "LTreeDebts$Told;", Cond.classLink RX4 23 RX1, Cond.instantiable RX1 10, Cond.initialized RX1]
def wsL_law_r2 : List Cond := [Cond.fieldLink RX4 26 "TreeDebts" "now" "LTreeDebts$State;", Cond.fieldLink RX4 30 "TreeDebts" "foretold" "LTreeDebts$State;", Cond.fieldLink RX4 33 "TreeDebts" "kept" "[LTreeDebts$State;", Cond.arrayClass .boolean, Cond.fieldLink RX4 37 "TreeDebts" "isKept" "[Z", Cond.classLink RX4 41 RX0, Cond.instantiable RX0 5, Cond.initialized RX0, Cond.fieldLink RX4 44 "TreeDebts" "hutPlan" "LTreeDebts$HutPlan;", Cond.instanceMethod yX2_init, Cond.code yX2_init cX2_init 1 none, Cond.methodLink RX2 3 objectInit, Cond.arrayClass .int, Cond.fieldLink RX2 9 "TreeDebts$Text" "bytes" "[I", Cond.classLink RX2 15 RX3, Cond.fieldLink RX2 18 "TreeDebts$Text" "draft" "LTreeDebts$Told;", Cond.instanceMethod yX3_init, Cond.code yX3_init cX3_init 1 none, Cond.methodLink RX3 3 objectInit, Cond.fieldLink RX3 9 "TreeDebts$Told" "kinds" "[I", Cond.fieldLink RX3 15 "TreeDebts$Told" "branches" "[I", Cond.fieldLink RX3 18 "TreeDebts$Told" "rates" "[I", Cond.fieldLink RX3 21 "TreeDebts$Told" "terms" "[I", Cond.fieldLink RX3 24 "TreeDebts$Told" "parts" "[I"]
def wsL_law_r3 : List Cond := [Cond.fieldLink RX3 27 "TreeDebts$Told" "ones" "[I", Cond.fieldLink RX3 30 "TreeDebts$Told" "others" "[I", Cond.fieldLink RX3 33 "TreeDebts$Told" "hands" "I", Cond.instanceMethod yX1_init, Cond.code yX1_init cX1_init 1 none, Cond.methodLink RX1 3 objectInit, Cond.fieldLink RX1 9 "TreeDebts$State" "branches" "[I", Cond.fieldLink RX1 15 "TreeDebts$State" "fates" "[I", Cond.fieldLink RX1 18 "TreeDebts$State" "lenders" "[I", Cond.fieldLink RX1 21 "TreeDebts$State" "lent" "[I", Cond.fieldLink RX1 24 "TreeDebts$State" "owed" "[I", Cond.fieldLink RX1 27 "TreeDebts$State" "dues" "[I", Cond.fieldLink RX1 30 "TreeDebts$State" "failed" "[I", Cond.instanceMethod yX0_init, Cond.code yX0_init cX0_init 1 none, Cond.methodLink RX0 3 objectInit, Cond.classLink RX0 9 "[[I", Cond.fieldLink RX0 11 "TreeDebts$HutPlan" "least" "[[I", Cond.fieldLink RX0 16 "TreeDebts$HutPlan" "choice" "[[I", Cond.fieldLink RX0 19 "TreeDebts$HutPlan" "costs" "[I", Cond.fieldLink RX0 23 "TreeDebts$HutPlan" "from" "[I", Cond.methodLink RL 12 yX5_init, Cond.instanceMethod yX5_init, Cond.code yX5_init cX5_init 1 none]
def wsL_law_r4 : List Cond := [Cond.methodLink RX5 1 objectInit, Cond.fieldLink RX5 7 "TreeDebtsModel" "row" "[I", Cond.fieldLink RX5 13 "TreeDebtsModel" "isKept" "[Z", Cond.fieldLink RX5 17 "TreeDebtsModel" "text" "[I", Cond.fieldLink RX5 20 "TreeDebtsModel" "read" "[I", Cond.fieldLink RX5 23 "TreeDebtsModel" "kinds" "[I", Cond.fieldLink RX5 26 "TreeDebtsModel" "rates" "[I", Cond.fieldLink RX5 29 "TreeDebtsModel" "terms" "[I", Cond.fieldLink RX5 32 "TreeDebtsModel" "parts" "[I", Cond.fieldLink RX5 35 "TreeDebtsModel" "quarrels" "[I", Cond.fieldLink RX5 38 "TreeDebtsModel" "hands" "I", Cond.fieldLink RX5 42 "TreeDebtsModel" "prices" "[I", Cond.fieldLink RX5 45 "TreeDebtsModel" "leasts" "[I", Cond.methodLink RL 15 yX4_write, Cond.instanceMethod yX4_write, Cond.selects RX4 yX4_write yX4_write, Cond.code yX4_write cX4_write 5 (some .int), Cond.fieldLink RX4 48 "TreeDebts$Text" "length" "I", Cond.constantLong RX4 52 (255), Cond.methodLink RX4 54 yX2_add, Cond.instanceMethod yX2_add, Cond.selects RX2 yX2_add yX2_add, Cond.code yX2_add cX2_add 2 none, Cond.fieldLink RX2 22 "TreeDebts$Text" "length" "I"]
def wsL_law_r5 : List Cond := [Cond.methodLink RL 19 yX5_write, Cond.instanceMethod yX5_write, Cond.selects RX5 yX5_write yX5_write, Cond.code yX5_write cX5_write 5 (some .int), Cond.constantLong RX5 48 (8), Cond.fieldLink RX5 54 "TreeDebtsModel" "length" "I", Cond.constantLong RX5 57 (255), Cond.methodLink RX5 50 yX5_in, Cond.static yX5_in, Cond.code yX5_in cX5_in 6 (some .boolean), Cond.methodLink RL 20 yX4_erase, Cond.instanceMethod yX4_erase, Cond.selects RX4 yX4_erase yX4_erase, Cond.code yX4_erase cX4_erase 2 (some .int), Cond.methodLink RL 24 yX5_erase, Cond.instanceMethod yX5_erase, Cond.selects RX5 yX5_erase yX5_erase, Cond.code yX5_erase cX5_erase 2 (some .int), Cond.methodLink RL 25 yX4_fault, Cond.instanceMethod yX4_fault, Cond.selects RX4 yX4_fault yX4_fault, Cond.code yX4_fault cX4_fault 1 (some .int), Cond.methodLink RX4 58 yX2_read, Cond.instanceMethod yX2_read]
def wsL_law_r6 : List Cond := [Cond.selects RX2 yX2_read yX2_read, Cond.code yX2_read cX2_read 3 (some .int), Cond.fieldLink RX2 30 "TreeDebts$Text" "lines" "I", Cond.fieldLink RX2 33 "TreeDebts$Text" "end" "I", Cond.fieldLink RX2 43 "TreeDebts$Text" "start" "I", Cond.fieldLink RX2 46 "TreeDebts$Text" "token" "I", Cond.methodLink RX2 26 yX3_copyFrom, Cond.instanceMethod yX3_copyFrom, Cond.selects RX3 yX3_copyFrom yX3_copyFrom, Cond.code yX3_copyFrom cX3_copyFrom 2 none, Cond.fieldLink RX3 37 "TreeDebts$Told" "trees" "I", Cond.methodLink RX3 43 arraycopyName, Cond.native arraycopyName, Cond.static arraycopyName, Cond.initialized "java/lang/System", Cond.fieldLink RX3 40 "TreeDebts$Told" "quarrels" "I", Cond.methodLink RX2 36 yX2_nextToken, Cond.instanceMethod yX2_nextToken, Cond.selects RX2 yX2_nextToken yX2_nextToken, Cond.code yX2_nextToken cX2_nextToken 1 none, Cond.methodLink RX2 117 yX2_isLetter, Cond.static yX2_isLetter, Cond.code yX2_isLetter cX2_isLetter 1 (some .boolean), Cond.methodLink RX2 120 yX2_isDigit]
def wsL_law_r7 : List Cond := [Cond.static yX2_isDigit, Cond.code yX2_isDigit cX2_isDigit 1 (some .boolean), Cond.methodLink RX2 123 yX2_readDigits, Cond.instanceMethod yX2_readDigits, Cond.selects RX2 yX2_readDigits yX2_readDigits, Cond.code yX2_readDigits cX2_readDigits 1 none, Cond.fieldLink RX2 108 "TreeDebts$Text" "value" "I", Cond.methodLink RX2 39 yX2_readLine, Cond.instanceMethod yX2_readLine, Cond.selects RX2 yX2_readLine yX2_readLine, Cond.code yX2_readLine cX2_readLine 1 (some .boolean), Cond.methodLink RX2 54 yX2_isWord, Cond.instanceMethod yX2_isWord, Cond.selects RX2 yX2_isWord yX2_isWord, Cond.code yX2_isWord cX2_isWord 3 (some .boolean), Cond.methodLink RX2 126 yJ0_length_8abf5, Cond.instanceMethod yJ0_length_8abf5, Cond.selects RJ0 yJ0_length_8abf5 yJ0_length_8abf5, Cond.initialized RJ0, Cond.code yJ0_length_8abf5 cJ0_length_8abf5 1 (some .int), Cond.fieldLink RJ0 9 "java/lang/String" "value" "[B", Cond.methodLink RJ0 335 yJ0_coder_7d493, Cond.instanceMethod yJ0_coder_7d493, Cond.selects RJ0 yJ0_coder_7d493 yJ0_coder_7d493]
def wsL_law_r8 : List Cond := [Cond.code yJ0_coder_7d493 cJ0_coder_7d493 1 (some .byte), Cond.fieldLink RJ0 38 "java/lang/String" "COMPACT_STRINGS" "Z", Cond.fieldLink RJ0 15 "java/lang/String" "coder" "B", Cond.methodLink RX2 131 yJ0_charAt_5068e, Cond.instanceMethod yJ0_charAt_5068e, Cond.selects RJ0 yJ0_charAt_5068e yJ0_charAt_5068e, Cond.code yJ0_charAt_5068e cJ0_charAt_5068e 2 (some .char), Cond.methodLink RJ0 492 yJ0_isLatin1_aae02, Cond.instanceMethod yJ0_isLatin1_aae02, Cond.selects RJ0 yJ0_isLatin1_aae02 yJ0_isLatin1_aae02, Cond.code yJ0_isLatin1_aae02 cJ0_isLatin1_aae02 1 (some .boolean), Cond.methodLink RJ0 495 yJ1_charAt_3b067, Cond.static yJ1_charAt_3b067, Cond.initialized RJ1, Cond.code yJ1_charAt_3b067 cJ1_charAt_3b067 2 (some .char), Cond.methodLink RJ1 9 yJ0_checkIndex_df160, Cond.static yJ0_checkIndex_df160, Cond.code yJ0_checkIndex_df160 cJ0_checkIndex_df160 2 none, Cond.fieldLink RJ0 1053 "jdk/internal/util/Preconditions" "SIOOBE_FORMATTER" "Ljava/util/function/BiFunction;", Cond.methodLink RJ0 1059 yJ3_checkIndex_8e157, Cond.static yJ3_checkIndex_8e157, Cond.initialized RJ3, Cond.code yJ3_checkIndex_8e157 cJ3_checkIndex_8e157 3 (some .int), Cond.methodLink RJ0 498 yJ2_charAt_3b067]
def wsL_law_r9 : List Cond := [Cond.static yJ2_charAt_3b067, Cond.initialized RJ2, Cond.code yJ2_charAt_3b067 cJ2_charAt_3b067 2 (some .char), Cond.methodLink RJ2 67 yJ2_checkIndex_2214a, Cond.static yJ2_checkIndex_2214a, Cond.code yJ2_checkIndex_2214a cJ2_checkIndex_2214a 2 none, Cond.methodLink RJ2 48 yJ2_length_9d52b, Cond.static yJ2_length_9d52b, Cond.code yJ2_length_9d52b cJ2_length_9d52b 1 (some .int), Cond.methodLink RJ2 414 yJ0_checkIndex_df160, Cond.methodLink RJ2 71 yJ2_getChar_3b067, Cond.static yJ2_getChar_3b067, Cond.code yJ2_getChar_3b067 cJ2_getChar_3b067 2 (some .char), Cond.fieldLink RJ2 44 "java/lang/StringUTF16" "$assertionsDisabled" "Z", Cond.fieldLink RJ2 59 "java/lang/StringUTF16" "HI_BYTE_SHIFT" "I", Cond.fieldLink RJ2 63 "java/lang/StringUTF16" "LO_BYTE_SHIFT" "I", Cond.methodLink RX2 58 yX2_readWood, Cond.instanceMethod yX2_readWood, Cond.selects RX2 yX2_readWood yX2_readWood, Cond.code yX2_readWood cX2_readWood 1 (some .boolean), Cond.methodLink RX2 88 yX3_forget, Cond.instanceMethod yX3_forget, Cond.selects RX3 yX3_forget yX3_forget, Cond.code yX3_forget cX3_forget 1 none]
def wsL_law_r10 : List Cond := [Cond.methodLink RX2 63 yX2_readTree, Cond.instanceMethod yX2_readTree, Cond.selects RX2 yX2_readTree yX2_readTree, Cond.code yX2_readTree cX2_readTree 5 (some .boolean), Cond.fieldLink RX2 91 "TreeDebts$Told" "trees" "I", Cond.methodLink RX2 94 yX2_readNumber, Cond.instanceMethod yX2_readNumber, Cond.selects RX2 yX2_readNumber yX2_readNumber, Cond.code yX2_readNumber cX2_readNumber 4 (some .int), Cond.methodLink RX2 98 yX3_addTree, Cond.instanceMethod yX3_addTree, Cond.selects RX3 yX3_addTree yX3_addTree, Cond.code yX3_addTree cX3_addTree 5 none, Cond.methodLink RX2 75 yX2_readPart, Cond.instanceMethod yX2_readPart, Cond.selects RX2 yX2_readPart yX2_readPart, Cond.code yX2_readPart cX2_readPart 3 (some .boolean), Cond.fieldLink RX2 102 "TreeDebts$Told" "parts" "[I", Cond.methodLink RX2 80 yX2_readQuarrel, Cond.instanceMethod yX2_readQuarrel, Cond.selects RX2 yX2_readQuarrel yX2_readQuarrel, Cond.code yX2_readQuarrel cX2_readQuarrel 3 (some .boolean), Cond.fieldLink RX2 105 "TreeDebts$Told" "quarrels" "I", Cond.methodLink RX2 111 yX3_addQuarrel]
def wsL_law_r11 : List Cond := [Cond.instanceMethod yX3_addQuarrel, Cond.selects RX3 yX3_addQuarrel yX3_addQuarrel, Cond.code yX3_addQuarrel cX3_addQuarrel 3 none, Cond.methodLink RX2 85 yX2_readHands, Cond.instanceMethod yX2_readHands, Cond.selects RX2 yX2_readHands yX2_readHands, Cond.code yX2_readHands cX2_readHands 2 (some .boolean), Cond.fieldLink RX2 115 "TreeDebts$Told" "hands" "I", Cond.methodLink RX2 49 yX2_isAtSemicolon, Cond.instanceMethod yX2_isAtSemicolon, Cond.selects RX2 yX2_isAtSemicolon yX2_isAtSemicolon, Cond.code yX2_isAtSemicolon cX2_isAtSemicolon 1 (some .boolean), Cond.methodLink RL 28 yX5_fault, Cond.instanceMethod yX5_fault, Cond.selects RX5 yX5_fault yX5_fault, Cond.code yX5_fault cX5_fault 2 (some .int), Cond.fieldLink RX5 59 "TreeDebtsModel" "at" "I", Cond.fieldLink RX5 87 "TreeDebtsModel" "readMany" "I", Cond.fieldLink RX5 115 "TreeDebtsModel" "many" "I", Cond.fieldLink RX5 93 "TreeDebtsModel" "readTrees" "I", Cond.fieldLink RX5 118 "TreeDebtsModel" "quarrelMany" "I", Cond.fieldLink RX5 109 "TreeDebtsModel" "readQuarrels" "I", Cond.fieldLink RX5 62 "TreeDebtsModel" "place" "I", Cond.fieldLink RX5 69 "TreeDebtsModel" "end" "I"]
def wsL_law_r12 : List Cond := [Cond.methodLink RX5 90 yX5_token, Cond.instanceMethod yX5_token, Cond.selects RX5 yX5_token yX5_token, Cond.code yX5_token cX5_token 1 none, Cond.methodLink RX5 65 yX5_sort, Cond.static yX5_sort, Cond.code yX5_sort cX5_sort 1 (some .int), Cond.methodLink RX5 121 yX5_readsLine, Cond.instanceMethod yX5_readsLine, Cond.selects RX5 yX5_readsLine yX5_readsLine, Cond.code yX5_readsLine cX5_readsLine 2 (some .boolean), Cond.methodLink RX5 102 yX5_wordOf, Cond.instanceMethod yX5_wordOf, Cond.selects RX5 yX5_wordOf yX5_wordOf, Cond.code yX5_wordOf cX5_wordOf 2 (some .int), Cond.constant RX5 83 (146935), Cond.constant RX5 84 (673840), Cond.constant RX5 85 (187238065), Cond.constant RX5 86 (20068392), Cond.methodLink RX5 79 yX5_treeWord, Cond.instanceMethod yX5_treeWord, Cond.selects RX5 yX5_treeWord yX5_treeWord, Cond.code yX5_treeWord cX5_treeWord 1 (some .int), Cond.constant RX5 76 (8505634)]
def wsL_law_r13 : List Cond := [Cond.constant RX5 77 (468724), Cond.constant RX5 78 (787886568), Cond.methodLink RX5 72 yX5_isWord, Cond.instanceMethod yX5_isWord, Cond.selects RX5 yX5_isWord yX5_isWord, Cond.code yX5_isWord cX5_isWord 6 (some .boolean), Cond.methodLink RX5 105 yX5_isTreeWord, Cond.static yX5_isTreeWord, Cond.code yX5_isTreeWord cX5_isTreeWord 1 (some .boolean), Cond.constantLong RX5 100 (4), Cond.methodLink RX5 112 yX5_readsRest, Cond.instanceMethod yX5_readsRest, Cond.selects RX5 yX5_readsRest yX5_readsRest, Cond.code yX5_readsRest cX5_readsRest 3 (some .boolean), Cond.methodLink RX5 96 yX5_reads, Cond.instanceMethod yX5_reads, Cond.selects RX5 yX5_reads yX5_reads, Cond.code yX5_reads cX5_reads 7 (some .boolean), Cond.methodLink RL 29 yX4_wood, Cond.instanceMethod yX4_wood, Cond.selects RX4 yX4_wood yX4_wood, Cond.code yX4_wood cX4_wood 2 (some .int), Cond.fieldLink RX4 62 "TreeDebts$Text" "draft" "LTreeDebts$Told;", Cond.fieldLink RX4 72 "TreeDebts$Text" "lines" "I"]
def wsL_law_r14 : List Cond := [Cond.methodLink RX4 65 yX3_copyFrom, Cond.methodLink RX4 69 yX1_begin, Cond.instanceMethod yX1_begin, Cond.selects RX1 yX1_begin yX1_begin, Cond.code yX1_begin cX1_begin 3 none, Cond.fieldLink RX1 33 "TreeDebts$State" "day" "I", Cond.fieldLink RX1 37 "TreeDebts$State" "loans" "I", Cond.fieldLink RX1 40 "TreeDebts$State" "failures" "I", Cond.fieldLink RX1 43 "TreeDebts$Told" "branches" "[I", Cond.methodLink RL 32 yX5_wood, Cond.instanceMethod yX5_wood, Cond.selects RX5 yX5_wood yX5_wood, Cond.code yX5_wood cX5_wood 2 (some .int), Cond.methodLink RX5 125 yX5_fault, Cond.methodLink RX5 128 yX5_tell, Cond.instanceMethod yX5_tell, Cond.selects RX5 yX5_tell yX5_tell, Cond.code yX5_tell cX5_tell 3 none, Cond.methodLink RX5 132 yX5_copy, Cond.instanceMethod yX5_copy, Cond.selects RX5 yX5_copy yX5_copy, Cond.code yX5_copy cX5_copy 4 none, Cond.methodLink RL 33 yX4_tree, Cond.instanceMethod yX4_tree]
def wsL_law_r15 : List Cond := [Cond.selects RX4 yX4_tree yX4_tree, Cond.code yX4_tree cX4_tree 3 (some .int), Cond.fieldLink RX4 79 "TreeDebts$Told" "kinds" "[I", Cond.fieldLink RX4 83 "TreeDebts$State" "branches" "[I", Cond.fieldLink RX4 86 "TreeDebts$Told" "rates" "[I", Cond.fieldLink RX4 89 "TreeDebts$Told" "terms" "[I", Cond.fieldLink RX4 92 "TreeDebts$Told" "parts" "[I", Cond.fieldLink RX4 99 "TreeDebts$State" "fates" "[I", Cond.methodLink RX4 75 yX3_has, Cond.instanceMethod yX3_has, Cond.selects RX3 yX3_has yX3_has, Cond.code yX3_has cX3_has 2 (some .boolean), Cond.methodLink RX4 95 yX1_owedTo, Cond.instanceMethod yX1_owedTo, Cond.selects RX1 yX1_owedTo yX1_owedTo, Cond.code yX1_owedTo cX1_owedTo 4 (some .int), Cond.methodLink RX4 102 yX1_isCross, Cond.instanceMethod yX1_isCross, Cond.selects RX1 yX1_isCross yX1_isCross, Cond.code yX1_isCross cX1_isCross 5 (some .boolean), Cond.fieldLink RX1 56 "TreeDebts$Told" "quarrels" "I", Cond.fieldLink RX1 59 "TreeDebts$Told" "ones" "[I", Cond.fieldLink RX1 62 "TreeDebts$Told" "others" "[I", Cond.methodLink RX1 52 yX1_owedTo]
def wsL_law_r16 : List Cond := [Cond.methodLink RL 37 yX5_tree, Cond.instanceMethod yX5_tree, Cond.selects RX5 yX5_tree yX5_tree, Cond.code yX5_tree cX5_tree 3 (some .int), Cond.methodLink RX5 166 yX5_isTree, Cond.instanceMethod yX5_isTree, Cond.selects RX5 yX5_isTree yX5_isTree, Cond.code yX5_isTree cX5_isTree 2 (some .boolean), Cond.methodLink RX5 140 yX5_owedTo, Cond.instanceMethod yX5_owedTo, Cond.selects RX5 yX5_owedTo yX5_owedTo, Cond.code yX5_owedTo cX5_owedTo 5 (some .int), Cond.methodLink RX5 136 yX5_placeOf, Cond.static yX5_placeOf, Cond.code yX5_placeOf cX5_placeOf 3 (some .int), Cond.methodLink RX5 147 yX5_isCross, Cond.instanceMethod yX5_isCross, Cond.selects RX5 yX5_isCross yX5_isCross, Cond.code yX5_isCross cX5_isCross 5 (some .boolean), Cond.methodLink RL 38 yX4_loan, Cond.instanceMethod yX4_loan, Cond.selects RX4 yX4_loan yX4_loan, Cond.code yX4_loan cX4_loan 3 (some .int), Cond.fieldLink RX4 106 "TreeDebts$State" "loans" "I"]
def wsL_law_r17 : List Cond := [Cond.fieldLink RX4 109 "TreeDebts$State" "lenders" "[I", Cond.fieldLink RX4 112 "TreeDebts$State" "lent" "[I", Cond.fieldLink RX4 115 "TreeDebts$State" "owed" "[I", Cond.fieldLink RX4 118 "TreeDebts$State" "dues" "[I", Cond.fieldLink RX4 121 "TreeDebts$State" "failed" "[I", Cond.methodLink RL 41 yX5_loan, Cond.instanceMethod yX5_loan, Cond.selects RX5 yX5_loan yX5_loan, Cond.code yX5_loan cX5_loan 3 (some .int), Cond.methodLink RL 42 yX4_as, Cond.instanceMethod yX4_as, Cond.selects RX4 yX4_as yX4_as, Cond.code yX4_as cX4_as 3 (some .int), Cond.fieldLink RX4 124 "TreeDebts" "OVER" "[I", Cond.methodLink RX4 127 yX3_isOfKind, Cond.instanceMethod yX3_isOfKind, Cond.selects RX3 yX3_isOfKind yX3_isOfKind, Cond.code yX3_isOfKind cX3_isOfKind 5 (some .boolean), Cond.methodLink RX4 131 yX3_grownIn, Cond.instanceMethod yX3_grownIn, Cond.selects RX3 yX3_grownIn yX3_grownIn, Cond.code yX3_grownIn cX3_grownIn 6 (some .int), Cond.methodLink RX3 59 yX3_grownOnce, Cond.instanceMethod yX3_grownOnce]
def wsL_law_r18 : List Cond := [Cond.selects RX3 yX3_grownOnce yX3_grownOnce, Cond.code yX3_grownOnce cX3_grownOnce 6 (some .int), Cond.constant RX3 52 (1000000), Cond.methodLink RX3 53 Lib.Math.min.name, Cond.static Lib.Math.min.name, Cond.initialized "java/lang/Math", Cond.code Lib.Math.min.name Lib.Math.min.code 2 (some .int), Cond.methodLink RL 45 yX5_as, Cond.instanceMethod yX5_as, Cond.selects RX5 yX5_as yX5_as, Cond.code yX5_as cX5_as 5 (some .int), Cond.methodLink RX5 160 yX5_grown, Cond.instanceMethod yX5_grown, Cond.selects RX5 yX5_grown yX5_grown, Cond.code yX5_grown cX5_grown 6 (some .int), Cond.constant RX5 150 (1000000), Cond.methodLink RL 46 yX4_borrow, Cond.instanceMethod yX4_borrow, Cond.selects RX4 yX4_borrow yX4_borrow, Cond.code yX4_borrow cX4_borrow 3 (some .int), Cond.methodLink RX4 135 yX1_lends, Cond.instanceMethod yX1_lends, Cond.selects RX1 yX1_lends yX1_lends, Cond.code yX1_lends cX1_lends 3 (some .boolean)]
def wsL_law_r19 : List Cond := [Cond.methodLink RX1 65 yX1_isCross, Cond.methodLink RX4 138 yX1_lend, Cond.instanceMethod yX1_lend, Cond.selects RX1 yX1_lend yX1_lend, Cond.code yX1_lend cX1_lend 5 (some .int), Cond.methodLink RX1 69 yX3_dueOf, Cond.instanceMethod yX3_dueOf, Cond.selects RX3 yX3_dueOf yX3_dueOf, Cond.code yX3_dueOf cX3_dueOf 3 (some .int), Cond.methodLink RL 49 yX5_borrow, Cond.instanceMethod yX5_borrow, Cond.selects RX5 yX5_borrow yX5_borrow, Cond.code yX5_borrow cX5_borrow 4 (some .int), Cond.constantLong RX5 169 (99), Cond.methodLink RX5 171 yX5_lends, Cond.instanceMethod yX5_lends, Cond.selects RX5 yX5_lends yX5_lends, Cond.code yX5_lends cX5_lends 2 (some .boolean), Cond.methodLink RX5 144 yX5_lives, Cond.instanceMethod yX5_lives, Cond.selects RX5 yX5_lives yX5_lives, Cond.code yX5_lives cX5_lives 2 (some .boolean), Cond.methodLink RL 50 yX4_days, Cond.instanceMethod yX4_days]
def wsL_law_r20 : List Cond := [Cond.selects RX4 yX4_days yX4_days, Cond.code yX4_days cX4_days 2 (some .int), Cond.fieldLink RX4 142 "TreeDebts$State" "day" "I", Cond.fieldLink RX4 145 "TreeDebts$Told" "hands" "I", Cond.methodLink RX4 148 yX1_passDays, Cond.instanceMethod yX1_passDays, Cond.selects RX1 yX1_passDays yX1_passDays, Cond.code yX1_passDays cX1_passDays 5 none, Cond.methodLink RX1 78 yX1_growLoans, Cond.instanceMethod yX1_growLoans, Cond.selects RX1 yX1_growLoans yX1_growLoans, Cond.code yX1_growLoans cX1_growLoans 3 none, Cond.methodLink RX1 89 yX3_grownOnce, Cond.methodLink RX1 82 yX1_workOff, Cond.instanceMethod yX1_workOff, Cond.selects RX1 yX1_workOff yX1_workOff, Cond.code yX1_workOff cX1_workOff 6 none, Cond.methodLink RX1 73 Lib.Math.min.name, Cond.methodLink RX1 93 yX1_firstDue, Cond.instanceMethod yX1_firstDue, Cond.selects RX1 yX1_firstDue yX1_firstDue, Cond.code yX1_firstDue cX1_firstDue 3 (some .int), Cond.methodLink RX1 97 yX1_addBranches, Cond.instanceMethod yX1_addBranches]
def wsL_law_r21 : List Cond := [Cond.selects RX1 yX1_addBranches yX1_addBranches, Cond.code yX1_addBranches cX1_addBranches 3 none, Cond.methodLink RX1 101 yX1_removeLoan, Cond.instanceMethod yX1_removeLoan, Cond.selects RX1 yX1_removeLoan yX1_removeLoan, Cond.code yX1_removeLoan cX1_removeLoan 3 none, Cond.methodLink RX1 86 yX1_failDueLoans, Cond.instanceMethod yX1_failDueLoans, Cond.selects RX1 yX1_failDueLoans yX1_failDueLoans, Cond.code yX1_failDueLoans cX1_failDueLoans 2 none, Cond.methodLink RL 54 yX5_days, Cond.instanceMethod yX5_days, Cond.selects RX5 yX5_days yX5_days, Cond.code yX5_days cX5_days 3 (some .int), Cond.methodLink RX5 174 yX5_day, Cond.instanceMethod yX5_day, Cond.selects RX5 yX5_day yX5_day, Cond.code yX5_day cX5_day 5 none, Cond.methodLink RX5 163 yX5_work, Cond.instanceMethod yX5_work, Cond.selects RX5 yX5_work yX5_work, Cond.code yX5_work cX5_work 8 none, Cond.methodLink RX5 151 yX5_firstDue, Cond.instanceMethod yX5_firstDue]
def wsL_law_r22 : List Cond := [Cond.selects RX5 yX5_firstDue yX5_firstDue, Cond.code yX5_firstDue cX5_firstDue 4 (some .int), Cond.methodLink RX5 154 yX5_few, Cond.static yX5_few, Cond.code yX5_few cX5_few 1 (some .int), Cond.methodLink RX5 157 yX5_remove, Cond.instanceMethod yX5_remove, Cond.selects RX5 yX5_remove yX5_remove, Cond.code yX5_remove cX5_remove 4 none, Cond.methodLink RL 55 yX4_fire, Cond.instanceMethod yX4_fire, Cond.selects RX4 yX4_fire yX4_fire, Cond.code yX4_fire cX4_fire 2 (some .int), Cond.methodLink RX4 152 yX1_burn, Cond.instanceMethod yX1_burn, Cond.selects RX1 yX1_burn yX1_burn, Cond.code yX1_burn cX1_burn 5 (some .int), Cond.fieldLink RX1 104 "TreeDebts$Told" "trees" "I", Cond.fieldLink RX1 107 "TreeDebts$Told" "parts" "[I", Cond.methodLink RX1 110 yX1_removeLoansOf, Cond.instanceMethod yX1_removeLoansOf, Cond.selects RX1 yX1_removeLoansOf yX1_removeLoansOf, Cond.code yX1_removeLoansOf cX1_removeLoansOf 3 none, Cond.methodLink RL 58 yX5_fire]
def wsL_law_r23 : List Cond := [Cond.instanceMethod yX5_fire, Cond.selects RX5 yX5_fire yX5_fire, Cond.code yX5_fire cX5_fire 4 (some .int), Cond.constantLong RX5 177 (9), Cond.methodLink RX5 179 yX5_burn, Cond.instanceMethod yX5_burn, Cond.selects RX5 yX5_burn yX5_burn, Cond.code yX5_burn cX5_burn 3 none, Cond.methodLink RL 59 yX4_sell, Cond.instanceMethod yX4_sell, Cond.selects RX4 yX4_sell yX4_sell, Cond.code yX4_sell cX4_sell 3 (some .int), Cond.methodLink RX4 156 yX1_handOver, Cond.instanceMethod yX1_handOver, Cond.selects RX1 yX1_handOver yX1_handOver, Cond.code yX1_handOver cX1_handOver 5 (some .int), Cond.methodLink RL 62 yX5_sell, Cond.instanceMethod yX5_sell, Cond.selects RX5 yX5_sell yX5_sell, Cond.code yX5_sell cX5_sell 6 (some .int), Cond.methodLink RL 63 yX4_keep, Cond.instanceMethod yX4_keep, Cond.selects RX4 yX4_keep yX4_keep, Cond.code yX4_keep cX4_keep 2 (some .int)]
def wsL_law_r24 : List Cond := [Cond.methodLink RX4 160 yX1_copyFrom, Cond.instanceMethod yX1_copyFrom, Cond.selects RX1 yX1_copyFrom yX1_copyFrom, Cond.code yX1_copyFrom cX1_copyFrom 2 none, Cond.methodLink RX1 46 arraycopyName, Cond.methodLink RL 66 yX5_keep, Cond.instanceMethod yX5_keep, Cond.selects RX5 yX5_keep yX5_keep, Cond.code yX5_keep cX5_keep 2 (some .int), Cond.methodLink RL 67 yX4_back, Cond.instanceMethod yX4_back, Cond.selects RX4 yX4_back yX4_back, Cond.code yX4_back cX4_back 2 (some .int), Cond.methodLink RL 70 yX5_back, Cond.instanceMethod yX5_back, Cond.selects RX5 yX5_back yX5_back, Cond.code yX5_back cX5_back 2 (some .int), Cond.methodLink RL 71 yX4_later, Cond.instanceMethod yX4_later, Cond.selects RX4 yX4_later yX4_later, Cond.code yX4_later cX4_later 3 (some .int), Cond.methodLink RX4 163 yX4_foretell, Cond.instanceMethod yX4_foretell, Cond.selects RX4 yX4_foretell yX4_foretell]
def wsL_law_r25 : List Cond := [Cond.code yX4_foretell cX4_foretell 2 none, Cond.methodLink RL 74 yX5_later, Cond.instanceMethod yX5_later, Cond.selects RX5 yX5_later yX5_later, Cond.code yX5_later cX5_later 3 (some .int), Cond.methodLink RX5 182 yX5_tryDays, Cond.instanceMethod yX5_tryDays, Cond.selects RX5 yX5_tryDays yX5_tryDays, Cond.code yX5_tryDays cX5_tryDays 4 none, Cond.methodLink RL 75 yX4_all, Cond.instanceMethod yX4_all, Cond.selects RX4 yX4_all yX4_all, Cond.code yX4_all cX4_all 3 (some .int), Cond.fieldLink RX4 170 "TreeDebts$State" "failures" "I", Cond.methodLink RX4 166 yX1_owedInAll, Cond.instanceMethod yX1_owedInAll, Cond.selects RX1 yX1_owedInAll yX1_owedInAll, Cond.code yX1_owedInAll cX1_owedInAll 3 (some .int), Cond.methodLink RL 78 yX5_all, Cond.instanceMethod yX5_all, Cond.selects RX5 yX5_all yX5_all, Cond.code yX5_all cX5_all 3 (some .int), Cond.methodLink RX5 185 yX5_owedAll, Cond.instanceMethod yX5_owedAll]
def wsL_law_r26 : List Cond := [Cond.selects RX5 yX5_owedAll yX5_owedAll, Cond.code yX5_owedAll cX5_owedAll 4 (some .int), Cond.methodLink RL 79 yX4_clear, Cond.instanceMethod yX4_clear, Cond.selects RX4 yX4_clear yX4_clear, Cond.code yX4_clear cX4_clear 2 (some .int), Cond.methodLink RL 82 yX5_clear, Cond.instanceMethod yX5_clear, Cond.selects RX5 yX5_clear yX5_clear, Cond.code yX5_clear cX5_clear 2 (some .int), Cond.methodLink RL 83 yX4_hut, Cond.instanceMethod yX4_hut, Cond.selects RX4 yX4_hut yX4_hut, Cond.code yX4_hut cX4_hut 4 (some .int), Cond.fieldLink RX4 180 "TreeDebts$HutPlan" "from" "[I", Cond.methodLink RX4 173 yX0_find, Cond.instanceMethod yX0_find, Cond.selects RX0 yX0_find yX0_find, Cond.code yX0_find cX0_find 8 (some .boolean), Cond.fieldLink RX0 26 "TreeDebts$HutPlan" "hutBranches" "I", Cond.fieldLink RX0 30 "TreeDebts$Told" "trees" "I", Cond.constant RX0 35 (100000000), Cond.fieldLink RX0 42 "TreeDebts$State" "branches" "[I", Cond.methodLink RX0 45 Lib.Math.min.name]
def wsL_law_r27 : List Cond := [Cond.methodLink RX0 36 yX1_lends, Cond.methodLink RX0 51 yX3_grownIn, Cond.methodLink RX0 55 yX0_chooseFrom, Cond.instanceMethod yX0_chooseFrom, Cond.selects RX0 yX0_chooseFrom yX0_chooseFrom, Cond.code yX0_chooseFrom cX0_chooseFrom 8 none, Cond.methodLink RX0 59 yX0_owedTogether, Cond.instanceMethod yX0_owedTogether, Cond.selects RX0 yX0_owedTogether yX0_owedTogether, Cond.code yX0_owedTogether cX0_owedTogether 1 (some .int), Cond.methodLink RX0 63 yX0_followChoices, Cond.instanceMethod yX0_followChoices, Cond.selects RX0 yX0_followChoices yX0_followChoices, Cond.code yX0_followChoices cX0_followChoices 4 none, Cond.methodLink RX4 177 yX0_owedTogether, Cond.methodLink RL 87 yX5_hut, Cond.instanceMethod yX5_hut, Cond.selects RX5 yX5_hut yX5_hut, Cond.code yX5_hut cX5_hut 7 (some .int), Cond.constantLong RX5 194 (30), Cond.methodLink RX5 196 yX5_layPrices, Cond.instanceMethod yX5_layPrices, Cond.selects RX5 yX5_layPrices yX5_layPrices, Cond.code yX5_layPrices cX5_layPrices 5 none]
def wsL_law_r28 : List Cond := [Cond.methodLink RX5 188 yX5_owedFor, Cond.instanceMethod yX5_owedFor, Cond.selects RX5 yX5_owedFor yX5_owedFor, Cond.code yX5_owedFor cX5_owedFor 6 (some .int), Cond.methodLink RX5 199 yX5_layLeasts, Cond.instanceMethod yX5_layLeasts, Cond.selects RX5 yX5_layLeasts yX5_layLeasts, Cond.code yX5_layLeasts cX5_layLeasts 6 none, Cond.methodLink RX5 191 yX5_by, Cond.instanceMethod yX5_by, Cond.selects RX5 yX5_by yX5_by, Cond.code yX5_by cX5_by 6 (some .int), Cond.methodLink RL 88 yX4_enough, Cond.instanceMethod yX4_enough, Cond.selects RX4 yX4_enough yX4_enough, Cond.code yX4_enough cX4_enough 6 (some .int), Cond.methodLink RX4 183 yX4_anyFails, Cond.instanceMethod yX4_anyFails, Cond.selects RX4 yX4_anyFails yX4_anyFails, Cond.code yX4_anyFails cX4_anyFails 4 (some .boolean), Cond.methodLink RL 91 yX5_enough, Cond.instanceMethod yX5_enough, Cond.selects RX5 yX5_enough yX5_enough, Cond.code yX5_enough cX5_enough 3 (some .int)]
def wsL_law_r29 : List Cond := [Cond.methodLink RL 92 yX4_rid, Cond.instanceMethod yX4_rid, Cond.selects RX4 yX4_rid yX4_rid, Cond.code yX4_rid cX4_rid 7 (some .int), Cond.methodLink RX4 186 yX4_commonWithTen, Cond.static yX4_commonWithTen, Cond.code yX4_commonWithTen cX4_commonWithTen 1 (some .int), Cond.methodLink RX4 189 yX1_partsWithLoans, Cond.instanceMethod yX1_partsWithLoans, Cond.selects RX1 yX1_partsWithLoans yX1_partsWithLoans, Cond.code yX1_partsWithLoans cX1_partsWithLoans 4 (some .int), Cond.methodLink RX1 113 yJ6_bitCount_0f7a4, Cond.static yJ6_bitCount_0f7a4, Cond.initialized RJ6, Cond.code yJ6_bitCount_0f7a4 cJ6_bitCount_0f7a4 1 (some .int), Cond.constant RJ6 265 (1431655765), Cond.constant RJ6 266 (858993459), Cond.constant RJ6 267 (252645135), Cond.methodLink RL 95 yX5_rid, Cond.instanceMethod yX5_rid, Cond.selects RX5 yX5_rid yX5_rid, Cond.code yX5_rid cX5_rid 9 (some .int), Cond.constantLong RX5 202 (10), Cond.methodLink RL 96 yX4_grandson]
def wsL_law_r30 : List Cond := [Cond.instanceMethod yX4_grandson, Cond.selects RX4 yX4_grandson yX4_grandson, Cond.code yX4_grandson cX4_grandson 4 (some .int), Cond.fieldLink RX4 192 "TreeDebts$Told" "trees" "I", Cond.methodLink RL 99 yX5_grandson, Cond.instanceMethod yX5_grandson, Cond.selects RX5 yX5_grandson yX5_grandson, Cond.code yX5_grandson cX5_grandson 4 (some .int), Cond.methodLink RL 100 yX4_toWhom, Cond.instanceMethod yX4_toWhom, Cond.selects RX4 yX4_toWhom yX4_toWhom, Cond.code yX4_toWhom cX4_toWhom 6 (some .int), Cond.constant RX4 195 (1000000), Cond.methodLink RL 103 yX5_toWhom, Cond.instanceMethod yX5_toWhom, Cond.selects RX5 yX5_toWhom yX5_toWhom, Cond.code yX5_toWhom cX5_toWhom 6 (some .int), Cond.constantLong RX5 204 (1000000), Cond.methodLink RL 104 yX4_count, Cond.instanceMethod yX4_count, Cond.selects RX4 yX4_count yX4_count, Cond.code yX4_count cX4_count 2 (some .int), Cond.fieldLink RX4 196 "TreeDebts$Told" "quarrels" "I", Cond.methodLink RL 107 yX5_count]
def wsL_law_r31 : List Cond := [Cond.instanceMethod yX5_count, Cond.selects RX5 yX5_count yX5_count, Cond.code yX5_count cX5_count 2 (some .int)]
def wsL_law : List Cond := (wsL_law_r1 ++ (wsL_law_r2 ++ (wsL_law_r3 ++ (wsL_law_r4 ++ (wsL_law_r5 ++ (wsL_law_r6 ++ (wsL_law_r7 ++ (wsL_law_r8 ++ (wsL_law_r9 ++ (wsL_law_r10 ++ (wsL_law_r11 ++ (wsL_law_r12 ++ (wsL_law_r13 ++ (wsL_law_r14 ++ (wsL_law_r15 ++ (wsL_law_r16 ++ (wsL_law_r17 ++ (wsL_law_r18 ++ (wsL_law_r19 ++ (wsL_law_r20 ++ (wsL_law_r21 ++ (wsL_law_r22 ++ (wsL_law_r23 ++ (wsL_law_r24 ++ (wsL_law_r25 ++ (wsL_law_r26 ++ (wsL_law_r27 ++ (wsL_law_r28 ++ (wsL_law_r29 ++ (wsL_law_r30 ++ wsL_law_r31)))))))))))))))))))))))))))))) ++ wsX40 ++ wsX50 ++ wsX20 ++ wsX30 ++ wsX10 ++ wsX00 ++ ([] : List Cond)
theorem mem_app2 {a b c : List Cond} (h1 : ∀ w ∈ a, w ∈ c) (h2 : ∀ w ∈ b, w ∈ c) : ∀ w ∈ a ++ b, w ∈ c := fun w h => (List.mem_append.mp h).elim (h1 w) (h2 w)
set_option maxRecDepth 20000 in
theorem wsL_law_r1_in : ∀ w ∈ wsL_law_r1, w ∈ lw_tbl := fun w h => (goodIn_r (big := lw_tbl) wsL_law_r1 [42, 43, 29, 606, 607, 34, 900, 44, 45, 46, 47, 48, 49, 50, 51, 30, 217, 140, 57, 31, 218, 142, 143, 32] (by decide +kernel) (by decide +kernel) w h).1
set_option maxRecDepth 20000 in
theorem wsL_law_r2_in : ∀ w ∈ wsL_law_r2, w ∈ lw_tbl := fun w h => (goodIn_r (big := lw_tbl) wsL_law_r2 [219, 220, 221, 216, 222, 191, 192, 33, 223, 53, 54, 55, 111, 112, 56, 115, 59, 60, 61, 67, 69, 71, 73, 75] (by decide +kernel) (by decide +kernel) w h).1
set_option maxRecDepth 20000 in
theorem wsL_law_r3_in : ∀ w ∈ wsL_law_r3, w ∈ lw_tbl := fun w h => (goodIn_r (big := lw_tbl) wsL_law_r3 [83, 85, 87, 145, 146, 147, 150, 153, 157, 159, 161, 163, 165, 194, 195, 196, 197, 199, 200, 201, 202, 608, 609, 610] (by decide +kernel) (by decide +kernel) w h).1
set_option maxRecDepth 20000 in
theorem wsL_law_r4_in : ∀ w ∈ wsL_law_r4, w ∈ lw_tbl := fun w h => (goodIn_r (big := lw_tbl) wsL_law_r4 [611, 612, 613, 614, 616, 618, 619, 620, 621, 623, 625, 631, 632, 239, 240, 241, 242, 114, 243, 244, 245, 246, 247, 113] (by decide +kernel) (by decide +kernel) w h).1
set_option maxRecDepth 20000 in
theorem wsL_law_r5_in : ∀ w ∈ wsL_law_r5, w ∈ lw_tbl := fun w h => (goodIn_r (big := lw_tbl) wsL_law_r5 [676, 677, 678, 679, 680, 615, 684, 681, 682, 683, 248, 249, 250, 251, 685, 686, 687, 688, 252, 253, 254, 255, 256, 257] (by decide +kernel) (by decide +kernel) w h).1
set_option maxRecDepth 20000 in
theorem wsL_law_r6_in : ∀ w ∈ wsL_law_r6, w ∈ lw_tbl := fun w h => (goodIn_r (big := lw_tbl) wsL_law_r6 [258, 259, 117, 120, 119, 121, 260, 261, 262, 263, 62, 264, 266, 265, 35, 79, 267, 268, 269, 270, 271, 272, 273, 274] (by decide +kernel) (by decide +kernel) w h).1
set_option maxRecDepth 20000 in
theorem wsL_law_r7_in : ∀ w ∈ wsL_law_r7, w ∈ lw_tbl := fun w h => (goodIn_r (big := lw_tbl) wsL_law_r7 [275, 276, 277, 278, 279, 280, 122, 281, 282, 283, 284, 286, 287, 288, 289, 290, 291, 292, 36, 293, 901, 294, 295, 296] (by decide +kernel) (by decide +kernel) w h).1
set_option maxRecDepth 20000 in
theorem wsL_law_r8_in : ∀ w ∈ wsL_law_r8, w ∈ lw_tbl := fun w h => (goodIn_r (big := lw_tbl) wsL_law_r8 [297, 298, 902, 300, 301, 302, 303, 304, 305, 306, 307, 308, 309, 37, 310, 311, 312, 313, 314, 316, 317, 38, 318, 319] (by decide +kernel) (by decide +kernel) w h).1
set_option maxRecDepth 20000 in
theorem wsL_law_r9_in : ∀ w ∈ wsL_law_r9, w ∈ lw_tbl := fun w h => (goodIn_r (big := lw_tbl) wsL_law_r9 [320, 39, 321, 322, 323, 324, 325, 326, 327, 328, 329, 330, 331, 332, 334, 336, 338, 339, 340, 341, 342, 343, 344, 345] (by decide +kernel) (by decide +kernel) w h).1
set_option maxRecDepth 20000 in
theorem wsL_law_r10_in : ∀ w ∈ wsL_law_r10, w ∈ lw_tbl := fun w h => (goodIn_r (big := lw_tbl) wsL_law_r10 [347, 348, 349, 350, 64, 351, 352, 353, 354, 355, 356, 357, 358, 363, 364, 365, 366, 77, 368, 369, 370, 371, 81, 372] (by decide +kernel) (by decide +kernel) w h).1
set_option maxRecDepth 20000 in
theorem wsL_law_r11_in : ∀ w ∈ wsL_law_r11, w ∈ lw_tbl := fun w h => (goodIn_r (big := lw_tbl) wsL_law_r11 [373, 374, 375, 377, 378, 379, 380, 88, 381, 382, 383, 384, 689, 690, 691, 692, 626, 617, 622, 629, 624, 630, 627, 628] (by decide +kernel) (by decide +kernel) w h).1
set_option maxRecDepth 20000 in
theorem wsL_law_r12_in : ∀ w ∈ wsL_law_r12, w ∈ lw_tbl := fun w h => (goodIn_r (big := lw_tbl) wsL_law_r12 [693, 695, 2, 696, 697, 698, 699, 700, 702, 3, 703, 704, 706, 4, 707, 719, 720, 721, 722, 708, 710, 5, 711, 716] (by decide +kernel) (by decide +kernel) w h).1
set_option maxRecDepth 20000 in
theorem wsL_law_r13_in : ∀ w ∈ wsL_law_r13, w ∈ lw_tbl := fun w h => (goodIn_r (big := lw_tbl) wsL_law_r13 [717, 718, 712, 714, 6, 715, 723, 724, 725, 726, 727, 729, 7, 730, 731, 733, 8, 734, 386, 387, 388, 389, 116, 118] (by decide +kernel) (by decide +kernel) w h).1
set_option maxRecDepth 20000 in
theorem wsL_law_r14_in : ∀ w ∈ wsL_law_r14, w ∈ lw_tbl := fun w h => (goodIn_r (big := lw_tbl) wsL_law_r14 [390, 391, 392, 393, 394, 148, 155, 167, 70, 735, 736, 737, 738, 739, 740, 742, 9, 743, 744, 746, 10, 747, 395, 396] (by decide +kernel) (by decide +kernel) w h).1
set_option maxRecDepth 20000 in
theorem wsL_law_r15_in : ∀ w ∈ wsL_law_r15, w ∈ lw_tbl := fun w h => (goodIn_r (big := lw_tbl) wsL_law_r15 [397, 398, 68, 152, 72, 74, 76, 154, 399, 400, 401, 402, 403, 404, 405, 406, 407, 408, 409, 410, 80, 84, 86, 411] (by decide +kernel) (by decide +kernel) w h).1
set_option maxRecDepth 20000 in
theorem wsL_law_r16_in : ∀ w ∈ wsL_law_r16, w ∈ lw_tbl := fun w h => (goodIn_r (big := lw_tbl) wsL_law_r16 [748, 749, 750, 751, 752, 754, 11, 755, 756, 758, 12, 759, 760, 761, 762, 763, 765, 13, 766, 412, 413, 414, 415, 156] (by decide +kernel) (by decide +kernel) w h).1
set_option maxRecDepth 20000 in
theorem wsL_law_r17_in : ∀ w ∈ wsL_law_r17, w ∈ lw_tbl := fun w h => (goodIn_r (big := lw_tbl) wsL_law_r17 [158, 160, 162, 164, 166, 767, 768, 769, 770, 416, 417, 418, 419, 420, 422, 423, 424, 425, 427, 428, 429, 430, 431, 432] (by decide +kernel) (by decide +kernel) w h).1
set_option maxRecDepth 20000 in
theorem wsL_law_r18_in : ∀ w ∈ wsL_law_r18, w ∈ lw_tbl := fun w h => (goodIn_r (big := lw_tbl) wsL_law_r18 [433, 434, 435, 436, 437, 40, 438, 771, 772, 773, 774, 775, 777, 14, 778, 779, 439, 440, 441, 442, 443, 444, 445, 446] (by decide +kernel) (by decide +kernel) w h).1
set_option maxRecDepth 20000 in
theorem wsL_law_r19_in : ∀ w ∈ wsL_law_r19, w ∈ lw_tbl := fun w h => (goodIn_r (big := lw_tbl) wsL_law_r19 [447, 448, 449, 450, 451, 452, 453, 454, 455, 780, 781, 782, 783, 784, 785, 787, 15, 788, 789, 791, 16, 792, 456, 457] (by decide +kernel) (by decide +kernel) w h).1
set_option maxRecDepth 20000 in
theorem wsL_law_r20_in : ∀ w ∈ wsL_law_r20, w ∈ lw_tbl := fun w h => (goodIn_r (big := lw_tbl) wsL_law_r20 [458, 459, 149, 89, 460, 461, 462, 463, 464, 465, 466, 467, 468, 469, 470, 471, 472, 477, 473, 474, 475, 476, 478, 479] (by decide +kernel) (by decide +kernel) w h).1
set_option maxRecDepth 20000 in
theorem wsL_law_r21_in : ∀ w ∈ wsL_law_r21, w ∈ lw_tbl := fun w h => (goodIn_r (big := lw_tbl) wsL_law_r21 [480, 481, 482, 483, 484, 485, 486, 487, 488, 489, 793, 794, 795, 796, 797, 799, 17, 800, 801, 803, 18, 804, 805, 807] (by decide +kernel) (by decide +kernel) w h).1
set_option maxRecDepth 20000 in
theorem wsL_law_r22_in : ∀ w ∈ wsL_law_r22, w ∈ lw_tbl := fun w h => (goodIn_r (big := lw_tbl) wsL_law_r22 [19, 808, 809, 810, 811, 812, 814, 20, 815, 490, 491, 492, 493, 494, 495, 496, 497, 65, 78, 498, 499, 500, 501, 816] (by decide +kernel) (by decide +kernel) w h).1
set_option maxRecDepth 20000 in
theorem wsL_law_r23_in : ∀ w ∈ wsL_law_r23, w ∈ lw_tbl := fun w h => (goodIn_r (big := lw_tbl) wsL_law_r23 [817, 818, 819, 820, 821, 823, 21, 824, 502, 503, 504, 505, 506, 507, 508, 509, 825, 826, 827, 828, 510, 511, 512, 513] (by decide +kernel) (by decide +kernel) w h).1
set_option maxRecDepth 20000 in
theorem wsL_law_r24_in : ∀ w ∈ wsL_law_r24, w ∈ lw_tbl := fun w h => (goodIn_r (big := lw_tbl) wsL_law_r24 [514, 515, 516, 517, 518, 829, 830, 831, 832, 519, 520, 521, 522, 833, 834, 835, 836, 523, 524, 525, 526, 527, 529, 0] (by decide +kernel) (by decide +kernel) w h).1
set_option maxRecDepth 20000 in
theorem wsL_law_r25_in : ∀ w ∈ wsL_law_r25, w ∈ lw_tbl := fun w h => (goodIn_r (big := lw_tbl) wsL_law_r25 [530, 837, 838, 839, 840, 841, 843, 22, 844, 531, 532, 533, 534, 168, 535, 536, 537, 538, 845, 846, 847, 848, 849, 851] (by decide +kernel) (by decide +kernel) w h).1
set_option maxRecDepth 20000 in
theorem wsL_law_r26_in : ∀ w ∈ wsL_law_r26, w ∈ lw_tbl := fun w h => (goodIn_r (big := lw_tbl) wsL_law_r26 [23, 852, 539, 540, 541, 542, 853, 854, 855, 856, 543, 544, 545, 546, 203, 547, 548, 549, 550, 204, 63, 551, 151, 553] (by decide +kernel) (by decide +kernel) w h).1
set_option maxRecDepth 20000 in
theorem wsL_law_r27_in : ∀ w ∈ wsL_law_r27, w ∈ lw_tbl := fun w h => (goodIn_r (big := lw_tbl) wsL_law_r27 [552, 554, 555, 556, 557, 558, 559, 560, 561, 562, 563, 564, 565, 566, 567, 857, 858, 859, 860, 861, 862, 864, 24, 865] (by decide +kernel) (by decide +kernel) w h).1
set_option maxRecDepth 20000 in
theorem wsL_law_r28_in : ∀ w ∈ wsL_law_r28, w ∈ lw_tbl := fun w h => (goodIn_r (big := lw_tbl) wsL_law_r28 [866, 868, 25, 869, 870, 872, 26, 873, 874, 876, 27, 877, 568, 569, 570, 571, 572, 574, 1, 575, 878, 879, 880, 881] (by decide +kernel) (by decide +kernel) w h).1
set_option maxRecDepth 20000 in
theorem wsL_law_r29_in : ∀ w ∈ wsL_law_r29, w ∈ lw_tbl := fun w h => (goodIn_r (big := lw_tbl) wsL_law_r29 [576, 577, 578, 579, 580, 581, 582, 583, 584, 585, 586, 587, 588, 41, 589, 590, 591, 592, 882, 883, 884, 885, 886, 593] (by decide +kernel) (by decide +kernel) w h).1
set_option maxRecDepth 20000 in
theorem wsL_law_r30_in : ∀ w ∈ wsL_law_r30, w ∈ lw_tbl := fun w h => (goodIn_r (big := lw_tbl) wsL_law_r30 [594, 595, 596, 66, 887, 888, 889, 890, 597, 598, 599, 600, 601, 891, 892, 893, 894, 895, 602, 603, 604, 605, 82, 896] (by decide +kernel) (by decide +kernel) w h).1
set_option maxRecDepth 20000 in
theorem wsL_law_r31_in : ∀ w ∈ wsL_law_r31, w ∈ lw_tbl := fun w h => (goodIn_r (big := lw_tbl) wsL_law_r31 [897, 898, 899] (by decide +kernel) (by decide +kernel) w h).1
theorem wuX0_in : ∀ w ∈ wsX00, w ∈ lw_tbl := fun w h => (goodIn_r (big := lw_tbl) wsX00 [205, 207, 209, 211, 213] (by decide +kernel) (by decide +kernel) w h).1
theorem wuX1_in : ∀ w ∈ wsX10, w ∈ lw_tbl := fun w h => (goodIn_r (big := lw_tbl) wsX10 [169, 171, 173, 175, 177, 179, 181, 183, 185, 187] (by decide +kernel) (by decide +kernel) w h).1
theorem wuX2_in : ∀ w ∈ wsX20, w ∈ lw_tbl := fun w h => (goodIn_r (big := lw_tbl) wsX20 [123, 125, 127, 129, 131, 133, 135, 137] (by decide +kernel) (by decide +kernel) w h).1
theorem wuX3_in : ∀ w ∈ wsX30, w ∈ lw_tbl := fun w h => (goodIn_r (big := lw_tbl) wsX30 [90, 92, 94, 96, 98, 100, 102, 104, 106, 108] (by decide +kernel) (by decide +kernel) w h).1
theorem wuX4_in : ∀ w ∈ wsX40, w ∈ lw_tbl := fun w h => (goodIn_r (big := lw_tbl) wsX40 [224, 226, 228, 230, 232, 234, 236] (by decide +kernel) (by decide +kernel) w h).1
theorem wuX5_in : ∀ w ∈ wsX50, w ∈ lw_tbl := fun w h => (goodIn_r (big := lw_tbl) wsX50 [633, 635, 637, 639, 641, 643, 645, 647, 649, 651, 653, 655, 657, 659, 661, 663, 665, 667, 669, 671, 673] (by decide +kernel) (by decide +kernel) w h).1
theorem wsL_law_in : ∀ w ∈ wsL_law, w ∈ lw_tbl := (mem_app2 (mem_app2 (mem_app2 (mem_app2 (mem_app2 (mem_app2 (mem_app2 (mem_app2 wsL_law_r1_in (mem_app2 wsL_law_r2_in (mem_app2 wsL_law_r3_in (mem_app2 wsL_law_r4_in (mem_app2 wsL_law_r5_in (mem_app2 wsL_law_r6_in (mem_app2 wsL_law_r7_in (mem_app2 wsL_law_r8_in (mem_app2 wsL_law_r9_in (mem_app2 wsL_law_r10_in (mem_app2 wsL_law_r11_in (mem_app2 wsL_law_r12_in (mem_app2 wsL_law_r13_in (mem_app2 wsL_law_r14_in (mem_app2 wsL_law_r15_in (mem_app2 wsL_law_r16_in (mem_app2 wsL_law_r17_in (mem_app2 wsL_law_r18_in (mem_app2 wsL_law_r19_in (mem_app2 wsL_law_r20_in (mem_app2 wsL_law_r21_in (mem_app2 wsL_law_r22_in (mem_app2 wsL_law_r23_in (mem_app2 wsL_law_r24_in (mem_app2 wsL_law_r25_in (mem_app2 wsL_law_r26_in (mem_app2 wsL_law_r27_in (mem_app2 wsL_law_r28_in (mem_app2 wsL_law_r29_in (mem_app2 wsL_law_r30_in wsL_law_r31_in)))))))))))))))))))))))))))))) wuX4_in) wuX5_in) wuX2_in) wuX3_in) wuX1_in) wuX0_in) (fun _ h => absurd h List.not_mem_nil))
theorem inlX0 : ∀ w ∈ wsX00, w ∈ wsL_law := fun _ h => List.mem_append_left _ (List.mem_append_right _ h)
theorem inX0 : ∀ w ∈ wsX00, w ∈ lw_tbl := fun w h => wsL_law_in w (inlX0 w h)
theorem inlX1 : ∀ w ∈ wsX10, w ∈ wsL_law := fun _ h => List.mem_append_left _ (List.mem_append_left _ (List.mem_append_right _ h))
theorem inX1 : ∀ w ∈ wsX10, w ∈ lw_tbl := fun w h => wsL_law_in w (inlX1 w h)
theorem inlX2 : ∀ w ∈ wsX20, w ∈ wsL_law := fun _ h => List.mem_append_left _ (List.mem_append_left _ (List.mem_append_left _ (List.mem_append_left _ (List.mem_append_right _ h))))
theorem inX2 : ∀ w ∈ wsX20, w ∈ lw_tbl := fun w h => wsL_law_in w (inlX2 w h)
theorem inlX3 : ∀ w ∈ wsX30, w ∈ wsL_law := fun _ h => List.mem_append_left _ (List.mem_append_left _ (List.mem_append_left _ (List.mem_append_right _ h)))
theorem inX3 : ∀ w ∈ wsX30, w ∈ lw_tbl := fun w h => wsL_law_in w (inlX3 w h)
theorem inlX4 : ∀ w ∈ wsX40, w ∈ wsL_law := fun _ h => List.mem_append_left _ (List.mem_append_left _ (List.mem_append_left _ (List.mem_append_left _ (List.mem_append_left _ (List.mem_append_left _ (List.mem_append_right _ h))))))
theorem inX4 : ∀ w ∈ wsX40, w ∈ lw_tbl := fun w h => wsL_law_in w (inlX4 w h)
theorem inlX5 : ∀ w ∈ wsX50, w ∈ wsL_law := fun _ h => List.mem_append_left _ (List.mem_append_left _ (List.mem_append_left _ (List.mem_append_left _ (List.mem_append_left _ (List.mem_append_right _ h)))))
theorem inX5 : ∀ w ∈ wsX50, w ∈ lw_tbl := fun w h => wsL_law_in w (inlX5 w h)
abbrev vwCl : List vw_C := [(RX0, TX0, 5), (RX1, TX1, 10), (RX2, TX2, 8), (RX3, TX3, 10), (RX4, TX4, 7), (RX5, TX5, 21)]
end
section
/-! ===== 02 base: the world as numbers, and the walk V over it ===== -/
abbrev Wd : Type := Nat → Int → Int
def iZ (z : Int) : Int32 := Int32.ofInt z
abbrev inR (a : Int) : Prop := -2147483648 ≤ a ∧ a ≤ 2147483647
theorem iZ_add (a b : Int) : iZ a + iZ b = iZ (a + b) := (Int32.ofInt_add a b).symm
theorem iZ_sub (a b : Int) : iZ a - iZ b = iZ (a - b) := (Int32.ofInt_sub a b).symm
theorem iZ_mul (a b : Int) : iZ a * iZ b = iZ (a * b) := (Int32.ofInt_mul a b).symm
theorem iZ_toInt {a : Int} (h : inR a) : (iZ a).toInt = a := by
  unfold iZ
  rw [Int32.toInt_ofInt]
  exact Int.bmod_eq_of_le (by show -(((4294967296 : Nat) : Int) / 2) ≤ a; omega) (by show a < (((4294967296 : Nat) : Int) + 1) / 2; omega)
theorem iZ_self (x : Int32) : iZ x.toInt = x := Int32.ofInt_toInt x
theorem iZ_rng (x : Int32) : inR x.toInt := by
  have h1 := Int32.le_toInt x
  have h2 := Int32.toInt_lt x
  constructor <;> omega
theorem iZ_lt {a b : Int} (ha : inR a) (hb : inR b) : iZ a < iZ b ↔ a < b := by rw [Int32.lt_iff_toInt_lt, iZ_toInt ha, iZ_toInt hb]
theorem iZ_le {a b : Int} (ha : inR a) (hb : inR b) : iZ a ≤ iZ b ↔ a ≤ b := by rw [Int32.le_iff_toInt_le, iZ_toInt ha, iZ_toInt hb]
theorem iZ_eq {a b : Int} (ha : inR a) (hb : inR b) : iZ a = iZ b ↔ a = b := by
  constructor
  · intro h
    have h1 := congrArg Int32.toInt h
    rwa [iZ_toInt ha, iZ_toInt hb] at h1
  · rintro rfl; rfl
theorem iZ_0 : (0 : Int32) = iZ 0 := rfl
theorem iZ_clamp {a : Int} (h : inR a) : (iZ a).toNatClampNeg = a.toNat := by
  show (iZ a).toInt.toNat = a.toNat
  rw [iZ_toInt h]
theorem iZ_in {a : Int} {n : Nat} (h : 0 ≤ a ∧ a < (n : Int)) (hn : n ≤ 2000) : vp_in (iZ a) n := by
  rw [vp_in_iff, iZ_toInt (by omega)]
  exact h
/-- one cell of the world changed -/
def up (w : Wd) (k : Nat) (j z : Int) : Wd := fun k' j' => if k' = k ∧ j' = j then z else w k' j'
theorem up_eq (w : Wd) (k : Nat) (j z : Int) : up w k j z k j = z := by simp [up]
theorem up_ne {w : Wd} {k k' : Nat} {j j' z : Int} (h : k' ≠ k ∨ j' ≠ j) : up w k j z k' j' = w k' j' := by
  unfold up
  rw [if_neg]
  rintro ⟨rfl, rfl⟩
  rcases h with h | h <;> exact h rfl
/-- shapes: an object (its class's number; of each field: none a number, some q the cell q), an array of numbers (type, length), an array of cells -/
abbrev Sh : Type := (Nat × List (Option Nat)) ⊕ ((Nat × Nat) ⊕ (Nat × List Nat))
abbrev shO (ci : Nat) (fl : List (Option Nat)) : Sh := Sum.inl (ci, fl)
abbrev shA (t n : Nat) : Sh := Sum.inr (Sum.inl (t, n))
abbrev shR (t : Nat) (qs : List Nat) : Sh := Sum.inr (Sum.inr (t, qs))
/-- a Told at b: itself, kinds, branches, rates, terms, parts, ones, others -/
abbrev shTd (b : Nat) : Sh := shO 3 [none, some (b + 1), some (b + 2), some (b + 3), some (b + 4), some (b + 5), none, some (b + 6), some (b + 7), none]
/-- a State at b: itself, branches, fates, lenders, lent, owed, dues, failed -/
abbrev shSt (b : Nat) : Sh := shO 1 [none, some (b + 1), some (b + 2), none, some (b + 3), some (b + 4), some (b + 5), some (b + 6), some (b + 7), none]
def shL : List Sh := [
  shO 4 [some 1, some 5, some 21, some 29, some 3, some 4, some 53],
  shO 2 [some 2, none, some 13, none, none, none, none, none], shA 0 200, shR 2 [37, 45], shA 1 2,
  shTd 5, shA 0 6, shA 0 6, shA 0 6, shA 0 6, shA 0 6, shA 0 6, shA 0 6,
  shTd 13, shA 0 6, shA 0 6, shA 0 6, shA 0 6, shA 0 6, shA 0 6, shA 0 6,
  shSt 21, shA 0 6, shA 0 6, shA 0 12, shA 0 12, shA 0 12, shA 0 12, shA 0 12,
  shSt 29, shA 0 6, shA 0 6, shA 0 12, shA 0 12, shA 0 12, shA 0 12, shA 0 12,
  shSt 37, shA 0 6, shA 0 6, shA 0 12, shA 0 12, shA 0 12, shA 0 12, shA 0 12,
  shSt 45, shA 0 6, shA 0 6, shA 0 12, shA 0 12, shA 0 12, shA 0 12, shA 0 12,
  shO 0 [some 54, some 55, some 56, some 57, none], shR 3 [58, 59, 60, 61, 62, 63, 64], shR 3 [65, 66, 67, 68, 69, 70], shA 0 100, shA 0 6,
  shA 0 100, shA 0 100, shA 0 100, shA 0 100, shA 0 100, shA 0 100, shA 0 100,
  shA 0 100, shA 0 100, shA 0 100, shA 0 100, shA 0 100, shA 0 100,
  shO 5 [some 72, some 73, some 74, none, some 75, none, some 76, some 77, some 78, some 79, none, some 80, none, none, none, none, none, none, none, some 81, some 82],
  shA 0 375, shA 1 2, shA 0 200, shA 0 48, shA 0 6, shA 0 6, shA 0 6, shA 0 6, shA 0 12, shA 0 600, shA 0 700]
theorem shL_len : shL.length = 83 := rfl
theorem shL_arr : ∀ x ∈ shL, ∀ t n, x = shA t n → n ≤ 2000 := by
  have h : shL.all (fun x => match x with | Sum.inr (Sum.inl (_, n)) => decide (n ≤ 2000) | _ => true) = true := by decide +kernel
  intro x hx t n e
  have h1 := List.all_eq_true.mp h x hx
  rw [e] at h1
  simpa using h1
theorem shL_ref : ∀ x ∈ shL, ∀ t qs, x = shR t qs → qs.length ≤ 2000 := by
  have h : shL.all (fun x => match x with | Sum.inr (Sum.inr (_, qs)) => decide (qs.length ≤ 2000) | _ => true) = true := by decide +kernel
  intro x hx t n e
  have h1 := List.all_eq_true.mp h x hx
  rw [e] at h1
  simpa using h1
theorem sh_n {k t n : Nat} (h : shL[k]? = some (shA t n)) : n ≤ 2000 := shL_arr _ (List.mem_of_getElem? h) t n rfl
theorem sh_q {k t : Nat} {qs : List Nat} (h : shL[k]? = some (shR t qs)) : qs.length ≤ 2000 := shL_ref _ (List.mem_of_getElem? h) t qs rfl
theorem sh_lt {k : Nat} {x : Sh} (h : shL[k]? = some x) : k < 83 := by
  have := (List.getElem?_eq_some_iff.mp h).1
  rwa [shL_len] at this
/-- where the world lies: classes and slots, addresses, array classes, String constants, their bytes, the static array -/
abbrev Gb : Type := va_G × (Nat → Nat) × (Nat → ClassId) × (Nat → Nat) × (Nat → Nat) × Nat
abbrev gD (G : Gb) : va_G := G.1
abbrev gA (G : Gb) : Nat → Nat := G.2.1
abbrev gC (G : Gb) : Nat → ClassId := G.2.2.1
abbrev gK (G : Gb) : Nat → Nat := G.2.2.2.1
abbrev gV (G : Gb) : Nat → Nat := G.2.2.2.2.1
abbrev gO (G : Gb) : Nat := G.2.2.2.2.2
def gT (G : Gb) : List (ClassId × FieldType) := [(gC G 0, .int), (gC G 1, .boolean), (gC G 2, .object "TreeDebts$State"), (gC G 3, .array .int)]
def gAw (G : Gb) : Nat → Prop := fun q => ∃ k : Nat, k < 83 ∧ gA G k = q
def feE (G : Gb) (w : Wd) (k j : Nat) (o : Option Nat) : Value := match o with
  | none => .int (iZ (w k (j : Int)))
  | some q => .ref (gA G q)
def ceE (G : Gb) (w : Wd) (k : Nat) (x : Sh) : va_E := match x with
  | Sum.inl (ci, fl) => .inr (ci, fl.mapIdx (fun j o => feE G w k j o))
  | Sum.inr (Sum.inl (t, n)) => .inl (gC G t, n, .inl (fun j : Nat => iZ (w k (j : Int))))
  | Sum.inr (Sum.inr (t, qs)) => .inl (gC G t, qs.length, .inr (.inr (.inr (.inr (fun j : Nat => (qs[j]?).map (gA G))))))
def ces (G : Gb) (w : Wd) : va_W := shL.mapIdx (fun k x => (gA G k, ceE G w k x))
theorem ces_at (G : Gb) (w : Wd) (k : Nat) : (ces G w)[k]? = (shL[k]?).map (fun x => (gA G k, ceE G w k x)) := by
  unfold ces
  rw [List.getElem?_mapIdx]
theorem ces_of {G : Gb} {w : Wd} {k : Nat} {x : Sh} (h : shL[k]? = some x) : (ces G w)[k]? = some (gA G k, ceE G w k x) := by rw [ces_at, h]; rfl
theorem ces_len (G : Gb) (w : Wd) : (ces G w).length = 83 := by
  unfold ces
  rw [List.length_mapIdx]
  rfl
theorem ces_D {G : Gb} (h : ∀ i j : Nat, i < 83 → j < 83 → gA G i = gA G j → i = j) (w : Wd) : va_D (gAw G) (ces G w) := by
  refine ⟨fun i j p q hi hj e => ?_, fun k q hk => ?_⟩
  · have li := (List.getElem?_eq_some_iff.mp hi).1
    have lj := (List.getElem?_eq_some_iff.mp hj).1
    rw [ces_len] at li lj
    rw [ces_at] at hi hj
    cases h1 : shL[i]? with
    | none => rw [h1] at hi; cases hi
    | some x =>
      cases h2 : shL[j]? with
      | none => rw [h2] at hj; cases hj
      | some y =>
        rw [h1] at hi
        rw [h2] at hj
        cases hi
        cases hj
        exact h i j li lj e
  · have lk := (List.getElem?_eq_some_iff.mp hk).1
    rw [ces_len] at lk
    rw [ces_at] at hk
    cases h1 : shL[k]? with
    | none => rw [h1] at hk; cases hk
    | some x =>
      rw [h1] at hk
      cases hk
      exact ⟨k, lk, rfl⟩
/-- a field that is a number is written -/
theorem ces_putF {G : Gb} {w : Wd} {k ci j : Nat} {fl : List (Option Nat)} {z : Int} (hs : shL[k]? = some (shO ci fl)) (hf : fl[j]? = some none) :
    (ces G w).set k (gA G k, .inr (ci, (fl.mapIdx (fun j o => feE G w k j o)).set j (.int (iZ z)))) = ces G (up w k (j : Int) z) := by
  apply List.ext_getElem?
  intro i
  rw [List.getElem?_set, ces_at, ces_at]
  by_cases hi : k = i
  · subst hi
    have hlt : k < (ces G w).length := by rw [ces_len]; exact sh_lt hs
    rw [if_pos rfl, if_pos hlt, hs]
    show some _ = some _
    refine congrArg some (congrArg (Prod.mk (gA G k)) ?_)
    show Sum.inr _ = Sum.inr _
    refine congrArg Sum.inr (congrArg (Prod.mk ci) ?_)
    apply List.ext_getElem?
    intro q
    rw [List.getElem?_set, List.getElem?_mapIdx, List.getElem?_mapIdx]
    have hjl : j < fl.length := (List.getElem?_eq_some_iff.mp hf).1
    by_cases hq : j = q
    · subst hq
      rw [if_pos rfl, if_pos (by rw [List.length_mapIdx]; exact hjl), hf]
      show some _ = some (feE G (up w k (j : Int) z) k j none)
      show some _ = some (Value.int (iZ (up w k (j : Int) z k (j : Int))))
      rw [up_eq]
    · rw [if_neg hq]
      cases ho : fl[q]? with
      | none => rfl
      | some o =>
        cases o with
        | some c => rfl
        | none =>
          show some (Value.int (iZ (w k (q : Int)))) = some (Value.int (iZ (up w k (j : Int) z k (q : Int))))
          rw [up_ne (Or.inr (by omega))]
  · rw [if_neg hi]
    cases hx : shL[i]? with
    | none => rfl
    | some x =>
      show some _ = some _
      refine congrArg some (congrArg (Prod.mk (gA G i)) ?_)
      have hw : ∀ j' : Int, up w k (j : Int) z i j' = w i j' := fun j' => up_ne (Or.inl (fun e => hi e.symm))
      rcases x with ⟨c, fl'⟩ | ⟨t, n⟩ | ⟨t, qs⟩
      · show Sum.inr _ = Sum.inr _
        refine congrArg Sum.inr (congrArg (Prod.mk c) ?_)
        apply List.ext_getElem?
        intro q
        rw [List.getElem?_mapIdx, List.getElem?_mapIdx]
        cases ho : fl'[q]? with
        | none => rfl
        | some o =>
          cases o with
          | some c => rfl
          | none =>
            show some (Value.int (iZ (w i (q : Int)))) = some (Value.int (iZ (up w k (j : Int) z i (q : Int))))
            rw [hw]
      · show Sum.inl _ = Sum.inl _
        refine congrArg Sum.inl (congrArg (Prod.mk _) (congrArg (Prod.mk n) (congrArg Sum.inl (funext fun q => ?_))))
        rw [hw]
      · rfl
/-- an array of numbers is another one -/
theorem ces_putA {G : Gb} {w w' : Wd} {k t n : Nat} {f : Nat → Int32} (hs : shL[k]? = some (shA t n)) (hf : ∀ j : Nat, f j = iZ (w' k (j : Int))) (hw : ∀ (i : Nat) (j : Int), i ≠ k → w' i j = w i j) :
    (ces G w).set k (gA G k, .inl (gC G t, n, .inl f)) = ces G w' := by
  apply List.ext_getElem?
  intro i
  rw [List.getElem?_set, ces_at, ces_at]
  by_cases hi : k = i
  · subst hi
    have hlt : k < (ces G w).length := by rw [ces_len]; exact sh_lt hs
    rw [if_pos rfl, if_pos hlt, hs]
    show some _ = some _
    refine congrArg some (congrArg (Prod.mk (gA G k)) ?_)
    show Sum.inl _ = Sum.inl _
    exact congrArg Sum.inl (congrArg (Prod.mk _) (congrArg (Prod.mk n) (congrArg Sum.inl (funext hf))))
  · rw [if_neg hi]
    cases hx : shL[i]? with
    | none => rfl
    | some x =>
      show some _ = some _
      refine congrArg some (congrArg (Prod.mk (gA G i)) ?_)
      have hw' : ∀ j' : Int, w' i j' = w i j' := fun j' => hw i j' (fun e => hi e.symm)
      rcases x with ⟨c, fl'⟩ | ⟨t, n⟩ | ⟨t, qs⟩
      · show Sum.inr _ = Sum.inr _
        refine congrArg Sum.inr (congrArg (Prod.mk c) ?_)
        apply List.ext_getElem?
        intro q
        rw [List.getElem?_mapIdx, List.getElem?_mapIdx]
        cases ho : fl'[q]? with
        | none => rfl
        | some o =>
          cases o with
          | some c => rfl
          | none =>
            show some (Value.int (iZ (w i (q : Int)))) = some (Value.int (iZ (w' i (q : Int))))
            rw [hw']
      · show Sum.inl _ = Sum.inl _
        refine congrArg Sum.inl (congrArg (Prod.mk _) (congrArg (Prod.mk n) (congrArg Sum.inl (funext fun q => ?_))))
        rw [hw']
      · rfl
/-- the eight words: their places among Text's constants, their texts, their bytes -/
def scIx : List Nat := [52, 61, 67, 69, 71, 73, 78, 83]
def scTx : List String := ["wood", "oak", "birch", "twin", "hollow", "part", "quarrel", "hands"]
def scLen : List Nat := [4, 3, 5, 4, 6, 4, 7, 5]
def scByt : List (List Int32) := [[119, 111, 111, 100], [111, 97, 107], [98, 105, 114, 99, 104], [116, 119, 105, 110], [104, 111, 108, 108, 111, 119], [112, 97, 114, 116], [113, 117, 97, 114, 114, 101, 108], [104, 97, 110, 100, 115]]
def ovL : List Int := [0, 0, 1, 1, 0]
def gStr (G : Gb) (U : State) : Prop := vk_S 8 scLen scByt (gK G) (gV G) (gAw G) U U.heap ∧ (∀ i : Nat, i < 8 → vk_R RX2 (scIx.getD i 0) (scTx.getD i "") (gK G i) U) ∧ va_Z "java/lang/String" "COMPACT_STRINGS" "Z" (.int 1) (gAw G) U U.heap ∧ va_Zq "jdk/internal/util/Preconditions" "SIOOBE_FORMATTER" "Ljava/util/function/BiFunction;" (gAw G) U U.heap
/-- what holds of the tables and of what nobody writes -/
def gGl (G : Gb) (U : State) : Prop := va_K (gD G) vwCl (gT G) U ∧ (∀ i j : Nat, i < 83 → j < 83 → gA G i = gA G j → i = j) ∧ va_Z "TreeDebts" "OVER" "[I" (.ref (gO G)) (gAw G) U U.heap ∧ va_T .int (gO G) 5 (fun j => .int (iZ (ovL.getD j 0))) (gAw G) U U.heap ∧ va_Nw (.fieldLinkNest RX3 49 "TreeDebts" "OVER" "[I" "TreeDebts") U ∧ gStr G U
theorem gGl.next {G : Gb} {s U : State} (h : gGl G s) (hW : s.WarmedH U.vm) (hq : ∀ a : Nat, a < s.heap.size → ¬ gAw G a → U.heap[a]? = s.heap[a]?) : gGl G U := by
  obtain ⟨h1, h2, h3, h4, h5, h6, h7, h8, h9⟩ := h
  exact ⟨va_K.moved hW.alike h1, h2, (va_Z.moved hW.alike h3).kept hq, (va_T.moved hW.alike h4).kept hq, va_Nw.warmF hW h5, (vk_S.moved hW.alike h6).kept hq, fun i hi => vk_R.warm hW (h7 i hi), (va_Z.moved hW.alike h8).kept hq, (va_Zq.moved hW.alike h9).kept hq⟩
theorem gGl.same {G : Gb} {s U : State} (h : gGl G s) (hv : U.vm = s.vm) (hh : U.heap = s.heap) : gGl G U := by
  obtain ⟨h1, h2, h3, h4, h5, h6, h7, h8, h9⟩ := h
  have hA : s.vm.Alike U.vm := by rw [hv]; exact Vm.Alike.refl _
  have hq : ∀ a : Nat, a < s.heap.size → ¬ gAw G a → U.heap[a]? = s.heap[a]? := fun a _ _ => by rw [hh]
  exact ⟨va_K.moved hA h1, h2, (va_Z.moved hA h3).kept hq, (va_T.moved hA h4).kept hq, va_Nw.same rfl hv.symm h5, (vk_S.moved hA h6).kept hq, fun i hi => vk_R.same hv (h7 i hi), (va_Z.moved hA h8).kept hq, (va_Zq.moved hA h9).kept hq⟩
end
section
/-! ===== 03 the walk V: one rule an instruction ===== -/
/-- the locals: what is known of each -/
def lvL (ls : Array Slot) (n : Nat) (L : List (Option Value)) : Prop := ls.size = n ∧ lv_wf ls ∧ ∀ (i : Nat) (v : Value), L[i]? = some (some v) → ls[i]? = some (.val v)
def lvE (L : List (Option Value)) : List (Nat × Value) := L.zipIdx.filterMap (fun q => q.1.map (fun v => (q.2, v)))
theorem lvE_mem {L : List (Option Value)} {q : Nat × Value} : q ∈ lvE L ↔ L[q.1]? = some (some q.2) := by
  unfold lvE
  rw [List.mem_filterMap]
  constructor
  · rintro ⟨⟨o, i⟩, h1, h2⟩
    have h3 := List.mem_zipIdx_iff_getElem?.mp h1
    cases o with
    | none => cases h2
    | some v => cases h2; exact h3
  · intro h
    exact ⟨(some q.2, q.1), List.mem_zipIdx_iff_getElem?.mpr h, rfl⟩
theorem lvL.has {ls : Array Slot} {n : Nat} {L : List (Option Value)} (h : lvL ls n L) : lv_has ls n (lvE L) := ⟨h.1, h.2.1, fun q hq => h.2.2 q.1 q.2 (lvE_mem.mp hq)⟩
/-- no long stands right before place i -/
def okS (L : List (Option Value)) (i : Nat) : Bool := match i with
  | 0 => true
  | j + 1 => match L[j]? with
    | some (some v) => v.category == 1
    | _ => true
theorem lvL.set {ls : Array Slot} {n i : Nat} {L : List (Option Value)} {v : Value} (ho : okS L i = true) (h : lv_has ls n ((i, v) :: (lvE L).filter (fun q => !(q.1 == i) && !(q.1 + 1 == i && q.2.category == 2)))) : lvL ls n (L.set i (some v)) := by
  refine ⟨h.1, h.2.1, fun j u hj => ?_⟩
  rw [List.getElem?_set] at hj
  by_cases hij : i = j
  · subst hij
    rw [if_pos rfl] at hj
    split at hj
    · cases hj
      exact h.2.2 (i, v) List.mem_cons_self
    · cases hj
  · rw [if_neg hij] at hj
    refine h.2.2 (j, u) (List.mem_cons_of_mem _ (List.mem_filter.mpr ⟨lvE_mem.mpr hj, ?_⟩))
    have h1 : (j == i) = false := by simpa using fun e => hij e.symm
    have h2 : (j + 1 == i && u.category == 2) = false := by
      by_cases e : j + 1 = i
      · subst e
        have h3 : (u.category == 1) = true := by
          have := ho
          simp only [okS, hj] at this
          exact this
        have h4 : u.category = 1 := by simpa using h3
        simp [h4]
      · simp [e]
    simp [h1, h2]
/-- a method: its bytes, locals, class, answer, words, room -/
abbrev MB : Type := ByteArray × Nat × String × Option FieldType × List Cond × Room
/-- what a frame of the method stands on -/
def Cx (G : Gb) (M : MB) (p : Program) (s : State) (m : MethodId) (args : Array Value) (meth : Method) (c : Code) : Prop :=
  p.tables.exec = Jvm.exec ∧ c.code = M.1 ∧ meth.sig.returnType = M.2.2.2.1 ∧ c.maxLocals = M.2.1 ∧ s.vm.findClass M.2.2.1 = some m.cls ∧ (∀ x ∈ M.2.2.2.2.1, x.before args s = true) ∧ meth.locks = false ∧ gGl G s
/-- THE WALK: from this pc, these locals, this stack, this world the method comes to its end as Qc says -/
def V (G : Gb) (l : Launch) (M : MB) (Qc : Array Value → State → Outcome → State → Prop) (pc : Nat) (L : List (Option Value)) (st : List Value) (w : Wd) : Prop :=
  ∀ (p : Program) (e : Env) (s : State) (m : MethodId) (args : Array Value) (below : List Frame) (meth : Method) (c : Code) (H : Heap) (locs : List Loc) (ls : Array Slot),
    Cx G M p s m args meth c → va_P (gD G) vwCl (ces G w) H → va_S (gAw G) s.heap H locs → lvL ls M.2.1 L →
    W p l e M.2.2.2.2.2 s m args below meth c H locs 0 0 (MQ below Qc args s 0 0 (gAw G)) (F0 m pc ls st)
section VR
variable {G : Gb} {l : Launch} {M : MB} {Qc : Array Value → State → Outcome → State → Prop} {pc : Nat} {L : List (Option Value)} {st : List Value} {w : Wd}
/-- less is known of the locals -/
theorem V_forget {L' : List (Option Value)} (h : ∀ (i : Nat) (v : Value), L'[i]? = some (some v) → L[i]? = some (some v)) (k : V G l M Qc pc L' st w) : V G l M Qc pc L st w :=
  fun p e s m args below meth c H locs ls C hP hS hl => k p e s m args below meth c H locs ls C hP hS ⟨hl.1, hl.2.1, fun i v q => hl.2.2 i v (h i v q)⟩
theorem V_w {w' : Wd} (h : w = w') (k : V G l M Qc pc L st w') : V G l M Qc pc L st w := h ▸ k
theorem V_iconst {n : Int} (hd : decode M.1 pc = .ok (.iconst n, 1)) (k : V G l M Qc (pc + 1) L (.int (iZ n) :: st) w) : V G l M Qc pc L st w :=
  fun p e s m args below meth c H locs ls C hP hS hl => lv_iconst C.1 C.2.1 hd rfl (k p e s m args below meth c H locs ls C hP hS hl)
theorem V_bipush {n : Int} (hd : decode M.1 pc = .ok (.bipush n, 2)) (hv : (Int8.ofInt n).toInt32 = iZ n) (k : V G l M Qc (pc + 2) L (.int (iZ n) :: st) w) : V G l M Qc pc L st w :=
  fun p e s m args below meth c H locs ls C hP hS hl => lv_bipush C.1 C.2.1 hd hv (k p e s m args below meth c H locs ls C hP hS hl)
theorem V_sipush {n : Int} (hd : decode M.1 pc = .ok (.sipush n, 3)) (hv : (Int16.ofInt n).toInt32 = iZ n) (k : V G l M Qc (pc + 3) L (.int (iZ n) :: st) w) : V G l M Qc pc L st w :=
  fun p e s m args below meth c H locs ls C hP hS hl => lv_sipush C.1 C.2.1 hd hv (k p e s m args below meth c H locs ls C hP hS hl)
theorem V_ldc {idx : Nat} {n : Int} (hd : decode M.1 pc = .ok (.ldc idx, 2)) (hc : Jvm.Cond.constant M.2.2.1 idx (iZ n) ∈ M.2.2.2.2.1) (k : V G l M Qc (pc + 2) L (.int (iZ n) :: st) w) : V G l M Qc pc L st w :=
  fun p e s m args below meth c H locs ls C hP hS hl => lv_ldc C.1 C.2.1 C.2.2.2.2.1 (C.2.2.2.2.2.1 _ hc) hd (k p e s m args below meth c H locs ls C hP hS hl)
theorem V_ldcw {idx : Nat} {n : Int} (hd : decode M.1 pc = .ok (.ldc_w idx, 3)) (hc : Jvm.Cond.constant M.2.2.1 idx (iZ n) ∈ M.2.2.2.2.1) (k : V G l M Qc (pc + 3) L (.int (iZ n) :: st) w) : V G l M Qc pc L st w :=
  fun p e s m args below meth c H locs ls C hP hS hl => lv_ldcw C.1 C.2.1 C.2.2.2.2.1 (C.2.2.2.2.2.1 _ hc) hd (k p e s m args below meth c H locs ls C hP hS hl)
theorem V_lconst {n : Fin 2} {v : Int64} (hd : decode M.1 pc = .ok (.lconst n, 1)) (hv : Int64.ofNat (n : Nat) = v) (k : V G l M Qc (pc + 1) L (.long v :: st) w) : V G l M Qc pc L st w :=
  fun p e s m args below meth c H locs ls C hP hS hl => lv_lconst C.1 C.2.1 hd hv (k p e s m args below meth c H locs ls C hP hS hl)
theorem V_ldc2 {idx : Nat} {v : Int64} (hd : decode M.1 pc = .ok (.ldc2_w idx, 3)) (hc : Jvm.Cond.constantLong M.2.2.1 idx v ∈ M.2.2.2.2.1) (k : V G l M Qc (pc + 3) L (.long v :: st) w) : V G l M Qc pc L st w :=
  fun p e s m args below meth c H locs ls C hP hS hl => lv_ldc2 C.1 C.2.1 C.2.2.2.2.1 (C.2.2.2.2.2.1 _ hc) hd (k p e s m args below meth c H locs ls C hP hS hl)
theorem V_iload_n {i : Fin 4} {x : Int32} (hd : decode M.1 pc = .ok (.iload_n i, 1)) (hi : L[(i : Nat)]? = some (some (.int x))) (k : V G l M Qc (pc + 1) L (.int x :: st) w) : V G l M Qc pc L st w :=
  fun p e s m args below meth c H locs ls C hP hS hl => lv_iload_n C.1 C.2.1 hd rfl (hl.2.2 _ _ hi) (k p e s m args below meth c H locs ls C hP hS hl)
theorem V_iload {i : Nat} {x : Int32} (hd : decode M.1 pc = .ok (.iload i, 2)) (hi : L[i]? = some (some (.int x))) (k : V G l M Qc (pc + 2) L (.int x :: st) w) : V G l M Qc pc L st w :=
  fun p e s m args below meth c H locs ls C hP hS hl => lv_iload C.1 C.2.1 hd (hl.2.2 _ _ hi) (k p e s m args below meth c H locs ls C hP hS hl)
theorem V_lload_n {i : Fin 4} {x : Int64} (hd : decode M.1 pc = .ok (.lload_n i, 1)) (hi : L[(i : Nat)]? = some (some (.long x))) (k : V G l M Qc (pc + 1) L (.long x :: st) w) : V G l M Qc pc L st w :=
  fun p e s m args below meth c H locs ls C hP hS hl => lv_lload_n C.1 C.2.1 hd rfl (hl.2.2 _ _ hi) (k p e s m args below meth c H locs ls C hP hS hl)
theorem V_lload {i : Nat} {x : Int64} (hd : decode M.1 pc = .ok (.lload i, 2)) (hi : L[i]? = some (some (.long x))) (k : V G l M Qc (pc + 2) L (.long x :: st) w) : V G l M Qc pc L st w :=
  fun p e s m args below meth c H locs ls C hP hS hl => lv_lload C.1 C.2.1 hd (hl.2.2 _ _ hi) (k p e s m args below meth c H locs ls C hP hS hl)
theorem V_aload_n {i : Fin 4} {x : Nat} (hd : decode M.1 pc = .ok (.aload_n i, 1)) (hi : L[(i : Nat)]? = some (some (.ref x))) (k : V G l M Qc (pc + 1) L (.ref x :: st) w) : V G l M Qc pc L st w :=
  fun p e s m args below meth c H locs ls C hP hS hl => lv_aload_n C.1 C.2.1 hd rfl (hl.2.2 _ _ hi) (k p e s m args below meth c H locs ls C hP hS hl)
theorem V_aload {i : Nat} {x : Nat} (hd : decode M.1 pc = .ok (.aload i, 2)) (hi : L[i]? = some (some (.ref x))) (k : V G l M Qc (pc + 2) L (.ref x :: st) w) : V G l M Qc pc L st w :=
  fun p e s m args below meth c H locs ls C hP hS hl => lv_aload C.1 C.2.1 hd (hl.2.2 _ _ hi) (k p e s m args below meth c H locs ls C hP hS hl)
theorem V_istore_n {i : Fin 4} {x : Int32} (hd : decode M.1 pc = .ok (.istore_n i, 1)) (hn : (i : Nat) < M.2.1) (ho : okS L i = true) (k : V G l M Qc (pc + 1) (L.set i (some (.int x))) st w) : V G l M Qc pc L (.int x :: st) w :=
  fun p e s m args below meth c H locs ls C hP hS hl => lv_istore_n C.1 C.2.1 hd rfl hl.has hn rfl (fun ls' hl' => k p e s m args below meth c H locs ls' C hP hS (lvL.set ho hl'))
theorem V_istore {i : Nat} {x : Int32} (hd : decode M.1 pc = .ok (.istore i, 2)) (hn : i < M.2.1) (ho : okS L i = true) (k : V G l M Qc (pc + 2) (L.set i (some (.int x))) st w) : V G l M Qc pc L (.int x :: st) w :=
  fun p e s m args below meth c H locs ls C hP hS hl => lv_istore C.1 C.2.1 hd hl.has hn rfl (fun ls' hl' => k p e s m args below meth c H locs ls' C hP hS (lvL.set ho hl'))
theorem V_iinc {i : Nat} {n a : Int} (hd : decode M.1 pc = .ok (.iinc i n, 3)) (hi : L[i]? = some (some (.int (iZ a)))) (hn : i < M.2.1) (ho : okS L i = true) (k : V G l M Qc (pc + 3) (L.set i (some (.int (iZ (a + n))))) st w) : V G l M Qc pc L st w := by
  intro p e s m args below meth c H locs ls C hP hS hl
  obtain ⟨j, hj⟩ := List.getElem?_of_mem ((lvE_mem (q := (i, Value.int (iZ a)))).mpr hi)
  refine lv_iinc (v := iZ (a + n)) C.1 C.2.1 hd hl.has (k := j) hj ?_ hn rfl (fun ls' hl' => k p e s m args below meth c H locs ls' C hP hS (lvL.set ho hl'))
  exact iZ_add a n
theorem V_iadd {a b : Int} (hd : decode M.1 pc = .ok (.iadd, 1)) (k : V G l M Qc (pc + 1) L (.int (iZ (a + b)) :: st) w) : V G l M Qc pc L (.int (iZ b) :: .int (iZ a) :: st) w :=
  fun p e s m args below meth c H locs ls C hP hS hl => lv_iadd C.1 C.2.1 hd (by rw [iZ_add]; exact k p e s m args below meth c H locs ls C hP hS hl)
theorem V_isub {a b : Int} (hd : decode M.1 pc = .ok (.isub, 1)) (k : V G l M Qc (pc + 1) L (.int (iZ (a - b)) :: st) w) : V G l M Qc pc L (.int (iZ b) :: .int (iZ a) :: st) w :=
  fun p e s m args below meth c H locs ls C hP hS hl => lv_isub C.1 C.2.1 hd (by rw [iZ_sub]; exact k p e s m args below meth c H locs ls C hP hS hl)
theorem V_imul {a b : Int} (hd : decode M.1 pc = .ok (.imul, 1)) (k : V G l M Qc (pc + 1) L (.int (iZ (a * b)) :: st) w) : V G l M Qc pc L (.int (iZ b) :: .int (iZ a) :: st) w :=
  fun p e s m args below meth c H locs ls C hP hS hl => lv_imul C.1 C.2.1 hd (by rw [iZ_mul]; exact k p e s m args below meth c H locs ls C hP hS hl)
theorem iZ_nI {a : Int} (h : 0 ≤ a) : iZ a = nI a.toNat := by
  obtain ⟨n, rfl⟩ := Int.eq_ofNat_of_zero_le h
  rw [Int.toNat_natCast]
  first
    | rfl
    | (unfold iZ nI; exact Int32.ofInt_eq_ofNat)
    | simp [iZ, nI]
theorem iZ_div {a b : Int} (ha : 0 ≤ a ∧ a ≤ 2147483647) (hb : 0 < b ∧ b ≤ 2147483647) : iZ a / iZ b = iZ (a / b) := by
  have e : (a.toNat : Int) = a := by omega
  have e2 : (b.toNat : Int) = b := by omega
  have h0 : 0 ≤ a / b := Int.ediv_nonneg ha.1 (by omega)
  rw [iZ_nI ha.1, iZ_nI (by omega : 0 ≤ b), iZ_nI h0, pk_div (by omega) (by omega) (by omega)]
  congr 1
  have h1 : ((a.toNat / b.toNat : Nat) : Int) = a / b := by rw [Int.natCast_ediv, e, e2]
  omega
theorem iZ_rem {a b : Int} (ha : 0 ≤ a ∧ a ≤ 2147483647) (hb : 0 < b ∧ b ≤ 2147483647) : iZ a - iZ a / iZ b * iZ b = iZ (a % b) := by
  have e : (a.toNat : Int) = a := by omega
  have e2 : (b.toNat : Int) = b := by omega
  have h0 : 0 ≤ a % b := Int.emod_nonneg a (by omega)
  rw [iZ_nI ha.1, iZ_nI (by omega : 0 ≤ b), iZ_nI h0, pk_rem (by omega) (by omega) (by omega)]
  congr 1
  have h1 : ((a.toNat % b.toNat : Nat) : Int) = a % b := by rw [Int.natCast_emod, e, e2]
  omega
theorem iZ_n0 {b : Int} (hb : 0 < b ∧ b ≤ 2147483647) : ¬ iZ b = 0 := by
  rw [iZ_0, iZ_eq (by omega) (by omega)]
  omega
theorem V_idiv {a b : Int} (hd : decode M.1 pc = .ok (.idiv, 1)) (ha : 0 ≤ a ∧ a ≤ 2147483647) (hb : 0 < b ∧ b ≤ 2147483647) (k : V G l M Qc (pc + 1) L (.int (iZ (a / b)) :: st) w) : V G l M Qc pc L (.int (iZ b) :: .int (iZ a) :: st) w :=
  fun p e s m args below meth c H locs ls C hP hS hl => lv_idiv C.1 C.2.1 hd (iZ_n0 hb) (by rw [iZ_div ha hb]; exact k p e s m args below meth c H locs ls C hP hS hl)
theorem V_irem {a b : Int} (hd : decode M.1 pc = .ok (.irem, 1)) (ha : 0 ≤ a ∧ a ≤ 2147483647) (hb : 0 < b ∧ b ≤ 2147483647) (k : V G l M Qc (pc + 1) L (.int (iZ (a % b)) :: st) w) : V G l M Qc pc L (.int (iZ b) :: .int (iZ a) :: st) w :=
  fun p e s m args below meth c H locs ls C hP hS hl => lv_irem C.1 C.2.1 hd (iZ_n0 hb) (by rw [iZ_rem ha hb]; exact k p e s m args below meth c H locs ls C hP hS hl)
/-- bits, as numbers -/
def bAnd (a b : Int) : Int := (iZ a &&& iZ b).toInt
def bOr (a b : Int) : Int := (iZ a ||| iZ b).toInt
def bShl (a b : Int) : Int := (iZ a <<< (iZ b &&& 31)).toInt
def bShr (a b : Int) : Int := (iZ a >>> (iZ b &&& 31)).toInt
theorem V_iand {a b : Int} (hd : decode M.1 pc = .ok (.iand, 1)) (k : V G l M Qc (pc + 1) L (.int (iZ (bAnd a b)) :: st) w) : V G l M Qc pc L (.int (iZ b) :: .int (iZ a) :: st) w :=
  fun p e s m args below meth c H locs ls C hP hS hl => lv_iand C.1 C.2.1 hd (by rw [← iZ_self (iZ a &&& iZ b)]; exact k p e s m args below meth c H locs ls C hP hS hl)
theorem V_ior {a b : Int} (hd : decode M.1 pc = .ok (.ior, 1)) (k : V G l M Qc (pc + 1) L (.int (iZ (bOr a b)) :: st) w) : V G l M Qc pc L (.int (iZ b) :: .int (iZ a) :: st) w :=
  fun p e s m args below meth c H locs ls C hP hS hl => lv_ior C.1 C.2.1 hd (by rw [← iZ_self (iZ a ||| iZ b)]; exact k p e s m args below meth c H locs ls C hP hS hl)
theorem V_ishl {a b : Int} (hd : decode M.1 pc = .ok (.ishl, 1)) (k : V G l M Qc (pc + 1) L (.int (iZ (bShl a b)) :: st) w) : V G l M Qc pc L (.int (iZ b) :: .int (iZ a) :: st) w :=
  fun p e s m args below meth c H locs ls C hP hS hl => lv_ishl C.1 C.2.1 hd (by rw [← iZ_self (iZ a <<< (iZ b &&& 31))]; exact k p e s m args below meth c H locs ls C hP hS hl)
theorem V_ishr {a b : Int} (hd : decode M.1 pc = .ok (.ishr, 1)) (k : V G l M Qc (pc + 1) L (.int (iZ (bShr a b)) :: st) w) : V G l M Qc pc L (.int (iZ b) :: .int (iZ a) :: st) w :=
  fun p e s m args below meth c H locs ls C hP hS hl => lv_ishr C.1 C.2.1 hd (by rw [← iZ_self (iZ a >>> (iZ b &&& 31))]; exact k p e s m args below meth c H locs ls C hP hS hl)
theorem V_i2l {x : Int32} {v : Int64} (hd : decode M.1 pc = .ok (.i2l, 1)) (hv : x.toInt64 = v) (k : V G l M Qc (pc + 1) L (.long v :: st) w) : V G l M Qc pc L (.int x :: st) w :=
  fun p e s m args below meth c H locs ls C hP hS hl => lv_i2l C.1 C.2.1 hd hv (k p e s m args below meth c H locs ls C hP hS hl)
theorem V_l2i {x : Int64} {a : Int} (hd : decode M.1 pc = .ok (.l2i, 1)) (hv : x.toInt32 = iZ a) (k : V G l M Qc (pc + 1) L (.int (iZ a) :: st) w) : V G l M Qc pc L (.long x :: st) w :=
  fun p e s m args below meth c H locs ls C hP hS hl => lv_l2i C.1 C.2.1 hd hv (k p e s m args below meth c H locs ls C hP hS hl)
theorem V_land {x y : Int64} (hd : decode M.1 pc = .ok (.land, 1)) (k : V G l M Qc (pc + 1) L (.long (x &&& y) :: st) w) : V G l M Qc pc L (.long y :: .long x :: st) w :=
  fun p e s m args below meth c H locs ls C hP hS hl => lv_land C.1 C.2.1 hd (k p e s m args below meth c H locs ls C hP hS hl)
theorem V_lshr {x v : Int64} {y : Int32} (hd : decode M.1 pc = .ok (.lshr, 1)) (hv : x >>> (y.toInt64 &&& 63) = v) (k : V G l M Qc (pc + 1) L (.long v :: st) w) : V G l M Qc pc L (.int y :: .long x :: st) w :=
  fun p e s m args below meth c H locs ls C hP hS hl => lv_lshr C.1 C.2.1 hd hv (k p e s m args below meth c H locs ls C hP hS hl)
theorem V_lcmp {x y : Int64} {a : Int} (hd : decode M.1 pc = .ok (.lcmp, 1)) (hv : lg_cmp x y = iZ a) (k : V G l M Qc (pc + 1) L (.int (iZ a) :: st) w) : V G l M Qc pc L (.long y :: .long x :: st) w :=
  fun p e s m args below meth c H locs ls C hP hS hl => W.lcmp C.1 C.2.1 hd (by rw [hv]; exact k p e s m args below meth c H locs ls C hP hS hl)
theorem V_dup {va : Value} (hd : decode M.1 pc = .ok (.dup, 1)) (hva : va.category = 1) (k : V G l M Qc (pc + 1) L (va :: va :: st) w) : V G l M Qc pc L (va :: st) w :=
  fun p e s m args below meth c H locs ls C hP hS hl => lv_dup C.1 C.2.1 hd hva (k p e s m args below meth c H locs ls C hP hS hl)
theorem V_dup2 {va vb : Value} (hd : decode M.1 pc = .ok (.dup2, 1)) (hva : va.category = 1) (hvb : vb.category = 1) (k : V G l M Qc (pc + 1) L (va :: vb :: va :: vb :: st) w) : V G l M Qc pc L (va :: vb :: st) w :=
  fun p e s m args below meth c H locs ls C hP hS hl => lv_dup2_11 C.1 C.2.1 hd hva hvb (k p e s m args below meth c H locs ls C hP hS hl)
theorem V_pop {va : Value} (hd : decode M.1 pc = .ok (.pop, 1)) (hva : va.category = 1) (k : V G l M Qc (pc + 1) L st w) : V G l M Qc pc L (va :: st) w :=
  fun p e s m args below meth c H locs ls C hP hS hl => lv_pop C.1 C.2.1 hd hva (k p e s m args below meth c H locs ls C hP hS hl)
theorem V_goto {off : Int} {tgt : Nat} (hd : decode M.1 pc = .ok (.goto off, 3)) (ht : (pc : Int) + off = (tgt : Int)) (k : V G l M Qc tgt L st w) : V G l M Qc pc L st w :=
  fun p e s m args below meth c H locs ls C hP hS hl => lv_goto C.1 C.2.1 hd ht (k p e s m args below meth c H locs ls C hP hS hl)
theorem V_if_eq {a : Int} {off : Int} {tgt : Nat} (hd : decode M.1 pc = .ok (.ifCond .eq off, 3)) (ht : (pc : Int) + off = (tgt : Int)) (ha : inR a) (kt : a = 0 → V G l M Qc tgt L st w) (kf : a ≠ 0 → V G l M Qc (pc + 3) L st w) : V G l M Qc pc L (.int (iZ a) :: st) w :=
  fun p e s m args below meth c H locs ls C hP hS hl => lv_if_eq C.1 C.2.1 hd ht (fun h => kt ((iZ_eq ha (by omega)).mp (h.trans iZ_0)) p e s m args below meth c H locs ls C hP hS hl) (fun h => kf (fun z => h (by rw [z]; rfl)) p e s m args below meth c H locs ls C hP hS hl)
theorem V_if_ne {a : Int} {off : Int} {tgt : Nat} (hd : decode M.1 pc = .ok (.ifCond .ne off, 3)) (ht : (pc : Int) + off = (tgt : Int)) (ha : inR a) (kt : a ≠ 0 → V G l M Qc tgt L st w) (kf : a = 0 → V G l M Qc (pc + 3) L st w) : V G l M Qc pc L (.int (iZ a) :: st) w :=
  fun p e s m args below meth c H locs ls C hP hS hl => lv_if_ne C.1 C.2.1 hd ht (fun h => kt (fun z => h (by rw [z]; rfl)) p e s m args below meth c H locs ls C hP hS hl) (fun h => kf ((iZ_eq ha (by omega)).mp (h.trans iZ_0)) p e s m args below meth c H locs ls C hP hS hl)
theorem V_if_lt {a : Int} {off : Int} {tgt : Nat} (hd : decode M.1 pc = .ok (.ifCond .lt off, 3)) (ht : (pc : Int) + off = (tgt : Int)) (ha : inR a) (kt : a < 0 → V G l M Qc tgt L st w) (kf : 0 ≤ a → V G l M Qc (pc + 3) L st w) : V G l M Qc pc L (.int (iZ a) :: st) w :=
  fun p e s m args below meth c H locs ls C hP hS hl => lv_if_lt C.1 C.2.1 hd ht (fun h => kt ((iZ_lt ha (by omega)).mp h) p e s m args below meth c H locs ls C hP hS hl) (fun h => kf (Int.not_lt.mp (fun z => h ((iZ_lt ha (by omega)).mpr z))) p e s m args below meth c H locs ls C hP hS hl)
theorem V_if_ge {a : Int} {off : Int} {tgt : Nat} (hd : decode M.1 pc = .ok (.ifCond .ge off, 3)) (ht : (pc : Int) + off = (tgt : Int)) (ha : inR a) (kt : 0 ≤ a → V G l M Qc tgt L st w) (kf : a < 0 → V G l M Qc (pc + 3) L st w) : V G l M Qc pc L (.int (iZ a) :: st) w :=
  fun p e s m args below meth c H locs ls C hP hS hl => lv_if_ge C.1 C.2.1 hd ht (fun h => kt ((iZ_le (by omega) ha).mp h) p e s m args below meth c H locs ls C hP hS hl) (fun h => kf (Int.not_le.mp (fun z => h ((iZ_le (by omega) ha).mpr z))) p e s m args below meth c H locs ls C hP hS hl)
theorem V_if_gt {a : Int} {off : Int} {tgt : Nat} (hd : decode M.1 pc = .ok (.ifCond .gt off, 3)) (ht : (pc : Int) + off = (tgt : Int)) (ha : inR a) (kt : 0 < a → V G l M Qc tgt L st w) (kf : a ≤ 0 → V G l M Qc (pc + 3) L st w) : V G l M Qc pc L (.int (iZ a) :: st) w :=
  fun p e s m args below meth c H locs ls C hP hS hl => lv_if_gt C.1 C.2.1 hd ht (fun h => kt ((iZ_lt (by omega) ha).mp h) p e s m args below meth c H locs ls C hP hS hl) (fun h => kf (Int.not_lt.mp (fun z => h ((iZ_lt (by omega) ha).mpr z))) p e s m args below meth c H locs ls C hP hS hl)
theorem V_if_le {a : Int} {off : Int} {tgt : Nat} (hd : decode M.1 pc = .ok (.ifCond .le off, 3)) (ht : (pc : Int) + off = (tgt : Int)) (ha : inR a) (kt : a ≤ 0 → V G l M Qc tgt L st w) (kf : 0 < a → V G l M Qc (pc + 3) L st w) : V G l M Qc pc L (.int (iZ a) :: st) w :=
  fun p e s m args below meth c H locs ls C hP hS hl => lv_if_le C.1 C.2.1 hd ht (fun h => kt ((iZ_le ha (by omega)).mp h) p e s m args below meth c H locs ls C hP hS hl) (fun h => kf (Int.not_le.mp (fun z => h ((iZ_le ha (by omega)).mpr z))) p e s m args below meth c H locs ls C hP hS hl)
theorem V_icmp_eq {a b : Int} {off : Int} {tgt : Nat} (hd : decode M.1 pc = .ok (.if_icmp .eq off, 3)) (ht : (pc : Int) + off = (tgt : Int)) (ha : inR a) (hb : inR b) (kt : a = b → V G l M Qc tgt L st w) (kf : a ≠ b → V G l M Qc (pc + 3) L st w) : V G l M Qc pc L (.int (iZ b) :: .int (iZ a) :: st) w :=
  fun p e s m args below meth c H locs ls C hP hS hl => lv_icmp_eq C.1 C.2.1 hd ht (fun h => kt ((iZ_eq ha hb).mp h) p e s m args below meth c H locs ls C hP hS hl) (fun h => kf (fun z => h (by rw [z])) p e s m args below meth c H locs ls C hP hS hl)
theorem V_icmp_ne {a b : Int} {off : Int} {tgt : Nat} (hd : decode M.1 pc = .ok (.if_icmp .ne off, 3)) (ht : (pc : Int) + off = (tgt : Int)) (ha : inR a) (hb : inR b) (kt : a ≠ b → V G l M Qc tgt L st w) (kf : a = b → V G l M Qc (pc + 3) L st w) : V G l M Qc pc L (.int (iZ b) :: .int (iZ a) :: st) w :=
  fun p e s m args below meth c H locs ls C hP hS hl => lv_icmp_ne C.1 C.2.1 hd ht (fun h => kt (fun z => h (by rw [z])) p e s m args below meth c H locs ls C hP hS hl) (fun h => kf ((iZ_eq ha hb).mp h) p e s m args below meth c H locs ls C hP hS hl)
theorem V_icmp_lt {a b : Int} {off : Int} {tgt : Nat} (hd : decode M.1 pc = .ok (.if_icmp .lt off, 3)) (ht : (pc : Int) + off = (tgt : Int)) (ha : inR a) (hb : inR b) (kt : a < b → V G l M Qc tgt L st w) (kf : b ≤ a → V G l M Qc (pc + 3) L st w) : V G l M Qc pc L (.int (iZ b) :: .int (iZ a) :: st) w :=
  fun p e s m args below meth c H locs ls C hP hS hl => lv_icmp_lt C.1 C.2.1 hd ht (fun h => kt ((iZ_lt ha hb).mp h) p e s m args below meth c H locs ls C hP hS hl) (fun h => kf (Int.not_lt.mp (fun z => h ((iZ_lt ha hb).mpr z))) p e s m args below meth c H locs ls C hP hS hl)
theorem V_icmp_ge {a b : Int} {off : Int} {tgt : Nat} (hd : decode M.1 pc = .ok (.if_icmp .ge off, 3)) (ht : (pc : Int) + off = (tgt : Int)) (ha : inR a) (hb : inR b) (kt : b ≤ a → V G l M Qc tgt L st w) (kf : a < b → V G l M Qc (pc + 3) L st w) : V G l M Qc pc L (.int (iZ b) :: .int (iZ a) :: st) w :=
  fun p e s m args below meth c H locs ls C hP hS hl => lv_icmp_ge C.1 C.2.1 hd ht (fun h => kt ((iZ_le hb ha).mp h) p e s m args below meth c H locs ls C hP hS hl) (fun h => kf (Int.not_le.mp (fun z => h ((iZ_le hb ha).mpr z))) p e s m args below meth c H locs ls C hP hS hl)
theorem V_icmp_gt {a b : Int} {off : Int} {tgt : Nat} (hd : decode M.1 pc = .ok (.if_icmp .gt off, 3)) (ht : (pc : Int) + off = (tgt : Int)) (ha : inR a) (hb : inR b) (kt : b < a → V G l M Qc tgt L st w) (kf : a ≤ b → V G l M Qc (pc + 3) L st w) : V G l M Qc pc L (.int (iZ b) :: .int (iZ a) :: st) w :=
  fun p e s m args below meth c H locs ls C hP hS hl => lv_icmp_gt C.1 C.2.1 hd ht (fun h => kt ((iZ_lt hb ha).mp h) p e s m args below meth c H locs ls C hP hS hl) (fun h => kf (Int.not_lt.mp (fun z => h ((iZ_lt hb ha).mpr z))) p e s m args below meth c H locs ls C hP hS hl)
theorem V_icmp_le {a b : Int} {off : Int} {tgt : Nat} (hd : decode M.1 pc = .ok (.if_icmp .le off, 3)) (ht : (pc : Int) + off = (tgt : Int)) (ha : inR a) (hb : inR b) (kt : a ≤ b → V G l M Qc tgt L st w) (kf : b < a → V G l M Qc (pc + 3) L st w) : V G l M Qc pc L (.int (iZ b) :: .int (iZ a) :: st) w :=
  fun p e s m args below meth c H locs ls C hP hS hl => lv_icmp_le C.1 C.2.1 hd ht (fun h => kt ((iZ_le ha hb).mp h) p e s m args below meth c H locs ls C hP hS hl) (fun h => kf (Int.not_le.mp (fun z => h ((iZ_le ha hb).mpr z))) p e s m args below meth c H locs ls C hP hS hl)
theorem V_tswI {a v dflt lo hi off : Int} {offs : Array Int} {len tgt : Nat} (hd : decode M.1 pc = .ok (.tableswitch dflt lo hi offs, len)) (ha : a = v) (hv : inR v ∧ lo ≤ v ∧ v ≤ hi) (ho : offs[(v - lo).toNat]? = some off) (ht : (pc : Int) + off = (tgt : Int)) (k : V G l M Qc tgt L st w) : V G l M Qc pc L (.int (iZ a) :: st) w :=
  fun p e s m args below meth c H locs ls C hP hS hl => lv_tableIn C.1 C.2.1 hd (by rw [ha, iZ_toInt hv.1]; omega) (by rw [ha, iZ_toInt hv.1]; omega) (by rw [ha, iZ_toInt hv.1]; exact ho) ht (k p e s m args below meth c H locs ls C hP hS hl)
theorem V_tswO {a dflt lo hi : Int} {offs : Array Int} {len tgt : Nat} (hd : decode M.1 pc = .ok (.tableswitch dflt lo hi offs, len)) (ha : inR a) (hv : a < lo ∨ hi < a) (ht : (pc : Int) + dflt = (tgt : Int)) (k : V G l M Qc tgt L st w) : V G l M Qc pc L (.int (iZ a) :: st) w :=
  fun p e s m args below meth c H locs ls C hP hS hl => lv_tableOut C.1 C.2.1 hd (by rw [iZ_toInt ha]; exact hv) ht (k p e s m args below meth c H locs ls C hP hS hl)
theorem V_lsw {a dflt off : Int} {ps : Array (Int × Int)} {len tgt : Nat} (hd : decode M.1 pc = .ok (.lookupswitch dflt ps, len)) (ha : inR a) (hp : (ps.toList.zip (ps.toList.drop 1)).all (fun (a, next) => a.1 < next.1) = true) (ho : Op.lookupswitch.offset ps.toList dflt a = off) (ht : (pc : Int) + off = (tgt : Int)) (k : V G l M Qc tgt L st w) : V G l M Qc pc L (.int (iZ a) :: st) w :=
  fun p e s m args below meth c H locs ls C hP hS hl => lv_lookup C.1 C.2.1 hd hp (by rw [iZ_toInt ha]; exact ho) ht (k p e s m args below meth c H locs ls C hP hS hl)
/-- getfield: a number -/
theorem V_getI {kk ci idx j N : Nat} {ji : Int} {fl : List (Option Nat)} {C0 : String} {T : u_T} (hd : decode M.1 pc = .ok (.getfield idx, 3)) (hs : shL[kk]? = some (shO ci fl)) (hc : vwCl[ci]? = some (C0, T, N)) (hj : fl[j]? = some none) (hin : ∀ x ∈ u_ws C0 T N, x ∈ M.2.2.2.2.1) (hN : j < N) (hl0 : Cond.fieldLink M.2.2.1 idx (T j).1 (T j).2.1 (T j).2.2.1 ∈ M.2.2.2.2.1) (hji : (j : Int) = ji)
    (k : V G l M Qc (pc + 3) L (.int (iZ (w kk ji)) :: st) w) : V G l M Qc pc L (.ref (gA G kk) :: st) w := by
  subst hji
  intro p e s m args below meth c H locs ls C hP hS hl
  have C2 := C
  obtain ⟨hx, hb, hr, hml, hown, hts, hlo, hG⟩ := C2
  refine va_get (D := gD G) (ci := ci) (C := C0) (T := T) (N := N) hx hb hts hin hown hG.1 hP kk (ces_of hs) hc j hN (hts _ hl0) (fun _ h9 => h9) (v := .int (iZ (w kk (j : Int)))) ?_ hd (k p e s m args below meth c H locs ls C hP hS hl)
  rw [List.getElem?_mapIdx, hj]
  rfl
/-- getfield: a cell -/
theorem V_getR {kk ci idx j N q : Nat} {fl : List (Option Nat)} {C0 : String} {T : u_T} (hd : decode M.1 pc = .ok (.getfield idx, 3)) (hs : shL[kk]? = some (shO ci fl)) (hc : vwCl[ci]? = some (C0, T, N)) (hj : fl[j]? = some (some q)) (hin : ∀ x ∈ u_ws C0 T N, x ∈ M.2.2.2.2.1) (hN : j < N) (hl0 : Cond.fieldLink M.2.2.1 idx (T j).1 (T j).2.1 (T j).2.2.1 ∈ M.2.2.2.2.1)
    (k : V G l M Qc (pc + 3) L (.ref (gA G q) :: st) w) : V G l M Qc pc L (.ref (gA G kk) :: st) w := by
  intro p e s m args below meth c H locs ls C hP hS hl
  have C2 := C
  obtain ⟨hx, hb, hr, hml, hown, hts, hlo, hG⟩ := C2
  refine va_get (D := gD G) (ci := ci) (C := C0) (T := T) (N := N) hx hb hts hin hown hG.1 hP kk (ces_of hs) hc j hN (hts _ hl0) (fun _ h9 => h9) (v := .ref (gA G q)) ?_ hd (k p e s m args below meth c H locs ls C hP hS hl)
  rw [List.getElem?_mapIdx, hj]
  rfl
/-- putfield: a number -/
theorem V_putI {kk ci idx j N : Nat} {z ji : Int} {fl : List (Option Nat)} {C0 : String} {T : u_T} {ty0 : Nat → FieldType} (hd : decode M.1 pc = .ok (.putfield idx, 3)) (hs : shL[kk]? = some (shO ci fl)) (hc : vwCl[ci]? = some (C0, T, N)) (hj : fl[j]? = some none) (hin : ∀ x ∈ u_ws C0 T N, x ∈ M.2.2.2.2.1) (hty : ∀ k, k < N → parseFieldDescriptor (T k).2.2.1 = some (ty0 k)) (hnm : ∀ a, a < N → ∀ b, b < N → a ≠ b → (T a).2.1 ≠ (T b).2.1) (hN : j < N) (hl0 : Cond.fieldLink M.2.2.1 idx (T j).1 (T j).2.1 (T j).2.2.1 ∈ M.2.2.2.2.1) (hfin : (T j).2.2.2 = false) (hpd : parseFieldDescriptor (T j).2.2.1 = some .int) (hji : (j : Int) = ji)
    (k : V G l M Qc (pc + 3) L st (up w kk ji z)) : V G l M Qc pc L (.int (iZ z) :: .ref (gA G kk) :: st) w := by
  subst hji
  intro p e s m args below meth c H locs ls C hP hS hl
  have C2 := C
  obtain ⟨hx, hb, hr, hml, hown, hts, hlo, hG⟩ := C2
  refine va_put (D := gD G) (ci := ci) (C := C0) (T := T) (N := N) (ty := .int) hx hb hts hin ty0 hty hnm hown hG.1 hP (ces_D hG.2.1 w) hS kk (ces_of hs) hc j hN (hts _ hl0) (fun _ h9 => h9) hfin hpd rfl rfl ?_ hd (fun H1 locs1 hP1 _ hS1 => k p e s m args below meth c H1 locs1 ls C ?_ hS1 hl)
  · rw [List.length_mapIdx]
    exact (List.getElem?_eq_some_iff.mp hj).1
  · rw [← ces_putF hs hj]
    exact hP1
theorem V_iald {kk n : Nat} {i : Int} (hd : decode M.1 pc = .ok (.iaload, 1)) (hs : shL[kk]? = some (shA 0 n)) (hi : 0 ≤ i ∧ i < (n : Int)) (k : V G l M Qc (pc + 1) L (.int (iZ (w kk i)) :: st) w) : V G l M Qc pc L (.int (iZ i) :: .ref (gA G kk) :: st) w := by
  intro p e s m args below meth c H locs ls C hP hS hl
  have hn := sh_n hs
  refine va_iald (D := gD G) C.1 C.2.1 C.2.2.2.2.2.2.2.1 hP kk 0 (ces_of hs) rfl (iZ_in hi hn) hd ?_
  rw [iZ_clamp (by omega), show ((i.toNat : Nat) : Int) = i by omega]
  exact k p e s m args below meth c H locs ls C hP hS hl
theorem V_zald {kk n : Nat} {i : Int} (hd : decode M.1 pc = .ok (.baload, 1)) (hs : shL[kk]? = some (shA 1 n)) (hi : 0 ≤ i ∧ i < (n : Int)) (k : V G l M Qc (pc + 1) L (.int (iZ (w kk i)) :: st) w) : V G l M Qc pc L (.int (iZ i) :: .ref (gA G kk) :: st) w := by
  intro p e s m args below meth c H locs ls C hP hS hl
  have hn := sh_n hs
  refine va_zald (D := gD G) C.1 C.2.1 C.2.2.2.2.2.2.2.1 hP kk 1 (ces_of hs) rfl (iZ_in hi hn) hd ?_
  rw [iZ_clamp (by omega), show ((i.toNat : Nat) : Int) = i by omega]
  exact k p e s m args below meth c H locs ls C hP hS hl
theorem up_arr {w : Wd} {kk : Nat} {i z : Int} (hi : 0 ≤ i) (j : Nat) : upd (fun j : Nat => iZ (w kk (j : Int))) i.toNat (iZ z) j = iZ (up w kk i z kk (j : Int)) := by
  unfold upd up
  by_cases h : j = i.toNat
  · rw [if_pos h, if_pos ⟨rfl, by omega⟩]
  · rw [if_neg h, if_neg (by rintro ⟨-, h2⟩; omega)]
theorem V_iast {kk n : Nat} {i z : Int} (hd : decode M.1 pc = .ok (.iastore, 1)) (hs : shL[kk]? = some (shA 0 n)) (hi : 0 ≤ i ∧ i < (n : Int)) (k : V G l M Qc (pc + 1) L st (up w kk i z)) : V G l M Qc pc L (.int (iZ z) :: .int (iZ i) :: .ref (gA G kk) :: st) w := by
  intro p e s m args below meth c H locs ls C hP hS hl
  have hn := sh_n hs
  refine va_iast (D := gD G) C.1 C.2.1 C.2.2.2.2.2.2.2.1 hP (ces_D C.2.2.2.2.2.2.2.2.1 w) hS kk 0 (ces_of hs) rfl (iZ_in hi hn) hd (fun H1 locs1 hP1 _ hS1 => k p e s m args below meth c H1 locs1 ls C ?_ hS1 hl)
  rw [iZ_clamp (by omega), ces_putA hs (w' := up w kk i z) (fun j => up_arr hi.1 j) (fun a b h => up_ne (Or.inl h))] at hP1
  exact hP1
theorem V_zast {kk n : Nat} {i z : Int} (hd : decode M.1 pc = .ok (.bastore, 1)) (hs : shL[kk]? = some (shA 1 n)) (hi : 0 ≤ i ∧ i < (n : Int)) (hz : z = 0 ∨ z = 1) (k : V G l M Qc (pc + 1) L st (up w kk i z)) : V G l M Qc pc L (.int (iZ z) :: .int (iZ i) :: .ref (gA G kk) :: st) w := by
  intro p e s m args below meth c H locs ls C hP hS hl
  have hn := sh_n hs
  have hz9 : vp_nar .boolean (iZ z) = iZ z := by rcases hz with rfl | rfl <;> decide
  refine va_zast (D := gD G) C.1 C.2.1 C.2.2.2.2.2.2.2.1 hP (ces_D C.2.2.2.2.2.2.2.2.1 w) hS kk 1 (ces_of hs) rfl (iZ_in hi hn) hd (fun H1 locs1 hP1 _ hS1 => k p e s m args below meth c H1 locs1 ls C ?_ hS1 hl)
  rw [hz9, iZ_clamp (by omega), ces_putA hs (w' := up w kk i z) (fun j => up_arr hi.1 j) (fun a b h => up_ne (Or.inl h))] at hP1
  exact hP1
theorem V_alen {kk t n : Nat} {nz : Int} (hd : decode M.1 pc = .ok (.arraylength, 1)) (hs : shL[kk]? = some (shA t n)) (ht : t = 0 ∨ t = 1) (hz : (n : Int) = nz) (k : V G l M Qc (pc + 1) L (.int (iZ nz) :: st) w) : V G l M Qc pc L (.ref (gA G kk) :: st) w := by
  subst hz
  intro p e s m args below meth c H locs ls C hP hS hl
  rcases ht with rfl | rfl
  · exact va_alen (D := gD G) C.1 C.2.1 C.2.2.2.2.2.2.2.1 hP kk 0 (ces_of hs) rfl (v := iZ (n : Int)) (by rw [iZ_nI (by omega)]; rfl) hd (k p e s m args below meth c H locs ls C hP hS hl)
  · exact va_alen (D := gD G) C.1 C.2.1 C.2.2.2.2.2.2.2.1 hP kk 1 (ces_of hs) rfl (v := iZ (n : Int)) (by rw [iZ_nI (by omega)]; rfl) hd (k p e s m args below meth c H locs ls C hP hS hl)
theorem V_alenR {kk t : Nat} {qs : List Nat} {nz : Int} (hd : decode M.1 pc = .ok (.arraylength, 1)) (hs : shL[kk]? = some (shR t qs)) (ht : t = 2 ∨ t = 3) (hz : (qs.length : Int) = nz) (k : V G l M Qc (pc + 1) L (.int (iZ nz) :: st) w) : V G l M Qc pc L (.ref (gA G kk) :: st) w := by
  subst hz
  intro p e s m args below meth c H locs ls C hP hS hl
  rcases ht with rfl | rfl
  · exact va_alen (D := gD G) C.1 C.2.1 C.2.2.2.2.2.2.2.1 hP kk 2 (ces_of hs) rfl (v := iZ (qs.length : Int)) (by rw [iZ_nI (by omega)]; rfl) hd (k p e s m args below meth c H locs ls C hP hS hl)
  · exact va_alen (D := gD G) C.1 C.2.1 C.2.2.2.2.2.2.2.1 hP kk 3 (ces_of hs) rfl (v := iZ (qs.length : Int)) (by rw [iZ_nI (by omega)]; rfl) hd (k p e s m args below meth c H locs ls C hP hS hl)
theorem V_aald {kk t q : Nat} {qs : List Nat} {i : Int} (hd : decode M.1 pc = .ok (.aaload, 1)) (hs : shL[kk]? = some (shR t qs)) (ht : t = 2 ∨ t = 3) (hi : 0 ≤ i ∧ i < (qs.length : Int)) (hq : qs[i.toNat]? = some q) (k : V G l M Qc (pc + 1) L (.ref (gA G q) :: st) w) : V G l M Qc pc L (.int (iZ i) :: .ref (gA G kk) :: st) w := by
  intro p e s m args below meth c H locs ls C hP hS hl
  have hn := sh_q hs
  have hcell := hP kk _ (ces_of hs)
  have hlt : i.toNat < qs.length := by omega
  have hin := iZ_in hi hn
  rcases ht with rfl | rfl
  · refine W.aald (v := .ref (gA G q)) (ty := .object "TreeDebts$State") C.1 C.2.1 hcell ((C.2.2.2.2.2.2.2.1.2 2 _ rfl).1 qs.length (fun j => va_rf ((qs[j]?).map (gA G)))) rfl (fun q => by cases q) (by show ¬ (iZ i < 0 ∨ (arrV _ _ _).slots.size ≤ _); rw [arrV_size]; exact hin) ?_ rfl rfl hd (k p e s m args below meth c H locs ls C hP hS hl)
    show (arrV _ _ _).slots[_]? = _
    rw [iZ_clamp (by omega), arrV_read _ _ hlt]
    show some (va_rf ((qs[i.toNat]?).map (gA G))) = _
    rw [hq]
    rfl
  · refine W.aald (v := .ref (gA G q)) (ty := .array .int) C.1 C.2.1 hcell ((C.2.2.2.2.2.2.2.1.2 3 _ rfl).1 qs.length (fun j => va_rf ((qs[j]?).map (gA G)))) rfl (fun q => by cases q) (by show ¬ (iZ i < 0 ∨ (arrV _ _ _).slots.size ≤ _); rw [arrV_size]; exact hin) ?_ rfl rfl hd (k p e s m args below meth c H locs ls C hP hS hl)
    show (arrV _ _ _).slots[_]? = _
    rw [iZ_clamp (by omega), arrV_read _ _ hlt]
    show some (va_rf ((qs[i.toNat]?).map (gA G))) = _
    rw [hq]
    rfl
end VR
end
section
/-! ===== 04 contracts: what a method answers, and what the world is behind it ===== -/
abbrev PcOf (G : Gb) (avs : List Value) (w : Wd) : Array Value → State → Prop := va_Pc avs (fun U => gGl G U ∧ va_P (gD G) vwCl (ces G w) U.heap)
abbrev Qi (G : Gb) (Post : Int → Wd → Prop) : Array Value → State → Outcome → State → Prop := va_Qi (fun (r : Int32) (w' : Wd) => ∃ z : Int, r = iZ z ∧ Post z w') (fun w' t => va_P (gD G) vwCl (ces G w') t.heap) (gAw G)
abbrev Qv (G : Gb) (Post : Wd → Prop) : Array Value → State → Outcome → State → Prop := va_Qv (fun w' : Wd => Post w') (fun w' t => va_P (gD G) vwCl (ces G w') t.heap) (gAw G)
/-- the method answers a number -/
def Ci (G : Gb) (l : Launch) (y : MethodName) (M : MB) (avs : List Value) (w : Wd) (Post : Int → Wd → Prop) : Prop := Met l y M.2.2.2.2.1 M.2.2.2.2.2 (PcOf G avs w) (Qi G Post) 0 0 (gAw G)
/-- the method answers nothing -/
def Cv (G : Gb) (l : Launch) (y : MethodName) (M : MB) (avs : List Value) (w : Wd) (Post : Wd → Prop) : Prop := Met l y M.2.2.2.2.1 M.2.2.2.2.2 (PcOf G avs w) (Qv G Post) 0 0 (gAw G)
/-- the locals at a method's start -/
def mkL : List Value → List (Option Value)
  | [] => []
  | v :: vs => if v.category = 2 then some v :: none :: mkL vs else some v :: mkL vs
theorem mkL_args : ∀ (vs : List Value) (b i : Nat) (v : Value), (mkL vs)[i]? = some (some v) → (b + i, v) ∈ lv_args b vs
  | [], b, i, v, h => by simp [mkL] at h
  | u :: vs, b, i, v, h => by
    unfold mkL at h
    unfold lv_args
    by_cases hc : u.category = 2
    · rw [if_pos hc] at h ⊢
      match i, h with
      | 0, h => cases h; exact List.mem_cons_self
      | 1, h => cases h
      | i + 2, h =>
        have h1 := mkL_args vs (b + 2) i v h
        rw [show b + (i + 2) = b + 2 + i by omega]
        exact List.mem_cons_of_mem _ h1
    · rw [if_neg hc] at h ⊢
      match i, h with
      | 0, h => cases h; exact List.mem_cons_self
      | i + 1, h =>
        have h1 := mkL_args vs (b + 1) i v h
        rw [show b + (i + 1) = b + 1 + i by omega]
        exact List.mem_cons_of_mem _ h1
theorem lvL_entry (vs : List Value) {n : Nat} (h : (lg_sl vs).length ≤ n) (j : Nat) : lvL ((lg_sl vs ++ List.replicate (n - (lg_sl vs).length) Slot.unset).toArray) n (mkL vs ++ List.replicate j none) := by
  obtain ⟨h1, h2, h3⟩ := lv_entry vs h
  refine ⟨h1, h2, fun i v hi => ?_⟩
  by_cases hl : i < (mkL vs).length
  · rw [List.getElem?_append_left hl] at hi
    have := mkL_args vs 0 i v hi
    rw [Nat.zero_add] at this
    exact h3 (i, v) this
  · rw [List.getElem?_append_right (by omega)] at hi
    have := List.mem_of_getElem? hi
    rw [List.mem_replicate] at this
    cases this.2
section VC
variable {G : Gb} {l : Launch} {M : MB} {Qc : Array Value → State → Outcome → State → Prop} {pc : Nat} {L : List (Option Value)} {st : List Value} {w : Wd}
theorem V_start {y : MethodName} {cc : ByteArray} {maxL : Nat} {own : String} {ret : Option FieldType} {ws ws' : List Cond} {rm : Room} {avs : List Value} (j : Nat) (hy : plainName y.cls = true) (hown : y.cls = own) (hw : ws = Cond.code y cc maxL ret :: ws') (hlen : (lg_sl avs).length ≤ maxL)
    (k : V G l (cc, maxL, own, ret, ws, rm) Qc 0 (mkL avs ++ List.replicate j none) [] w) : Met l y ws rm (PcOf G avs w) Qc 0 0 (gAw G) := by
  refine Met.ofW (cc := cc) (maxL := maxL) (ret := ret) hy hw ?_
  intro p e s m args below meth c s₁ B hml hv
  obtain ⟨rfl, hG, hP⟩ := hv
  rw [lg_entry_eq]
  have hts := atoms_spec (ws := ws) B.pre
  have ho : s.vm.findClass own = some m.cls := by rw [← hown]; exact findClass_of_methodNamed B.named
  exact k p e s m _ below meth c s.heap [] _ ⟨B.exec, B.bytes, B.returns, hml, ho, hts, B.notSynchronized, hG⟩ hP va_S.rf (lvL_entry avs hlen j)
theorem V_iret {z : Int} {Post : Int → Wd → Prop} (hd : decode M.1 pc = .ok (.ireturn, 1)) (hr0 : M.2.2.2.1 = some .int) (h : Post z w) : V G l M (Qi G Post) pc L [.int (iZ z)] w := by
  intro p e s m args below meth c H locs ls C hP hS hl
  obtain ⟨hx, hb, hr, hml, hown, hts, hlo, hG⟩ := C
  exact W.iret hx hb (hr.trans hr0) (fun t ht hW => ⟨⟨iZ z, w, rfl, ⟨z, rfl, h⟩, by show va_P _ _ _ t.heap; rw [ht]; exact hP⟩, hS.F ht⟩) hS.2.2 hd hlo
theorem V_zret {z : Int} {Post : Int → Wd → Prop} (hd : decode M.1 pc = .ok (.ireturn, 1)) (hr0 : M.2.2.2.1 = some .boolean) (hz : z = 0 ∨ z = 1) (h : Post z w) : V G l M (Qi G Post) pc L [.int (iZ z)] w := by
  intro p e s m args below meth c H locs ls C hP hS hl
  obtain ⟨hx, hb, hr, hml, hown, hts, hlo, hG⟩ := C
  exact W.zret (ty := .boolean) hx hb (hr.trans hr0) (by rcases hz with rfl | rfl <;> rfl) (fun t ht hW => ⟨⟨iZ z, w, rfl, ⟨z, rfl, h⟩, by show va_P _ _ _ t.heap; rw [ht]; exact hP⟩, hS.F ht⟩) hS.2.2 hd hlo
theorem V_vret {Post : Wd → Prop} (hd : decode M.1 pc = .ok (.return_, 1)) (hr0 : M.2.2.2.1 = none) (h : Post w) : V G l M (Qv G Post) pc L [] w := by
  intro p e s m args below meth c H locs ls C hP hS hl
  obtain ⟨hx, hb, hr, hml, hown, hts, hlo, hG⟩ := C
  exact W.vret hx hb (hr.trans hr0) (fun t ht hW => ⟨⟨w, rfl, h, by show va_P _ _ _ t.heap; rw [ht]; exact hP⟩, hS.F ht⟩) hS.2.2 hd hlo
/-- a contract's start is blind for frames, and holds in the caller's world -/
theorem pc_blind (G : Gb) (avs : List Value) (w : Wd) : FrameBlind (PcOf G avs w) := fun a U g mk q => by
  obtain ⟨q0, q1, q2⟩ := q
  exact ⟨q0, gGl.same (U := U.calling g mk a) q1 rfl rfl, q2⟩
theorem pc_in {G : Gb} {avs : List Value} {w : Wd} {s : State} {H : Heap} {locs : List Loc} (hG : gGl G s) (hP : va_P (gD G) vwCl (ces G w) H) (hS : va_S (gAw G) s.heap H locs) (U : State) (hU : U.heap = H) (hW : s.WarmedH U.vm) : PcOf G avs w avs.toArray U :=
  ⟨rfl, hG.next hW (fun a h1 h2 => by rw [hU]; exact hS.2.1 a h1 h2), by rw [hU]; exact hP⟩
/-- what a call needs beside the contract: words, and room -/
def OkV (M M' : MB) (y : MethodName) (idx n : Nat) (C0 : String) : Prop := GoodIn M.2.2.2.2.1 (wsV M.2.2.1 idx C0 y M'.2.2.2.2.1) ∧ (∃ ws', M'.2.2.2.2.1 = Cond.code y M'.1 M'.2.1 M'.2.2.2.1 :: ws') ∧ (M'.2.2.2.2.2.cells = 0 ∧ M'.2.2.2.2.2.slots = 0) ∧ (y.cls = C0 ∧ y.cls ≠ "java/lang/invoke/MethodHandle" ∧ y.cls ≠ "java/lang/invoke/VarHandle" ∧ (parseMethodDescriptor y.desc).map (fun d => d.parameters.length) = some n) ∧ (M'.2.2.2.2.2.frames + 1 ≤ M.2.2.2.2.2.frames ∧ 8 + (M'.2.1 + 11) + M'.2.2.2.2.2.locals ≤ M.2.2.2.2.2.locals)
def OkS (M M' : MB) (y : MethodName) (idx n : Nat) : Prop := GoodIn M.2.2.2.2.1 (va_wsS M.2.2.1 idx y M'.2.2.2.2.1) ∧ (∃ ws', M'.2.2.2.2.1 = Cond.code y M'.1 M'.2.1 M'.2.2.2.1 :: ws') ∧ (M'.2.2.2.2.2.cells = 0 ∧ M'.2.2.2.2.2.slots = 0) ∧ (y.cls ≠ "java/lang/invoke/MethodHandle" ∧ y.cls ≠ "java/lang/invoke/VarHandle" ∧ (parseMethodDescriptor y.desc).map (fun d => d.parameters.length) = some n) ∧ (M'.2.2.2.2.2.frames + 1 ≤ M.2.2.2.2.2.frames ∧ 8 + (M'.2.1 + 11) + M'.2.2.2.2.2.locals ≤ M.2.2.2.2.2.locals)
theorem run_V {y : MethodName} {M' : MB} {idx n kk ci N : Nat} {fl : List (Option Nat)} {C0 : String} {T : u_T} {As rest : List Value} {Qa : Array Value → State → Outcome → State → Prop} (hM : Met l y M'.2.2.2.2.1 M'.2.2.2.2.2 (PcOf G (.ref (gA G kk) :: As) w) Qa 0 0 (gAw G)) (ok : OkV M M' y idx n C0) (hs : shL[kk]? = some (shO ci fl)) (hc : vwCl[ci]? = some (C0, T, N)) (hn : As.length = n) (hst : st = As.reverse ++ .ref (gA G kk) :: rest) (hrest : (rest.map fun v => v.category).sum ≤ 8) (hd : decode M.1 pc = .ok (.invokevirtual idx, 3))
    {p : Program} {e : Env} {s : State} {m : MethodId} {args : Array Value} {below : List Frame} {meth : Method} {c : Code} {H : Heap} {locs : List Loc} {ls : Array Slot} (C : Cx G M p s m args meth c) (hP : va_P (gD G) vwCl (ces G w) H) (hS : va_S (gAw G) s.heap H locs) (hl : lvL ls M.2.1 L) :
    va_Run p l e M.2.2.2.2.2 s m args below meth c H locs 0 0 0 0 (F0 m pc ls st) rest (Qa (Value.ref (gA G kk) :: As).toArray) (gAw G) := by
  obtain ⟨hx, hb, hr, hml, hown, hts, hlo, hG⟩ := C
  obtain ⟨o1, ⟨ws', o2⟩, ⟨o3, o3'⟩, o4, o5⟩ := ok
  exact va_runV (As := As) (rest := rest) ⟨hx, hb, hml, hown, hts⟩ hM (cwV n hts o1 o2 o3 o3' o4 o5) ⟨pc_blind G _ w, va_recv hG.1 hP hc (ces_of hs), fun U hU hW => pc_in hG hP hS U hU hW⟩ rfl hn hl.1 hst (lv_room hrest) hd ⟨Nat.zero_le _, Nat.zero_le _⟩
theorem run_S {y : MethodName} {M' : MB} {idx n : Nat} {As rest : List Value} {Qa : Array Value → State → Outcome → State → Prop} (hM : Met l y M'.2.2.2.2.1 M'.2.2.2.2.2 (PcOf G As w) Qa 0 0 (gAw G)) (ok : OkS M M' y idx n) (hn : As.length = n) (hst : st = As.reverse ++ rest) (hrest : (rest.map fun v => v.category).sum ≤ 8) (hd : decode M.1 pc = .ok (.invokestatic idx, 3))
    {p : Program} {e : Env} {s : State} {m : MethodId} {args : Array Value} {below : List Frame} {meth : Method} {c : Code} {H : Heap} {locs : List Loc} {ls : Array Slot} (C : Cx G M p s m args meth c) (hP : va_P (gD G) vwCl (ces G w) H) (hS : va_S (gAw G) s.heap H locs) (hl : lvL ls M.2.1 L) :
    va_Run p l e M.2.2.2.2.2 s m args below meth c H locs 0 0 0 0 (F0 m pc ls st) rest (Qa As.toArray) (gAw G) := by
  obtain ⟨hx, hb, hr, hml, hown, hts, hlo, hG⟩ := C
  obtain ⟨o1, ⟨ws', o2⟩, ⟨o3, o3'⟩, o4, o5⟩ := ok
  exact va_runS (As := As) (rest := rest) ⟨hx, hb, hml, hown, hts⟩ hM (va_cwS n hts o1 o2 o3 o3' o4 o5) ⟨pc_blind G _ w, fun U hU hW => pc_in hG hP hS U hU hW⟩ rfl hn hl.1 hst (lv_room hrest) hd ⟨Nat.zero_le _, Nat.zero_le _⟩
theorem V_of_run_i {As0 : Array Value} {rest : List Value} {Post : Int → Wd → Prop} (hr : ∀ {p : Program} {e : Env} {s : State} {m : MethodId} {args : Array Value} {below : List Frame} {meth : Method} {c : Code} {H : Heap} {locs : List Loc} {ls : Array Slot}, Cx G M p s m args meth c → va_P (gD G) vwCl (ces G w) H → va_S (gAw G) s.heap H locs → lvL ls M.2.1 L → va_Run p l e M.2.2.2.2.2 s m args below meth c H locs 0 0 0 0 (F0 m pc ls st) rest (Qi G Post As0) (gAw G))
    (k : ∀ (z : Int) (w' : Wd), Post z w' → V G l M Qc (pc + 3) L (.int (iZ z) :: rest) w') : V G l M Qc pc L st w := by
  intro p e s m args below meth c H locs ls C hP hS hl
  refine va_calli (hr C hP hS hl) hS (fun _ _ h => h) (fun _ h => h) (fun r w' t H1 locs1 ht hvm hw hB hz1 hk1 hS1 => ?_)
  obtain ⟨z, rfl, hpost⟩ := hw
  rw [ht] at hB
  exact k z w' hpost p e s m args below meth c H1 locs1 ls C hB hS1 hl
theorem V_of_run_v {As0 : Array Value} {rest : List Value} {Post : Wd → Prop} (hr : ∀ {p : Program} {e : Env} {s : State} {m : MethodId} {args : Array Value} {below : List Frame} {meth : Method} {c : Code} {H : Heap} {locs : List Loc} {ls : Array Slot}, Cx G M p s m args meth c → va_P (gD G) vwCl (ces G w) H → va_S (gAw G) s.heap H locs → lvL ls M.2.1 L → va_Run p l e M.2.2.2.2.2 s m args below meth c H locs 0 0 0 0 (F0 m pc ls st) rest (Qv G Post As0) (gAw G))
    (k : ∀ (w' : Wd), Post w' → V G l M Qc (pc + 3) L rest w') : V G l M Qc pc L st w := by
  intro p e s m args below meth c H locs ls C hP hS hl
  refine va_callv (hr C hP hS hl) hS (fun _ _ h => h) (fun _ h => h) (fun w' t H1 locs1 ht hvm hw hB hz1 hk1 hS1 => ?_)
  rw [ht] at hB
  exact k w' hw p e s m args below meth c H1 locs1 ls C hB hS1 hl
variable {y : MethodName} {M' : MB} {idx kk ci N : Nat} {fl : List (Option Nat)} {C0 : String} {T : u_T} {rest : List Value} {v1 v2 v3 v4 : Value}
theorem V_iV0 {Post : Int → Wd → Prop} (hd : decode M.1 pc = .ok (.invokevirtual idx, 3)) (ok : OkV M M' y idx 0 C0) (hs : shL[kk]? = some (shO ci fl)) (hc : vwCl[ci]? = some (C0, T, N)) (hrest : (rest.map fun v => v.category).sum ≤ 8) (hM : Ci G l y M' [.ref (gA G kk)] w Post) (k : ∀ (z : Int) (w' : Wd), Post z w' → V G l M Qc (pc + 3) L (.int (iZ z) :: rest) w') : V G l M Qc pc L (.ref (gA G kk) :: rest) w := V_of_run_i (fun C hP hS hl => run_V (As := []) hM ok hs hc rfl rfl hrest hd C hP hS hl) k
theorem V_iV1 {Post : Int → Wd → Prop} (hd : decode M.1 pc = .ok (.invokevirtual idx, 3)) (ok : OkV M M' y idx 1 C0) (hs : shL[kk]? = some (shO ci fl)) (hc : vwCl[ci]? = some (C0, T, N)) (hrest : (rest.map fun v => v.category).sum ≤ 8) (hM : Ci G l y M' [.ref (gA G kk), v1] w Post) (k : ∀ (z : Int) (w' : Wd), Post z w' → V G l M Qc (pc + 3) L (.int (iZ z) :: rest) w') : V G l M Qc pc L (v1 :: .ref (gA G kk) :: rest) w := V_of_run_i (fun C hP hS hl => run_V (As := [v1]) hM ok hs hc rfl rfl hrest hd C hP hS hl) k
theorem V_iV2 {Post : Int → Wd → Prop} (hd : decode M.1 pc = .ok (.invokevirtual idx, 3)) (ok : OkV M M' y idx 2 C0) (hs : shL[kk]? = some (shO ci fl)) (hc : vwCl[ci]? = some (C0, T, N)) (hrest : (rest.map fun v => v.category).sum ≤ 8) (hM : Ci G l y M' [.ref (gA G kk), v1, v2] w Post) (k : ∀ (z : Int) (w' : Wd), Post z w' → V G l M Qc (pc + 3) L (.int (iZ z) :: rest) w') : V G l M Qc pc L (v2 :: v1 :: .ref (gA G kk) :: rest) w := V_of_run_i (fun C hP hS hl => run_V (As := [v1, v2]) hM ok hs hc rfl rfl hrest hd C hP hS hl) k
theorem V_iV3 {Post : Int → Wd → Prop} (hd : decode M.1 pc = .ok (.invokevirtual idx, 3)) (ok : OkV M M' y idx 3 C0) (hs : shL[kk]? = some (shO ci fl)) (hc : vwCl[ci]? = some (C0, T, N)) (hrest : (rest.map fun v => v.category).sum ≤ 8) (hM : Ci G l y M' [.ref (gA G kk), v1, v2, v3] w Post) (k : ∀ (z : Int) (w' : Wd), Post z w' → V G l M Qc (pc + 3) L (.int (iZ z) :: rest) w') : V G l M Qc pc L (v3 :: v2 :: v1 :: .ref (gA G kk) :: rest) w := V_of_run_i (fun C hP hS hl => run_V (As := [v1, v2, v3]) hM ok hs hc rfl rfl hrest hd C hP hS hl) k
theorem V_iV4 {Post : Int → Wd → Prop} (hd : decode M.1 pc = .ok (.invokevirtual idx, 3)) (ok : OkV M M' y idx 4 C0) (hs : shL[kk]? = some (shO ci fl)) (hc : vwCl[ci]? = some (C0, T, N)) (hrest : (rest.map fun v => v.category).sum ≤ 8) (hM : Ci G l y M' [.ref (gA G kk), v1, v2, v3, v4] w Post) (k : ∀ (z : Int) (w' : Wd), Post z w' → V G l M Qc (pc + 3) L (.int (iZ z) :: rest) w') : V G l M Qc pc L (v4 :: v3 :: v2 :: v1 :: .ref (gA G kk) :: rest) w := V_of_run_i (fun C hP hS hl => run_V (As := [v1, v2, v3, v4]) hM ok hs hc rfl rfl hrest hd C hP hS hl) k
theorem V_vV0 {Post : Wd → Prop} (hd : decode M.1 pc = .ok (.invokevirtual idx, 3)) (ok : OkV M M' y idx 0 C0) (hs : shL[kk]? = some (shO ci fl)) (hc : vwCl[ci]? = some (C0, T, N)) (hrest : (rest.map fun v => v.category).sum ≤ 8) (hM : Cv G l y M' [.ref (gA G kk)] w Post) (k : ∀ w' : Wd, Post w' → V G l M Qc (pc + 3) L rest w') : V G l M Qc pc L (.ref (gA G kk) :: rest) w := V_of_run_v (fun C hP hS hl => run_V (As := []) hM ok hs hc rfl rfl hrest hd C hP hS hl) k
theorem V_vV1 {Post : Wd → Prop} (hd : decode M.1 pc = .ok (.invokevirtual idx, 3)) (ok : OkV M M' y idx 1 C0) (hs : shL[kk]? = some (shO ci fl)) (hc : vwCl[ci]? = some (C0, T, N)) (hrest : (rest.map fun v => v.category).sum ≤ 8) (hM : Cv G l y M' [.ref (gA G kk), v1] w Post) (k : ∀ w' : Wd, Post w' → V G l M Qc (pc + 3) L rest w') : V G l M Qc pc L (v1 :: .ref (gA G kk) :: rest) w := V_of_run_v (fun C hP hS hl => run_V (As := [v1]) hM ok hs hc rfl rfl hrest hd C hP hS hl) k
theorem V_vV2 {Post : Wd → Prop} (hd : decode M.1 pc = .ok (.invokevirtual idx, 3)) (ok : OkV M M' y idx 2 C0) (hs : shL[kk]? = some (shO ci fl)) (hc : vwCl[ci]? = some (C0, T, N)) (hrest : (rest.map fun v => v.category).sum ≤ 8) (hM : Cv G l y M' [.ref (gA G kk), v1, v2] w Post) (k : ∀ w' : Wd, Post w' → V G l M Qc (pc + 3) L rest w') : V G l M Qc pc L (v2 :: v1 :: .ref (gA G kk) :: rest) w := V_of_run_v (fun C hP hS hl => run_V (As := [v1, v2]) hM ok hs hc rfl rfl hrest hd C hP hS hl) k
theorem V_vV3 {Post : Wd → Prop} (hd : decode M.1 pc = .ok (.invokevirtual idx, 3)) (ok : OkV M M' y idx 3 C0) (hs : shL[kk]? = some (shO ci fl)) (hc : vwCl[ci]? = some (C0, T, N)) (hrest : (rest.map fun v => v.category).sum ≤ 8) (hM : Cv G l y M' [.ref (gA G kk), v1, v2, v3] w Post) (k : ∀ w' : Wd, Post w' → V G l M Qc (pc + 3) L rest w') : V G l M Qc pc L (v3 :: v2 :: v1 :: .ref (gA G kk) :: rest) w := V_of_run_v (fun C hP hS hl => run_V (As := [v1, v2, v3]) hM ok hs hc rfl rfl hrest hd C hP hS hl) k
theorem V_vV4 {Post : Wd → Prop} (hd : decode M.1 pc = .ok (.invokevirtual idx, 3)) (ok : OkV M M' y idx 4 C0) (hs : shL[kk]? = some (shO ci fl)) (hc : vwCl[ci]? = some (C0, T, N)) (hrest : (rest.map fun v => v.category).sum ≤ 8) (hM : Cv G l y M' [.ref (gA G kk), v1, v2, v3, v4] w Post) (k : ∀ w' : Wd, Post w' → V G l M Qc (pc + 3) L rest w') : V G l M Qc pc L (v4 :: v3 :: v2 :: v1 :: .ref (gA G kk) :: rest) w := V_of_run_v (fun C hP hS hl => run_V (As := [v1, v2, v3, v4]) hM ok hs hc rfl rfl hrest hd C hP hS hl) k
theorem V_iS1 {Post : Int → Wd → Prop} (hd : decode M.1 pc = .ok (.invokestatic idx, 3)) (ok : OkS M M' y idx 1) (hrest : (rest.map fun v => v.category).sum ≤ 8) (hM : Ci G l y M' [v1] w Post) (k : ∀ (z : Int) (w' : Wd), Post z w' → V G l M Qc (pc + 3) L (.int (iZ z) :: rest) w') : V G l M Qc pc L (v1 :: rest) w := V_of_run_i (fun C hP hS hl => run_S (As := [v1]) hM ok rfl rfl hrest hd C hP hS hl) k
theorem V_iS3 {Post : Int → Wd → Prop} (hd : decode M.1 pc = .ok (.invokestatic idx, 3)) (ok : OkS M M' y idx 3) (hrest : (rest.map fun v => v.category).sum ≤ 8) (hM : Ci G l y M' [v1, v2, v3] w Post) (k : ∀ (z : Int) (w' : Wd), Post z w' → V G l M Qc (pc + 3) L (.int (iZ z) :: rest) w') : V G l M Qc pc L (v3 :: v2 :: v1 :: rest) w := V_of_run_i (fun C hP hS hl => run_S (As := [v1, v2, v3]) hM ok rfl rfl hrest hd C hP hS hl) k
/-- Math.min -/
theorem V_min {a b : Int} (hd : decode M.1 pc = .ok (.invokestatic idx, 3)) (ha : inR a) (hb : inR b) (h1 : Cond.methodLink M.2.2.1 idx Lib.Math.min.name ∈ M.2.2.2.2.1) (h2 : Cond.static Lib.Math.min.name ∈ M.2.2.2.2.1) (h3 : Cond.initialized "java/lang/Math" ∈ M.2.2.2.2.1) (h4 : Cond.code Lib.Math.min.name Lib.Math.min.code 2 (some .int) ∈ M.2.2.2.2.1) (hf : 1 ≤ M.2.2.2.2.2.frames) (hlo : (rest.map fun v => v.category).sum + 13 ≤ M.2.2.2.2.2.locals)
    (k : V G l M Qc (pc + 3) L (.int (iZ (min a b)) :: rest) w) : V G l M Qc pc L (.int (iZ b) :: .int (iZ a) :: rest) w := by
  intro p e s m args below meth c H locs ls C hP hS hl
  have C2 := C
  obtain ⟨hx, hb', hr, hml, hown, hts, hlk, hG⟩ := C2
  refine va_mmin hx hb' (hml.trans hl.1.symm) hown (hts _ h1) (hts _ h2) (hts _ h3) (hts _ h4) hf hlo (Nat.zero_le _) (Nat.zero_le _) hd ?_
  have e0 : (if iZ b < iZ a then iZ b else iZ a) = iZ (min a b) := by
    by_cases h : b < a
    · rw [if_pos ((iZ_lt hb ha).mpr h), Int.min_eq_right (Int.le_of_lt h)]
    · rw [if_neg (fun z => h ((iZ_lt hb ha).mp z)), Int.min_eq_left (Int.not_lt.mp h)]
  rw [e0]
  exact k p e s m args below meth c H locs ls C hP hS hl
/-- n elements from the place 0 on of array a0 into array a1 -/
def cpA (w : Wd) (a0 a1 : Nat) (n : Int) : Wd := fun k j => if k = a1 ∧ 0 ≤ j ∧ j < n then w a0 j else w k j
/-- System.arraycopy of int arrays, from place 0 to place 0 -/
theorem V_copy {a0 a1 n0 n1 : Nat} {n : Int} (hd : decode M.1 pc = .ok (.invokestatic idx, 3)) (hs0 : shL[a0]? = some (shA 0 n0)) (hs1 : shL[a1]? = some (shA 0 n1)) (hn : 0 ≤ n ∧ n ≤ (n0 : Int) ∧ n ≤ (n1 : Int)) (h1 : Cond.methodLink M.2.2.1 idx arraycopyName ∈ M.2.2.2.2.1) (h2 : Cond.native arraycopyName ∈ M.2.2.2.2.1) (h3 : Cond.static arraycopyName ∈ M.2.2.2.2.1) (h4 : Cond.initialized "java/lang/System" ∈ M.2.2.2.2.1) (hf : 1 ≤ M.2.2.2.2.2.frames) (hlo : (rest.map fun v => v.category).sum + (nativeFrameWords "java/lang/System" "arraycopy" 5 + 11) ≤ M.2.2.2.2.2.locals)
    (k : V G l M Qc (pc + 3) L rest (cpA w a0 a1 n)) : V G l M Qc pc L (.int (iZ n) :: .int (iZ 0) :: .ref (gA G a1) :: .int (iZ 0) :: .ref (gA G a0) :: rest) w := by
  intro p e s m args below meth c H locs ls C hP hS hl
  have C2 := C
  obtain ⟨hx, hb', hr, hml, hown, hts, hlk, hG⟩ := C2
  have g0 := sh_n hs0
  have e0 : (iZ 0).toNatClampNeg = 0 := by rw [iZ_clamp (by omega)]; rfl
  have e1 : (iZ n).toNatClampNeg = n.toNat := iZ_clamp (by omega)
  refine va_copyi (D := gD G) (ty := .int) hx hb' (hml.trans hl.1.symm) hown (hts _ h1) (hts _ h2) (hts _ h3) (hts _ h4) hG.1 hP (ces_D hG.2.1 w) hS a0 a1 0 0 (ces_of hs0) (ces_of hs1) rfl rfl rfl (sp := iZ 0) (dp := iZ 0) (n := iZ n) (by decide) (by decide) ?_ ?_ ?_ (fun i _ => rfl) hf hlo hd (fun H1 locs1 hP1 _ hS1 => k p e s m args below meth c H1 locs1 ls C ?_ hS1 hl)
  · rw [iZ_0, iZ_lt (by omega) (by omega)]; omega
  · rw [e0, e1]; omega
  · rw [e0, e1]; omega
  · rw [e0, e1, ces_putA hs1 (w' := cpA w a0 a1 n) (fun j => ?_) (fun a b h => ?_)] at hP1
    · exact hP1
    · unfold va_cpy cpA
      by_cases h : j < n.toNat
      · rw [if_pos (by omega), if_pos (by omega)]
        simp
      · rw [if_neg (by omega), if_neg (by omega)]
    · unfold cpA
      rw [if_neg (by rintro ⟨rfl, -⟩; exact h rfl)]
/-- getstatic OVER, in TreeDebts itself -/
theorem V_over (hd : decode M.1 pc = .ok (.getstatic idx, 3)) (h1 : Cond.fieldLink M.2.2.1 idx "TreeDebts" "OVER" "[I" ∈ M.2.2.2.2.1) (k : V G l M Qc (pc + 3) L (.ref (gO G) :: rest) w) : V G l M Qc pc L rest w := by
  intro p e s m args below meth c H locs ls C hP hS hl
  have C2 := C
  obtain ⟨hx, hb', hr, hml, hown, hts, hlk, hG⟩ := C2
  exact va_gets hx hb' hG.2.2.1 hS hown (hts _ h1) (fun _ h => h) hd (k p e s m args below meth c H locs ls C hP hS hl)
/-- getstatic OVER, in Told, its nest mate -/
theorem V_overN (ho : M.2.2.1 = RX3) (hd : decode M.1 pc = .ok (.getstatic 49, 3)) (k : V G l M Qc (pc + 3) L (.ref (gO G) :: rest) w) : V G l M Qc pc L rest w := by
  intro p e s m args below meth c H locs ls C hP hS hl
  have C2 := C
  obtain ⟨hx, hb', hr, hml, hown, hts, hlk, hG⟩ := C2
  rw [ho] at hown
  exact va_getsN hx hb' hG.2.2.1 hS hown (va_Nw.use rfl hG.2.2.2.2.1) (fun _ h => h) hd (k p e s m args below meth c H locs ls C hP hS hl)
theorem V_overLen (hd : decode M.1 pc = .ok (.arraylength, 1)) (k : V G l M Qc (pc + 1) L (.int (iZ 5) :: rest) w) : V G l M Qc pc L (.ref (gO G) :: rest) w := by
  intro p e s m args below meth c H locs ls C hP hS hl
  have C2 := C
  obtain ⟨hx, hb', hr, hml, hown, hts, hlk, hG⟩ := C2
  exact va_tlen hx hb' hG.2.2.2.1 hS (v := iZ 5) rfl hd (k p e s m args below meth c H locs ls C hP hS hl)
theorem V_overLd {i : Int} (hd : decode M.1 pc = .ok (.iaload, 1)) (hi : 0 ≤ i ∧ i < 5) (k : V G l M Qc (pc + 1) L (.int (iZ (ovL.getD i.toNat 0)) :: rest) w) : V G l M Qc pc L (.int (iZ i) :: .ref (gO G) :: rest) w := by
  intro p e s m args below meth c H locs ls C hP hS hl
  have C2 := C
  obtain ⟨hx, hb', hr, hml, hown, hts, hlk, hG⟩ := C2
  refine va_ti hx hb' hG.2.2.2.1 hS (iZ_in (n := 5) hi (by omega)) (v := .int (iZ (ovL.getD i.toNat 0))) ?_ hd (k p e s m args below meth c H locs ls C hP hS hl)
  rw [iZ_clamp (by omega)]
/-- a word of Text's constants -/
theorem V_word {i q : Nat} (ho : M.2.2.1 = RX2) (hd : decode M.1 pc = .ok (.ldc q, 2)) (hi : i < 8) (hq : scIx.getD i 0 = q) (k : V G l M Qc (pc + 2) L (.ref (gK G i) :: rest) w) : V G l M Qc pc L rest w := by
  intro p e s m args below meth c H locs ls C hP hS hl
  have C2 := C
  obtain ⟨hx, hb', hr, hml, hown, hts, hlk, hG⟩ := C2
  rw [ho] at hown
  subst hq
  exact va_ldcS hx hb' hown (hG.2.2.2.2.2.2.1 i hi) hd (k p e s m args below meth c H locs ls C hP hS hl)
end VC
end
section
/-! ===== 07 the wood as lists: what days do to it ===== -/
/-- a loan: of which tree, branches, owed, due, 1 if it failed -/
abbrev Ln : Type := Int × Int × Int × Int × Int
/-- the day, how many failed, branches, fates, loans -/
abbrev AS : Type := Int × Int × List Int × List Int × List Ln
/-- n cells of the world from place o on of cell k, as a list -/
def gl (w : Wd) (k : Nat) (o : Int) (n : Nat) : List Int := (List.range n).map (fun i : Nat => w k (o + (i : Int)))
theorem gl_len (w : Wd) (k : Nat) (o : Int) (n : Nat) : (gl w k o n).length = n := by simp [gl]
theorem gl_at {w : Wd} {k : Nat} {o : Int} {n i : Nat} (h : i < n) : (gl w k o n)[i]? = some (w k (o + (i : Int))) := by
  simp [gl, h]
theorem gl_D {w : Wd} {k : Nat} {o : Int} {n : Nat} {t : Int} (h0 : 0 ≤ t) (h : t < (n : Int)) : (gl w k o n).getD t.toNat 0 = w k (o + t) := by
  have h1 : t.toNat < n := by omega
  rw [List.getD_eq_getElem?_getD, gl_at h1]
  simp only [Option.getD_some]
  congr 1
  omega
theorem gl_eq {w w' : Wd} {k k' : Nat} {o o' : Int} {n : Nat} (h : ∀ i : Int, 0 ≤ i → i < (n : Int) → w k (o + i) = w' k' (o' + i)) : gl w k o n = gl w' k' o' n := by
  unfold gl
  apply List.map_congr_left
  intro i hi
  exact h i (by omega) (by have := List.mem_range.mp hi; omega)
/-- what is owed, grown once -/
def grw (kind rate owed lent : Int) : Int := min (owed + (if kind = 2 then owed * (rate / 2) / 100 else if kind = 3 then rate * lent else owed * rate / 100)) 1000000
def grL (K R : List Int) (x : Ln) : Ln := (x.1, x.2.1, grw (K.getD x.1.toNat 0) (R.getD x.1.toNat 0) x.2.2.1 x.2.1, x.2.2.2.1, x.2.2.2.2)
/-- the first of the loans that are due first -/
def fdF (best : Nat) (bd : Int) : Nat → List Ln → Nat
  | _, [] => best
  | i, x :: r => if x.2.2.2.1 < bd then fdF i x.2.2.2.1 (i + 1) r else fdF best bd (i + 1) r
def fdL (l : List Ln) : Nat := match l with
  | [] => 0
  | x :: r => fdF 0 x.2.2.2.1 1 r
theorem fdF_lt (best : Nat) (bd : Int) : ∀ (r : List Ln) (i : Nat), best < i → fdF best bd i r < i + r.length
  | [], i, h => by simp [fdF]; omega
  | x :: r, i, h => by
    unfold fdF
    split
    · have := fdF_lt i x.2.2.2.1 r (i + 1) (by omega)
      simp only [List.length_cons]; omega
    · have := fdF_lt best bd r (i + 1) (by omega)
      simp only [List.length_cons]; omega
theorem fdL_lt {l : List Ln} (h : l ≠ []) : fdL l < l.length := by
  cases l with
  | nil => exact absurd rfl h
  | cons x r =>
    have := fdF_lt 0 x.2.2.2.1 r 1 (by omega)
    simp only [fdL, List.length_cons]; omega
def ln0 : Ln := (0, 0, 0, 0, 0)
/-- one loan is worked at -/
def wk1 (left : Int) (hl : List Int × List Ln) : Int × (List Int × List Ln) :=
  let k := fdL hl.2
  let x := hl.2.getD k ln0
  let by_ := min left x.2.2.1
  (left - by_, if x.2.2.1 - by_ = 0 then (hl.1.set x.1.toNat (min (hl.1.getD x.1.toNat 0 + x.2.1) 99), hl.2.eraseIdx k) else (hl.1, hl.2.set k (x.1, x.2.1, x.2.2.1 - by_, x.2.2.2.1, x.2.2.2.2)))
/-- work, as many rounds as there may be -/
def wkN : Nat → Int → List Int × List Ln → List Int × List Ln
  | 0, _, hl => hl
  | n + 1, left, hl => if 0 < left ∧ hl.2 ≠ [] then wkN n (wk1 left hl).1 (wk1 left hl).2 else hl
theorem wkN_stop {left : Int} {hl : List Int × List Ln} (h : ¬ (0 < left ∧ hl.2 ≠ [])) : ∀ n, wkN n left hl = hl
  | 0 => rfl
  | n + 1 => by rw [wkN, if_neg h]
/-- a round pays a loan off, or nothing is left to work -/
theorem wk1_down {left : Int} {hl : List Int × List Ln} (h2 : hl.2 ≠ []) : (wk1 left hl).2.2.length + 1 = hl.2.length ∨ (¬ 0 < (wk1 left hl).1 ∧ (wk1 left hl).2.2.length = hl.2.length) := by
  have hk := fdL_lt h2
  unfold wk1
  dsimp only
  split
  · left
    rw [List.length_eraseIdx_of_lt hk]
    omega
  · rename_i hne
    right
    refine ⟨?_, by simp⟩
    omega
theorem wkN_more : ∀ (n : Nat) (left : Int) (hl : List Int × List Ln), hl.2.length ≤ n → wkN n left hl = wkN hl.2.length left hl
  | 0, left, hl, h => by rw [show hl.2.length = 0 by omega]
  | n + 1, left, hl, h => by
    by_cases hc : 0 < left ∧ hl.2 ≠ []
    · obtain ⟨m, hm⟩ : ∃ m, hl.2.length = m + 1 := ⟨hl.2.length - 1, by have := List.length_pos_iff.mpr hc.2; omega⟩
      rw [hm, wkN, wkN, if_pos hc, if_pos hc]
      rcases wk1_down (left := left) hc.2 with h1 | ⟨h1, h2⟩
      · rw [wkN_more n _ _ (by omega), show m = (wk1 left hl).2.2.length by omega]
      · rw [wkN_stop (fun z => h1 z.1), wkN_stop (fun z => h1 z.1)]
    · rw [wkN_stop hc, wkN_stop hc]
/-- loans that are due and have not failed yet fail -/
def flP (day : Int) (x : Ln) : Bool := decide (x.2.2.2.1 ≤ day ∧ x.2.2.2.2 = 0)
def flL (day : Int) (x : Ln) : Ln := if flP day x then (x.1, x.2.1, x.2.2.1, x.2.2.2.1, 1) else x
/-- one day -/
def dyS (K R : List Int) (hands : Int) (a : AS) : AS :=
  let r := wkN 12 (hands * 100) (a.2.2.1, a.2.2.2.2.map (grL K R))
  (a.1 + 1, a.2.1 + ((r.2.countP (flP a.1) : Nat) : Int), r.1, a.2.2.2.1, r.2.map (flL a.1))
def dysS (K R : List Int) (hands : Int) : Nat → AS → AS
  | 0, a => a
  | n + 1, a => dysS K R hands n (dyS K R hands a)
/-- owed to a tree, in all -/
def owL (t : Int) : List Ln → Int
  | [] => 0
  | x :: r => (if x.1 = t then x.2.2.1 else 0) + owL t r
def oaL : List Ln → Int
  | [] => 0
  | x :: r => x.2.2.1 + oaL r
/-- the class's State at b, the reference's row from o on -/
def cLn (w : Wd) (b : Nat) (i : Nat) : Ln := (w (b + 3) (i : Int), w (b + 4) (i : Int), w (b + 5) (i : Int), w (b + 6) (i : Int), w (b + 7) (i : Int))
def cLs (w : Wd) (b : Nat) : List Ln := (List.range (w b 3).toNat).map (cLn w b)
def cAS (w : Wd) (b : Nat) : AS := (w b 0, w b 9, gl w (b + 1) 0 6, gl w (b + 2) 0 6, cLs w b)
def mLn (w : Wd) (o : Int) (i : Nat) : Ln := (w 72 (o + 15 + 5 * (i : Int)), w 72 (o + 16 + 5 * (i : Int)), w 72 (o + 17 + 5 * (i : Int)), w 72 (o + 18 + 5 * (i : Int)), w 72 (o + 19 + 5 * (i : Int)))
def mLs (w : Wd) (o : Int) : List Ln := (List.range (w 72 (o + 14)).toNat).map (mLn w o)
def mAS (w : Wd) (o : Int) : AS := (w 72 o, w 72 (o + 1), gl w 72 (o + 2) 6, gl w 72 (o + 8) 6, mLs w o)
/-- a list made by places, from place i on -/
theorem rg_drop {α : Type} (g : Nat → α) {n i : Nat} (h : i < n) : ((List.range n).map g).drop i = g i :: ((List.range n).map g).drop (i + 1) := by
  have hl : i < ((List.range n).map g).length := by simpa using h
  rw [List.drop_eq_getElem_cons hl]
  simp
theorem rg_end {α : Type} (g : Nat → α) (n : Nat) : ((List.range n).map g).drop n = [] := by
  apply List.drop_eq_nil_of_le
  simp
/-- a sound loan, a sound state -/
def okLn (x : Ln) : Prop := (0 ≤ x.1 ∧ x.1 < 6) ∧ (1 ≤ x.2.1 ∧ x.2.1 ≤ 99) ∧ (0 < x.2.2.1 ∧ x.2.2.1 ≤ 1000000) ∧ (0 ≤ x.2.2.2.1 ∧ x.2.2.2.1 ≤ 20000) ∧ (x.2.2.2.2 = 0 ∨ x.2.2.2.2 = 1)
def okAS (c : Int) (a : AS) : Prop := (0 ≤ a.1 ∧ a.1 ≤ 20000) ∧ (0 ≤ a.2.1 ∧ a.2.1 + ((a.2.2.2.2.countP (fun x => decide (x.2.2.2.2 = 0)) : Nat) : Int) ≤ c) ∧ (a.2.2.1.length = 6 ∧ ∀ x ∈ a.2.2.1, 0 ≤ x ∧ x ≤ 99) ∧ (a.2.2.2.1.length = 6 ∧ ∀ x ∈ a.2.2.2.1, 0 ≤ x ∧ x ≤ 2) ∧ a.2.2.2.2.length ≤ 12 ∧ ∀ x ∈ a.2.2.2.2, okLn x
end
section
theorem dummy_end : True := trivial
end

/-! ===== 20 Strings that are constants, bitCount ===== -/
section VJ
variable {G : Gb} {l : Launch} {M : MB} {Qc : Array Value → State → Outcome → State → Prop} {pc : Nat} {L : List (Option Value)} {rest : List Value} {w : Wd} {idx i : Nat}
theorem V_sV (hd : decode M.1 pc = .ok (.getfield idx, 3)) (hi : i < 8) (h1 : Cond.fieldLink M.2.2.1 idx "java/lang/String" "value" "[B" ∈ M.2.2.2.2.1) (k : V G l M Qc (pc + 3) L (.ref (gV G i) :: rest) w) : V G l M Qc pc L (.ref (gK G i) :: rest) w := by
  intro p e s m args below meth c H locs ls C hP hS hl
  have C2 := C
  obtain ⟨hx, hb', hr, hml, hown, hts, hlk, hG⟩ := C2
  exact vk_getf hx hb' (hG.2.2.2.2.2.1.1 i hi).2.2.1 hS hown (hts _ h1) (fun _ h => h) hd (k p e s m args below meth c H locs ls C hP hS hl)
theorem V_sC (hd : decode M.1 pc = .ok (.getfield idx, 3)) (hi : i < 8) (h1 : Cond.fieldLink M.2.2.1 idx "java/lang/String" "coder" "B" ∈ M.2.2.2.2.1) (k : V G l M Qc (pc + 3) L (.int (iZ 0) :: rest) w) : V G l M Qc pc L (.ref (gK G i) :: rest) w := by
  intro p e s m args below meth c H locs ls C hP hS hl
  have C2 := C
  obtain ⟨hx, hb', hr, hml, hown, hts, hlk, hG⟩ := C2
  exact vk_getf hx hb' (hG.2.2.2.2.2.1.1 i hi).2.1 hS hown (hts _ h1) (fun _ h => h) hd (k p e s m args below meth c H locs ls C hP hS hl)
theorem V_sL (hd : decode M.1 pc = .ok (.arraylength, 1)) (hi : i < 8) (k : V G l M Qc (pc + 1) L (.int (iZ ((scLen.getD i 0 : Nat) : Int)) :: rest) w) : V G l M Qc pc L (.ref (gV G i) :: rest) w := by
  intro p e s m args below meth c H locs ls C hP hS hl
  have C2 := C
  obtain ⟨hx, hb', hr, hml, hown, hts, hlk, hG⟩ := C2
  exact va_tlen hx hb' (hG.2.2.2.2.2.1.1 i hi).2.2.2 hS (v := iZ ((scLen.getD i 0 : Nat) : Int)) (by rw [iZ_nI (by omega)]; rfl) hd (k p e s m args below meth c H locs ls C hP hS hl)
def scC (i : Nat) (j : Int) : Int := ((scByt.getD i []).getD j.toNat 0).toInt
theorem V_sB {j : Int} (hd : decode M.1 pc = .ok (.baload, 1)) (hi : i < 8) (hj : 0 ≤ j ∧ j < ((scLen.getD i 0 : Nat) : Int)) (hn : scLen.getD i 0 ≤ 2000) (k : V G l M Qc (pc + 1) L (.int (iZ (scC i j)) :: rest) w) : V G l M Qc pc L (.int (iZ j) :: .ref (gV G i) :: rest) w := by
  intro p e s m args below meth c H locs ls C hP hS hl
  have C2 := C
  obtain ⟨hx, hb', hr, hml, hown, hts, hlk, hG⟩ := C2
  refine va_tb hx hb' (hG.2.2.2.2.2.1.1 i hi).2.2.2 hS (iZ_in hj hn) (v := .int (iZ (scC i j))) ?_ hd (k p e s m args below meth c H locs ls C hP hS hl)
  rw [iZ_clamp (by omega)]
  unfold scC
  rw [iZ_self]
theorem V_comp (hd : decode M.1 pc = .ok (.getstatic idx, 3)) (h1 : Cond.fieldLink M.2.2.1 idx "java/lang/String" "COMPACT_STRINGS" "Z" ∈ M.2.2.2.2.1) (k : V G l M Qc (pc + 3) L (.int (iZ 1) :: rest) w) : V G l M Qc pc L rest w := by
  intro p e s m args below meth c H locs ls C hP hS hl
  have C2 := C
  obtain ⟨hx, hb', hr, hml, hown, hts, hlk, hG⟩ := C2
  exact va_gets hx hb' hG.2.2.2.2.2.2.2.1 hS hown (hts _ h1) (fun _ h => h) hd (k p e s m args below meth c H locs ls C hP hS hl)
theorem V_sio (hd : decode M.1 pc = .ok (.getstatic idx, 3)) (h1 : Cond.fieldLink M.2.2.1 idx "jdk/internal/util/Preconditions" "SIOOBE_FORMATTER" "Ljava/util/function/BiFunction;" ∈ M.2.2.2.2.1) (k : ∀ v : Value, (v = .null ∨ ∃ t, v = .ref t) → V G l M Qc (pc + 3) L (v :: rest) w) : V G l M Qc pc L rest w := by
  intro p e s m args below meth c H locs ls C hP hS hl
  have C2 := C
  obtain ⟨hx, hb', hr, hml, hown, hts, hlk, hG⟩ := C2
  rcases hG.2.2.2.2.2.2.2.2 with hz | ⟨t, hz⟩
  · exact va_gets hx hb' hz hS hown (hts _ h1) (fun _ h => h) hd (k _ (Or.inl rfl) p e s m args below meth c H locs ls C hP hS hl)
  · exact va_gets hx hb' hz hS hown (hts _ h1) (fun _ h => h) hd (k _ (Or.inr ⟨t, rfl⟩) p e s m args below meth c H locs ls C hP hS hl)
theorem V_i2c {a : Int} (hd : decode M.1 pc = .ok (.i2c, 1)) (ha : 0 ≤ a ∧ a ≤ 65535) (k : V G l M Qc (pc + 1) L (.int (iZ a) :: rest) w) : V G l M Qc pc L (.int (iZ a) :: rest) w := by
  intro p e s m args below meth c H locs ls C hP hS hl
  refine lv_i2c (v := iZ a) C.1 C.2.1 hd ?_ (k p e s m args below meth c H locs ls C hP hS hl)
  rw [iZ_nI ha.1, pk_char, pk_tn (by omega), Nat.mod_eq_of_lt (by omega)]
def bUshr (a b : Int) : Int := ((iZ a).toUInt32 >>> ((iZ b).toUInt32 &&& Int32.toUInt32 31)).toInt32.toInt
theorem V_iushr {a b : Int} (hd : decode M.1 pc = .ok (.iushr, 1)) (k : V G l M Qc (pc + 1) L (.int (iZ (bUshr a b)) :: rest) w) : V G l M Qc pc L (.int (iZ b) :: .int (iZ a) :: rest) w :=
  fun p e s m args below meth c H locs ls C hP hS hl => lv_iushr C.1 C.2.1 hd (iZ_self _).symm (k p e s m args below meth c H locs ls C hP hS hl)
/-- an answer that is a byte, a char .. -/
theorem V_nret {z : Int} {ty : FieldType} {Post : Int → Wd → Prop} (hd : decode M.1 pc = .ok (.ireturn, 1)) (hr0 : M.2.2.2.1 = some ty) (hz : narrow ty (.int (iZ z)) = .int (iZ z)) (h : Post z w) : V G l M (Qi G Post) pc L [.int (iZ z)] w := by
  intro p e s m args below meth c H locs ls C hP hS hl
  obtain ⟨hx, hb, hr, hml, hown, hts, hlo, hG⟩ := C
  exact W.zret (ty := ty) hx hb (hr.trans hr0) hz (fun t ht hW => ⟨⟨iZ z, w, rfl, ⟨z, rfl, h⟩, by show va_P _ _ _ t.heap; rw [ht]; exact hP⟩, hS.F ht⟩) hS.2.2 hd hlo
theorem run_K {y : MethodName} {M' : MB} {n : Nat} {st As : List Value} {Qa : Array Value → State → Outcome → State → Prop} (hM : Met l y M'.2.2.2.2.1 M'.2.2.2.2.2 (PcOf G (.ref (gK G i) :: As) w) Qa 0 0 (gAw G)) (ok : OkV M M' y idx n "java/lang/String") (hi : i < 8) (hn : As.length = n) (hst : st = As.reverse ++ .ref (gK G i) :: rest) (hrest : (rest.map fun v => v.category).sum ≤ 8) (hd : decode M.1 pc = .ok (.invokevirtual idx, 3))
    {p : Program} {e : Env} {s : State} {m : MethodId} {args : Array Value} {below : List Frame} {meth : Method} {c : Code} {H : Heap} {locs : List Loc} {ls : Array Slot} (C : Cx G M p s m args meth c) (hP : va_P (gD G) vwCl (ces G w) H) (hS : va_S (gAw G) s.heap H locs) (hl : lvL ls M.2.1 L) :
    va_Run p l e M.2.2.2.2.2 s m args below meth c H locs 0 0 0 0 (F0 m pc ls st) rest (Qa (Value.ref (gK G i) :: As).toArray) (gAw G) := by
  obtain ⟨hx, hb, hr, hml, hown, hts, hlo, hG⟩ := C
  obtain ⟨o1, ⟨ws', o2⟩, ⟨o3, o3'⟩, o4, o5⟩ := ok
  exact va_runV (As := As) (rest := rest) ⟨hx, hb, hml, hown, hts⟩ hM (cwV n hts o1 o2 o3 o3' o4 o5) ⟨pc_blind G _ w, vk_recv hG.2.2.2.2.2.1 hi hS, fun U hU hW => pc_in hG hP hS U hU hW⟩ rfl hn hl.1 hst (lv_room hrest) hd ⟨Nat.zero_le _, Nat.zero_le _⟩
variable {y : MethodName} {M' : MB} {v1 v2 v3 : Value}
theorem V_iK0 {Post : Int → Wd → Prop} (hd : decode M.1 pc = .ok (.invokevirtual idx, 3)) (ok : OkV M M' y idx 0 "java/lang/String") (hi : i < 8) (hrest : (rest.map fun v => v.category).sum ≤ 8) (hM : Ci G l y M' [.ref (gK G i)] w Post) (k : ∀ (z : Int) (w' : Wd), Post z w' → V G l M Qc (pc + 3) L (.int (iZ z) :: rest) w') : V G l M Qc pc L (.ref (gK G i) :: rest) w := V_of_run_i (fun C hP hS hl => run_K (As := []) hM ok hi rfl rfl hrest hd C hP hS hl) k
theorem V_iK1 {Post : Int → Wd → Prop} (hd : decode M.1 pc = .ok (.invokevirtual idx, 3)) (ok : OkV M M' y idx 1 "java/lang/String") (hi : i < 8) (hrest : (rest.map fun v => v.category).sum ≤ 8) (hM : Ci G l y M' [.ref (gK G i), v1] w Post) (k : ∀ (z : Int) (w' : Wd), Post z w' → V G l M Qc (pc + 3) L (.int (iZ z) :: rest) w') : V G l M Qc pc L (v1 :: .ref (gK G i) :: rest) w := V_of_run_i (fun C hP hS hl => run_K (As := [v1]) hM ok hi rfl rfl hrest hd C hP hS hl) k
theorem V_iS2 {Post : Int → Wd → Prop} (hd : decode M.1 pc = .ok (.invokestatic idx, 3)) (ok : OkS M M' y idx 2) (hrest : (rest.map fun v => v.category).sum ≤ 8) (hM : Ci G l y M' [v1, v2] w Post) (k : ∀ (z : Int) (w' : Wd), Post z w' → V G l M Qc (pc + 3) L (.int (iZ z) :: rest) w') : V G l M Qc pc L (v2 :: v1 :: rest) w := V_of_run_i (fun C hP hS hl => run_S (As := [v1, v2]) hM ok rfl rfl hrest hd C hP hS hl) k
theorem V_vS2 {Post : Wd → Prop} (hd : decode M.1 pc = .ok (.invokestatic idx, 3)) (ok : OkS M M' y idx 2) (hrest : (rest.map fun v => v.category).sum ≤ 8) (hM : Cv G l y M' [v1, v2] w Post) (k : ∀ w' : Wd, Post w' → V G l M Qc (pc + 3) L rest w') : V G l M Qc pc L (v2 :: v1 :: rest) w := V_of_run_v (fun C hP hS hl => run_S (As := [v1, v2]) hM ok rfl rfl hrest hd C hP hS hl) k
end VJ
theorem dd_J0_coder_7d493 : yJ0_coder_7d493.cls = RJ0 ∧ yJ0_coder_7d493.cls ≠ "java/lang/invoke/MethodHandle" ∧ yJ0_coder_7d493.cls ≠ "java/lang/invoke/VarHandle" ∧ (parseMethodDescriptor yJ0_coder_7d493.desc).map (fun d => d.parameters.length) = some 0 := by decide +kernel
theorem dd_J0_isLatin1_aae02 : yJ0_isLatin1_aae02.cls = RJ0 ∧ yJ0_isLatin1_aae02.cls ≠ "java/lang/invoke/MethodHandle" ∧ yJ0_isLatin1_aae02.cls ≠ "java/lang/invoke/VarHandle" ∧ (parseMethodDescriptor yJ0_isLatin1_aae02.desc).map (fun d => d.parameters.length) = some 0 := by decide +kernel
theorem dd_J3_checkIndex_8e157 : yJ3_checkIndex_8e157.cls = RJ3 ∧ yJ3_checkIndex_8e157.cls ≠ "java/lang/invoke/MethodHandle" ∧ yJ3_checkIndex_8e157.cls ≠ "java/lang/invoke/VarHandle" ∧ (parseMethodDescriptor yJ3_checkIndex_8e157.desc).map (fun d => d.parameters.length) = some 3 := by decide +kernel
theorem dd_J0_checkIndex_df160 : yJ0_checkIndex_df160.cls = RJ0 ∧ yJ0_checkIndex_df160.cls ≠ "java/lang/invoke/MethodHandle" ∧ yJ0_checkIndex_df160.cls ≠ "java/lang/invoke/VarHandle" ∧ (parseMethodDescriptor yJ0_checkIndex_df160.desc).map (fun d => d.parameters.length) = some 2 := by decide +kernel
theorem dd_J1_charAt_3b067 : yJ1_charAt_3b067.cls = RJ1 ∧ yJ1_charAt_3b067.cls ≠ "java/lang/invoke/MethodHandle" ∧ yJ1_charAt_3b067.cls ≠ "java/lang/invoke/VarHandle" ∧ (parseMethodDescriptor yJ1_charAt_3b067.desc).map (fun d => d.parameters.length) = some 2 := by decide +kernel
def mJ0_coder_7d493 : MB := (cJ0_coder_7d493, 1, RJ0, (some .byte), wsJ0_coder_7d493, { frames := 0, cells := 0, slots := 0, locals := 0 })
def mJ0_isLatin1_aae02 : MB := (cJ0_isLatin1_aae02, 1, RJ0, (some .boolean), wsJ0_isLatin1_aae02, { frames := 0, cells := 0, slots := 0, locals := 0 })
def mJ3_checkIndex_8e157 : MB := (cJ3_checkIndex_8e157, 3, RJ3, (some .int), wsJ3_checkIndex_8e157, { frames := 1, cells := 0, slots := 0, locals := 26 })
def mJ0_checkIndex_df160 : MB := (cJ0_checkIndex_df160, 2, RJ0, none, wsJ0_checkIndex_df160, { frames := 2, cells := 0, slots := 0, locals := 48 })
theorem o_J0_checkIndex_df160_1059 : OkS mJ0_checkIndex_df160 mJ3_checkIndex_8e157 yJ3_checkIndex_8e157 1059 3 := ⟨gJ0_checkIndex_df160_J3_checkIndex_8e157, ⟨_, rfl⟩, ⟨rfl, rfl⟩, dd_J3_checkIndex_8e157.2, ⟨Nat.le_of_ble_eq_true rfl, Nat.le_of_ble_eq_true rfl⟩⟩
def mJ1_charAt_3b067 : MB := (cJ1_charAt_3b067, 2, RJ1, (some .char), wsJ1_charAt_3b067, { frames := 3, cells := 0, slots := 0, locals := 69 })
theorem o_J1_charAt_3b067_9 : OkS mJ1_charAt_3b067 mJ0_checkIndex_df160 yJ0_checkIndex_df160 9 2 := ⟨gJ1_charAt_3b067_J0_checkIndex_df160, ⟨_, rfl⟩, ⟨rfl, rfl⟩, dd_J0_checkIndex_df160.2, ⟨Nat.le_of_ble_eq_true rfl, Nat.le_of_ble_eq_true rfl⟩⟩
def mJ0_length_8abf5 : MB := (cJ0_length_8abf5, 1, RJ0, (some .int), wsJ0_length_8abf5, { frames := 1, cells := 0, slots := 0, locals := 20 })
theorem o_J0_length_8abf5_335 : OkV mJ0_length_8abf5 mJ0_coder_7d493 yJ0_coder_7d493 335 0 RJ0 := ⟨gJ0_length_8abf5_J0_coder_7d493, ⟨_, rfl⟩, ⟨rfl, rfl⟩, dd_J0_coder_7d493, ⟨Nat.le_of_ble_eq_true rfl, Nat.le_of_ble_eq_true rfl⟩⟩
def mJ0_charAt_5068e : MB := (cJ0_charAt_5068e, 2, RJ0, (some .char), wsJ0_charAt_5068e, { frames := 5, cells := 0, slots := 0, locals := 111 })
theorem o_J0_charAt_5068e_492 : OkV mJ0_charAt_5068e mJ0_isLatin1_aae02 yJ0_isLatin1_aae02 492 0 RJ0 := ⟨gJ0_charAt_5068e_J0_isLatin1_aae02, ⟨_, rfl⟩, ⟨rfl, rfl⟩, dd_J0_isLatin1_aae02, ⟨Nat.le_of_ble_eq_true rfl, Nat.le_of_ble_eq_true rfl⟩⟩
theorem o_J0_charAt_5068e_495 : OkS mJ0_charAt_5068e mJ1_charAt_3b067 yJ1_charAt_3b067 495 2 := ⟨gJ0_charAt_5068e_J1_charAt_3b067, ⟨_, rfl⟩, ⟨rfl, rfl⟩, dd_J1_charAt_3b067.2, ⟨Nat.le_of_ble_eq_true rfl, Nat.le_of_ble_eq_true rfl⟩⟩
theorem o_X2_isWord_126 : OkV mX2_isWord mJ0_length_8abf5 yJ0_length_8abf5 126 0 RJ0 := ⟨gX2_isWord_J0_length_8abf5, ⟨_, rfl⟩, ⟨rfl, rfl⟩, dd_J0_length_8abf5, ⟨Nat.le_of_ble_eq_true rfl, Nat.le_of_ble_eq_true rfl⟩⟩
theorem o_X2_isWord_131 : OkV mX2_isWord mJ0_charAt_5068e yJ0_charAt_5068e 131 1 RJ0 := ⟨gX2_isWord_J0_charAt_5068e, ⟨_, rfl⟩, ⟨rfl, rfl⟩, dd_J0_charAt_5068e, ⟨Nat.le_of_ble_eq_true rfl, Nat.le_of_ble_eq_true rfl⟩⟩
set_option maxRecDepth 100000 in
set_option maxHeartbeats 4000000 in
theorem c_coder (G : Gb) (l : Launch) {w : Wd} {i : Nat} (hi : i < 8) : Ci G l yJ0_coder_7d493 mJ0_coder_7d493 [.ref (gK G i)] w (fun z w' => z = 0 ∧ w = w') := by
  refine V_start 0 (by decide) rfl rfl (Nat.le_of_ble_eq_true rfl) ?_
  show V G l mJ0_coder_7d493 _ 0 [some (.ref (gK G i))] [] w
  refine V_comp dJ0_coder_7d493_0 (List.mem_of_getElem? (i := 1) rfl) ?_
  refine V_if_eq (tgt := 13) dJ0_coder_7d493_3 (by decide) (by omega) (fun h => absurd h (by omega)) (fun _ => ?_)
  refine V_aload_n dJ0_coder_7d493_6 rfl ?_
  refine V_sC dJ0_coder_7d493_7 hi (List.mem_of_getElem? (i := 2) rfl) ?_
  refine V_goto (tgt := 14) dJ0_coder_7d493_10 (by decide) ?_
  exact V_nret dJ0_coder_7d493_14 rfl rfl ⟨rfl, rfl⟩
set_option maxRecDepth 100000 in
set_option maxHeartbeats 4000000 in
theorem c_isLatin1 (G : Gb) (l : Launch) {w : Wd} {i : Nat} (hi : i < 8) : Ci G l yJ0_isLatin1_aae02 mJ0_isLatin1_aae02 [.ref (gK G i)] w (fun z w' => z = 1 ∧ w = w') := by
  refine V_start 0 (by decide) rfl rfl (Nat.le_of_ble_eq_true rfl) ?_
  show V G l mJ0_isLatin1_aae02 _ 0 [some (.ref (gK G i))] [] w
  refine V_comp dJ0_isLatin1_aae02_0 (List.mem_of_getElem? (i := 1) rfl) ?_
  refine V_if_eq (tgt := 17) dJ0_isLatin1_aae02_3 (by decide) (by omega) (fun h => absurd h (by omega)) (fun _ => ?_)
  refine V_aload_n dJ0_isLatin1_aae02_6 rfl ?_
  refine V_sC dJ0_isLatin1_aae02_7 hi (List.mem_of_getElem? (i := 2) rfl) ?_
  refine V_if_ne (tgt := 17) dJ0_isLatin1_aae02_10 (by decide) (by omega) (fun h => absurd rfl h) (fun _ => ?_)
  refine V_iconst dJ0_isLatin1_aae02_13 ?_
  refine V_goto (tgt := 18) dJ0_isLatin1_aae02_14 (by decide) ?_
  exact V_zret dJ0_isLatin1_aae02_18 rfl (by omega) ⟨rfl, rfl⟩
theorem bShr_0 : ∀ n : Nat, n < 256 → bShr (n : Int) 0 = n := by decide +kernel
theorem bAnd_255 : ∀ n : Nat, n < 256 → bAnd (n : Int) 255 = n := by decide +kernel
theorem sc_le : ∀ i : Nat, i < 8 → scLen.getD i 0 ≤ 7 := by decide
theorem sc_ch : ∀ i : Nat, i < 8 → ∀ j : Nat, j < scLen.getD i 0 → 97 ≤ scC i (j : Int) ∧ scC i (j : Int) ≤ 122 := by decide +kernel
set_option maxRecDepth 100000 in
set_option maxHeartbeats 4000000 in
theorem c_strlen (G : Gb) (l : Launch) {w : Wd} {i : Nat} (hi : i < 8) : Ci G l yJ0_length_8abf5 mJ0_length_8abf5 [.ref (gK G i)] w (fun z w' => z = ((scLen.getD i 0 : Nat) : Int) ∧ w = w') := by
  refine V_start 0 (by decide) rfl rfl (Nat.le_of_ble_eq_true rfl) ?_
  show V G l mJ0_length_8abf5 _ 0 [some (.ref (gK G i))] [] w
  refine V_aload_n dJ0_length_8abf5_0 rfl ?_
  refine V_sV dJ0_length_8abf5_1 hi (List.mem_of_getElem? (i := 1) rfl) ?_
  refine V_sL dJ0_length_8abf5_4 hi ?_
  refine V_aload_n dJ0_length_8abf5_5 rfl ?_
  refine V_iK0 dJ0_length_8abf5_6 o_J0_length_8abf5_335 hi (Nat.le_of_ble_eq_true rfl) (c_coder G l hi) ?_
  rintro _ _ ⟨rfl, rfl⟩
  refine V_ishr dJ0_length_8abf5_9 ?_
  have h := sc_le i hi
  exact V_iret dJ0_length_8abf5_10 rfl ⟨bShr_0 _ (by omega), rfl⟩
set_option maxRecDepth 100000 in
set_option maxHeartbeats 4000000 in
theorem c_chk3 (G : Gb) (l : Launch) {w : Wd} {j n : Int} (hj : 0 ≤ j ∧ j < n) (hn : n ≤ 2000) {v : Value} (hv : v = .null ∨ ∃ t, v = .ref t) : Ci G l yJ3_checkIndex_8e157 mJ3_checkIndex_8e157 [.int (iZ j), .int (iZ n), v] w (fun z w' => z = j ∧ w = w') := by
  have hc : v.category = 1 := by rcases hv with rfl | ⟨t, rfl⟩ <;> rfl
  refine V_start 0 (by decide) rfl rfl (by rcases hv with rfl | ⟨t, rfl⟩ <;> exact Nat.le_of_ble_eq_true rfl) ?_
  refine V_forget (L' := [some (.int (iZ j)), some (.int (iZ n))]) (fun i u h => ?_) ?_
  · match i, h with
    | 0, h => exact h
    | 1, h => exact h
  · refine V_iload_n dJ3_checkIndex_8e157_0 rfl ?_
    refine V_if_lt (tgt := 9) dJ3_checkIndex_8e157_1 (by decide) (by omega) (fun h => absurd h (by omega)) (fun _ => ?_)
    refine V_iload_n dJ3_checkIndex_8e157_4 rfl ?_
    refine V_iload_n dJ3_checkIndex_8e157_5 rfl ?_
    refine V_icmp_lt (tgt := 16) dJ3_checkIndex_8e157_6 (by decide) (by omega) (by omega) (fun _ => ?_) (fun h => absurd h (by omega))
    refine V_iload_n dJ3_checkIndex_8e157_16 rfl ?_
    exact V_iret dJ3_checkIndex_8e157_17 rfl ⟨rfl, rfl⟩
set_option maxRecDepth 100000 in
set_option maxHeartbeats 4000000 in
theorem c_chk0 (G : Gb) (l : Launch) {w : Wd} {j n : Int} (hj : 0 ≤ j ∧ j < n) (hn : n ≤ 2000) : Cv G l yJ0_checkIndex_df160 mJ0_checkIndex_df160 [.int (iZ j), .int (iZ n)] w (fun w' => w = w') := by
  refine V_start 0 (by decide) rfl rfl (Nat.le_of_ble_eq_true rfl) ?_
  show V G l mJ0_checkIndex_df160 _ 0 [some (.int (iZ j)), some (.int (iZ n))] [] w
  refine V_iload_n dJ0_checkIndex_df160_0 rfl ?_
  refine V_iload_n dJ0_checkIndex_df160_1 rfl ?_
  refine V_sio dJ0_checkIndex_df160_2 (List.mem_of_getElem? (i := 1) rfl) (fun v hv => ?_)
  refine V_iS3 dJ0_checkIndex_df160_5 o_J0_checkIndex_df160_1059 (Nat.le_of_ble_eq_true rfl) (c_chk3 G l hj hn hv) ?_
  rintro _ _ ⟨rfl, rfl⟩
  refine V_pop dJ0_checkIndex_df160_8 rfl ?_
  exact V_vret dJ0_checkIndex_df160_9 rfl rfl
set_option maxRecDepth 100000 in
set_option maxHeartbeats 4000000 in
theorem c_chr1 (G : Gb) (l : Launch) {w : Wd} {i : Nat} (hi : i < 8) {j : Int} (hj : 0 ≤ j ∧ j < ((scLen.getD i 0 : Nat) : Int)) : Ci G l yJ1_charAt_3b067 mJ1_charAt_3b067 [.ref (gV G i), .int (iZ j)] w (fun z w' => z = scC i j ∧ w = w') := by
  have h7 := sc_le i hi
  have hc := sc_ch i hi j.toNat (by omega)
  rw [show ((j.toNat : Nat) : Int) = j by omega] at hc
  refine V_start 0 (by decide) rfl rfl (Nat.le_of_ble_eq_true rfl) ?_
  show V G l mJ1_charAt_3b067 _ 0 [some (.ref (gV G i)), some (.int (iZ j))] [] w
  refine V_iload_n dJ1_charAt_3b067_0 rfl ?_
  refine V_aload_n dJ1_charAt_3b067_1 rfl ?_
  refine V_sL dJ1_charAt_3b067_2 hi ?_
  refine V_vS2 dJ1_charAt_3b067_3 o_J1_charAt_3b067_9 (Nat.le_of_ble_eq_true rfl) (c_chk0 G l hj (by omega)) ?_
  rintro _ rfl
  refine V_aload_n dJ1_charAt_3b067_6 rfl ?_
  refine V_iload_n dJ1_charAt_3b067_7 rfl ?_
  refine V_sB dJ1_charAt_3b067_8 hi hj (by omega) ?_
  refine V_sipush dJ1_charAt_3b067_9 rfl ?_
  refine V_iand dJ1_charAt_3b067_12 ?_
  have e := bAnd_255 (scC i j).toNat (by omega)
  rw [show (((scC i j).toNat : Nat) : Int) = scC i j by omega] at e
  refine V_top e ?_
  refine V_i2c dJ1_charAt_3b067_13 (by omega) ?_
  exact V_nret (ty := .char) dJ1_charAt_3b067_14 rfl (by rw [iZ_nI (by omega)]; exact (pk_charN (by omega)).1) ⟨rfl, rfl⟩
set_option maxRecDepth 100000 in
set_option maxHeartbeats 4000000 in
theorem c_chrAt (G : Gb) (l : Launch) {w : Wd} {i : Nat} (hi : i < 8) {j : Int} (hj : 0 ≤ j ∧ j < ((scLen.getD i 0 : Nat) : Int)) : Ci G l yJ0_charAt_5068e mJ0_charAt_5068e [.ref (gK G i), .int (iZ j)] w (fun z w' => z = scC i j ∧ w = w') := by
  have h7 := sc_le i hi
  have hc := sc_ch i hi j.toNat (by omega)
  rw [show ((j.toNat : Nat) : Int) = j by omega] at hc
  refine V_start 0 (by decide) rfl rfl (Nat.le_of_ble_eq_true rfl) ?_
  show V G l mJ0_charAt_5068e _ 0 [some (.ref (gK G i)), some (.int (iZ j))] [] w
  refine V_aload_n dJ0_charAt_5068e_0 rfl ?_
  refine V_iK0 dJ0_charAt_5068e_1 o_J0_charAt_5068e_492 hi (Nat.le_of_ble_eq_true rfl) (c_isLatin1 G l hi) ?_
  rintro _ _ ⟨rfl, rfl⟩
  refine V_if_eq (tgt := 16) dJ0_charAt_5068e_4 (by decide) (by omega) (fun h => absurd h (by omega)) (fun _ => ?_)
  refine V_aload_n dJ0_charAt_5068e_7 rfl ?_
  refine V_sV dJ0_charAt_5068e_8 hi (List.mem_of_getElem? (i := 1) rfl) ?_
  refine V_iload_n dJ0_charAt_5068e_11 rfl ?_
  refine V_iS2 dJ0_charAt_5068e_12 o_J0_charAt_5068e_495 (Nat.le_of_ble_eq_true rfl) (c_chr1 G l hi hj) ?_
  rintro _ _ ⟨rfl, rfl⟩
  exact V_nret (ty := .char) dJ0_charAt_5068e_15 rfl (by rw [iZ_nI (by omega)]; exact (pk_charN (by omega)).1) ⟨rfl, rfl⟩
/-- the ones among the ten lowest bits -/
def pc10 (n : Nat) : Nat := ((List.range 10).filter (fun j => n.testBit j)).length
def bcF1 (x : Int) : Int := x - bAnd (bUshr x 1) 1431655765
def bcF2 (x : Int) : Int := bAnd x 858993459 + bAnd (bUshr x 2) 858993459
def bcF3 (x : Int) : Int := bAnd (x + bUshr x 4) 252645135
def bcF4 (x : Int) : Int := x + bUshr x 8
def bcF5 (x : Int) : Int := x + bUshr x 16
set_option maxRecDepth 100000 in
theorem bc_all : (List.range 1024).all (fun n => decide (bAnd (bcF5 (bcF4 (bcF3 (bcF2 (bcF1 (n : Int)))))) 63 = ((pc10 n : Nat) : Int))) = true := by decide +kernel
theorem bc_eq (x : Int) (hx : 0 ≤ x ∧ x < 1024) : bAnd (bcF5 (bcF4 (bcF3 (bcF2 (bcF1 x))))) 63 = ((pc10 x.toNat : Nat) : Int) := by
  have h := of_decide_eq_true (List.all_eq_true.mp bc_all x.toNat (List.mem_range.mpr (by omega)))
  rwa [show ((x.toNat : Nat) : Int) = x by omega] at h
set_option maxRecDepth 100000 in
set_option maxHeartbeats 4000000 in
theorem c_bitCount (G : Gb) (l : Launch) {w : Wd} {x : Int} (hx : 0 ≤ x ∧ x < 1024) : Ci G l yJ6_bitCount_0f7a4 mJ6_bitCount_0f7a4 [.int (iZ x)] w (fun z w' => z = ((pc10 x.toNat : Nat) : Int) ∧ w = w') := by
  refine V_start 0 (by decide) rfl rfl (Nat.le_of_ble_eq_true rfl) ?_
  show V G l mJ6_bitCount_0f7a4 _ 0 [some (.int (iZ x))] [] w
  refine V_iload_n dJ6_bitCount_0f7a4_0 rfl ?_
  refine V_iload_n dJ6_bitCount_0f7a4_1 rfl ?_
  refine V_iconst dJ6_bitCount_0f7a4_2 ?_
  refine V_iushr dJ6_bitCount_0f7a4_3 ?_
  refine V_ldcw (n := 1431655765) dJ6_bitCount_0f7a4_4 (List.mem_of_getElem? (i := 1) rfl) ?_
  refine V_iand dJ6_bitCount_0f7a4_7 ?_
  refine V_isub dJ6_bitCount_0f7a4_8 ?_
  refine V_istore_n dJ6_bitCount_0f7a4_9 (by decide) rfl ?_
  refine V_iload_n dJ6_bitCount_0f7a4_10 rfl ?_
  refine V_ldcw (n := 858993459) dJ6_bitCount_0f7a4_11 (List.mem_of_getElem? (i := 2) rfl) ?_
  refine V_iand dJ6_bitCount_0f7a4_14 ?_
  refine V_iload_n dJ6_bitCount_0f7a4_15 rfl ?_
  refine V_iconst dJ6_bitCount_0f7a4_16 ?_
  refine V_iushr dJ6_bitCount_0f7a4_17 ?_
  refine V_ldcw (n := 858993459) dJ6_bitCount_0f7a4_18 (List.mem_of_getElem? (i := 2) rfl) ?_
  refine V_iand dJ6_bitCount_0f7a4_21 ?_
  refine V_iadd dJ6_bitCount_0f7a4_22 ?_
  refine V_istore_n dJ6_bitCount_0f7a4_23 (by decide) rfl ?_
  refine V_iload_n dJ6_bitCount_0f7a4_24 rfl ?_
  refine V_iload_n dJ6_bitCount_0f7a4_25 rfl ?_
  refine V_iconst dJ6_bitCount_0f7a4_26 ?_
  refine V_iushr dJ6_bitCount_0f7a4_27 ?_
  refine V_iadd dJ6_bitCount_0f7a4_28 ?_
  refine V_ldcw (n := 252645135) dJ6_bitCount_0f7a4_29 (List.mem_of_getElem? (i := 3) rfl) ?_
  refine V_iand dJ6_bitCount_0f7a4_32 ?_
  refine V_istore_n dJ6_bitCount_0f7a4_33 (by decide) rfl ?_
  refine V_iload_n dJ6_bitCount_0f7a4_34 rfl ?_
  refine V_iload_n dJ6_bitCount_0f7a4_35 rfl ?_
  refine V_bipush dJ6_bitCount_0f7a4_36 rfl ?_
  refine V_iushr dJ6_bitCount_0f7a4_38 ?_
  refine V_iadd dJ6_bitCount_0f7a4_39 ?_
  refine V_istore_n dJ6_bitCount_0f7a4_40 (by decide) rfl ?_
  refine V_iload_n dJ6_bitCount_0f7a4_41 rfl ?_
  refine V_iload_n dJ6_bitCount_0f7a4_42 rfl ?_
  refine V_bipush dJ6_bitCount_0f7a4_43 rfl ?_
  refine V_iushr dJ6_bitCount_0f7a4_45 ?_
  refine V_iadd dJ6_bitCount_0f7a4_46 ?_
  refine V_istore_n dJ6_bitCount_0f7a4_47 (by decide) rfl ?_
  refine V_iload_n dJ6_bitCount_0f7a4_48 rfl ?_
  refine V_bipush dJ6_bitCount_0f7a4_49 rfl ?_
  refine V_iand dJ6_bitCount_0f7a4_51 ?_
  exact V_iret dJ6_bitCount_0f7a4_52 rfl ⟨bc_eq x hx, rfl⟩

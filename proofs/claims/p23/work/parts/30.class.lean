/-! ===== 30 TreeDebts: what its calls answer ===== -/
/-- text, told, now, the two that are kept -/
abbrev SG : Type := List Int × TS × AS × Option AS × Option AS
def kpR (c : Int) (w : Wd) (j : Int) (b : Nat) (k : Option AS) : Prop := (w 4 j = 0 ∧ k = none) ∨ (w 4 j = 1 ∧ k = some (cAS w b) ∧ okC c w b ∧ w b 0 ≤ 9999)
/-- the class's object is in the state σ, behind c calls at most -/
def SC (c : Int) (σ : SG) (w : Wd) : Prop := TX w σ.1 ∧ (tAS w 5 = σ.2.1 ∧ okT w 5) ∧ (cAS w 21 = σ.2.2.1 ∧ okC c w 21 ∧ w 21 0 ≤ 9999) ∧ kpR c w 0 37 σ.2.2.2.1 ∧ kpR c w 1 45 σ.2.2.2.2
/-- the reference's object is as it was -/
def frC (w w' : Wd) : Prop := ∀ (k : Nat) (j : Int), 71 ≤ k → w' k j = w k j
theorem okAS_mono {c c' : Int} {a : AS} (h : okAS c a) (hc : c ≤ c') : okAS c' a := by
  obtain ⟨h1, h2, h3⟩ := h
  exact ⟨h1, ⟨h2.1, by omega⟩, h3⟩
theorem okC_mono {c c' : Int} {w : Wd} {b : Nat} (h : okC c w b) (hc : c ≤ c') : okC c' w b := ⟨h.1, okAS_mono h.2 hc⟩
theorem cAS_eq {w w' : Wd} {b : Nat} (h : ∀ (k : Nat) (j : Int), b ≤ k → k ≤ b + 7 → w' k j = w k j) : cAS w' b = cAS w b := by
  unfold cAS
  rw [h b 0 (by omega) (by omega), h b 9 (by omega) (by omega), gl_eq (w := w') (k := b + 1) (w' := w) (k' := b + 1) (o' := 0) (fun i _ _ => h _ _ (by omega) (by omega)), gl_eq (w := w') (k := b + 2) (w' := w) (k' := b + 2) (o' := 0) (fun i _ _ => h _ _ (by omega) (by omega)), cLs_eq (w := w') (w' := w) (b := b) (b' := b) (h _ _ (by omega) (by omega)) (fun k j q1 q2 _ _ => h _ _ (by omega) (by omega))]
theorem okC_eq {c : Int} {w w' : Wd} {b : Nat} (ho : okC c w b) (h : ∀ (k : Nat) (j : Int), b ≤ k → k ≤ b + 7 → w' k j = w k j) : okC c w' b := ⟨by rw [h b 3 (by omega) (by omega)]; exact ho.1, by rw [cAS_eq h]; exact ho.2⟩
theorem kpR_keep {c : Int} {w w' : Wd} {j : Int} {b : Nat} {k : Option AS} (h : kpR c w j b k) (h4 : w' 4 j = w 4 j) (g : ∀ (k : Nat) (j : Int), b ≤ k → k ≤ b + 7 → w' k j = w k j) : kpR c w' j b k := by
  rcases h with ⟨h1, h2⟩ | ⟨h1, h2, h3, h5⟩
  · exact Or.inl ⟨h4.trans h1, h2⟩
  · exact Or.inr ⟨h4.trans h1, by rw [cAS_eq g]; exact h2, okC_eq h3 g, by rw [g b 0 (by omega) (by omega)]; exact h5⟩
theorem kpR_mono {c c' : Int} {w : Wd} {j : Int} {b : Nat} {k : Option AS} (h : kpR c w j b k) (hc : c ≤ c') : kpR c' w j b k := by
  rcases h with h | ⟨h1, h2, h3, h5⟩
  · exact Or.inl h
  · exact Or.inr ⟨h1, h2, okC_mono h3 hc, h5⟩
theorem SC.keep {c c' : Int} {σ : SG} {w w' : Wd} (h : SC c σ w) (hc : c ≤ c') (g : ∀ (k : Nat) (j : Int), ((k = 1 ∧ j = 1) ∨ k = 2 ∨ k = 4 ∨ (5 ≤ k ∧ k ≤ 12) ∨ (21 ≤ k ∧ k ≤ 28) ∨ (37 ≤ k ∧ k ≤ 52)) → w' k j = w k j) : SC c' σ w' := by
  obtain ⟨h1, ⟨h2, h3⟩, ⟨h4, h5, h6⟩, h7, h8⟩ := h
  refine ⟨h1.keep (g _ _ (by omega)) (fun i => g _ _ (by omega)), ⟨by rw [tAS_eq (fun k j _ _ => g k j (by omega))]; exact h2, okT_sl h3 (fun k j _ => g k j (by omega))⟩, ⟨by rw [cAS_eq (fun k j _ _ => g k j (by omega))]; exact h4, okC_mono (okC_eq h5 (fun k j _ _ => g k j (by omega))) hc, by rw [g _ _ (by omega)]; exact h6⟩, kpR_mono (kpR_keep h7 (g _ _ (by omega)) (fun k j _ _ => g k j (by omega))) hc, kpR_mono (kpR_keep h8 (g _ _ (by omega)) (fun k j _ _ => g k j (by omega))) hc⟩
theorem SC.same {c : Int} {σ : SG} {w : Wd} (h : SC c σ w) : SC (c + 1) σ w := h.keep (by omega) (fun _ _ _ => rfl)
/-- what is told, place by place -/
theorem SC.tN {c : Int} {σ : SG} {w : Wd} (h : SC c σ w) : w 5 0 = σ.2.1.1 := congrArg (fun t : TS => t.1) h.2.1.1
theorem SC.tH {c : Int} {σ : SG} {w : Wd} (h : SC c σ w) : w 5 9 = σ.2.1.2.2.2.2.2.2.2 := congrArg (fun t : TS => t.2.2.2.2.2.2.2) h.2.1.1
theorem SC.tQ {c : Int} {σ : SG} {w : Wd} (h : SC c σ w) : qsC w 5 = σ.2.1.2.2.2.2.2.2.1 := congrArg (fun t : TS => t.2.2.2.2.2.2.1) h.2.1.1
theorem SC.tK' {c : Int} {σ : SG} {w : Wd} (h : SC c σ w) : gl w 6 0 6 = σ.2.1.2.1 := congrArg (fun t : TS => t.2.1) h.2.1.1
theorem SC.tR' {c : Int} {σ : SG} {w : Wd} (h : SC c σ w) : gl w 8 0 6 = σ.2.1.2.2.2.1 := congrArg (fun t : TS => t.2.2.2.1) h.2.1.1
theorem SC.tP' {c : Int} {σ : SG} {w : Wd} (h : SC c σ w) : gl w 10 0 6 = σ.2.1.2.2.2.2.2.1 := congrArg (fun t : TS => t.2.2.2.2.2.1) h.2.1.1
theorem gl_0 {w : Wd} {k : Nat} {n : Nat} {t : Int} (h0 : 0 ≤ t) (h : t < (n : Int)) : w k t = (gl w k 0 n).getD t.toNat 0 := by rw [gl_D h0 h, Int.zero_add]
theorem SC.tK {c : Int} {σ : SG} {w : Wd} (h : SC c σ w) {i : Int} (h0 : 0 ≤ i) (h1 : i < 6) : w 6 i = σ.2.1.2.1.getD i.toNat 0 := by rw [gl_0 (w := w) (k := 6) (n := 6) h0 h1, h.tK']
theorem SC.tR {c : Int} {σ : SG} {w : Wd} (h : SC c σ w) {i : Int} (h0 : 0 ≤ i) (h1 : i < 6) : w 8 i = σ.2.1.2.2.2.1.getD i.toNat 0 := by rw [gl_0 (w := w) (k := 8) (n := 6) h0 h1, h.tR']
theorem SC.tM {c : Int} {σ : SG} {w : Wd} (h : SC c σ w) {i : Int} (h0 : 0 ≤ i) (h1 : i < 6) : w 9 i = σ.2.1.2.2.2.2.1.getD i.toNat 0 := by rw [gl_0 (w := w) (k := 9) (n := 6) h0 h1]; exact congrArg (fun t : TS => t.2.2.2.2.1.getD i.toNat 0) h.2.1.1
theorem SC.tP {c : Int} {σ : SG} {w : Wd} (h : SC c σ w) {i : Int} (h0 : 0 ≤ i) (h1 : i < 6) : w 10 i = σ.2.1.2.2.2.2.2.1.getD i.toNat 0 := by rw [gl_0 (w := w) (k := 10) (n := 6) h0 h1, h.tP']
theorem SC.aL {c : Int} {σ : SG} {w : Wd} (h : SC c σ w) : cLs w 21 = σ.2.2.1.2.2.2.2 := congrArg (fun t : AS => t.2.2.2.2) h.2.2.1.1
theorem SC.aD {c : Int} {σ : SG} {w : Wd} (h : SC c σ w) : w 21 0 = σ.2.2.1.1 := congrArg (fun t : AS => t.1) h.2.2.1.1
theorem SC.aX {c : Int} {σ : SG} {w : Wd} (h : SC c σ w) : w 21 9 = σ.2.2.1.2.1 := congrArg (fun t : AS => t.2.1) h.2.2.1.1
theorem SC.aH {c : Int} {σ : SG} {w : Wd} (h : SC c σ w) {i : Int} (h0 : 0 ≤ i) (h1 : i < 6) : w 22 i = σ.2.2.1.2.2.1.getD i.toNat 0 := by rw [gl_0 (w := w) (k := 22) (n := 6) h0 h1]; exact congrArg (fun t : AS => t.2.2.1.getD i.toNat 0) h.2.2.1.1
theorem SC.aF {c : Int} {σ : SG} {w : Wd} (h : SC c σ w) {i : Int} (h0 : 0 ≤ i) (h1 : i < 6) : w 23 i = σ.2.2.1.2.2.2.1.getD i.toNat 0 := by rw [gl_0 (w := w) (k := 23) (n := 6) h0 h1]; exact congrArg (fun t : AS => t.2.2.2.1.getD i.toNat 0) h.2.2.1.1
theorem SC.aN {c : Int} {σ : SG} {w : Wd} (h : SC c σ w) : w 21 3 = ((σ.2.2.1.2.2.2.2.length : Nat) : Int) := by
  rw [← h.aL, cLs_len]
  have := h.2.2.1.2.1.1
  omega
/-- the answers -/
abbrev hasS (t : TS) (i : Int) : Prop := 0 ≤ i ∧ i < t.1
def aTree (t : TS) (a : AS) (i q : Int) : Int :=
  if hasS t i then
    (if q = 0 then t.2.1.getD i.toNat 0 else if q = 1 then a.2.2.1.getD i.toNat 0 else if q = 2 then t.2.2.2.1.getD i.toNat 0 else if q = 3 then t.2.2.2.2.1.getD i.toNat 0 else if q = 4 then t.2.2.2.2.2.1.getD i.toNat 0
     else if q = 5 then owL i a.2.2.2.2 else if q = 6 then a.2.2.2.1.getD i.toNat 0 else if q = 7 then (if crS i a.2.2.2.2 t.2.2.2.2.2.2.1 then 1 else 0) else -3)
  else -2
def aLoan (a : AS) (k q : Int) : Int :=
  if 0 ≤ k ∧ k < ((a.2.2.2.2.length : Nat) : Int) then
    (if q = 0 then (a.2.2.2.2.getD k.toNat ln0).1 else if q = 1 then (a.2.2.2.2.getD k.toNat ln0).2.1 else if q = 2 then (a.2.2.2.2.getD k.toNat ln0).2.2.1 else if q = 3 then (a.2.2.2.2.getD k.toNat ln0).2.2.2.1 else if q = 4 then (a.2.2.2.2.getD k.toNat ln0).2.2.2.2 else -3)
  else -2
def aAs (t : TS) (i q : Int) : Int := if hasS t i then (if 0 ≤ q ∧ q ≤ 4 then (if ofK (t.2.1.getD i.toNat 0) q then grw (t.2.1.getD i.toNat 0) (t.2.2.2.1.getD i.toNat 0) 100 1 else -4) else -3) else -2
def dueS (t : TS) (a : AS) (i : Int) : Int := if t.2.1.getD i.toNat 0 = 1 then a.1 + 1 else a.1 + t.2.2.2.2.1.getD i.toNat 0
def aBorrow (t : TS) (a : AS) (i n : Int) : Int × AS :=
  if hasS t i then (if 1 ≤ n ∧ n ≤ 99 then (if ldS i (a.2.2.2.1.getD i.toNat 0) a.2.2.2.2 t.2.2.2.2.2.2.1 = true ∧ n ≤ a.2.2.1.getD i.toNat 0 then (if ((a.2.2.2.2.length : Nat) : Int) < 12 then (((a.2.2.2.2.length : Nat) : Int), lnS i n (dueS t a i) a) else (-5, a)) else (-4, a)) else (-3, a)) else (-2, a)
def aDays (t : TS) (a : AS) (n : Int) : Int × AS := if 1 ≤ n ∧ n ≤ 99 then (if a.1 + n ≤ 9999 then ((dysS t.2.1 t.2.2.2.1 t.2.2.2.2.2.2.2 n.toNat a).1, dysS t.2.1 t.2.2.2.1 t.2.2.2.2.2.2.2 n.toNat a) else (-5, a)) else (-3, a)
def aFire (t : TS) (a : AS) (p : Int) : Int × AS := if 0 ≤ p ∧ p ≤ 9 then (brC t.2.2.2.2.2.1 p t.1.toNat 0 (a.2.2.2.1, a.2.2.2.2), (a.1, a.2.1, a.2.2.1, (brS t.2.2.2.2.2.1 p t.1.toNat 0 (a.2.2.2.1, a.2.2.2.2)).1, (brS t.2.2.2.2.2.1 p t.1.toNat 0 (a.2.2.2.1, a.2.2.2.2)).2)) else (-3, a)
def aSell (t : TS) (a : AS) (i q : Int) : Int × AS := if hasS t i ∧ hasS t q then (if i = q then (-3, a) else if a.2.2.2.1.getD i.toNat 0 = 0 ∧ a.2.2.2.1.getD q.toNat 0 = 0 then (hoC i a.2.2.2.2, soS i q a) else (-4, a)) else (-2, a)
theorem er_ok {c : Int} {σ : SG} {w : Wd} (h : SC c σ w) : SC (c + 1) ([], σ.2) (up w 1 1 0) := by
  have h9 : SC (c + 1) σ w := h.same
  obtain ⟨h1, ⟨h2, h3⟩, ⟨h4, h5, h6⟩, h7, h8⟩ := h9
  have g : ∀ (k : Nat) (j : Int), k ≠ 1 → up w 1 1 0 k j = w k j := fun k j q => up_ne (by omega)
  refine ⟨⟨by rw [up_eq]; rfl, by simp, fun i g0 g1 => by simp at g1; omega⟩, ⟨by rw [tAS_eq (fun k j _ _ => g k j (by omega))]; exact h2, okT_sl h3 (fun k j _ => g k j (by omega))⟩, ⟨by rw [cAS_eq (fun k j _ _ => g k j (by omega))]; exact h4, okC_eq h5 (fun k j _ _ => g k j (by omega)), by rw [g _ _ (by omega)]; exact h6⟩, kpR_keep h7 (g _ _ (by omega)) (fun k j _ _ => g k j (by omega)), kpR_keep h8 (g _ _ (by omega)) (fun k j _ _ => g k j (by omega))⟩
set_option maxRecDepth 100000 in
set_option maxHeartbeats 4000000 in
theorem c_X4_erase (G : Gb) (l : Launch) {w : Wd} {c : Int} {σ : SG} (h : SC c σ w) : Ci G l yX4_erase mX4_erase [.ref (gA G 0)] w (fun z w' => z = ((σ.1.length : Nat) : Int) ∧ SC (c + 1) ([], σ.2) w' ∧ frC w w') := by
  refine V_start 1 (by decide) rfl rfl (Nat.le_of_ble_eq_true rfl) ?_
  show V G l mX4_erase _ 0 [some (.ref (gA G 0)), none] [] w
  refine V_aload_n dX4_erase_0 rfl ?_
  refine V_getR (ci := 4) (j := 0) dX4_erase_1 s_0 rfl rfl i_X4_erase_X4 (by decide) f_X4_erase_10 ?_
  refine V_getI (ci := 2) (j := 1) (ji := 1) dX4_erase_4 s_1 rfl rfl i_X4_erase_X2 (by decide) f_X4_erase_48 rfl ?_
  refine V_istore_n dX4_erase_7 (by decide) rfl ?_
  refine V_aload_n dX4_erase_8 rfl ?_
  refine V_getR (ci := 4) (j := 0) dX4_erase_9 s_0 rfl rfl i_X4_erase_X4 (by decide) f_X4_erase_10 ?_
  refine V_iconst dX4_erase_12 ?_
  refine V_putI (ci := 2) (j := 1) (ji := 1) dX4_erase_13 s_1 rfl rfl i_X4_erase_X2 tyX2_ok nmX2 (by decide) f_X4_erase_48 rfl rfl rfl ?_
  refine V_iload_n dX4_erase_16 rfl ?_
  exact V_iret dX4_erase_17 rfl ⟨h.1.1, er_ok h, fun k j q => by rw [up_ne (by omega)]⟩
set_option maxRecDepth 100000 in
set_option maxHeartbeats 4000000 in
theorem c_X4_fault (G : Gb) (l : Launch) {w : Wd} {c : Int} {σ : SG} (h : SC c σ w) : Ci G l yX4_fault mX4_fault [.ref (gA G 0)] w (fun z w' => z = (prP σ.1 12 (sk σ.1 0) σ.2.1).1 ∧ SC (c + 1) σ w' ∧ frC w w') := by
  refine V_start 0 (by decide) rfl rfl (Nat.le_of_ble_eq_true rfl) ?_
  show V G l mX4_fault _ 0 [some (.ref (gA G 0))] [] w
  refine V_aload_n dX4_fault_0 rfl ?_
  refine V_getR (ci := 4) (j := 0) dX4_fault_1 s_0 rfl rfl i_X4_fault_X4 (by decide) f_X4_fault_10 ?_
  refine V_aload_n dX4_fault_4 rfl ?_
  refine V_getR (ci := 4) (j := 1) dX4_fault_5 s_0 rfl rfl i_X4_fault_X4 (by decide) f_X4_fault_19 ?_
  refine V_iV1 dX4_fault_8 o_X4_fault_58 s_1 rfl (Nat.le_of_ble_eq_true rfl) (c_X2_read G l h.1 h.2.1.2) ?_
  rintro z w' ⟨r1, r2, r3, r4, r5⟩
  exact V_iret dX4_fault_11 rfl ⟨by rw [r1, h.2.1.1], h.keep (by omega) (fun k j q => r4 k j (by omega) (by omega)), fun k j q => r4 k j (by omega) (by omega)⟩
set_option maxRecDepth 100000 in
set_option maxHeartbeats 4000000 in
theorem c_X4_tree (G : Gb) (l : Launch) {w : Wd} {c : Int} {σ : SG} (h : SC c σ w) {i : Int} (hi : inR i) {q : Int} (hq : inR q) : Ci G l yX4_tree mX4_tree [.ref (gA G 0), .int (iZ i), .int (iZ q)] w (fun z w' => z = aTree σ.2.1 σ.2.2.1 i q ∧ SC (c + 1) σ w' ∧ frC w w') := by
  refine V_start 0 (by decide) rfl rfl (Nat.le_of_ble_eq_true rfl) ?_
  show V G l mX4_tree _ 0 [some (.ref (gA G 0)), some (.int (iZ i)), some (.int (iZ q))] [] w
  have hT := h.2.1.2
  have hO := h.2.2.1.2.1
  have kt := hT.1
  have kn := hO.n
  have eN := h.tN
  have eL := h.aN
  refine V_aload_n dX4_tree_0 rfl ?_
  refine V_getR (ci := 4) (j := 1) dX4_tree_1 s_0 rfl rfl i_X4_tree_X4 (by decide) f_X4_tree_19 ?_
  refine V_iload_n dX4_tree_4 rfl ?_
  refine V_iV1 dX4_tree_5 o_X4_tree_75 s_5 rfl (Nat.le_of_ble_eq_true rfl) (c_X3_has G l (d := 5) (Or.inl rfl) (by omega) (by omega)) ?_
  rintro z _ ⟨hz, rfl⟩
  have rz : z = 0 ∨ z = 1 := by rw [hz]; split <;> simp
  refine V_if_ne (tgt := 14) dX4_tree_8 (by decide) (by omega) (fun h8 => ?_) (fun h8 => ?_)
  · have yz : hasS σ.2.1 i := by
      by_cases q9 : 0 ≤ i ∧ i < w 5 0
      · exact ⟨q9.1, by omega⟩
      · rw [if_neg q9] at hz; omega
    have bz := yz.2
    have dz := yz.1
    refine V_iload_n dX4_tree_14 rfl ?_
    rcases (show q = 0 ∨ q = 1 ∨ q = 2 ∨ q = 3 ∨ q = 4 ∨ q = 5 ∨ q = 6 ∨ q = 7 ∨ (q < 0 ∨ 7 < q) by omega) with h15 | h15 | h15 | h15 | h15 | h15 | h15 | h15 | h15
    · refine V_tswI (v := 0) (off := 45) (tgt := 60) dX4_tree_15 h15 (by decide) rfl (by decide) ?_
      refine V_aload_n dX4_tree_60 rfl ?_
      refine V_getR (ci := 4) (j := 1) dX4_tree_61 s_0 rfl rfl i_X4_tree_X4 (by decide) f_X4_tree_19 ?_
      refine V_getR (ci := 3) (j := 1) dX4_tree_64 s_5 rfl rfl i_X4_tree_X3 (by decide) f_X4_tree_79 ?_
      refine V_iload_n dX4_tree_67 rfl ?_
      refine V_iald dX4_tree_68 s_6 (by omega) ?_
      exact V_iret dX4_tree_69 rfl ⟨by rw [aTree, if_pos yz]; simp only [h15]; exact h.tK (by omega) (by omega), h.same, fun _ _ _ => rfl⟩
    · refine V_tswI (v := 1) (off := 55) (tgt := 70) dX4_tree_15 h15 (by decide) rfl (by decide) ?_
      refine V_aload_n dX4_tree_70 rfl ?_
      refine V_getR (ci := 4) (j := 2) dX4_tree_71 s_0 rfl rfl i_X4_tree_X4 (by decide) f_X4_tree_26 ?_
      refine V_getR (ci := 1) (j := 1) dX4_tree_74 s_21 rfl rfl i_X4_tree_X1 (by decide) f_X4_tree_83 ?_
      refine V_iload_n dX4_tree_77 rfl ?_
      refine V_iald dX4_tree_78 s_22 (by omega) ?_
      exact V_iret dX4_tree_79 rfl ⟨by rw [aTree, if_pos yz]; simp only [h15]; exact h.aH (by omega) (by omega), h.same, fun _ _ _ => rfl⟩
    · refine V_tswI (v := 2) (off := 65) (tgt := 80) dX4_tree_15 h15 (by decide) rfl (by decide) ?_
      refine V_aload_n dX4_tree_80 rfl ?_
      refine V_getR (ci := 4) (j := 1) dX4_tree_81 s_0 rfl rfl i_X4_tree_X4 (by decide) f_X4_tree_19 ?_
      refine V_getR (ci := 3) (j := 3) dX4_tree_84 s_5 rfl rfl i_X4_tree_X3 (by decide) f_X4_tree_86 ?_
      refine V_iload_n dX4_tree_87 rfl ?_
      refine V_iald dX4_tree_88 s_8 (by omega) ?_
      exact V_iret dX4_tree_89 rfl ⟨by rw [aTree, if_pos yz]; simp only [h15]; exact h.tR (by omega) (by omega), h.same, fun _ _ _ => rfl⟩
    · refine V_tswI (v := 3) (off := 75) (tgt := 90) dX4_tree_15 h15 (by decide) rfl (by decide) ?_
      refine V_aload_n dX4_tree_90 rfl ?_
      refine V_getR (ci := 4) (j := 1) dX4_tree_91 s_0 rfl rfl i_X4_tree_X4 (by decide) f_X4_tree_19 ?_
      refine V_getR (ci := 3) (j := 4) dX4_tree_94 s_5 rfl rfl i_X4_tree_X3 (by decide) f_X4_tree_89 ?_
      refine V_iload_n dX4_tree_97 rfl ?_
      refine V_iald dX4_tree_98 s_9 (by omega) ?_
      exact V_iret dX4_tree_99 rfl ⟨by rw [aTree, if_pos yz]; simp only [h15]; exact h.tM (by omega) (by omega), h.same, fun _ _ _ => rfl⟩
    · refine V_tswI (v := 4) (off := 85) (tgt := 100) dX4_tree_15 h15 (by decide) rfl (by decide) ?_
      refine V_aload_n dX4_tree_100 rfl ?_
      refine V_getR (ci := 4) (j := 1) dX4_tree_101 s_0 rfl rfl i_X4_tree_X4 (by decide) f_X4_tree_19 ?_
      refine V_getR (ci := 3) (j := 5) dX4_tree_104 s_5 rfl rfl i_X4_tree_X3 (by decide) f_X4_tree_92 ?_
      refine V_iload_n dX4_tree_107 rfl ?_
      refine V_iald dX4_tree_108 s_10 (by omega) ?_
      exact V_iret dX4_tree_109 rfl ⟨by rw [aTree, if_pos yz]; simp only [h15]; exact h.tP (by omega) (by omega), h.same, fun _ _ _ => rfl⟩
    · refine V_tswI (v := 5) (off := 95) (tgt := 110) dX4_tree_15 h15 (by decide) rfl (by decide) ?_
      refine V_aload_n dX4_tree_110 rfl ?_
      refine V_getR (ci := 4) (j := 2) dX4_tree_111 s_0 rfl rfl i_X4_tree_X4 (by decide) f_X4_tree_26 ?_
      refine V_iload_n dX4_tree_114 rfl ?_
      refine V_iV1 dX4_tree_115 o_X4_tree_95 s_21 rfl (Nat.le_of_ble_eq_true rfl) (c_X1_owedTo G l (b := 21) (Or.inl rfl) (by omega) kn (fun i g0 g1 => by have q := hO.ln g0 g1; omega)) ?_
      rintro _ _ ⟨rfl, rfl⟩
      exact V_iret dX4_tree_118 rfl ⟨by rw [aTree, if_pos yz]; simp only [h15]; rw [← h.aL]; rfl, h.same, fun _ _ _ => rfl⟩
    · refine V_tswI (v := 6) (off := 104) (tgt := 119) dX4_tree_15 h15 (by decide) rfl (by decide) ?_
      refine V_aload_n dX4_tree_119 rfl ?_
      refine V_getR (ci := 4) (j := 2) dX4_tree_120 s_0 rfl rfl i_X4_tree_X4 (by decide) f_X4_tree_26 ?_
      refine V_getR (ci := 1) (j := 2) dX4_tree_123 s_21 rfl rfl i_X4_tree_X1 (by decide) f_X4_tree_99 ?_
      refine V_iload_n dX4_tree_126 rfl ?_
      refine V_iald dX4_tree_127 s_23 (by omega) ?_
      exact V_iret dX4_tree_128 rfl ⟨by rw [aTree, if_pos yz]; simp only [h15]; exact h.aF (by omega) (by omega), h.same, fun _ _ _ => rfl⟩
    · refine V_tswI (v := 7) (off := 114) (tgt := 129) dX4_tree_15 h15 (by decide) rfl (by decide) ?_
      refine V_aload_n dX4_tree_129 rfl ?_
      refine V_getR (ci := 4) (j := 2) dX4_tree_130 s_0 rfl rfl i_X4_tree_X4 (by decide) f_X4_tree_26 ?_
      refine V_aload_n dX4_tree_133 rfl ?_
      refine V_getR (ci := 4) (j := 1) dX4_tree_134 s_0 rfl rfl i_X4_tree_X4 (by decide) f_X4_tree_19 ?_
      refine V_iload_n dX4_tree_137 rfl ?_
      refine V_iV2 dX4_tree_138 o_X4_tree_102 s_21 rfl (Nat.le_of_ble_eq_true rfl) (c_X1_isCross G l (b := 21) (d := 5) (Or.inl rfl) (Or.inl rfl) (by omega) hO hT) ?_
      rintro z7 _ ⟨hz7, rfl⟩
      rw [h.aL, h.tQ] at hz7
      have rz7 : z7 = 0 ∨ z7 = 1 := by rw [hz7]; split <;> simp
      refine V_if_eq (tgt := 148) dX4_tree_141 (by decide) (by omega) (fun h141 => ?_) (fun h141 => ?_)
      · refine V_iconst dX4_tree_148 ?_
        exact V_iret dX4_tree_149 rfl ⟨by rw [aTree, if_pos yz]; simp only [h15]; first | exact (show (1 : Int) = (if crS i σ.2.2.1.2.2.2.2 σ.2.1.2.2.2.2.2.2.1 then 1 else 0) by rw [← hz7]; omega) | exact (show (0 : Int) = (if crS i σ.2.2.1.2.2.2.2 σ.2.1.2.2.2.2.2.2.1 then 1 else 0) by rw [← hz7]; omega), h.same, fun _ _ _ => rfl⟩
      · refine V_iconst dX4_tree_144 ?_
        refine V_goto (tgt := 149) dX4_tree_145 (by decide) ?_
        exact V_iret dX4_tree_149 rfl ⟨by rw [aTree, if_pos yz]; simp only [h15]; first | exact (show (1 : Int) = (if crS i σ.2.2.1.2.2.2.2 σ.2.1.2.2.2.2.2.2.1 then 1 else 0) by rw [← hz7]; omega) | exact (show (0 : Int) = (if crS i σ.2.2.1.2.2.2.2 σ.2.1.2.2.2.2.2.2.1 then 1 else 0) by rw [← hz7]; omega), h.same, fun _ _ _ => rfl⟩
    · refine V_tswO (tgt := 150) dX4_tree_15 (by omega) h15 (by decide) ?_
      refine V_bipush dX4_tree_150 rfl ?_
      exact V_iret dX4_tree_152 rfl ⟨by rw [aTree, if_pos yz, if_neg (by omega), if_neg (by omega), if_neg (by omega), if_neg (by omega), if_neg (by omega), if_neg (by omega), if_neg (by omega), if_neg (by omega)], h.same, fun _ _ _ => rfl⟩
  · have yz : ¬ hasS σ.2.1 i := fun q9 => by rw [if_pos ⟨q9.1, by have := q9.2; omega⟩] at hz; omega
    refine V_bipush dX4_tree_11 rfl ?_
    exact V_iret dX4_tree_13 rfl ⟨by rw [aTree, if_neg yz], h.same, fun _ _ _ => rfl⟩
set_option maxRecDepth 100000 in
set_option maxHeartbeats 4000000 in
theorem c_X4_loan (G : Gb) (l : Launch) {w : Wd} {c : Int} {σ : SG} (h : SC c σ w) {i : Int} (hi : inR i) {q : Int} (hq : inR q) : Ci G l yX4_loan mX4_loan [.ref (gA G 0), .int (iZ i), .int (iZ q)] w (fun z w' => z = aLoan σ.2.2.1 i q ∧ SC (c + 1) σ w' ∧ frC w w') := by
  refine V_start 0 (by decide) rfl rfl (Nat.le_of_ble_eq_true rfl) ?_
  show V G l mX4_loan _ 0 [some (.ref (gA G 0)), some (.int (iZ i)), some (.int (iZ q))] [] w
  have hT := h.2.1.2
  have hO := h.2.2.1.2.1
  have kt := hT.1
  have kn := hO.n
  have eN := h.tN
  have eL := h.aN
  refine V_iload_n dX4_loan_0 rfl ?_
  refine V_if_lt (tgt := 15) dX4_loan_1 (by decide) (by omega) (fun h1 => ?_) (fun h1 => ?_)
  · refine V_bipush dX4_loan_15 rfl ?_
    exact V_iret dX4_loan_17 rfl ⟨by rw [aLoan, if_neg (by omega)], h.same, fun _ _ _ => rfl⟩
  · refine V_iload_n dX4_loan_4 rfl ?_
    refine V_aload_n dX4_loan_5 rfl ?_
    refine V_getR (ci := 4) (j := 2) dX4_loan_6 s_0 rfl rfl i_X4_loan_X4 (by decide) f_X4_loan_26 ?_
    refine V_getI (ci := 1) (j := 3) (ji := 3) dX4_loan_9 s_21 rfl rfl i_X4_loan_X1 (by decide) f_X4_loan_106 rfl ?_
    refine V_icmp_lt (tgt := 18) dX4_loan_12 (by decide) (by omega) (by omega) (fun h12 => ?_) (fun h12 => ?_)
    · refine V_iload_n dX4_loan_18 rfl ?_
      rcases (show q = 0 ∨ q = 1 ∨ q = 2 ∨ q = 3 ∨ q = 4 ∨ (q < 0 ∨ 4 < q) by omega) with h19 | h19 | h19 | h19 | h19 | h19
      · refine V_tswI (v := 0) (off := 33) (tgt := 52) dX4_loan_19 h19 (by decide) rfl (by decide) ?_
        refine V_aload_n dX4_loan_52 rfl ?_
        refine V_getR (ci := 4) (j := 2) dX4_loan_53 s_0 rfl rfl i_X4_loan_X4 (by decide) f_X4_loan_26 ?_
        refine V_getR (ci := 1) (j := 4) dX4_loan_56 s_21 rfl rfl i_X4_loan_X1 (by decide) f_X4_loan_109 ?_
        refine V_iload_n dX4_loan_59 rfl ?_
        refine V_iald dX4_loan_60 s_24 (by omega) ?_
        exact V_iret dX4_loan_61 rfl ⟨by rw [aLoan, if_pos (by omega)]; simp only [h19]; rw [← h.aL, cLs_D (by omega) (by omega)]; rfl, h.same, fun _ _ _ => rfl⟩
      · refine V_tswI (v := 1) (off := 43) (tgt := 62) dX4_loan_19 h19 (by decide) rfl (by decide) ?_
        refine V_aload_n dX4_loan_62 rfl ?_
        refine V_getR (ci := 4) (j := 2) dX4_loan_63 s_0 rfl rfl i_X4_loan_X4 (by decide) f_X4_loan_26 ?_
        refine V_getR (ci := 1) (j := 5) dX4_loan_66 s_21 rfl rfl i_X4_loan_X1 (by decide) f_X4_loan_112 ?_
        refine V_iload_n dX4_loan_69 rfl ?_
        refine V_iald dX4_loan_70 s_25 (by omega) ?_
        exact V_iret dX4_loan_71 rfl ⟨by rw [aLoan, if_pos (by omega)]; simp only [h19]; rw [← h.aL, cLs_D (by omega) (by omega)]; rfl, h.same, fun _ _ _ => rfl⟩
      · refine V_tswI (v := 2) (off := 53) (tgt := 72) dX4_loan_19 h19 (by decide) rfl (by decide) ?_
        refine V_aload_n dX4_loan_72 rfl ?_
        refine V_getR (ci := 4) (j := 2) dX4_loan_73 s_0 rfl rfl i_X4_loan_X4 (by decide) f_X4_loan_26 ?_
        refine V_getR (ci := 1) (j := 6) dX4_loan_76 s_21 rfl rfl i_X4_loan_X1 (by decide) f_X4_loan_115 ?_
        refine V_iload_n dX4_loan_79 rfl ?_
        refine V_iald dX4_loan_80 s_26 (by omega) ?_
        exact V_iret dX4_loan_81 rfl ⟨by rw [aLoan, if_pos (by omega)]; simp only [h19]; rw [← h.aL, cLs_D (by omega) (by omega)]; rfl, h.same, fun _ _ _ => rfl⟩
      · refine V_tswI (v := 3) (off := 63) (tgt := 82) dX4_loan_19 h19 (by decide) rfl (by decide) ?_
        refine V_aload_n dX4_loan_82 rfl ?_
        refine V_getR (ci := 4) (j := 2) dX4_loan_83 s_0 rfl rfl i_X4_loan_X4 (by decide) f_X4_loan_26 ?_
        refine V_getR (ci := 1) (j := 7) dX4_loan_86 s_21 rfl rfl i_X4_loan_X1 (by decide) f_X4_loan_118 ?_
        refine V_iload_n dX4_loan_89 rfl ?_
        refine V_iald dX4_loan_90 s_27 (by omega) ?_
        exact V_iret dX4_loan_91 rfl ⟨by rw [aLoan, if_pos (by omega)]; simp only [h19]; rw [← h.aL, cLs_D (by omega) (by omega)]; rfl, h.same, fun _ _ _ => rfl⟩
      · refine V_tswI (v := 4) (off := 73) (tgt := 92) dX4_loan_19 h19 (by decide) rfl (by decide) ?_
        refine V_aload_n dX4_loan_92 rfl ?_
        refine V_getR (ci := 4) (j := 2) dX4_loan_93 s_0 rfl rfl i_X4_loan_X4 (by decide) f_X4_loan_26 ?_
        refine V_getR (ci := 1) (j := 8) dX4_loan_96 s_21 rfl rfl i_X4_loan_X1 (by decide) f_X4_loan_121 ?_
        refine V_iload_n dX4_loan_99 rfl ?_
        refine V_iald dX4_loan_100 s_28 (by omega) ?_
        exact V_iret dX4_loan_101 rfl ⟨by rw [aLoan, if_pos (by omega)]; simp only [h19]; rw [← h.aL, cLs_D (by omega) (by omega)]; rfl, h.same, fun _ _ _ => rfl⟩
      · refine V_tswO (tgt := 102) dX4_loan_19 (by omega) h19 (by decide) ?_
        refine V_bipush dX4_loan_102 rfl ?_
        exact V_iret dX4_loan_104 rfl ⟨by rw [aLoan, if_pos (by omega), if_neg (by omega), if_neg (by omega), if_neg (by omega), if_neg (by omega), if_neg (by omega)], h.same, fun _ _ _ => rfl⟩
    · refine V_bipush dX4_loan_15 rfl ?_
      exact V_iret dX4_loan_17 rfl ⟨by rw [aLoan, if_neg (by omega)], h.same, fun _ _ _ => rfl⟩
set_option maxRecDepth 100000 in
set_option maxHeartbeats 4000000 in
theorem c_X4_as (G : Gb) (l : Launch) {w : Wd} {c : Int} {σ : SG} (h : SC c σ w) {i : Int} (hi : inR i) {q : Int} (hq : inR q) : Ci G l yX4_as mX4_as [.ref (gA G 0), .int (iZ i), .int (iZ q)] w (fun z w' => z = aAs σ.2.1 i q ∧ SC (c + 1) σ w' ∧ frC w w') := by
  refine V_start 0 (by decide) rfl rfl (Nat.le_of_ble_eq_true rfl) ?_
  show V G l mX4_as _ 0 [some (.ref (gA G 0)), some (.int (iZ i)), some (.int (iZ q))] [] w
  have hT := h.2.1.2
  have hO := h.2.2.1.2.1
  have kt := hT.1
  have kn := hO.n
  have eN := h.tN
  have eL := h.aN
  refine V_aload_n dX4_as_0 rfl ?_
  refine V_getR (ci := 4) (j := 1) dX4_as_1 s_0 rfl rfl i_X4_as_X4 (by decide) f_X4_as_19 ?_
  refine V_iload_n dX4_as_4 rfl ?_
  refine V_iV1 dX4_as_5 o_X4_as_75 s_5 rfl (Nat.le_of_ble_eq_true rfl) (c_X3_has G l (d := 5) (Or.inl rfl) (by omega) (by omega)) ?_
  rintro z _ ⟨hz, rfl⟩
  have rz : z = 0 ∨ z = 1 := by rw [hz]; split <;> simp
  refine V_if_ne (tgt := 14) dX4_as_8 (by decide) (by omega) (fun h8 => ?_) (fun h8 => ?_)
  · have yz : hasS σ.2.1 i := by
      by_cases q9 : 0 ≤ i ∧ i < w 5 0
      · exact ⟨q9.1, by omega⟩
      · rw [if_neg q9] at hz; omega
    have bz := yz.2
    have dz := yz.1
    have kk := hT.2.2.2.1 i dz (by omega)
    refine V_iload_n dX4_as_14 rfl ?_
    refine V_if_lt (tgt := 26) dX4_as_15 (by decide) (by omega) (fun h15 => ?_) (fun h15 => ?_)
    · refine V_bipush dX4_as_26 rfl ?_
      exact V_iret dX4_as_28 rfl ⟨by rw [aAs, if_pos yz, if_neg (by omega)], h.same, fun _ _ _ => rfl⟩
    · refine V_iload_n dX4_as_18 rfl ?_
      refine V_over dX4_as_19 (List.mem_of_getElem? (i := 2) rfl) ?_
      refine V_overLen dX4_as_22 ?_
      refine V_icmp_lt (tgt := 29) dX4_as_23 (by decide) (by omega) (by omega) (fun h23 => ?_) (fun h23 => ?_)
      · refine V_aload_n dX4_as_29 rfl ?_
        refine V_getR (ci := 4) (j := 1) dX4_as_30 s_0 rfl rfl i_X4_as_X4 (by decide) f_X4_as_19 ?_
        refine V_iload_n dX4_as_33 rfl ?_
        refine V_iload_n dX4_as_34 rfl ?_
        refine V_iV2 dX4_as_35 o_X4_as_127 s_5 rfl (Nat.le_of_ble_eq_true rfl) (c_X3_isOfKind G l (d := 5) (Or.inl rfl) (by omega) (by omega) kk.1) ?_
        rintro z3 _ ⟨hz3, rfl⟩
        have rz3 : z3 = 0 ∨ z3 = 1 := by rw [hz3]; split <;> simp
        have eK : w (5 + 1) i = σ.2.1.2.1.getD i.toNat 0 := h.tK dz (by omega)
        rw [eK] at hz3
        refine V_if_ne (tgt := 44) dX4_as_38 (by decide) (by omega) (fun h38 => ?_) (fun h38 => ?_)
        · have yk : ofK (σ.2.1.2.1.getD i.toNat 0) q = true := by
            cases q9 : ofK (σ.2.1.2.1.getD i.toNat 0) q
            · rw [q9] at hz3; simp at hz3; omega
            · rfl
          refine V_aload_n dX4_as_44 rfl ?_
          refine V_getR (ci := 4) (j := 1) dX4_as_45 s_0 rfl rfl i_X4_as_X4 (by decide) f_X4_as_19 ?_
          refine V_iload_n dX4_as_48 rfl ?_
          refine V_iconst dX4_as_49 ?_
          refine V_iconst dX4_as_50 ?_
          refine V_iV3 dX4_as_51 o_X4_as_131 s_5 rfl (Nat.le_of_ble_eq_true rfl) (c_X3_grownIn G l (d := 5) (n := 1) (q := 1) (Or.inl rfl) (by omega) (by omega) kk.1 kk.2.2.1 (by omega)) ?_
          rintro _ _ ⟨rfl, rfl⟩
          exact V_iret dX4_as_54 rfl ⟨by rw [aAs, if_pos yz, if_pos (by omega), if_pos yk, ← h.tK dz (by omega), ← h.tR dz (by omega)]; rfl, h.same, fun _ _ _ => rfl⟩
        · have yk : ¬ ofK (σ.2.1.2.1.getD i.toNat 0) q = true := fun q9 => by rw [if_pos q9] at hz3; omega
          refine V_bipush dX4_as_41 rfl ?_
          exact V_iret dX4_as_43 rfl ⟨by rw [aAs, if_pos yz, if_pos (by omega), if_neg yk], h.same, fun _ _ _ => rfl⟩
      · refine V_bipush dX4_as_26 rfl ?_
        exact V_iret dX4_as_28 rfl ⟨by rw [aAs, if_pos yz, if_neg (by omega)], h.same, fun _ _ _ => rfl⟩
  · have yz : ¬ hasS σ.2.1 i := fun q9 => by rw [if_pos ⟨q9.1, by have := q9.2; omega⟩] at hz; omega
    refine V_bipush dX4_as_11 rfl ?_
    exact V_iret dX4_as_13 rfl ⟨by rw [aAs, if_neg yz], h.same, fun _ _ _ => rfl⟩

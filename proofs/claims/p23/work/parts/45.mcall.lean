/-! ===== 45 the reference's calls: its state, what is read ===== -/
def TM (w : Wd) (T : List Int) : Prop := w 71 3 = (T.length : Int) ∧ T.length ≤ 200 ∧ ∀ i : Int, 0 ≤ i → i < (T.length : Int) → w 74 i = ch T i ∧ 0 ≤ ch T i ∧ ch T i ≤ 255
theorem TM.keep {w w' : Wd} {T : List Int} (h : TM w T) (h1 : w' 71 3 = w 71 3) (h2 : ∀ i : Int, w' 74 i = w 74 i) : TM w' T := ⟨h1.trans h.1, h.2.1, fun i g0 g1 => by rw [h2]; exact h.2.2 i g0 g1⟩
/-- the row that is told: day 0, nothing failed, nothing burnt or sold, no loans -/
def tdM (w : Wd) : Prop := w 72 300 = 0 ∧ w 72 301 = 0 ∧ (∀ t : Int, 0 ≤ t → t < 6 → w 72 (308 + t) = 0) ∧ w 72 314 = 0
def kpM (c : Int) (w : Wd) (j o : Int) (k : Option AS) : Prop := (w 73 j = 0 ∧ k = none) ∨ (w 73 j = 1 ∧ k = some (mAS w o) ∧ okM c w o ∧ w 72 o ≤ 9999)
/-- the reference's object is in the state σ, behind c calls at most -/
def SM (c : Int) (σ : SG) (w : Wd) : Prop := TM w σ.1 ∧ (tM w = σ.2.1 ∧ okTm w ∧ tdM w) ∧ (mAS w 0 = σ.2.2.1 ∧ okM c w 0 ∧ w 72 0 ≤ 9999) ∧ kpM c w 0 75 σ.2.2.2.1 ∧ kpM c w 1 150 σ.2.2.2.2
/-- the class's object is as it was -/
def frM (w w' : Wd) : Prop := ∀ (k : Nat) (j : Int), k < 71 → w' k j = w k j
theorem okM_mono {c c' : Int} {w : Wd} {o : Int} (h : okM c w o) (hc : c ≤ c') : okM c' w o := ⟨h.1, okAS_mono h.2 hc⟩
theorem okM_eq {c : Int} {w w' : Wd} {o o' : Int} (ho : okM c w o) (h : ∀ j : Int, 0 ≤ j → j < 75 → w' 72 (o' + j) = w 72 (o + j)) : okM c w' o' ∧ mAS w' o' = mAS w o := by
  have e : mAS w' o' = mAS w o := (mAS_eq ho.n.2 (fun j q0 q1 => (h j q0 q1).symm)).symm
  exact ⟨⟨by rw [h 14 (by omega) (by omega)]; exact ho.1, by rw [e]; exact ho.2⟩, e⟩
theorem kpM_keep {c : Int} {w w' : Wd} {j o : Int} {k : Option AS} (h : kpM c w j o k) (h4 : w' 73 j = w 73 j) (g : ∀ j : Int, o ≤ j → j < o + 75 → w' 72 j = w 72 j) : kpM c w' j o k := by
  rcases h with ⟨h1, h2⟩ | ⟨h1, h2, h3, h5⟩
  · exact Or.inl ⟨h4.trans h1, h2⟩
  · obtain ⟨a1, a2⟩ := okM_eq h3 (w' := w') (o' := o) (fun j q0 q1 => g _ (by omega) (by omega))
    exact Or.inr ⟨h4.trans h1, by rw [a2]; exact h2, a1, by rw [g o (by omega) (by omega)]; exact h5⟩
theorem kpM_mono {c c' : Int} {w : Wd} {j o : Int} {k : Option AS} (h : kpM c w j o k) (hc : c ≤ c') : kpM c' w j o k := by
  rcases h with h | ⟨h1, h2, h3, h5⟩
  · exact Or.inl h
  · exact Or.inr ⟨h1, h2, okM_mono h3 hc, h5⟩
theorem tM_eq {w w' : Wd} (g1 : ∀ j : Int, (j = 10 ∨ j = 12 ∨ j = 13) → w' 71 j = w 71 j) (g2 : ∀ j : Int, 302 ≤ j → j < 308 → w' 72 j = w 72 j) (g3 : ∀ (k : Nat) (j : Int), 76 ≤ k → k ≤ 80 → w' k j = w k j) : tM w' = tM w := by
  have eq : qsM w' = qsM w := by
    unfold qsM
    rw [g1 12 (by omega)]
    apply List.map_congr_left
    intro i _
    rw [g3 80 _ (by omega) (by omega), g3 80 _ (by omega) (by omega)]
  unfold tM
  rw [g1 10 (by omega), g1 13 (by omega), eq, gl_eq (w := w') (w' := w) (k := 76) (k' := 76) (o := 0) (o' := 0) (fun i _ _ => g3 _ _ (by omega) (by omega)), gl_eq (w := w') (w' := w) (k := 72) (k' := 72) (o := 302) (o' := 302) (fun i _ _ => g2 _ (by omega) (by omega)), gl_eq (w := w') (w' := w) (k := 77) (k' := 77) (o := 0) (o' := 0) (fun i _ _ => g3 _ _ (by omega) (by omega)), gl_eq (w := w') (w' := w) (k := 78) (k' := 78) (o := 0) (o' := 0) (fun i _ _ => g3 _ _ (by omega) (by omega)), gl_eq (w := w') (w' := w) (k := 79) (k' := 79) (o := 0) (o' := 0) (fun i _ _ => g3 _ _ (by omega) (by omega))]
theorem okTm_eq {w w' : Wd} (h : okTm w) (g1 : ∀ j : Int, (j = 10 ∨ j = 12 ∨ j = 13) → w' 71 j = w 71 j) (g2 : ∀ j : Int, 302 ≤ j → j < 308 → w' 72 j = w 72 j) (g3 : ∀ (k : Nat) (j : Int), 76 ≤ k → k ≤ 80 → w' k j = w k j) : okTm w' := by
  obtain ⟨h1, h2, h3, h4, h5⟩ := h
  refine ⟨by rw [g1 10 (by omega)]; exact h1, by rw [g1 12 (by omega)]; exact h2, by rw [g1 13 (by omega)]; exact h3, fun t q0 q1 => ?_, fun q q0 q1 => ?_⟩
  · rw [g3 76 _ (by omega) (by omega), g2 _ (by omega) (by omega), g3 77 _ (by omega) (by omega), g3 78 _ (by omega) (by omega), g3 79 _ (by omega) (by omega)]
    exact h4 t q0 q1
  · rw [g1 12 (by omega)] at q1
    rw [g3 80 _ (by omega) (by omega), g3 80 _ (by omega) (by omega)]
    exact h5 q q0 q1
theorem tdM_eq {w w' : Wd} (h : tdM w) (g : ∀ j : Int, 300 ≤ j → j < 375 → w' 72 j = w 72 j) : tdM w' := by
  obtain ⟨h1, h2, h3, h4⟩ := h
  exact ⟨by rw [g _ (by omega) (by omega)]; exact h1, by rw [g _ (by omega) (by omega)]; exact h2, fun t q0 q1 => by rw [g _ (by omega) (by omega)]; exact h3 t q0 q1, by rw [g _ (by omega) (by omega)]; exact h4⟩
theorem SM.mono {c c' : Int} {σ : SG} {w : Wd} (h : SM c σ w) (hc : c ≤ c') : SM c' σ w := by
  obtain ⟨h1, h2, ⟨h4, h5, h6⟩, h7, h8⟩ := h
  exact ⟨h1, h2, ⟨h4, okM_mono h5 hc, h6⟩, kpM_mono h7 hc, kpM_mono h8 hc⟩
theorem SM.same {c : Int} {σ : SG} {w : Wd} (h : SM c σ w) : SM (c + 1) σ w := h.mono (by omega)
/-- what may change without its being seen: the reader's own, what is tried, prices and leasts -/
theorem SM.keep {c c' : Int} {σ : SG} {w w' : Wd} (h : SM c σ w) (hc : c ≤ c') (g : ∀ (k : Nat) (j : Int), ((k = 71 ∧ (j = 3 ∨ j = 10 ∨ j = 12 ∨ j = 13)) ∨ (k = 72 ∧ (j < 225 ∨ 300 ≤ j)) ∨ k = 73 ∨ k = 74 ∨ (76 ≤ k ∧ k ≤ 80)) → w' k j = w k j) : SM c' σ w' := by
  obtain ⟨h1, ⟨h2, h3, h9⟩, ⟨h4, h5, h6⟩, h7, h8⟩ := h
  obtain ⟨a1, a2⟩ := okM_eq h5 (w' := w') (o' := 0) (fun j q0 q1 => g _ _ (by omega))
  exact ⟨h1.keep (g _ _ (by omega)) (fun i => g _ _ (by omega)), ⟨by rw [tM_eq (fun j q => g _ _ (by omega)) (fun j _ _ => g _ _ (by omega)) (fun k j _ _ => g _ _ (by omega))]; exact h2, okTm_eq h3 (fun j q => g _ _ (by omega)) (fun j _ _ => g _ _ (by omega)) (fun k j _ _ => g _ _ (by omega)), tdM_eq h9 (fun j _ _ => g _ _ (by omega))⟩, ⟨by rw [a2]; exact h4, okM_mono a1 hc, by rw [g _ _ (by omega)]; exact h6⟩, kpM_mono (kpM_keep h7 (g _ _ (by omega)) (fun j _ _ => g _ _ (by omega))) hc, kpM_mono (kpM_keep h8 (g _ _ (by omega)) (fun j _ _ => g _ _ (by omega))) hc⟩
/-- another row as it is now -/
theorem SM.now {c : Int} {σ : SG} {w w' : Wd} {a : AS} (h : SM c σ w) (g : frO 0 w w') (e : mAS w' 0 = a) (ho : okM (c + 1) w' 0) (hd : w' 72 0 ≤ 9999) : SM (c + 1) (σ.1, σ.2.1, a, σ.2.2.2) w' := by
  have h' := h.same
  obtain ⟨h1, ⟨h2, h3, h9⟩, h4, h7, h8⟩ := h'
  exact ⟨h1.keep (g _ _ (by omega)) (fun i => g _ _ (by omega)), ⟨by rw [tM_eq (fun j q => g _ _ (by omega)) (fun j _ _ => g _ _ (by omega)) (fun k j _ _ => g _ _ (by omega))]; exact h2, okTm_eq h3 (fun j q => g _ _ (by omega)) (fun j _ _ => g _ _ (by omega)) (fun k j _ _ => g _ _ (by omega)), tdM_eq h9 (fun j _ _ => g _ _ (by omega))⟩, ⟨e, ho, hd⟩, kpM_keep h7 (g _ _ (by omega)) (fun j _ _ => g _ _ (by omega)), kpM_keep h8 (g _ _ (by omega)) (fun j _ _ => g _ _ (by omega))⟩
theorem frO.m {o : Int} {w w' : Wd} (h : frO o w w') : frM w w' := fun k j q => h k j (by omega)
theorem SM.tN {c : Int} {σ : SG} {w : Wd} (h : SM c σ w) : w 71 10 = σ.2.1.1 := congrArg (fun t : TS => t.1) h.2.1.1
theorem SM.tH {c : Int} {σ : SG} {w : Wd} (h : SM c σ w) : w 71 13 = σ.2.1.2.2.2.2.2.2.2 := congrArg (fun t : TS => t.2.2.2.2.2.2.2) h.2.1.1
theorem SM.tQ {c : Int} {σ : SG} {w : Wd} (h : SM c σ w) : qsM w = σ.2.1.2.2.2.2.2.2.1 := congrArg (fun t : TS => t.2.2.2.2.2.2.1) h.2.1.1
theorem SM.tK' {c : Int} {σ : SG} {w : Wd} (h : SM c σ w) : gl w 76 0 6 = σ.2.1.2.1 := congrArg (fun t : TS => t.2.1) h.2.1.1
theorem SM.tR' {c : Int} {σ : SG} {w : Wd} (h : SM c σ w) : gl w 77 0 6 = σ.2.1.2.2.2.1 := congrArg (fun t : TS => t.2.2.2.1) h.2.1.1
theorem SM.tP' {c : Int} {σ : SG} {w : Wd} (h : SM c σ w) : gl w 79 0 6 = σ.2.1.2.2.2.2.2.1 := congrArg (fun t : TS => t.2.2.2.2.2.1) h.2.1.1
theorem SM.tK {c : Int} {σ : SG} {w : Wd} (h : SM c σ w) {i : Int} (h0 : 0 ≤ i) (h1 : i < 6) : w 76 i = σ.2.1.2.1.getD i.toNat 0 := by rw [gl_0 (w := w) (k := 76) (n := 6) h0 h1, h.tK']
theorem SM.tR {c : Int} {σ : SG} {w : Wd} (h : SM c σ w) {i : Int} (h0 : 0 ≤ i) (h1 : i < 6) : w 77 i = σ.2.1.2.2.2.1.getD i.toNat 0 := by rw [gl_0 (w := w) (k := 77) (n := 6) h0 h1, h.tR']
theorem SM.tT {c : Int} {σ : SG} {w : Wd} (h : SM c σ w) {i : Int} (h0 : 0 ≤ i) (h1 : i < 6) : w 78 i = σ.2.1.2.2.2.2.1.getD i.toNat 0 := by rw [gl_0 (w := w) (k := 78) (n := 6) h0 h1]; exact congrArg (fun t : TS => t.2.2.2.2.1.getD i.toNat 0) h.2.1.1
theorem SM.tP {c : Int} {σ : SG} {w : Wd} (h : SM c σ w) {i : Int} (h0 : 0 ≤ i) (h1 : i < 6) : w 79 i = σ.2.1.2.2.2.2.2.1.getD i.toNat 0 := by rw [gl_0 (w := w) (k := 79) (n := 6) h0 h1, h.tP']
theorem SM.aL {c : Int} {σ : SG} {w : Wd} (h : SM c σ w) : mLs w 0 = σ.2.2.1.2.2.2.2 := congrArg (fun t : AS => t.2.2.2.2) h.2.2.1.1
theorem SM.aD {c : Int} {σ : SG} {w : Wd} (h : SM c σ w) : w 72 0 = σ.2.2.1.1 := congrArg (fun t : AS => t.1) h.2.2.1.1
theorem SM.aX {c : Int} {σ : SG} {w : Wd} (h : SM c σ w) : w 72 1 = σ.2.2.1.2.1 := congrArg (fun t : AS => t.2.1) h.2.2.1.1
theorem SM.aH {c : Int} {σ : SG} {w : Wd} (h : SM c σ w) {i : Int} (h0 : 0 ≤ i) (h1 : i < 6) : w 72 (2 + i) = σ.2.2.1.2.2.1.getD i.toNat 0 := by rw [gl_0m (w := w) (k := 72) (o := 2) (n := 6) h0 h1]; exact congrArg (fun t : AS => t.2.2.1.getD i.toNat 0) h.2.2.1.1
theorem SM.aF {c : Int} {σ : SG} {w : Wd} (h : SM c σ w) {i : Int} (h0 : 0 ≤ i) (h1 : i < 6) : w 72 (8 + i) = σ.2.2.1.2.2.2.1.getD i.toNat 0 := by rw [gl_0m (w := w) (k := 72) (o := 8) (n := 6) h0 h1]; exact congrArg (fun t : AS => t.2.2.2.1.getD i.toNat 0) h.2.2.1.1
theorem SM.aN {c : Int} {σ : SG} {w : Wd} (h : SM c σ w) : w 72 14 = ((σ.2.2.1.2.2.2.2.length : Nat) : Int) := by
  rw [← h.aL, mLs_len]
  have : 0 ≤ w 72 14 := h.2.2.1.2.1.1
  show w 72 14 = ((w 72 14).toNat : Int)
  omega
theorem SM.has0 {c : Int} {σ : SG} {w : Wd} (h : SM c σ w) {i : Int} (h0 : 0 ≤ i) (h1 : i < 6) : 0 ≤ w 72 (2 + i) ∧ w 72 (2 + i) ≤ 99 := h.2.2.1.2.1.has h0 h1
theorem SM.fate0 {c : Int} {σ : SG} {w : Wd} (h : SM c σ w) {i : Int} (h0 : 0 ≤ i) (h1 : i < 6) : 0 ≤ w 72 (8 + i) ∧ w 72 (8 + i) ≤ 2 := h.2.2.1.2.1.fate h0 h1
theorem erM_ok {c : Int} {σ : SG} {w : Wd} (h : SM c σ w) : SM (c + 1) ([], σ.2) (up w 71 3 0) := by
  have h' := h.same
  obtain ⟨h1, ⟨h2, h3, h9⟩, ⟨h4, h5, h6⟩, h7, h8⟩ := h'
  have g : ∀ (k : Nat) (j : Int), k ≠ 71 ∨ j ≠ 3 → up w 71 3 0 k j = w k j := fun k j q => up_ne q
  obtain ⟨a1, a2⟩ := okM_eq h5 (w' := up w 71 3 0) (o' := 0) (fun j q0 q1 => g _ _ (by omega))
  exact ⟨⟨by rw [up_eq]; rfl, by simp, fun i g0 g1 => by simp at g1; omega⟩, ⟨by rw [tM_eq (fun j q => g _ _ (by omega)) (fun j _ _ => g _ _ (by omega)) (fun k j _ _ => g _ _ (by omega))]; exact h2, okTm_eq h3 (fun j q => g _ _ (by omega)) (fun j _ _ => g _ _ (by omega)) (fun k j _ _ => g _ _ (by omega)), tdM_eq h9 (fun j _ _ => g _ _ (by omega))⟩, ⟨by rw [a2]; exact h4, a1, by rw [g _ _ (by omega)]; exact h6⟩, kpM_keep h7 (g _ _ (by omega)) (fun j _ _ => g _ _ (by omega)), kpM_keep h8 (g _ _ (by omega)) (fun j _ _ => g _ _ (by omega))⟩
set_option maxRecDepth 100000 in
set_option maxHeartbeats 4000000 in
theorem c_X5_erase (G : Gb) (l : Launch) {w : Wd} {c : Int} {σ : SG} (h : SM c σ w) : Ci G l yX5_erase mX5_erase [.ref (gA G 71)] w (fun z w' => z = ((σ.1.length : Nat) : Int) ∧ SM (c + 1) ([], σ.2) w' ∧ frM w w') := by
  refine V_start 1 (by decide) rfl rfl (Nat.le_of_ble_eq_true rfl) ?_
  show V G l mX5_erase _ 0 [some (.ref (gA G 71)), none] [] w
  refine V_aload_n dX5_erase_0 rfl ?_
  refine V_getI (ci := 5) (j := 3) (ji := 3) dX5_erase_1 s_71 rfl rfl i_X5_erase_X5 (by decide) f_X5_erase_54 rfl ?_
  refine V_istore_n dX5_erase_4 (by decide) rfl ?_
  refine V_aload_n dX5_erase_5 rfl ?_
  refine V_iconst dX5_erase_6 ?_
  refine V_putI (ci := 5) (j := 3) (ji := 3) dX5_erase_7 s_71 rfl rfl i_X5_erase_X5 tyX5_ok nmX5 (by decide) f_X5_erase_54 rfl rfl rfl ?_
  refine V_iload_n dX5_erase_10 rfl ?_
  exact V_iret dX5_erase_11 rfl ⟨h.1.1, erM_ok h, fun k j q => by rw [up_ne (by omega)]⟩
set_option maxRecDepth 100000 in
set_option maxHeartbeats 4000000 in
theorem c_X5_tree (G : Gb) (l : Launch) {w : Wd} {c : Int} {σ : SG} (h : SM c σ w) {i : Int} (hi : inR i) {q : Int} (hq : inR q) : Ci G l yX5_tree mX5_tree [.ref (gA G 71), .int (iZ i), .int (iZ q)] w (fun z w' => z = aTree σ.2.1 σ.2.2.1 i q ∧ SM (c + 1) σ w' ∧ frM w w') := by
  refine V_start 0 (by decide) rfl rfl (Nat.le_of_ble_eq_true rfl) ?_
  show V G l mX5_tree _ 0 [some (.ref (gA G 71)), some (.int (iZ i)), some (.int (iZ q))] [] w
  have hT := h.2.1.2.1
  have hO := h.2.2.1.2.1
  have kt := hT.1
  have kn : 0 ≤ w 72 14 ∧ w 72 14 ≤ 12 := hO.n
  have eN := h.tN
  have eL := h.aN
  refine V_aload_n dX5_tree_0 rfl ?_
  refine V_iload_n dX5_tree_1 rfl ?_
  refine V_iV1 dX5_tree_2 o_X5_tree_166 s_71 rfl (Nat.le_of_ble_eq_true rfl) (c_X5_isTree G l (by omega) kt) ?_
  rintro z _ ⟨hz, rfl⟩
  have rz : z = 0 ∨ z = 1 := by rw [hz]; split <;> simp
  refine V_if_ne (tgt := 11) dX5_tree_5 (by decide) (by omega) (fun h5 => ?_) (fun h5 => ?_)
  · have yz : hasS σ.2.1 i := by
      by_cases q9 : 0 ≤ i ∧ i < w 71 10
      · exact ⟨q9.1, by omega⟩
      · rw [if_neg q9] at hz; omega
    have bz := yz.2
    have dz := yz.1
    refine V_iload_n dX5_tree_11 rfl ?_
    rcases (show q = 0 ∨ q = 1 ∨ q = 2 ∨ q = 3 ∨ q = 4 ∨ q = 5 ∨ q = 6 ∨ q = 7 ∨ (q < 0 ∨ 7 < q) by omega) with h12 | h12 | h12 | h12 | h12 | h12 | h12 | h12 | h12
    · refine V_tswI (v := 0) (off := 48) (tgt := 60) dX5_tree_12 h12 (by decide) rfl (by decide) ?_
      refine V_aload_n dX5_tree_60 rfl ?_
      refine V_getR (ci := 5) (j := 6) dX5_tree_61 s_71 rfl rfl i_X5_tree_X5 (by decide) f_X5_tree_23 ?_
      refine V_iload_n dX5_tree_64 rfl ?_
      refine V_iald dX5_tree_65 s_76 (by omega) ?_
      exact V_iret dX5_tree_66 rfl ⟨by rw [aTree, if_pos yz]; simp only [h12]; exact h.tK (by omega) (by omega), h.same, fun _ _ _ => rfl⟩
    · refine V_tswI (v := 1) (off := 55) (tgt := 67) dX5_tree_12 h12 (by decide) rfl (by decide) ?_
      refine V_aload_n dX5_tree_67 rfl ?_
      refine V_getR (ci := 5) (j := 0) dX5_tree_68 s_71 rfl rfl i_X5_tree_X5 (by decide) f_X5_tree_7 ?_
      refine V_iconst dX5_tree_71 ?_
      refine V_iload_n dX5_tree_72 rfl ?_
      refine V_iadd dX5_tree_73 ?_
      refine V_iald dX5_tree_74 s_72 (by omega) ?_
      exact V_iret dX5_tree_75 rfl ⟨by rw [aTree, if_pos yz]; simp only [h12]; exact h.aH (by omega) (by omega), h.same, fun _ _ _ => rfl⟩
    · refine V_tswI (v := 2) (off := 64) (tgt := 76) dX5_tree_12 h12 (by decide) rfl (by decide) ?_
      refine V_aload_n dX5_tree_76 rfl ?_
      refine V_getR (ci := 5) (j := 7) dX5_tree_77 s_71 rfl rfl i_X5_tree_X5 (by decide) f_X5_tree_26 ?_
      refine V_iload_n dX5_tree_80 rfl ?_
      refine V_iald dX5_tree_81 s_77 (by omega) ?_
      exact V_iret dX5_tree_82 rfl ⟨by rw [aTree, if_pos yz]; simp only [h12]; exact h.tR (by omega) (by omega), h.same, fun _ _ _ => rfl⟩
    · refine V_tswI (v := 3) (off := 71) (tgt := 83) dX5_tree_12 h12 (by decide) rfl (by decide) ?_
      refine V_aload_n dX5_tree_83 rfl ?_
      refine V_getR (ci := 5) (j := 8) dX5_tree_84 s_71 rfl rfl i_X5_tree_X5 (by decide) f_X5_tree_29 ?_
      refine V_iload_n dX5_tree_87 rfl ?_
      refine V_iald dX5_tree_88 s_78 (by omega) ?_
      exact V_iret dX5_tree_89 rfl ⟨by rw [aTree, if_pos yz]; simp only [h12]; exact h.tT (by omega) (by omega), h.same, fun _ _ _ => rfl⟩
    · refine V_tswI (v := 4) (off := 78) (tgt := 90) dX5_tree_12 h12 (by decide) rfl (by decide) ?_
      refine V_aload_n dX5_tree_90 rfl ?_
      refine V_getR (ci := 5) (j := 9) dX5_tree_91 s_71 rfl rfl i_X5_tree_X5 (by decide) f_X5_tree_32 ?_
      refine V_iload_n dX5_tree_94 rfl ?_
      refine V_iald dX5_tree_95 s_79 (by omega) ?_
      exact V_iret dX5_tree_96 rfl ⟨by rw [aTree, if_pos yz]; simp only [h12]; exact h.tP (by omega) (by omega), h.same, fun _ _ _ => rfl⟩
    · refine V_tswI (v := 5) (off := 85) (tgt := 97) dX5_tree_12 h12 (by decide) rfl (by decide) ?_
      refine V_aload_n dX5_tree_97 rfl ?_
      refine V_iconst dX5_tree_98 ?_
      refine V_iload_n dX5_tree_99 rfl ?_
      refine V_iV2 dX5_tree_100 o_X5_tree_140 s_71 rfl (Nat.le_of_ble_eq_true rfl) (c_X5_owedTo G l (o := 0) (by omega) (by omega) hO.n (fun i g0 g1 => by have q := hO.ln g0 g1; omega)) ?_
      rintro _ _ ⟨rfl, rfl⟩
      exact V_iret dX5_tree_103 rfl ⟨by rw [aTree, if_pos yz]; simp only [h12]; rw [← h.aL]; rfl, h.same, fun _ _ _ => rfl⟩
    · refine V_tswI (v := 6) (off := 92) (tgt := 104) dX5_tree_12 h12 (by decide) rfl (by decide) ?_
      refine V_aload_n dX5_tree_104 rfl ?_
      refine V_getR (ci := 5) (j := 0) dX5_tree_105 s_71 rfl rfl i_X5_tree_X5 (by decide) f_X5_tree_7 ?_
      refine V_bipush dX5_tree_108 rfl ?_
      refine V_iload_n dX5_tree_110 rfl ?_
      refine V_iadd dX5_tree_111 ?_
      refine V_iald dX5_tree_112 s_72 (by omega) ?_
      exact V_iret dX5_tree_113 rfl ⟨by rw [aTree, if_pos yz]; simp only [h12]; exact h.aF (by omega) (by omega), h.same, fun _ _ _ => rfl⟩
    · refine V_tswI (v := 7) (off := 102) (tgt := 114) dX5_tree_12 h12 (by decide) rfl (by decide) ?_
      refine V_aload_n dX5_tree_114 rfl ?_
      refine V_iload_n dX5_tree_115 rfl ?_
      refine V_iV1 dX5_tree_116 o_X5_tree_147 s_71 rfl (Nat.le_of_ble_eq_true rfl) (c_X5_isCross G l (by omega) hO hT) ?_
      rintro z7 _ ⟨hz7, rfl⟩
      rw [h.aL, h.tQ] at hz7
      have rz7 : z7 = 0 ∨ z7 = 1 := by rw [hz7]; split <;> simp
      refine V_if_eq (tgt := 126) dX5_tree_119 (by decide) (by omega) (fun h119 => ?_) (fun h119 => ?_)
      · refine V_iconst dX5_tree_126 ?_
        exact V_iret dX5_tree_127 rfl ⟨by rw [aTree, if_pos yz]; simp only [h12]; first | exact (show (1 : Int) = (if crS i σ.2.2.1.2.2.2.2 σ.2.1.2.2.2.2.2.2.1 then 1 else 0) by rw [← hz7]; omega) | exact (show (0 : Int) = (if crS i σ.2.2.1.2.2.2.2 σ.2.1.2.2.2.2.2.2.1 then 1 else 0) by rw [← hz7]; omega), h.same, fun _ _ _ => rfl⟩
      · refine V_iconst dX5_tree_122 ?_
        refine V_goto (tgt := 127) dX5_tree_123 (by decide) ?_
        exact V_iret dX5_tree_127 rfl ⟨by rw [aTree, if_pos yz]; simp only [h12]; first | exact (show (1 : Int) = (if crS i σ.2.2.1.2.2.2.2 σ.2.1.2.2.2.2.2.2.1 then 1 else 0) by rw [← hz7]; omega) | exact (show (0 : Int) = (if crS i σ.2.2.1.2.2.2.2 σ.2.1.2.2.2.2.2.2.1 then 1 else 0) by rw [← hz7]; omega), h.same, fun _ _ _ => rfl⟩
    · refine V_tswO (tgt := 128) dX5_tree_12 (by omega) h12 (by decide) ?_
      refine V_bipush dX5_tree_128 rfl ?_
      exact V_iret dX5_tree_130 rfl ⟨by rw [aTree, if_pos yz, if_neg (by omega), if_neg (by omega), if_neg (by omega), if_neg (by omega), if_neg (by omega), if_neg (by omega), if_neg (by omega), if_neg (by omega)], h.same, fun _ _ _ => rfl⟩
  · have yz : ¬ hasS σ.2.1 i := fun q9 => by rw [if_pos ⟨q9.1, by have := q9.2; omega⟩] at hz; omega
    refine V_bipush dX5_tree_8 rfl ?_
    exact V_iret dX5_tree_10 rfl ⟨by rw [aTree, if_neg yz], h.same, fun _ _ _ => rfl⟩
set_option maxRecDepth 100000 in
set_option maxHeartbeats 4000000 in
theorem c_X5_loan (G : Gb) (l : Launch) {w : Wd} {c : Int} {σ : SG} (h : SM c σ w) {i : Int} (hi : inR i) {q : Int} (hq : inR q) : Ci G l yX5_loan mX5_loan [.ref (gA G 71), .int (iZ i), .int (iZ q)] w (fun z w' => z = aLoan σ.2.2.1 i q ∧ SM (c + 1) σ w' ∧ frM w w') := by
  refine V_start 0 (by decide) rfl rfl (Nat.le_of_ble_eq_true rfl) ?_
  show V G l mX5_loan _ 0 [some (.ref (gA G 71)), some (.int (iZ i)), some (.int (iZ q))] [] w
  have hT := h.2.1.2.1
  have hO := h.2.2.1.2.1
  have kt := hT.1
  have kn : 0 ≤ w 72 14 ∧ w 72 14 ≤ 12 := hO.n
  have eN := h.tN
  have eL := h.aN
  refine V_iload_n dX5_loan_0 rfl ?_
  refine V_i2l dX5_loan_1 (iZ_l (by omega)) ?_
  refine V_lconst (v := lZ 0) dX5_loan_2 rfl ?_
  refine V_aload_n dX5_loan_3 rfl ?_
  refine V_getR (ci := 5) (j := 0) dX5_loan_4 s_71 rfl rfl i_X5_loan_X5 (by decide) f_X5_loan_7 ?_
  refine V_bipush dX5_loan_7 rfl ?_
  refine V_iald dX5_loan_9 s_72 (by omega) ?_
  refine V_iconst dX5_loan_10 ?_
  refine V_isub dX5_loan_11 ?_
  refine V_i2l dX5_loan_12 (iZ_l (by omega)) ?_
  refine V_iS3 dX5_loan_13 o_X5_loan_50 (Nat.le_of_ble_eq_true rfl) (c_X5_in G l (by omega) (by omega) (by omega)) ?_
  rintro z _ ⟨hz, rfl⟩
  have rz : z = 0 ∨ z = 1 := by rw [hz]; split <;> simp
  refine V_if_ne (tgt := 22) dX5_loan_16 (by decide) (by omega) (fun h16 => ?_) (fun h16 => ?_)
  · have yz : 0 ≤ i ∧ i ≤ w 72 14 - 1 := by
      by_cases q9 : 0 ≤ i ∧ i ≤ w 72 14 - 1
      · exact q9
      · rw [if_neg q9] at hz; omega
    refine V_iload_n dX5_loan_22 rfl ?_
    refine V_i2l dX5_loan_23 (iZ_l (by omega)) ?_
    refine V_lconst (v := lZ 0) dX5_loan_24 rfl ?_
    refine V_ldc2 (v := (lZ 4)) dX5_loan_25 (List.mem_of_getElem? (i := 2) rfl) ?_
    refine V_iS3 dX5_loan_28 o_X5_loan_50 (Nat.le_of_ble_eq_true rfl) (c_X5_in G l (by omega) (by omega) (by omega)) ?_
    rintro x _ ⟨hx, rfl⟩
    have rx : x = 0 ∨ x = 1 := by rw [hx]; split <;> simp
    refine V_if_eq (tgt := 48) dX5_loan_31 (by decide) (by omega) (fun h31 => ?_) (fun h31 => ?_)
    · have yx : ¬ (0 ≤ q ∧ q ≤ 4) := fun q9 => by rw [if_pos q9] at hx; omega
      refine V_bipush dX5_loan_48 rfl ?_
      first
        | exact V_iret dX5_loan_50 rfl ⟨by rw [aLoan, if_pos (by omega)]; rcases (show q = 0 ∨ q = 1 ∨ q = 2 ∨ q = 3 ∨ q = 4 by omega) with rfl | rfl | rfl | rfl | rfl <;> simp only [] <;> rw [← h.aL, mLs_D (by omega) (by show _ < w 72 14; omega)] <;> (show w 72 _ = w 72 _) <;> congr 1 <;> omega, h.same, fun _ _ _ => rfl⟩
        | exact V_iret dX5_loan_50 rfl ⟨by rw [aLoan, if_pos (by omega), if_neg (by omega), if_neg (by omega), if_neg (by omega), if_neg (by omega), if_neg (by omega)], h.same, fun _ _ _ => rfl⟩
    · have yx : 0 ≤ q ∧ q ≤ 4 := by
        by_cases q9 : 0 ≤ q ∧ q ≤ 4
        · exact q9
        · rw [if_neg q9] at hx; omega
      refine V_aload_n dX5_loan_34 rfl ?_
      refine V_getR (ci := 5) (j := 0) dX5_loan_35 s_71 rfl rfl i_X5_loan_X5 (by decide) f_X5_loan_7 ?_
      refine V_iconst dX5_loan_38 ?_
      refine V_iload_n dX5_loan_39 rfl ?_
      refine V_iload_n dX5_loan_40 rfl ?_
      refine V_iS3 dX5_loan_41 o_X5_loan_136 (Nat.le_of_ble_eq_true rfl) (c_X5_placeOf G l) ?_
      rintro _ _ ⟨rfl, rfl⟩
      refine V_iald dX5_loan_44 s_72 (by omega) ?_
      refine V_goto (tgt := 50) dX5_loan_45 (by decide) ?_
      first
        | exact V_iret dX5_loan_50 rfl ⟨by rw [aLoan, if_pos (by omega)]; rcases (show q = 0 ∨ q = 1 ∨ q = 2 ∨ q = 3 ∨ q = 4 by omega) with rfl | rfl | rfl | rfl | rfl <;> simp only [] <;> rw [← h.aL, mLs_D (by omega) (by show _ < w 72 14; omega)] <;> (show w 72 _ = w 72 _) <;> congr 1 <;> omega, h.same, fun _ _ _ => rfl⟩
        | exact V_iret dX5_loan_50 rfl ⟨by rw [aLoan, if_pos (by omega), if_neg (by omega), if_neg (by omega), if_neg (by omega), if_neg (by omega), if_neg (by omega)], h.same, fun _ _ _ => rfl⟩
  · have yz : ¬ (0 ≤ i ∧ i ≤ w 72 14 - 1) := fun q9 => by rw [if_pos q9] at hz; omega
    refine V_bipush dX5_loan_19 rfl ?_
    exact V_iret dX5_loan_21 rfl ⟨by rw [aLoan, if_neg (by omega)], h.same, fun _ _ _ => rfl⟩
set_option maxRecDepth 100000 in
set_option maxHeartbeats 4000000 in
theorem c_X5_as (G : Gb) (l : Launch) {w : Wd} {c : Int} {σ : SG} (h : SM c σ w) {i : Int} (hi : inR i) {q : Int} (hq : inR q) : Ci G l yX5_as mX5_as [.ref (gA G 71), .int (iZ i), .int (iZ q)] w (fun z w' => z = aAs σ.2.1 i q ∧ SM (c + 1) σ w' ∧ frM w w') := by
  refine V_start 2 (by decide) rfl rfl (Nat.le_of_ble_eq_true rfl) ?_
  show V G l mX5_as _ 0 [some (.ref (gA G 71)), some (.int (iZ i)), some (.int (iZ q)), none, none] [] w
  have hT := h.2.1.2.1
  have hO := h.2.2.1.2.1
  have kt := hT.1
  have kn : 0 ≤ w 72 14 ∧ w 72 14 ≤ 12 := hO.n
  have eN := h.tN
  have eL := h.aN
  refine V_aload_n dX5_as_0 rfl ?_
  refine V_iload_n dX5_as_1 rfl ?_
  refine V_iV1 dX5_as_2 o_X5_as_166 s_71 rfl (Nat.le_of_ble_eq_true rfl) (c_X5_isTree G l (by omega) kt) ?_
  rintro z _ ⟨hz, rfl⟩
  have rz : z = 0 ∨ z = 1 := by rw [hz]; split <;> simp
  refine V_if_ne (tgt := 11) dX5_as_5 (by decide) (by omega) (fun h5 => ?_) (fun h5 => ?_)
  · have yz : hasS σ.2.1 i := by
      by_cases q9 : 0 ≤ i ∧ i < w 71 10
      · exact ⟨q9.1, by omega⟩
      · rw [if_neg q9] at hz; omega
    have bz := yz.2
    have dz := yz.1
    have kk := hT.2.2.2.1 i dz (by omega)
    refine V_iload_n dX5_as_11 rfl ?_
    refine V_i2l dX5_as_12 (iZ_l (by omega)) ?_
    refine V_lconst (v := lZ 0) dX5_as_13 rfl ?_
    refine V_ldc2 (v := (lZ 4)) dX5_as_14 (List.mem_of_getElem? (i := 1) rfl) ?_
    refine V_iS3 dX5_as_17 o_X5_as_50 (Nat.le_of_ble_eq_true rfl) (c_X5_in G l (by omega) (by omega) (by omega)) ?_
    rintro x _ ⟨hx, rfl⟩
    have rx : x = 0 ∨ x = 1 := by rw [hx]; split <;> simp
    refine V_if_ne (tgt := 26) dX5_as_20 (by decide) (by omega) (fun h20 => ?_) (fun h20 => ?_)
    · have yx : 0 ≤ q ∧ q ≤ 4 := by
        by_cases q9 : 0 ≤ q ∧ q ≤ 4
        · exact q9
        · rw [if_neg q9] at hx; omega
      refine V_aload_n dX5_as_26 rfl ?_
      refine V_getR (ci := 5) (j := 6) dX5_as_27 s_71 rfl rfl i_X5_as_X5 (by decide) f_X5_as_23 ?_
      refine V_iload_n dX5_as_30 rfl ?_
      refine V_iald dX5_as_31 s_76 (by omega) ?_
      refine V_istore_n dX5_as_32 (by decide) rfl ?_
      refine V_iload_n dX5_as_33 rfl ?_
      refine V_if_eq (tgt := 77) dX5_as_34 (by decide) (by omega) (fun h34 => ?_) (fun h34 => ?_)
      · have yk : ofK (σ.2.1.2.1.getD i.toNat 0) q = true := by
          rw [← h.tK dz (by omega)]
          unfold ofK
          simp only [decide_eq_true_eq]
          omega
        refine V_iconst dX5_as_77 ?_
        refine V_goto (tgt := 82) dX5_as_78 (by decide) ?_
        refine V_istore dX5_as_82 (by decide) rfl ?_
        refine V_iload dX5_as_84 rfl ?_
        refine V_if_eq (tgt := 100) dX5_as_86 (by decide) (by omega) (fun h86 => ?_) (fun h86 => ?_)
        · exact absurd h86 (by decide)
        · refine V_aload_n dX5_as_89 rfl ?_
          refine V_iload_n dX5_as_90 rfl ?_
          refine V_bipush dX5_as_91 rfl ?_
          refine V_iconst dX5_as_93 ?_
          refine V_iV3 dX5_as_94 o_X5_as_160 s_71 rfl (Nat.le_of_ble_eq_true rfl) (c_X5_grown G l (t := i) (o := 100) (n := 1) (by omega) (by omega) (by omega) kk.1 kk.2.2.1) ?_
          rintro _ _ ⟨rfl, rfl⟩
          refine V_goto (tgt := 102) dX5_as_97 (by decide) ?_
          exact V_iret dX5_as_102 rfl ⟨by rw [aAs, if_pos yz, if_pos yx, if_pos yk, ← h.tK dz (by omega), ← h.tR dz (by omega)], h.same, fun _ _ _ => rfl⟩
      · refine V_iload_n dX5_as_37 rfl ?_
        refine V_iconst dX5_as_38 ?_
        refine V_icmp_ne (tgt := 47) dX5_as_39 (by decide) (by omega) (by omega) (fun h39 => ?_) (fun h39 => ?_)
        · refine V_iload_n dX5_as_47 rfl ?_
          refine V_iconst dX5_as_48 ?_
          refine V_icmp_ne (tgt := 57) dX5_as_49 (by decide) (by omega) (by omega) (fun h49 => ?_) (fun h49 => ?_)
          · refine V_iload_n dX5_as_57 rfl ?_
            refine V_iconst dX5_as_58 ?_
            refine V_icmp_ne (tgt := 67) dX5_as_59 (by decide) (by omega) (by omega) (fun h59 => ?_) (fun h59 => ?_)
            · refine V_iload_n dX5_as_67 rfl ?_
              refine V_iconst dX5_as_68 ?_
              refine V_icmp_ne (tgt := 81) dX5_as_69 (by decide) (by omega) (by omega) (fun h69 => ?_) (fun h69 => ?_)
              · have yk : ¬ ofK (σ.2.1.2.1.getD i.toNat 0) q = true := by
                  rw [← h.tK dz (by omega)]
                  unfold ofK
                  simp only [decide_eq_true_eq]
                  omega
                refine V_iconst dX5_as_81 ?_
                refine V_istore dX5_as_82 (by decide) rfl ?_
                refine V_iload dX5_as_84 rfl ?_
                refine V_if_eq (tgt := 100) dX5_as_86 (by decide) (by omega) (fun h86 => ?_) (fun h86 => ?_)
                · refine V_bipush dX5_as_100 rfl ?_
                  exact V_iret dX5_as_102 rfl ⟨by rw [aAs, if_pos yz, if_pos yx, if_neg yk], h.same, fun _ _ _ => rfl⟩
                · exact absurd rfl h86
              · refine V_iload_n dX5_as_72 rfl ?_
                refine V_iconst dX5_as_73 ?_
                refine V_icmp_ne (tgt := 81) dX5_as_74 (by decide) (by omega) (by omega) (fun h74 => ?_) (fun h74 => ?_)
                · have yk : ¬ ofK (σ.2.1.2.1.getD i.toNat 0) q = true := by
                    rw [← h.tK dz (by omega)]
                    unfold ofK
                    simp only [decide_eq_true_eq]
                    omega
                  refine V_iconst dX5_as_81 ?_
                  refine V_istore dX5_as_82 (by decide) rfl ?_
                  refine V_iload dX5_as_84 rfl ?_
                  refine V_if_eq (tgt := 100) dX5_as_86 (by decide) (by omega) (fun h86 => ?_) (fun h86 => ?_)
                  · refine V_bipush dX5_as_100 rfl ?_
                    exact V_iret dX5_as_102 rfl ⟨by rw [aAs, if_pos yz, if_pos yx, if_neg yk], h.same, fun _ _ _ => rfl⟩
                  · exact absurd rfl h86
                · have yk : ofK (σ.2.1.2.1.getD i.toNat 0) q = true := by
                    rw [← h.tK dz (by omega)]
                    unfold ofK
                    simp only [decide_eq_true_eq]
                    omega
                  refine V_iconst dX5_as_77 ?_
                  refine V_goto (tgt := 82) dX5_as_78 (by decide) ?_
                  refine V_istore dX5_as_82 (by decide) rfl ?_
                  refine V_iload dX5_as_84 rfl ?_
                  refine V_if_eq (tgt := 100) dX5_as_86 (by decide) (by omega) (fun h86 => ?_) (fun h86 => ?_)
                  · exact absurd h86 (by decide)
                  · refine V_aload_n dX5_as_89 rfl ?_
                    refine V_iload_n dX5_as_90 rfl ?_
                    refine V_bipush dX5_as_91 rfl ?_
                    refine V_iconst dX5_as_93 ?_
                    refine V_iV3 dX5_as_94 o_X5_as_160 s_71 rfl (Nat.le_of_ble_eq_true rfl) (c_X5_grown G l (t := i) (o := 100) (n := 1) (by omega) (by omega) (by omega) kk.1 kk.2.2.1) ?_
                    rintro _ _ ⟨rfl, rfl⟩
                    refine V_goto (tgt := 102) dX5_as_97 (by decide) ?_
                    exact V_iret dX5_as_102 rfl ⟨by rw [aAs, if_pos yz, if_pos yx, if_pos yk, ← h.tK dz (by omega), ← h.tR dz (by omega)], h.same, fun _ _ _ => rfl⟩
            · refine V_iload_n dX5_as_62 rfl ?_
              refine V_iconst dX5_as_63 ?_
              refine V_icmp_eq (tgt := 77) dX5_as_64 (by decide) (by omega) (by omega) (fun h64 => ?_) (fun h64 => ?_)
              · have yk : ofK (σ.2.1.2.1.getD i.toNat 0) q = true := by
                  rw [← h.tK dz (by omega)]
                  unfold ofK
                  simp only [decide_eq_true_eq]
                  omega
                refine V_iconst dX5_as_77 ?_
                refine V_goto (tgt := 82) dX5_as_78 (by decide) ?_
                refine V_istore dX5_as_82 (by decide) rfl ?_
                refine V_iload dX5_as_84 rfl ?_
                refine V_if_eq (tgt := 100) dX5_as_86 (by decide) (by omega) (fun h86 => ?_) (fun h86 => ?_)
                · exact absurd h86 (by decide)
                · refine V_aload_n dX5_as_89 rfl ?_
                  refine V_iload_n dX5_as_90 rfl ?_
                  refine V_bipush dX5_as_91 rfl ?_
                  refine V_iconst dX5_as_93 ?_
                  refine V_iV3 dX5_as_94 o_X5_as_160 s_71 rfl (Nat.le_of_ble_eq_true rfl) (c_X5_grown G l (t := i) (o := 100) (n := 1) (by omega) (by omega) (by omega) kk.1 kk.2.2.1) ?_
                  rintro _ _ ⟨rfl, rfl⟩
                  refine V_goto (tgt := 102) dX5_as_97 (by decide) ?_
                  exact V_iret dX5_as_102 rfl ⟨by rw [aAs, if_pos yz, if_pos yx, if_pos yk, ← h.tK dz (by omega), ← h.tR dz (by omega)], h.same, fun _ _ _ => rfl⟩
              · refine V_iload_n dX5_as_67 rfl ?_
                refine V_iconst dX5_as_68 ?_
                refine V_icmp_ne (tgt := 81) dX5_as_69 (by decide) (by omega) (by omega) (fun h69 => ?_) (fun h69 => ?_)
                · have yk : ¬ ofK (σ.2.1.2.1.getD i.toNat 0) q = true := by
                    rw [← h.tK dz (by omega)]
                    unfold ofK
                    simp only [decide_eq_true_eq]
                    omega
                  refine V_iconst dX5_as_81 ?_
                  refine V_istore dX5_as_82 (by decide) rfl ?_
                  refine V_iload dX5_as_84 rfl ?_
                  refine V_if_eq (tgt := 100) dX5_as_86 (by decide) (by omega) (fun h86 => ?_) (fun h86 => ?_)
                  · refine V_bipush dX5_as_100 rfl ?_
                    exact V_iret dX5_as_102 rfl ⟨by rw [aAs, if_pos yz, if_pos yx, if_neg yk], h.same, fun _ _ _ => rfl⟩
                  · exact absurd rfl h86
                · refine V_iload_n dX5_as_72 rfl ?_
                  refine V_iconst dX5_as_73 ?_
                  refine V_icmp_ne (tgt := 81) dX5_as_74 (by decide) (by omega) (by omega) (fun h74 => ?_) (fun h74 => ?_)
                  · have yk : ¬ ofK (σ.2.1.2.1.getD i.toNat 0) q = true := by
                      rw [← h.tK dz (by omega)]
                      unfold ofK
                      simp only [decide_eq_true_eq]
                      omega
                    refine V_iconst dX5_as_81 ?_
                    refine V_istore dX5_as_82 (by decide) rfl ?_
                    refine V_iload dX5_as_84 rfl ?_
                    refine V_if_eq (tgt := 100) dX5_as_86 (by decide) (by omega) (fun h86 => ?_) (fun h86 => ?_)
                    · refine V_bipush dX5_as_100 rfl ?_
                      exact V_iret dX5_as_102 rfl ⟨by rw [aAs, if_pos yz, if_pos yx, if_neg yk], h.same, fun _ _ _ => rfl⟩
                    · exact absurd rfl h86
                  · have yk : ofK (σ.2.1.2.1.getD i.toNat 0) q = true := by
                      rw [← h.tK dz (by omega)]
                      unfold ofK
                      simp only [decide_eq_true_eq]
                      omega
                    refine V_iconst dX5_as_77 ?_
                    refine V_goto (tgt := 82) dX5_as_78 (by decide) ?_
                    refine V_istore dX5_as_82 (by decide) rfl ?_
                    refine V_iload dX5_as_84 rfl ?_
                    refine V_if_eq (tgt := 100) dX5_as_86 (by decide) (by omega) (fun h86 => ?_) (fun h86 => ?_)
                    · exact absurd h86 (by decide)
                    · refine V_aload_n dX5_as_89 rfl ?_
                      refine V_iload_n dX5_as_90 rfl ?_
                      refine V_bipush dX5_as_91 rfl ?_
                      refine V_iconst dX5_as_93 ?_
                      refine V_iV3 dX5_as_94 o_X5_as_160 s_71 rfl (Nat.le_of_ble_eq_true rfl) (c_X5_grown G l (t := i) (o := 100) (n := 1) (by omega) (by omega) (by omega) kk.1 kk.2.2.1) ?_
                      rintro _ _ ⟨rfl, rfl⟩
                      refine V_goto (tgt := 102) dX5_as_97 (by decide) ?_
                      exact V_iret dX5_as_102 rfl ⟨by rw [aAs, if_pos yz, if_pos yx, if_pos yk, ← h.tK dz (by omega), ← h.tR dz (by omega)], h.same, fun _ _ _ => rfl⟩
          · refine V_iload_n dX5_as_52 rfl ?_
            refine V_iconst dX5_as_53 ?_
            refine V_icmp_eq (tgt := 77) dX5_as_54 (by decide) (by omega) (by omega) (fun h54 => ?_) (fun h54 => ?_)
            · have yk : ofK (σ.2.1.2.1.getD i.toNat 0) q = true := by
                rw [← h.tK dz (by omega)]
                unfold ofK
                simp only [decide_eq_true_eq]
                omega
              refine V_iconst dX5_as_77 ?_
              refine V_goto (tgt := 82) dX5_as_78 (by decide) ?_
              refine V_istore dX5_as_82 (by decide) rfl ?_
              refine V_iload dX5_as_84 rfl ?_
              refine V_if_eq (tgt := 100) dX5_as_86 (by decide) (by omega) (fun h86 => ?_) (fun h86 => ?_)
              · exact absurd h86 (by decide)
              · refine V_aload_n dX5_as_89 rfl ?_
                refine V_iload_n dX5_as_90 rfl ?_
                refine V_bipush dX5_as_91 rfl ?_
                refine V_iconst dX5_as_93 ?_
                refine V_iV3 dX5_as_94 o_X5_as_160 s_71 rfl (Nat.le_of_ble_eq_true rfl) (c_X5_grown G l (t := i) (o := 100) (n := 1) (by omega) (by omega) (by omega) kk.1 kk.2.2.1) ?_
                rintro _ _ ⟨rfl, rfl⟩
                refine V_goto (tgt := 102) dX5_as_97 (by decide) ?_
                exact V_iret dX5_as_102 rfl ⟨by rw [aAs, if_pos yz, if_pos yx, if_pos yk, ← h.tK dz (by omega), ← h.tR dz (by omega)], h.same, fun _ _ _ => rfl⟩
            · refine V_iload_n dX5_as_57 rfl ?_
              refine V_iconst dX5_as_58 ?_
              refine V_icmp_ne (tgt := 67) dX5_as_59 (by decide) (by omega) (by omega) (fun h59 => ?_) (fun h59 => ?_)
              · refine V_iload_n dX5_as_67 rfl ?_
                refine V_iconst dX5_as_68 ?_
                refine V_icmp_ne (tgt := 81) dX5_as_69 (by decide) (by omega) (by omega) (fun h69 => ?_) (fun h69 => ?_)
                · have yk : ¬ ofK (σ.2.1.2.1.getD i.toNat 0) q = true := by
                    rw [← h.tK dz (by omega)]
                    unfold ofK
                    simp only [decide_eq_true_eq]
                    omega
                  refine V_iconst dX5_as_81 ?_
                  refine V_istore dX5_as_82 (by decide) rfl ?_
                  refine V_iload dX5_as_84 rfl ?_
                  refine V_if_eq (tgt := 100) dX5_as_86 (by decide) (by omega) (fun h86 => ?_) (fun h86 => ?_)
                  · refine V_bipush dX5_as_100 rfl ?_
                    exact V_iret dX5_as_102 rfl ⟨by rw [aAs, if_pos yz, if_pos yx, if_neg yk], h.same, fun _ _ _ => rfl⟩
                  · exact absurd rfl h86
                · refine V_iload_n dX5_as_72 rfl ?_
                  refine V_iconst dX5_as_73 ?_
                  refine V_icmp_ne (tgt := 81) dX5_as_74 (by decide) (by omega) (by omega) (fun h74 => ?_) (fun h74 => ?_)
                  · have yk : ¬ ofK (σ.2.1.2.1.getD i.toNat 0) q = true := by
                      rw [← h.tK dz (by omega)]
                      unfold ofK
                      simp only [decide_eq_true_eq]
                      omega
                    refine V_iconst dX5_as_81 ?_
                    refine V_istore dX5_as_82 (by decide) rfl ?_
                    refine V_iload dX5_as_84 rfl ?_
                    refine V_if_eq (tgt := 100) dX5_as_86 (by decide) (by omega) (fun h86 => ?_) (fun h86 => ?_)
                    · refine V_bipush dX5_as_100 rfl ?_
                      exact V_iret dX5_as_102 rfl ⟨by rw [aAs, if_pos yz, if_pos yx, if_neg yk], h.same, fun _ _ _ => rfl⟩
                    · exact absurd rfl h86
                  · have yk : ofK (σ.2.1.2.1.getD i.toNat 0) q = true := by
                      rw [← h.tK dz (by omega)]
                      unfold ofK
                      simp only [decide_eq_true_eq]
                      omega
                    refine V_iconst dX5_as_77 ?_
                    refine V_goto (tgt := 82) dX5_as_78 (by decide) ?_
                    refine V_istore dX5_as_82 (by decide) rfl ?_
                    refine V_iload dX5_as_84 rfl ?_
                    refine V_if_eq (tgt := 100) dX5_as_86 (by decide) (by omega) (fun h86 => ?_) (fun h86 => ?_)
                    · exact absurd h86 (by decide)
                    · refine V_aload_n dX5_as_89 rfl ?_
                      refine V_iload_n dX5_as_90 rfl ?_
                      refine V_bipush dX5_as_91 rfl ?_
                      refine V_iconst dX5_as_93 ?_
                      refine V_iV3 dX5_as_94 o_X5_as_160 s_71 rfl (Nat.le_of_ble_eq_true rfl) (c_X5_grown G l (t := i) (o := 100) (n := 1) (by omega) (by omega) (by omega) kk.1 kk.2.2.1) ?_
                      rintro _ _ ⟨rfl, rfl⟩
                      refine V_goto (tgt := 102) dX5_as_97 (by decide) ?_
                      exact V_iret dX5_as_102 rfl ⟨by rw [aAs, if_pos yz, if_pos yx, if_pos yk, ← h.tK dz (by omega), ← h.tR dz (by omega)], h.same, fun _ _ _ => rfl⟩
              · refine V_iload_n dX5_as_62 rfl ?_
                refine V_iconst dX5_as_63 ?_
                refine V_icmp_eq (tgt := 77) dX5_as_64 (by decide) (by omega) (by omega) (fun h64 => ?_) (fun h64 => ?_)
                · have yk : ofK (σ.2.1.2.1.getD i.toNat 0) q = true := by
                    rw [← h.tK dz (by omega)]
                    unfold ofK
                    simp only [decide_eq_true_eq]
                    omega
                  refine V_iconst dX5_as_77 ?_
                  refine V_goto (tgt := 82) dX5_as_78 (by decide) ?_
                  refine V_istore dX5_as_82 (by decide) rfl ?_
                  refine V_iload dX5_as_84 rfl ?_
                  refine V_if_eq (tgt := 100) dX5_as_86 (by decide) (by omega) (fun h86 => ?_) (fun h86 => ?_)
                  · exact absurd h86 (by decide)
                  · refine V_aload_n dX5_as_89 rfl ?_
                    refine V_iload_n dX5_as_90 rfl ?_
                    refine V_bipush dX5_as_91 rfl ?_
                    refine V_iconst dX5_as_93 ?_
                    refine V_iV3 dX5_as_94 o_X5_as_160 s_71 rfl (Nat.le_of_ble_eq_true rfl) (c_X5_grown G l (t := i) (o := 100) (n := 1) (by omega) (by omega) (by omega) kk.1 kk.2.2.1) ?_
                    rintro _ _ ⟨rfl, rfl⟩
                    refine V_goto (tgt := 102) dX5_as_97 (by decide) ?_
                    exact V_iret dX5_as_102 rfl ⟨by rw [aAs, if_pos yz, if_pos yx, if_pos yk, ← h.tK dz (by omega), ← h.tR dz (by omega)], h.same, fun _ _ _ => rfl⟩
                · refine V_iload_n dX5_as_67 rfl ?_
                  refine V_iconst dX5_as_68 ?_
                  refine V_icmp_ne (tgt := 81) dX5_as_69 (by decide) (by omega) (by omega) (fun h69 => ?_) (fun h69 => ?_)
                  · have yk : ¬ ofK (σ.2.1.2.1.getD i.toNat 0) q = true := by
                      rw [← h.tK dz (by omega)]
                      unfold ofK
                      simp only [decide_eq_true_eq]
                      omega
                    refine V_iconst dX5_as_81 ?_
                    refine V_istore dX5_as_82 (by decide) rfl ?_
                    refine V_iload dX5_as_84 rfl ?_
                    refine V_if_eq (tgt := 100) dX5_as_86 (by decide) (by omega) (fun h86 => ?_) (fun h86 => ?_)
                    · refine V_bipush dX5_as_100 rfl ?_
                      exact V_iret dX5_as_102 rfl ⟨by rw [aAs, if_pos yz, if_pos yx, if_neg yk], h.same, fun _ _ _ => rfl⟩
                    · exact absurd rfl h86
                  · refine V_iload_n dX5_as_72 rfl ?_
                    refine V_iconst dX5_as_73 ?_
                    refine V_icmp_ne (tgt := 81) dX5_as_74 (by decide) (by omega) (by omega) (fun h74 => ?_) (fun h74 => ?_)
                    · have yk : ¬ ofK (σ.2.1.2.1.getD i.toNat 0) q = true := by
                        rw [← h.tK dz (by omega)]
                        unfold ofK
                        simp only [decide_eq_true_eq]
                        omega
                      refine V_iconst dX5_as_81 ?_
                      refine V_istore dX5_as_82 (by decide) rfl ?_
                      refine V_iload dX5_as_84 rfl ?_
                      refine V_if_eq (tgt := 100) dX5_as_86 (by decide) (by omega) (fun h86 => ?_) (fun h86 => ?_)
                      · refine V_bipush dX5_as_100 rfl ?_
                        exact V_iret dX5_as_102 rfl ⟨by rw [aAs, if_pos yz, if_pos yx, if_neg yk], h.same, fun _ _ _ => rfl⟩
                      · exact absurd rfl h86
                    · have yk : ofK (σ.2.1.2.1.getD i.toNat 0) q = true := by
                        rw [← h.tK dz (by omega)]
                        unfold ofK
                        simp only [decide_eq_true_eq]
                        omega
                      refine V_iconst dX5_as_77 ?_
                      refine V_goto (tgt := 82) dX5_as_78 (by decide) ?_
                      refine V_istore dX5_as_82 (by decide) rfl ?_
                      refine V_iload dX5_as_84 rfl ?_
                      refine V_if_eq (tgt := 100) dX5_as_86 (by decide) (by omega) (fun h86 => ?_) (fun h86 => ?_)
                      · exact absurd h86 (by decide)
                      · refine V_aload_n dX5_as_89 rfl ?_
                        refine V_iload_n dX5_as_90 rfl ?_
                        refine V_bipush dX5_as_91 rfl ?_
                        refine V_iconst dX5_as_93 ?_
                        refine V_iV3 dX5_as_94 o_X5_as_160 s_71 rfl (Nat.le_of_ble_eq_true rfl) (c_X5_grown G l (t := i) (o := 100) (n := 1) (by omega) (by omega) (by omega) kk.1 kk.2.2.1) ?_
                        rintro _ _ ⟨rfl, rfl⟩
                        refine V_goto (tgt := 102) dX5_as_97 (by decide) ?_
                        exact V_iret dX5_as_102 rfl ⟨by rw [aAs, if_pos yz, if_pos yx, if_pos yk, ← h.tK dz (by omega), ← h.tR dz (by omega)], h.same, fun _ _ _ => rfl⟩
        · refine V_iload_n dX5_as_42 rfl ?_
          refine V_iconst dX5_as_43 ?_
          refine V_icmp_ne (tgt := 77) dX5_as_44 (by decide) (by omega) (by omega) (fun h44 => ?_) (fun h44 => ?_)
          · have yk : ofK (σ.2.1.2.1.getD i.toNat 0) q = true := by
              rw [← h.tK dz (by omega)]
              unfold ofK
              simp only [decide_eq_true_eq]
              omega
            refine V_iconst dX5_as_77 ?_
            refine V_goto (tgt := 82) dX5_as_78 (by decide) ?_
            refine V_istore dX5_as_82 (by decide) rfl ?_
            refine V_iload dX5_as_84 rfl ?_
            refine V_if_eq (tgt := 100) dX5_as_86 (by decide) (by omega) (fun h86 => ?_) (fun h86 => ?_)
            · exact absurd h86 (by decide)
            · refine V_aload_n dX5_as_89 rfl ?_
              refine V_iload_n dX5_as_90 rfl ?_
              refine V_bipush dX5_as_91 rfl ?_
              refine V_iconst dX5_as_93 ?_
              refine V_iV3 dX5_as_94 o_X5_as_160 s_71 rfl (Nat.le_of_ble_eq_true rfl) (c_X5_grown G l (t := i) (o := 100) (n := 1) (by omega) (by omega) (by omega) kk.1 kk.2.2.1) ?_
              rintro _ _ ⟨rfl, rfl⟩
              refine V_goto (tgt := 102) dX5_as_97 (by decide) ?_
              exact V_iret dX5_as_102 rfl ⟨by rw [aAs, if_pos yz, if_pos yx, if_pos yk, ← h.tK dz (by omega), ← h.tR dz (by omega)], h.same, fun _ _ _ => rfl⟩
          · refine V_iload_n dX5_as_47 rfl ?_
            refine V_iconst dX5_as_48 ?_
            refine V_icmp_ne (tgt := 57) dX5_as_49 (by decide) (by omega) (by omega) (fun h49 => ?_) (fun h49 => ?_)
            · refine V_iload_n dX5_as_57 rfl ?_
              refine V_iconst dX5_as_58 ?_
              refine V_icmp_ne (tgt := 67) dX5_as_59 (by decide) (by omega) (by omega) (fun h59 => ?_) (fun h59 => ?_)
              · refine V_iload_n dX5_as_67 rfl ?_
                refine V_iconst dX5_as_68 ?_
                refine V_icmp_ne (tgt := 81) dX5_as_69 (by decide) (by omega) (by omega) (fun h69 => ?_) (fun h69 => ?_)
                · have yk : ¬ ofK (σ.2.1.2.1.getD i.toNat 0) q = true := by
                    rw [← h.tK dz (by omega)]
                    unfold ofK
                    simp only [decide_eq_true_eq]
                    omega
                  refine V_iconst dX5_as_81 ?_
                  refine V_istore dX5_as_82 (by decide) rfl ?_
                  refine V_iload dX5_as_84 rfl ?_
                  refine V_if_eq (tgt := 100) dX5_as_86 (by decide) (by omega) (fun h86 => ?_) (fun h86 => ?_)
                  · refine V_bipush dX5_as_100 rfl ?_
                    exact V_iret dX5_as_102 rfl ⟨by rw [aAs, if_pos yz, if_pos yx, if_neg yk], h.same, fun _ _ _ => rfl⟩
                  · exact absurd rfl h86
                · refine V_iload_n dX5_as_72 rfl ?_
                  refine V_iconst dX5_as_73 ?_
                  refine V_icmp_ne (tgt := 81) dX5_as_74 (by decide) (by omega) (by omega) (fun h74 => ?_) (fun h74 => ?_)
                  · have yk : ¬ ofK (σ.2.1.2.1.getD i.toNat 0) q = true := by
                      rw [← h.tK dz (by omega)]
                      unfold ofK
                      simp only [decide_eq_true_eq]
                      omega
                    refine V_iconst dX5_as_81 ?_
                    refine V_istore dX5_as_82 (by decide) rfl ?_
                    refine V_iload dX5_as_84 rfl ?_
                    refine V_if_eq (tgt := 100) dX5_as_86 (by decide) (by omega) (fun h86 => ?_) (fun h86 => ?_)
                    · refine V_bipush dX5_as_100 rfl ?_
                      exact V_iret dX5_as_102 rfl ⟨by rw [aAs, if_pos yz, if_pos yx, if_neg yk], h.same, fun _ _ _ => rfl⟩
                    · exact absurd rfl h86
                  · have yk : ofK (σ.2.1.2.1.getD i.toNat 0) q = true := by
                      rw [← h.tK dz (by omega)]
                      unfold ofK
                      simp only [decide_eq_true_eq]
                      omega
                    refine V_iconst dX5_as_77 ?_
                    refine V_goto (tgt := 82) dX5_as_78 (by decide) ?_
                    refine V_istore dX5_as_82 (by decide) rfl ?_
                    refine V_iload dX5_as_84 rfl ?_
                    refine V_if_eq (tgt := 100) dX5_as_86 (by decide) (by omega) (fun h86 => ?_) (fun h86 => ?_)
                    · exact absurd h86 (by decide)
                    · refine V_aload_n dX5_as_89 rfl ?_
                      refine V_iload_n dX5_as_90 rfl ?_
                      refine V_bipush dX5_as_91 rfl ?_
                      refine V_iconst dX5_as_93 ?_
                      refine V_iV3 dX5_as_94 o_X5_as_160 s_71 rfl (Nat.le_of_ble_eq_true rfl) (c_X5_grown G l (t := i) (o := 100) (n := 1) (by omega) (by omega) (by omega) kk.1 kk.2.2.1) ?_
                      rintro _ _ ⟨rfl, rfl⟩
                      refine V_goto (tgt := 102) dX5_as_97 (by decide) ?_
                      exact V_iret dX5_as_102 rfl ⟨by rw [aAs, if_pos yz, if_pos yx, if_pos yk, ← h.tK dz (by omega), ← h.tR dz (by omega)], h.same, fun _ _ _ => rfl⟩
              · refine V_iload_n dX5_as_62 rfl ?_
                refine V_iconst dX5_as_63 ?_
                refine V_icmp_eq (tgt := 77) dX5_as_64 (by decide) (by omega) (by omega) (fun h64 => ?_) (fun h64 => ?_)
                · have yk : ofK (σ.2.1.2.1.getD i.toNat 0) q = true := by
                    rw [← h.tK dz (by omega)]
                    unfold ofK
                    simp only [decide_eq_true_eq]
                    omega
                  refine V_iconst dX5_as_77 ?_
                  refine V_goto (tgt := 82) dX5_as_78 (by decide) ?_
                  refine V_istore dX5_as_82 (by decide) rfl ?_
                  refine V_iload dX5_as_84 rfl ?_
                  refine V_if_eq (tgt := 100) dX5_as_86 (by decide) (by omega) (fun h86 => ?_) (fun h86 => ?_)
                  · exact absurd h86 (by decide)
                  · refine V_aload_n dX5_as_89 rfl ?_
                    refine V_iload_n dX5_as_90 rfl ?_
                    refine V_bipush dX5_as_91 rfl ?_
                    refine V_iconst dX5_as_93 ?_
                    refine V_iV3 dX5_as_94 o_X5_as_160 s_71 rfl (Nat.le_of_ble_eq_true rfl) (c_X5_grown G l (t := i) (o := 100) (n := 1) (by omega) (by omega) (by omega) kk.1 kk.2.2.1) ?_
                    rintro _ _ ⟨rfl, rfl⟩
                    refine V_goto (tgt := 102) dX5_as_97 (by decide) ?_
                    exact V_iret dX5_as_102 rfl ⟨by rw [aAs, if_pos yz, if_pos yx, if_pos yk, ← h.tK dz (by omega), ← h.tR dz (by omega)], h.same, fun _ _ _ => rfl⟩
                · refine V_iload_n dX5_as_67 rfl ?_
                  refine V_iconst dX5_as_68 ?_
                  refine V_icmp_ne (tgt := 81) dX5_as_69 (by decide) (by omega) (by omega) (fun h69 => ?_) (fun h69 => ?_)
                  · have yk : ¬ ofK (σ.2.1.2.1.getD i.toNat 0) q = true := by
                      rw [← h.tK dz (by omega)]
                      unfold ofK
                      simp only [decide_eq_true_eq]
                      omega
                    refine V_iconst dX5_as_81 ?_
                    refine V_istore dX5_as_82 (by decide) rfl ?_
                    refine V_iload dX5_as_84 rfl ?_
                    refine V_if_eq (tgt := 100) dX5_as_86 (by decide) (by omega) (fun h86 => ?_) (fun h86 => ?_)
                    · refine V_bipush dX5_as_100 rfl ?_
                      exact V_iret dX5_as_102 rfl ⟨by rw [aAs, if_pos yz, if_pos yx, if_neg yk], h.same, fun _ _ _ => rfl⟩
                    · exact absurd rfl h86
                  · refine V_iload_n dX5_as_72 rfl ?_
                    refine V_iconst dX5_as_73 ?_
                    refine V_icmp_ne (tgt := 81) dX5_as_74 (by decide) (by omega) (by omega) (fun h74 => ?_) (fun h74 => ?_)
                    · have yk : ¬ ofK (σ.2.1.2.1.getD i.toNat 0) q = true := by
                        rw [← h.tK dz (by omega)]
                        unfold ofK
                        simp only [decide_eq_true_eq]
                        omega
                      refine V_iconst dX5_as_81 ?_
                      refine V_istore dX5_as_82 (by decide) rfl ?_
                      refine V_iload dX5_as_84 rfl ?_
                      refine V_if_eq (tgt := 100) dX5_as_86 (by decide) (by omega) (fun h86 => ?_) (fun h86 => ?_)
                      · refine V_bipush dX5_as_100 rfl ?_
                        exact V_iret dX5_as_102 rfl ⟨by rw [aAs, if_pos yz, if_pos yx, if_neg yk], h.same, fun _ _ _ => rfl⟩
                      · exact absurd rfl h86
                    · have yk : ofK (σ.2.1.2.1.getD i.toNat 0) q = true := by
                        rw [← h.tK dz (by omega)]
                        unfold ofK
                        simp only [decide_eq_true_eq]
                        omega
                      refine V_iconst dX5_as_77 ?_
                      refine V_goto (tgt := 82) dX5_as_78 (by decide) ?_
                      refine V_istore dX5_as_82 (by decide) rfl ?_
                      refine V_iload dX5_as_84 rfl ?_
                      refine V_if_eq (tgt := 100) dX5_as_86 (by decide) (by omega) (fun h86 => ?_) (fun h86 => ?_)
                      · exact absurd h86 (by decide)
                      · refine V_aload_n dX5_as_89 rfl ?_
                        refine V_iload_n dX5_as_90 rfl ?_
                        refine V_bipush dX5_as_91 rfl ?_
                        refine V_iconst dX5_as_93 ?_
                        refine V_iV3 dX5_as_94 o_X5_as_160 s_71 rfl (Nat.le_of_ble_eq_true rfl) (c_X5_grown G l (t := i) (o := 100) (n := 1) (by omega) (by omega) (by omega) kk.1 kk.2.2.1) ?_
                        rintro _ _ ⟨rfl, rfl⟩
                        refine V_goto (tgt := 102) dX5_as_97 (by decide) ?_
                        exact V_iret dX5_as_102 rfl ⟨by rw [aAs, if_pos yz, if_pos yx, if_pos yk, ← h.tK dz (by omega), ← h.tR dz (by omega)], h.same, fun _ _ _ => rfl⟩
            · refine V_iload_n dX5_as_52 rfl ?_
              refine V_iconst dX5_as_53 ?_
              refine V_icmp_eq (tgt := 77) dX5_as_54 (by decide) (by omega) (by omega) (fun h54 => ?_) (fun h54 => ?_)
              · have yk : ofK (σ.2.1.2.1.getD i.toNat 0) q = true := by
                  rw [← h.tK dz (by omega)]
                  unfold ofK
                  simp only [decide_eq_true_eq]
                  omega
                refine V_iconst dX5_as_77 ?_
                refine V_goto (tgt := 82) dX5_as_78 (by decide) ?_
                refine V_istore dX5_as_82 (by decide) rfl ?_
                refine V_iload dX5_as_84 rfl ?_
                refine V_if_eq (tgt := 100) dX5_as_86 (by decide) (by omega) (fun h86 => ?_) (fun h86 => ?_)
                · exact absurd h86 (by decide)
                · refine V_aload_n dX5_as_89 rfl ?_
                  refine V_iload_n dX5_as_90 rfl ?_
                  refine V_bipush dX5_as_91 rfl ?_
                  refine V_iconst dX5_as_93 ?_
                  refine V_iV3 dX5_as_94 o_X5_as_160 s_71 rfl (Nat.le_of_ble_eq_true rfl) (c_X5_grown G l (t := i) (o := 100) (n := 1) (by omega) (by omega) (by omega) kk.1 kk.2.2.1) ?_
                  rintro _ _ ⟨rfl, rfl⟩
                  refine V_goto (tgt := 102) dX5_as_97 (by decide) ?_
                  exact V_iret dX5_as_102 rfl ⟨by rw [aAs, if_pos yz, if_pos yx, if_pos yk, ← h.tK dz (by omega), ← h.tR dz (by omega)], h.same, fun _ _ _ => rfl⟩
              · refine V_iload_n dX5_as_57 rfl ?_
                refine V_iconst dX5_as_58 ?_
                refine V_icmp_ne (tgt := 67) dX5_as_59 (by decide) (by omega) (by omega) (fun h59 => ?_) (fun h59 => ?_)
                · refine V_iload_n dX5_as_67 rfl ?_
                  refine V_iconst dX5_as_68 ?_
                  refine V_icmp_ne (tgt := 81) dX5_as_69 (by decide) (by omega) (by omega) (fun h69 => ?_) (fun h69 => ?_)
                  · have yk : ¬ ofK (σ.2.1.2.1.getD i.toNat 0) q = true := by
                      rw [← h.tK dz (by omega)]
                      unfold ofK
                      simp only [decide_eq_true_eq]
                      omega
                    refine V_iconst dX5_as_81 ?_
                    refine V_istore dX5_as_82 (by decide) rfl ?_
                    refine V_iload dX5_as_84 rfl ?_
                    refine V_if_eq (tgt := 100) dX5_as_86 (by decide) (by omega) (fun h86 => ?_) (fun h86 => ?_)
                    · refine V_bipush dX5_as_100 rfl ?_
                      exact V_iret dX5_as_102 rfl ⟨by rw [aAs, if_pos yz, if_pos yx, if_neg yk], h.same, fun _ _ _ => rfl⟩
                    · exact absurd rfl h86
                  · refine V_iload_n dX5_as_72 rfl ?_
                    refine V_iconst dX5_as_73 ?_
                    refine V_icmp_ne (tgt := 81) dX5_as_74 (by decide) (by omega) (by omega) (fun h74 => ?_) (fun h74 => ?_)
                    · have yk : ¬ ofK (σ.2.1.2.1.getD i.toNat 0) q = true := by
                        rw [← h.tK dz (by omega)]
                        unfold ofK
                        simp only [decide_eq_true_eq]
                        omega
                      refine V_iconst dX5_as_81 ?_
                      refine V_istore dX5_as_82 (by decide) rfl ?_
                      refine V_iload dX5_as_84 rfl ?_
                      refine V_if_eq (tgt := 100) dX5_as_86 (by decide) (by omega) (fun h86 => ?_) (fun h86 => ?_)
                      · refine V_bipush dX5_as_100 rfl ?_
                        exact V_iret dX5_as_102 rfl ⟨by rw [aAs, if_pos yz, if_pos yx, if_neg yk], h.same, fun _ _ _ => rfl⟩
                      · exact absurd rfl h86
                    · have yk : ofK (σ.2.1.2.1.getD i.toNat 0) q = true := by
                        rw [← h.tK dz (by omega)]
                        unfold ofK
                        simp only [decide_eq_true_eq]
                        omega
                      refine V_iconst dX5_as_77 ?_
                      refine V_goto (tgt := 82) dX5_as_78 (by decide) ?_
                      refine V_istore dX5_as_82 (by decide) rfl ?_
                      refine V_iload dX5_as_84 rfl ?_
                      refine V_if_eq (tgt := 100) dX5_as_86 (by decide) (by omega) (fun h86 => ?_) (fun h86 => ?_)
                      · exact absurd h86 (by decide)
                      · refine V_aload_n dX5_as_89 rfl ?_
                        refine V_iload_n dX5_as_90 rfl ?_
                        refine V_bipush dX5_as_91 rfl ?_
                        refine V_iconst dX5_as_93 ?_
                        refine V_iV3 dX5_as_94 o_X5_as_160 s_71 rfl (Nat.le_of_ble_eq_true rfl) (c_X5_grown G l (t := i) (o := 100) (n := 1) (by omega) (by omega) (by omega) kk.1 kk.2.2.1) ?_
                        rintro _ _ ⟨rfl, rfl⟩
                        refine V_goto (tgt := 102) dX5_as_97 (by decide) ?_
                        exact V_iret dX5_as_102 rfl ⟨by rw [aAs, if_pos yz, if_pos yx, if_pos yk, ← h.tK dz (by omega), ← h.tR dz (by omega)], h.same, fun _ _ _ => rfl⟩
                · refine V_iload_n dX5_as_62 rfl ?_
                  refine V_iconst dX5_as_63 ?_
                  refine V_icmp_eq (tgt := 77) dX5_as_64 (by decide) (by omega) (by omega) (fun h64 => ?_) (fun h64 => ?_)
                  · have yk : ofK (σ.2.1.2.1.getD i.toNat 0) q = true := by
                      rw [← h.tK dz (by omega)]
                      unfold ofK
                      simp only [decide_eq_true_eq]
                      omega
                    refine V_iconst dX5_as_77 ?_
                    refine V_goto (tgt := 82) dX5_as_78 (by decide) ?_
                    refine V_istore dX5_as_82 (by decide) rfl ?_
                    refine V_iload dX5_as_84 rfl ?_
                    refine V_if_eq (tgt := 100) dX5_as_86 (by decide) (by omega) (fun h86 => ?_) (fun h86 => ?_)
                    · exact absurd h86 (by decide)
                    · refine V_aload_n dX5_as_89 rfl ?_
                      refine V_iload_n dX5_as_90 rfl ?_
                      refine V_bipush dX5_as_91 rfl ?_
                      refine V_iconst dX5_as_93 ?_
                      refine V_iV3 dX5_as_94 o_X5_as_160 s_71 rfl (Nat.le_of_ble_eq_true rfl) (c_X5_grown G l (t := i) (o := 100) (n := 1) (by omega) (by omega) (by omega) kk.1 kk.2.2.1) ?_
                      rintro _ _ ⟨rfl, rfl⟩
                      refine V_goto (tgt := 102) dX5_as_97 (by decide) ?_
                      exact V_iret dX5_as_102 rfl ⟨by rw [aAs, if_pos yz, if_pos yx, if_pos yk, ← h.tK dz (by omega), ← h.tR dz (by omega)], h.same, fun _ _ _ => rfl⟩
                  · refine V_iload_n dX5_as_67 rfl ?_
                    refine V_iconst dX5_as_68 ?_
                    refine V_icmp_ne (tgt := 81) dX5_as_69 (by decide) (by omega) (by omega) (fun h69 => ?_) (fun h69 => ?_)
                    · have yk : ¬ ofK (σ.2.1.2.1.getD i.toNat 0) q = true := by
                        rw [← h.tK dz (by omega)]
                        unfold ofK
                        simp only [decide_eq_true_eq]
                        omega
                      refine V_iconst dX5_as_81 ?_
                      refine V_istore dX5_as_82 (by decide) rfl ?_
                      refine V_iload dX5_as_84 rfl ?_
                      refine V_if_eq (tgt := 100) dX5_as_86 (by decide) (by omega) (fun h86 => ?_) (fun h86 => ?_)
                      · refine V_bipush dX5_as_100 rfl ?_
                        exact V_iret dX5_as_102 rfl ⟨by rw [aAs, if_pos yz, if_pos yx, if_neg yk], h.same, fun _ _ _ => rfl⟩
                      · exact absurd rfl h86
                    · refine V_iload_n dX5_as_72 rfl ?_
                      refine V_iconst dX5_as_73 ?_
                      refine V_icmp_ne (tgt := 81) dX5_as_74 (by decide) (by omega) (by omega) (fun h74 => ?_) (fun h74 => ?_)
                      · have yk : ¬ ofK (σ.2.1.2.1.getD i.toNat 0) q = true := by
                          rw [← h.tK dz (by omega)]
                          unfold ofK
                          simp only [decide_eq_true_eq]
                          omega
                        refine V_iconst dX5_as_81 ?_
                        refine V_istore dX5_as_82 (by decide) rfl ?_
                        refine V_iload dX5_as_84 rfl ?_
                        refine V_if_eq (tgt := 100) dX5_as_86 (by decide) (by omega) (fun h86 => ?_) (fun h86 => ?_)
                        · refine V_bipush dX5_as_100 rfl ?_
                          exact V_iret dX5_as_102 rfl ⟨by rw [aAs, if_pos yz, if_pos yx, if_neg yk], h.same, fun _ _ _ => rfl⟩
                        · exact absurd rfl h86
                      · have yk : ofK (σ.2.1.2.1.getD i.toNat 0) q = true := by
                          rw [← h.tK dz (by omega)]
                          unfold ofK
                          simp only [decide_eq_true_eq]
                          omega
                        refine V_iconst dX5_as_77 ?_
                        refine V_goto (tgt := 82) dX5_as_78 (by decide) ?_
                        refine V_istore dX5_as_82 (by decide) rfl ?_
                        refine V_iload dX5_as_84 rfl ?_
                        refine V_if_eq (tgt := 100) dX5_as_86 (by decide) (by omega) (fun h86 => ?_) (fun h86 => ?_)
                        · exact absurd h86 (by decide)
                        · refine V_aload_n dX5_as_89 rfl ?_
                          refine V_iload_n dX5_as_90 rfl ?_
                          refine V_bipush dX5_as_91 rfl ?_
                          refine V_iconst dX5_as_93 ?_
                          refine V_iV3 dX5_as_94 o_X5_as_160 s_71 rfl (Nat.le_of_ble_eq_true rfl) (c_X5_grown G l (t := i) (o := 100) (n := 1) (by omega) (by omega) (by omega) kk.1 kk.2.2.1) ?_
                          rintro _ _ ⟨rfl, rfl⟩
                          refine V_goto (tgt := 102) dX5_as_97 (by decide) ?_
                          exact V_iret dX5_as_102 rfl ⟨by rw [aAs, if_pos yz, if_pos yx, if_pos yk, ← h.tK dz (by omega), ← h.tR dz (by omega)], h.same, fun _ _ _ => rfl⟩
    · have yx : ¬ (0 ≤ q ∧ q ≤ 4) := fun q9 => by rw [if_pos q9] at hx; omega
      refine V_bipush dX5_as_23 rfl ?_
      exact V_iret dX5_as_25 rfl ⟨by rw [aAs, if_pos yz, if_neg yx], h.same, fun _ _ _ => rfl⟩
  · have yz : ¬ hasS σ.2.1 i := fun q9 => by rw [if_pos ⟨q9.1, by have := q9.2; omega⟩] at hz; omega
    refine V_bipush dX5_as_8 rfl ?_
    exact V_iret dX5_as_10 rfl ⟨by rw [aAs, if_neg yz], h.same, fun _ _ _ => rfl⟩

/-! ===== 85 the cells behind both constructors ===== -/
def ofL : List Nat := [0, 1, 2, 35, 52, 11, 12, 13, 14, 15, 16, 17, 18, 3, 4, 5, 6, 7, 8, 9, 10, 19, 20, 21, 22, 23, 24, 25, 26, 27, 28, 29, 30, 31, 32, 33, 34, 36, 37, 38, 39, 40, 41, 42, 43, 44, 45, 46, 47, 48, 49, 50, 51, 53, 54, 62, 69, 70, 55, 56, 57, 58, 59, 60, 61, 63, 64, 65, 66, 67, 68, 71, 72, 73, 74, 75, 76, 77, 78, 79, 80, 81, 82]
def gAt (h : Nat) : Nat → Nat := fun k => h + ofL.getD k 0
def w00 : Wd := fun k j => cond (Nat.beq k 71) (cond (decide (j = 13)) 5 0) (cond (Nat.beq k 5 || Nat.beq k 13) (cond (decide (j = 9)) 5 0) 0)
theorem ofL_inj : ∀ i, i < 83 → ∀ j, j < 83 → ofL.getD i 0 = ofL.getD j 0 → i = j := by decide +kernel
theorem gAt_inj (h : Nat) : ∀ i j : Nat, i < 83 → j < 83 → gAt h i = gAt h j → i = j := fun i j hi hj e => ofL_inj i hi j hj (by unfold gAt at e; omega)
theorem arrV_congr {c : ClassId} {N : Nat} {f g : Nat → Value} (h : ∀ j, j < N → f j = g j) : arrV c N f = arrV c N g := by
  unfold arrV
  congr 2
  funext j
  exact h j.val j.isLt
theorem as_one {D : va_G} {H : Heap} {G : Gb} {w : Wd} {k : Nat} {x : Sh} {q : Nat × va_E} (hs : shL[k]? = some x) (hk : (shL[k]?).map (fun x => (gA G k, ceE G w k x)) = some q) (h : va_at D vwCl (gA G k, ceE G w k x) H) : va_at D vwCl q H := by
  rw [hs] at hk
  cases hk
  exact h
/-- an array of cells, by its places -/
theorem as_ref {D : va_G} {H : Heap} {a n : Nat} {c : ClassId} {f g : Nat → Option Nat} (h : va_at D vwCl (a, .inl (c, n, .inr (.inr (.inr (.inr f))))) H) (e : ∀ j, j < n → f j = g j) : va_at D vwCl (a, .inl (c, n, .inr (.inr (.inr (.inr g))))) H := by
  show H[a]? = some (arrV c n (fun j => va_rf (g j)))
  rw [← arrV_congr (f := fun j => va_rf (f j)) (fun j hj => by rw [e j hj])]
  exact h
theorem va_P_app {D : va_G} {cl : List vw_C} {a b : va_W} {H : Heap} (h : va_P D cl (a ++ b) H) : va_P D cl a H ∧ va_P D cl b H := by
  refine ⟨fun k q hk => h k q ?_, fun k q hk => h (a.length + k) q ?_⟩
  · rw [List.getElem?_append_left (List.getElem?_eq_some_iff.mp hk).1]
    exact hk
  · rw [List.getElem?_append_right (by omega), Nat.add_sub_cancel_left]
    exact hk
theorem va_P_cons {D : va_G} {cl : List vw_C} {x : Nat × va_E} {b : va_W} {H : Heap} (h : va_P D cl (x :: b) H) : va_at D cl x H ∧ va_P D cl b H := ⟨h 0 x rfl, fun k q hk => h (k + 1) q hk⟩
theorem ce_arr {G : Gb} {w : Wd} {k t n : Nat} (hz : ∀ j : Int, w k j = 0) : ceE G w k (shA t n) = .inl (gC G t, n, .inl (fun _ => 0)) := by
  show Sum.inl (gC G t, n, Sum.inl (fun j : Nat => iZ (w k (j : Int)))) = _
  simp only [hz]
  rfl
theorem w00_z {k : Nat} (h1 : k ≠ 5) (h2 : k ≠ 13) (h3 : k ≠ 71) (j : Int) : w00 k j = 0 := by
  unfold w00
  have f : ∀ n : Nat, k ≠ n → Nat.beq k n = false := fun n hn => by
    cases e : Nat.beq k n with
    | false => rfl
    | true => exact absurd (Nat.eq_of_beq_eq_true e) hn
  rw [f 71 h3, f 5 h1, f 13 h2]
  rfl
/-- a cell that is an array of noughts -/
theorem as_arr {D : va_G} {H : Heap} {G : Gb} {w : Wd} {k t n a : Nat} (hz : ∀ j : Int, w k j = 0) (hg : gA G k = a) (h : va_at D vwCl (a, .inl (gC G t, n, .inl (fun _ => 0))) H) : va_at D vwCl (gA G k, ceE G w k (shA t n)) H := by
  rw [ce_arr hz, hg]
  exact h
theorem as_td {D : va_G} {H : Heap} {G : Gb} {w : Wd} {a b : Nat} (z0 : w b 0 = 0) (z6 : w b 6 = 0) (z9 : w b 9 = 5) (hg : ∀ i, i < 8 → gA G (b + i) = a + i) (hP : va_P D vwCl (tdW (gC G) a) H) : va_at D vwCl (gA G b, ceE G w b (shTd b)) H := by
  show va_at D vwCl (gA G b, .inr (3, [.int (iZ (w b 0)), .ref (gA G (b + 1)), .ref (gA G (b + 2)), .ref (gA G (b + 3)), .ref (gA G (b + 4)), .ref (gA G (b + 5)), .int (iZ (w b 6)), .ref (gA G (b + 6)), .ref (gA G (b + 7)), .int (iZ (w b 9))])) H
  rw [show gA G b = a from hg 0 (by omega), hg 1 (by omega), hg 2 (by omega), hg 3 (by omega), hg 4 (by omega), hg 5 (by omega), hg 6 (by omega), hg 7 (by omega), z0, z6, z9]
  exact hP 0 _ rfl
theorem as_st {D : va_G} {H : Heap} {G : Gb} {w : Wd} {a b : Nat} (z0 : w b 0 = 0) (z3 : w b 3 = 0) (z9 : w b 9 = 0) (hg : ∀ i, i < 8 → gA G (b + i) = a + i) (hP : va_P D vwCl (stW (gC G) a) H) : va_at D vwCl (gA G b, ceE G w b (shSt b)) H := by
  show va_at D vwCl (gA G b, .inr (1, [.int (iZ (w b 0)), .ref (gA G (b + 1)), .ref (gA G (b + 2)), .int (iZ (w b 3)), .ref (gA G (b + 3)), .ref (gA G (b + 4)), .ref (gA G (b + 5)), .ref (gA G (b + 6)), .ref (gA G (b + 7)), .int (iZ (w b 9))])) H
  rw [show gA G b = a from hg 0 (by omega), hg 1 (by omega), hg 2 (by omega), hg 3 (by omega), hg 4 (by omega), hg 5 (by omega), hg 6 (by omega), hg 7 (by omega), z0, z3, z9]
  exact hP 0 _ rfl
set_option maxRecDepth 100000 in
set_option maxHeartbeats 4000000 in
theorem as_o0 {D : va_G} {C : Nat → ClassId} {h : Nat} {K Vv : Nat → Nat} {O : Nat} {H : Heap} (hP : va_at D vwCl (h + 0, .inr (4, [.ref (h + 1), .ref (h + 11), .ref (h + 19), .ref (h + 27), .ref (h + 35), .ref (h + 52), .ref (h + 53)])) H) : va_at D vwCl (gA (D, gAt h, C, K, Vv, O) 0, ceE (D, gAt h, C, K, Vv, O) w00 0 (shO 4 [some 1, some 5, some 21, some 29, some 3, some 4, some 53])) H := by
  have e : ceE (D, gAt h, C, K, Vv, O) w00 0 (shO 4 [some 1, some 5, some 21, some 29, some 3, some 4, some 53]) = .inr (4, [.ref (gAt h 1), .ref (gAt h 5), .ref (gAt h 21), .ref (gAt h 29), .ref (gAt h 3), .ref (gAt h 4), .ref (gAt h 53)]) := by
    unfold ceE
    simp only [List.mapIdx_cons, List.mapIdx_nil]
    rfl
  rw [e, show gA (D, gAt h, C, K, Vv, O) 0 = gAt h 0 from rfl, show gAt h 0 = h + 0 from rfl, show gAt h 1 = h + 1 from rfl, show gAt h 5 = h + 11 from rfl, show gAt h 21 = h + 19 from rfl, show gAt h 29 = h + 27 from rfl, show gAt h 3 = h + 35 from rfl, show gAt h 4 = h + 52 from rfl, show gAt h 53 = h + 53 from rfl]
  exact hP
set_option maxRecDepth 100000 in
set_option maxHeartbeats 4000000 in
theorem as_o1 {D : va_G} {C : Nat → ClassId} {h : Nat} {K Vv : Nat → Nat} {O : Nat} {H : Heap} (hP : va_at D vwCl (h + 1, .inr (2, [.ref (h + 2), .int 0, .ref (h + 3), .int 0, .int 0, .int 0, .int 0, .int 0])) H) : va_at D vwCl (gA (D, gAt h, C, K, Vv, O) 1, ceE (D, gAt h, C, K, Vv, O) w00 1 (shO 2 [some 2, none, some 13, none, none, none, none, none])) H := by
  have e : ceE (D, gAt h, C, K, Vv, O) w00 1 (shO 2 [some 2, none, some 13, none, none, none, none, none]) = .inr (2, [.ref (gAt h 2), .int (iZ (w00 1 1)), .ref (gAt h 13), .int (iZ (w00 1 3)), .int (iZ (w00 1 4)), .int (iZ (w00 1 5)), .int (iZ (w00 1 6)), .int (iZ (w00 1 7))]) := by
    unfold ceE
    simp only [List.mapIdx_cons, List.mapIdx_nil]
    rfl
  rw [e, show gA (D, gAt h, C, K, Vv, O) 1 = gAt h 1 from rfl, show gAt h 1 = h + 1 from rfl, show gAt h 2 = h + 2 from rfl, show w00 1 1 = 0 from rfl, show gAt h 13 = h + 3 from rfl, show w00 1 3 = 0 from rfl, show w00 1 4 = 0 from rfl, show w00 1 5 = 0 from rfl, show w00 1 6 = 0 from rfl, show w00 1 7 = 0 from rfl]
  exact hP
set_option maxRecDepth 100000 in
set_option maxHeartbeats 4000000 in
theorem as_o53 {D : va_G} {C : Nat → ClassId} {h : Nat} {K Vv : Nat → Nat} {O : Nat} {H : Heap} (hP : va_at D vwCl (h + 53, .inr (0, [.ref (h + 54), .ref (h + 62), .ref (h + 69), .ref (h + 70), .int 0])) H) : va_at D vwCl (gA (D, gAt h, C, K, Vv, O) 53, ceE (D, gAt h, C, K, Vv, O) w00 53 (shO 0 [some 54, some 55, some 56, some 57, none])) H := by
  have e : ceE (D, gAt h, C, K, Vv, O) w00 53 (shO 0 [some 54, some 55, some 56, some 57, none]) = .inr (0, [.ref (gAt h 54), .ref (gAt h 55), .ref (gAt h 56), .ref (gAt h 57), .int (iZ (w00 53 4))]) := by
    unfold ceE
    simp only [List.mapIdx_cons, List.mapIdx_nil]
    rfl
  rw [e, show gA (D, gAt h, C, K, Vv, O) 53 = gAt h 53 from rfl, show gAt h 53 = h + 53 from rfl, show gAt h 54 = h + 54 from rfl, show gAt h 55 = h + 62 from rfl, show gAt h 56 = h + 69 from rfl, show gAt h 57 = h + 70 from rfl, show w00 53 4 = 0 from rfl]
  exact hP
set_option maxRecDepth 100000 in
set_option maxHeartbeats 4000000 in
theorem as_o71 {D : va_G} {C : Nat → ClassId} {h : Nat} {K Vv : Nat → Nat} {O : Nat} {H : Heap} (hP : va_at D vwCl (h + 71, .inr (5, [.ref (h + 72), .ref (h + 73), .ref (h + 74), .int 0, .ref (h + 75), .int 0, .ref (h + 76), .ref (h + 77), .ref (h + 78), .ref (h + 79), .int 0, .ref (h + 80), .int 0, .int 5, .int 0, .int 0, .int 0, .int 0, .int 0, .ref (h + 81), .ref (h + 82)])) H) : va_at D vwCl (gA (D, gAt h, C, K, Vv, O) 71, ceE (D, gAt h, C, K, Vv, O) w00 71 (shO 5 [some 72, some 73, some 74, none, some 75, none, some 76, some 77, some 78, some 79, none, some 80, none, none, none, none, none, none, none, some 81, some 82])) H := by
  have e : ceE (D, gAt h, C, K, Vv, O) w00 71 (shO 5 [some 72, some 73, some 74, none, some 75, none, some 76, some 77, some 78, some 79, none, some 80, none, none, none, none, none, none, none, some 81, some 82]) = .inr (5, [.ref (gAt h 72), .ref (gAt h 73), .ref (gAt h 74), .int (iZ (w00 71 3)), .ref (gAt h 75), .int (iZ (w00 71 5)), .ref (gAt h 76), .ref (gAt h 77), .ref (gAt h 78), .ref (gAt h 79), .int (iZ (w00 71 10)), .ref (gAt h 80), .int (iZ (w00 71 12)), .int (iZ (w00 71 13)), .int (iZ (w00 71 14)), .int (iZ (w00 71 15)), .int (iZ (w00 71 16)), .int (iZ (w00 71 17)), .int (iZ (w00 71 18)), .ref (gAt h 81), .ref (gAt h 82)]) := by
    unfold ceE
    simp only [List.mapIdx_cons, List.mapIdx_nil]
    rfl
  rw [e, show gA (D, gAt h, C, K, Vv, O) 71 = gAt h 71 from rfl, show gAt h 71 = h + 71 from rfl, show gAt h 72 = h + 72 from rfl, show gAt h 73 = h + 73 from rfl, show gAt h 74 = h + 74 from rfl, show w00 71 3 = 0 from rfl, show gAt h 75 = h + 75 from rfl, show w00 71 5 = 0 from rfl, show gAt h 76 = h + 76 from rfl, show gAt h 77 = h + 77 from rfl, show gAt h 78 = h + 78 from rfl, show gAt h 79 = h + 79 from rfl, show w00 71 10 = 0 from rfl, show gAt h 80 = h + 80 from rfl, show w00 71 12 = 0 from rfl, show w00 71 13 = 5 from rfl, show w00 71 14 = 0 from rfl, show w00 71 15 = 0 from rfl, show w00 71 16 = 0 from rfl, show w00 71 17 = 0 from rfl, show w00 71 18 = 0 from rfl, show gAt h 81 = h + 81 from rfl, show gAt h 82 = h + 82 from rfl]
  exact hP
set_option maxRecDepth 100000 in
set_option maxHeartbeats 4000000 in
theorem as_P {D : va_G} {C : Nat → ClassId} {h : Nat} {K Vv : Nat → Nat} {O : Nat} {H : Heap} (hP : va_P D vwCl (xxW C h ++ moW C (h + 71)) H) : va_P D vwCl (ces (D, gAt h, C, K, Vv, O) w00) H := by
  obtain ⟨hx, hm⟩ := va_P_app hP
  clear hP
  obtain ⟨p0, hx⟩ := va_P_cons hx
  obtain ⟨hx, hu⟩ := va_P_app hx
  obtain ⟨hx, p52⟩ := va_P_app hx
  obtain ⟨hx, s44⟩ := va_P_app hx
  obtain ⟨hx, s36⟩ := va_P_app hx
  obtain ⟨hx, p35⟩ := va_P_app hx
  obtain ⟨hx, s27⟩ := va_P_app hx
  obtain ⟨hx, s19⟩ := va_P_app hx
  obtain ⟨hx, t11⟩ := va_P_app hx
  obtain ⟨p1, t3⟩ := va_P_app hx
  clear hx
  obtain ⟨hu, p69⟩ := va_P_app hu
  obtain ⟨hu, m62⟩ := va_P_app hu
  obtain ⟨p53, m54⟩ := va_P_app hu
  clear hu
  have t3 : va_P D vwCl (tdW C (h + 3)) H := t3
  have m54 : va_P D vwCl (mrW C (h + 54) 7 100) H := m54
  have m62 : va_P D vwCl (mrW C (h + 62) 6 100) H := m62
  have z : ∀ k : Nat, k ≠ 5 → k ≠ 13 → k ≠ 71 → ∀ j : Int, w00 k j = 0 := fun k h1 h2 h3 j => w00_z h1 h2 h3 j
  intro k q hk
  rw [ces_at] at hk
  match k, hk with
  | 0, hk => exact as_one (x := shO 4 [some 1, some 5, some 21, some 29, some 3, some 4, some 53]) rfl hk (as_o0 (p0))
  | 1, hk => exact as_one (x := shO 2 [some 2, none, some 13, none, none, none, none, none]) rfl hk (as_o1 (p1 0 _ rfl))
  | 2, hk => exact as_one (x := shA 0 200) rfl hk (as_arr (z 2 (by decide) (by decide) (by decide)) (show gAt h 2 = h + 2 from rfl) (p1 1 _ rfl))
  | 3, hk => exact as_one (x := shR 2 [37, 45]) rfl hk (as_ref (p35 0 _ rfl) (fun j hj => by have hj : j < 2 := hj; rcases (show j = 0 ∨ j = 1 by omega) with rfl | rfl <;> rfl))
  | 4, hk => exact as_one (x := shA 1 2) rfl hk (as_arr (z 4 (by decide) (by decide) (by decide)) (show gAt h 4 = h + 52 from rfl) (p52 0 _ rfl))
  | 5, hk => exact as_one (x := shTd 5) rfl hk (as_td rfl rfl rfl (fun i hi => by rcases (show i = 0 ∨ i = 1 ∨ i = 2 ∨ i = 3 ∨ i = 4 ∨ i = 5 ∨ i = 6 ∨ i = 7 by omega) with rfl | rfl | rfl | rfl | rfl | rfl | rfl | rfl <;> rfl) t11)
  | 6, hk => exact as_one (x := shA 0 6) rfl hk (as_arr (z 6 (by decide) (by decide) (by decide)) (show gAt h 6 = h + 12 from rfl) (t11 1 _ rfl))
  | 7, hk => exact as_one (x := shA 0 6) rfl hk (as_arr (z 7 (by decide) (by decide) (by decide)) (show gAt h 7 = h + 13 from rfl) (t11 2 _ rfl))
  | 8, hk => exact as_one (x := shA 0 6) rfl hk (as_arr (z 8 (by decide) (by decide) (by decide)) (show gAt h 8 = h + 14 from rfl) (t11 3 _ rfl))
  | 9, hk => exact as_one (x := shA 0 6) rfl hk (as_arr (z 9 (by decide) (by decide) (by decide)) (show gAt h 9 = h + 15 from rfl) (t11 4 _ rfl))
  | 10, hk => exact as_one (x := shA 0 6) rfl hk (as_arr (z 10 (by decide) (by decide) (by decide)) (show gAt h 10 = h + 16 from rfl) (t11 5 _ rfl))
  | 11, hk => exact as_one (x := shA 0 6) rfl hk (as_arr (z 11 (by decide) (by decide) (by decide)) (show gAt h 11 = h + 17 from rfl) (t11 6 _ rfl))
  | 12, hk => exact as_one (x := shA 0 6) rfl hk (as_arr (z 12 (by decide) (by decide) (by decide)) (show gAt h 12 = h + 18 from rfl) (t11 7 _ rfl))
  | 13, hk => exact as_one (x := shTd 13) rfl hk (as_td rfl rfl rfl (fun i hi => by rcases (show i = 0 ∨ i = 1 ∨ i = 2 ∨ i = 3 ∨ i = 4 ∨ i = 5 ∨ i = 6 ∨ i = 7 by omega) with rfl | rfl | rfl | rfl | rfl | rfl | rfl | rfl <;> rfl) t3)
  | 14, hk => exact as_one (x := shA 0 6) rfl hk (as_arr (z 14 (by decide) (by decide) (by decide)) (show gAt h 14 = h + 4 from rfl) (t3 1 _ rfl))
  | 15, hk => exact as_one (x := shA 0 6) rfl hk (as_arr (z 15 (by decide) (by decide) (by decide)) (show gAt h 15 = h + 5 from rfl) (t3 2 _ rfl))
  | 16, hk => exact as_one (x := shA 0 6) rfl hk (as_arr (z 16 (by decide) (by decide) (by decide)) (show gAt h 16 = h + 6 from rfl) (t3 3 _ rfl))
  | 17, hk => exact as_one (x := shA 0 6) rfl hk (as_arr (z 17 (by decide) (by decide) (by decide)) (show gAt h 17 = h + 7 from rfl) (t3 4 _ rfl))
  | 18, hk => exact as_one (x := shA 0 6) rfl hk (as_arr (z 18 (by decide) (by decide) (by decide)) (show gAt h 18 = h + 8 from rfl) (t3 5 _ rfl))
  | 19, hk => exact as_one (x := shA 0 6) rfl hk (as_arr (z 19 (by decide) (by decide) (by decide)) (show gAt h 19 = h + 9 from rfl) (t3 6 _ rfl))
  | 20, hk => exact as_one (x := shA 0 6) rfl hk (as_arr (z 20 (by decide) (by decide) (by decide)) (show gAt h 20 = h + 10 from rfl) (t3 7 _ rfl))
  | 21, hk => exact as_one (x := shSt 21) rfl hk (as_st rfl rfl rfl (fun i hi => by rcases (show i = 0 ∨ i = 1 ∨ i = 2 ∨ i = 3 ∨ i = 4 ∨ i = 5 ∨ i = 6 ∨ i = 7 by omega) with rfl | rfl | rfl | rfl | rfl | rfl | rfl | rfl <;> rfl) s19)
  | 22, hk => exact as_one (x := shA 0 6) rfl hk (as_arr (z 22 (by decide) (by decide) (by decide)) (show gAt h 22 = h + 20 from rfl) (s19 1 _ rfl))
  | 23, hk => exact as_one (x := shA 0 6) rfl hk (as_arr (z 23 (by decide) (by decide) (by decide)) (show gAt h 23 = h + 21 from rfl) (s19 2 _ rfl))
  | 24, hk => exact as_one (x := shA 0 12) rfl hk (as_arr (z 24 (by decide) (by decide) (by decide)) (show gAt h 24 = h + 22 from rfl) (s19 3 _ rfl))
  | 25, hk => exact as_one (x := shA 0 12) rfl hk (as_arr (z 25 (by decide) (by decide) (by decide)) (show gAt h 25 = h + 23 from rfl) (s19 4 _ rfl))
  | 26, hk => exact as_one (x := shA 0 12) rfl hk (as_arr (z 26 (by decide) (by decide) (by decide)) (show gAt h 26 = h + 24 from rfl) (s19 5 _ rfl))
  | 27, hk => exact as_one (x := shA 0 12) rfl hk (as_arr (z 27 (by decide) (by decide) (by decide)) (show gAt h 27 = h + 25 from rfl) (s19 6 _ rfl))
  | 28, hk => exact as_one (x := shA 0 12) rfl hk (as_arr (z 28 (by decide) (by decide) (by decide)) (show gAt h 28 = h + 26 from rfl) (s19 7 _ rfl))
  | 29, hk => exact as_one (x := shSt 29) rfl hk (as_st rfl rfl rfl (fun i hi => by rcases (show i = 0 ∨ i = 1 ∨ i = 2 ∨ i = 3 ∨ i = 4 ∨ i = 5 ∨ i = 6 ∨ i = 7 by omega) with rfl | rfl | rfl | rfl | rfl | rfl | rfl | rfl <;> rfl) s27)
  | 30, hk => exact as_one (x := shA 0 6) rfl hk (as_arr (z 30 (by decide) (by decide) (by decide)) (show gAt h 30 = h + 28 from rfl) (s27 1 _ rfl))
  | 31, hk => exact as_one (x := shA 0 6) rfl hk (as_arr (z 31 (by decide) (by decide) (by decide)) (show gAt h 31 = h + 29 from rfl) (s27 2 _ rfl))
  | 32, hk => exact as_one (x := shA 0 12) rfl hk (as_arr (z 32 (by decide) (by decide) (by decide)) (show gAt h 32 = h + 30 from rfl) (s27 3 _ rfl))
  | 33, hk => exact as_one (x := shA 0 12) rfl hk (as_arr (z 33 (by decide) (by decide) (by decide)) (show gAt h 33 = h + 31 from rfl) (s27 4 _ rfl))
  | 34, hk => exact as_one (x := shA 0 12) rfl hk (as_arr (z 34 (by decide) (by decide) (by decide)) (show gAt h 34 = h + 32 from rfl) (s27 5 _ rfl))
  | 35, hk => exact as_one (x := shA 0 12) rfl hk (as_arr (z 35 (by decide) (by decide) (by decide)) (show gAt h 35 = h + 33 from rfl) (s27 6 _ rfl))
  | 36, hk => exact as_one (x := shA 0 12) rfl hk (as_arr (z 36 (by decide) (by decide) (by decide)) (show gAt h 36 = h + 34 from rfl) (s27 7 _ rfl))
  | 37, hk => exact as_one (x := shSt 37) rfl hk (as_st rfl rfl rfl (fun i hi => by rcases (show i = 0 ∨ i = 1 ∨ i = 2 ∨ i = 3 ∨ i = 4 ∨ i = 5 ∨ i = 6 ∨ i = 7 by omega) with rfl | rfl | rfl | rfl | rfl | rfl | rfl | rfl <;> rfl) s36)
  | 38, hk => exact as_one (x := shA 0 6) rfl hk (as_arr (z 38 (by decide) (by decide) (by decide)) (show gAt h 38 = h + 37 from rfl) (s36 1 _ rfl))
  | 39, hk => exact as_one (x := shA 0 6) rfl hk (as_arr (z 39 (by decide) (by decide) (by decide)) (show gAt h 39 = h + 38 from rfl) (s36 2 _ rfl))
  | 40, hk => exact as_one (x := shA 0 12) rfl hk (as_arr (z 40 (by decide) (by decide) (by decide)) (show gAt h 40 = h + 39 from rfl) (s36 3 _ rfl))
  | 41, hk => exact as_one (x := shA 0 12) rfl hk (as_arr (z 41 (by decide) (by decide) (by decide)) (show gAt h 41 = h + 40 from rfl) (s36 4 _ rfl))
  | 42, hk => exact as_one (x := shA 0 12) rfl hk (as_arr (z 42 (by decide) (by decide) (by decide)) (show gAt h 42 = h + 41 from rfl) (s36 5 _ rfl))
  | 43, hk => exact as_one (x := shA 0 12) rfl hk (as_arr (z 43 (by decide) (by decide) (by decide)) (show gAt h 43 = h + 42 from rfl) (s36 6 _ rfl))
  | 44, hk => exact as_one (x := shA 0 12) rfl hk (as_arr (z 44 (by decide) (by decide) (by decide)) (show gAt h 44 = h + 43 from rfl) (s36 7 _ rfl))
  | 45, hk => exact as_one (x := shSt 45) rfl hk (as_st rfl rfl rfl (fun i hi => by rcases (show i = 0 ∨ i = 1 ∨ i = 2 ∨ i = 3 ∨ i = 4 ∨ i = 5 ∨ i = 6 ∨ i = 7 by omega) with rfl | rfl | rfl | rfl | rfl | rfl | rfl | rfl <;> rfl) s44)
  | 46, hk => exact as_one (x := shA 0 6) rfl hk (as_arr (z 46 (by decide) (by decide) (by decide)) (show gAt h 46 = h + 45 from rfl) (s44 1 _ rfl))
  | 47, hk => exact as_one (x := shA 0 6) rfl hk (as_arr (z 47 (by decide) (by decide) (by decide)) (show gAt h 47 = h + 46 from rfl) (s44 2 _ rfl))
  | 48, hk => exact as_one (x := shA 0 12) rfl hk (as_arr (z 48 (by decide) (by decide) (by decide)) (show gAt h 48 = h + 47 from rfl) (s44 3 _ rfl))
  | 49, hk => exact as_one (x := shA 0 12) rfl hk (as_arr (z 49 (by decide) (by decide) (by decide)) (show gAt h 49 = h + 48 from rfl) (s44 4 _ rfl))
  | 50, hk => exact as_one (x := shA 0 12) rfl hk (as_arr (z 50 (by decide) (by decide) (by decide)) (show gAt h 50 = h + 49 from rfl) (s44 5 _ rfl))
  | 51, hk => exact as_one (x := shA 0 12) rfl hk (as_arr (z 51 (by decide) (by decide) (by decide)) (show gAt h 51 = h + 50 from rfl) (s44 6 _ rfl))
  | 52, hk => exact as_one (x := shA 0 12) rfl hk (as_arr (z 52 (by decide) (by decide) (by decide)) (show gAt h 52 = h + 51 from rfl) (s44 7 _ rfl))
  | 53, hk => exact as_one (x := shO 0 [some 54, some 55, some 56, some 57, none]) rfl hk (as_o53 (p53 0 _ rfl))
  | 54, hk => exact as_one (x := shR 3 [58, 59, 60, 61, 62, 63, 64]) rfl hk (as_ref (m54 0 _ rfl) (fun j hj => by have hj : j < 7 := hj; rcases (show j = 0 ∨ j = 1 ∨ j = 2 ∨ j = 3 ∨ j = 4 ∨ j = 5 ∨ j = 6 by omega) with rfl | rfl | rfl | rfl | rfl | rfl | rfl <;> rfl))
  | 55, hk => exact as_one (x := shR 3 [65, 66, 67, 68, 69, 70]) rfl hk (as_ref (m62 0 _ rfl) (fun j hj => by have hj : j < 6 := hj; rcases (show j = 0 ∨ j = 1 ∨ j = 2 ∨ j = 3 ∨ j = 4 ∨ j = 5 by omega) with rfl | rfl | rfl | rfl | rfl | rfl <;> rfl))
  | 56, hk => exact as_one (x := shA 0 100) rfl hk (as_arr (z 56 (by decide) (by decide) (by decide)) (show gAt h 56 = h + 69 from rfl) (p69 0 _ rfl))
  | 57, hk => exact as_one (x := shA 0 6) rfl hk (as_arr (z 57 (by decide) (by decide) (by decide)) (show gAt h 57 = h + 70 from rfl) (p69 1 _ rfl))
  | 58, hk => exact as_one (x := shA 0 100) rfl hk (as_arr (z 58 (by decide) (by decide) (by decide)) (show gAt h 58 = h + 55 from rfl) (m54 1 _ rfl))
  | 59, hk => exact as_one (x := shA 0 100) rfl hk (as_arr (z 59 (by decide) (by decide) (by decide)) (show gAt h 59 = h + 56 from rfl) (m54 2 _ rfl))
  | 60, hk => exact as_one (x := shA 0 100) rfl hk (as_arr (z 60 (by decide) (by decide) (by decide)) (show gAt h 60 = h + 57 from rfl) (m54 3 _ rfl))
  | 61, hk => exact as_one (x := shA 0 100) rfl hk (as_arr (z 61 (by decide) (by decide) (by decide)) (show gAt h 61 = h + 58 from rfl) (m54 4 _ rfl))
  | 62, hk => exact as_one (x := shA 0 100) rfl hk (as_arr (z 62 (by decide) (by decide) (by decide)) (show gAt h 62 = h + 59 from rfl) (m54 5 _ rfl))
  | 63, hk => exact as_one (x := shA 0 100) rfl hk (as_arr (z 63 (by decide) (by decide) (by decide)) (show gAt h 63 = h + 60 from rfl) (m54 6 _ rfl))
  | 64, hk => exact as_one (x := shA 0 100) rfl hk (as_arr (z 64 (by decide) (by decide) (by decide)) (show gAt h 64 = h + 61 from rfl) (m54 7 _ rfl))
  | 65, hk => exact as_one (x := shA 0 100) rfl hk (as_arr (z 65 (by decide) (by decide) (by decide)) (show gAt h 65 = h + 63 from rfl) (m62 1 _ rfl))
  | 66, hk => exact as_one (x := shA 0 100) rfl hk (as_arr (z 66 (by decide) (by decide) (by decide)) (show gAt h 66 = h + 64 from rfl) (m62 2 _ rfl))
  | 67, hk => exact as_one (x := shA 0 100) rfl hk (as_arr (z 67 (by decide) (by decide) (by decide)) (show gAt h 67 = h + 65 from rfl) (m62 3 _ rfl))
  | 68, hk => exact as_one (x := shA 0 100) rfl hk (as_arr (z 68 (by decide) (by decide) (by decide)) (show gAt h 68 = h + 66 from rfl) (m62 4 _ rfl))
  | 69, hk => exact as_one (x := shA 0 100) rfl hk (as_arr (z 69 (by decide) (by decide) (by decide)) (show gAt h 69 = h + 67 from rfl) (m62 5 _ rfl))
  | 70, hk => exact as_one (x := shA 0 100) rfl hk (as_arr (z 70 (by decide) (by decide) (by decide)) (show gAt h 70 = h + 68 from rfl) (m62 6 _ rfl))
  | 71, hk => exact as_one (x := shO 5 [some 72, some 73, some 74, none, some 75, none, some 76, some 77, some 78, some 79, none, some 80, none, none, none, none, none, none, none, some 81, some 82]) rfl hk (as_o71 (hm 0 _ rfl))
  | 72, hk => exact as_one (x := shA 0 375) rfl hk (as_arr (z 72 (by decide) (by decide) (by decide)) (show gAt h 72 = h + 72 from rfl) (hm 1 _ rfl))
  | 73, hk => exact as_one (x := shA 1 2) rfl hk (as_arr (z 73 (by decide) (by decide) (by decide)) (show gAt h 73 = h + 73 from rfl) (hm 2 _ rfl))
  | 74, hk => exact as_one (x := shA 0 200) rfl hk (as_arr (z 74 (by decide) (by decide) (by decide)) (show gAt h 74 = h + 74 from rfl) (hm 3 _ rfl))
  | 75, hk => exact as_one (x := shA 0 48) rfl hk (as_arr (z 75 (by decide) (by decide) (by decide)) (show gAt h 75 = h + 75 from rfl) (hm 4 _ rfl))
  | 76, hk => exact as_one (x := shA 0 6) rfl hk (as_arr (z 76 (by decide) (by decide) (by decide)) (show gAt h 76 = h + 76 from rfl) (hm 5 _ rfl))
  | 77, hk => exact as_one (x := shA 0 6) rfl hk (as_arr (z 77 (by decide) (by decide) (by decide)) (show gAt h 77 = h + 77 from rfl) (hm 6 _ rfl))
  | 78, hk => exact as_one (x := shA 0 6) rfl hk (as_arr (z 78 (by decide) (by decide) (by decide)) (show gAt h 78 = h + 78 from rfl) (hm 7 _ rfl))
  | 79, hk => exact as_one (x := shA 0 6) rfl hk (as_arr (z 79 (by decide) (by decide) (by decide)) (show gAt h 79 = h + 79 from rfl) (hm 8 _ rfl))
  | 80, hk => exact as_one (x := shA 0 12) rfl hk (as_arr (z 80 (by decide) (by decide) (by decide)) (show gAt h 80 = h + 80 from rfl) (hm 9 _ rfl))
  | 81, hk => exact as_one (x := shA 0 600) rfl hk (as_arr (z 81 (by decide) (by decide) (by decide)) (show gAt h 81 = h + 81 from rfl) (hm 10 _ rfl))
  | 82, hk => exact as_one (x := shA 0 700) rfl hk (as_arr (z 82 (by decide) (by decide) (by decide)) (show gAt h 82 = h + 82 from rfl) (hm 11 _ rfl))
  | n + 83, hk =>
    rw [List.getElem?_eq_none (by rw [shL_len]; omega)] at hk
    cases hk
/-- what both know at the start -/
def sg0 : SG := ([], (0, [0, 0, 0, 0, 0, 0], [0, 0, 0, 0, 0, 0], [0, 0, 0, 0, 0, 0], [0, 0, 0, 0, 0, 0], [0, 0, 0, 0, 0, 0], [], 5), (0, 0, [0, 0, 0, 0, 0, 0], [0, 0, 0, 0, 0, 0], []), none, none)
theorem ok0 : okAS 0 (0, 0, [0, 0, 0, 0, 0, 0], [0, 0, 0, 0, 0, 0], []) := by
  refine ⟨by decide, by decide, by decide, by decide, by decide, fun x hx => ?_⟩
  cases hx
theorem SC_0 : SC 0 sg0 w00 := by
  refine ⟨⟨rfl, by decide, fun i h0 h1 => absurd h1 (Int.not_lt.mpr h0)⟩, ⟨rfl, ?_⟩, ⟨rfl, ⟨by decide, ok0⟩, by decide⟩, Or.inl ⟨rfl, rfl⟩, Or.inl ⟨rfl, rfl⟩⟩
  refine ⟨by decide, by decide, by decide, fun t h0 h1 => ?_, fun q h0 h1 => absurd h1 (Int.not_lt.mpr h0)⟩
  show (0 ≤ (0 : Int) ∧ (0 : Int) ≤ 3) ∧ (0 ≤ (0 : Int) ∧ (0 : Int) ≤ 99) ∧ (0 ≤ (0 : Int) ∧ (0 : Int) ≤ 50) ∧ (0 ≤ (0 : Int) ∧ (0 : Int) ≤ 99) ∧ (0 ≤ (0 : Int) ∧ (0 : Int) ≤ 9)
  decide
theorem SM_0 : SM 0 sg0 w00 := by
  refine ⟨⟨rfl, by decide, fun i h0 h1 => absurd h1 (Int.not_lt.mpr h0)⟩, ⟨rfl, ?_, rfl, rfl, fun _ _ _ => rfl, rfl⟩, ⟨rfl, ⟨by decide, ok0⟩, by decide⟩, Or.inl ⟨rfl, rfl⟩, Or.inl ⟨rfl, rfl⟩⟩
  refine ⟨by decide, by decide, by decide, fun t h0 h1 => ?_, fun q h0 h1 => absurd h1 (Int.not_lt.mpr h0)⟩
  show (0 ≤ (0 : Int) ∧ (0 : Int) ≤ 3) ∧ (0 ≤ (0 : Int) ∧ (0 : Int) ≤ 99) ∧ (0 ≤ (0 : Int) ∧ (0 : Int) ≤ 50) ∧ (0 ≤ (0 : Int) ∧ (0 : Int) ≤ 99) ∧ (0 ≤ (0 : Int) ∧ (0 : Int) ≤ 9)
  decide

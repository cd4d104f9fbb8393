/-! ===== 35 HutPlan: it is safe, and it touches nothing but its own ===== -/
theorem sRow {q : Nat} (h : 58 ≤ q ∧ q ≤ 70) : shL[q]? = some (shA 0 100) := by
  rcases (show q = 58 ∨ q = 59 ∨ q = 60 ∨ q = 61 ∨ q = 62 ∨ q = 63 ∨ q = 64 ∨ q = 65 ∨ q = 66 ∨ q = 67 ∨ q = 68 ∨ q = 69 ∨ q = 70 by omega) with rfl | rfl | rfl | rfl | rfl | rfl | rfl | rfl | rfl | rfl | rfl | rfl | rfl <;> rfl
theorem rw7 {i : Int} (h : 0 ≤ i ∧ i < 7) : ([58, 59, 60, 61, 62, 63, 64] : List Nat)[i.toNat]? = some (58 + i.toNat) := by
  rcases (show i = 0 ∨ i = 1 ∨ i = 2 ∨ i = 3 ∨ i = 4 ∨ i = 5 ∨ i = 6 by omega) with rfl | rfl | rfl | rfl | rfl | rfl | rfl <;> rfl
theorem rw6 {i : Int} (h : 0 ≤ i ∧ i < 6) : ([65, 66, 67, 68, 69, 70] : List Nat)[i.toNat]? = some (65 + i.toNat) := by
  rcases (show i = 0 ∨ i = 1 ∨ i = 2 ∨ i = 3 ∨ i = 4 ∨ i = 5 by omega) with rfl | rfl | rfl | rfl | rfl | rfl <;> rfl
section
variable {G : Gb} {l : Launch} {M : MB} {Qc : Array Value → State → Outcome → State → Prop} {pc : Nat} {L : List (Option Value)} {st : List Value} {w : Wd}
theorem V_icmp_ge0 {a b : Int} {off : Int} {tgt : Nat} (hd : decode M.1 pc = .ok (.if_icmp .ge off, 3)) (ht : (pc : Int) + off = (tgt : Int)) (kt : V G l M Qc tgt L st w) (kf : V G l M Qc (pc + 3) L st w) : V G l M Qc pc L (.int (iZ b) :: .int (iZ a) :: st) w :=
  fun p e s m args below meth c H locs ls C hP hS hl => lv_icmp_ge C.1 C.2.1 hd ht (fun _ => kt p e s m args below meth c H locs ls C hP hS hl) (fun _ => kf p e s m args below meth c H locs ls C hP hS hl)
theorem V_icmp_lt0 {a b : Int} {off : Int} {tgt : Nat} (hd : decode M.1 pc = .ok (.if_icmp .lt off, 3)) (ht : (pc : Int) + off = (tgt : Int)) (kt : V G l M Qc tgt L st w) (kf : V G l M Qc (pc + 3) L st w) : V G l M Qc pc L (.int (iZ b) :: .int (iZ a) :: st) w :=
  fun p e s m args below meth c H locs ls C hP hS hl => lv_icmp_lt C.1 C.2.1 hd ht (fun _ => kt p e s m args below meth c H locs ls C hP hS hl) (fun _ => kf p e s m args below meth c H locs ls C hP hS hl)
end
/-- all but the plan's rows is as it was -/
def frH (w w' : Wd) : Prop := ∀ (k : Nat) (j : Int), (k ≤ 53 ∨ 70 < k) → w' k j = w k j
theorem frH.tr {w w1 w2 : Wd} (h : frH w w1) (g : frH w1 w2) : frH w w2 := fun k j q => (g k j q).trans (h k j q)
theorem frH.u {w w1 : Wd} {k : Nat} {j z : Int} (h : frH w w1) (q : 54 ≤ k ∧ k ≤ 70) : frH w (up w1 k j z) := fun k' j' q' => (up_ne (by omega)).trans (h k' j' q')
def chH (w : Wd) (b i0 n : Int) : Prop := ∀ i m : Int, i0 ≤ i → i < n → 0 ≤ m → m ≤ b → 0 ≤ w (65 + i.toNat) m ∧ w (65 + i.toNat) m ≤ m
set_option maxRecDepth 100000 in
set_option maxHeartbeats 4000000 in
theorem l_X0_chooseFrom (G : Gb) (l : Launch) {w : Wd} {i n mo : Int} (hi : 0 ≤ i ∧ i < 6) (hn : 0 ≤ n ∧ n ≤ 99) (hm : 0 ≤ mo ∧ mo ≤ n) : ∀ (k : Nat) (ta be bt : Int) (m : Option Value), 0 ≤ ta → ta + k = mo + 1 → (0 ≤ bt ∧ bt ≤ n) → V G l mX0_chooseFrom (Qv G (fun w' => (0 ≤ w' (65 + i.toNat) n ∧ w' (65 + i.toNat) n ≤ n) ∧ ∀ (k : Nat) (j : Int), (k ≠ 58 + i.toNat ∨ j ≠ n) → (k ≠ 65 + i.toNat ∨ j ≠ n) → w' k j = w k j)) 10 [some (.ref (gA G 53)), some (.int (iZ i)), some (.int (iZ n)), some (.int (iZ mo)), some (.int (iZ be)), some (.int (iZ bt)), some (.int (iZ ta)), m] [] w := by
  intro k
  induction k with
  | zero =>
    intro ta be bt m h0 h1 hb
    refine V_iload dX0_chooseFrom_10 rfl ?_
    refine V_iload_n dX0_chooseFrom_12 rfl ?_
    refine V_icmp_gt (tgt := 60) dX0_chooseFrom_13 (by decide) (by omega) (by omega) (fun h13 => ?_) (fun h13 => ?_)
    · refine V_aload_n dX0_chooseFrom_60 rfl ?_
      refine V_getR (ci := 0) (j := 0) dX0_chooseFrom_61 s_53 rfl rfl i_X0_chooseFrom_X0 (by decide) f_X0_chooseFrom_11 ?_
      refine V_iload_n dX0_chooseFrom_64 rfl ?_
      refine V_aald (q := 58 + i.toNat) dX0_chooseFrom_65 s_54 (by decide) (by show 0 ≤ _ ∧ _ < (7 : Int); omega) (rw7 (by omega)) ?_
      refine V_iload_n dX0_chooseFrom_66 rfl ?_
      refine V_iload dX0_chooseFrom_67 rfl ?_
      refine V_iast dX0_chooseFrom_69 (sRow (by omega)) (by show 0 ≤ _ ∧ _ < (100 : Int); omega) ?_
      refine V_aload_n dX0_chooseFrom_70 rfl ?_
      refine V_getR (ci := 0) (j := 1) dX0_chooseFrom_71 s_53 rfl rfl i_X0_chooseFrom_X0 (by decide) f_X0_chooseFrom_16 ?_
      refine V_iload_n dX0_chooseFrom_74 rfl ?_
      refine V_aald (q := 65 + i.toNat) dX0_chooseFrom_75 s_55 (by decide) (by show 0 ≤ _ ∧ _ < (6 : Int); omega) (rw6 (by omega)) ?_
      refine V_iload_n dX0_chooseFrom_76 rfl ?_
      refine V_iload dX0_chooseFrom_77 rfl ?_
      refine V_iast dX0_chooseFrom_79 (sRow (by omega)) (by show 0 ≤ _ ∧ _ < (100 : Int); omega) ?_
      exact V_vret dX0_chooseFrom_80 rfl ⟨by rw [up_eq]; exact hb, fun k j q1 q2 => by rw [up_ne (by omega), up_ne (by omega)]⟩
    · exact absurd h13 (by omega)
  | succ k ih =>
    intro ta be bt m h0 h1 hb
    refine V_iload dX0_chooseFrom_10 rfl ?_
    refine V_iload_n dX0_chooseFrom_12 rfl ?_
    refine V_icmp_gt (tgt := 60) dX0_chooseFrom_13 (by decide) (by omega) (by omega) (fun h13 => ?_) (fun h13 => ?_)
    · exact absurd h13 (by omega)
    · refine V_aload_n dX0_chooseFrom_16 rfl ?_
      refine V_getR (ci := 0) (j := 2) dX0_chooseFrom_17 s_53 rfl rfl i_X0_chooseFrom_X0 (by decide) f_X0_chooseFrom_19 ?_
      refine V_iload dX0_chooseFrom_20 rfl ?_
      refine V_iald dX0_chooseFrom_22 s_56 (by omega) ?_
      refine V_aload_n dX0_chooseFrom_23 rfl ?_
      refine V_getR (ci := 0) (j := 0) dX0_chooseFrom_24 s_53 rfl rfl i_X0_chooseFrom_X0 (by decide) f_X0_chooseFrom_11 ?_
      refine V_iload_n dX0_chooseFrom_27 rfl ?_
      refine V_iconst dX0_chooseFrom_28 ?_
      refine V_iadd dX0_chooseFrom_29 ?_
      refine V_aald (q := 58 + (i + 1).toNat) dX0_chooseFrom_30 s_54 (by decide) (by show 0 ≤ _ ∧ _ < (7 : Int); omega) (rw7 (by omega)) ?_
      refine V_iload_n dX0_chooseFrom_31 rfl ?_
      refine V_iload dX0_chooseFrom_32 rfl ?_
      refine V_isub dX0_chooseFrom_34 ?_
      refine V_iald dX0_chooseFrom_35 (sRow (by omega)) (by show 0 ≤ _ ∧ _ < (100 : Int); omega) ?_
      refine V_iadd dX0_chooseFrom_36 ?_
      refine V_istore dX0_chooseFrom_37 (by decide) rfl ?_
      refine V_iload dX0_chooseFrom_39 rfl ?_
      refine V_iload dX0_chooseFrom_41 rfl ?_
      refine V_icmp_ge0 (tgt := 54) dX0_chooseFrom_43 (by decide) ?_ ?_
      · refine V_iinc dX0_chooseFrom_54 rfl (by decide) rfl ?_
        refine V_goto (tgt := 10) dX0_chooseFrom_57 (by decide) ?_
        exact ih _ _ _ _ (by omega) (by omega) (by omega)
      · refine V_iload dX0_chooseFrom_46 rfl ?_
        refine V_istore dX0_chooseFrom_48 (by decide) rfl ?_
        refine V_iload dX0_chooseFrom_50 rfl ?_
        refine V_istore dX0_chooseFrom_52 (by decide) rfl ?_
        refine V_iinc dX0_chooseFrom_54 rfl (by decide) rfl ?_
        refine V_goto (tgt := 10) dX0_chooseFrom_57 (by decide) ?_
        exact ih _ _ _ _ (by omega) (by omega) (by omega)
set_option maxRecDepth 100000 in
set_option maxHeartbeats 4000000 in
theorem c_X0_chooseFrom (G : Gb) (l : Launch) {w : Wd} {i n mo : Int} (hi : 0 ≤ i ∧ i < 6) (hn : 0 ≤ n ∧ n ≤ 99) (hm : 0 ≤ mo ∧ mo ≤ n) : Cv G l yX0_chooseFrom mX0_chooseFrom [.ref (gA G 53), .int (iZ i), .int (iZ n), .int (iZ mo)] w (fun w' => (0 ≤ w' (65 + i.toNat) n ∧ w' (65 + i.toNat) n ≤ n) ∧ ∀ (k : Nat) (j : Int), (k ≠ 58 + i.toNat ∨ j ≠ n) → (k ≠ 65 + i.toNat ∨ j ≠ n) → w' k j = w k j) := by
  refine V_start 4 (by decide) rfl rfl (Nat.le_of_ble_eq_true rfl) ?_
  show V G l mX0_chooseFrom _ 0 [some (.ref (gA G 53)), some (.int (iZ i)), some (.int (iZ n)), some (.int (iZ mo)), none, none, none, none] [] w
  refine V_ldc (n := 100000000) dX0_chooseFrom_0 (List.mem_of_getElem? (i := 1) rfl) ?_
  refine V_istore dX0_chooseFrom_2 (by decide) rfl ?_
  refine V_iconst dX0_chooseFrom_4 ?_
  refine V_istore dX0_chooseFrom_5 (by decide) rfl ?_
  refine V_iconst dX0_chooseFrom_7 ?_
  refine V_istore dX0_chooseFrom_8 (by decide) rfl ?_
  exact l_X0_chooseFrom G l hi hn hm (mo + 1).toNat 0 _ 0 none (by omega) (by omega) (by omega)
set_option maxRecDepth 100000 in
set_option maxHeartbeats 4000000 in
theorem c_X0_owedTogether (G : Gb) (l : Launch) {w : Wd} (hb : 0 ≤ w 53 4 ∧ w 53 4 ≤ 99) : Ci G l yX0_owedTogether mX0_owedTogether [.ref (gA G 53)] w (fun _ w' => w = w') := by
  refine V_start 0 (by decide) rfl rfl (Nat.le_of_ble_eq_true rfl) ?_
  show V G l mX0_owedTogether _ 0 [some (.ref (gA G 53))] [] w
  refine V_aload_n dX0_owedTogether_0 rfl ?_
  refine V_getR (ci := 0) (j := 0) dX0_owedTogether_1 s_53 rfl rfl i_X0_owedTogether_X0 (by decide) f_X0_owedTogether_11 ?_
  refine V_iconst dX0_owedTogether_4 ?_
  refine V_aald (q := 58) dX0_owedTogether_5 s_54 (by decide) (by decide) rfl ?_
  refine V_aload_n dX0_owedTogether_6 rfl ?_
  refine V_getI (ci := 0) (j := 4) (ji := 4) dX0_owedTogether_7 s_53 rfl rfl i_X0_owedTogether_X0 (by decide) f_X0_owedTogether_26 rfl ?_
  refine V_iald dX0_owedTogether_10 s_58 (by omega) ?_
  exact V_iret dX0_owedTogether_11 rfl rfl
set_option maxRecDepth 100000 in
set_option maxHeartbeats 4000000 in
theorem l_X0_followChoices (G : Gb) (l : Launch) {w0 : Wd} {tr b : Int} (ht : 0 ≤ tr ∧ tr ≤ 6) (hb : 0 ≤ b ∧ b ≤ 99) (hc : chH w0 b 0 tr) : ∀ (k : Nat) (le i : Int) (w : Wd), 0 ≤ i → i + k = tr → (0 ≤ le ∧ le ≤ b) → (∀ (k : Nat) (j : Int), k ≠ 57 → w k j = w0 k j) → V G l mX0_followChoices (Qv G (fun w' => ∀ (k : Nat) (j : Int), k ≠ 57 → w' k j = w0 k j)) 7 [some (.ref (gA G 53)), some (.int (iZ tr)), some (.int (iZ le)), some (.int (iZ i))] [] w := by
  intro k
  induction k with
  | zero =>
    intro le i w h0 h1 hl hf
    refine V_iload_n dX0_followChoices_7 rfl ?_
    refine V_iload_n dX0_followChoices_8 rfl ?_
    refine V_icmp_ge (tgt := 41) dX0_followChoices_9 (by decide) (by omega) (by omega) (fun h9 => ?_) (fun h9 => ?_)
    · exact V_vret dX0_followChoices_41 rfl hf
    · exact absurd h9 (by omega)
  | succ k ih =>
    intro le i w h0 h1 hl hf
    have hq := hc i le h0 (by omega) hl.1 hl.2
    rw [← hf _ _ (by omega)] at hq
    refine V_iload_n dX0_followChoices_7 rfl ?_
    refine V_iload_n dX0_followChoices_8 rfl ?_
    refine V_icmp_ge (tgt := 41) dX0_followChoices_9 (by decide) (by omega) (by omega) (fun h9 => ?_) (fun h9 => ?_)
    · exact absurd h9 (by omega)
    · refine V_aload_n dX0_followChoices_12 rfl ?_
      refine V_getR (ci := 0) (j := 3) dX0_followChoices_13 s_53 rfl rfl i_X0_followChoices_X0 (by decide) f_X0_followChoices_23 ?_
      refine V_iload_n dX0_followChoices_16 rfl ?_
      refine V_aload_n dX0_followChoices_17 rfl ?_
      refine V_getR (ci := 0) (j := 1) dX0_followChoices_18 s_53 rfl rfl i_X0_followChoices_X0 (by decide) f_X0_followChoices_16 ?_
      refine V_iload_n dX0_followChoices_21 rfl ?_
      refine V_aald (q := 65 + i.toNat) dX0_followChoices_22 s_55 (by decide) (by show 0 ≤ _ ∧ _ < (6 : Int); omega) (rw6 (by omega)) ?_
      refine V_iload_n dX0_followChoices_23 rfl ?_
      refine V_iald dX0_followChoices_24 (sRow (by omega)) (by show 0 ≤ _ ∧ _ < (100 : Int); omega) ?_
      refine V_iast dX0_followChoices_25 s_57 (by omega) ?_
      refine V_iload_n dX0_followChoices_26 rfl ?_
      refine V_aload_n dX0_followChoices_27 rfl ?_
      refine V_getR (ci := 0) (j := 3) dX0_followChoices_28 s_53 rfl rfl i_X0_followChoices_X0 (by decide) f_X0_followChoices_23 ?_
      refine V_iload_n dX0_followChoices_31 rfl ?_
      refine V_ialdE (z := w (65 + i.toNat) le) dX0_followChoices_32 s_57 (by omega) (up_eq _ _ _ _) ?_
      refine V_isub dX0_followChoices_33 ?_
      refine V_istore_n dX0_followChoices_34 (by decide) rfl ?_
      refine V_iinc dX0_followChoices_35 rfl (by decide) rfl ?_
      refine V_goto (tgt := 7) dX0_followChoices_38 (by decide) ?_
      exact ih _ _ _ (by omega) (by omega) (by omega) (fun k j q => by rw [up_ne (by omega)]; exact hf k j q)
set_option maxRecDepth 100000 in
set_option maxHeartbeats 4000000 in
theorem c_X0_followChoices (G : Gb) (l : Launch) {w : Wd} {tr : Int} (ht : 0 ≤ tr ∧ tr ≤ 6) (hb : 0 ≤ w 53 4 ∧ w 53 4 ≤ 99) (hc : chH w (w 53 4) 0 tr) : Cv G l yX0_followChoices mX0_followChoices [.ref (gA G 53), .int (iZ tr)] w (fun w' => ∀ (k : Nat) (j : Int), k ≠ 57 → w' k j = w k j) := by
  refine V_start 2 (by decide) rfl rfl (Nat.le_of_ble_eq_true rfl) ?_
  show V G l mX0_followChoices _ 0 [some (.ref (gA G 53)), some (.int (iZ tr)), none, none] [] w
  refine V_aload_n dX0_followChoices_0 rfl ?_
  refine V_getI (ci := 0) (j := 4) (ji := 4) dX0_followChoices_1 s_53 rfl rfl i_X0_followChoices_X0 (by decide) f_X0_followChoices_26 rfl ?_
  refine V_istore_n dX0_followChoices_4 (by decide) rfl ?_
  refine V_iconst dX0_followChoices_5 ?_
  refine V_istore_n dX0_followChoices_6 (by decide) rfl ?_
  exact l_X0_followChoices G l ht hb hc tr.toNat _ 0 w (by omega) (by omega) (by omega) (fun _ _ _ => rfl)
set_option maxRecDepth 100000 in
set_option maxHeartbeats 4000000 in
theorem l1_X0_find (G : Gb) (l : Launch) {w0 : Wd} {b t : Int} (hb : 1 ≤ b ∧ b ≤ 99) (ht : 0 ≤ t ∧ t ≤ 30) (hT : okT w0 5) {Qc : Array Value → State → Outcome → State → Prop} : ∀ (k : Nat) (n : Int) (w : Wd), 1 ≤ n → n + k = b + 1 → frH w0 w → (∀ n w', frH w0 w' → V G l mX0_find Qc 46 [some (.ref (gA G 53)), some (.ref (gA G 5)), some (.ref (gA G 21)), some (.int (iZ b)), some (.int (iZ t)), some (.int (iZ n)), none, none] [] w') → V G l mX0_find Qc 20 [some (.ref (gA G 53)), some (.ref (gA G 5)), some (.ref (gA G 21)), some (.int (iZ b)), some (.int (iZ t)), some (.int (iZ n)), none, none] [] w := by
  have kt := hT.1
  intro k
  induction k with
  | zero =>
    intro n w h0 h1 hf hp
    refine V_iload dX0_find_20 rfl ?_
    refine V_iload_n dX0_find_22 rfl ?_
    refine V_icmp_gt (tgt := 46) dX0_find_23 (by decide) (by omega) (by omega) (fun h23 => ?_) (fun h23 => ?_)
    · exact hp _ _ hf
    · exact absurd h23 (by omega)
  | succ k ih =>
    intro n w h0 h1 hf hp
    have e5 : w 5 0 = w0 5 0 := hf _ _ (by omega)
    refine V_iload dX0_find_20 rfl ?_
    refine V_iload_n dX0_find_22 rfl ?_
    refine V_icmp_gt (tgt := 46) dX0_find_23 (by decide) (by omega) (by omega) (fun h23 => ?_) (fun h23 => ?_)
    · exact absurd h23 (by omega)
    · refine V_aload_n dX0_find_26 rfl ?_
      refine V_getR (ci := 0) (j := 0) dX0_find_27 s_53 rfl rfl i_X0_find_X0 (by decide) f_X0_find_11 ?_
      refine V_aload_n dX0_find_30 rfl ?_
      refine V_getI (ci := 3) (j := 0) (ji := 0) dX0_find_31 s_5 rfl rfl i_X0_find_X3 (by decide) f_X0_find_30 rfl ?_
      refine V_aald (q := 58 + (w 5 0).toNat) dX0_find_34 s_54 (by decide) (by show 0 ≤ _ ∧ _ < (7 : Int); omega) (rw7 (by omega)) ?_
      refine V_iload dX0_find_35 rfl ?_
      refine V_ldc (n := 100000000) dX0_find_37 (List.mem_of_getElem? (i := 4) rfl) ?_
      refine V_iast dX0_find_39 (sRow (by omega)) (by show 0 ≤ _ ∧ _ < (100 : Int); omega) ?_
      refine V_iinc dX0_find_40 rfl (by decide) rfl ?_
      refine V_goto (tgt := 20) dX0_find_43 (by decide) ?_
      exact ih _ _ (by omega) (by omega) (hf.u (by omega)) hp
set_option maxRecDepth 100000 in
set_option maxHeartbeats 4000000 in
theorem l2_X0_find (G : Gb) (l : Launch) {w0 : Wd} {b t : Int} (hb : 1 ≤ b ∧ b ≤ 99) (ht : 0 ≤ t ∧ t ≤ 30) (hT : okT w0 5) {Qc : Array Value → State → Outcome → State → Prop} {i mo : Int} (hi : 0 ≤ i ∧ i < 6) (hm : 0 ≤ mo ∧ mo ≤ b) : ∀ (k : Nat) (n : Int) (w : Wd), 1 ≤ n → n + k = mo + 1 → (∀ (k : Nat) (j : Int), k ≠ 56 → w k j = w0 k j) → (∀ n w', (∀ (k : Nat) (j : Int), k ≠ 56 → w' k j = w0 k j) → V G l mX0_find Qc 126 [some (.ref (gA G 53)), some (.ref (gA G 5)), some (.ref (gA G 21)), some (.int (iZ b)), some (.int (iZ t)), some (.int (iZ i)), some (.int (iZ mo)), some (.int (iZ n))] [] w') → V G l mX0_find Qc 96 [some (.ref (gA G 53)), some (.ref (gA G 5)), some (.ref (gA G 21)), some (.int (iZ b)), some (.int (iZ t)), some (.int (iZ i)), some (.int (iZ mo)), some (.int (iZ n))] [] w := by
  intro k
  induction k with
  | zero =>
    intro n w h0 h1 hf hp
    refine V_iload dX0_find_96 rfl ?_
    refine V_iload dX0_find_98 rfl ?_
    refine V_icmp_gt (tgt := 126) dX0_find_100 (by decide) (by omega) (by omega) (fun h100 => ?_) (fun h100 => ?_)
    · exact hp _ _ hf
    · exact absurd h100 (by omega)
  | succ k ih =>
    intro n w h0 h1 hf hp
    have hk := (okT_sl hT (w' := w) (fun k j q => hf k j (by omega))).2.2.2.1 i hi.1 hi.2
    refine V_iload dX0_find_96 rfl ?_
    refine V_iload dX0_find_98 rfl ?_
    refine V_icmp_gt (tgt := 126) dX0_find_100 (by decide) (by omega) (by omega) (fun h100 => ?_) (fun h100 => ?_)
    · exact absurd h100 (by omega)
    · refine V_aload_n dX0_find_103 rfl ?_
      refine V_getR (ci := 0) (j := 2) dX0_find_104 s_53 rfl rfl i_X0_find_X0 (by decide) f_X0_find_19 ?_
      refine V_iload dX0_find_107 rfl ?_
      refine V_aload_n dX0_find_109 rfl ?_
      refine V_iload dX0_find_110 rfl ?_
      refine V_iload dX0_find_112 rfl ?_
      refine V_iload dX0_find_114 rfl ?_
      refine V_iV3 dX0_find_116 o_X0_find_51 s_5 rfl (Nat.le_of_ble_eq_true rfl) (c_X3_grownIn G l (d := 5) (n := n) (q := t) (Or.inl rfl) hi (by omega) hk.1 hk.2.2.1 (by omega)) ?_
      rintro z _ ⟨_, rfl⟩
      refine V_iast dX0_find_119 s_56 (by show 0 ≤ _ ∧ _ < (100 : Int); omega) ?_
      refine V_iinc dX0_find_120 rfl (by decide) rfl ?_
      refine V_goto (tgt := 96) dX0_find_123 (by decide) ?_
      exact ih _ _ (by omega) (by omega) (fun k j q => by rw [up_ne (by omega)]; exact hf k j q) hp
set_option maxRecDepth 100000 in
set_option maxHeartbeats 4000000 in
theorem l3_X0_find (G : Gb) (l : Launch) {w0 : Wd} {b t : Int} (hb : 1 ≤ b ∧ b ≤ 99) (ht : 0 ≤ t ∧ t ≤ 30) (hT : okT w0 5) {Qc : Array Value → State → Outcome → State → Prop} {i mo tr : Int} (hi : 0 ≤ i ∧ i < 6) (hm : 0 ≤ mo ∧ mo ≤ b) : ∀ (k : Nat) (n : Int) (w : Wd), 0 ≤ n → n + k = b + 1 → frH w0 w → chH w b (i + 1) tr → (∀ m : Int, 0 ≤ m → m < n → 0 ≤ w (65 + i.toNat) m ∧ w (65 + i.toNat) m ≤ m) → (∀ n w', frH w0 w' → chH w' b i tr → V G l mX0_find Qc 156 [some (.ref (gA G 53)), some (.ref (gA G 5)), some (.ref (gA G 21)), some (.int (iZ b)), some (.int (iZ t)), some (.int (iZ i)), some (.int (iZ mo)), some (.int (iZ n))] [] w') → V G l mX0_find Qc 129 [some (.ref (gA G 53)), some (.ref (gA G 5)), some (.ref (gA G 21)), some (.int (iZ b)), some (.int (iZ t)), some (.int (iZ i)), some (.int (iZ mo)), some (.int (iZ n))] [] w := by
  intro k
  induction k with
  | zero =>
    intro n w h0 h1 hf hc hr hp
    have hc2 : chH w b i tr := by
      intro i' m g0 g1 g2 g3
      by_cases e : i' = i
      · subst e; exact hr m g2 (by omega)
      · exact hc i' m (by omega) g1 g2 g3
    refine V_iload dX0_find_129 rfl ?_
    refine V_iload_n dX0_find_131 rfl ?_
    refine V_icmp_gt (tgt := 156) dX0_find_132 (by decide) (by omega) (by omega) (fun h132 => ?_) (fun h132 => ?_)
    · exact hp _ _ hf hc2
    · exact absurd h132 (by omega)
  | succ k ih =>
    intro n w h0 h1 hf hc hr hp
    refine V_iload dX0_find_129 rfl ?_
    refine V_iload_n dX0_find_131 rfl ?_
    refine V_icmp_gt (tgt := 156) dX0_find_132 (by decide) (by omega) (by omega) (fun h132 => ?_) (fun h132 => ?_)
    · exact absurd h132 (by omega)
    · refine V_aload_n dX0_find_135 rfl ?_
      refine V_iload dX0_find_136 rfl ?_
      refine V_iload dX0_find_138 rfl ?_
      refine V_iload dX0_find_140 rfl ?_
      refine V_iload dX0_find_142 rfl ?_
      refine V_min dX0_find_144 (by omega) (by omega) (List.mem_of_getElem? (i := 6) rfl) (List.mem_of_getElem? (i := 7) rfl) (List.mem_of_getElem? (i := 8) rfl) (List.mem_of_getElem? (i := 9) rfl) (Nat.le_of_ble_eq_true rfl) (Nat.le_of_ble_eq_true rfl) ?_
      refine V_vV3 dX0_find_147 o_X0_find_55 s_53 rfl (Nat.le_of_ble_eq_true rfl) (c_X0_chooseFrom G l hi (by omega) (by omega)) ?_
      rintro w2 ⟨y1, y2⟩
      refine V_iinc dX0_find_150 rfl (by decide) rfl ?_
      refine V_goto (tgt := 129) dX0_find_153 (by decide) ?_
      refine ih (n + 1) w2 (by omega) (by omega) (hf.tr (fun k j q => y2 k j (by omega) (by omega))) (fun i' m g0 g1 g2 g3 => ?_) (fun m g0 g1 => ?_) hp
      · rw [y2 _ _ (by omega) (by omega)]; exact hc i' m g0 g1 g2 g3
      · by_cases e : m = n
        · subst e; exact y1
        · rw [y2 _ _ (by omega) (by omega)]; exact hr m g0 (by omega)
set_option maxRecDepth 100000 in
set_option maxHeartbeats 4000000 in
theorem l4_X0_find (G : Gb) (l : Launch) {w0 : Wd} {b t : Int} (hb : 1 ≤ b ∧ b ≤ 99) (ht : 0 ≤ t ∧ t ≤ 30) (hT : okT w0 5) {Qc : Array Value → State → Outcome → State → Prop} {c : Int} (hO : okC c w0 21) : ∀ (k : Nat) (i : Int) (w : Wd) (m6 m7 : Option Value), i + 1 = k → i < w0 5 0 → frH w0 w → chH w b (i + 1) (w0 5 0) → (∀ i w' m6 m7, frH w0 w' → chH w' b 0 (w0 5 0) → V G l mX0_find Qc 162 [some (.ref (gA G 53)), some (.ref (gA G 5)), some (.ref (gA G 21)), some (.int (iZ b)), some (.int (iZ t)), some (.int (iZ i)), m6, m7] [] w') → V G l mX0_find Qc 54 [some (.ref (gA G 53)), some (.ref (gA G 5)), some (.ref (gA G 21)), some (.int (iZ b)), some (.int (iZ t)), some (.int (iZ i)), m6, m7] [] w := by
  have kt := hT.1
  intro k
  induction k with
  | zero =>
    intro i w m6 m7 h0 h1 hf hc hp
    refine V_iload dX0_find_54 rfl ?_
    refine V_if_lt (tgt := 162) dX0_find_56 (by decide) (by omega) (fun h56 => ?_) (fun h56 => ?_)
    · exact hp _ _ _ _ hf (by rw [show i + 1 = 0 by omega] at hc; exact hc)
    · exact absurd h56 (by omega)
  | succ k ih =>
    intro i w m6 m7 h0 h1 hf hc hp
    have hT1 : okT w 5 := okT_sl hT (fun k j q => hf k j (by omega))
    have hO1 : okC c w 21 := okC_eq hO (fun k j q1 q2 => hf k j (by omega))
    have kb : 0 ≤ w 22 i ∧ w 22 i ≤ 99 := hO1.has (t := i) (by omega) (by omega)
    refine V_iload dX0_find_54 rfl ?_
    refine V_if_lt (tgt := 162) dX0_find_56 (by decide) (by omega) (fun h56 => ?_) (fun h56 => ?_)
    · exact absurd h56 (by omega)
    · refine V_aload_n dX0_find_59 rfl ?_
      refine V_aload_n dX0_find_60 rfl ?_
      refine V_iload dX0_find_61 rfl ?_
      refine V_iV2 dX0_find_63 o_X0_find_36 s_21 rfl (Nat.le_of_ble_eq_true rfl) (c_X1_lends G l (b := 21) (d := 5) (Or.inl rfl) (Or.inl rfl) (t := i) (by omega) hO1 hT1) ?_
      rintro z _ ⟨hz, rfl⟩
      have rz : z = 0 ∨ z = 1 := by rw [hz]; split <;> simp
      refine V_if_eq (tgt := 83) dX0_find_66 (by decide) (by omega) (fun h66 => ?_) (fun h66 => ?_)
      · refine V_iconst dX0_find_83 ?_
        refine V_istore dX0_find_84 (by decide) rfl ?_
        refine V_aload_n dX0_find_86 rfl ?_
        refine V_getR (ci := 0) (j := 2) dX0_find_87 s_53 rfl rfl i_X0_find_X0 (by decide) f_X0_find_19 ?_
        refine V_iconst dX0_find_90 ?_
        refine V_iconst dX0_find_91 ?_
        refine V_iast dX0_find_92 s_56 (by omega) ?_
        refine V_iconst dX0_find_93 ?_
        refine V_istore dX0_find_94 (by decide) rfl ?_
        refine l2_X0_find G l (w0 := w) hb ht hT1 (i := i) (mo := (0 : Int)) (by omega) (by omega) ((0 : Int)).toNat 1 _ (by omega) (by omega) (fun k j q => up_ne (by omega)) (fun n9 w9 f9 => ?_)
        refine V_iconst dX0_find_126 ?_
        refine V_istore dX0_find_127 (by decide) rfl ?_
        refine l3_X0_find G l hb ht hT (tr := w0 5 0) (by omega) (by omega) (b + 1).toNat 0 _ (by omega) (by omega) (hf.tr (fun k j q => f9 k j (by omega))) (fun i' m g0 g1 g2 g3 => by rw [f9 _ _ (by omega)]; exact hc i' m g0 g1 g2 g3) (fun m g0 g1 => by omega) (fun n8 w8 f8 c8 => ?_)
        refine V_iinc dX0_find_156 rfl (by decide) rfl ?_
        refine V_goto (tgt := 54) dX0_find_159 (by decide) ?_
        exact ih _ _ _ _ (by omega) (by omega) f8 (by rw [show i + -1 + 1 = i by omega]; exact c8) hp
      · refine V_aload_n dX0_find_69 rfl ?_
        refine V_getR (ci := 1) (j := 1) dX0_find_70 s_21 rfl rfl i_X0_find_X1 (by decide) f_X0_find_42 ?_
        refine V_iload dX0_find_73 rfl ?_
        refine V_iald dX0_find_75 s_22 (by omega) ?_
        refine V_iload_n dX0_find_76 rfl ?_
        refine V_min dX0_find_77 (by omega) (by omega) (List.mem_of_getElem? (i := 6) rfl) (List.mem_of_getElem? (i := 7) rfl) (List.mem_of_getElem? (i := 8) rfl) (List.mem_of_getElem? (i := 9) rfl) (Nat.le_of_ble_eq_true rfl) (Nat.le_of_ble_eq_true rfl) ?_
        refine V_goto (tgt := 84) dX0_find_80 (by decide) ?_
        refine V_istore dX0_find_84 (by decide) rfl ?_
        refine V_aload_n dX0_find_86 rfl ?_
        refine V_getR (ci := 0) (j := 2) dX0_find_87 s_53 rfl rfl i_X0_find_X0 (by decide) f_X0_find_19 ?_
        refine V_iconst dX0_find_90 ?_
        refine V_iconst dX0_find_91 ?_
        refine V_iast dX0_find_92 s_56 (by omega) ?_
        refine V_iconst dX0_find_93 ?_
        refine V_istore dX0_find_94 (by decide) rfl ?_
        refine l2_X0_find G l (w0 := w) hb ht hT1 (i := i) (mo := min (w 22 i) b) (by omega) (by omega) (min (w 22 i) b).toNat 1 _ (by omega) (by omega) (fun k j q => up_ne (by omega)) (fun n9 w9 f9 => ?_)
        refine V_iconst dX0_find_126 ?_
        refine V_istore dX0_find_127 (by decide) rfl ?_
        refine l3_X0_find G l hb ht hT (tr := w0 5 0) (by omega) (by omega) (b + 1).toNat 0 _ (by omega) (by omega) (hf.tr (fun k j q => f9 k j (by omega))) (fun i' m g0 g1 g2 g3 => by rw [f9 _ _ (by omega)]; exact hc i' m g0 g1 g2 g3) (fun m g0 g1 => by omega) (fun n8 w8 f8 c8 => ?_)
        refine V_iinc dX0_find_156 rfl (by decide) rfl ?_
        refine V_goto (tgt := 54) dX0_find_159 (by decide) ?_
        exact ih _ _ _ _ (by omega) (by omega) f8 (by rw [show i + -1 + 1 = i by omega]; exact c8) hp
set_option maxRecDepth 100000 in
set_option maxHeartbeats 4000000 in
theorem c_X0_find (G : Gb) (l : Launch) {w : Wd} {b t c : Int} (hb : 1 ≤ b ∧ b ≤ 99) (ht : 0 ≤ t ∧ t ≤ 30) (hT : okT w 5) (hO : okC c w 21) : Ci G l yX0_find mX0_find [.ref (gA G 53), .ref (gA G 5), .ref (gA G 21), .int (iZ b), .int (iZ t)] w (fun z w' => (z = 0 ∨ z = 1) ∧ w' 53 4 = b ∧ ∀ (k : Nat) (j : Int), (k < 53 ∨ 70 < k) → w' k j = w k j) := by
  refine V_start 3 (by decide) rfl rfl (Nat.le_of_ble_eq_true rfl) ?_
  show V G l mX0_find _ 0 [some (.ref (gA G 53)), some (.ref (gA G 5)), some (.ref (gA G 21)), some (.int (iZ b)), some (.int (iZ t)), none, none, none] [] w
  have kt := hT.1
  refine V_aload_n dX0_find_0 rfl ?_
  refine V_iload_n dX0_find_1 rfl ?_
  refine V_putI (ci := 0) (j := 4) (ji := 4) dX0_find_2 s_53 rfl rfl i_X0_find_X0 tyX0_ok nmX0 (by decide) f_X0_find_26 rfl rfl rfl ?_
  generalize hu : up w 53 4 b = u
  have gu : ∀ (k : Nat) (j : Int), k ≠ 53 → u k j = w k j := fun k j q => by rw [← hu, up_ne (by omega)]
  have eu : u 53 4 = b := by rw [← hu, up_eq]
  have hT1 : okT u 5 := okT_sl hT (fun k j q => gu k j (by omega))
  have hO1 : okC c u 21 := okC_eq hO (fun k j q1 q2 => gu k j (by omega))
  have e50 : u 5 0 = w 5 0 := gu _ _ (by omega)
  refine V_aload_n dX0_find_5 rfl ?_
  refine V_getR (ci := 0) (j := 0) dX0_find_6 s_53 rfl rfl i_X0_find_X0 (by decide) f_X0_find_11 ?_
  refine V_aload_n dX0_find_9 rfl ?_
  refine V_getI (ci := 3) (j := 0) (ji := 0) dX0_find_10 s_5 rfl rfl i_X0_find_X3 (by decide) f_X0_find_30 rfl ?_
  refine V_aald (q := 58 + (u 5 0).toNat) dX0_find_13 s_54 (by decide) (by show 0 ≤ _ ∧ _ < (7 : Int); omega) (rw7 (by omega)) ?_
  refine V_iconst dX0_find_14 ?_
  refine V_iconst dX0_find_15 ?_
  refine V_iast dX0_find_16 (sRow (by omega)) (by show 0 ≤ _ ∧ _ < (100 : Int); omega) ?_
  refine V_iconst dX0_find_17 ?_
  refine V_istore dX0_find_18 (by decide) rfl ?_
  refine l1_X0_find G l (w0 := u) hb ht hT1 b.toNat 1 _ (by omega) (by omega) (frH.u (fun _ _ _ => rfl) (by omega)) (fun n9 w1 f1 => ?_)
  have e51 : w1 5 0 = w 5 0 := (f1 _ _ (by omega)).trans e50
  refine V_aload_n dX0_find_46 rfl ?_
  refine V_getI (ci := 3) (j := 0) (ji := 0) dX0_find_47 s_5 rfl rfl i_X0_find_X3 (by decide) f_X0_find_30 rfl ?_
  refine V_iconst dX0_find_50 ?_
  refine V_isub dX0_find_51 ?_
  refine V_istore dX0_find_52 (by decide) rfl ?_
  refine l4_X0_find G l (w0 := u) hb ht hT1 hO1 (w1 5 0).toNat _ w1 none none (by omega) (by omega) f1 (fun i' m g0 g1 g2 g3 => by omega) (fun i9 w9 m6 m7 f9 c9 => ?_)
  have e9 : w9 53 4 = b := (f9 _ _ (by omega)).trans eu
  have e5 : w9 5 0 = w 5 0 := (f9 _ _ (by omega)).trans e50
  refine V_aload_n dX0_find_162 rfl ?_
  refine V_iV0 dX0_find_163 o_X0_find_59 s_53 rfl (Nat.le_of_ble_eq_true rfl) (c_X0_owedTogether G l (by omega)) ?_
  rintro z _ rfl
  refine V_ldc (n := 100000000) dX0_find_166 (List.mem_of_getElem? (i := 4) rfl) ?_
  refine V_icmp_lt0 (tgt := 173) dX0_find_168 (by decide) ?_ ?_
  · refine V_aload_n dX0_find_173 rfl ?_
    refine V_aload_n dX0_find_174 rfl ?_
    refine V_getIE (ci := 3) (j := 0) (ji := 0) (z := w 5 0) dX0_find_175 s_5 rfl rfl i_X0_find_X3 (by decide) f_X0_find_30 rfl e5 ?_
    refine V_vV1 dX0_find_178 o_X0_find_63 s_53 rfl (Nat.le_of_ble_eq_true rfl) (c_X0_followChoices G l (by omega) (by omega) (by rw [e9]; rw [gu _ _ (by omega)] at c9; exact c9)) ?_
    rintro w3 f3
    refine V_iconst dX0_find_181 ?_
    exact V_zret dX0_find_182 rfl (by omega) ⟨by omega, (f3 _ _ (by omega)).trans e9, fun k j q => (f3 k j (by omega)).trans ((f9 k j (by omega)).trans (gu k j (by omega)))⟩
  · refine V_iconst dX0_find_171 ?_
    exact V_zret dX0_find_172 rfl (by omega) ⟨by omega, e9, fun k j q => (f9 k j (by omega)).trans (gu k j (by omega))⟩
set_option maxRecDepth 100000 in
set_option maxHeartbeats 4000000 in
theorem c_X4_hut (G : Gb) (l : Launch) {w : Wd} {c : Int} {σ : SG} (h : SC c σ w) {b t i : Int} (hb : inR b) (ht : inR t) (hi : inR i) : Ci G l yX4_hut mX4_hut [.ref (gA G 0), .int (iZ b), .int (iZ t), .int (iZ i)] w (fun _ w' => SC (c + 1) σ w' ∧ frC w w') := by
  refine V_start 0 (by decide) rfl rfl (Nat.le_of_ble_eq_true rfl) ?_
  show V G l mX4_hut _ 0 [some (.ref (gA G 0)), some (.int (iZ b)), some (.int (iZ t)), some (.int (iZ i))] [] w
  have hT := h.2.1.2
  have hO := h.2.2.1.2.1
  have kt := hT.1
  have kn := hO.n
  have eN := h.tN
  have eL := h.aN
  refine V_iload_n dX4_hut_0 rfl ?_
  refine V_iconst dX4_hut_1 ?_
  refine V_icmp_eq (tgt := 19) dX4_hut_2 (by decide) (by omega) (by omega) (fun h2 => ?_) (fun h2 => ?_)
  · refine V_iload_n dX4_hut_19 rfl ?_
    refine V_iconst dX4_hut_20 ?_
    refine V_icmp_lt (tgt := 40) dX4_hut_21 (by decide) (by omega) (by omega) (fun h21 => ?_) (fun h21 => ?_)
    · refine V_bipush dX4_hut_40 rfl ?_
      exact V_iret dX4_hut_42 rfl ⟨h.same, fun _ _ _ => rfl⟩
    · refine V_iload_n dX4_hut_24 rfl ?_
      refine V_bipush dX4_hut_25 rfl ?_
      refine V_icmp_gt (tgt := 40) dX4_hut_27 (by decide) (by omega) (by omega) (fun h27 => ?_) (fun h27 => ?_)
      · refine V_bipush dX4_hut_40 rfl ?_
        exact V_iret dX4_hut_42 rfl ⟨h.same, fun _ _ _ => rfl⟩
      · refine V_iload_n dX4_hut_30 rfl ?_
        refine V_if_lt (tgt := 40) dX4_hut_31 (by decide) (by omega) (fun h31 => ?_) (fun h31 => ?_)
        · refine V_bipush dX4_hut_40 rfl ?_
          exact V_iret dX4_hut_42 rfl ⟨h.same, fun _ _ _ => rfl⟩
        · refine V_iload_n dX4_hut_34 rfl ?_
          refine V_bipush dX4_hut_35 rfl ?_
          refine V_icmp_le (tgt := 43) dX4_hut_37 (by decide) (by omega) (by omega) (fun h37 => ?_) (fun h37 => ?_)
          · refine V_aload_n dX4_hut_43 rfl ?_
            refine V_getR (ci := 4) (j := 6) dX4_hut_44 s_0 rfl rfl i_X4_hut_X4 (by decide) f_X4_hut_44 ?_
            refine V_aload_n dX4_hut_47 rfl ?_
            refine V_getR (ci := 4) (j := 1) dX4_hut_48 s_0 rfl rfl i_X4_hut_X4 (by decide) f_X4_hut_19 ?_
            refine V_aload_n dX4_hut_51 rfl ?_
            refine V_getR (ci := 4) (j := 2) dX4_hut_52 s_0 rfl rfl i_X4_hut_X4 (by decide) f_X4_hut_26 ?_
            refine V_iload_n dX4_hut_55 rfl ?_
            refine V_iload_n dX4_hut_56 rfl ?_
            refine V_iV4 dX4_hut_57 o_X4_hut_173 s_53 rfl (Nat.le_of_ble_eq_true rfl) (c_X0_find G l (by omega) (by omega) hT hO) ?_
            rintro z9 w' ⟨r9, e9, y3⟩
            refine V_if_ne (tgt := 65) dX4_hut_60 (by decide) (by omega) (fun h60 => ?_) (fun h60 => ?_)
            · refine V_iload_n dX4_hut_65 rfl ?_
              refine V_iconst dX4_hut_66 ?_
              refine V_icmp_ne (tgt := 80) dX4_hut_67 (by decide) (by omega) (by omega) (fun h67 => ?_) (fun h67 => ?_)
              · refine V_aload_n dX4_hut_80 rfl ?_
                refine V_getR (ci := 4) (j := 6) dX4_hut_81 s_0 rfl rfl i_X4_hut_X4 (by decide) f_X4_hut_44 ?_
                refine V_getR (ci := 0) (j := 3) dX4_hut_84 s_53 rfl rfl i_X4_hut_X0 (by decide) f_X4_hut_180 ?_
                refine V_iload_n dX4_hut_87 rfl ?_
                refine V_iald dX4_hut_88 s_57 (by omega) ?_
                exact V_iret dX4_hut_89 rfl ⟨h.keep (by omega) (fun k j q => y3 k j (by omega)), fun k j q => y3 k j (by omega)⟩
              · refine V_aload_n dX4_hut_70 rfl ?_
                refine V_getR (ci := 4) (j := 6) dX4_hut_71 s_0 rfl rfl i_X4_hut_X4 (by decide) f_X4_hut_44 ?_
                refine V_iV0 dX4_hut_74 o_X4_hut_177 s_53 rfl (Nat.le_of_ble_eq_true rfl) (c_X0_owedTogether G l (by omega)) ?_
                rintro z8 _ rfl
                refine V_goto (tgt := 89) dX4_hut_77 (by decide) ?_
                exact V_iret dX4_hut_89 rfl ⟨h.keep (by omega) (fun k j q => y3 k j (by omega)), fun k j q => y3 k j (by omega)⟩
            · refine V_iconst dX4_hut_63 ?_
              exact V_iret dX4_hut_64 rfl ⟨h.keep (by omega) (fun k j q => y3 k j (by omega)), fun k j q => y3 k j (by omega)⟩
          · refine V_bipush dX4_hut_40 rfl ?_
            exact V_iret dX4_hut_42 rfl ⟨h.same, fun _ _ _ => rfl⟩
  · refine V_aload_n dX4_hut_5 rfl ?_
    refine V_getR (ci := 4) (j := 1) dX4_hut_6 s_0 rfl rfl i_X4_hut_X4 (by decide) f_X4_hut_19 ?_
    refine V_iload_n dX4_hut_9 rfl ?_
    refine V_iV1 dX4_hut_10 o_X4_hut_75 s_5 rfl (Nat.le_of_ble_eq_true rfl) (c_X3_has G l (d := 5) (Or.inl rfl) (by omega) (by omega)) ?_
    rintro z _ ⟨hz, rfl⟩
    have rz : z = 0 ∨ z = 1 := by rw [hz]; split <;> simp
    refine V_if_ne (tgt := 19) dX4_hut_13 (by decide) (by omega) (fun h13 => ?_) (fun h13 => ?_)
    · have yz : hasS σ.2.1 i := by
        by_cases q9 : 0 ≤ i ∧ i < w 5 0
        · exact ⟨q9.1, by omega⟩
        · rw [if_neg q9] at hz; omega
      have bz := yz.2
      have dz := yz.1
      refine V_iload_n dX4_hut_19 rfl ?_
      refine V_iconst dX4_hut_20 ?_
      refine V_icmp_lt (tgt := 40) dX4_hut_21 (by decide) (by omega) (by omega) (fun h21 => ?_) (fun h21 => ?_)
      · refine V_bipush dX4_hut_40 rfl ?_
        exact V_iret dX4_hut_42 rfl ⟨h.same, fun _ _ _ => rfl⟩
      · refine V_iload_n dX4_hut_24 rfl ?_
        refine V_bipush dX4_hut_25 rfl ?_
        refine V_icmp_gt (tgt := 40) dX4_hut_27 (by decide) (by omega) (by omega) (fun h27 => ?_) (fun h27 => ?_)
        · refine V_bipush dX4_hut_40 rfl ?_
          exact V_iret dX4_hut_42 rfl ⟨h.same, fun _ _ _ => rfl⟩
        · refine V_iload_n dX4_hut_30 rfl ?_
          refine V_if_lt (tgt := 40) dX4_hut_31 (by decide) (by omega) (fun h31 => ?_) (fun h31 => ?_)
          · refine V_bipush dX4_hut_40 rfl ?_
            exact V_iret dX4_hut_42 rfl ⟨h.same, fun _ _ _ => rfl⟩
          · refine V_iload_n dX4_hut_34 rfl ?_
            refine V_bipush dX4_hut_35 rfl ?_
            refine V_icmp_le (tgt := 43) dX4_hut_37 (by decide) (by omega) (by omega) (fun h37 => ?_) (fun h37 => ?_)
            · refine V_aload_n dX4_hut_43 rfl ?_
              refine V_getR (ci := 4) (j := 6) dX4_hut_44 s_0 rfl rfl i_X4_hut_X4 (by decide) f_X4_hut_44 ?_
              refine V_aload_n dX4_hut_47 rfl ?_
              refine V_getR (ci := 4) (j := 1) dX4_hut_48 s_0 rfl rfl i_X4_hut_X4 (by decide) f_X4_hut_19 ?_
              refine V_aload_n dX4_hut_51 rfl ?_
              refine V_getR (ci := 4) (j := 2) dX4_hut_52 s_0 rfl rfl i_X4_hut_X4 (by decide) f_X4_hut_26 ?_
              refine V_iload_n dX4_hut_55 rfl ?_
              refine V_iload_n dX4_hut_56 rfl ?_
              refine V_iV4 dX4_hut_57 o_X4_hut_173 s_53 rfl (Nat.le_of_ble_eq_true rfl) (c_X0_find G l (by omega) (by omega) hT hO) ?_
              rintro z9 w' ⟨r9, e9, y3⟩
              refine V_if_ne (tgt := 65) dX4_hut_60 (by decide) (by omega) (fun h60 => ?_) (fun h60 => ?_)
              · refine V_iload_n dX4_hut_65 rfl ?_
                refine V_iconst dX4_hut_66 ?_
                refine V_icmp_ne (tgt := 80) dX4_hut_67 (by decide) (by omega) (by omega) (fun h67 => ?_) (fun h67 => ?_)
                · refine V_aload_n dX4_hut_80 rfl ?_
                  refine V_getR (ci := 4) (j := 6) dX4_hut_81 s_0 rfl rfl i_X4_hut_X4 (by decide) f_X4_hut_44 ?_
                  refine V_getR (ci := 0) (j := 3) dX4_hut_84 s_53 rfl rfl i_X4_hut_X0 (by decide) f_X4_hut_180 ?_
                  refine V_iload_n dX4_hut_87 rfl ?_
                  refine V_iald dX4_hut_88 s_57 (by omega) ?_
                  exact V_iret dX4_hut_89 rfl ⟨h.keep (by omega) (fun k j q => y3 k j (by omega)), fun k j q => y3 k j (by omega)⟩
                · refine V_aload_n dX4_hut_70 rfl ?_
                  refine V_getR (ci := 4) (j := 6) dX4_hut_71 s_0 rfl rfl i_X4_hut_X4 (by decide) f_X4_hut_44 ?_
                  refine V_iV0 dX4_hut_74 o_X4_hut_177 s_53 rfl (Nat.le_of_ble_eq_true rfl) (c_X0_owedTogether G l (by omega)) ?_
                  rintro z8 _ rfl
                  refine V_goto (tgt := 89) dX4_hut_77 (by decide) ?_
                  exact V_iret dX4_hut_89 rfl ⟨h.keep (by omega) (fun k j q => y3 k j (by omega)), fun k j q => y3 k j (by omega)⟩
              · refine V_iconst dX4_hut_63 ?_
                exact V_iret dX4_hut_64 rfl ⟨h.keep (by omega) (fun k j q => y3 k j (by omega)), fun k j q => y3 k j (by omega)⟩
            · refine V_bipush dX4_hut_40 rfl ?_
              exact V_iret dX4_hut_42 rfl ⟨h.same, fun _ _ _ => rfl⟩
    · refine V_bipush dX4_hut_16 rfl ?_
      exact V_iret dX4_hut_18 rfl ⟨h.same, fun _ _ _ => rfl⟩

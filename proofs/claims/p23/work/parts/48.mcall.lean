/-! ===== 48 the reference's calls: sell, keep, back, count, write ===== -/
def hoR (o t q i : Int) (w w' : Wd) : Prop := (∀ m : Int, i ≤ m → m < w 72 (o + 14) → w' 72 (o + 15 + 5 * m) = if w 72 (o + 15 + 5 * m) = t then q else w 72 (o + 15 + 5 * m)) ∧ ∀ (k : Nat) (j : Int), (k ≠ 72 ∨ ∀ m : Int, i ≤ m → m < w 72 (o + 14) → j ≠ o + 15 + 5 * m) → w' k j = w k j
theorem hoR_end {o t q i : Int} {w : Wd} (h : w 72 (o + 14) ≤ i) : hoR o t q i w w := ⟨fun m g0 g1 => by omega, fun _ _ _ => rfl⟩
theorem hoR_step {o t q i z : Int} {w w' : Wd} (h0 : 0 ≤ i) (hi : i < w 72 (o + 14)) (hz : z = if w 72 (o + 15 + 5 * i) = t then q else w 72 (o + 15 + 5 * i)) (h : hoR o t q (i + 1) (up w 72 (o + 15 + 5 * i) z) w') : hoR o t q i w w' := by
  obtain ⟨h1, h2⟩ := h
  have e14 : up w 72 (o + 15 + 5 * i) z 72 (o + 14) = w 72 (o + 14) := up_ne (Or.inr (by omega))
  rw [e14] at h1 h2
  refine ⟨fun m g0 g1 => ?_, fun k j p => ?_⟩
  · by_cases e : m = i
    · subst e
      rw [h2 72 _ (Or.inr (fun m' q0 q1 => by omega)), up_eq, hz]
    · have := h1 m (by omega) g1
      have u : up w 72 (o + 15 + 5 * i) z 72 (o + 15 + 5 * m) = w 72 (o + 15 + 5 * m) := up_ne (Or.inr (by omega))
      rw [u] at this
      exact this
  · rw [h2 k j (p.imp_right (fun f m g0 g1 => f m (by omega) g1))]
    rcases p with p | p
    · exact up_ne (Or.inl p)
    · exact up_ne (Or.inr (p i (by omega) hi))
def soM (w1 : Wd) (o t q : Int) : Wd := up (up (up w1 72 (o + 2 + q) (min (w1 72 (o + 2 + q) + w1 72 (o + 2 + t)) 99)) 72 (o + 2 + t) 0) 72 (o + 8 + t) 2
theorem soM_ok {c o t q : Int} {w w1 : Wd} (ho : okM c w o) (ht : 0 ≤ t ∧ t < 6) (hq : 0 ≤ q ∧ q < 6) (h : hoR o t q 0 w w1) : okM c (soM w1 o t q) o ∧ mAS (soM w1 o t q) o = soS t q (mAS w o) ∧ frO o w (soM w1 o t q) := by
  obtain ⟨h1, h2⟩ := h
  have kn := ho.n
  have g : ∀ j : Int, (j < o + 15 ∨ ∀ m : Int, 0 ≤ m → m < w 72 (o + 14) → j ≠ o + 15 + 5 * m) → w1 72 j = w 72 j := fun j p => h2 72 j (Or.inr (by
    rcases p with p | p
    · intro m g0 g1; omega
    · exact p))
  have s : ∀ j : Int, (j < o + 2 ∨ o + 14 ≤ j) → soM w1 o t q 72 j = w1 72 j := fun j p => by
    unfold soM
    rw [up_ne (by omega), up_ne (by omega), up_ne (by omega)]
  have eL : mLs (soM w1 o t q) o = (mLs w o).map (hoL t q) := by
    apply mLs_map (by rw [s _ (by omega), g _ (Or.inl (by omega))])
    intro i hi
    unfold mLn hoL
    dsimp only
    rw [s _ (by omega), s _ (by omega), s _ (by omega), s _ (by omega), s _ (by omega), h1 i (by omega) hi, g _ (Or.inr (fun m _ _ => by omega)), g _ (Or.inr (fun m _ _ => by omega)), g _ (Or.inr (fun m _ _ => by omega)), g _ (Or.inr (fun m _ _ => by omega))]
    by_cases hc : w 72 (o + 15 + 5 * (i : Int)) = t
    · rw [if_pos hc, if_pos hc]
    · rw [if_neg hc, if_neg hc]
  have eH : gl (soM w1 o t q) 72 (o + 2) 6 = ((gl w 72 (o + 2) 6).set q.toNat (min (w 72 (o + 2 + q) + w 72 (o + 2 + t)) 99)).set t.toNat 0 := by
    rw [← gl_set hq.1, ← gl_set ht.1]
    apply gl_eq
    intro i g0 g1
    unfold soM
    rw [up_ne (by omega), g (o + 2 + q) (Or.inl (by omega)), g (o + 2 + t) (Or.inl (by omega))]
    unfold up
    rw [g (o + 2 + i) (Or.inl (by omega))]
  have eF : gl (soM w1 o t q) 72 (o + 8) 6 = (gl w 72 (o + 8) 6).set t.toNat 2 := by
    rw [← gl_set ht.1]
    apply gl_eq
    intro i g0 g1
    unfold soM
    by_cases e : i = t
    · subst e
      rw [up_eq, up_eq]
    · rw [up_ne (by omega), up_ne (by omega), up_ne (by omega), up_ne (by omega), g _ (Or.inl (by omega))]
  have hA : mAS (soM w1 o t q) o = soS t q (mAS w o) := by
    unfold mAS soS
    dsimp only
    rw [eL, eH, eF, gl_D hq.1 hq.2, gl_D ht.1 ht.2, s _ (by omega), s _ (by omega), g _ (Or.inl (by omega)), g _ (Or.inl (by omega))]
  refine ⟨⟨?_, ?_⟩, hA, fun k j p => ?_⟩
  · rw [s _ (by omega), g _ (Or.inl (by omega))]
    exact ho.1
  · rw [hA]
    exact soS_ok ho.2 ht hq
  · unfold soM
    rw [up_ne (by omega), up_ne (by omega), up_ne (by omega), h2 k j (p.imp_right (fun p m g0 g1 => by omega))]
theorem hoC_eq {t : Int} {w w' : Wd} {o : Int} : ∀ (n : Nat) (i : Int), 0 ≤ i → i + n = w 72 (o + 14) → w' 72 (o + 14) = w 72 (o + 14) → (∀ m : Int, i ≤ m → w' 72 (o + 15 + 5 * m) = w 72 (o + 15 + 5 * m)) → hoC t ((mLs w' o).drop i.toNat) = hoC t ((mLs w o).drop i.toNat)
  | 0, i, h0, h1, e, h => by rw [mLs_end (by omega), mLs_end (by omega)]
  | n + 1, i, h0, h1, e, h => by
    rw [mLs_drop h0 (by omega), mLs_drop h0 (by omega), hoC, hoC, hoC_eq n (i + 1) (by omega) (by omega) e (fun m q => h m (by omega))]
    dsimp only
    rw [h i (by omega)]
set_option maxRecDepth 100000 in
set_option maxHeartbeats 4000000 in
theorem s0_X5_sell (G : Gb) (l : Launch) {w : Wd} {t q s i : Int} (hi : 0 ≤ i ∧ i < 12) {Qc : Array Value → State → Outcome → State → Prop} (hp : V G l mX5_sell Qc 51 [some (.ref (gA G 71)), some (.int (iZ t)), some (.int (iZ q)), some (.int (iZ (s + 0))), some (.int (iZ (i + 1))), some (.int (iZ 0))] [] (up w 72 (0 + 15 + 5 * i) (w 72 (0 + 15 + 5 * i)))) : V G l mX5_sell Qc 86 [some (.ref (gA G 71)), some (.int (iZ t)), some (.int (iZ q)), some (.int (iZ s)), some (.int (iZ i)), some (.int (iZ 0))] [] w := by
  refine V_aload_n dX5_sell_86 rfl ?_
  refine V_getR (ci := 5) (j := 0) dX5_sell_87 s_71 rfl rfl i_X5_sell_X5 (by decide) f_X5_sell_7 ?_
  refine V_iconst dX5_sell_90 ?_
  refine V_iload dX5_sell_91 rfl ?_
  refine V_iconst dX5_sell_93 ?_
  refine V_iS3 dX5_sell_94 o_X5_sell_136 (Nat.le_of_ble_eq_true rfl) (c_X5_placeOf G l) ?_
  rintro _ _ ⟨rfl, rfl⟩
  refine V_top (show 0 + 15 + 5 * i + 0 = 0 + 15 + 5 * i by omega) ?_
  refine V_iload dX5_sell_97 rfl ?_
  refine V_if_eq (tgt := 106) dX5_sell_99 (by decide) (by omega) (fun h99 => ?_) (fun h99 => ?_)
  · refine V_aload_n dX5_sell_106 rfl ?_
    refine V_getR (ci := 5) (j := 0) dX5_sell_107 s_71 rfl rfl i_X5_sell_X5 (by decide) f_X5_sell_7 ?_
    refine V_iconst dX5_sell_110 ?_
    refine V_iload dX5_sell_111 rfl ?_
    refine V_iconst dX5_sell_113 ?_
    refine V_iS3 dX5_sell_114 o_X5_sell_136 (Nat.le_of_ble_eq_true rfl) (c_X5_placeOf G l) ?_
    rintro _ _ ⟨rfl, rfl⟩
    refine V_top (show 0 + 15 + 5 * i + 0 = 0 + 15 + 5 * i by omega) ?_
    refine V_iald dX5_sell_117 s_72 (by omega) ?_
    refine V_iast dX5_sell_118 s_72 (by omega) ?_
    refine V_iload_n dX5_sell_119 rfl ?_
    refine V_iload dX5_sell_120 rfl ?_
    refine V_if_eq (tgt := 129) dX5_sell_122 (by decide) (by omega) (fun h122 => ?_) (fun h122 => ?_)
    · refine V_iconst dX5_sell_129 ?_
      refine V_iadd dX5_sell_130 ?_
      refine V_istore_n dX5_sell_131 (by decide) rfl ?_
      refine V_iinc dX5_sell_132 rfl (by decide) rfl ?_
      refine V_goto (tgt := 51) dX5_sell_135 (by decide) ?_
      exact hp
    · exact absurd rfl h122
  · exact absurd rfl h99
set_option maxRecDepth 100000 in
set_option maxHeartbeats 4000000 in
theorem s1_X5_sell (G : Gb) (l : Launch) {w : Wd} {t q s i : Int} (hi : 0 ≤ i ∧ i < 12) {Qc : Array Value → State → Outcome → State → Prop} (hp : V G l mX5_sell Qc 51 [some (.ref (gA G 71)), some (.int (iZ t)), some (.int (iZ q)), some (.int (iZ (s + 1))), some (.int (iZ (i + 1))), some (.int (iZ 1))] [] (up w 72 (0 + 15 + 5 * i) q)) : V G l mX5_sell Qc 86 [some (.ref (gA G 71)), some (.int (iZ t)), some (.int (iZ q)), some (.int (iZ s)), some (.int (iZ i)), some (.int (iZ 1))] [] w := by
  refine V_aload_n dX5_sell_86 rfl ?_
  refine V_getR (ci := 5) (j := 0) dX5_sell_87 s_71 rfl rfl i_X5_sell_X5 (by decide) f_X5_sell_7 ?_
  refine V_iconst dX5_sell_90 ?_
  refine V_iload dX5_sell_91 rfl ?_
  refine V_iconst dX5_sell_93 ?_
  refine V_iS3 dX5_sell_94 o_X5_sell_136 (Nat.le_of_ble_eq_true rfl) (c_X5_placeOf G l) ?_
  rintro _ _ ⟨rfl, rfl⟩
  refine V_top (show 0 + 15 + 5 * i + 0 = 0 + 15 + 5 * i by omega) ?_
  refine V_iload dX5_sell_97 rfl ?_
  refine V_if_eq (tgt := 106) dX5_sell_99 (by decide) (by omega) (fun h99 => ?_) (fun h99 => ?_)
  · exact absurd h99 (by decide)
  · refine V_iload_n dX5_sell_102 rfl ?_
    refine V_goto (tgt := 118) dX5_sell_103 (by decide) ?_
    refine V_iast dX5_sell_118 s_72 (by omega) ?_
    refine V_iload_n dX5_sell_119 rfl ?_
    refine V_iload dX5_sell_120 rfl ?_
    refine V_if_eq (tgt := 129) dX5_sell_122 (by decide) (by omega) (fun h122 => ?_) (fun h122 => ?_)
    · exact absurd h122 (by decide)
    · refine V_iconst dX5_sell_125 ?_
      refine V_goto (tgt := 130) dX5_sell_126 (by decide) ?_
      refine V_iadd dX5_sell_130 ?_
      refine V_istore_n dX5_sell_131 (by decide) rfl ?_
      refine V_iinc dX5_sell_132 rfl (by decide) rfl ?_
      refine V_goto (tgt := 51) dX5_sell_135 (by decide) ?_
      exact hp
set_option maxRecDepth 100000 in
set_option maxHeartbeats 4000000 in
theorem l_X5_sell (G : Gb) (l : Launch) {t q : Int} (ht : inR t) (hq : inR q) {Qc : Array Value → State → Outcome → State → Prop} : ∀ (n : Nat) (s i : Int) (w : Wd) (o5 : Option Value), 0 ≤ i → i + n = w 72 (0 + 14) → w 72 (0 + 14) ≤ 12 → (∀ m : Int, i ≤ m → m < w 72 (0 + 14) → inR (w 72 (0 + 15 + 5 * m))) → (∀ i' w' o5, hoR 0 t q i w w' → V G l mX5_sell Qc 138 [some (.ref (gA G 71)), some (.int (iZ t)), some (.int (iZ q)), some (.int (iZ (s + hoC t ((mLs w 0).drop i.toNat)))), some (.int (iZ i')), o5] [] w') → V G l mX5_sell Qc 51 [some (.ref (gA G 71)), some (.int (iZ t)), some (.int (iZ q)), some (.int (iZ s)), some (.int (iZ i)), o5] [] w := by
  intro n
  induction n with
  | zero =>
    intro s i w o5 h0 h1 h2 hs hp
    have h2' : w 72 14 ≤ 12 := h2
    have h1' : i = w 72 14 := by have : i + ((0 : Nat) : Int) = w 72 14 := h1; omega
    refine V_iload dX5_sell_51 rfl ?_
    refine V_aload_n dX5_sell_53 rfl ?_
    refine V_getR (ci := 5) (j := 0) dX5_sell_54 s_71 rfl rfl i_X5_sell_X5 (by decide) f_X5_sell_7 ?_
    refine V_bipush dX5_sell_57 rfl ?_
    refine V_iald dX5_sell_59 s_72 (by omega) ?_
    refine V_icmp_ge (tgt := 138) dX5_sell_60 (by decide) (by omega) (by omega) (fun h60 => ?_) (fun h60 => ?_)
    · have q5 := hp i w o5 (hoR_end (by omega))
      rw [mLs_end (by omega), hoC, Int.add_zero] at q5
      exact q5
    · exact absurd h60 (by omega)
  | succ n ih =>
    intro s i w o5 h0 h1 h2 hs hp
    have h2' : w 72 14 ≤ 12 := h2
    have h1' : i < w 72 14 := by have : i + ((n + 1 : Nat) : Int) = w 72 14 := h1; omega
    have q1 := hs i (by omega) (by omega)
    rw [mLs_drop h0 (by omega), hoC] at hp
    dsimp only at hp
    refine V_iload dX5_sell_51 rfl ?_
    refine V_aload_n dX5_sell_53 rfl ?_
    refine V_getR (ci := 5) (j := 0) dX5_sell_54 s_71 rfl rfl i_X5_sell_X5 (by decide) f_X5_sell_7 ?_
    refine V_bipush dX5_sell_57 rfl ?_
    refine V_iald dX5_sell_59 s_72 (by omega) ?_
    refine V_icmp_ge (tgt := 138) dX5_sell_60 (by decide) (by omega) (by omega) (fun h60 => ?_) (fun h60 => ?_)
    · exact absurd h60 (by omega)
    · refine V_aload_n dX5_sell_63 rfl ?_
      refine V_getR (ci := 5) (j := 0) dX5_sell_64 s_71 rfl rfl i_X5_sell_X5 (by decide) f_X5_sell_7 ?_
      refine V_iconst dX5_sell_67 ?_
      refine V_iload dX5_sell_68 rfl ?_
      refine V_iconst dX5_sell_70 ?_
      refine V_iS3 dX5_sell_71 o_X5_sell_136 (Nat.le_of_ble_eq_true rfl) (c_X5_placeOf G l) ?_
      rintro _ _ ⟨rfl, rfl⟩
      refine V_top (show 0 + 15 + 5 * i + 0 = 0 + 15 + 5 * i by omega) ?_
      refine V_iald dX5_sell_74 s_72 (by omega) ?_
      refine V_iload_n dX5_sell_75 rfl ?_
      refine V_icmp_ne (tgt := 83) dX5_sell_76 (by decide) (by omega) (by omega) (fun h76 => ?_) (fun h76 => ?_)
      · refine V_iconst dX5_sell_83 ?_
        refine V_istore dX5_sell_84 (by decide) rfl ?_
        refine s0_X5_sell G l ⟨h0, by omega⟩ ?_
        have e14 : ∀ z : Int, up w 72 (0 + 15 + 5 * i) z 72 (0 + 14) = w 72 (0 + 14) := fun z => up_ne (Or.inr (by omega))
        refine ih _ (i + 1) _ _ (by omega) (by rw [e14]; omega) (by rw [e14]; exact h2) (fun m g0 g1 => ?_) (fun i' w' o5 h => ?_)
        · rw [e14] at g1; rw [up_ne (Or.inr (by omega))]; exact hs m (by omega) g1
        · have q5 := hp i' w' o5 (hoR_step h0 (by omega) (by rw [if_neg h76]) h)
          rw [hoC_eq n (i + 1) (by omega) (by omega) (e14 _) (fun m g => up_ne (Or.inr (by omega)))]
          rw [if_neg h76, ← Int.add_assoc] at q5
          exact q5
      · refine V_iconst dX5_sell_79 ?_
        refine V_goto (tgt := 84) dX5_sell_80 (by decide) ?_
        refine V_istore dX5_sell_84 (by decide) rfl ?_
        refine s1_X5_sell G l ⟨h0, by omega⟩ ?_
        have e14 : ∀ z : Int, up w 72 (0 + 15 + 5 * i) z 72 (0 + 14) = w 72 (0 + 14) := fun z => up_ne (Or.inr (by omega))
        refine ih _ (i + 1) _ _ (by omega) (by rw [e14]; omega) (by rw [e14]; exact h2) (fun m g0 g1 => ?_) (fun i' w' o5 h => ?_)
        · rw [e14] at g1; rw [up_ne (Or.inr (by omega))]; exact hs m (by omega) g1
        · have q5 := hp i' w' o5 (hoR_step h0 (by omega) (by rw [if_pos h76]) h)
          rw [hoC_eq n (i + 1) (by omega) (by omega) (e14 _) (fun m g => up_ne (Or.inr (by omega)))]
          rw [if_pos h76, ← Int.add_assoc] at q5
          exact q5
set_option maxRecDepth 100000 in
set_option maxHeartbeats 4000000 in
theorem c_X5_sell (G : Gb) (l : Launch) {w : Wd} {c : Int} {σ : SG} (h : SM c σ w) {i : Int} (hi : inR i) {q : Int} (hq : inR q) : Ci G l yX5_sell mX5_sell [.ref (gA G 71), .int (iZ i), .int (iZ q)] w (fun z w' => z = (aSell σ.2.1 σ.2.2.1 i q).1 ∧ SM (c + 1) (σ.1, σ.2.1, (aSell σ.2.1 σ.2.2.1 i q).2, σ.2.2.2) w' ∧ frM w w') := by
  refine V_start 3 (by decide) rfl rfl (Nat.le_of_ble_eq_true rfl) ?_
  show V G l mX5_sell _ 0 [some (.ref (gA G 71)), some (.int (iZ i)), some (.int (iZ q)), none, none, none] [] w
  have hT := h.2.1.2.1
  have hO := h.2.2.1.2.1
  have kt := hT.1
  have kn : 0 ≤ w 72 14 ∧ w 72 14 ≤ 12 := hO.n
  have eN := h.tN
  have eL := h.aN
  refine V_aload_n dX5_sell_0 rfl ?_
  refine V_iload_n dX5_sell_1 rfl ?_
  refine V_iV1 dX5_sell_2 o_X5_sell_166 s_71 rfl (Nat.le_of_ble_eq_true rfl) (c_X5_isTree G l (by omega) kt) ?_
  rintro z _ ⟨hz, rfl⟩
  have rz : z = 0 ∨ z = 1 := by rw [hz]; split <;> simp
  refine V_if_eq (tgt := 16) dX5_sell_5 (by decide) (by omega) (fun h5 => ?_) (fun h5 => ?_)
  · have yz : ¬ hasS σ.2.1 i := fun q9 => by rw [if_pos ⟨q9.1, by have := q9.2; omega⟩] at hz; omega
    have ny : ¬ (hasS σ.2.1 i ∧ hasS σ.2.1 q) := fun q9 => yz q9.1
    refine V_bipush dX5_sell_16 rfl ?_
    exact V_iret dX5_sell_18 rfl (by rw [aSell, if_neg ny]; exact ⟨rfl, h.same, fun _ _ _ => rfl⟩)
  · have yz : hasS σ.2.1 i := by
      by_cases q9 : 0 ≤ i ∧ i < w 71 10
      · exact ⟨q9.1, by omega⟩
      · rw [if_neg q9] at hz; omega
    have bz := yz.2
    have dz := yz.1
    refine V_aload_n dX5_sell_8 rfl ?_
    refine V_iload_n dX5_sell_9 rfl ?_
    refine V_iV1 dX5_sell_10 o_X5_sell_166 s_71 rfl (Nat.le_of_ble_eq_true rfl) (c_X5_isTree G l (by omega) kt) ?_
    rintro x _ ⟨hx, rfl⟩
    have rx : x = 0 ∨ x = 1 := by rw [hx]; split <;> simp
    refine V_if_ne (tgt := 19) dX5_sell_13 (by decide) (by omega) (fun h13 => ?_) (fun h13 => ?_)
    · have yx : hasS σ.2.1 q := by
        by_cases q9 : 0 ≤ q ∧ q < w 71 10
        · exact ⟨q9.1, by omega⟩
        · rw [if_neg q9] at hx; omega
      have bx := yx.2
      have dx := yx.1
      have eFi := h.aF dz (by omega : i < 6)
      have eFq := h.aF dx (by omega : q < 6)
      have kfi := h.fate0 dz (by omega : i < 6)
      have kfq := h.fate0 dx (by omega : q < 6)
      refine V_iload_n dX5_sell_19 rfl ?_
      refine V_iload_n dX5_sell_20 rfl ?_
      refine V_icmp_ne (tgt := 27) dX5_sell_21 (by decide) (by omega) (by omega) (fun h21 => ?_) (fun h21 => ?_)
      · refine V_aload_n dX5_sell_27 rfl ?_
        refine V_iload_n dX5_sell_28 rfl ?_
        refine V_iV1 dX5_sell_29 o_X5_sell_144 s_71 rfl (Nat.le_of_ble_eq_true rfl) (c_X5_lives G l ⟨dz, by omega⟩ (by omega)) ?_
        rintro u _ ⟨hu, rfl⟩
        have ru : u = 0 ∨ u = 1 := by rw [hu]; split <;> simp
        refine V_if_eq (tgt := 43) dX5_sell_32 (by decide) (by omega) (fun h32 => ?_) (fun h32 => ?_)
        · have n3 : ¬ (w 72 (8 + i) = 0) := fun q9 => by rw [if_pos q9] at hu; omega
          have nn : ¬ (σ.2.2.1.2.2.2.1.getD i.toNat 0 = 0 ∧ σ.2.2.1.2.2.2.1.getD q.toNat 0 = 0) := fun q9 => n3 (by rw [eFi]; exact q9.1)
          refine V_bipush dX5_sell_43 rfl ?_
          exact V_iret dX5_sell_45 rfl (by rw [aSell, if_pos ⟨yz, yx⟩, if_neg h21, if_neg nn]; exact ⟨rfl, h.same, fun _ _ _ => rfl⟩)
        · have y3 : w 72 (8 + i) = 0 := by
            by_cases q9 : w 72 (8 + i) = 0
            · exact q9
            · rw [if_neg q9] at hu; omega
          refine V_aload_n dX5_sell_35 rfl ?_
          refine V_iload_n dX5_sell_36 rfl ?_
          refine V_iV1 dX5_sell_37 o_X5_sell_144 s_71 rfl (Nat.le_of_ble_eq_true rfl) (c_X5_lives G l ⟨dx, by omega⟩ (by omega)) ?_
          rintro v _ ⟨hv, rfl⟩
          have rv : v = 0 ∨ v = 1 := by rw [hv]; split <;> simp
          refine V_if_ne (tgt := 46) dX5_sell_40 (by decide) (by omega) (fun h40 => ?_) (fun h40 => ?_)
          · have y4 : w 72 (8 + q) = 0 := by
              by_cases q9 : w 72 (8 + q) = 0
              · exact q9
              · rw [if_neg q9] at hv; omega
            refine V_iconst dX5_sell_46 ?_
            refine V_istore_n dX5_sell_47 (by decide) rfl ?_
            refine V_iconst dX5_sell_48 ?_
            refine V_istore dX5_sell_49 (by decide) rfl ?_
            refine l_X5_sell G l (by omega) (by omega) (w 72 (0 + 14)).toNat 0 0 w none (by omega) (by have := hO.n; omega) hO.n.2 (fun m g0 g1 => by have q5 := hO.ln g0 g1; omega) (fun i5 w1 o5 h5 => ?_)
            have e2 : ∀ j : Int, 2 ≤ j → j < 14 → w1 72 j = w 72 j := fun j g0 g1 => h5.2 72 j (Or.inr (fun m _ _ => by omega))
            have ki := h.has0 dz (by omega : i < 6)
            have kq := h.has0 dx (by omega : q < 6)
            have ei := e2 (2 + i) (by omega) (by omega)
            have eq := e2 (2 + q) (by omega) (by omega)
            refine V_aload_n dX5_sell_138 rfl ?_
            refine V_getR (ci := 5) (j := 0) dX5_sell_139 s_71 rfl rfl i_X5_sell_X5 (by decide) f_X5_sell_7 ?_
            refine V_iconst dX5_sell_142 ?_
            refine V_iload_n dX5_sell_143 rfl ?_
            refine V_iadd dX5_sell_144 ?_
            refine V_aload_n dX5_sell_145 rfl ?_
            refine V_getR (ci := 5) (j := 0) dX5_sell_146 s_71 rfl rfl i_X5_sell_X5 (by decide) f_X5_sell_7 ?_
            refine V_iconst dX5_sell_149 ?_
            refine V_iload_n dX5_sell_150 rfl ?_
            refine V_iadd dX5_sell_151 ?_
            refine V_iald dX5_sell_152 s_72 (by omega) ?_
            refine V_aload_n dX5_sell_153 rfl ?_
            refine V_getR (ci := 5) (j := 0) dX5_sell_154 s_71 rfl rfl i_X5_sell_X5 (by decide) f_X5_sell_7 ?_
            refine V_iconst dX5_sell_157 ?_
            refine V_iload_n dX5_sell_158 rfl ?_
            refine V_iadd dX5_sell_159 ?_
            refine V_iald dX5_sell_160 s_72 (by omega) ?_
            refine V_iadd dX5_sell_161 ?_
            refine V_iS1 dX5_sell_162 o_X5_sell_154 (Nat.le_of_ble_eq_true rfl) (c_X5_few G l (by omega)) ?_
            rintro _ _ ⟨rfl, rfl⟩
            refine V_iast dX5_sell_165 s_72 (by omega) ?_
            refine V_aload_n dX5_sell_166 rfl ?_
            refine V_getR (ci := 5) (j := 0) dX5_sell_167 s_71 rfl rfl i_X5_sell_X5 (by decide) f_X5_sell_7 ?_
            refine V_iconst dX5_sell_170 ?_
            refine V_iload_n dX5_sell_171 rfl ?_
            refine V_iadd dX5_sell_172 ?_
            refine V_iconst dX5_sell_173 ?_
            refine V_iast dX5_sell_174 s_72 (by omega) ?_
            refine V_aload_n dX5_sell_175 rfl ?_
            refine V_getR (ci := 5) (j := 0) dX5_sell_176 s_71 rfl rfl i_X5_sell_X5 (by decide) f_X5_sell_7 ?_
            refine V_bipush dX5_sell_179 rfl ?_
            refine V_iload_n dX5_sell_181 rfl ?_
            refine V_iadd dX5_sell_182 ?_
            refine V_iconst dX5_sell_183 ?_
            refine V_iast dX5_sell_184 s_72 (by omega) ?_
            refine V_iload_n dX5_sell_185 rfl ?_
            exact V_iret dX5_sell_186 rfl (by rw [aSell, if_pos ⟨yz, yx⟩, if_neg h21, if_pos ⟨by rw [← eFi]; exact y3, by rw [← eFq]; exact y4⟩]; obtain ⟨k1, k2, k3⟩ := soM_ok (o := 0) hO ⟨dz, by omega⟩ ⟨dx, by omega⟩ h5; rw [h.2.2.1.1] at k2; have e0 : soM w1 0 i q 72 0 = w 72 0 := (congrArg (fun t : AS => t.1) k2).trans h.aD.symm; exact ⟨by rw [Int.zero_add, show (mLs w 0).drop (0 : Int).toNat = mLs w 0 from rfl, h.aL], h.now k3 k2 (okM_mono k1 (by omega)) (by show soM w1 0 i q 72 0 ≤ 9999; rw [e0]; exact h.2.2.1.2.2), k3.m⟩)
          · have n4 : ¬ (w 72 (8 + q) = 0) := fun q9 => by rw [if_pos q9] at hv; omega
            have nn : ¬ (σ.2.2.1.2.2.2.1.getD i.toNat 0 = 0 ∧ σ.2.2.1.2.2.2.1.getD q.toNat 0 = 0) := fun q9 => n4 (by rw [eFq]; exact q9.2)
            refine V_bipush dX5_sell_43 rfl ?_
            exact V_iret dX5_sell_45 rfl (by rw [aSell, if_pos ⟨yz, yx⟩, if_neg h21, if_neg nn]; exact ⟨rfl, h.same, fun _ _ _ => rfl⟩)
      · refine V_bipush dX5_sell_24 rfl ?_
        exact V_iret dX5_sell_26 rfl (by rw [aSell, if_pos ⟨yz, yx⟩, if_pos h21]; exact ⟨rfl, h.same, fun _ _ _ => rfl⟩)
    · have yx : ¬ hasS σ.2.1 q := fun q9 => by rw [if_pos ⟨q9.1, by have := q9.2; omega⟩] at hx; omega
      have ny : ¬ (hasS σ.2.1 i ∧ hasS σ.2.1 q) := fun q9 => yx q9.2
      refine V_bipush dX5_sell_16 rfl ?_
      exact V_iret dX5_sell_18 rfl (by rw [aSell, if_neg ny]; exact ⟨rfl, h.same, fun _ _ _ => rfl⟩)

/-! ===== 47 the reference's calls: fire, sell ===== -/
/-- the loans of a tree go -/
def roM (o t : Int) (n : Nat) (w w' : Wd) : Prop := (0 ≤ w' 72 (o + 14) ∧ w' 72 (o + 14) ≤ 12) ∧ mLs w' o = ((mLs w o).take n).filter (fun x => decide (x.1 ≠ t)) ++ (mLs w o).drop n ∧ ∀ (k : Nat) (j : Int), (k ≠ 72 ∨ j < o + 14 ∨ o + 75 ≤ j) → w' k j = w k j
theorem roM_no {n : Nat} {o t : Int} {w w' : Wd} {x : Ln} (hx : (mLs w o)[n]? = some x) (hn : x.1 ≠ t) (h : roM o t n w w') : roM o t (n + 1) w w' := by
  obtain ⟨h1, h2, h3⟩ := h
  refine ⟨h1, ?_, h3⟩
  have hl := (List.getElem?_eq_some_iff.mp hx).1
  rw [h2, List.take_succ, hx, List.filter_append, List.drop_eq_getElem_cons hl]
  have hx2 : (mLs w o)[n] = x := (List.getElem?_eq_some_iff.mp hx).2
  rw [hx2]
  simp [hn]
theorem roM_yes {n : Nat} {o t : Int} {w w' : Wd} {x : Ln} (hx : (mLs w o)[n]? = some x) (hn : x.1 = t) (h0 : 0 ≤ w 72 (o + 14) ∧ w 72 (o + 14) ≤ 12) (h : roM o t n (rmM w o (n : Int)) w') : roM o t (n + 1) w w' := by
  obtain ⟨h1, h2, h3⟩ := h
  have hl := (List.getElem?_eq_some_iff.mp hx).1
  have hl2 := hl
  rw [mLs_len] at hl2
  refine ⟨h1, ?_, fun k j q1 => (h3 k j q1).trans (rmM_ne (by omega) (by omega) (by omega))⟩
  rw [h2, mLs_rm (by omega) (by omega), show ((n : Int)).toNat = n by omega]
  have e1 : ((mLs w o).eraseIdx n).take n = (mLs w o).take n := by
    apply List.ext_getElem?
    intro i
    rw [List.getElem?_take, List.getElem?_take]
    split
    · rw [List.getElem?_eraseIdx, if_pos (by assumption)]
    · rfl
  have e2 : ((mLs w o).eraseIdx n).drop n = (mLs w o).drop (n + 1) := by
    apply List.ext_getElem?
    intro i
    rw [List.getElem?_drop, List.getElem?_drop, List.getElem?_eraseIdx, if_neg (by omega)]
    congr 1
    omega
  rw [e1, e2, List.take_succ, hx, List.filter_append]
  simp [hn]
set_option maxRecDepth 100000 in
set_option maxHeartbeats 4000000 in
theorem l_X5_burn (G : Gb) (l : Launch) {t : Int} (ht : inR t) {Post : Wd → Prop} : ∀ (n : Nat) (i : Int) (w : Wd), i + 1 = n → (0 ≤ w 72 (0 + 14) ∧ w 72 (0 + 14) ≤ 12) → n ≤ w 72 (0 + 14) → (∀ j : Int, 0 ≤ j → j < n → inR (w 72 (0 + 15 + 5 * j))) → (∀ w', roM 0 t n w w' → Post w') → V G l mX5_burn (Qv G Post) 20 [some (.ref (gA G 71)), some (.int (iZ t)), some (.int (iZ i))] [] w := by
  intro n
  induction n with
  | zero =>
    intro i w h1 h2 h3 hs hp
    refine V_iload_n dX5_burn_20 rfl ?_
    refine V_if_lt (tgt := 51) dX5_burn_21 (by decide) (by omega) (fun h21 => ?_) (fun h21 => ?_)
    · exact V_vret dX5_burn_51 rfl (hp _ ⟨h2, by simp, fun _ _ _ => rfl⟩)
    · exact absurd h21 (by omega)
  | succ n ih =>
    intro i w h1 h2 h3 hs hp
    have q1 := hs i (by omega) (by omega)
    refine V_iload_n dX5_burn_20 rfl ?_
    refine V_if_lt (tgt := 51) dX5_burn_21 (by decide) (by omega) (fun h21 => ?_) (fun h21 => ?_)
    · exact absurd h21 (by omega)
    · refine V_aload_n dX5_burn_24 rfl ?_
      refine V_getR (ci := 5) (j := 0) dX5_burn_25 s_71 rfl rfl i_X5_burn_X5 (by decide) f_X5_burn_7 ?_
      refine V_iconst dX5_burn_28 ?_
      refine V_iload_n dX5_burn_29 rfl ?_
      refine V_iconst dX5_burn_30 ?_
      refine V_iS3 dX5_burn_31 o_X5_burn_136 (Nat.le_of_ble_eq_true rfl) (c_X5_placeOf G l) ?_
      rintro _ _ ⟨rfl, rfl⟩
      refine V_top (show 0 + 15 + 5 * i + 0 = 0 + 15 + 5 * i by omega) ?_
      refine V_iald dX5_burn_34 s_72 (by omega) ?_
      refine V_iload_n dX5_burn_35 rfl ?_
      refine V_icmp_ne (tgt := 45) dX5_burn_36 (by decide) (by omega) (by omega) (fun h36 => ?_) (fun h36 => ?_)
      · refine V_iinc dX5_burn_45 rfl (by decide) rfl ?_
        refine V_goto (tgt := 20) dX5_burn_48 (by decide) ?_
        first
          | (refine ih (i + -1) _ (by omega) (by show 0 ≤ rmM w 0 i 72 (0 + 14) ∧ rmM w 0 i 72 (0 + 14) ≤ 12; rw [rmM_n w (by omega)]; omega) (by rw [rmM_n w (by omega)]; omega) (fun j g0 g1 => ?_) (fun w' h => hp w' (roM_yes (mLs_some (w := w) (o := 0) (i := n) (by omega)) (by show w 72 (0 + 15 + 5 * (n : Int)) = t; rw [show (n : Int) = i by omega]; exact h36) h2 (by rw [show (n : Int) = i by omega]; exact h))); rw [rmM_ln (q := 15) (by omega) (by omega) (by omega), if_neg (by omega)]; exact hs j g0 (by omega))
          | exact ih (i + -1) _ (by omega) h2 (by omega) (fun j g0 g1 => hs j g0 (by omega)) (fun w' h => hp w' (roM_no (mLs_some (w := w) (o := 0) (i := n) (by omega)) (by show w 72 (0 + 15 + 5 * (n : Int)) ≠ t; rw [show (n : Int) = i by omega]; exact h36) h))
      · refine V_aload_n dX5_burn_39 rfl ?_
        refine V_iconst dX5_burn_40 ?_
        refine V_iload_n dX5_burn_41 rfl ?_
        refine V_vV2 dX5_burn_42 o_X5_burn_157 s_71 rfl (Nat.le_of_ble_eq_true rfl) (c_X5_remove G l (o := 0) (by omega) h2.2 (by omega)) ?_
        rintro _ rfl
        refine V_iinc dX5_burn_45 rfl (by decide) rfl ?_
        refine V_goto (tgt := 20) dX5_burn_48 (by decide) ?_
        first
          | (refine ih (i + -1) _ (by omega) (by show 0 ≤ rmM w 0 i 72 (0 + 14) ∧ rmM w 0 i 72 (0 + 14) ≤ 12; rw [rmM_n w (by omega)]; omega) (by rw [rmM_n w (by omega)]; omega) (fun j g0 g1 => ?_) (fun w' h => hp w' (roM_yes (mLs_some (w := w) (o := 0) (i := n) (by omega)) (by show w 72 (0 + 15 + 5 * (n : Int)) = t; rw [show (n : Int) = i by omega]; exact h36) h2 (by rw [show (n : Int) = i by omega]; exact h))); rw [rmM_ln (q := 15) (by omega) (by omega) (by omega), if_neg (by omega)]; exact hs j g0 (by omega))
          | exact ih (i + -1) _ (by omega) h2 (by omega) (fun j g0 g1 => hs j g0 (by omega)) (fun w' h => hp w' (roM_no (mLs_some (w := w) (o := 0) (i := n) (by omega)) (by show w 72 (0 + 15 + 5 * (n : Int)) ≠ t; rw [show (n : Int) = i by omega]; exact h36) h))
set_option maxRecDepth 100000 in
set_option maxHeartbeats 4000000 in
theorem c_X5_burn (G : Gb) (l : Launch) {w : Wd} {c t : Int} (ht : 0 ≤ t ∧ t < 6) (hO : okM c w 0) : Cv G l yX5_burn mX5_burn [.ref (gA G 71), .int (iZ t)] w (fun w' => roM 0 t (w 72 (0 + 14)).toNat (up w 72 (0 + 8 + t) 1) w') := by
  refine V_start 1 (by decide) rfl rfl (Nat.le_of_ble_eq_true rfl) ?_
  show V G l mX5_burn _ 0 [some (.ref (gA G 71)), some (.int (iZ t)), none] [] w
  have kn := hO.n
  refine V_aload_n dX5_burn_0 rfl ?_
  refine V_getR (ci := 5) (j := 0) dX5_burn_1 s_71 rfl rfl i_X5_burn_X5 (by decide) f_X5_burn_7 ?_
  refine V_bipush dX5_burn_4 rfl ?_
  refine V_iload_n dX5_burn_6 rfl ?_
  refine V_iadd dX5_burn_7 ?_
  refine V_iconst dX5_burn_8 ?_
  refine V_iast dX5_burn_9 s_72 (by omega) ?_
  refine V_aload_n dX5_burn_10 rfl ?_
  refine V_getR (ci := 5) (j := 0) dX5_burn_11 s_71 rfl rfl i_X5_burn_X5 (by decide) f_X5_burn_7 ?_
  refine V_bipush dX5_burn_14 rfl ?_
  refine V_ialdE (z := w 72 (0 + 14)) dX5_burn_16 s_72 (by omega) (up_ne (Or.inr (by omega))) ?_
  refine V_iconst dX5_burn_17 ?_
  refine V_isub dX5_burn_18 ?_
  refine V_istore_n dX5_burn_19 (by decide) rfl ?_
  refine l_X5_burn G l (by omega) (w 72 (0 + 14)).toNat _ _ (by omega) ?_ ?_ (fun j g0 g1 => ?_) (fun w' h => ?_)
  · rw [up_ne (Or.inr (by omega))]; exact kn
  · rw [up_ne (Or.inr (by omega))]; omega
  · rw [up_ne (Or.inr (by omega))]; have q := hO.ln g0 (by omega : j < w 72 (0 + 14)); omega
  · exact h
def brM (c part : Int) (n i : Nat) (w w' : Wd) : Prop := okM c w' 0 ∧ (gl w' 72 (0 + 8) 6, mLs w' 0) = brS (gl w 79 0 6) part n i (gl w 72 (0 + 8) 6, mLs w 0) ∧ (w' 72 0 = w 72 0 ∧ w' 72 (0 + 1) = w 72 (0 + 1) ∧ gl w' 72 (0 + 2) 6 = gl w 72 (0 + 2) 6) ∧ frO 0 w w'
theorem brM_one {c o t : Int} {w w2 : Wd} (ho : okM c w o) (ht : 0 ≤ t ∧ t < 6) (h : roM o t (w 72 (o + 14)).toNat (up w 72 (o + 8 + t) 1) w2) :
    okM c w2 o ∧ gl w2 72 (o + 8) 6 = (gl w 72 (o + 8) 6).set t.toNat 1 ∧ mLs w2 o = (mLs w o).filter (fun x => decide (x.1 ≠ t)) ∧ (w2 72 o = w 72 o ∧ w2 72 (o + 1) = w 72 (o + 1) ∧ gl w2 72 (o + 2) 6 = gl w 72 (o + 2) 6) ∧ frO o w w2 := by
  obtain ⟨h1, h2, h3⟩ := h
  rw [mLs_upO (by omega), List.take_of_length_le (by rw [mLs_len]; exact Nat.le_refl _), List.drop_eq_nil_of_le (by rw [mLs_len]; exact Nat.le_refl _), List.append_nil] at h2
  have eF : gl w2 72 (o + 8) 6 = (gl w 72 (o + 8) 6).set t.toNat 1 := by
    rw [← gl_set ht.1]
    apply gl_eq
    intro i g0 g1
    rw [h3 _ _ (by omega)]
  have eH : gl w2 72 (o + 2) 6 = gl w 72 (o + 2) 6 := gl_eq (fun i _ _ => by rw [h3 _ _ (by omega), up_ne (by omega)])
  have e0 : w2 72 o = w 72 o := by rw [h3 _ _ (by omega), up_ne (by omega)]
  have e9 : w2 72 (o + 1) = w 72 (o + 1) := by rw [h3 _ _ (by omega), up_ne (by omega)]
  refine ⟨⟨h1.1, ?_⟩, eF, h2, ⟨e0, e9, eH⟩, fun k j q => by rw [h3 _ _ (by omega), up_ne (by omega)]⟩
  unfold mAS
  rw [e0, e9, eH, eF, h2]
  refine okAS_less ho.2 List.filter_sublist ⟨by rw [List.length_set, gl_len], fun x hx => ?_⟩
  rcases List.mem_or_eq_of_mem_set hx with h | h
  · exact ho.2.2.2.2.1.2 x h
  · omega
theorem brM_no {c p : Int} {n : Nat} {i : Int} {w w' : Wd} (h0 : 0 ≤ i ∧ i < 6) (hn : ¬ (w 79 i = p ∧ w 72 (8 + i) = 0)) : (brM c p n (i + 1).toNat w w' → brM c p (n + 1) i.toNat w w') ∧ brC (gl w 79 0 6) p (n + 1) i.toNat (gl w 72 (0 + 8) 6, mLs w 0) = brC (gl w 79 0 6) p n (i + 1).toNat (gl w 72 (0 + 8) 6, mLs w 0) := by
  have e : (i + 1).toNat = i.toNat + 1 := by omega
  have c1 : ¬ ((gl w 79 0 6).getD i.toNat 0 = p ∧ (gl w 72 (0 + 8) 6).getD i.toNat 0 = 0) := by
    rw [gl_D h0.1 h0.2, gl_D h0.1 h0.2, Int.zero_add]
    exact hn
  rw [e]
  constructor
  · intro h
    unfold brM at h ⊢
    rw [brS, if_neg c1]
    exact h
  · rw [brC, if_neg c1]
theorem brM_yes {c p : Int} {n : Nat} {i : Int} {w w2 w' : Wd} (h0 : 0 ≤ i ∧ i < 6) (hn : w 79 i = p ∧ w 72 (8 + i) = 0) (o2 : gl w2 72 (0 + 8) 6 = (gl w 72 (0 + 8) 6).set i.toNat 1) (o3 : mLs w2 0 = (mLs w 0).filter (fun x => decide (x.1 ≠ i))) (o4 : w2 72 0 = w 72 0 ∧ w2 72 (0 + 1) = w 72 (0 + 1) ∧ gl w2 72 (0 + 2) 6 = gl w 72 (0 + 2) 6) (o5 : frO 0 w w2) : (brM c p n (i + 1).toNat w2 w' → brM c p (n + 1) i.toNat w w') ∧ brC (gl w 79 0 6) p (n + 1) i.toNat (gl w 72 (0 + 8) 6, mLs w 0) = 1 + brC (gl w2 79 0 6) p n (i + 1).toNat (gl w2 72 (0 + 8) 6, mLs w2 0) := by
  have e : (i + 1).toNat = i.toNat + 1 := by omega
  have eP : gl w2 79 0 6 = gl w 79 0 6 := gl_eq (fun i _ _ => o5 _ _ (by omega))
  have c1 : (gl w 79 0 6).getD i.toNat 0 = p ∧ (gl w 72 (0 + 8) 6).getD i.toNat 0 = 0 := by
    rw [gl_D h0.1 h0.2, gl_D h0.1 h0.2, Int.zero_add]
    exact hn
  rw [e, eP, o2, o3]
  constructor
  · rintro ⟨a1, a2, a3, a4⟩
    refine ⟨a1, ?_, ⟨a3.1.trans o4.1, a3.2.1.trans o4.2.1, a3.2.2.trans o4.2.2⟩, fun k j q => (a4 k j q).trans (o5 k j q)⟩
    rw [brS, if_pos c1, a2, eP, o2, o3, show ((i.toNat : Nat) : Int) = i by omega]
  · rw [brC, if_pos c1, show ((i.toNat : Nat) : Int) = i by omega]
set_option maxRecDepth 100000 in
set_option maxHeartbeats 4000000 in
theorem l_X5_fire (G : Gb) (l : Launch) {c p T : Int} (hp0 : inR p) (hT0 : T ≤ 6) {Post : Int → Wd → Prop} : ∀ (n : Nat) (s i : Int) (w : Wd), 0 ≤ i → i + n = T → okM c w 0 → okTm w → w 71 10 = T → (∀ w', brM c p n i.toNat w w' → Post (s + brC (gl w 79 0 6) p n i.toNat (gl w 72 (0 + 8) 6, mLs w 0)) w') → V G l mX5_fire (Qi G Post) 19 [some (.ref (gA G 71)), some (.int (iZ p)), some (.int (iZ s)), some (.int (iZ i))] [] w := by
  intro n
  induction n with
  | zero =>
    intro s i w h0 h1 hO hT hT1 hp
    refine V_iload_n dX5_fire_19 rfl ?_
    refine V_aload_n dX5_fire_20 rfl ?_
    refine V_getI (ci := 5) (j := 10) (ji := 10) dX5_fire_21 s_71 rfl rfl i_X5_fire_X5 (by decide) f_X5_fire_115 rfl ?_
    refine V_icmp_ge (tgt := 59) dX5_fire_24 (by decide) (by omega) (by omega) (fun h24 => ?_) (fun h24 => ?_)
    · refine V_iload_n dX5_fire_59 rfl ?_
      exact V_iret dX5_fire_60 rfl (by have q := hp w ⟨hO, rfl, ⟨rfl, rfl, rfl⟩, fun _ _ _ => rfl⟩; rw [brC, Int.add_zero] at q; exact q)
    · exact absurd h24 (by omega)
  | succ n ih =>
    intro s i w h0 h1 hO hT hT1 hp
    have kk := hT.2.2.2.1 i h0 (by omega)
    have kf : 0 ≤ w 72 (8 + i) ∧ w 72 (8 + i) ≤ 2 := hO.fate h0 (by omega)
    refine V_iload_n dX5_fire_19 rfl ?_
    refine V_aload_n dX5_fire_20 rfl ?_
    refine V_getI (ci := 5) (j := 10) (ji := 10) dX5_fire_21 s_71 rfl rfl i_X5_fire_X5 (by decide) f_X5_fire_115 rfl ?_
    refine V_icmp_ge (tgt := 59) dX5_fire_24 (by decide) (by omega) (by omega) (fun h24 => ?_) (fun h24 => ?_)
    · exact absurd h24 (by omega)
    · refine V_aload_n dX5_fire_27 rfl ?_
      refine V_getR (ci := 5) (j := 9) dX5_fire_28 s_71 rfl rfl i_X5_fire_X5 (by decide) f_X5_fire_32 ?_
      refine V_iload_n dX5_fire_31 rfl ?_
      refine V_iald dX5_fire_32 s_79 (by omega) ?_
      refine V_iload_n dX5_fire_33 rfl ?_
      refine V_icmp_ne (tgt := 53) dX5_fire_34 (by decide) (by omega) (by omega) (fun h34 => ?_) (fun h34 => ?_)
      · refine V_iinc dX5_fire_53 rfl (by decide) rfl ?_
        refine V_goto (tgt := 19) dX5_fire_56 (by decide) ?_
        first
          | exact ih _ (i + 1) w2 (by omega) (by omega) o1 (okTm_frO (by omega) hT o5) ((o5 _ _ (by omega)).trans hT1) (fun w' h => by have q := hp w' ((brM_yes ⟨h0, by omega⟩ ⟨h34, yz⟩ o2 o3 o4 o5).1 h); rw [(brM_yes (c := c) (w' := w') ⟨h0, by omega⟩ ⟨h34, yz⟩ o2 o3 o4 o5).2, ← Int.add_assoc] at q; exact q)
          | exact ih _ (i + 1) w (by omega) (by omega) hO hT hT1 (fun w' h => by have q := hp w' ((brM_no ⟨h0, by omega⟩ (fun z => nz z.2)).1 h); rw [(brM_no (c := c) (w' := w) ⟨h0, by omega⟩ (fun z => nz z.2)).2] at q; exact q)
          | exact ih _ (i + 1) w (by omega) (by omega) hO hT hT1 (fun w' h => by have q := hp w' ((brM_no ⟨h0, by omega⟩ (fun z => h34 z.1)).1 h); rw [(brM_no (c := c) (w' := w) ⟨h0, by omega⟩ (fun z => h34 z.1)).2] at q; exact q)
      · refine V_aload_n dX5_fire_37 rfl ?_
        refine V_iload_n dX5_fire_38 rfl ?_
        refine V_iV1 dX5_fire_39 o_X5_fire_144 s_71 rfl (Nat.le_of_ble_eq_true rfl) (c_X5_lives G l ⟨h0, by omega⟩ (by omega)) ?_
        rintro z _ ⟨hz, rfl⟩
        have rz : z = 0 ∨ z = 1 := by rw [hz]; split <;> simp
        refine V_if_eq (tgt := 53) dX5_fire_42 (by decide) (by omega) (fun h42 => ?_) (fun h42 => ?_)
        · have nz : ¬ (w 72 (8 + i) = 0) := fun q9 => by rw [if_pos q9] at hz; omega
          refine V_iinc dX5_fire_53 rfl (by decide) rfl ?_
          refine V_goto (tgt := 19) dX5_fire_56 (by decide) ?_
          first
            | exact ih _ (i + 1) w2 (by omega) (by omega) o1 (okTm_frO (by omega) hT o5) ((o5 _ _ (by omega)).trans hT1) (fun w' h => by have q := hp w' ((brM_yes ⟨h0, by omega⟩ ⟨h34, yz⟩ o2 o3 o4 o5).1 h); rw [(brM_yes (c := c) (w' := w') ⟨h0, by omega⟩ ⟨h34, yz⟩ o2 o3 o4 o5).2, ← Int.add_assoc] at q; exact q)
            | exact ih _ (i + 1) w (by omega) (by omega) hO hT hT1 (fun w' h => by have q := hp w' ((brM_no ⟨h0, by omega⟩ (fun z => nz z.2)).1 h); rw [(brM_no (c := c) (w' := w) ⟨h0, by omega⟩ (fun z => nz z.2)).2] at q; exact q)
            | exact ih _ (i + 1) w (by omega) (by omega) hO hT hT1 (fun w' h => by have q := hp w' ((brM_no ⟨h0, by omega⟩ (fun z => h34 z.1)).1 h); rw [(brM_no (c := c) (w' := w) ⟨h0, by omega⟩ (fun z => h34 z.1)).2] at q; exact q)
        · have yz : w 72 (8 + i) = 0 := by
            by_cases q9 : w 72 (8 + i) = 0
            · exact q9
            · rw [if_neg q9] at hz; omega
          refine V_aload_n dX5_fire_45 rfl ?_
          refine V_iload_n dX5_fire_46 rfl ?_
          refine V_vV1 dX5_fire_47 o_X5_fire_179 s_71 rfl (Nat.le_of_ble_eq_true rfl) (c_X5_burn G l ⟨h0, by omega⟩ hO) ?_
          intro w2 h2
          obtain ⟨o1, o2, o3, o4, o5⟩ := brM_one (o := 0) hO ⟨h0, by omega⟩ h2
          refine V_iinc dX5_fire_50 rfl (by decide) rfl ?_
          refine V_iinc dX5_fire_53 rfl (by decide) rfl ?_
          refine V_goto (tgt := 19) dX5_fire_56 (by decide) ?_
          first
            | exact ih _ (i + 1) w2 (by omega) (by omega) o1 (okTm_frO (by omega) hT o5) ((o5 _ _ (by omega)).trans hT1) (fun w' h => by have q := hp w' ((brM_yes ⟨h0, by omega⟩ ⟨h34, yz⟩ o2 o3 o4 o5).1 h); rw [(brM_yes (c := c) (w' := w') ⟨h0, by omega⟩ ⟨h34, yz⟩ o2 o3 o4 o5).2, ← Int.add_assoc] at q; exact q)
            | exact ih _ (i + 1) w (by omega) (by omega) hO hT hT1 (fun w' h => by have q := hp w' ((brM_no ⟨h0, by omega⟩ (fun z => nz z.2)).1 h); rw [(brM_no (c := c) (w' := w) ⟨h0, by omega⟩ (fun z => nz z.2)).2] at q; exact q)
            | exact ih _ (i + 1) w (by omega) (by omega) hO hT hT1 (fun w' h => by have q := hp w' ((brM_no ⟨h0, by omega⟩ (fun z => h34 z.1)).1 h); rw [(brM_no (c := c) (w' := w) ⟨h0, by omega⟩ (fun z => h34 z.1)).2] at q; exact q)
set_option maxRecDepth 100000 in
set_option maxHeartbeats 4000000 in
theorem c_X5_fire (G : Gb) (l : Launch) {w : Wd} {c : Int} {σ : SG} (h : SM c σ w) {p : Int} (hp : inR p) : Ci G l yX5_fire mX5_fire [.ref (gA G 71), .int (iZ p)] w (fun z w' => z = (aFire σ.2.1 σ.2.2.1 p).1 ∧ SM (c + 1) (σ.1, σ.2.1, (aFire σ.2.1 σ.2.2.1 p).2, σ.2.2.2) w' ∧ frM w w') := by
  refine V_start 2 (by decide) rfl rfl (Nat.le_of_ble_eq_true rfl) ?_
  show V G l mX5_fire _ 0 [some (.ref (gA G 71)), some (.int (iZ p)), none, none] [] w
  have hT := h.2.1.2.1
  have hO := h.2.2.1.2.1
  have kt := hT.1
  have kn : 0 ≤ w 72 14 ∧ w 72 14 ≤ 12 := hO.n
  have eN := h.tN
  have eL := h.aN
  refine V_iload_n dX5_fire_0 rfl ?_
  refine V_i2l dX5_fire_1 (iZ_l (by omega)) ?_
  refine V_lconst (v := lZ 0) dX5_fire_2 rfl ?_
  refine V_ldc2 (v := (lZ 9)) dX5_fire_3 (List.mem_of_getElem? (i := 1) rfl) ?_
  refine V_iS3 dX5_fire_6 o_X5_fire_50 (Nat.le_of_ble_eq_true rfl) (c_X5_in G l (by omega) (by omega) (by omega)) ?_
  rintro z _ ⟨hz, rfl⟩
  have rz : z = 0 ∨ z = 1 := by rw [hz]; split <;> simp
  refine V_if_ne (tgt := 15) dX5_fire_9 (by decide) (by omega) (fun h9 => ?_) (fun h9 => ?_)
  · have yz : 0 ≤ p ∧ p ≤ 9 := by
      by_cases q9 : 0 ≤ p ∧ p ≤ 9
      · exact q9
      · rw [if_neg q9] at hz; omega
    refine V_iconst dX5_fire_15 ?_
    refine V_istore_n dX5_fire_16 (by decide) rfl ?_
    refine V_iconst dX5_fire_17 ?_
    refine V_istore_n dX5_fire_18 (by decide) rfl ?_
    refine l_X5_fire G l (c := c) (T := w 71 10) hp kt.2 (w 71 10).toNat 0 0 w (by omega) (by omega) hO hT rfl (fun w' x => ?_)
    obtain ⟨y1, y2, y3, y4⟩ := x
    have eF : gl w 72 (0 + 8) 6 = σ.2.2.1.2.2.2.1 := congrArg (fun t : AS => t.2.2.2.1) h.2.2.1.1
    have e00 : (0 : Int).toNat = 0 := rfl
    rw [h.tP', eF, h.aL, eN, e00] at y2
    rw [h.tP', eF, h.aL, eN, e00, Int.zero_add]
    have eA : mAS w' 0 = (σ.2.2.1.1, σ.2.2.1.2.1, σ.2.2.1.2.2.1, (brS σ.2.1.2.2.2.2.2.1 p σ.2.1.1.toNat 0 (σ.2.2.1.2.2.2.1, σ.2.2.1.2.2.2.2)).1, (brS σ.2.1.2.2.2.2.2.1 p σ.2.1.1.toNat 0 (σ.2.2.1.2.2.2.1, σ.2.2.1.2.2.2.2)).2) := by
      have eH : gl w 72 (0 + 2) 6 = σ.2.2.1.2.2.1 := congrArg (fun t : AS => t.2.2.1) h.2.2.1.1
      have eX : w 72 (0 + 1) = σ.2.2.1.2.1 := h.aX
      unfold mAS
      rw [y3.1, y3.2.1, y3.2.2, h.aD, eX, eH, ← y2]
    rw [aFire, if_pos yz]
    exact ⟨rfl, h.now y4 eA (okM_mono y1 (by omega)) (by rw [y3.1]; exact h.2.2.1.2.2), y4.m⟩
  · have yz : ¬ (0 ≤ p ∧ p ≤ 9) := fun q9 => by rw [if_pos q9] at hz; omega
    refine V_bipush dX5_fire_12 rfl ?_
    exact V_iret dX5_fire_14 rfl (by rw [aFire, if_neg yz]; exact ⟨rfl, h.same, fun _ _ _ => rfl⟩)

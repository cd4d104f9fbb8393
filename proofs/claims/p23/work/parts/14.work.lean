/-! ===== 14 State: work, days ===== -/
theorem gl_set {w : Wd} {k : Nat} {o t z : Int} {n : Nat} (h0 : 0 ≤ t) : gl (up w k (o + t) z) k o n = (gl w k o n).set t.toNat z := by
  apply List.ext_getElem?
  intro i
  rw [List.getElem?_set]
  by_cases hi : i < n
  · rw [gl_at hi]
    by_cases e : t.toNat = i
    · rw [if_pos e, if_pos (by rw [gl_len]; omega), show o + (i : Int) = o + t by omega, up_eq]
    · rw [if_neg e, gl_at hi, up_ne (Or.inr (by omega))]
  · rw [List.getElem?_eq_none (by rw [gl_len]; omega)]
    split
    · rw [if_neg (by rw [gl_len]; omega)]
    · rw [List.getElem?_eq_none (by rw [gl_len]; omega)]
theorem cLs_none {w : Wd} {b : Nat} {i : Nat} (h : (w b 3).toNat ≤ i) : (cLs w b)[i]? = none := List.getElem?_eq_none (by rw [cLs_len]; exact h)
theorem cLs_some {w : Wd} {b : Nat} {i : Nat} (h : i < (w b 3).toNat) : (cLs w b)[i]? = some (cLn w b i) := by
  unfold cLs
  rw [List.getElem?_map, List.getElem?_range h]
  rfl
theorem cLs_up5 {w : Wd} {b : Nat} {f z : Int} (h0 : 0 ≤ f) : cLs (up w (b + 5) f z) b = (cLs w b).set f.toNat (w (b + 3) f, w (b + 4) f, z, w (b + 6) f, w (b + 7) f) := by
  have e3 : up w (b + 5) f z b 3 = w b 3 := up_ne (Or.inl (by omega))
  apply List.ext_getElem?
  intro i
  rw [List.getElem?_set]
  by_cases hi : i < (w b 3).toNat
  · rw [cLs_some (by rw [e3]; exact hi)]
    by_cases e : f.toNat = i
    · rw [if_pos e, if_pos (by rw [cLs_len]; omega)]
      unfold cLn
      rw [show ((i : Nat) : Int) = f by omega, up_ne (Or.inl (by omega)), up_ne (Or.inl (by omega)), up_eq, up_ne (Or.inl (by omega)), up_ne (Or.inl (by omega))]
    · rw [if_neg e, cLs_some hi]
      unfold cLn
      rw [up_ne (Or.inl (by omega)), up_ne (Or.inl (by omega)), up_ne (Or.inr (by omega)), up_ne (Or.inl (by omega)), up_ne (Or.inl (by omega))]
  · rw [cLs_none (by rw [e3]; omega)]
    split
    · rw [if_neg (by rw [cLs_len]; omega)]
    · rw [cLs_none (by omega)]
theorem cLs_rm {w : Wd} {b : Nat} {r : Int} (h0 : 0 ≤ r) (h1 : r < w b 3) : cLs (rmS w b r) b = (cLs w b).eraseIdx r.toNat := by
  have e3 : rmS w b r b 3 = w b 3 - 1 := by unfold rmS; rw [up_eq]
  apply List.ext_getElem?
  intro i
  rw [List.getElem?_eraseIdx]
  have hr : ∀ (k : Nat) (j : Int), b + 3 ≤ k → k ≤ b + 7 → 0 ≤ j → j < w b 3 - 1 → rmS w b r k j = if r ≤ j then w k (j + 1) else w k j := by
    intro k j g1 g2 g3 g4
    unfold rmS swS
    rw [up_ne (Or.inl (by omega))]
    by_cases h : r ≤ j
    · rw [if_pos (by omega), if_pos h]
    · rw [if_neg (by omega), if_neg h]
  by_cases hi : i < (w b 3 - 1).toNat
  · rw [cLs_some (by rw [e3]; exact hi)]
    unfold cLn
    rw [hr _ _ (by omega) (by omega) (by omega) (by omega), hr _ _ (by omega) (by omega) (by omega) (by omega), hr _ _ (by omega) (by omega) (by omega) (by omega), hr _ _ (by omega) (by omega) (by omega) (by omega), hr _ _ (by omega) (by omega) (by omega) (by omega)]
    by_cases hlt : i < r.toNat
    · rw [if_pos hlt, cLs_some (by omega)]
      unfold cLn
      rw [if_neg (by omega), if_neg (by omega), if_neg (by omega), if_neg (by omega), if_neg (by omega)]
    · rw [if_neg hlt, cLs_some (by omega)]
      unfold cLn
      rw [if_pos (by omega), if_pos (by omega), if_pos (by omega), if_pos (by omega), if_pos (by omega), show (((i + 1 : Nat)) : Int) = (i : Int) + 1 by omega]
  · rw [cLs_none (by rw [e3]; omega)]
    split
    · rw [cLs_none (by omega)]
    · rw [cLs_none (by omega)]
theorem rmS_ne {w : Wd} {b k : Nat} {r j : Int} (h : k < b + 3 ∨ b + 7 < k) (h2 : k ≠ b ∨ j ≠ 3) : rmS w b r k j = w k j := by
  unfold rmS swS
  rw [up_ne h2, if_neg (by omega)]
/-- the loans as work needs them -/
def okW (w : Wd) (b : Nat) : Prop := (0 ≤ w b 3 ∧ w b 3 ≤ 12) ∧ (∀ i : Int, 0 ≤ i → i < w b 3 → (0 ≤ w (b + 3) i ∧ w (b + 3) i < 6) ∧ (0 ≤ w (b + 4) i ∧ w (b + 4) i ≤ 99) ∧ (0 ≤ w (b + 5) i ∧ w (b + 5) i ≤ 1000000) ∧ inR (w (b + 6) i)) ∧ ∀ t : Int, 0 ≤ t → t < 6 → 0 ≤ w (b + 1) t ∧ w (b + 1) t ≤ 99
/-- behind work -/
def wkR (b n : Nat) (left : Int) (w w' : Wd) : Prop := okW w' b ∧ (gl w' (b + 1) 0 6, cLs w' b) = wkN n left (gl w (b + 1) 0 6, cLs w b) ∧ ∀ (k : Nat) (j : Int), (k < b ∨ b + 7 < k ∨ k = b + 2 ∨ (k = b ∧ j ≠ 3)) → w' k j = w k j
theorem cLs_ne {w : Wd} {b : Nat} (h : 0 < w b 3) : cLs w b ≠ [] := by
  intro e
  have h1 := cLs_len w b
  rw [e] at h1
  simp only [List.length_nil] at h1
  omega
theorem cLs_nil {w : Wd} {b : Nat} (h : w b 3 ≤ 0) : cLs w b = [] := by
  apply List.eq_nil_of_length_eq_zero
  rw [cLs_len]
  omega
theorem cLs_D {w : Wd} {b : Nat} {f : Int} (h0 : 0 ≤ f) (h1 : f < w b 3) : (cLs w b).getD f.toNat ln0 = (w (b + 3) f, w (b + 4) f, w (b + 5) f, w (b + 6) f, w (b + 7) f) := by
  rw [List.getD_eq_getElem?_getD, cLs_at h0 h1]
  rfl
/-- a round that pays off -/
theorem wk_pay {w : Wd} {b : Nat} {f left : Int} (hf : f = ((fdL (cLs w b) : Nat) : Int)) (h1 : f < w b 3) (ho : okW w b) (hz : w (b + 5) f - min left (w (b + 5) f) = 0) :
    (left - min left (w (b + 5) f), (gl (rmS (up (up w (b + 5) f (w (b + 5) f - min left (w (b + 5) f))) (b + 1) (w (b + 3) f) (min (w (b + 1) (w (b + 3) f) + w (b + 4) f) 99)) b f) (b + 1) 0 6, cLs (rmS (up (up w (b + 5) f (w (b + 5) f - min left (w (b + 5) f))) (b + 1) (w (b + 3) f) (min (w (b + 1) (w (b + 3) f) + w (b + 4) f) 99)) b f) b)) = wk1 left (gl w (b + 1) 0 6, cLs w b) := by
  have h0 : 0 ≤ f := by omega
  have q := ho.2.1 f h0 h1
  unfold wk1
  dsimp only
  rw [show fdL (cLs w b) = f.toNat by omega, cLs_D h0 h1]
  dsimp only
  rw [if_pos hz]
  congr 2
  · have e1 : gl (rmS (up (up w (b + 5) f (w (b + 5) f - min left (w (b + 5) f))) (b + 1) (w (b + 3) f) (min (w (b + 1) (w (b + 3) f) + w (b + 4) f) 99)) b f) (b + 1) 0 6 = gl (up w (b + 1) (0 + w (b + 3) f) (min (w (b + 1) (w (b + 3) f) + w (b + 4) f) 99)) (b + 1) 0 6 := by
      apply gl_eq
      intro i g0 g1
      rw [rmS_ne (Or.inl (by omega)) (Or.inl (by omega)), Int.zero_add (w (b + 3) f)]
      unfold up
      by_cases hc : b + 1 = b + 1 ∧ 0 + i = w (b + 3) f
      · rw [if_pos hc, if_pos hc]
      · rw [if_neg hc, if_neg hc, if_neg (by omega)]
    rw [e1, gl_set q.1.1, gl_D q.1.1 (by omega), Int.zero_add]
  · rw [cLs_rm h0 (by rw [up_ne (Or.inl (by omega)), up_ne (Or.inl (by omega))]; exact h1)]
    apply List.ext_getElem?
    intro i
    rw [List.getElem?_eraseIdx, List.getElem?_eraseIdx]
    have g : ∀ j : Nat, j ≠ f.toNat → (cLs (up (up w (b + 5) f (w (b + 5) f - min left (w (b + 5) f))) (b + 1) (w (b + 3) f) (min (w (b + 1) (w (b + 3) f) + w (b + 4) f) 99)) b)[j]? = (cLs w b)[j]? := by
      intro j hj
      have e2 : cLs (up (up w (b + 5) f (w (b + 5) f - min left (w (b + 5) f))) (b + 1) (w (b + 3) f) (min (w (b + 1) (w (b + 3) f) + w (b + 4) f) 99)) b = cLs (up w (b + 5) f (w (b + 5) f - min left (w (b + 5) f))) b := by
        apply cLs_eq
        · exact up_ne (Or.inl (by omega))
        · intro k j g1 g2 g3 g4
          exact up_ne (Or.inl (by omega))
      rw [e2, cLs_up5 h0, List.getElem?_set, if_neg (by omega)]
    split
    · rw [g _ (by omega)]
    · rw [g _ (by omega)]
/-- a round that does not -/
theorem wk_part {w : Wd} {b : Nat} {f left : Int} (hf : f = ((fdL (cLs w b) : Nat) : Int)) (h1 : f < w b 3) (hz : w (b + 5) f - min left (w (b + 5) f) ≠ 0) :
    (left - min left (w (b + 5) f), (gl (up w (b + 5) f (w (b + 5) f - min left (w (b + 5) f))) (b + 1) 0 6, cLs (up w (b + 5) f (w (b + 5) f - min left (w (b + 5) f))) b)) = wk1 left (gl w (b + 1) 0 6, cLs w b) := by
  have h0 : 0 ≤ f := by omega
  unfold wk1
  dsimp only
  rw [show fdL (cLs w b) = f.toNat by omega, cLs_D h0 h1]
  dsimp only
  rw [if_neg hz, cLs_up5 h0]
  congr 2
  apply gl_eq
  intro i g0 g1
  exact up_ne (Or.inl (by omega))
theorem wkR_stop {w : Wd} {b n : Nat} {left : Int} (ho : okW w b) (h : left ≤ 0 ∨ w b 3 ≤ 0 ∨ n = 0) : wkR b n left w w := by
  refine ⟨ho, ?_, fun _ _ _ => rfl⟩
  rcases h with h | h | h
  · rw [wkN_stop (fun z => by have := z.1; omega)]
  · rw [wkN_stop (fun z => z.2 (cLs_nil h))]
  · subst h; rfl
theorem wkR_next {w w1 w' : Wd} {b n : Nat} {left l1 : Int} (hl : 0 < left) (hn : 0 < w b 3) (e : (l1, (gl w1 (b + 1) 0 6, cLs w1 b)) = wk1 left (gl w (b + 1) 0 6, cLs w b)) (hk : ∀ (k : Nat) (j : Int), (k < b ∨ b + 7 < k ∨ k = b + 2 ∨ (k = b ∧ j ≠ 3)) → w1 k j = w k j) (h : wkR b n l1 w1 w') : wkR b (n + 1) left w w' := by
  obtain ⟨h1, h2, h3⟩ := h
  refine ⟨h1, ?_, fun k j q => (h3 k j q).trans (hk k j q)⟩
  rw [wkN, if_pos ⟨hl, cLs_ne hn⟩, ← e]
  exact h2
theorem okW_part {w : Wd} {b : Nat} {f z : Int} (ho : okW w b) (h0 : 0 ≤ f ∧ f < w b 3) (hz : 0 ≤ z ∧ z ≤ 1000000) : okW (up w (b + 5) f z) b := by
  obtain ⟨h1, h2, h3⟩ := ho
  have e3 : up w (b + 5) f z b 3 = w b 3 := up_ne (Or.inl (by omega))
  refine ⟨by rw [e3]; exact h1, fun i g0 g1 => ?_, fun t g0 g1 => ?_⟩
  · rw [e3] at g1
    have q := h2 i g0 g1
    rw [up_ne (Or.inl (by omega)), up_ne (Or.inl (by omega)), up_ne (Or.inl (by omega) : b + 6 ≠ b + 5 ∨ i ≠ f)]
    refine ⟨q.1, q.2.1, ?_, q.2.2.2⟩
    by_cases e : i = f
    · subst e
      rw [up_eq]
      exact hz
    · rw [up_ne (Or.inr e)]
      exact q.2.2.1
  · rw [up_ne (Or.inl (by omega))]
    exact h3 t g0 g1
theorem okW_has {w : Wd} {b : Nat} {t z : Int} (ho : okW w b) (hz : 0 ≤ z ∧ z ≤ 99) : okW (up w (b + 1) t z) b := by
  obtain ⟨h1, h2, h3⟩ := ho
  have e3 : up w (b + 1) t z b 3 = w b 3 := up_ne (Or.inl (by omega))
  refine ⟨by rw [e3]; exact h1, fun i g0 g1 => ?_, fun t' g0 g1 => ?_⟩
  · rw [e3] at g1
    rw [up_ne (Or.inl (by omega)), up_ne (Or.inl (by omega)), up_ne (Or.inl (by omega)), up_ne (Or.inl (by omega))]
    exact h2 i g0 g1
  · by_cases e : t' = t
    · subst e
      rw [up_eq]
      exact hz
    · rw [up_ne (Or.inr e)]
      exact h3 t' g0 g1
theorem okW_rm {w : Wd} {b : Nat} {r : Int} (ho : okW w b) (hr : 0 ≤ r ∧ r < w b 3) : okW (rmS w b r) b := by
  obtain ⟨h1, h2, h3⟩ := ho
  have e3 : rmS w b r b 3 = w b 3 - 1 := by unfold rmS; rw [up_eq]
  have hk : ∀ (k : Nat) (j : Int), b + 3 ≤ k → k ≤ b + 7 → 0 ≤ j → j < w b 3 - 1 → rmS w b r k j = if r ≤ j then w k (j + 1) else w k j := by
    intro k j g1 g2 g3 g4
    unfold rmS swS
    rw [up_ne (Or.inl (by omega))]
    by_cases h : r ≤ j
    · rw [if_pos (by omega), if_pos h]
    · rw [if_neg (by omega), if_neg h]
  refine ⟨by rw [e3]; omega, fun i g0 g1 => ?_, fun t g0 g1 => ?_⟩
  · rw [e3] at g1
    rw [hk _ _ (by omega) (by omega) g0 g1, hk _ _ (by omega) (by omega) g0 g1, hk _ _ (by omega) (by omega) g0 g1, hk _ _ (by omega) (by omega) g0 g1]
    by_cases h : r ≤ i
    · rw [if_pos h, if_pos h, if_pos h, if_pos h]
      exact h2 (i + 1) (by omega) (by omega)
    · rw [if_neg h, if_neg h, if_neg h, if_neg h]
      exact h2 i g0 (by omega)
  · rw [rmS_ne (by omega) (by omega)]
    exact h3 t g0 g1
set_option maxRecDepth 100000 in
set_option maxHeartbeats 4000000 in
theorem l_X1_workOff (G : Gb) (l : Launch) {b : Nat} (hb : IsSt b) {v : Int} {Post : Wd → Prop} : ∀ (n : Nat) (left i : Int) (w : Wd), 0 ≤ i → i + n = 12 → inR left → okW w b → (∀ w', wkR b n left w w' → Post w') → ∀ o4 o5 : Option Value, V G l mX1_workOff (Qv G Post) 4 [some (.ref (gA G b)), some (.int (iZ v)), some (.int (iZ left)), some (.int (iZ i)), o4, o5] [] w := by
  intro n
  induction n with
  | zero =>
    intro left i w h0 h1 hL ho hp o4 o5
    refine V_iload_n dX1_workOff_4 rfl ?_
    refine V_bipush dX1_workOff_5 rfl ?_
    refine V_icmp_ge (tgt := 97) dX1_workOff_7 (by decide) (by omega) (by omega) (fun h7 => ?_) (fun h7 => ?_)
    · exact V_vret dX1_workOff_97 rfl (hp _ (wkR_stop ho (Or.inr (Or.inr rfl))))
    · exact absurd h7 (by omega)
  | succ n ih =>
    intro left i w h0 h1 hL ho hp o4 o5
    have q0 := ho.1
    refine V_iload_n dX1_workOff_4 rfl ?_
    refine V_bipush dX1_workOff_5 rfl ?_
    refine V_icmp_ge (tgt := 97) dX1_workOff_7 (by decide) (by omega) (by omega) (fun h7 => ?_) (fun h7 => ?_)
    · exact absurd h7 (by omega)
    · refine V_iload_n dX1_workOff_10 rfl ?_
      refine V_if_le (tgt := 97) dX1_workOff_11 (by decide) (by omega) (fun h11 => ?_) (fun h11 => ?_)
      · exact V_vret dX1_workOff_97 rfl (hp _ (wkR_stop ho (Or.inl h11)))
      · refine V_aload_n dX1_workOff_14 rfl ?_
        refine V_getI (ci := 1) (j := 3) (ji := 3) dX1_workOff_15 (sSt_0 hb) rfl rfl i_X1_workOff_X1 (by decide) f_X1_workOff_37 rfl ?_
        refine V_if_le (tgt := 97) dX1_workOff_18 (by decide) (by omega) (fun h18 => ?_) (fun h18 => ?_)
        · exact V_vret dX1_workOff_97 rfl (hp _ (wkR_stop ho (Or.inr (Or.inl h18))))
        · refine V_aload_n dX1_workOff_21 rfl ?_
          refine V_iV0 dX1_workOff_22 o_X1_workOff_93 (sSt_0 hb) rfl (Nat.le_of_ble_eq_true rfl) (c_X1_firstDue G l hb (by omega) (fun i g0 g1 => (ho.2.1 i g0 g1).2.2.2)) ?_
          rintro f _ ⟨hf, rfl⟩
          have hfl : fdL (cLs w b) < (cLs w b).length := fdL_lt (cLs_ne h18)
          rw [cLs_len] at hfl
          have q1 := ho.2.1 f (by omega) (by omega)
          refine V_istore dX1_workOff_25 (by decide) rfl ?_
          refine V_iload_n dX1_workOff_27 rfl ?_
          refine V_aload_n dX1_workOff_28 rfl ?_
          refine V_getR (ci := 1) (j := 6) dX1_workOff_29 (sSt_0 hb) rfl rfl i_X1_workOff_X1 (by decide) f_X1_workOff_24 ?_
          refine V_iload dX1_workOff_32 rfl ?_
          refine V_iald dX1_workOff_34 (sSt_5 hb) (by omega) ?_
          refine V_min dX1_workOff_35 (by omega) (by omega) (List.mem_of_getElem? (i := 3) rfl) (List.mem_of_getElem? (i := 4) rfl) (List.mem_of_getElem? (i := 5) rfl) (List.mem_of_getElem? (i := 6) rfl) (Nat.le_of_ble_eq_true rfl) (Nat.le_of_ble_eq_true rfl) ?_
          refine V_istore dX1_workOff_38 (by decide) rfl ?_
          refine V_iload_n dX1_workOff_40 rfl ?_
          refine V_iload dX1_workOff_41 rfl ?_
          refine V_isub dX1_workOff_43 ?_
          refine V_istore_n dX1_workOff_44 (by decide) rfl ?_
          refine V_aload_n dX1_workOff_45 rfl ?_
          refine V_getR (ci := 1) (j := 6) dX1_workOff_46 (sSt_0 hb) rfl rfl i_X1_workOff_X1 (by decide) f_X1_workOff_24 ?_
          refine V_iload dX1_workOff_49 rfl ?_
          refine V_dup2 dX1_workOff_51 rfl rfl ?_
          refine V_iald dX1_workOff_52 (sSt_5 hb) (by omega) ?_
          refine V_iload dX1_workOff_53 rfl ?_
          refine V_isub dX1_workOff_55 ?_
          refine V_iast dX1_workOff_56 (sSt_5 hb) (by omega) ?_
          refine V_aload_n dX1_workOff_57 rfl ?_
          refine V_getR (ci := 1) (j := 6) dX1_workOff_58 (sSt_0 hb) rfl rfl i_X1_workOff_X1 (by decide) f_X1_workOff_24 ?_
          refine V_iload dX1_workOff_61 rfl ?_
          refine V_ialdE (z := w (b + 5) f - min left (w (b + 5) f)) dX1_workOff_63 (sSt_5 hb) (by omega) (by rw [up_eq]) ?_
          refine V_if_ne (tgt := 91) dX1_workOff_64 (by decide) (by omega) (fun h64 => ?_) (fun h64 => ?_)
          · refine V_iinc dX1_workOff_91 rfl (by decide) rfl ?_
            refine V_goto (tgt := 4) dX1_workOff_94 (by decide) ?_
            first
              | (refine ih _ (i + 1) _ (by omega) (by omega) (by omega) ?_ (fun w' h => hp w' (wkR_next h11 h18 (wk_part hf (by omega) h64) (fun k j q => up_ne (by omega)) h)) _ _; exact okW_part ho (by omega) (by omega))
              | (refine ih _ (i + 1) _ (by omega) (by omega) (by omega) ?_ (fun w' h => hp w' (wkR_next h11 h18 (wk_pay hf (by omega) ho h64) (fun k j q => by rw [rmS_ne (by omega) (by omega), up_ne (by omega), up_ne (by omega)]) h)) _ _; exact okW_rm (okW_has (okW_part ho (by omega) (by omega)) (by omega)) (by rw [up_ne (Or.inl (by omega)), up_ne (Or.inl (by omega))]; omega))
          · refine V_aload_n dX1_workOff_67 rfl ?_
            refine V_aload_n dX1_workOff_68 rfl ?_
            refine V_getR (ci := 1) (j := 4) dX1_workOff_69 (sSt_0 hb) rfl rfl i_X1_workOff_X1 (by decide) f_X1_workOff_18 ?_
            refine V_iload dX1_workOff_72 rfl ?_
            refine V_ialdE (z := w (b + 3) f) dX1_workOff_74 (sSt_3 hb) (by omega) (by rw [up_ne (Or.inl (by omega))]) ?_
            refine V_aload_n dX1_workOff_75 rfl ?_
            refine V_getR (ci := 1) (j := 5) dX1_workOff_76 (sSt_0 hb) rfl rfl i_X1_workOff_X1 (by decide) f_X1_workOff_21 ?_
            refine V_iload dX1_workOff_79 rfl ?_
            refine V_ialdE (z := w (b + 4) f) dX1_workOff_81 (sSt_4 hb) (by omega) (by rw [up_ne (Or.inl (by omega))]) ?_
            have q2 := ho.2.2 (w (b + 3) f) q1.1.1 q1.1.2
            have e1 : (up w (b + 5) f (w (b + 5) f - min left (w (b + 5) f))) (b + 1) (w (b + 3) f) = w (b + 1) (w (b + 3) f) := up_ne (Or.inl (by omega))
            refine V_vV2 dX1_workOff_82 o_X1_workOff_97 (sSt_0 hb) rfl (Nat.le_of_ble_eq_true rfl) (c_X1_addBranches G l hb (w := (up w (b + 5) f (w (b + 5) f - min left (w (b + 5) f)))) q1.1 (by rw [e1]; exact q2) q1.2.1) ?_
            rintro _ rfl
            rw [e1]
            refine V_aload_n dX1_workOff_85 rfl ?_
            refine V_iload dX1_workOff_86 rfl ?_
            refine V_vV1 dX1_workOff_88 o_X1_workOff_101 (sSt_0 hb) rfl (Nat.le_of_ble_eq_true rfl) (c_X1_removeLoan G l hb (by rw [up_ne (Or.inl (by omega)), up_ne (Or.inl (by omega))]; exact ho.1.2) (by rw [up_ne (Or.inl (by omega)), up_ne (Or.inl (by omega))]; omega)) ?_
            rintro _ rfl
            refine V_iinc dX1_workOff_91 rfl (by decide) rfl ?_
            refine V_goto (tgt := 4) dX1_workOff_94 (by decide) ?_
            first
              | (refine ih _ (i + 1) _ (by omega) (by omega) (by omega) ?_ (fun w' h => hp w' (wkR_next h11 h18 (wk_part hf (by omega) h64) (fun k j q => up_ne (by omega)) h)) _ _; exact okW_part ho (by omega) (by omega))
              | (refine ih _ (i + 1) _ (by omega) (by omega) (by omega) ?_ (fun w' h => hp w' (wkR_next h11 h18 (wk_pay hf (by omega) ho h64) (fun k j q => by rw [rmS_ne (by omega) (by omega), up_ne (by omega), up_ne (by omega)]) h)) _ _; exact okW_rm (okW_has (okW_part ho (by omega) (by omega)) (by omega)) (by rw [up_ne (Or.inl (by omega)), up_ne (Or.inl (by omega))]; omega))
set_option maxRecDepth 100000 in
set_option maxHeartbeats 4000000 in
theorem c_X1_workOff (G : Gb) (l : Launch) {w : Wd} {b : Nat} (hb : IsSt b) {v : Int} (hv : inR v) (ho : okW w b) : Cv G l yX1_workOff mX1_workOff [.ref (gA G b), .int (iZ v)] w (fun w' => wkR b 12 v w w') := by
  refine V_start 4 (by decide) rfl rfl (Nat.le_of_ble_eq_true rfl) ?_
  show V G l mX1_workOff _ 0 [some (.ref (gA G b)), some (.int (iZ v)), none, none, none, none] [] w
  refine V_iload_n dX1_workOff_0 rfl ?_
  refine V_istore_n dX1_workOff_1 (by decide) rfl ?_
  refine V_iconst dX1_workOff_2 ?_
  refine V_istore_n dX1_workOff_3 (by decide) rfl ?_
  exact l_X1_workOff G l hb 12 v 0 w (by omega) (by omega) hv ho (fun _ h => h) none none

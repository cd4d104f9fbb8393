/-! ===== 43 the reference: work ===== -/
def okWm (w : Wd) (o : Int) : Prop := (0 ≤ w 72 (o + 14) ∧ w 72 (o + 14) ≤ 12) ∧ (∀ i : Int, 0 ≤ i → i < w 72 (o + 14) → (0 ≤ w 72 (o + 15 + 5 * i) ∧ w 72 (o + 15 + 5 * i) < 6) ∧ (0 ≤ w 72 (o + 16 + 5 * i) ∧ w 72 (o + 16 + 5 * i) ≤ 99) ∧ (0 ≤ w 72 (o + 17 + 5 * i) ∧ w 72 (o + 17 + 5 * i) ≤ 1000000) ∧ inR (w 72 (o + 18 + 5 * i))) ∧ ∀ t : Int, 0 ≤ t → t < 6 → 0 ≤ w 72 (o + 2 + t) ∧ w 72 (o + 2 + t) ≤ 99
/-- what work leaves alone -/
def frWm (o : Int) (w w' : Wd) : Prop := ∀ (k : Nat) (j : Int), (k ≠ 72 ∨ j < o ∨ o + 75 ≤ j ∨ j = o ∨ j = o + 1 ∨ (o + 8 ≤ j ∧ j < o + 14)) → w' k j = w k j
def wkM (o : Int) (n : Nat) (left : Int) (w w' : Wd) : Prop := okWm w' o ∧ (gl w' 72 (o + 2) 6, mLs w' o) = wkN n left (gl w 72 (o + 2) 6, mLs w o) ∧ frWm o w w'
theorem wkM_stop {w : Wd} {o : Int} {n : Nat} {left : Int} (ho : okWm w o) (h : left ≤ 0 ∨ mLs w o = [] ∨ n = 0) : wkM o n left w w := by
  refine ⟨ho, ?_, fun _ _ _ => rfl⟩
  rcases h with h | h | h
  · rw [wkN_stop (fun z => by have := z.1; omega)]
  · rw [wkN_stop (fun z => z.2 h)]
  · subst h; rfl
theorem wkM_next {w w1 w' : Wd} {o : Int} {n : Nat} {left l1 : Int} (hl : 0 < left) (hn : mLs w o ≠ []) (e : (l1, (gl w1 72 (o + 2) 6, mLs w1 o)) = wk1 left (gl w 72 (o + 2) 6, mLs w o)) (hk : frWm o w w1) (h : wkM o n l1 w1 w') : wkM o (n + 1) left w w' := by
  obtain ⟨h1, h2, h3⟩ := h
  refine ⟨h1, ?_, fun k j q => (h3 k j q).trans (hk k j q)⟩
  rw [wkN, if_pos ⟨hl, hn⟩, ← e]
  exact h2
theorem mLs_up17 {w : Wd} {o f z : Int} (h0 : 0 ≤ f) : mLs (up w 72 (o + 17 + 5 * f) z) o = (mLs w o).set f.toNat (w 72 (o + 15 + 5 * f), w 72 (o + 16 + 5 * f), z, w 72 (o + 18 + 5 * f), w 72 (o + 19 + 5 * f)) := by
  have e3 : up w 72 (o + 17 + 5 * f) z 72 (o + 14) = w 72 (o + 14) := up_ne (Or.inr (by omega))
  apply List.ext_getElem?
  intro i
  rw [List.getElem?_set]
  by_cases hi : i < (w 72 (o + 14)).toNat
  · rw [mLs_some (by rw [e3]; exact hi)]
    by_cases e : f.toNat = i
    · rw [if_pos e, if_pos (by rw [mLs_len]; omega)]
      unfold mLn
      rw [show ((i : Nat) : Int) = f by omega, up_ne (Or.inr (by omega)), up_ne (Or.inr (by omega)), up_eq, up_ne (Or.inr (by omega)), up_ne (Or.inr (by omega))]
    · rw [if_neg e, mLs_some hi]
      unfold mLn
      rw [up_ne (Or.inr (by omega)), up_ne (Or.inr (by omega)), up_ne (Or.inr (by omega)), up_ne (Or.inr (by omega)), up_ne (Or.inr (by omega))]
  · rw [mLs_none (by rw [e3]; omega)]
    split
    · rw [if_neg (by rw [mLs_len]; omega)]
    · rw [mLs_none (by omega)]
/-- a change outside of the loans leaves them -/
theorem mLs_upO {w : Wd} {o j z : Int} (h : j < o + 14) : mLs (up w 72 j z) o = mLs w o := by
  apply mLs_eq
  · exact up_ne (Or.inr (by omega))
  · intro i q0 q1
    exact up_ne (Or.inr (by omega))
/-- a round that pays off -/
theorem wkm_pay {w : Wd} {o f left : Int} (hf : f = ((fdL (mLs w o) : Nat) : Int)) (h1 : f < w 72 (o + 14)) (ho : okWm w o) (hz : w 72 (o + 17 + 5 * f) - min left (w 72 (o + 17 + 5 * f)) = 0) :
    (left - min left (w 72 (o + 17 + 5 * f)), (gl (rmM (up (up w 72 (o + 17 + 5 * f) (w 72 (o + 17 + 5 * f) - min left (w 72 (o + 17 + 5 * f)))) 72 (o + 2 + w 72 (o + 15 + 5 * f)) (min (w 72 (o + 2 + w 72 (o + 15 + 5 * f)) + w 72 (o + 16 + 5 * f)) 99)) o f) 72 (o + 2) 6, mLs (rmM (up (up w 72 (o + 17 + 5 * f) (w 72 (o + 17 + 5 * f) - min left (w 72 (o + 17 + 5 * f)))) 72 (o + 2 + w 72 (o + 15 + 5 * f)) (min (w 72 (o + 2 + w 72 (o + 15 + 5 * f)) + w 72 (o + 16 + 5 * f)) 99)) o f) o)) = wk1 left (gl w 72 (o + 2) 6, mLs w o) := by
  have h0 : 0 ≤ f := by omega
  have q := ho.2.1 f h0 h1
  unfold wk1
  dsimp only
  rw [show fdL (mLs w o) = f.toNat by omega, mLs_D h0 h1]
  dsimp only
  rw [if_pos hz]
  congr 2
  · rw [gl_D q.1.1 (by omega), ← gl_set q.1.1]
    apply gl_eq
    intro i g0 g1
    rw [rmM_ne h0 (Or.inr (Or.inl (by omega))) (Or.inr (by omega))]
    unfold up
    by_cases hc : 72 = 72 ∧ o + 2 + i = o + 2 + w 72 (o + 15 + 5 * f)
    · rw [if_pos hc, if_pos hc]
    · rw [if_neg hc, if_neg hc, if_neg (by omega)]
  · rw [mLs_rm h0 (by rw [up_ne (Or.inr (by omega)), up_ne (Or.inr (by omega))]; exact h1), mLs_upO (by omega), mLs_up17 h0]
    apply List.ext_getElem?
    intro i
    rw [List.getElem?_eraseIdx, List.getElem?_eraseIdx]
    split
    · rw [List.getElem?_set, if_neg (by omega)]
    · rw [List.getElem?_set, if_neg (by omega)]
/-- a round that does not -/
theorem wkm_part {w : Wd} {o f left : Int} (hf : f = ((fdL (mLs w o) : Nat) : Int)) (h1 : f < w 72 (o + 14)) (hz : w 72 (o + 17 + 5 * f) - min left (w 72 (o + 17 + 5 * f)) ≠ 0) :
    (left - min left (w 72 (o + 17 + 5 * f)), (gl (up w 72 (o + 17 + 5 * f) (w 72 (o + 17 + 5 * f) - min left (w 72 (o + 17 + 5 * f)))) 72 (o + 2) 6, mLs (up w 72 (o + 17 + 5 * f) (w 72 (o + 17 + 5 * f) - min left (w 72 (o + 17 + 5 * f)))) o)) = wk1 left (gl w 72 (o + 2) 6, mLs w o) := by
  have h0 : 0 ≤ f := by omega
  unfold wk1
  dsimp only
  rw [show fdL (mLs w o) = f.toNat by omega, mLs_D h0 h1]
  dsimp only
  rw [if_neg hz, mLs_up17 h0]
  congr 2
  apply gl_eq
  intro i g0 g1
  exact up_ne (Or.inr (by omega))
theorem okWm_part {w : Wd} {o f z : Int} (ho : okWm w o) (h0 : 0 ≤ f ∧ f < w 72 (o + 14)) (hz : 0 ≤ z ∧ z ≤ 1000000) : okWm (up w 72 (o + 17 + 5 * f) z) o := by
  obtain ⟨h1, h2, h3⟩ := ho
  have e3 : up w 72 (o + 17 + 5 * f) z 72 (o + 14) = w 72 (o + 14) := up_ne (Or.inr (by omega))
  refine ⟨by rw [e3]; exact h1, fun i g0 g1 => ?_, fun t g0 g1 => ?_⟩
  · rw [e3] at g1
    have q := h2 i g0 g1
    rw [up_ne (Or.inr (by omega)), up_ne (Or.inr (by omega)), up_ne (Or.inr (by omega) : 72 ≠ 72 ∨ o + 18 + 5 * i ≠ o + 17 + 5 * f)]
    refine ⟨q.1, q.2.1, ?_, q.2.2.2⟩
    by_cases e : i = f
    · subst e
      rw [up_eq]
      exact hz
    · rw [up_ne (Or.inr (by omega))]
      exact q.2.2.1
  · rw [up_ne (Or.inr (by omega))]
    exact h3 t g0 g1
theorem okWm_has {w : Wd} {o t z : Int} (ho : okWm w o) (ht : 0 ≤ t ∧ t < 6) (hz : 0 ≤ z ∧ z ≤ 99) : okWm (up w 72 (o + 2 + t) z) o := by
  obtain ⟨h1, h2, h3⟩ := ho
  have e3 : up w 72 (o + 2 + t) z 72 (o + 14) = w 72 (o + 14) := up_ne (Or.inr (by omega))
  refine ⟨by rw [e3]; exact h1, fun i g0 g1 => ?_, fun t' g0 g1 => ?_⟩
  · rw [e3] at g1
    rw [up_ne (Or.inr (by omega)), up_ne (Or.inr (by omega)), up_ne (Or.inr (by omega)), up_ne (Or.inr (by omega))]
    exact h2 i g0 g1
  · by_cases e : t' = t
    · subst e
      rw [up_eq]
      exact hz
    · rw [up_ne (Or.inr (by omega))]
      exact h3 t' g0 g1
theorem okWm_rm {w : Wd} {o r : Int} (ho : okWm w o) (hr : 0 ≤ r ∧ r < w 72 (o + 14)) : okWm (rmM w o r) o := by
  obtain ⟨h1, h2, h3⟩ := ho
  have e3 := rmM_n w (o := o) hr.1
  refine ⟨by rw [e3]; omega, fun i g0 g1 => ?_, fun t g0 g1 => ?_⟩
  · rw [e3] at g1
    rw [rmM_ln hr.1 (by omega) (by omega), rmM_ln hr.1 (by omega) (by omega), rmM_ln hr.1 (by omega) (by omega), rmM_ln hr.1 (by omega) (by omega)]
    by_cases h : r ≤ i
    · rw [if_pos h, if_pos h, if_pos h, if_pos h]
      exact h2 (i + 1) (by omega) (by omega)
    · rw [if_neg h, if_neg h, if_neg h, if_neg h]
      exact h2 i g0 (by omega)
  · rw [rmM_ne hr.1 (by omega) (by omega)]
    exact h3 t g0 g1
set_option maxRecDepth 100000 in
set_option maxHeartbeats 4000000 in
theorem x_X5_work (G : Gb) (l : Launch) {w : Wd} {o v left k : Int} {Post : Wd → Prop} (hk : inR k) (hL : inR left) (h : left ≤ 0 ∨ k = -1) (hp : Post w) (o5 o6 o7 : Option Value) : V G l mX5_work (Qv G Post) 12 [some (.ref (gA G 71)), some (.int (iZ o)), some (.int (iZ v)), some (.int (iZ left)), some (.int (iZ k)), o5, o6, o7] [] w := by
  refine V_iload dX5_work_12 rfl ?_
  refine V_iconst dX5_work_14 ?_
  refine V_icmp_eq (tgt := 148) dX5_work_15 (by decide) (by omega) (by omega) (fun h15 => ?_) (fun h15 => ?_)
  · exact V_vret dX5_work_148 rfl hp
  · refine V_iload_n dX5_work_18 rfl ?_
    refine V_if_le (tgt := 148) dX5_work_19 (by decide) (by omega) (fun h19 => ?_) (fun h19 => ?_)
    · exact V_vret dX5_work_148 rfl hp
    · exact absurd h19 (by omega)
set_option maxRecDepth 100000 in
set_option maxHeartbeats 4000000 in
theorem l_X5_work (G : Gb) (l : Launch) {o v : Int} (ho : 0 ≤ o ∧ o ≤ 300) {Post : Wd → Prop} : ∀ (n : Nat) (left : Int) (w : Wd), okWm w o → inR left → (mLs w o).length ≤ n → (∀ w', wkM o n left w w' → Post w') → ∀ (k : Int) (o5 o6 o7 : Option Value), k = (if mLs w o = [] then -1 else ((fdL (mLs w o) : Nat) : Int)) → V G l mX5_work (Qv G Post) 12 [some (.ref (gA G 71)), some (.int (iZ o)), some (.int (iZ v)), some (.int (iZ left)), some (.int (iZ k)), o5, o6, o7] [] w := by
  intro n
  induction n with
  | zero =>
    intro left w hw hL hn hp k o5 o6 o7 hk
    have he : mLs w o = [] := List.length_eq_zero_iff.mp (by omega)
    rw [if_pos he] at hk
    exact x_X5_work G l (by omega) hL (Or.inr hk) (hp _ (wkM_stop hw (Or.inr (Or.inl he)))) _ _ _
  | succ n ih =>
    intro left w hw hL hn hp k o5 o6 o7 hk
    have rk : inR k := by
      rw [hk]
      have f9 := hw.1
      split
      · omega
      · rename_i q9
        have f8 := fdL_lt q9
        rw [mLs_len] at f8
        omega
    refine V_iload dX5_work_12 rfl ?_
    refine V_iconst dX5_work_14 ?_
    refine V_icmp_eq (tgt := 148) dX5_work_15 (by decide) (by omega) (by omega) (fun h15 => ?_) (fun h15 => ?_)
    · exact V_vret dX5_work_148 rfl (hp _ (wkM_stop hw (Or.inr (Or.inl (by by_cases q : mLs w o = []; exact q; rw [if_neg q] at hk; omega)))))
    · have hne : mLs w o ≠ [] := fun q => by rw [if_pos q] at hk; exact h15 hk
      rw [if_neg hne] at hk
      have hfl := fdL_lt hne
      rw [mLs_len] at hfl
      have q1 := hw.2.1 k (by omega) (by omega)
      have q0 := hw.1
      refine V_iload_n dX5_work_18 rfl ?_
      refine V_if_le (tgt := 148) dX5_work_19 (by decide) (by omega) (fun h19 => ?_) (fun h19 => ?_)
      · exact V_vret dX5_work_148 rfl (hp _ (wkM_stop hw (Or.inl h19)))
      · refine V_aload_n dX5_work_22 rfl ?_
        refine V_getR (ci := 5) (j := 0) dX5_work_23 s_71 rfl rfl i_X5_work_X5 (by decide) f_X5_work_7 ?_
        refine V_iload_n dX5_work_26 rfl ?_
        refine V_iload dX5_work_27 rfl ?_
        refine V_iconst dX5_work_29 ?_
        refine V_iS3 dX5_work_30 o_X5_work_136 (Nat.le_of_ble_eq_true rfl) (c_X5_placeOf G l) ?_
        rintro _ _ ⟨rfl, rfl⟩
        refine V_top (show o + 15 + 5 * k + 2 = o + 17 + 5 * k by omega) ?_
        refine V_iald dX5_work_33 s_72 (by omega) ?_
        refine V_istore dX5_work_34 (by decide) rfl ?_
        refine V_iload dX5_work_36 rfl ?_
        refine V_iload_n dX5_work_38 rfl ?_
        refine V_icmp_ge (tgt := 47) dX5_work_39 (by decide) (by omega) (by omega) (fun h39 => ?_) (fun h39 => ?_)
        · refine V_iload_n dX5_work_47 rfl ?_
          refine V_top (show left = min left (w 72 (o + 17 + 5 * k)) by omega) ?_
          refine V_istore dX5_work_48 (by decide) rfl ?_
          refine V_iload_n dX5_work_50 rfl ?_
          refine V_iload dX5_work_51 rfl ?_
          refine V_isub dX5_work_53 ?_
          refine V_istore_n dX5_work_54 (by decide) rfl ?_
          refine V_aload_n dX5_work_55 rfl ?_
          refine V_getR (ci := 5) (j := 0) dX5_work_56 s_71 rfl rfl i_X5_work_X5 (by decide) f_X5_work_7 ?_
          refine V_iload_n dX5_work_59 rfl ?_
          refine V_iload dX5_work_60 rfl ?_
          refine V_iconst dX5_work_62 ?_
          refine V_iS3 dX5_work_63 o_X5_work_136 (Nat.le_of_ble_eq_true rfl) (c_X5_placeOf G l) ?_
          rintro _ _ ⟨rfl, rfl⟩
          refine V_top (show o + 15 + 5 * k + 2 = o + 17 + 5 * k by omega) ?_
          refine V_dup2 dX5_work_66 rfl rfl ?_
          refine V_iald dX5_work_67 s_72 (by omega) ?_
          refine V_iload dX5_work_68 rfl ?_
          refine V_isub dX5_work_70 ?_
          refine V_iast dX5_work_71 s_72 (by omega) ?_
          refine V_iload dX5_work_72 rfl ?_
          refine V_iload dX5_work_74 rfl ?_
          refine V_icmp_ne (tgt := 138) dX5_work_76 (by decide) (by omega) (by omega) (fun h76 => ?_) (fun h76 => ?_)
          · have hw1 : okWm (up w 72 (o + 17 + 5 * k) (w 72 (o + 17 + 5 * k) - min left (w 72 (o + 17 + 5 * k)))) o := okWm_part hw (by omega) (by omega)
            refine V_aload_n dX5_work_138 rfl ?_
            refine V_iload_n dX5_work_139 rfl ?_
            first | (have hw3 := hw2) | (have hw3 := hw1)
            refine V_iV1 dX5_work_140 o_X5_work_151 s_71 rfl (Nat.le_of_ble_eq_true rfl) (c_X5_firstDue G l ho hw3.1 (fun i g0 g1 => (hw3.2.1 i g0 g1).2.2.2)) ?_
            rintro z _ ⟨hz, rfl⟩
            have rz : inR z := by
              rw [hz]
              have f9 := hw3.1
              split
              · omega
              · rename_i q9
                have f8 := fdL_lt q9
                rw [mLs_len] at f8
                omega
            refine V_istore dX5_work_143 (by decide) rfl ?_
            refine V_goto (tgt := 12) dX5_work_145 (by decide) ?_
            first
              | (refine ih _ _ hw2 (by omega) ?_ (fun w' h => hp w' (wkM_next h19 hne (wkm_pay hk (by omega) hw (by omega)) ?_ h)) _ _ _ _ hz
                 · rw [mLs_rm (by omega) (by rw [up_ne (by omega), up_ne (by omega)]; omega), mLs_upO (by omega), List.length_eraseIdx_of_lt (by rw [mLs_len, up_ne (by omega)]; omega), mLs_up17 (by omega), List.length_set]; omega
                 · intro k' j' q'; rw [rmM_ne (by omega) (by rw [up_ne (by omega), up_ne (by omega)]; omega) (by omega), up_ne (by omega), up_ne (by omega)])
              | exact x_X5_work G l rz (by omega) (Or.inl (by omega)) (hp _ (wkM_next h19 hne (wkm_part hk (by omega) (by omega)) (fun k' j' q' => up_ne (by omega)) (wkM_stop hw1 (Or.inl (by omega))))) _ _ _
          · have hw1 : okWm (up w 72 (o + 17 + 5 * k) (w 72 (o + 17 + 5 * k) - min left (w 72 (o + 17 + 5 * k)))) o := okWm_part hw (by omega) (by omega)
            have q2 := hw.2.2 (w 72 (o + 15 + 5 * k)) q1.1.1 q1.1.2
            refine V_aload_n dX5_work_79 rfl ?_
            refine V_getR (ci := 5) (j := 0) dX5_work_80 s_71 rfl rfl i_X5_work_X5 (by decide) f_X5_work_7 ?_
            refine V_iload_n dX5_work_83 rfl ?_
            refine V_iload dX5_work_84 rfl ?_
            refine V_iconst dX5_work_86 ?_
            refine V_iS3 dX5_work_87 o_X5_work_136 (Nat.le_of_ble_eq_true rfl) (c_X5_placeOf G l) ?_
            rintro _ _ ⟨rfl, rfl⟩
            refine V_top (show o + 15 + 5 * k + 0 = o + 15 + 5 * k by omega) ?_
            refine V_ialdE (z := w 72 (o + 15 + 5 * k)) dX5_work_90 s_72 (by omega) (up_ne (by omega)) ?_
            refine V_istore dX5_work_91 (by decide) rfl ?_
            refine V_aload_n dX5_work_93 rfl ?_
            refine V_getR (ci := 5) (j := 0) dX5_work_94 s_71 rfl rfl i_X5_work_X5 (by decide) f_X5_work_7 ?_
            refine V_iload_n dX5_work_97 rfl ?_
            refine V_iconst dX5_work_98 ?_
            refine V_iadd dX5_work_99 ?_
            refine V_iload dX5_work_100 rfl ?_
            refine V_iadd dX5_work_102 ?_
            refine V_aload_n dX5_work_103 rfl ?_
            refine V_getR (ci := 5) (j := 0) dX5_work_104 s_71 rfl rfl i_X5_work_X5 (by decide) f_X5_work_7 ?_
            refine V_iload_n dX5_work_107 rfl ?_
            refine V_iconst dX5_work_108 ?_
            refine V_iadd dX5_work_109 ?_
            refine V_iload dX5_work_110 rfl ?_
            refine V_iadd dX5_work_112 ?_
            refine V_ialdE (z := w 72 (o + 2 + w 72 (o + 15 + 5 * k))) dX5_work_113 s_72 (by omega) (up_ne (by omega)) ?_
            refine V_aload_n dX5_work_114 rfl ?_
            refine V_getR (ci := 5) (j := 0) dX5_work_115 s_71 rfl rfl i_X5_work_X5 (by decide) f_X5_work_7 ?_
            refine V_iload_n dX5_work_118 rfl ?_
            refine V_iload dX5_work_119 rfl ?_
            refine V_iconst dX5_work_121 ?_
            refine V_iS3 dX5_work_122 o_X5_work_136 (Nat.le_of_ble_eq_true rfl) (c_X5_placeOf G l) ?_
            rintro _ _ ⟨rfl, rfl⟩
            refine V_top (show o + 15 + 5 * k + 1 = o + 16 + 5 * k by omega) ?_
            refine V_ialdE (z := w 72 (o + 16 + 5 * k)) dX5_work_125 s_72 (by omega) (up_ne (by omega)) ?_
            refine V_iadd dX5_work_126 ?_
            refine V_iS1 dX5_work_127 o_X5_work_154 (Nat.le_of_ble_eq_true rfl) (c_X5_few G l (by omega)) ?_
            rintro _ _ ⟨rfl, rfl⟩
            refine V_iast dX5_work_130 s_72 (by show 0 ≤ _ ∧ _ < (375 : Int); omega) ?_
            refine V_aload_n dX5_work_131 rfl ?_
            refine V_iload_n dX5_work_132 rfl ?_
            refine V_iload dX5_work_133 rfl ?_
            refine V_vV2 dX5_work_135 o_X5_work_157 s_71 rfl (Nat.le_of_ble_eq_true rfl) (c_X5_remove G l ho (by rw [up_ne (by omega), up_ne (by omega)]; exact q0.2) (by rw [up_ne (by omega), up_ne (by omega)]; omega)) ?_
            rintro _ rfl
            have hw2 := okWm_rm (o := o) (r := k) (okWm_has (t := w 72 (o + 15 + 5 * k)) (z := min (w 72 (o + 2 + w 72 (o + 15 + 5 * k)) + w 72 (o + 16 + 5 * k)) 99) hw1 q1.1 (by omega)) (by rw [up_ne (by omega), up_ne (by omega)]; omega)
            refine V_aload_n dX5_work_138 rfl ?_
            refine V_iload_n dX5_work_139 rfl ?_
            first | (have hw3 := hw2) | (have hw3 := hw1)
            refine V_iV1 dX5_work_140 o_X5_work_151 s_71 rfl (Nat.le_of_ble_eq_true rfl) (c_X5_firstDue G l ho hw3.1 (fun i g0 g1 => (hw3.2.1 i g0 g1).2.2.2)) ?_
            rintro z _ ⟨hz, rfl⟩
            have rz : inR z := by
              rw [hz]
              have f9 := hw3.1
              split
              · omega
              · rename_i q9
                have f8 := fdL_lt q9
                rw [mLs_len] at f8
                omega
            refine V_istore dX5_work_143 (by decide) rfl ?_
            refine V_goto (tgt := 12) dX5_work_145 (by decide) ?_
            first
              | (refine ih _ _ hw2 (by omega) ?_ (fun w' h => hp w' (wkM_next h19 hne (wkm_pay hk (by omega) hw (by omega)) ?_ h)) _ _ _ _ hz
                 · rw [mLs_rm (by omega) (by rw [up_ne (by omega), up_ne (by omega)]; omega), mLs_upO (by omega), List.length_eraseIdx_of_lt (by rw [mLs_len, up_ne (by omega)]; omega), mLs_up17 (by omega), List.length_set]; omega
                 · intro k' j' q'; rw [rmM_ne (by omega) (by rw [up_ne (by omega), up_ne (by omega)]; omega) (by omega), up_ne (by omega), up_ne (by omega)])
              | exact x_X5_work G l rz (by omega) (Or.inl (by omega)) (hp _ (wkM_next h19 hne (wkm_part hk (by omega) (by omega)) (fun k' j' q' => up_ne (by omega)) (wkM_stop hw1 (Or.inl (by omega))))) _ _ _
        · refine V_iload dX5_work_42 rfl ?_
          refine V_goto (tgt := 48) dX5_work_44 (by decide) ?_
          refine V_top (show w 72 (o + 17 + 5 * k) = min left (w 72 (o + 17 + 5 * k)) by omega) ?_
          refine V_istore dX5_work_48 (by decide) rfl ?_
          refine V_iload_n dX5_work_50 rfl ?_
          refine V_iload dX5_work_51 rfl ?_
          refine V_isub dX5_work_53 ?_
          refine V_istore_n dX5_work_54 (by decide) rfl ?_
          refine V_aload_n dX5_work_55 rfl ?_
          refine V_getR (ci := 5) (j := 0) dX5_work_56 s_71 rfl rfl i_X5_work_X5 (by decide) f_X5_work_7 ?_
          refine V_iload_n dX5_work_59 rfl ?_
          refine V_iload dX5_work_60 rfl ?_
          refine V_iconst dX5_work_62 ?_
          refine V_iS3 dX5_work_63 o_X5_work_136 (Nat.le_of_ble_eq_true rfl) (c_X5_placeOf G l) ?_
          rintro _ _ ⟨rfl, rfl⟩
          refine V_top (show o + 15 + 5 * k + 2 = o + 17 + 5 * k by omega) ?_
          refine V_dup2 dX5_work_66 rfl rfl ?_
          refine V_iald dX5_work_67 s_72 (by omega) ?_
          refine V_iload dX5_work_68 rfl ?_
          refine V_isub dX5_work_70 ?_
          refine V_iast dX5_work_71 s_72 (by omega) ?_
          refine V_iload dX5_work_72 rfl ?_
          refine V_iload dX5_work_74 rfl ?_
          refine V_icmp_ne (tgt := 138) dX5_work_76 (by decide) (by omega) (by omega) (fun h76 => ?_) (fun h76 => ?_)
          · have hw1 : okWm (up w 72 (o + 17 + 5 * k) (w 72 (o + 17 + 5 * k) - min left (w 72 (o + 17 + 5 * k)))) o := okWm_part hw (by omega) (by omega)
            refine V_aload_n dX5_work_138 rfl ?_
            refine V_iload_n dX5_work_139 rfl ?_
            first | (have hw3 := hw2) | (have hw3 := hw1)
            refine V_iV1 dX5_work_140 o_X5_work_151 s_71 rfl (Nat.le_of_ble_eq_true rfl) (c_X5_firstDue G l ho hw3.1 (fun i g0 g1 => (hw3.2.1 i g0 g1).2.2.2)) ?_
            rintro z _ ⟨hz, rfl⟩
            have rz : inR z := by
              rw [hz]
              have f9 := hw3.1
              split
              · omega
              · rename_i q9
                have f8 := fdL_lt q9
                rw [mLs_len] at f8
                omega
            refine V_istore dX5_work_143 (by decide) rfl ?_
            refine V_goto (tgt := 12) dX5_work_145 (by decide) ?_
            first
              | (refine ih _ _ hw2 (by omega) ?_ (fun w' h => hp w' (wkM_next h19 hne (wkm_pay hk (by omega) hw (by omega)) ?_ h)) _ _ _ _ hz
                 · rw [mLs_rm (by omega) (by rw [up_ne (by omega), up_ne (by omega)]; omega), mLs_upO (by omega), List.length_eraseIdx_of_lt (by rw [mLs_len, up_ne (by omega)]; omega), mLs_up17 (by omega), List.length_set]; omega
                 · intro k' j' q'; rw [rmM_ne (by omega) (by rw [up_ne (by omega), up_ne (by omega)]; omega) (by omega), up_ne (by omega), up_ne (by omega)])
              | exact x_X5_work G l rz (by omega) (Or.inl (by omega)) (hp _ (wkM_next h19 hne (wkm_part hk (by omega) (by omega)) (fun k' j' q' => up_ne (by omega)) (wkM_stop hw1 (Or.inl (by omega))))) _ _ _
          · have hw1 : okWm (up w 72 (o + 17 + 5 * k) (w 72 (o + 17 + 5 * k) - min left (w 72 (o + 17 + 5 * k)))) o := okWm_part hw (by omega) (by omega)
            have q2 := hw.2.2 (w 72 (o + 15 + 5 * k)) q1.1.1 q1.1.2
            refine V_aload_n dX5_work_79 rfl ?_
            refine V_getR (ci := 5) (j := 0) dX5_work_80 s_71 rfl rfl i_X5_work_X5 (by decide) f_X5_work_7 ?_
            refine V_iload_n dX5_work_83 rfl ?_
            refine V_iload dX5_work_84 rfl ?_
            refine V_iconst dX5_work_86 ?_
            refine V_iS3 dX5_work_87 o_X5_work_136 (Nat.le_of_ble_eq_true rfl) (c_X5_placeOf G l) ?_
            rintro _ _ ⟨rfl, rfl⟩
            refine V_top (show o + 15 + 5 * k + 0 = o + 15 + 5 * k by omega) ?_
            refine V_ialdE (z := w 72 (o + 15 + 5 * k)) dX5_work_90 s_72 (by omega) (up_ne (by omega)) ?_
            refine V_istore dX5_work_91 (by decide) rfl ?_
            refine V_aload_n dX5_work_93 rfl ?_
            refine V_getR (ci := 5) (j := 0) dX5_work_94 s_71 rfl rfl i_X5_work_X5 (by decide) f_X5_work_7 ?_
            refine V_iload_n dX5_work_97 rfl ?_
            refine V_iconst dX5_work_98 ?_
            refine V_iadd dX5_work_99 ?_
            refine V_iload dX5_work_100 rfl ?_
            refine V_iadd dX5_work_102 ?_
            refine V_aload_n dX5_work_103 rfl ?_
            refine V_getR (ci := 5) (j := 0) dX5_work_104 s_71 rfl rfl i_X5_work_X5 (by decide) f_X5_work_7 ?_
            refine V_iload_n dX5_work_107 rfl ?_
            refine V_iconst dX5_work_108 ?_
            refine V_iadd dX5_work_109 ?_
            refine V_iload dX5_work_110 rfl ?_
            refine V_iadd dX5_work_112 ?_
            refine V_ialdE (z := w 72 (o + 2 + w 72 (o + 15 + 5 * k))) dX5_work_113 s_72 (by omega) (up_ne (by omega)) ?_
            refine V_aload_n dX5_work_114 rfl ?_
            refine V_getR (ci := 5) (j := 0) dX5_work_115 s_71 rfl rfl i_X5_work_X5 (by decide) f_X5_work_7 ?_
            refine V_iload_n dX5_work_118 rfl ?_
            refine V_iload dX5_work_119 rfl ?_
            refine V_iconst dX5_work_121 ?_
            refine V_iS3 dX5_work_122 o_X5_work_136 (Nat.le_of_ble_eq_true rfl) (c_X5_placeOf G l) ?_
            rintro _ _ ⟨rfl, rfl⟩
            refine V_top (show o + 15 + 5 * k + 1 = o + 16 + 5 * k by omega) ?_
            refine V_ialdE (z := w 72 (o + 16 + 5 * k)) dX5_work_125 s_72 (by omega) (up_ne (by omega)) ?_
            refine V_iadd dX5_work_126 ?_
            refine V_iS1 dX5_work_127 o_X5_work_154 (Nat.le_of_ble_eq_true rfl) (c_X5_few G l (by omega)) ?_
            rintro _ _ ⟨rfl, rfl⟩
            refine V_iast dX5_work_130 s_72 (by show 0 ≤ _ ∧ _ < (375 : Int); omega) ?_
            refine V_aload_n dX5_work_131 rfl ?_
            refine V_iload_n dX5_work_132 rfl ?_
            refine V_iload dX5_work_133 rfl ?_
            refine V_vV2 dX5_work_135 o_X5_work_157 s_71 rfl (Nat.le_of_ble_eq_true rfl) (c_X5_remove G l ho (by rw [up_ne (by omega), up_ne (by omega)]; exact q0.2) (by rw [up_ne (by omega), up_ne (by omega)]; omega)) ?_
            rintro _ rfl
            have hw2 := okWm_rm (o := o) (r := k) (okWm_has (t := w 72 (o + 15 + 5 * k)) (z := min (w 72 (o + 2 + w 72 (o + 15 + 5 * k)) + w 72 (o + 16 + 5 * k)) 99) hw1 q1.1 (by omega)) (by rw [up_ne (by omega), up_ne (by omega)]; omega)
            refine V_aload_n dX5_work_138 rfl ?_
            refine V_iload_n dX5_work_139 rfl ?_
            first | (have hw3 := hw2) | (have hw3 := hw1)
            refine V_iV1 dX5_work_140 o_X5_work_151 s_71 rfl (Nat.le_of_ble_eq_true rfl) (c_X5_firstDue G l ho hw3.1 (fun i g0 g1 => (hw3.2.1 i g0 g1).2.2.2)) ?_
            rintro z _ ⟨hz, rfl⟩
            have rz : inR z := by
              rw [hz]
              have f9 := hw3.1
              split
              · omega
              · rename_i q9
                have f8 := fdL_lt q9
                rw [mLs_len] at f8
                omega
            refine V_istore dX5_work_143 (by decide) rfl ?_
            refine V_goto (tgt := 12) dX5_work_145 (by decide) ?_
            first
              | (refine ih _ _ hw2 (by omega) ?_ (fun w' h => hp w' (wkM_next h19 hne (wkm_pay hk (by omega) hw (by omega)) ?_ h)) _ _ _ _ hz
                 · rw [mLs_rm (by omega) (by rw [up_ne (by omega), up_ne (by omega)]; omega), mLs_upO (by omega), List.length_eraseIdx_of_lt (by rw [mLs_len, up_ne (by omega)]; omega), mLs_up17 (by omega), List.length_set]; omega
                 · intro k' j' q'; rw [rmM_ne (by omega) (by rw [up_ne (by omega), up_ne (by omega)]; omega) (by omega), up_ne (by omega), up_ne (by omega)])
              | exact x_X5_work G l rz (by omega) (Or.inl (by omega)) (hp _ (wkM_next h19 hne (wkm_part hk (by omega) (by omega)) (fun k' j' q' => up_ne (by omega)) (wkM_stop hw1 (Or.inl (by omega))))) _ _ _
set_option maxRecDepth 100000 in
set_option maxHeartbeats 4000000 in
theorem c_X5_work (G : Gb) (l : Launch) {w : Wd} {o v : Int} (ho : 0 ≤ o ∧ o ≤ 300) (hv : 0 ≤ v ∧ v ≤ 99) (hw : okWm w o) : Cv G l yX5_work mX5_work [.ref (gA G 71), .int (iZ o), .int (iZ v)] w (fun w' => wkM o 12 (v * 100) w w') := by
  refine V_start 5 (by decide) rfl rfl (Nat.le_of_ble_eq_true rfl) ?_
  show V G l mX5_work _ 0 [some (.ref (gA G 71)), some (.int (iZ o)), some (.int (iZ v)), none, none, none, none, none] [] w
  refine V_bipush dX5_work_0 rfl ?_
  refine V_iload_n dX5_work_2 rfl ?_
  refine V_imul dX5_work_3 ?_
  refine V_istore_n dX5_work_4 (by decide) rfl ?_
  refine V_aload_n dX5_work_5 rfl ?_
  refine V_iload_n dX5_work_6 rfl ?_
  refine V_iV1 dX5_work_7 o_X5_work_151 s_71 rfl (Nat.le_of_ble_eq_true rfl) (c_X5_firstDue G l (w := w) ho (hw).1 (fun i g0 g1 => ((hw).2.1 i g0 g1).2.2.2)) ?_
  rintro z _ ⟨hz, rfl⟩
  have rz : inR z := by
    rw [hz]
    have f9 := (hw).1
    split
    · omega
    · rename_i q9
      have f8 := fdL_lt q9
      rw [mLs_len] at f8
      omega
  refine V_istore dX5_work_10 (by decide) rfl ?_
  refine l_X5_work G l ho 12 (100 * v) w hw (by omega) (by rw [mLs_len]; have := hw.1; omega) (fun w' h => ?_) _ _ _ _ hz
  rw [Int.mul_comm] at h
  exact h

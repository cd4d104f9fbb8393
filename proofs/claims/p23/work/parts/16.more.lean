/-! ===== 16 State: cross, lend, burn, hand over, begin, copy ===== -/
/-- quarrels -/
def qsC (w : Wd) (d : Nat) : List (Int × Int) := (List.range (w d 6).toNat).map (fun i : Nat => (w (d + 6) (i : Int), w (d + 7) (i : Int)))
def crS (t : Int) (ls : List Ln) : List (Int × Int) → Bool
  | [] => false
  | q :: r => decide (q.1 = t ∧ owL t ls < owL q.2 ls) || (decide (q.2 = t ∧ owL t ls < owL q.1 ls) || crS t ls r)
theorem qsC_drop {w : Wd} {d : Nat} {i : Int} (h0 : 0 ≤ i) (h1 : i < w d 6) : (qsC w d).drop i.toNat = (w (d + 6) i, w (d + 7) i) :: (qsC w d).drop (i + 1).toNat := by
  unfold qsC
  rw [rg_drop _ (by omega : i.toNat < (w d 6).toNat), show (i + 1).toNat = i.toNat + 1 by omega, show ((i.toNat : Nat) : Int) = i by omega]
theorem qsC_end {w : Wd} {d : Nat} {i : Int} (h : w d 6 ≤ i) : (qsC w d).drop i.toNat = [] := by
  apply List.drop_eq_nil_of_le
  simp only [qsC, List.length_map, List.length_range]
  omega
theorem owL_bd (t : Int) : ∀ q : List Ln, (∀ x ∈ q, okLn x) → 0 ≤ owL t q ∧ owL t q ≤ 1000000 * (q.length : Int)
  | [], _ => ⟨Int.le_refl _, Int.le_refl _⟩
  | x :: q, h => by
    have ih := owL_bd t q (fun y hy => h y (List.mem_cons_of_mem _ hy))
    have hx := (h x List.mem_cons_self).2.2.1
    rw [owL, List.length_cons]
    split <;> omega
theorem okC.ow {c : Int} {w : Wd} {b : Nat} (h : okC c w b) (t : Int) : 0 ≤ owL t (cLs w b) ∧ owL t (cLs w b) ≤ 12000000 := by
  have h1 := owL_bd t (cLs w b) h.2.2.2.2.2.2
  have h2 : (cLs w b).length ≤ 12 := h.2.2.2.2.2.1
  omega
theorem oaL_bd : ∀ q : List Ln, (∀ x ∈ q, okLn x) → 0 ≤ oaL q ∧ oaL q ≤ 1000000 * (q.length : Int)
  | [], _ => ⟨Int.le_refl _, Int.le_refl _⟩
  | x :: q, h => by
    have ih := oaL_bd q (fun y hy => h y (List.mem_cons_of_mem _ hy))
    have hx := (h x List.mem_cons_self).2.2.1
    rw [oaL, List.length_cons]
    omega
set_option maxRecDepth 100000 in
set_option maxHeartbeats 4000000 in
theorem l_X1_isCross (G : Gb) (l : Launch) {w : Wd} {b d : Nat} (hb : IsSt b) (hd : IsTd d) {c t : Int} (ht : inR t) (ho : okC c w b) (hT : okT w d) {Post : Int → Wd → Prop} : ∀ (n : Nat) (i : Int), 0 ≤ i → i + n = w d 6 → Post (if crS t (cLs w b) ((qsC w d).drop i.toNat) then 1 else 0) w → V G l mX1_isCross (Qi G Post) 9 [some (.ref (gA G b)), some (.ref (gA G d)), some (.int (iZ t)), some (.int (iZ (owL t (cLs w b)))), some (.int (iZ i))] [] w := by
  have k0 := ho.ow t
  have kq := hT.2.1
  intro n
  induction n with
  | zero =>
    intro i h0 h1 hp
    refine V_iload dX1_isCross_9 rfl ?_
    refine V_aload_n dX1_isCross_11 rfl ?_
    refine V_getI (ci := 3) (j := 6) (ji := 6) dX1_isCross_12 (sTd_0 hd) rfl rfl i_X1_isCross_X3 (by decide) f_X1_isCross_56 rfl ?_
    refine V_icmp_ge (tgt := 80) dX1_isCross_15 (by decide) (by omega) (by omega) (fun h15 => ?_) (fun h15 => ?_)
    · refine V_iconst dX1_isCross_80 ?_
      exact V_zret dX1_isCross_81 rfl (by omega) (by rw [qsC_end (by omega)] at hp; exact hp)
    · exact absurd h15 (by omega)
  | succ n ih =>
    intro i h0 h1 hp
    rw [qsC_drop h0 (by omega)] at hp
    have kk := hT.2.2.2.2 i h0 (by omega)
    refine V_iload dX1_isCross_9 rfl ?_
    refine V_aload_n dX1_isCross_11 rfl ?_
    refine V_getI (ci := 3) (j := 6) (ji := 6) dX1_isCross_12 (sTd_0 hd) rfl rfl i_X1_isCross_X3 (by decide) f_X1_isCross_56 rfl ?_
    refine V_icmp_ge (tgt := 80) dX1_isCross_15 (by decide) (by omega) (by omega) (fun h15 => ?_) (fun h15 => ?_)
    · exact absurd h15 (by omega)
    · refine V_aload_n dX1_isCross_18 rfl ?_
      refine V_getR (ci := 3) (j := 7) dX1_isCross_19 (sTd_0 hd) rfl rfl i_X1_isCross_X3 (by decide) f_X1_isCross_59 ?_
      refine V_iload dX1_isCross_22 rfl ?_
      refine V_iald dX1_isCross_24 (sTd_6 hd) (by omega) ?_
      refine V_iload_n dX1_isCross_25 rfl ?_
      refine V_icmp_ne (tgt := 46) dX1_isCross_26 (by decide) (by omega) (by omega) (fun h26 => ?_) (fun h26 => ?_)
      · refine V_aload_n dX1_isCross_46 rfl ?_
        refine V_getR (ci := 3) (j := 8) dX1_isCross_47 (sTd_0 hd) rfl rfl i_X1_isCross_X3 (by decide) f_X1_isCross_62 ?_
        refine V_iload dX1_isCross_50 rfl ?_
        refine V_iald dX1_isCross_52 (sTd_7 hd) (by omega) ?_
        refine V_iload_n dX1_isCross_53 rfl ?_
        refine V_icmp_ne (tgt := 74) dX1_isCross_54 (by decide) (by omega) (by omega) (fun h54 => ?_) (fun h54 => ?_)
        · refine V_iinc dX1_isCross_74 rfl (by decide) rfl ?_
          refine V_goto (tgt := 9) dX1_isCross_77 (by decide) ?_
          refine ih _ (by omega) (by omega) ?_
          have n1 : ¬ (w (d + 6) i = t ∧ owL t (cLs w b) < owL (w (d + 7) i) (cLs w b)) := by omega
          have n2 : ¬ (w (d + 7) i = t ∧ owL t (cLs w b) < owL (w (d + 6) i) (cLs w b)) := by omega
          rw [crS, decide_eq_false n1, decide_eq_false n2, Bool.false_or, Bool.false_or] at hp
          exact hp
        · refine V_aload_n dX1_isCross_57 rfl ?_
          refine V_aload_n dX1_isCross_58 rfl ?_
          refine V_getR (ci := 3) (j := 7) dX1_isCross_59 (sTd_0 hd) rfl rfl i_X1_isCross_X3 (by decide) f_X1_isCross_59 ?_
          refine V_iload dX1_isCross_62 rfl ?_
          refine V_iald dX1_isCross_64 (sTd_6 hd) (by omega) ?_
          refine V_iV1 dX1_isCross_65 o_X1_isCross_52 (sSt_0 hb) rfl (Nat.le_of_ble_eq_true rfl) (c_X1_owedTo G l hb (by omega) ho.n (fun i g0 g1 => by have q := ho.ln g0 g1; omega)) ?_
          rintro _ _ ⟨rfl, rfl⟩
          have k2 := ho.ow (w (d + 6) i)
          refine V_iload_n dX1_isCross_68 rfl ?_
          refine V_icmp_le (tgt := 74) dX1_isCross_69 (by decide) (by omega) (by omega) (fun h69 => ?_) (fun h69 => ?_)
          · refine V_iinc dX1_isCross_74 rfl (by decide) rfl ?_
            refine V_goto (tgt := 9) dX1_isCross_77 (by decide) ?_
            refine ih _ (by omega) (by omega) ?_
            have n1 : ¬ (w (d + 6) i = t ∧ owL t (cLs w b) < owL (w (d + 7) i) (cLs w b)) := by omega
            have n2 : ¬ (w (d + 7) i = t ∧ owL t (cLs w b) < owL (w (d + 6) i) (cLs w b)) := by omega
            rw [crS, decide_eq_false n1, decide_eq_false n2, Bool.false_or, Bool.false_or] at hp
            exact hp
          · refine V_iconst dX1_isCross_72 ?_
            exact V_zret dX1_isCross_73 rfl (by omega) (by rw [crS, decide_eq_true (show w (d + 7) i = t ∧ owL t (cLs w b) < owL (w (d + 6) i) (cLs w b) from ⟨h54, h69⟩), Bool.true_or, Bool.or_true] at hp; exact hp)
      · refine V_aload_n dX1_isCross_29 rfl ?_
        refine V_aload_n dX1_isCross_30 rfl ?_
        refine V_getR (ci := 3) (j := 8) dX1_isCross_31 (sTd_0 hd) rfl rfl i_X1_isCross_X3 (by decide) f_X1_isCross_62 ?_
        refine V_iload dX1_isCross_34 rfl ?_
        refine V_iald dX1_isCross_36 (sTd_7 hd) (by omega) ?_
        refine V_iV1 dX1_isCross_37 o_X1_isCross_52 (sSt_0 hb) rfl (Nat.le_of_ble_eq_true rfl) (c_X1_owedTo G l hb (by omega) ho.n (fun i g0 g1 => by have q := ho.ln g0 g1; omega)) ?_
        rintro _ _ ⟨rfl, rfl⟩
        have k1 := ho.ow (w (d + 7) i)
        refine V_iload_n dX1_isCross_40 rfl ?_
        refine V_icmp_le (tgt := 46) dX1_isCross_41 (by decide) (by omega) (by omega) (fun h41 => ?_) (fun h41 => ?_)
        · refine V_aload_n dX1_isCross_46 rfl ?_
          refine V_getR (ci := 3) (j := 8) dX1_isCross_47 (sTd_0 hd) rfl rfl i_X1_isCross_X3 (by decide) f_X1_isCross_62 ?_
          refine V_iload dX1_isCross_50 rfl ?_
          refine V_iald dX1_isCross_52 (sTd_7 hd) (by omega) ?_
          refine V_iload_n dX1_isCross_53 rfl ?_
          refine V_icmp_ne (tgt := 74) dX1_isCross_54 (by decide) (by omega) (by omega) (fun h54 => ?_) (fun h54 => ?_)
          · refine V_iinc dX1_isCross_74 rfl (by decide) rfl ?_
            refine V_goto (tgt := 9) dX1_isCross_77 (by decide) ?_
            refine ih _ (by omega) (by omega) ?_
            have n1 : ¬ (w (d + 6) i = t ∧ owL t (cLs w b) < owL (w (d + 7) i) (cLs w b)) := by omega
            have n2 : ¬ (w (d + 7) i = t ∧ owL t (cLs w b) < owL (w (d + 6) i) (cLs w b)) := by omega
            rw [crS, decide_eq_false n1, decide_eq_false n2, Bool.false_or, Bool.false_or] at hp
            exact hp
          · refine V_aload_n dX1_isCross_57 rfl ?_
            refine V_aload_n dX1_isCross_58 rfl ?_
            refine V_getR (ci := 3) (j := 7) dX1_isCross_59 (sTd_0 hd) rfl rfl i_X1_isCross_X3 (by decide) f_X1_isCross_59 ?_
            refine V_iload dX1_isCross_62 rfl ?_
            refine V_iald dX1_isCross_64 (sTd_6 hd) (by omega) ?_
            refine V_iV1 dX1_isCross_65 o_X1_isCross_52 (sSt_0 hb) rfl (Nat.le_of_ble_eq_true rfl) (c_X1_owedTo G l hb (by omega) ho.n (fun i g0 g1 => by have q := ho.ln g0 g1; omega)) ?_
            rintro _ _ ⟨rfl, rfl⟩
            have k2 := ho.ow (w (d + 6) i)
            refine V_iload_n dX1_isCross_68 rfl ?_
            refine V_icmp_le (tgt := 74) dX1_isCross_69 (by decide) (by omega) (by omega) (fun h69 => ?_) (fun h69 => ?_)
            · refine V_iinc dX1_isCross_74 rfl (by decide) rfl ?_
              refine V_goto (tgt := 9) dX1_isCross_77 (by decide) ?_
              refine ih _ (by omega) (by omega) ?_
              have n1 : ¬ (w (d + 6) i = t ∧ owL t (cLs w b) < owL (w (d + 7) i) (cLs w b)) := by omega
              have n2 : ¬ (w (d + 7) i = t ∧ owL t (cLs w b) < owL (w (d + 6) i) (cLs w b)) := by omega
              rw [crS, decide_eq_false n1, decide_eq_false n2, Bool.false_or, Bool.false_or] at hp
              exact hp
            · refine V_iconst dX1_isCross_72 ?_
              exact V_zret dX1_isCross_73 rfl (by omega) (by rw [crS, decide_eq_true (show w (d + 7) i = t ∧ owL t (cLs w b) < owL (w (d + 6) i) (cLs w b) from ⟨h54, h69⟩), Bool.true_or, Bool.or_true] at hp; exact hp)
        · refine V_iconst dX1_isCross_44 ?_
          exact V_zret dX1_isCross_45 rfl (by omega) (by rw [crS, decide_eq_true (show w (d + 6) i = t ∧ owL t (cLs w b) < owL (w (d + 7) i) (cLs w b) from ⟨h26, h41⟩)] at hp; exact hp)
set_option maxRecDepth 100000 in
set_option maxHeartbeats 4000000 in
theorem c_X1_isCross (G : Gb) (l : Launch) {w : Wd} {b d : Nat} (hb : IsSt b) (hd : IsTd d) {c t : Int} (ht : inR t) (ho : okC c w b) (hT : okT w d) : Ci G l yX1_isCross mX1_isCross [.ref (gA G b), .ref (gA G d), .int (iZ t)] w (fun z w' => z = (if crS t (cLs w b) (qsC w d) then 1 else 0) ∧ w = w') := by
  refine V_start 2 (by decide) rfl rfl (Nat.le_of_ble_eq_true rfl) ?_
  show V G l mX1_isCross _ 0 [some (.ref (gA G b)), some (.ref (gA G d)), some (.int (iZ t)), none, none] [] w
  have kq := hT.2.1
  refine V_aload_n dX1_isCross_0 rfl ?_
  refine V_iload_n dX1_isCross_1 rfl ?_
  refine V_iV1 dX1_isCross_2 o_X1_isCross_52 (sSt_0 hb) rfl (Nat.le_of_ble_eq_true rfl) (c_X1_owedTo G l hb (by omega) ho.n (fun i g0 g1 => by have q := ho.ln g0 g1; omega)) ?_
  rintro _ _ ⟨rfl, rfl⟩
  refine V_istore_n dX1_isCross_5 (by decide) rfl ?_
  refine V_iconst dX1_isCross_6 ?_
  refine V_istore dX1_isCross_7 (by decide) rfl ?_
  exact l_X1_isCross G l hb hd ht ho hT (w d 6).toNat 0 (by omega) (by omega) ⟨rfl, rfl⟩
/-- it lends: neither burnt nor sold nor cross -/
def ldS (t : Int) (fate : Int) (ls : List Ln) (Q : List (Int × Int)) : Bool := decide (fate = 0) && !crS t ls Q
set_option maxRecDepth 100000 in
set_option maxHeartbeats 4000000 in
theorem c_X1_lends (G : Gb) (l : Launch) {w : Wd} {b d : Nat} (hb : IsSt b) (hd : IsTd d) {c t : Int} (ht : 0 ≤ t ∧ t < 6) (ho : okC c w b) (hT : okT w d) : Ci G l yX1_lends mX1_lends [.ref (gA G b), .ref (gA G d), .int (iZ t)] w (fun z w' => z = (if ldS t (w (b + 2) t) (cLs w b) (qsC w d) then 1 else 0) ∧ w = w') := by
  refine V_start 0 (by decide) rfl rfl (Nat.le_of_ble_eq_true rfl) ?_
  show V G l mX1_lends _ 0 [some (.ref (gA G b)), some (.ref (gA G d)), some (.int (iZ t))] [] w
  have kf := ho.fate ht.1 ht.2
  refine V_aload_n dX1_lends_0 rfl ?_
  refine V_getR (ci := 1) (j := 2) dX1_lends_1 (sSt_0 hb) rfl rfl i_X1_lends_X1 (by decide) f_X1_lends_15 ?_
  refine V_iload_n dX1_lends_4 rfl ?_
  refine V_iald dX1_lends_5 (sSt_2 hb) (by omega) ?_
  refine V_if_ne (tgt := 22) dX1_lends_6 (by decide) (by omega) (fun h6 => ?_) (fun h6 => ?_)
  · refine V_iconst dX1_lends_22 ?_
    exact V_zret dX1_lends_23 rfl (by omega) ⟨by unfold ldS; (try rw [hz] at h15); (cases hc : crS t (cLs w b) (qsC w d)) <;> simp_all, rfl⟩
  · refine V_aload_n dX1_lends_9 rfl ?_
    refine V_aload_n dX1_lends_10 rfl ?_
    refine V_iload_n dX1_lends_11 rfl ?_
    refine V_iV2 dX1_lends_12 o_X1_lends_65 (sSt_0 hb) rfl (Nat.le_of_ble_eq_true rfl) (c_X1_isCross G l hb hd (by omega) ho hT) ?_
    rintro z _ ⟨hz, rfl⟩
    have hz2 : z = 0 ∨ z = 1 := by rw [hz]; split <;> simp
    refine V_if_ne (tgt := 22) dX1_lends_15 (by decide) (by omega) (fun h15 => ?_) (fun h15 => ?_)
    · refine V_iconst dX1_lends_22 ?_
      exact V_zret dX1_lends_23 rfl (by omega) ⟨by unfold ldS; (try rw [hz] at h15); (cases hc : crS t (cLs w b) (qsC w d)) <;> simp_all, rfl⟩
    · refine V_iconst dX1_lends_18 ?_
      refine V_goto (tgt := 23) dX1_lends_19 (by decide) ?_
      exact V_zret dX1_lends_23 rfl (by omega) ⟨by unfold ldS; (try rw [hz] at h15); (cases hc : crS t (cLs w b) (qsC w d)) <;> simp_all, rfl⟩
/-- a loan more -/
def lnS (t n due : Int) (a : AS) : AS := (a.1, a.2.1, a.2.2.1.set t.toNat (a.2.2.1.getD t.toNat 0 - n), a.2.2.2.1, a.2.2.2.2 ++ [(t, n, 100 * n, due, 0)])
def lnW (w : Wd) (b : Nat) (t n due : Int) : Wd := up (up (up (up (up (up (up w (b + 3) (w b 3) t) (b + 4) (w b 3) n) (b + 5) (w b 3) (100 * n)) (b + 6) (w b 3) due) (b + 7) (w b 3) 0) (b + 1) t (w (b + 1) t - n)) b 3 (w b 3 + 1)
theorem lnW_ne {w : Wd} {b k : Nat} {t n due j : Int} (h : k < b ∨ b + 7 < k ∨ k = b + 2 ∨ (k = b ∧ j ≠ 3) ∨ (k = b + 1 ∧ j ≠ t) ∨ (b + 3 ≤ k ∧ j ≠ w b 3)) : lnW w b t n due k j = w k j := by
  unfold lnW
  rw [up_ne (by omega), up_ne (by omega), up_ne (by omega), up_ne (by omega), up_ne (by omega), up_ne (by omega), up_ne (by omega)]
theorem cAS_ln {w : Wd} {b : Nat} {t n due : Int} (h : 0 ≤ w b 3) (ht : 0 ≤ t ∧ t < 6) : cAS (lnW w b t n due) b = lnS t n due (cAS w b) := by
  have e3 : lnW w b t n due b 3 = w b 3 + 1 := by unfold lnW; rw [up_eq]
  have eL : cLs (lnW w b t n due) b = cLs w b ++ [(t, n, 100 * n, due, 0)] := by
    apply List.ext_getElem?
    intro i
    by_cases hi : i < (w b 3).toNat
    · rw [List.getElem?_append_left (by rw [cLs_len]; exact hi), cLs_some hi, cLs_some (by rw [e3]; omega)]
      unfold cLn
      rw [lnW_ne (by omega), lnW_ne (by omega), lnW_ne (by omega), lnW_ne (by omega), lnW_ne (by omega)]
    · rw [List.getElem?_append_right (by rw [cLs_len]; omega), cLs_len]
      by_cases hi2 : i = (w b 3).toNat
      · subst hi2
        rw [cLs_some (by rw [e3]; omega), Nat.sub_self]
        unfold cLn
        rw [show (((w b 3).toNat : Nat) : Int) = w b 3 by omega]
        unfold lnW
        rw [up_ne (Or.inl (by omega)), up_ne (Or.inl (by omega)), up_ne (Or.inl (by omega)), up_ne (Or.inl (by omega)), up_ne (Or.inl (by omega)), up_ne (Or.inl (by omega)), up_eq]
        rw [up_ne (Or.inl (by omega)), up_ne (Or.inl (by omega)), up_ne (Or.inl (by omega)), up_ne (Or.inl (by omega)), up_ne (Or.inl (by omega)), up_eq]
        rw [up_ne (Or.inl (by omega)), up_ne (Or.inl (by omega)), up_ne (Or.inl (by omega)), up_ne (Or.inl (by omega)), up_eq]
        rw [up_ne (Or.inl (by omega)), up_ne (Or.inl (by omega)), up_ne (Or.inl (by omega)), up_eq]
        rw [up_ne (Or.inl (by omega)), up_ne (Or.inl (by omega)), up_eq]
        rfl
      · rw [cLs_none (by rw [e3]; omega), List.getElem?_eq_none (by simp; omega)]
  have eH : gl (lnW w b t n due) (b + 1) 0 6 = (gl w (b + 1) 0 6).set t.toNat (w (b + 1) t - n) := by
    rw [← gl_set ht.1]
    apply gl_eq
    intro i g0 g1
    by_cases e : i = t
    · subst e
      unfold lnW
      rw [up_ne (Or.inl (by omega)), Int.zero_add, up_eq, up_eq]
    · rw [lnW_ne (by omega), up_ne (Or.inr (by omega))]
  have eF : gl (lnW w b t n due) (b + 2) 0 6 = gl w (b + 2) 0 6 := gl_eq (fun i _ _ => lnW_ne (by omega))
  unfold cAS lnS
  dsimp only
  rw [eL, eH, eF, lnW_ne (by omega), lnW_ne (by omega), gl_D ht.1 ht.2, Int.zero_add]
theorem lnS_ok {c t n due : Int} {a : AS} (h : okAS c a) (ht : 0 ≤ t ∧ t < 6) (hn : 1 ≤ n ∧ n ≤ 99) (hh : n ≤ a.2.2.1.getD t.toNat 0) (hd : 0 ≤ due ∧ due ≤ 20000) (hl : a.2.2.2.2.length < 12) : okAS (c + 1) (lnS t n due a) := by
  obtain ⟨h1, h2, h3, h4, h5, h6⟩ := h
  refine ⟨h1, ?_, ⟨by simpa [lnS] using h3.1, fun x hx => ?_⟩, h4, ?_, fun x hx => ?_⟩
  · show 0 ≤ a.2.1 ∧ a.2.1 + (((a.2.2.2.2 ++ [(t, n, 100 * n, due, 0)]).countP (fun x : Ln => decide (x.2.2.2.2 = 0)) : Nat) : Int) ≤ c + 1
    rw [List.countP_append]
    have : List.countP (fun x : Ln => decide (x.2.2.2.2 = 0)) [(t, n, 100 * n, due, 0)] = 1 := rfl
    omega
  · rcases List.mem_or_eq_of_mem_set hx with h | h
    · exact h3.2 x h
    · have hm := h3.2 _ (getD_mem (L := a.2.2.1) (i := t.toNat) (by have := h3.1; omega))
      omega
  · show (a.2.2.2.2 ++ [(t, n, 100 * n, due, 0)]).length ≤ 12
    simp only [List.length_append, List.length_cons, List.length_nil]
    omega
  · rcases List.mem_append.mp hx with h | h
    · exact h6 x h
    · rw [List.mem_singleton.mp h]
      exact ⟨ht, hn, by dsimp only; omega, hd, Or.inl rfl⟩
set_option maxRecDepth 100000 in
set_option maxHeartbeats 4000000 in
theorem c_X1_lend (G : Gb) (l : Launch) {w : Wd} {b d : Nat} (hb : IsSt b) (hd : IsTd d) {c t n : Int} (ht : 0 ≤ t ∧ t < 6) (ho : okC c w b) (hT : okT w d) (hN : w b 3 < 12) : Ci G l yX1_lend mX1_lend [.ref (gA G b), .ref (gA G d), .int (iZ t), .int (iZ n)] w (fun z w' => z = w b 3 ∧ w' = lnW w b t n (if w (d + 1) t = 1 then w b 0 + 1 else w b 0 + w (d + 4) t)) := by
  refine V_start 1 (by decide) rfl rfl (Nat.le_of_ble_eq_true rfl) ?_
  show V G l mX1_lend _ 0 [some (.ref (gA G b)), some (.ref (gA G d)), some (.int (iZ t)), some (.int (iZ n)), none] [] w
  have k0 := ho.n
  have k1 := hT.2.2.2.1 t ht.1 ht.2
  generalize hu : up (up (up w (b + 3) (w b 3) t) (b + 4) (w b 3) n) (b + 5) (w b 3) (100 * n) = u
  have gu : ∀ (k : Nat) (j : Int), (k < b + 3 ∨ b + 5 < k) → u k j = w k j := by
    intro k j q
    rw [← hu, up_ne (by omega), up_ne (by omega), up_ne (by omega)]
  refine V_aload_n dX1_lend_0 rfl ?_
  refine V_getI (ci := 1) (j := 3) (ji := 3) dX1_lend_1 (sSt_0 hb) rfl rfl i_X1_lend_X1 (by decide) f_X1_lend_37 rfl ?_
  refine V_istore dX1_lend_4 (by decide) rfl ?_
  refine V_aload_n dX1_lend_6 rfl ?_
  refine V_getR (ci := 1) (j := 4) dX1_lend_7 (sSt_0 hb) rfl rfl i_X1_lend_X1 (by decide) f_X1_lend_18 ?_
  refine V_iload dX1_lend_10 rfl ?_
  refine V_iload_n dX1_lend_12 rfl ?_
  refine V_iast dX1_lend_13 (sSt_3 hb) (by omega) ?_
  refine V_aload_n dX1_lend_14 rfl ?_
  refine V_getR (ci := 1) (j := 5) dX1_lend_15 (sSt_0 hb) rfl rfl i_X1_lend_X1 (by decide) f_X1_lend_21 ?_
  refine V_iload dX1_lend_18 rfl ?_
  refine V_iload_n dX1_lend_20 rfl ?_
  refine V_iast dX1_lend_21 (sSt_4 hb) (by omega) ?_
  refine V_aload_n dX1_lend_22 rfl ?_
  refine V_getR (ci := 1) (j := 6) dX1_lend_23 (sSt_0 hb) rfl rfl i_X1_lend_X1 (by decide) f_X1_lend_24 ?_
  refine V_iload dX1_lend_26 rfl ?_
  refine V_bipush dX1_lend_28 rfl ?_
  refine V_iload_n dX1_lend_30 rfl ?_
  refine V_imul dX1_lend_31 ?_
  refine V_iast dX1_lend_32 (sSt_5 hb) (by omega) ?_
  rw [hu]
  refine V_aload_n dX1_lend_33 rfl ?_
  refine V_getR (ci := 1) (j := 7) dX1_lend_34 (sSt_0 hb) rfl rfl i_X1_lend_X1 (by decide) f_X1_lend_27 ?_
  refine V_iload dX1_lend_37 rfl ?_
  refine V_aload_n dX1_lend_39 rfl ?_
  refine V_iload_n dX1_lend_40 rfl ?_
  refine V_aload_n dX1_lend_41 rfl ?_
  refine V_getIE (ci := 1) (j := 0) (ji := 0) (z := w b 0) dX1_lend_42 (sSt_0 hb) rfl rfl i_X1_lend_X1 (by decide) f_X1_lend_33 rfl (gu _ _ (by omega)) ?_
  refine V_iV2 dX1_lend_45 o_X1_lend_69 (sTd_0 hd) rfl (Nat.le_of_ble_eq_true rfl) (c_X3_dueOf G l hd (w := u) ht (by rw [gu _ _ (by omega)]; omega)) ?_
  rintro _ _ ⟨rfl, rfl⟩
  rw [gu (d + 1) t (by omega), gu (d + 4) t (by omega)]
  refine V_iast dX1_lend_48 (sSt_6 hb) (by omega) ?_
  refine V_aload_n dX1_lend_49 rfl ?_
  refine V_getR (ci := 1) (j := 8) dX1_lend_50 (sSt_0 hb) rfl rfl i_X1_lend_X1 (by decide) f_X1_lend_30 ?_
  refine V_iload dX1_lend_53 rfl ?_
  refine V_iconst dX1_lend_55 ?_
  refine V_iast dX1_lend_56 (sSt_7 hb) (by omega) ?_
  refine V_aload_n dX1_lend_57 rfl ?_
  refine V_getR (ci := 1) (j := 1) dX1_lend_58 (sSt_0 hb) rfl rfl i_X1_lend_X1 (by decide) f_X1_lend_9 ?_
  refine V_iload_n dX1_lend_61 rfl ?_
  refine V_dup2 dX1_lend_62 rfl rfl ?_
  refine V_ialdE (z := w (b + 1) t) dX1_lend_63 (sSt_1 hb) (by omega) (by rw [up_ne (by omega), up_ne (by omega), gu _ _ (by omega)]) ?_
  refine V_iload_n dX1_lend_64 rfl ?_
  refine V_isub dX1_lend_65 ?_
  refine V_iast dX1_lend_66 (sSt_1 hb) (by omega) ?_
  refine V_aload_n dX1_lend_67 rfl ?_
  refine V_dup dX1_lend_68 rfl ?_
  refine V_getIE (ci := 1) (j := 3) (ji := 3) (z := w b 3) dX1_lend_69 (sSt_0 hb) rfl rfl i_X1_lend_X1 (by decide) f_X1_lend_37 rfl (by rw [up_ne (by omega), up_ne (by omega), up_ne (by omega), gu _ _ (by omega)]) ?_
  refine V_iconst dX1_lend_72 ?_
  refine V_iadd dX1_lend_73 ?_
  refine V_putI (ci := 1) (j := 3) (ji := 3) dX1_lend_74 (sSt_0 hb) rfl rfl i_X1_lend_X1 tyX1_ok nmX1 (by decide) f_X1_lend_37 rfl rfl rfl ?_
  refine V_iload dX1_lend_77 rfl ?_
  exact V_iret dX1_lend_79 rfl ⟨rfl, by rw [← hu]; rfl⟩
/-- the loans of a tree go -/
def roR (b : Nat) (t : Int) (n : Nat) (w w' : Wd) : Prop := (0 ≤ w' b 3 ∧ w' b 3 ≤ 12) ∧ cLs w' b = ((cLs w b).take n).filter (fun x => decide (x.1 ≠ t)) ++ (cLs w b).drop n ∧ ∀ (k : Nat) (j : Int), (k < b + 3 ∨ b + 7 < k) → (k ≠ b ∨ j ≠ 3) → w' k j = w k j
theorem roR_no {b n : Nat} {t : Int} {w w' : Wd} {x : Ln} (hx : (cLs w b)[n]? = some x) (hn : x.1 ≠ t) (h : roR b t n w w') : roR b t (n + 1) w w' := by
  obtain ⟨h1, h2, h3⟩ := h
  refine ⟨h1, ?_, h3⟩
  have hl := (List.getElem?_eq_some_iff.mp hx).1
  rw [h2, List.take_succ, hx, List.filter_append, List.drop_eq_getElem_cons hl]
  have hx2 : (cLs w b)[n] = x := (List.getElem?_eq_some_iff.mp hx).2
  rw [hx2]
  simp [hn]
theorem roR_yes {b n : Nat} {t : Int} {w w' : Wd} {x : Ln} (hx : (cLs w b)[n]? = some x) (hn : x.1 = t) (h0 : 0 ≤ w b 3) (h : roR b t n (rmS w b (n : Int)) w') : roR b t (n + 1) w w' := by
  obtain ⟨h1, h2, h3⟩ := h
  have hl := (List.getElem?_eq_some_iff.mp hx).1
  have hl2 := hl
  rw [cLs_len] at hl2
  refine ⟨h1, ?_, fun k j q1 q2 => (h3 k j q1 q2).trans (rmS_ne q1 q2)⟩
  rw [h2, cLs_rm (by omega) (by omega), show ((n : Int)).toNat = n by omega]
  have e1 : ((cLs w b).eraseIdx n).take n = (cLs w b).take n := by
    apply List.ext_getElem?
    intro i
    rw [List.getElem?_take, List.getElem?_take]
    split
    · rw [List.getElem?_eraseIdx, if_pos (by assumption)]
    · rfl
  have e2 : ((cLs w b).eraseIdx n).drop n = (cLs w b).drop (n + 1) := by
    apply List.ext_getElem?
    intro i
    rw [List.getElem?_drop, List.getElem?_drop, List.getElem?_eraseIdx, if_neg (by omega)]
    congr 1
    omega
  rw [e1, e2, List.take_succ, hx, List.filter_append]
  simp [hn]
set_option maxRecDepth 100000 in
set_option maxHeartbeats 4000000 in
theorem l_X1_removeLoansOf (G : Gb) (l : Launch) {b : Nat} (hb : IsSt b) {t : Int} (ht : inR t) {Post : Wd → Prop} : ∀ (n : Nat) (i : Int) (w : Wd), i + 1 = n → (0 ≤ w b 3 ∧ w b 3 ≤ 12) → n ≤ w b 3 → (∀ j : Int, 0 ≤ j → j < n → inR (w (b + 3) j)) → (∀ w', roR b t n w w' → Post w') → V G l mX1_removeLoansOf (Qv G Post) 7 [some (.ref (gA G b)), some (.int (iZ t)), some (.int (iZ i))] [] w := by
  intro n
  induction n with
  | zero =>
    intro i w h0 hw h1 hs hp
    refine V_iload_n dX1_removeLoansOf_7 rfl ?_
    refine V_if_lt (tgt := 32) dX1_removeLoansOf_8 (by decide) (by omega) (fun h8 => ?_) (fun h8 => ?_)
    · exact V_vret dX1_removeLoansOf_32 rfl (hp _ ⟨hw, rfl, fun _ _ _ _ => rfl⟩)
    · exact absurd h8 (by omega)
  | succ n ih =>
    intro i w h0 hw h1 hs hp
    have q1 := hs i (by omega) (by omega)
    have hx := cLs_at (w := w) (b := b) (i := i) (by omega) (by omega)
    rw [show i.toNat = n by omega] at hx
    refine V_iload_n dX1_removeLoansOf_7 rfl ?_
    refine V_if_lt (tgt := 32) dX1_removeLoansOf_8 (by decide) (by omega) (fun h8 => ?_) (fun h8 => ?_)
    · exact absurd h8 (by omega)
    · refine V_aload_n dX1_removeLoansOf_11 rfl ?_
      refine V_getR (ci := 1) (j := 4) dX1_removeLoansOf_12 (sSt_0 hb) rfl rfl i_X1_removeLoansOf_X1 (by decide) f_X1_removeLoansOf_18 ?_
      refine V_iload_n dX1_removeLoansOf_15 rfl ?_
      refine V_iald dX1_removeLoansOf_16 (sSt_3 hb) (by omega) ?_
      refine V_iload_n dX1_removeLoansOf_17 rfl ?_
      refine V_icmp_ne (tgt := 26) dX1_removeLoansOf_18 (by decide) (by omega) (by omega) (fun h18 => ?_) (fun h18 => ?_)
      · refine V_iinc dX1_removeLoansOf_26 rfl (by decide) rfl ?_
        refine V_goto (tgt := 7) dX1_removeLoansOf_29 (by decide) ?_
        first
          | exact ih _ _ (by omega) hw (by omega) (fun j g0 g1 => hs j g0 (by omega)) (fun w' h => hp w' (roR_no hx h18 h))
          | exact ih _ _ (by omega) (by unfold rmS; rw [up_eq]; omega) (by unfold rmS; rw [up_eq]; omega) (fun j g0 g1 => by unfold rmS swS; rw [up_ne (Or.inl (by omega)), if_neg (by omega)]; exact hs j g0 (by omega)) (fun w' h => hp w' (roR_yes hx h18 hw.1 (by rw [show ((n : Nat) : Int) = i by omega]; exact h)))
      · refine V_aload_n dX1_removeLoansOf_21 rfl ?_
        refine V_iload_n dX1_removeLoansOf_22 rfl ?_
        refine V_vV1 dX1_removeLoansOf_23 o_X1_removeLoansOf_101 (sSt_0 hb) rfl (Nat.le_of_ble_eq_true rfl) (c_X1_removeLoan G l hb hw.2 (by omega)) ?_
        rintro _ rfl
        refine V_iinc dX1_removeLoansOf_26 rfl (by decide) rfl ?_
        refine V_goto (tgt := 7) dX1_removeLoansOf_29 (by decide) ?_
        first
          | exact ih _ _ (by omega) hw (by omega) (fun j g0 g1 => hs j g0 (by omega)) (fun w' h => hp w' (roR_no hx h18 h))
          | exact ih _ _ (by omega) (by unfold rmS; rw [up_eq]; omega) (by unfold rmS; rw [up_eq]; omega) (fun j g0 g1 => by unfold rmS swS; rw [up_ne (Or.inl (by omega)), if_neg (by omega)]; exact hs j g0 (by omega)) (fun w' h => hp w' (roR_yes hx h18 hw.1 (by rw [show ((n : Nat) : Int) = i by omega]; exact h)))
set_option maxRecDepth 100000 in
set_option maxHeartbeats 4000000 in
theorem c_X1_removeLoansOf (G : Gb) (l : Launch) {w : Wd} {b : Nat} (hb : IsSt b) {t : Int} (ht : inR t) (hn : 0 ≤ w b 3 ∧ w b 3 ≤ 12) (hs : ∀ j : Int, 0 ≤ j → j < w b 3 → inR (w (b + 3) j)) : Cv G l yX1_removeLoansOf mX1_removeLoansOf [.ref (gA G b), .int (iZ t)] w (fun w' => roR b t (w b 3).toNat w w') := by
  refine V_start 1 (by decide) rfl rfl (Nat.le_of_ble_eq_true rfl) ?_
  show V G l mX1_removeLoansOf _ 0 [some (.ref (gA G b)), some (.int (iZ t)), none] [] w
  refine V_aload_n dX1_removeLoansOf_0 rfl ?_
  refine V_getI (ci := 1) (j := 3) (ji := 3) dX1_removeLoansOf_1 (sSt_0 hb) rfl rfl i_X1_removeLoansOf_X1 (by decide) f_X1_removeLoansOf_37 rfl ?_
  refine V_iconst dX1_removeLoansOf_4 ?_
  refine V_isub dX1_removeLoansOf_5 ?_
  refine V_istore_n dX1_removeLoansOf_6 (by decide) rfl ?_
  exact l_X1_removeLoansOf G l hb ht (w b 3).toNat _ w (by omega) hn (by omega) (fun j g0 g1 => hs j g0 (by omega)) (fun _ h => h)

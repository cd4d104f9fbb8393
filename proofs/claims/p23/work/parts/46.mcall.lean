/-! ===== 46 the reference's calls: borrow, days, fire, sell ===== -/
def lnM (w : Wd) (o t n due : Int) : Wd := up (up (up (up (up (up (up w 72 (o + 15 + 5 * w 72 (o + 14)) t) 72 (o + 16 + 5 * w 72 (o + 14)) n) 72 (o + 17 + 5 * w 72 (o + 14)) (100 * n)) 72 (o + 18 + 5 * w 72 (o + 14)) due) 72 (o + 19 + 5 * w 72 (o + 14)) 0) 72 (o + 2 + t) (w 72 (o + 2 + t) - n)) 72 (o + 14) (w 72 (o + 14) + 1)
theorem lnM_ne {w : Wd} {o t n due : Int} {k : Nat} {j : Int} (h : k ≠ 72 ∨ (j ≠ o + 14 ∧ j ≠ o + 2 + t ∧ (j < o + 15 + 5 * w 72 (o + 14) ∨ o + 20 + 5 * w 72 (o + 14) ≤ j))) : lnM w o t n due k j = w k j := by
  unfold lnM
  rw [up_ne (by omega), up_ne (by omega), up_ne (by omega), up_ne (by omega), up_ne (by omega), up_ne (by omega), up_ne (by omega)]
theorem mAS_ln {w : Wd} {o t n due : Int} (h : 0 ≤ w 72 (o + 14)) (ht : 0 ≤ t ∧ t < 6) : mAS (lnM w o t n due) o = lnS t n due (mAS w o) := by
  have e3 : lnM w o t n due 72 (o + 14) = w 72 (o + 14) + 1 := by unfold lnM; rw [up_eq]
  have eL : mLs (lnM w o t n due) o = mLs w o ++ [(t, n, 100 * n, due, 0)] := by
    apply List.ext_getElem?
    intro i
    by_cases hi : i < (w 72 (o + 14)).toNat
    · rw [List.getElem?_append_left (by rw [mLs_len]; exact hi), mLs_some hi, mLs_some (by rw [e3]; omega)]
      unfold mLn
      rw [lnM_ne (by omega), lnM_ne (by omega), lnM_ne (by omega), lnM_ne (by omega), lnM_ne (by omega)]
    · rw [List.getElem?_append_right (by rw [mLs_len]; omega), mLs_len]
      by_cases hi2 : i = (w 72 (o + 14)).toNat
      · subst hi2
        rw [mLs_some (by rw [e3]; omega), Nat.sub_self]
        unfold mLn
        rw [show (((w 72 (o + 14)).toNat : Nat) : Int) = w 72 (o + 14) by omega]
        unfold lnM
        generalize w 72 (o + 14) = N at h ⊢
        rw [up_ne (Or.inr (by omega)), up_ne (Or.inr (by omega)), up_ne (Or.inr (by omega)), up_ne (Or.inr (by omega)), up_ne (Or.inr (by omega)), up_ne (Or.inr (by omega)), up_eq]
        rw [up_ne (Or.inr (by omega)), up_ne (Or.inr (by omega)), up_ne (Or.inr (by omega)), up_ne (Or.inr (by omega)), up_ne (Or.inr (by omega)), up_eq]
        rw [up_ne (Or.inr (by omega)), up_ne (Or.inr (by omega)), up_ne (Or.inr (by omega)), up_ne (Or.inr (by omega)), up_eq]
        rw [up_ne (Or.inr (by omega)), up_ne (Or.inr (by omega)), up_ne (Or.inr (by omega)), up_eq]
        rw [up_ne (Or.inr (by omega)), up_ne (Or.inr (by omega)), up_eq]
        rfl
      · rw [mLs_none (by rw [e3]; omega), List.getElem?_eq_none (by simp; omega)]
  have eH : gl (lnM w o t n due) 72 (o + 2) 6 = (gl w 72 (o + 2) 6).set t.toNat (w 72 (o + 2 + t) - n) := by
    rw [← gl_set ht.1]
    apply gl_eq
    intro i g0 g1
    by_cases e : i = t
    · subst e
      unfold lnM
      rw [up_ne (Or.inr (by omega)), up_eq, up_eq]
    · rw [lnM_ne (by omega), up_ne (Or.inr (by omega))]
  have eF : gl (lnM w o t n due) 72 (o + 8) 6 = gl w 72 (o + 8) 6 := gl_eq (fun i _ _ => lnM_ne (by omega))
  unfold mAS lnS
  dsimp only
  rw [eL, eH, eF, lnM_ne (by omega), lnM_ne (by omega), gl_D ht.1 ht.2]
theorem boM_ok {c : Int} {σ : SG} {w : Wd} {i n z due : Int} (h : SM c σ w) (y : hasS σ.2.1 i) (hn : 1 ≤ n ∧ n ≤ 99) (hh : n ≤ σ.2.2.1.2.2.1.getD i.toNat 0) (hl : ((σ.2.2.1.2.2.2.2.length : Nat) : Int) < 12) (hz : z = w 72 14) (hdue : due = dueS σ.2.1 σ.2.2.1 i) :
    z = ((σ.2.2.1.2.2.2.2.length : Nat) : Int) ∧ SM (c + 1) (σ.1, σ.2.1, lnS i n (dueS σ.2.1 σ.2.2.1 i) σ.2.2.1, σ.2.2.2) (lnM w 0 i n due) ∧ frM w (lnM w 0 i n due) := by
  have hT := h.2.1.2.1
  have hO := h.2.2.1.2.1
  have kt := hT.1
  have eN := h.tN
  have y1 := y.1
  have y2 := y.2
  have kk := hT.2.2.2.1 i y1 (by omega)
  have kn := hO.n
  have eL := h.aN
  have hdu : 0 ≤ due ∧ due ≤ 20000 := by
    rw [hdue]
    unfold dueS
    rw [← h.aD, ← h.tT y1 (by omega)]
    have k0 := hO.day
    have k9 := h.2.2.1.2.2
    split <;> omega
  rw [hdue] at hdu ⊢
  have hA := mAS_ln (w := w) (o := 0) (t := i) (n := n) (due := dueS σ.2.1 σ.2.2.1 i) hO.1 ⟨y1, by omega⟩
  rw [h.2.2.1.1] at hA
  have eL2 : w 72 (0 + 14) = ((σ.2.2.1.2.2.2.2.length : Nat) : Int) := eL
  have hf : frO 0 w (lnM w 0 i n (dueS σ.2.1 σ.2.2.1 i)) := fun k j q => lnM_ne (by omega)
  have e3 : lnM w 0 i n (dueS σ.2.1 σ.2.2.1 i) 72 (0 + 14) = w 72 (0 + 14) + 1 := by unfold lnM; rw [up_eq]
  have e0 : lnM w 0 i n (dueS σ.2.1 σ.2.2.1 i) 72 0 = w 72 0 := lnM_ne (by omega)
  have ok0 : okAS c σ.2.2.1 := by rw [← h.2.2.1.1]; exact hO.2
  refine ⟨hz.trans h.aN, h.now hf hA ⟨by rw [e3]; have := hO.1; omega, ?_⟩ (by rw [e0]; exact h.2.2.1.2.2), hf.m⟩
  rw [hA]
  exact lnS_ok ok0 ⟨y1, by omega⟩ hn hh hdu (by omega)
set_option maxRecDepth 100000 in
set_option maxHeartbeats 4000000 in
theorem c_X5_borrow (G : Gb) (l : Launch) {w : Wd} {c : Int} {σ : SG} (h : SM c σ w) {i : Int} (hi : inR i) {n : Int} (hn : inR n) : Ci G l yX5_borrow mX5_borrow [.ref (gA G 71), .int (iZ i), .int (iZ n)] w (fun z w' => z = (aBorrow σ.2.1 σ.2.2.1 i n).1 ∧ SM (c + 1) (σ.1, σ.2.1, (aBorrow σ.2.1 σ.2.2.1 i n).2, σ.2.2.2) w' ∧ frM w w') := by
  refine V_start 1 (by decide) rfl rfl (Nat.le_of_ble_eq_true rfl) ?_
  show V G l mX5_borrow _ 0 [some (.ref (gA G 71)), some (.int (iZ i)), some (.int (iZ n)), none] [] w
  have hT := h.2.1.2.1
  have hO := h.2.2.1.2.1
  have kt := hT.1
  have kn : 0 ≤ w 72 14 ∧ w 72 14 ≤ 12 := hO.n
  have eN := h.tN
  have eL := h.aN
  refine V_aload_n dX5_borrow_0 rfl ?_
  refine V_iload_n dX5_borrow_1 rfl ?_
  refine V_iV1 dX5_borrow_2 o_X5_borrow_166 s_71 rfl (Nat.le_of_ble_eq_true rfl) (c_X5_isTree G l (by omega) kt) ?_
  rintro z _ ⟨hz, rfl⟩
  have rz : z = 0 ∨ z = 1 := by rw [hz]; split <;> simp
  refine V_if_ne (tgt := 11) dX5_borrow_5 (by decide) (by omega) (fun h5 => ?_) (fun h5 => ?_)
  · have yz : hasS σ.2.1 i := by
      by_cases q9 : 0 ≤ i ∧ i < w 71 10
      · exact ⟨q9.1, by omega⟩
      · rw [if_neg q9] at hz; omega
    have bz := yz.2
    have dz := yz.1
    have eF := h.aF dz (by omega : i < 6)
    have eH := h.aH dz (by omega : i < 6)
    have kk := hT.2.2.2.1 i dz (by omega)
    have kh := h.has0 dz (by omega : i < 6)
    refine V_iload_n dX5_borrow_11 rfl ?_
    refine V_i2l dX5_borrow_12 (iZ_l (by omega)) ?_
    refine V_lconst (v := lZ 1) dX5_borrow_13 rfl ?_
    refine V_ldc2 (v := (lZ 99)) dX5_borrow_14 (List.mem_of_getElem? (i := 1) rfl) ?_
    refine V_iS3 dX5_borrow_17 o_X5_borrow_50 (Nat.le_of_ble_eq_true rfl) (c_X5_in G l (by omega) (by omega) (by omega)) ?_
    rintro x _ ⟨hx, rfl⟩
    have rx : x = 0 ∨ x = 1 := by rw [hx]; split <;> simp
    refine V_if_ne (tgt := 26) dX5_borrow_20 (by decide) (by omega) (fun h20 => ?_) (fun h20 => ?_)
    · have yx : 1 ≤ n ∧ n ≤ 99 := by
        by_cases q9 : 1 ≤ n ∧ n ≤ 99
        · exact q9
        · rw [if_neg q9] at hx; omega
      refine V_aload_n dX5_borrow_26 rfl ?_
      refine V_iload_n dX5_borrow_27 rfl ?_
      refine V_iV1 dX5_borrow_28 o_X5_borrow_171 s_71 rfl (Nat.le_of_ble_eq_true rfl) (c_X5_lends G l ⟨dz, by omega⟩ hO hT) ?_
      rintro z3 _ ⟨hz3, rfl⟩
      have rz3 : z3 = 0 ∨ z3 = 1 := by rw [hz3]; split <;> simp
      rw [eF, h.aL, h.tQ] at hz3
      refine V_if_eq (tgt := 46) dX5_borrow_31 (by decide) (by omega) (fun h31 => ?_) (fun h31 => ?_)
      · have nl : ¬ (ldS i (σ.2.2.1.2.2.2.1.getD i.toNat 0) σ.2.2.1.2.2.2.2 σ.2.1.2.2.2.2.2.2.1 = true ∧ n ≤ σ.2.2.1.2.2.1.getD i.toNat 0) := fun q9 => by rw [if_pos q9.1] at hz3; omega
        refine V_bipush dX5_borrow_46 rfl ?_
        exact V_iret dX5_borrow_48 rfl (by rw [aBorrow, if_pos yz, if_pos yx, if_neg nl]; exact ⟨rfl, h.same, fun _ _ _ => rfl⟩)
      · have yl : ldS i (σ.2.2.1.2.2.2.1.getD i.toNat 0) σ.2.2.1.2.2.2.2 σ.2.1.2.2.2.2.2.2.1 = true := by
          cases q9 : ldS i (σ.2.2.1.2.2.2.1.getD i.toNat 0) σ.2.2.1.2.2.2.2 σ.2.1.2.2.2.2.2.2.1
          · rw [q9] at hz3; simp at hz3; omega
          · rfl
        refine V_aload_n dX5_borrow_34 rfl ?_
        refine V_getR (ci := 5) (j := 0) dX5_borrow_35 s_71 rfl rfl i_X5_borrow_X5 (by decide) f_X5_borrow_7 ?_
        refine V_iconst dX5_borrow_38 ?_
        refine V_iload_n dX5_borrow_39 rfl ?_
        refine V_iadd dX5_borrow_40 ?_
        refine V_iald dX5_borrow_41 s_72 (by omega) ?_
        refine V_iload_n dX5_borrow_42 rfl ?_
        refine V_icmp_ge (tgt := 49) dX5_borrow_43 (by decide) (by omega) (by omega) (fun h43 => ?_) (fun h43 => ?_)
        · have yl2 : ldS i (σ.2.2.1.2.2.2.1.getD i.toNat 0) σ.2.2.1.2.2.2.2 σ.2.1.2.2.2.2.2.2.1 = true ∧ n ≤ σ.2.2.1.2.2.1.getD i.toNat 0 := ⟨yl, by omega⟩
          refine V_aload_n dX5_borrow_49 rfl ?_
          refine V_getR (ci := 5) (j := 0) dX5_borrow_50 s_71 rfl rfl i_X5_borrow_X5 (by decide) f_X5_borrow_7 ?_
          refine V_bipush dX5_borrow_53 rfl ?_
          refine V_iald dX5_borrow_55 s_72 (by omega) ?_
          refine V_istore_n dX5_borrow_56 (by decide) rfl ?_
          refine V_iload_n dX5_borrow_57 rfl ?_
          refine V_bipush dX5_borrow_58 rfl ?_
          refine V_icmp_ne (tgt := 66) dX5_borrow_60 (by decide) (by omega) (by omega) (fun h60 => ?_) (fun h60 => ?_)
          · refine V_aload_n dX5_borrow_66 rfl ?_
            refine V_getR (ci := 5) (j := 0) dX5_borrow_67 s_71 rfl rfl i_X5_borrow_X5 (by decide) f_X5_borrow_7 ?_
            refine V_iconst dX5_borrow_70 ?_
            refine V_iload_n dX5_borrow_71 rfl ?_
            refine V_iconst dX5_borrow_72 ?_
            refine V_iS3 dX5_borrow_73 o_X5_borrow_136 (Nat.le_of_ble_eq_true rfl) (c_X5_placeOf G l) ?_
            rintro _ _ ⟨rfl, rfl⟩
            refine V_top (show 0 + 15 + 5 * w 72 14 + 0 = 0 + 15 + 5 * w 72 14 by omega) ?_
            refine V_iload_n dX5_borrow_76 rfl ?_
            refine V_iast dX5_borrow_77 s_72 (by omega) ?_
            refine V_aload_n dX5_borrow_78 rfl ?_
            refine V_getR (ci := 5) (j := 0) dX5_borrow_79 s_71 rfl rfl i_X5_borrow_X5 (by decide) f_X5_borrow_7 ?_
            refine V_iconst dX5_borrow_82 ?_
            refine V_iload_n dX5_borrow_83 rfl ?_
            refine V_iconst dX5_borrow_84 ?_
            refine V_iS3 dX5_borrow_85 o_X5_borrow_136 (Nat.le_of_ble_eq_true rfl) (c_X5_placeOf G l) ?_
            rintro _ _ ⟨rfl, rfl⟩
            refine V_top (show 0 + 15 + 5 * w 72 14 + 1 = 0 + 16 + 5 * w 72 14 by omega) ?_
            refine V_iload_n dX5_borrow_88 rfl ?_
            refine V_iast dX5_borrow_89 s_72 (by omega) ?_
            refine V_aload_n dX5_borrow_90 rfl ?_
            refine V_getR (ci := 5) (j := 0) dX5_borrow_91 s_71 rfl rfl i_X5_borrow_X5 (by decide) f_X5_borrow_7 ?_
            refine V_iconst dX5_borrow_94 ?_
            refine V_iload_n dX5_borrow_95 rfl ?_
            refine V_iconst dX5_borrow_96 ?_
            refine V_iS3 dX5_borrow_97 o_X5_borrow_136 (Nat.le_of_ble_eq_true rfl) (c_X5_placeOf G l) ?_
            rintro _ _ ⟨rfl, rfl⟩
            refine V_top (show 0 + 15 + 5 * w 72 14 + 2 = 0 + 17 + 5 * w 72 14 by omega) ?_
            refine V_bipush dX5_borrow_100 rfl ?_
            refine V_iload_n dX5_borrow_102 rfl ?_
            refine V_imul dX5_borrow_103 ?_
            refine V_iast dX5_borrow_104 s_72 (by omega) ?_
            refine V_aload_n dX5_borrow_105 rfl ?_
            refine V_getR (ci := 5) (j := 0) dX5_borrow_106 s_71 rfl rfl i_X5_borrow_X5 (by decide) f_X5_borrow_7 ?_
            refine V_iconst dX5_borrow_109 ?_
            refine V_iload_n dX5_borrow_110 rfl ?_
            refine V_iconst dX5_borrow_111 ?_
            refine V_iS3 dX5_borrow_112 o_X5_borrow_136 (Nat.le_of_ble_eq_true rfl) (c_X5_placeOf G l) ?_
            rintro _ _ ⟨rfl, rfl⟩
            refine V_top (show 0 + 15 + 5 * w 72 14 + 3 = 0 + 18 + 5 * w 72 14 by omega) ?_
            refine V_aload_n dX5_borrow_115 rfl ?_
            refine V_getR (ci := 5) (j := 0) dX5_borrow_116 s_71 rfl rfl i_X5_borrow_X5 (by decide) f_X5_borrow_7 ?_
            refine V_iconst dX5_borrow_119 ?_
            refine V_ialdE (z := w 72 0) dX5_borrow_120 s_72 (by omega) (by rw [up_ne (by omega), up_ne (by omega), up_ne (by omega)]) ?_
            refine V_aload_n dX5_borrow_121 rfl ?_
            refine V_getR (ci := 5) (j := 6) dX5_borrow_122 s_71 rfl rfl i_X5_borrow_X5 (by decide) f_X5_borrow_23 ?_
            refine V_iload_n dX5_borrow_125 rfl ?_
            refine V_ialdE (z := w 76 i) dX5_borrow_126 s_76 (by omega) (by rw [up_ne (by omega), up_ne (by omega), up_ne (by omega)]) ?_
            refine V_iconst dX5_borrow_127 ?_
            refine V_icmp_ne (tgt := 135) dX5_borrow_128 (by decide) (by omega) (by omega) (fun h128 => ?_) (fun h128 => ?_)
            · refine V_aload_n dX5_borrow_135 rfl ?_
              refine V_getR (ci := 5) (j := 8) dX5_borrow_136 s_71 rfl rfl i_X5_borrow_X5 (by decide) f_X5_borrow_29 ?_
              refine V_iload_n dX5_borrow_139 rfl ?_
              refine V_ialdE (z := w 78 i) dX5_borrow_140 s_78 (by omega) (by rw [up_ne (by omega), up_ne (by omega), up_ne (by omega)]) ?_
              refine V_iadd dX5_borrow_141 ?_
              refine V_iast dX5_borrow_142 s_72 (by omega) ?_
              refine V_aload_n dX5_borrow_143 rfl ?_
              refine V_getR (ci := 5) (j := 0) dX5_borrow_144 s_71 rfl rfl i_X5_borrow_X5 (by decide) f_X5_borrow_7 ?_
              refine V_iconst dX5_borrow_147 ?_
              refine V_iload_n dX5_borrow_148 rfl ?_
              refine V_iconst dX5_borrow_149 ?_
              refine V_iS3 dX5_borrow_150 o_X5_borrow_136 (Nat.le_of_ble_eq_true rfl) (c_X5_placeOf G l) ?_
              rintro _ _ ⟨rfl, rfl⟩
              refine V_top (show 0 + 15 + 5 * w 72 14 + 4 = 0 + 19 + 5 * w 72 14 by omega) ?_
              refine V_iconst dX5_borrow_153 ?_
              refine V_iast dX5_borrow_154 s_72 (by omega) ?_
              refine V_aload_n dX5_borrow_155 rfl ?_
              refine V_getR (ci := 5) (j := 0) dX5_borrow_156 s_71 rfl rfl i_X5_borrow_X5 (by decide) f_X5_borrow_7 ?_
              refine V_iconst dX5_borrow_159 ?_
              refine V_iload_n dX5_borrow_160 rfl ?_
              refine V_iadd dX5_borrow_161 ?_
              refine V_dup2 dX5_borrow_162 rfl rfl ?_
              refine V_ialdE (z := w 72 (2 + i)) dX5_borrow_163 s_72 (by omega) (by rw [up_ne (by omega), up_ne (by omega), up_ne (by omega), up_ne (by omega), up_ne (by omega)]) ?_
              refine V_iload_n dX5_borrow_164 rfl ?_
              refine V_isub dX5_borrow_165 ?_
              refine V_iast dX5_borrow_166 s_72 (by omega) ?_
              refine V_aload_n dX5_borrow_167 rfl ?_
              refine V_getR (ci := 5) (j := 0) dX5_borrow_168 s_71 rfl rfl i_X5_borrow_X5 (by decide) f_X5_borrow_7 ?_
              refine V_bipush dX5_borrow_171 rfl ?_
              refine V_dup2 dX5_borrow_173 rfl rfl ?_
              refine V_ialdE (z := w 72 14) dX5_borrow_174 s_72 (by omega) (by rw [up_ne (by omega), up_ne (by omega), up_ne (by omega), up_ne (by omega), up_ne (by omega), up_ne (by omega)]) ?_
              refine V_iconst dX5_borrow_175 ?_
              refine V_iadd dX5_borrow_176 ?_
              refine V_iast dX5_borrow_177 s_72 (by omega) ?_
              refine V_iload_n dX5_borrow_178 rfl ?_
              exact V_iret dX5_borrow_179 rfl (by rw [aBorrow, if_pos yz, if_pos yx, if_pos yl2, if_pos (by omega)]; exact boM_ok h yz yx yl2.2 (by omega) rfl (by unfold dueS; rw [← h.aD, ← h.tK dz (by omega), ← h.tT dz (by omega)]; first | rw [if_pos h128] | rw [if_neg h128]))
            · refine V_iconst dX5_borrow_131 ?_
              refine V_goto (tgt := 141) dX5_borrow_132 (by decide) ?_
              refine V_iadd dX5_borrow_141 ?_
              refine V_iast dX5_borrow_142 s_72 (by omega) ?_
              refine V_aload_n dX5_borrow_143 rfl ?_
              refine V_getR (ci := 5) (j := 0) dX5_borrow_144 s_71 rfl rfl i_X5_borrow_X5 (by decide) f_X5_borrow_7 ?_
              refine V_iconst dX5_borrow_147 ?_
              refine V_iload_n dX5_borrow_148 rfl ?_
              refine V_iconst dX5_borrow_149 ?_
              refine V_iS3 dX5_borrow_150 o_X5_borrow_136 (Nat.le_of_ble_eq_true rfl) (c_X5_placeOf G l) ?_
              rintro _ _ ⟨rfl, rfl⟩
              refine V_top (show 0 + 15 + 5 * w 72 14 + 4 = 0 + 19 + 5 * w 72 14 by omega) ?_
              refine V_iconst dX5_borrow_153 ?_
              refine V_iast dX5_borrow_154 s_72 (by omega) ?_
              refine V_aload_n dX5_borrow_155 rfl ?_
              refine V_getR (ci := 5) (j := 0) dX5_borrow_156 s_71 rfl rfl i_X5_borrow_X5 (by decide) f_X5_borrow_7 ?_
              refine V_iconst dX5_borrow_159 ?_
              refine V_iload_n dX5_borrow_160 rfl ?_
              refine V_iadd dX5_borrow_161 ?_
              refine V_dup2 dX5_borrow_162 rfl rfl ?_
              refine V_ialdE (z := w 72 (2 + i)) dX5_borrow_163 s_72 (by omega) (by rw [up_ne (by omega), up_ne (by omega), up_ne (by omega), up_ne (by omega), up_ne (by omega)]) ?_
              refine V_iload_n dX5_borrow_164 rfl ?_
              refine V_isub dX5_borrow_165 ?_
              refine V_iast dX5_borrow_166 s_72 (by omega) ?_
              refine V_aload_n dX5_borrow_167 rfl ?_
              refine V_getR (ci := 5) (j := 0) dX5_borrow_168 s_71 rfl rfl i_X5_borrow_X5 (by decide) f_X5_borrow_7 ?_
              refine V_bipush dX5_borrow_171 rfl ?_
              refine V_dup2 dX5_borrow_173 rfl rfl ?_
              refine V_ialdE (z := w 72 14) dX5_borrow_174 s_72 (by omega) (by rw [up_ne (by omega), up_ne (by omega), up_ne (by omega), up_ne (by omega), up_ne (by omega), up_ne (by omega)]) ?_
              refine V_iconst dX5_borrow_175 ?_
              refine V_iadd dX5_borrow_176 ?_
              refine V_iast dX5_borrow_177 s_72 (by omega) ?_
              refine V_iload_n dX5_borrow_178 rfl ?_
              exact V_iret dX5_borrow_179 rfl (by rw [aBorrow, if_pos yz, if_pos yx, if_pos yl2, if_pos (by omega)]; exact boM_ok h yz yx yl2.2 (by omega) rfl (by unfold dueS; rw [← h.aD, ← h.tK dz (by omega), ← h.tT dz (by omega)]; first | rw [if_pos h128] | rw [if_neg h128]))
          · refine V_bipush dX5_borrow_63 rfl ?_
            exact V_iret dX5_borrow_65 rfl (by rw [aBorrow, if_pos yz, if_pos yx, if_pos yl2, if_neg (by omega)]; exact ⟨rfl, h.same, fun _ _ _ => rfl⟩)
        · have nl : ¬ (ldS i (σ.2.2.1.2.2.2.1.getD i.toNat 0) σ.2.2.1.2.2.2.2 σ.2.1.2.2.2.2.2.2.1 = true ∧ n ≤ σ.2.2.1.2.2.1.getD i.toNat 0) := fun q9 => by have := q9.2; omega
          refine V_bipush dX5_borrow_46 rfl ?_
          exact V_iret dX5_borrow_48 rfl (by rw [aBorrow, if_pos yz, if_pos yx, if_neg nl]; exact ⟨rfl, h.same, fun _ _ _ => rfl⟩)
    · have yx : ¬ (1 ≤ n ∧ n ≤ 99) := fun q9 => by rw [if_pos q9] at hx; omega
      refine V_bipush dX5_borrow_23 rfl ?_
      exact V_iret dX5_borrow_25 rfl (by rw [aBorrow, if_pos yz, if_neg yx]; exact ⟨rfl, h.same, fun _ _ _ => rfl⟩)
  · have yz : ¬ hasS σ.2.1 i := fun q9 => by rw [if_pos ⟨q9.1, by have := q9.2; omega⟩] at hz; omega
    refine V_bipush dX5_borrow_8 rfl ?_
    exact V_iret dX5_borrow_10 rfl (by rw [aBorrow, if_neg yz]; exact ⟨rfl, h.same, fun _ _ _ => rfl⟩)
theorem okTm_frO {o : Int} {w w' : Wd} (ho : 0 ≤ o ∧ o ≤ 225) (h : okTm w) (g : frO o w w') : okTm w' := okTm_eq h (fun j q => g _ _ (by omega)) (fun j _ _ => g _ _ (by omega)) (fun k j _ _ => g _ _ (by omega))
theorem dyM_0 {c o v : Int} {w : Wd} (h : okM c w o) : dyM c o v 0 w w := ⟨h, rfl, fun _ _ _ => rfl⟩
theorem dyM_s {c o v : Int} {n : Nat} {w w1 w' : Wd} (ho : 0 ≤ o ∧ o ≤ 225) (h1 : dyM c o v 1 w w1) (h2 : dyM c o v n w1 w') : dyM c o v (n + 1) w w' := by
  obtain ⟨a1, a2, a3⟩ := h1
  obtain ⟨b1, b2, b3⟩ := h2
  refine ⟨b1, ?_, fun k j q => (b3 k j q).trans (a3 k j q)⟩
  have e1 : gl w1 76 0 6 = gl w 76 0 6 := gl_eq (fun i _ _ => a3 _ _ (by omega))
  have e3 : gl w1 77 0 6 = gl w 77 0 6 := gl_eq (fun i _ _ => a3 _ _ (by omega))
  rw [b2, e1, e3, a2]
  rfl
theorem dyM_day {c o v : Int} {n : Nat} {w w' : Wd} (h : dyM c o v n w w') : w' 72 o = w 72 o + n := by
  have : (mAS w' o).1 = (dysS (gl w 76 0 6) (gl w 77 0 6) v n (mAS w o)).1 := congrArg (fun t : AS => t.1) h.2.1
  rw [dysS_day] at this
  exact this
set_option maxRecDepth 100000 in
set_option maxHeartbeats 4000000 in
theorem l_X5_days (G : Gb) (l : Launch) {c n H : Int} (rH : 0 ≤ H ∧ H ≤ 99) (hn : inR n) {Post : Int → Wd → Prop} : ∀ (m : Nat) (i : Int) (w : Wd), 0 ≤ i → i + m = n → okM c w 0 → okTm w → w 71 13 = H → w 72 0 + m ≤ 20000 → (∀ w', dyM c 0 H m w w' → Post (w' 72 0) w') → V G l mX5_days (Qi G Post) 34 [some (.ref (gA G 71)), some (.int (iZ n)), some (.int (iZ i))] [] w := by
  intro m
  induction m with
  | zero =>
    intro i w h0 h1 hO hT hH hy hp
    refine V_iload_n dX5_days_34 rfl ?_
    refine V_iload_n dX5_days_35 rfl ?_
    refine V_icmp_ge (tgt := 54) dX5_days_36 (by decide) (by omega) (by omega) (fun h36 => ?_) (fun h36 => ?_)
    · refine V_aload_n dX5_days_54 rfl ?_
      refine V_getR (ci := 5) (j := 0) dX5_days_55 s_71 rfl rfl i_X5_days_X5 (by decide) f_X5_days_7 ?_
      refine V_iconst dX5_days_58 ?_
      refine V_iald dX5_days_59 s_72 (by omega) ?_
      exact V_iret dX5_days_60 rfl (hp _ (dyM_0 hO))
    · exact absurd h36 (by omega)
  | succ m ih =>
    intro i w h0 h1 hO hT hH hy hp
    refine V_iload_n dX5_days_34 rfl ?_
    refine V_iload_n dX5_days_35 rfl ?_
    refine V_icmp_ge (tgt := 54) dX5_days_36 (by decide) (by omega) (by omega) (fun h36 => ?_) (fun h36 => ?_)
    · exact absurd h36 (by omega)
    · refine V_aload_n dX5_days_39 rfl ?_
      refine V_iconst dX5_days_40 ?_
      refine V_aload_n dX5_days_41 rfl ?_
      refine V_getIE (ci := 5) (j := 13) (ji := 13) (z := H) dX5_days_42 s_71 rfl rfl i_X5_days_X5 (by decide) f_X5_days_38 rfl hH ?_
      refine V_vV2 dX5_days_45 o_X5_days_174 s_71 rfl (Nat.le_of_ble_eq_true rfl) (c_X5_day G l (c := c) (o := 0) (by omega) rH hO hT (by omega)) ?_
      rintro w1 x1
      have e1 := dyM_day x1
      refine V_iinc dX5_days_48 rfl (by decide) rfl ?_
      refine V_goto (tgt := 34) dX5_days_51 (by decide) ?_
      exact ih (i + 1) w1 (by omega) (by omega) x1.1 (okTm_frO (by omega) hT x1.2.2) ((x1.2.2 _ _ (by omega)).trans hH) (by omega) (fun w' h => hp w' (dyM_s (by omega) x1 h))
set_option maxRecDepth 100000 in
set_option maxHeartbeats 4000000 in
theorem c_X5_days (G : Gb) (l : Launch) {w : Wd} {c : Int} {σ : SG} (h : SM c σ w) {n : Int} (hn : inR n) : Ci G l yX5_days mX5_days [.ref (gA G 71), .int (iZ n)] w (fun z w' => z = (aDays σ.2.1 σ.2.2.1 n).1 ∧ SM (c + 1) (σ.1, σ.2.1, (aDays σ.2.1 σ.2.2.1 n).2, σ.2.2.2) w' ∧ frM w w') := by
  refine V_start 1 (by decide) rfl rfl (Nat.le_of_ble_eq_true rfl) ?_
  show V G l mX5_days _ 0 [some (.ref (gA G 71)), some (.int (iZ n)), none] [] w
  have hT := h.2.1.2.1
  have hO := h.2.2.1.2.1
  have kt := hT.1
  have kn : 0 ≤ w 72 14 ∧ w 72 14 ≤ 12 := hO.n
  have eN := h.tN
  have eL := h.aN
  refine V_iload_n dX5_days_0 rfl ?_
  refine V_i2l dX5_days_1 (iZ_l (by omega)) ?_
  refine V_lconst (v := lZ 1) dX5_days_2 rfl ?_
  refine V_ldc2 (v := (lZ 99)) dX5_days_3 (List.mem_of_getElem? (i := 1) rfl) ?_
  refine V_iS3 dX5_days_6 o_X5_days_50 (Nat.le_of_ble_eq_true rfl) (c_X5_in G l (by omega) (by omega) (by omega)) ?_
  rintro z _ ⟨hz, rfl⟩
  have rz : z = 0 ∨ z = 1 := by rw [hz]; split <;> simp
  refine V_if_ne (tgt := 15) dX5_days_9 (by decide) (by omega) (fun h9 => ?_) (fun h9 => ?_)
  · have yz : 1 ≤ n ∧ n ≤ 99 := by
      by_cases q9 : 1 ≤ n ∧ n ≤ 99
      · exact q9
      · rw [if_neg q9] at hz; omega
    have eD := h.aD
    have kd9 := h.2.2.1.2.2
    have kd0 := hO.day
    have kh : 0 ≤ w 71 13 ∧ w 71 13 ≤ 99 := hT.2.2.1
    refine V_aload_n dX5_days_15 rfl ?_
    refine V_getR (ci := 5) (j := 0) dX5_days_16 s_71 rfl rfl i_X5_days_X5 (by decide) f_X5_days_7 ?_
    refine V_iconst dX5_days_19 ?_
    refine V_iald dX5_days_20 s_72 (by omega) ?_
    refine V_iload_n dX5_days_21 rfl ?_
    refine V_iadd dX5_days_22 ?_
    refine V_sipush dX5_days_23 rfl ?_
    refine V_icmp_le (tgt := 32) dX5_days_26 (by decide) (by omega) (by omega) (fun h26 => ?_) (fun h26 => ?_)
    · refine V_iconst dX5_days_32 ?_
      refine V_istore_n dX5_days_33 (by decide) rfl ?_
      refine l_X5_days G l (c := c) (H := w 71 13) kh (by omega) n.toNat 0 w (by omega) (by omega) hO hT rfl (by omega) (fun w' x => ?_)
      have e1 := dyM_day x
      obtain ⟨y1, y2, y3⟩ := x
      have ea : dysS (gl w 76 0 6) (gl w 77 0 6) (w 71 13) n.toNat (mAS w 0) = dysS σ.2.1.2.1 σ.2.1.2.2.2.1 σ.2.1.2.2.2.2.2.2.2 n.toNat σ.2.2.1 := by rw [h.2.2.1.1, h.tH, h.tK', h.tR']
      rw [ea] at y2
      have e0 : w' 72 0 = (dysS σ.2.1.2.1 σ.2.1.2.2.2.1 σ.2.1.2.2.2.2.2.2.2 n.toNat σ.2.2.1).1 := congrArg (fun t : AS => t.1) y2
      rw [aDays, if_pos yz, if_pos (by omega)]
      exact ⟨e0, h.now y3 y2 (okM_mono y1 (by omega)) (by omega), y3.m⟩
    · refine V_bipush dX5_days_29 rfl ?_
      exact V_iret dX5_days_31 rfl (by rw [aDays, if_pos yz, if_neg (by omega)]; exact ⟨rfl, h.same, fun _ _ _ => rfl⟩)
  · have yz : ¬ (1 ≤ n ∧ n ≤ 99) := fun q9 => by rw [if_pos q9] at hz; omega
    refine V_bipush dX5_days_12 rfl ?_
    exact V_iret dX5_days_14 rfl (by rw [aDays, if_neg yz]; exact ⟨rfl, h.same, fun _ _ _ => rfl⟩)

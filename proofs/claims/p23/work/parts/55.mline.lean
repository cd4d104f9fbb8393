/-! ===== 55 the reference's reader: a line, the whole text ===== -/
theorem wdS_rg (T : List Int) (s : Int) : -1 ≤ wdS T s ∧ wdS T s ≤ 7 := by unfold wdS; (repeat' split) <;> omega
theorem ln_rs {T : List Int} {nt nq s c : Int} (hc : wdS T s = c) (h1 : c ≠ -1) (h2 : ¬ ((1 ≤ c ∧ c ≤ 4) ∧ nt = 6)) (h3 : ¬ (c = 6 ∧ nq = 6)) : lnP T nt nq s = rsP T nt c (nx T s) := by
  have r := wdS_rg T s
  unfold lnP rsP
  rw [hc] at r ⊢
  rw [if_neg h1]
  by_cases c0 : c = 0
  · rw [if_pos c0, if_pos c0]; rfl
  · rw [if_neg c0, if_neg c0]
    by_cases c5 : c = 5
    · rw [if_pos c5, if_pos c5]; rfl
    · rw [if_neg c5, if_neg c5]
      by_cases c6 : c = 6
      · rw [if_pos c6, if_pos c6, quP, if_neg (fun q => h3 ⟨c6, q⟩)]
      · rw [if_neg c6, if_neg c6]
        by_cases c7 : c = 7
        · rw [if_pos c7, if_pos c7]; rfl
        · rw [if_neg c7, if_neg c7, trP, if_neg (fun q => h2 ⟨by omega, q⟩)]
theorem ln_no {T : List Int} {nt nq s : Int} (h : wdS T s = -1 ∨ ((1 ≤ wdS T s ∧ wdS T s ≤ 4) ∧ nt = 6) ∨ (wdS T s = 6 ∧ nq = 6)) : lnP T nt nq s = lfail s := by
  unfold lnP
  rcases h with h | ⟨h, h2⟩ | ⟨h, h2⟩
  · rw [if_pos h]
  · rw [if_neg (by omega), if_neg (by omega), if_neg (by omega), if_neg (by omega), if_neg (by omega), trP, if_pos h2]
  · rw [if_neg (by omega), if_neg (by omega), if_neg (by omega), if_pos h, quP, if_pos h2]
/-- a line that can stand has its word, and sound numbers -/
def okLi (nt nq : Int) (x : Li) : Prop := (0 ≤ x.1 ∧ x.1 ≤ 7) ∧ (1 ≤ x.1 ∧ x.1 ≤ 4 → (0 ≤ x.2.1 ∧ x.2.1 ≤ 99) ∧ (0 ≤ x.2.2.1 ∧ x.2.2.1 ≤ 50) ∧ (1 ≤ x.2.2.2 ∧ x.2.2.2 ≤ 99)) ∧ (x.1 = 5 → (0 ≤ x.2.1 ∧ x.2.1 < nt) ∧ (0 ≤ x.2.2.1 ∧ x.2.2.1 ≤ 9)) ∧ (x.1 = 6 → (0 ≤ x.2.1 ∧ x.2.1 < nt) ∧ (0 ≤ x.2.2.1 ∧ x.2.2.1 < nt)) ∧ (x.1 = 7 → 0 ≤ x.2.1 ∧ x.2.1 ≤ 99)
theorem nmP_t {T : List Int} {s lo hi : Int} {k : Int → Int → LR} (h : (nmP T s lo hi k).1 = true) : okN T s lo hi ∧ nmP T s lo hi k = k (vl T s) (nx T s) := by
  by_cases q : okN T s lo hi
  · exact ⟨q, nmP_y q⟩
  · rw [nmP_n q] at h; cases h
theorem rsP_ok {T : List Int} {nt c p : Int} (nq : Int) (hc : 0 ≤ c ∧ c ≤ 7) (h : (rsP T nt c p).1 = true) : (rsP T nt c p).2.2.1 = c ∧ okLi nt nq (rsP T nt c p).2.2 := by
  unfold rsP at h ⊢
  by_cases c0 : c = 0
  · rw [if_pos c0]
    exact ⟨c0.symm, ⟨by dsimp only; omega, fun q => by dsimp only at q; omega, fun q => by dsimp only at q; omega, fun q => by dsimp only at q; omega, fun q => by dsimp only at q; omega⟩⟩
  · rw [if_neg c0] at h ⊢
    by_cases c5 : c = 5
    · rw [if_pos c5] at h ⊢
      obtain ⟨a1, a2⟩ := nmP_t h
      rw [a2] at h ⊢
      obtain ⟨b1, b2⟩ := nmP_t h
      rw [b2]
      have a4 := a1.2.2.2.1
      have a5 := a1.2.2.2.2
      have b4 := b1.2.2.2.1
      have b5 := b1.2.2.2.2
      exact ⟨c5.symm, ⟨by dsimp only; omega, fun q => by dsimp only at q; omega, fun q => by dsimp only; omega, fun q => by dsimp only at q; omega, fun q => by dsimp only at q; omega⟩⟩
    · rw [if_neg c5] at h ⊢
      by_cases c6 : c = 6
      · rw [if_pos c6] at h ⊢
        obtain ⟨a1, a2⟩ := nmP_t h
        rw [a2] at h ⊢
        by_cases b : okN T (nx T p) 0 (nt - 1) ∧ vl T (nx T p) ≠ vl T p
        · rw [if_pos b] at h ⊢
          have a4 := a1.2.2.2.1
          have a5 := a1.2.2.2.2
          have b4 := b.1.2.2.2.1
          have b5 := b.1.2.2.2.2
          exact ⟨c6.symm, ⟨by dsimp only; omega, fun q => by dsimp only at q; omega, fun q => by dsimp only at q; omega, fun q => by dsimp only; omega, fun q => by dsimp only at q; omega⟩⟩
        · rw [if_neg b] at h; cases h
      · rw [if_neg c6] at h ⊢
        by_cases c7 : c = 7
        · rw [if_pos c7] at h ⊢
          obtain ⟨a1, a2⟩ := nmP_t h
          rw [a2]
          have a4 := a1.2.2.2.1
          have a5 := a1.2.2.2.2
          exact ⟨c7.symm, ⟨by dsimp only; omega, fun q => by dsimp only at q; omega, fun q => by dsimp only at q; omega, fun q => by dsimp only at q; omega, fun q => by dsimp only; omega⟩⟩
        · rw [if_neg c7] at h ⊢
          obtain ⟨a1, a2⟩ := nmP_t h
          rw [a2] at h ⊢
          obtain ⟨b1, b2⟩ := nmP_t h
          rw [b2] at h ⊢
          obtain ⟨d1, d2⟩ := nmP_t h
          rw [d2]
          have a4 := a1.2.2.2.1
          have a5 := a1.2.2.2.2
          have b4 := b1.2.2.2.1
          have b5 := b1.2.2.2.2
          have d4 := d1.2.2.2.1
          have d5 := d1.2.2.2.2
          exact ⟨rfl, ⟨by dsimp only; omega, fun q => by dsimp only; omega, fun q => by dsimp only at q; omega, fun q => by dsimp only at q; omega, fun q => by dsimp only at q; omega⟩⟩
def liM (w : Wd) (rm : Int) (x : Li) : Prop := w 75 (4 * rm) = x.1 ∧ liM' w rm x
def ntF (c nt : Int) : Int := if c = 0 then 0 else if 1 ≤ c ∧ c ≤ 4 then nt + 1 else nt
def nqF (c nq : Int) : Int := if c = 0 then 0 else if c = 6 then nq + 1 else nq
def frL (rm : Int) (w w' : Wd) : Prop := ∀ (k : Nat) (j : Int), (k ≠ 71 ∨ (j ≠ 5 ∧ (j < 14 ∨ 18 < j))) → (k ≠ 75 ∨ j < 4 * rm) → w' k j = w k j
/-- behind a line's reading: rm lines were there, nt trees, nq quarrels -/
def lmR (T : List Int) (r : LR) (rm nt nq : Int) (w w' : Wd) (z : Int) : Prop := z = (if r.1 = true then 1 else 0) ∧ tkM w' T r.2.1 ∧ (r.1 = true → (liM w' rm r.2.2 ∧ w' 71 5 = rm + 1 ∧ w' 71 17 = ntF r.2.2.1 nt ∧ w' 71 18 = nqF r.2.2.1 nq) ∧ okLi nt nq r.2.2 ∧ ¬ ((1 ≤ r.2.2.1 ∧ r.2.2.1 ≤ 4) ∧ nt = 6) ∧ ¬ (r.2.2.1 = 6 ∧ nq = 6)) ∧ frL rm w w'
theorem lm_fail {T : List Int} {s rm nt nq : Int} {w : Wd} (hk : tkM w T s) : lmR T (lfail s) rm nt nq w w 0 := ⟨rfl, hk, (fun q => nomatch q), fun _ _ _ _ => rfl⟩
theorem tkM.up {w : Wd} {T : List Int} {p : Int} {k : Nat} {j z : Int} (h : tkM w T p) (hq : k ≠ 71 ∨ (j ≠ 14 ∧ j ≠ 15 ∧ j ≠ 16)) : tkM (up w k j z) T p := ⟨h.1, by rw [up_ne (by omega)]; exact h.2.1, by rw [up_ne (by omega)]; exact h.2.2.1, by rw [up_ne (by omega)]; exact h.2.2.2⟩
theorem lm_ok {T : List Int} {r : LR} {s c : Int} {w w1 w2 : Wd} (hc : 0 ≤ c ∧ c ≤ 7) (h2 : ¬ ((1 ≤ c ∧ c ≤ 4) ∧ w 71 17 = 6)) (h3 : ¬ (c = 6 ∧ w 71 18 = 6)) (hr : r = rsP T (w 71 17) c (nx T s)) (f1 : frTk w w1) (y : rmR T r (w 71 5) (up w1 75 (4 * w 71 5) c) w2 1) (nt nq : Int) (e1 : nt = ntF c (w 71 17)) (e2 : nq = nqF c (w 71 18)) : lmR T r (w 71 5) (w 71 17) (w 71 18) w (up (up (up w2 71 17 nt) 71 18 nq) 71 5 (w 71 5 + 1)) 1 := by
  obtain ⟨y1, y2, y3, y4⟩ := y
  have rt : r.1 = true := by
    cases q : r.1
    · rw [q] at y1; simp at y1
    · rfl
  obtain ⟨o1, o2⟩ := rsP_ok (T := T) (nt := w 71 17) (p := nx T s) (w 71 18) hc (by rw [← hr]; exact rt)
  rw [← hr] at o1 o2
  have y5 := y3 rt
  refine ⟨by rw [if_pos rt], ((y2.up (by omega)).up (by omega)).up (by omega), fun _ => ⟨⟨⟨?_, ?_, ?_, ?_⟩, by rw [up_eq], by rw [up_ne (by omega), up_ne (by omega), up_eq, o1, e1], by rw [up_ne (by omega), up_eq, o1, e2]⟩, o2, by rw [o1]; exact h2, by rw [o1]; exact h3⟩, fun k j q1 q2 => ?_⟩
  · rw [up_ne (by omega), up_ne (by omega), up_ne (by omega), y4 _ _ (by omega) (by omega), up_eq, o1]
  · intro q; rw [up_ne (by omega), up_ne (by omega), up_ne (by omega)]; exact y5.1 q
  · intro q; rw [up_ne (by omega), up_ne (by omega), up_ne (by omega)]; exact y5.2.1 q
  · intro q; rw [up_ne (by omega), up_ne (by omega), up_ne (by omega)]; exact y5.2.2 q
  · rw [up_ne (by omega), up_ne (by omega), up_ne (by omega), y4 _ _ (by omega) (by omega), up_ne (by omega), f1 _ _ (by omega)]
set_option maxRecDepth 100000 in
set_option maxHeartbeats 4000000 in
theorem c_X5_readsLine (G : Gb) (l : Launch) {w : Wd} {T : List Int} (hT : TM w T) {p : Int} (hk : tkM w T p) (hm : 0 ≤ w 71 5 ∧ w 71 5 < 12) (ht : 0 ≤ w 71 17 ∧ w 71 17 ≤ 6) (hq : 0 ≤ w 71 18 ∧ w 71 18 ≤ 6) : Ci G l yX5_readsLine mX5_readsLine [.ref (gA G 71)] w (fun z w' => lmR T (lnP T (w 71 17) (w 71 18) p) (w 71 5) (w 71 17) (w 71 18) w w' z) := by
  refine V_start 1 (by decide) rfl rfl (Nat.le_of_ble_eq_true rfl) ?_
  show V G l mX5_readsLine _ 0 [some (.ref (gA G 71)), none] [] w
  refine V_aload_n dX5_readsLine_0 rfl ?_
  refine V_iV0 dX5_readsLine_1 o_X5_readsLine_102 s_71 rfl (Nat.le_of_ble_eq_true rfl) (c_X5_wordOf G l hT hk) ?_
  rintro c _ ⟨hcw, rfl⟩
  have rc := wdS_rg T p
  rw [← hcw] at rc
  refine V_istore_n dX5_readsLine_4 (by decide) rfl ?_
  refine V_iload_n dX5_readsLine_5 rfl ?_
  refine V_iconst dX5_readsLine_6 ?_
  refine V_icmp_eq (tgt := 41) dX5_readsLine_7 (by decide) (by omega) (by omega) (fun h7 => ?_) (fun h7 => ?_)
  · have rr : lmR T (lnP T (w 71 17) (w 71 18) p) (w 71 5) (w 71 17) (w 71 18) w w 0 := by rw [ln_no (Or.inl (by omega))]; exact lm_fail hk
    refine V_iconst dX5_readsLine_41 ?_
    exact V_zret dX5_readsLine_42 rfl (by omega) rr
  · refine V_iload_n dX5_readsLine_10 rfl ?_
    refine V_iS1 dX5_readsLine_11 o_X5_readsLine_105 (Nat.le_of_ble_eq_true rfl) (c_X5_isTreeWord G l (by omega)) ?_
    rintro s _ ⟨hs, rfl⟩
    have rs : s = 0 ∨ s = 1 := by rw [hs]; split <;> simp
    refine V_if_eq (tgt := 26) dX5_readsLine_14 (by decide) (by omega) (fun h14 => ?_) (fun h14 => ?_)
    · have ns : ¬ (1 ≤ c ∧ c ≤ 4) := fun q9 => by rw [if_pos q9] at hs; omega
      refine V_iload_n dX5_readsLine_26 rfl ?_
      refine V_bipush dX5_readsLine_27 rfl ?_
      refine V_icmp_ne (tgt := 43) dX5_readsLine_29 (by decide) (by omega) (by omega) (fun h29 => ?_) (fun h29 => ?_)
      · have no2 : ¬ ((1 ≤ c ∧ c ≤ 4) ∧ w 71 17 = 6) := fun q => by omega
        have no3 : ¬ (c = 6 ∧ w 71 18 = 6) := fun q => by omega
        refine V_aload_n dX5_readsLine_43 rfl ?_
        refine V_vV0 dX5_readsLine_44 o_X5_readsLine_90 s_71 rfl (Nat.le_of_ble_eq_true rfl) (c_X5_token G l hT hk.at_) ?_
        rintro w1 ⟨t1, f1⟩
        rw [hk.2.2.2] at t1
        have t1 : tkM w1 T (nx T p) := t1
        have e5 : w1 71 5 = w 71 5 := f1 _ _ (by omega)
        have e17 : w1 71 17 = w 71 17 := f1 _ _ (by omega)
        have hT1 := f1.tm hT
        have er : lnP T (w 71 17) (w 71 18) p = rsP T (w 71 17) c (nx T p) := ln_rs hcw.symm (by omega) no2 no3
        refine V_aload_n dX5_readsLine_47 rfl ?_
        refine V_getR (ci := 5) (j := 4) dX5_readsLine_48 s_71 rfl rfl i_X5_readsLine_X5 (by decide) f_X5_readsLine_20 ?_
        refine V_iconst dX5_readsLine_51 ?_
        refine V_aload_n dX5_readsLine_52 rfl ?_
        refine V_getIE (ci := 5) (j := 5) (ji := 5) (z := w 71 5) dX5_readsLine_53 s_71 rfl rfl i_X5_readsLine_X5 (by decide) f_X5_readsLine_87 rfl e5 ?_
        refine V_imul dX5_readsLine_56 ?_
        refine V_iload_n dX5_readsLine_57 rfl ?_
        refine V_iast dX5_readsLine_58 s_75 (by show 0 ≤ _ ∧ _ < (48 : Int); omega) ?_
        refine V_aload_n dX5_readsLine_59 rfl ?_
        refine V_iload_n dX5_readsLine_60 rfl ?_
        refine V_iV1 dX5_readsLine_61 o_X5_readsLine_112 s_71 rfl (Nat.le_of_ble_eq_true rfl) (c_X5_readsRest G l (w := up w1 75 (4 * w 71 5) c) (hT1.keep (up_ne (by omega)) (fun i => up_ne (by omega))) (t1.up (by omega)) (by rw [up_ne (by omega)]; omega) (by rw [up_ne (by omega)]; omega) (c := c) (by omega)) ?_
        rintro z w2 y
        rw [up_ne (by omega), up_ne (by omega), e5, e17] at y
        have rz : z = 0 ∨ z = 1 := by rw [y.1]; split <;> simp
        refine V_if_ne (tgt := 69) dX5_readsLine_64 (by decide) (by omega) (fun h64 => ?_) (fun h64 => ?_)
        · have zz : z = 1 := by omega
          refine V_aload_n dX5_readsLine_69 rfl ?_
          refine V_iload_n dX5_readsLine_70 rfl ?_
          refine V_if_ne (tgt := 78) dX5_readsLine_71 (by decide) (by omega) (fun h71 => ?_) (fun h71 => ?_)
          · refine V_iload_n dX5_readsLine_78 rfl ?_
            refine V_iS1 dX5_readsLine_79 o_X5_readsLine_105 (Nat.le_of_ble_eq_true rfl) (c_X5_isTreeWord G l (by omega)) ?_
            rintro u _ ⟨hu, rfl⟩
            have ru : u = 0 ∨ u = 1 := by rw [hu]; split <;> simp
            refine V_if_eq (tgt := 94) dX5_readsLine_82 (by decide) (by omega) (fun h82 => ?_) (fun h82 => ?_)
            · have nu : ¬ (1 ≤ c ∧ c ≤ 4) := fun q9 => by rw [if_pos q9] at hu; omega
              refine V_aload_n dX5_readsLine_94 rfl ?_
              refine V_getIE (ci := 5) (j := 17) (ji := 17) (z := w 71 17) dX5_readsLine_95 s_71 rfl rfl i_X5_readsLine_X5 (by decide) f_X5_readsLine_93 rfl (by rw [y.2.2.2 _ _ (by omega) (by omega), up_ne (by omega), f1 _ _ (by omega)]) ?_
              refine V_putI (ci := 5) (j := 17) (ji := 17) dX5_readsLine_98 s_71 rfl rfl i_X5_readsLine_X5 tyX5_ok nmX5 (by decide) f_X5_readsLine_93 rfl rfl rfl ?_
              refine V_aload_n dX5_readsLine_101 rfl ?_
              refine V_iload_n dX5_readsLine_102 rfl ?_
              refine V_if_ne (tgt := 110) dX5_readsLine_103 (by decide) (by omega) (fun h103 => ?_) (fun h103 => ?_)
              · refine V_iload_n dX5_readsLine_110 rfl ?_
                refine V_bipush dX5_readsLine_111 rfl ?_
                refine V_icmp_ne (tgt := 125) dX5_readsLine_113 (by decide) (by omega) (by omega) (fun h113 => ?_) (fun h113 => ?_)
                · refine V_aload_n dX5_readsLine_125 rfl ?_
                  refine V_getIE (ci := 5) (j := 18) (ji := 18) (z := w 71 18) dX5_readsLine_126 s_71 rfl rfl i_X5_readsLine_X5 (by decide) f_X5_readsLine_109 rfl (by rw [up_ne (by omega), y.2.2.2 _ _ (by omega) (by omega), up_ne (by omega), f1 _ _ (by omega)]) ?_
                  refine V_putI (ci := 5) (j := 18) (ji := 18) dX5_readsLine_129 s_71 rfl rfl i_X5_readsLine_X5 tyX5_ok nmX5 (by decide) f_X5_readsLine_109 rfl rfl rfl ?_
                  refine V_aload_n dX5_readsLine_132 rfl ?_
                  refine V_dup dX5_readsLine_133 rfl ?_
                  refine V_getIE (ci := 5) (j := 5) (ji := 5) (z := w 71 5) dX5_readsLine_134 s_71 rfl rfl i_X5_readsLine_X5 (by decide) f_X5_readsLine_87 rfl (by rw [up_ne (by omega), up_ne (by omega), y.2.2.2 _ _ (by omega) (by omega), up_ne (by omega)]; exact e5) ?_
                  refine V_iconst dX5_readsLine_137 ?_
                  refine V_iadd dX5_readsLine_138 ?_
                  refine V_putI (ci := 5) (j := 5) (ji := 5) dX5_readsLine_139 s_71 rfl rfl i_X5_readsLine_X5 tyX5_ok nmX5 (by decide) f_X5_readsLine_87 rfl rfl rfl ?_
                  refine V_iconst dX5_readsLine_142 ?_
                  exact V_zret dX5_readsLine_143 rfl (by omega) (by rw [er]; exact lm_ok (by omega) no2 no3 rfl f1 (by rw [zz] at y; exact y) _ _ (by unfold ntF; (repeat' split) <;> omega) (by unfold nqF; (repeat' split) <;> omega))
                · refine V_aload_n dX5_readsLine_116 rfl ?_
                  refine V_getIE (ci := 5) (j := 18) (ji := 18) (z := w 71 18) dX5_readsLine_117 s_71 rfl rfl i_X5_readsLine_X5 (by decide) f_X5_readsLine_109 rfl (by rw [up_ne (by omega), y.2.2.2 _ _ (by omega) (by omega), up_ne (by omega), f1 _ _ (by omega)]) ?_
                  refine V_iconst dX5_readsLine_120 ?_
                  refine V_iadd dX5_readsLine_121 ?_
                  refine V_goto (tgt := 129) dX5_readsLine_122 (by decide) ?_
                  refine V_putI (ci := 5) (j := 18) (ji := 18) dX5_readsLine_129 s_71 rfl rfl i_X5_readsLine_X5 tyX5_ok nmX5 (by decide) f_X5_readsLine_109 rfl rfl rfl ?_
                  refine V_aload_n dX5_readsLine_132 rfl ?_
                  refine V_dup dX5_readsLine_133 rfl ?_
                  refine V_getIE (ci := 5) (j := 5) (ji := 5) (z := w 71 5) dX5_readsLine_134 s_71 rfl rfl i_X5_readsLine_X5 (by decide) f_X5_readsLine_87 rfl (by rw [up_ne (by omega), up_ne (by omega), y.2.2.2 _ _ (by omega) (by omega), up_ne (by omega)]; exact e5) ?_
                  refine V_iconst dX5_readsLine_137 ?_
                  refine V_iadd dX5_readsLine_138 ?_
                  refine V_putI (ci := 5) (j := 5) (ji := 5) dX5_readsLine_139 s_71 rfl rfl i_X5_readsLine_X5 tyX5_ok nmX5 (by decide) f_X5_readsLine_87 rfl rfl rfl ?_
                  refine V_iconst dX5_readsLine_142 ?_
                  exact V_zret dX5_readsLine_143 rfl (by omega) (by rw [er]; exact lm_ok (by omega) no2 no3 rfl f1 (by rw [zz] at y; exact y) _ _ (by unfold ntF; (repeat' split) <;> omega) (by unfold nqF; (repeat' split) <;> omega))
              · refine V_iconst dX5_readsLine_106 ?_
                refine V_goto (tgt := 129) dX5_readsLine_107 (by decide) ?_
                refine V_putI (ci := 5) (j := 18) (ji := 18) dX5_readsLine_129 s_71 rfl rfl i_X5_readsLine_X5 tyX5_ok nmX5 (by decide) f_X5_readsLine_109 rfl rfl rfl ?_
                refine V_aload_n dX5_readsLine_132 rfl ?_
                refine V_dup dX5_readsLine_133 rfl ?_
                refine V_getIE (ci := 5) (j := 5) (ji := 5) (z := w 71 5) dX5_readsLine_134 s_71 rfl rfl i_X5_readsLine_X5 (by decide) f_X5_readsLine_87 rfl (by rw [up_ne (by omega), up_ne (by omega), y.2.2.2 _ _ (by omega) (by omega), up_ne (by omega)]; exact e5) ?_
                refine V_iconst dX5_readsLine_137 ?_
                refine V_iadd dX5_readsLine_138 ?_
                refine V_putI (ci := 5) (j := 5) (ji := 5) dX5_readsLine_139 s_71 rfl rfl i_X5_readsLine_X5 tyX5_ok nmX5 (by decide) f_X5_readsLine_87 rfl rfl rfl ?_
                refine V_iconst dX5_readsLine_142 ?_
                exact V_zret dX5_readsLine_143 rfl (by omega) (by rw [er]; exact lm_ok (by omega) no2 no3 rfl f1 (by rw [zz] at y; exact y) _ _ (by unfold ntF; (repeat' split) <;> omega) (by unfold nqF; (repeat' split) <;> omega))
            · have yu : 1 ≤ c ∧ c ≤ 4 := by
                by_cases q9 : 1 ≤ c ∧ c ≤ 4
                · exact q9
                · rw [if_neg q9] at hu; omega
              refine V_aload_n dX5_readsLine_85 rfl ?_
              refine V_getIE (ci := 5) (j := 17) (ji := 17) (z := w 71 17) dX5_readsLine_86 s_71 rfl rfl i_X5_readsLine_X5 (by decide) f_X5_readsLine_93 rfl (by rw [y.2.2.2 _ _ (by omega) (by omega), up_ne (by omega), f1 _ _ (by omega)]) ?_
              refine V_iconst dX5_readsLine_89 ?_
              refine V_iadd dX5_readsLine_90 ?_
              refine V_goto (tgt := 98) dX5_readsLine_91 (by decide) ?_
              refine V_putI (ci := 5) (j := 17) (ji := 17) dX5_readsLine_98 s_71 rfl rfl i_X5_readsLine_X5 tyX5_ok nmX5 (by decide) f_X5_readsLine_93 rfl rfl rfl ?_
              refine V_aload_n dX5_readsLine_101 rfl ?_
              refine V_iload_n dX5_readsLine_102 rfl ?_
              refine V_if_ne (tgt := 110) dX5_readsLine_103 (by decide) (by omega) (fun h103 => ?_) (fun h103 => ?_)
              · refine V_iload_n dX5_readsLine_110 rfl ?_
                refine V_bipush dX5_readsLine_111 rfl ?_
                refine V_icmp_ne (tgt := 125) dX5_readsLine_113 (by decide) (by omega) (by omega) (fun h113 => ?_) (fun h113 => ?_)
                · refine V_aload_n dX5_readsLine_125 rfl ?_
                  refine V_getIE (ci := 5) (j := 18) (ji := 18) (z := w 71 18) dX5_readsLine_126 s_71 rfl rfl i_X5_readsLine_X5 (by decide) f_X5_readsLine_109 rfl (by rw [up_ne (by omega), y.2.2.2 _ _ (by omega) (by omega), up_ne (by omega), f1 _ _ (by omega)]) ?_
                  refine V_putI (ci := 5) (j := 18) (ji := 18) dX5_readsLine_129 s_71 rfl rfl i_X5_readsLine_X5 tyX5_ok nmX5 (by decide) f_X5_readsLine_109 rfl rfl rfl ?_
                  refine V_aload_n dX5_readsLine_132 rfl ?_
                  refine V_dup dX5_readsLine_133 rfl ?_
                  refine V_getIE (ci := 5) (j := 5) (ji := 5) (z := w 71 5) dX5_readsLine_134 s_71 rfl rfl i_X5_readsLine_X5 (by decide) f_X5_readsLine_87 rfl (by rw [up_ne (by omega), up_ne (by omega), y.2.2.2 _ _ (by omega) (by omega), up_ne (by omega)]; exact e5) ?_
                  refine V_iconst dX5_readsLine_137 ?_
                  refine V_iadd dX5_readsLine_138 ?_
                  refine V_putI (ci := 5) (j := 5) (ji := 5) dX5_readsLine_139 s_71 rfl rfl i_X5_readsLine_X5 tyX5_ok nmX5 (by decide) f_X5_readsLine_87 rfl rfl rfl ?_
                  refine V_iconst dX5_readsLine_142 ?_
                  exact V_zret dX5_readsLine_143 rfl (by omega) (by rw [er]; exact lm_ok (by omega) no2 no3 rfl f1 (by rw [zz] at y; exact y) _ _ (by unfold ntF; (repeat' split) <;> omega) (by unfold nqF; (repeat' split) <;> omega))
                · refine V_aload_n dX5_readsLine_116 rfl ?_
                  refine V_getIE (ci := 5) (j := 18) (ji := 18) (z := w 71 18) dX5_readsLine_117 s_71 rfl rfl i_X5_readsLine_X5 (by decide) f_X5_readsLine_109 rfl (by rw [up_ne (by omega), y.2.2.2 _ _ (by omega) (by omega), up_ne (by omega), f1 _ _ (by omega)]) ?_
                  refine V_iconst dX5_readsLine_120 ?_
                  refine V_iadd dX5_readsLine_121 ?_
                  refine V_goto (tgt := 129) dX5_readsLine_122 (by decide) ?_
                  refine V_putI (ci := 5) (j := 18) (ji := 18) dX5_readsLine_129 s_71 rfl rfl i_X5_readsLine_X5 tyX5_ok nmX5 (by decide) f_X5_readsLine_109 rfl rfl rfl ?_
                  refine V_aload_n dX5_readsLine_132 rfl ?_
                  refine V_dup dX5_readsLine_133 rfl ?_
                  refine V_getIE (ci := 5) (j := 5) (ji := 5) (z := w 71 5) dX5_readsLine_134 s_71 rfl rfl i_X5_readsLine_X5 (by decide) f_X5_readsLine_87 rfl (by rw [up_ne (by omega), up_ne (by omega), y.2.2.2 _ _ (by omega) (by omega), up_ne (by omega)]; exact e5) ?_
                  refine V_iconst dX5_readsLine_137 ?_
                  refine V_iadd dX5_readsLine_138 ?_
                  refine V_putI (ci := 5) (j := 5) (ji := 5) dX5_readsLine_139 s_71 rfl rfl i_X5_readsLine_X5 tyX5_ok nmX5 (by decide) f_X5_readsLine_87 rfl rfl rfl ?_
                  refine V_iconst dX5_readsLine_142 ?_
                  exact V_zret dX5_readsLine_143 rfl (by omega) (by rw [er]; exact lm_ok (by omega) no2 no3 rfl f1 (by rw [zz] at y; exact y) _ _ (by unfold ntF; (repeat' split) <;> omega) (by unfold nqF; (repeat' split) <;> omega))
              · refine V_iconst dX5_readsLine_106 ?_
                refine V_goto (tgt := 129) dX5_readsLine_107 (by decide) ?_
                refine V_putI (ci := 5) (j := 18) (ji := 18) dX5_readsLine_129 s_71 rfl rfl i_X5_readsLine_X5 tyX5_ok nmX5 (by decide) f_X5_readsLine_109 rfl rfl rfl ?_
                refine V_aload_n dX5_readsLine_132 rfl ?_
                refine V_dup dX5_readsLine_133 rfl ?_
                refine V_getIE (ci := 5) (j := 5) (ji := 5) (z := w 71 5) dX5_readsLine_134 s_71 rfl rfl i_X5_readsLine_X5 (by decide) f_X5_readsLine_87 rfl (by rw [up_ne (by omega), up_ne (by omega), y.2.2.2 _ _ (by omega) (by omega), up_ne (by omega)]; exact e5) ?_
                refine V_iconst dX5_readsLine_137 ?_
                refine V_iadd dX5_readsLine_138 ?_
                refine V_putI (ci := 5) (j := 5) (ji := 5) dX5_readsLine_139 s_71 rfl rfl i_X5_readsLine_X5 tyX5_ok nmX5 (by decide) f_X5_readsLine_87 rfl rfl rfl ?_
                refine V_iconst dX5_readsLine_142 ?_
                exact V_zret dX5_readsLine_143 rfl (by omega) (by rw [er]; exact lm_ok (by omega) no2 no3 rfl f1 (by rw [zz] at y; exact y) _ _ (by unfold ntF; (repeat' split) <;> omega) (by unfold nqF; (repeat' split) <;> omega))
          · refine V_iconst dX5_readsLine_74 ?_
            refine V_goto (tgt := 98) dX5_readsLine_75 (by decide) ?_
            refine V_putI (ci := 5) (j := 17) (ji := 17) dX5_readsLine_98 s_71 rfl rfl i_X5_readsLine_X5 tyX5_ok nmX5 (by decide) f_X5_readsLine_93 rfl rfl rfl ?_
            refine V_aload_n dX5_readsLine_101 rfl ?_
            refine V_iload_n dX5_readsLine_102 rfl ?_
            refine V_if_ne (tgt := 110) dX5_readsLine_103 (by decide) (by omega) (fun h103 => ?_) (fun h103 => ?_)
            · refine V_iload_n dX5_readsLine_110 rfl ?_
              refine V_bipush dX5_readsLine_111 rfl ?_
              refine V_icmp_ne (tgt := 125) dX5_readsLine_113 (by decide) (by omega) (by omega) (fun h113 => ?_) (fun h113 => ?_)
              · refine V_aload_n dX5_readsLine_125 rfl ?_
                refine V_getIE (ci := 5) (j := 18) (ji := 18) (z := w 71 18) dX5_readsLine_126 s_71 rfl rfl i_X5_readsLine_X5 (by decide) f_X5_readsLine_109 rfl (by rw [up_ne (by omega), y.2.2.2 _ _ (by omega) (by omega), up_ne (by omega), f1 _ _ (by omega)]) ?_
                refine V_putI (ci := 5) (j := 18) (ji := 18) dX5_readsLine_129 s_71 rfl rfl i_X5_readsLine_X5 tyX5_ok nmX5 (by decide) f_X5_readsLine_109 rfl rfl rfl ?_
                refine V_aload_n dX5_readsLine_132 rfl ?_
                refine V_dup dX5_readsLine_133 rfl ?_
                refine V_getIE (ci := 5) (j := 5) (ji := 5) (z := w 71 5) dX5_readsLine_134 s_71 rfl rfl i_X5_readsLine_X5 (by decide) f_X5_readsLine_87 rfl (by rw [up_ne (by omega), up_ne (by omega), y.2.2.2 _ _ (by omega) (by omega), up_ne (by omega)]; exact e5) ?_
                refine V_iconst dX5_readsLine_137 ?_
                refine V_iadd dX5_readsLine_138 ?_
                refine V_putI (ci := 5) (j := 5) (ji := 5) dX5_readsLine_139 s_71 rfl rfl i_X5_readsLine_X5 tyX5_ok nmX5 (by decide) f_X5_readsLine_87 rfl rfl rfl ?_
                refine V_iconst dX5_readsLine_142 ?_
                exact V_zret dX5_readsLine_143 rfl (by omega) (by rw [er]; exact lm_ok (by omega) no2 no3 rfl f1 (by rw [zz] at y; exact y) _ _ (by unfold ntF; (repeat' split) <;> omega) (by unfold nqF; (repeat' split) <;> omega))
              · refine V_aload_n dX5_readsLine_116 rfl ?_
                refine V_getIE (ci := 5) (j := 18) (ji := 18) (z := w 71 18) dX5_readsLine_117 s_71 rfl rfl i_X5_readsLine_X5 (by decide) f_X5_readsLine_109 rfl (by rw [up_ne (by omega), y.2.2.2 _ _ (by omega) (by omega), up_ne (by omega), f1 _ _ (by omega)]) ?_
                refine V_iconst dX5_readsLine_120 ?_
                refine V_iadd dX5_readsLine_121 ?_
                refine V_goto (tgt := 129) dX5_readsLine_122 (by decide) ?_
                refine V_putI (ci := 5) (j := 18) (ji := 18) dX5_readsLine_129 s_71 rfl rfl i_X5_readsLine_X5 tyX5_ok nmX5 (by decide) f_X5_readsLine_109 rfl rfl rfl ?_
                refine V_aload_n dX5_readsLine_132 rfl ?_
                refine V_dup dX5_readsLine_133 rfl ?_
                refine V_getIE (ci := 5) (j := 5) (ji := 5) (z := w 71 5) dX5_readsLine_134 s_71 rfl rfl i_X5_readsLine_X5 (by decide) f_X5_readsLine_87 rfl (by rw [up_ne (by omega), up_ne (by omega), y.2.2.2 _ _ (by omega) (by omega), up_ne (by omega)]; exact e5) ?_
                refine V_iconst dX5_readsLine_137 ?_
                refine V_iadd dX5_readsLine_138 ?_
                refine V_putI (ci := 5) (j := 5) (ji := 5) dX5_readsLine_139 s_71 rfl rfl i_X5_readsLine_X5 tyX5_ok nmX5 (by decide) f_X5_readsLine_87 rfl rfl rfl ?_
                refine V_iconst dX5_readsLine_142 ?_
                exact V_zret dX5_readsLine_143 rfl (by omega) (by rw [er]; exact lm_ok (by omega) no2 no3 rfl f1 (by rw [zz] at y; exact y) _ _ (by unfold ntF; (repeat' split) <;> omega) (by unfold nqF; (repeat' split) <;> omega))
            · refine V_iconst dX5_readsLine_106 ?_
              refine V_goto (tgt := 129) dX5_readsLine_107 (by decide) ?_
              refine V_putI (ci := 5) (j := 18) (ji := 18) dX5_readsLine_129 s_71 rfl rfl i_X5_readsLine_X5 tyX5_ok nmX5 (by decide) f_X5_readsLine_109 rfl rfl rfl ?_
              refine V_aload_n dX5_readsLine_132 rfl ?_
              refine V_dup dX5_readsLine_133 rfl ?_
              refine V_getIE (ci := 5) (j := 5) (ji := 5) (z := w 71 5) dX5_readsLine_134 s_71 rfl rfl i_X5_readsLine_X5 (by decide) f_X5_readsLine_87 rfl (by rw [up_ne (by omega), up_ne (by omega), y.2.2.2 _ _ (by omega) (by omega), up_ne (by omega)]; exact e5) ?_
              refine V_iconst dX5_readsLine_137 ?_
              refine V_iadd dX5_readsLine_138 ?_
              refine V_putI (ci := 5) (j := 5) (ji := 5) dX5_readsLine_139 s_71 rfl rfl i_X5_readsLine_X5 tyX5_ok nmX5 (by decide) f_X5_readsLine_87 rfl rfl rfl ?_
              refine V_iconst dX5_readsLine_142 ?_
              exact V_zret dX5_readsLine_143 rfl (by omega) (by rw [er]; exact lm_ok (by omega) no2 no3 rfl f1 (by rw [zz] at y; exact y) _ _ (by unfold ntF; (repeat' split) <;> omega) (by unfold nqF; (repeat' split) <;> omega))
        · have rf : (rsP T (w 71 17) c (nx T p)).1 = false := by
            cases q : (rsP T (w 71 17) c (nx T p)).1
            · rfl
            · have := y.1; rw [q] at this; simp at this; omega
          refine V_iconst dX5_readsLine_67 ?_
          exact V_zret dX5_readsLine_68 rfl (by omega) (by rw [er]; exact ⟨by rw [rf]; simp, y.2.1, (fun q => by rw [rf] at q; cases q), fun k j q1 q2 => by rw [y.2.2.2 _ _ (by omega) (by omega), up_ne (by omega), f1 _ _ (by omega)]⟩)
      · refine V_aload_n dX5_readsLine_32 rfl ?_
        refine V_getI (ci := 5) (j := 18) (ji := 18) dX5_readsLine_33 s_71 rfl rfl i_X5_readsLine_X5 (by decide) f_X5_readsLine_109 rfl ?_
        refine V_bipush dX5_readsLine_36 rfl ?_
        refine V_icmp_ne (tgt := 43) dX5_readsLine_38 (by decide) (by omega) (by omega) (fun h38 => ?_) (fun h38 => ?_)
        · have no2 : ¬ ((1 ≤ c ∧ c ≤ 4) ∧ w 71 17 = 6) := fun q => by omega
          have no3 : ¬ (c = 6 ∧ w 71 18 = 6) := fun q => by omega
          refine V_aload_n dX5_readsLine_43 rfl ?_
          refine V_vV0 dX5_readsLine_44 o_X5_readsLine_90 s_71 rfl (Nat.le_of_ble_eq_true rfl) (c_X5_token G l hT hk.at_) ?_
          rintro w1 ⟨t1, f1⟩
          rw [hk.2.2.2] at t1
          have t1 : tkM w1 T (nx T p) := t1
          have e5 : w1 71 5 = w 71 5 := f1 _ _ (by omega)
          have e17 : w1 71 17 = w 71 17 := f1 _ _ (by omega)
          have hT1 := f1.tm hT
          have er : lnP T (w 71 17) (w 71 18) p = rsP T (w 71 17) c (nx T p) := ln_rs hcw.symm (by omega) no2 no3
          refine V_aload_n dX5_readsLine_47 rfl ?_
          refine V_getR (ci := 5) (j := 4) dX5_readsLine_48 s_71 rfl rfl i_X5_readsLine_X5 (by decide) f_X5_readsLine_20 ?_
          refine V_iconst dX5_readsLine_51 ?_
          refine V_aload_n dX5_readsLine_52 rfl ?_
          refine V_getIE (ci := 5) (j := 5) (ji := 5) (z := w 71 5) dX5_readsLine_53 s_71 rfl rfl i_X5_readsLine_X5 (by decide) f_X5_readsLine_87 rfl e5 ?_
          refine V_imul dX5_readsLine_56 ?_
          refine V_iload_n dX5_readsLine_57 rfl ?_
          refine V_iast dX5_readsLine_58 s_75 (by show 0 ≤ _ ∧ _ < (48 : Int); omega) ?_
          refine V_aload_n dX5_readsLine_59 rfl ?_
          refine V_iload_n dX5_readsLine_60 rfl ?_
          refine V_iV1 dX5_readsLine_61 o_X5_readsLine_112 s_71 rfl (Nat.le_of_ble_eq_true rfl) (c_X5_readsRest G l (w := up w1 75 (4 * w 71 5) c) (hT1.keep (up_ne (by omega)) (fun i => up_ne (by omega))) (t1.up (by omega)) (by rw [up_ne (by omega)]; omega) (by rw [up_ne (by omega)]; omega) (c := c) (by omega)) ?_
          rintro z w2 y
          rw [up_ne (by omega), up_ne (by omega), e5, e17] at y
          have rz : z = 0 ∨ z = 1 := by rw [y.1]; split <;> simp
          refine V_if_ne (tgt := 69) dX5_readsLine_64 (by decide) (by omega) (fun h64 => ?_) (fun h64 => ?_)
          · have zz : z = 1 := by omega
            refine V_aload_n dX5_readsLine_69 rfl ?_
            refine V_iload_n dX5_readsLine_70 rfl ?_
            refine V_if_ne (tgt := 78) dX5_readsLine_71 (by decide) (by omega) (fun h71 => ?_) (fun h71 => ?_)
            · refine V_iload_n dX5_readsLine_78 rfl ?_
              refine V_iS1 dX5_readsLine_79 o_X5_readsLine_105 (Nat.le_of_ble_eq_true rfl) (c_X5_isTreeWord G l (by omega)) ?_
              rintro u _ ⟨hu, rfl⟩
              have ru : u = 0 ∨ u = 1 := by rw [hu]; split <;> simp
              refine V_if_eq (tgt := 94) dX5_readsLine_82 (by decide) (by omega) (fun h82 => ?_) (fun h82 => ?_)
              · have nu : ¬ (1 ≤ c ∧ c ≤ 4) := fun q9 => by rw [if_pos q9] at hu; omega
                refine V_aload_n dX5_readsLine_94 rfl ?_
                refine V_getIE (ci := 5) (j := 17) (ji := 17) (z := w 71 17) dX5_readsLine_95 s_71 rfl rfl i_X5_readsLine_X5 (by decide) f_X5_readsLine_93 rfl (by rw [y.2.2.2 _ _ (by omega) (by omega), up_ne (by omega), f1 _ _ (by omega)]) ?_
                refine V_putI (ci := 5) (j := 17) (ji := 17) dX5_readsLine_98 s_71 rfl rfl i_X5_readsLine_X5 tyX5_ok nmX5 (by decide) f_X5_readsLine_93 rfl rfl rfl ?_
                refine V_aload_n dX5_readsLine_101 rfl ?_
                refine V_iload_n dX5_readsLine_102 rfl ?_
                refine V_if_ne (tgt := 110) dX5_readsLine_103 (by decide) (by omega) (fun h103 => ?_) (fun h103 => ?_)
                · refine V_iload_n dX5_readsLine_110 rfl ?_
                  refine V_bipush dX5_readsLine_111 rfl ?_
                  refine V_icmp_ne (tgt := 125) dX5_readsLine_113 (by decide) (by omega) (by omega) (fun h113 => ?_) (fun h113 => ?_)
                  · refine V_aload_n dX5_readsLine_125 rfl ?_
                    refine V_getIE (ci := 5) (j := 18) (ji := 18) (z := w 71 18) dX5_readsLine_126 s_71 rfl rfl i_X5_readsLine_X5 (by decide) f_X5_readsLine_109 rfl (by rw [up_ne (by omega), y.2.2.2 _ _ (by omega) (by omega), up_ne (by omega), f1 _ _ (by omega)]) ?_
                    refine V_putI (ci := 5) (j := 18) (ji := 18) dX5_readsLine_129 s_71 rfl rfl i_X5_readsLine_X5 tyX5_ok nmX5 (by decide) f_X5_readsLine_109 rfl rfl rfl ?_
                    refine V_aload_n dX5_readsLine_132 rfl ?_
                    refine V_dup dX5_readsLine_133 rfl ?_
                    refine V_getIE (ci := 5) (j := 5) (ji := 5) (z := w 71 5) dX5_readsLine_134 s_71 rfl rfl i_X5_readsLine_X5 (by decide) f_X5_readsLine_87 rfl (by rw [up_ne (by omega), up_ne (by omega), y.2.2.2 _ _ (by omega) (by omega), up_ne (by omega)]; exact e5) ?_
                    refine V_iconst dX5_readsLine_137 ?_
                    refine V_iadd dX5_readsLine_138 ?_
                    refine V_putI (ci := 5) (j := 5) (ji := 5) dX5_readsLine_139 s_71 rfl rfl i_X5_readsLine_X5 tyX5_ok nmX5 (by decide) f_X5_readsLine_87 rfl rfl rfl ?_
                    refine V_iconst dX5_readsLine_142 ?_
                    exact V_zret dX5_readsLine_143 rfl (by omega) (by rw [er]; exact lm_ok (by omega) no2 no3 rfl f1 (by rw [zz] at y; exact y) _ _ (by unfold ntF; (repeat' split) <;> omega) (by unfold nqF; (repeat' split) <;> omega))
                  · refine V_aload_n dX5_readsLine_116 rfl ?_
                    refine V_getIE (ci := 5) (j := 18) (ji := 18) (z := w 71 18) dX5_readsLine_117 s_71 rfl rfl i_X5_readsLine_X5 (by decide) f_X5_readsLine_109 rfl (by rw [up_ne (by omega), y.2.2.2 _ _ (by omega) (by omega), up_ne (by omega), f1 _ _ (by omega)]) ?_
                    refine V_iconst dX5_readsLine_120 ?_
                    refine V_iadd dX5_readsLine_121 ?_
                    refine V_goto (tgt := 129) dX5_readsLine_122 (by decide) ?_
                    refine V_putI (ci := 5) (j := 18) (ji := 18) dX5_readsLine_129 s_71 rfl rfl i_X5_readsLine_X5 tyX5_ok nmX5 (by decide) f_X5_readsLine_109 rfl rfl rfl ?_
                    refine V_aload_n dX5_readsLine_132 rfl ?_
                    refine V_dup dX5_readsLine_133 rfl ?_
                    refine V_getIE (ci := 5) (j := 5) (ji := 5) (z := w 71 5) dX5_readsLine_134 s_71 rfl rfl i_X5_readsLine_X5 (by decide) f_X5_readsLine_87 rfl (by rw [up_ne (by omega), up_ne (by omega), y.2.2.2 _ _ (by omega) (by omega), up_ne (by omega)]; exact e5) ?_
                    refine V_iconst dX5_readsLine_137 ?_
                    refine V_iadd dX5_readsLine_138 ?_
                    refine V_putI (ci := 5) (j := 5) (ji := 5) dX5_readsLine_139 s_71 rfl rfl i_X5_readsLine_X5 tyX5_ok nmX5 (by decide) f_X5_readsLine_87 rfl rfl rfl ?_
                    refine V_iconst dX5_readsLine_142 ?_
                    exact V_zret dX5_readsLine_143 rfl (by omega) (by rw [er]; exact lm_ok (by omega) no2 no3 rfl f1 (by rw [zz] at y; exact y) _ _ (by unfold ntF; (repeat' split) <;> omega) (by unfold nqF; (repeat' split) <;> omega))
                · refine V_iconst dX5_readsLine_106 ?_
                  refine V_goto (tgt := 129) dX5_readsLine_107 (by decide) ?_
                  refine V_putI (ci := 5) (j := 18) (ji := 18) dX5_readsLine_129 s_71 rfl rfl i_X5_readsLine_X5 tyX5_ok nmX5 (by decide) f_X5_readsLine_109 rfl rfl rfl ?_
                  refine V_aload_n dX5_readsLine_132 rfl ?_
                  refine V_dup dX5_readsLine_133 rfl ?_
                  refine V_getIE (ci := 5) (j := 5) (ji := 5) (z := w 71 5) dX5_readsLine_134 s_71 rfl rfl i_X5_readsLine_X5 (by decide) f_X5_readsLine_87 rfl (by rw [up_ne (by omega), up_ne (by omega), y.2.2.2 _ _ (by omega) (by omega), up_ne (by omega)]; exact e5) ?_
                  refine V_iconst dX5_readsLine_137 ?_
                  refine V_iadd dX5_readsLine_138 ?_
                  refine V_putI (ci := 5) (j := 5) (ji := 5) dX5_readsLine_139 s_71 rfl rfl i_X5_readsLine_X5 tyX5_ok nmX5 (by decide) f_X5_readsLine_87 rfl rfl rfl ?_
                  refine V_iconst dX5_readsLine_142 ?_
                  exact V_zret dX5_readsLine_143 rfl (by omega) (by rw [er]; exact lm_ok (by omega) no2 no3 rfl f1 (by rw [zz] at y; exact y) _ _ (by unfold ntF; (repeat' split) <;> omega) (by unfold nqF; (repeat' split) <;> omega))
              · have yu : 1 ≤ c ∧ c ≤ 4 := by
                  by_cases q9 : 1 ≤ c ∧ c ≤ 4
                  · exact q9
                  · rw [if_neg q9] at hu; omega
                refine V_aload_n dX5_readsLine_85 rfl ?_
                refine V_getIE (ci := 5) (j := 17) (ji := 17) (z := w 71 17) dX5_readsLine_86 s_71 rfl rfl i_X5_readsLine_X5 (by decide) f_X5_readsLine_93 rfl (by rw [y.2.2.2 _ _ (by omega) (by omega), up_ne (by omega), f1 _ _ (by omega)]) ?_
                refine V_iconst dX5_readsLine_89 ?_
                refine V_iadd dX5_readsLine_90 ?_
                refine V_goto (tgt := 98) dX5_readsLine_91 (by decide) ?_
                refine V_putI (ci := 5) (j := 17) (ji := 17) dX5_readsLine_98 s_71 rfl rfl i_X5_readsLine_X5 tyX5_ok nmX5 (by decide) f_X5_readsLine_93 rfl rfl rfl ?_
                refine V_aload_n dX5_readsLine_101 rfl ?_
                refine V_iload_n dX5_readsLine_102 rfl ?_
                refine V_if_ne (tgt := 110) dX5_readsLine_103 (by decide) (by omega) (fun h103 => ?_) (fun h103 => ?_)
                · refine V_iload_n dX5_readsLine_110 rfl ?_
                  refine V_bipush dX5_readsLine_111 rfl ?_
                  refine V_icmp_ne (tgt := 125) dX5_readsLine_113 (by decide) (by omega) (by omega) (fun h113 => ?_) (fun h113 => ?_)
                  · refine V_aload_n dX5_readsLine_125 rfl ?_
                    refine V_getIE (ci := 5) (j := 18) (ji := 18) (z := w 71 18) dX5_readsLine_126 s_71 rfl rfl i_X5_readsLine_X5 (by decide) f_X5_readsLine_109 rfl (by rw [up_ne (by omega), y.2.2.2 _ _ (by omega) (by omega), up_ne (by omega), f1 _ _ (by omega)]) ?_
                    refine V_putI (ci := 5) (j := 18) (ji := 18) dX5_readsLine_129 s_71 rfl rfl i_X5_readsLine_X5 tyX5_ok nmX5 (by decide) f_X5_readsLine_109 rfl rfl rfl ?_
                    refine V_aload_n dX5_readsLine_132 rfl ?_
                    refine V_dup dX5_readsLine_133 rfl ?_
                    refine V_getIE (ci := 5) (j := 5) (ji := 5) (z := w 71 5) dX5_readsLine_134 s_71 rfl rfl i_X5_readsLine_X5 (by decide) f_X5_readsLine_87 rfl (by rw [up_ne (by omega), up_ne (by omega), y.2.2.2 _ _ (by omega) (by omega), up_ne (by omega)]; exact e5) ?_
                    refine V_iconst dX5_readsLine_137 ?_
                    refine V_iadd dX5_readsLine_138 ?_
                    refine V_putI (ci := 5) (j := 5) (ji := 5) dX5_readsLine_139 s_71 rfl rfl i_X5_readsLine_X5 tyX5_ok nmX5 (by decide) f_X5_readsLine_87 rfl rfl rfl ?_
                    refine V_iconst dX5_readsLine_142 ?_
                    exact V_zret dX5_readsLine_143 rfl (by omega) (by rw [er]; exact lm_ok (by omega) no2 no3 rfl f1 (by rw [zz] at y; exact y) _ _ (by unfold ntF; (repeat' split) <;> omega) (by unfold nqF; (repeat' split) <;> omega))
                  · refine V_aload_n dX5_readsLine_116 rfl ?_
                    refine V_getIE (ci := 5) (j := 18) (ji := 18) (z := w 71 18) dX5_readsLine_117 s_71 rfl rfl i_X5_readsLine_X5 (by decide) f_X5_readsLine_109 rfl (by rw [up_ne (by omega), y.2.2.2 _ _ (by omega) (by omega), up_ne (by omega), f1 _ _ (by omega)]) ?_
                    refine V_iconst dX5_readsLine_120 ?_
                    refine V_iadd dX5_readsLine_121 ?_
                    refine V_goto (tgt := 129) dX5_readsLine_122 (by decide) ?_
                    refine V_putI (ci := 5) (j := 18) (ji := 18) dX5_readsLine_129 s_71 rfl rfl i_X5_readsLine_X5 tyX5_ok nmX5 (by decide) f_X5_readsLine_109 rfl rfl rfl ?_
                    refine V_aload_n dX5_readsLine_132 rfl ?_
                    refine V_dup dX5_readsLine_133 rfl ?_
                    refine V_getIE (ci := 5) (j := 5) (ji := 5) (z := w 71 5) dX5_readsLine_134 s_71 rfl rfl i_X5_readsLine_X5 (by decide) f_X5_readsLine_87 rfl (by rw [up_ne (by omega), up_ne (by omega), y.2.2.2 _ _ (by omega) (by omega), up_ne (by omega)]; exact e5) ?_
                    refine V_iconst dX5_readsLine_137 ?_
                    refine V_iadd dX5_readsLine_138 ?_
                    refine V_putI (ci := 5) (j := 5) (ji := 5) dX5_readsLine_139 s_71 rfl rfl i_X5_readsLine_X5 tyX5_ok nmX5 (by decide) f_X5_readsLine_87 rfl rfl rfl ?_
                    refine V_iconst dX5_readsLine_142 ?_
                    exact V_zret dX5_readsLine_143 rfl (by omega) (by rw [er]; exact lm_ok (by omega) no2 no3 rfl f1 (by rw [zz] at y; exact y) _ _ (by unfold ntF; (repeat' split) <;> omega) (by unfold nqF; (repeat' split) <;> omega))
                · refine V_iconst dX5_readsLine_106 ?_
                  refine V_goto (tgt := 129) dX5_readsLine_107 (by decide) ?_
                  refine V_putI (ci := 5) (j := 18) (ji := 18) dX5_readsLine_129 s_71 rfl rfl i_X5_readsLine_X5 tyX5_ok nmX5 (by decide) f_X5_readsLine_109 rfl rfl rfl ?_
                  refine V_aload_n dX5_readsLine_132 rfl ?_
                  refine V_dup dX5_readsLine_133 rfl ?_
                  refine V_getIE (ci := 5) (j := 5) (ji := 5) (z := w 71 5) dX5_readsLine_134 s_71 rfl rfl i_X5_readsLine_X5 (by decide) f_X5_readsLine_87 rfl (by rw [up_ne (by omega), up_ne (by omega), y.2.2.2 _ _ (by omega) (by omega), up_ne (by omega)]; exact e5) ?_
                  refine V_iconst dX5_readsLine_137 ?_
                  refine V_iadd dX5_readsLine_138 ?_
                  refine V_putI (ci := 5) (j := 5) (ji := 5) dX5_readsLine_139 s_71 rfl rfl i_X5_readsLine_X5 tyX5_ok nmX5 (by decide) f_X5_readsLine_87 rfl rfl rfl ?_
                  refine V_iconst dX5_readsLine_142 ?_
                  exact V_zret dX5_readsLine_143 rfl (by omega) (by rw [er]; exact lm_ok (by omega) no2 no3 rfl f1 (by rw [zz] at y; exact y) _ _ (by unfold ntF; (repeat' split) <;> omega) (by unfold nqF; (repeat' split) <;> omega))
            · refine V_iconst dX5_readsLine_74 ?_
              refine V_goto (tgt := 98) dX5_readsLine_75 (by decide) ?_
              refine V_putI (ci := 5) (j := 17) (ji := 17) dX5_readsLine_98 s_71 rfl rfl i_X5_readsLine_X5 tyX5_ok nmX5 (by decide) f_X5_readsLine_93 rfl rfl rfl ?_
              refine V_aload_n dX5_readsLine_101 rfl ?_
              refine V_iload_n dX5_readsLine_102 rfl ?_
              refine V_if_ne (tgt := 110) dX5_readsLine_103 (by decide) (by omega) (fun h103 => ?_) (fun h103 => ?_)
              · refine V_iload_n dX5_readsLine_110 rfl ?_
                refine V_bipush dX5_readsLine_111 rfl ?_
                refine V_icmp_ne (tgt := 125) dX5_readsLine_113 (by decide) (by omega) (by omega) (fun h113 => ?_) (fun h113 => ?_)
                · refine V_aload_n dX5_readsLine_125 rfl ?_
                  refine V_getIE (ci := 5) (j := 18) (ji := 18) (z := w 71 18) dX5_readsLine_126 s_71 rfl rfl i_X5_readsLine_X5 (by decide) f_X5_readsLine_109 rfl (by rw [up_ne (by omega), y.2.2.2 _ _ (by omega) (by omega), up_ne (by omega), f1 _ _ (by omega)]) ?_
                  refine V_putI (ci := 5) (j := 18) (ji := 18) dX5_readsLine_129 s_71 rfl rfl i_X5_readsLine_X5 tyX5_ok nmX5 (by decide) f_X5_readsLine_109 rfl rfl rfl ?_
                  refine V_aload_n dX5_readsLine_132 rfl ?_
                  refine V_dup dX5_readsLine_133 rfl ?_
                  refine V_getIE (ci := 5) (j := 5) (ji := 5) (z := w 71 5) dX5_readsLine_134 s_71 rfl rfl i_X5_readsLine_X5 (by decide) f_X5_readsLine_87 rfl (by rw [up_ne (by omega), up_ne (by omega), y.2.2.2 _ _ (by omega) (by omega), up_ne (by omega)]; exact e5) ?_
                  refine V_iconst dX5_readsLine_137 ?_
                  refine V_iadd dX5_readsLine_138 ?_
                  refine V_putI (ci := 5) (j := 5) (ji := 5) dX5_readsLine_139 s_71 rfl rfl i_X5_readsLine_X5 tyX5_ok nmX5 (by decide) f_X5_readsLine_87 rfl rfl rfl ?_
                  refine V_iconst dX5_readsLine_142 ?_
                  exact V_zret dX5_readsLine_143 rfl (by omega) (by rw [er]; exact lm_ok (by omega) no2 no3 rfl f1 (by rw [zz] at y; exact y) _ _ (by unfold ntF; (repeat' split) <;> omega) (by unfold nqF; (repeat' split) <;> omega))
                · refine V_aload_n dX5_readsLine_116 rfl ?_
                  refine V_getIE (ci := 5) (j := 18) (ji := 18) (z := w 71 18) dX5_readsLine_117 s_71 rfl rfl i_X5_readsLine_X5 (by decide) f_X5_readsLine_109 rfl (by rw [up_ne (by omega), y.2.2.2 _ _ (by omega) (by omega), up_ne (by omega), f1 _ _ (by omega)]) ?_
                  refine V_iconst dX5_readsLine_120 ?_
                  refine V_iadd dX5_readsLine_121 ?_
                  refine V_goto (tgt := 129) dX5_readsLine_122 (by decide) ?_
                  refine V_putI (ci := 5) (j := 18) (ji := 18) dX5_readsLine_129 s_71 rfl rfl i_X5_readsLine_X5 tyX5_ok nmX5 (by decide) f_X5_readsLine_109 rfl rfl rfl ?_
                  refine V_aload_n dX5_readsLine_132 rfl ?_
                  refine V_dup dX5_readsLine_133 rfl ?_
                  refine V_getIE (ci := 5) (j := 5) (ji := 5) (z := w 71 5) dX5_readsLine_134 s_71 rfl rfl i_X5_readsLine_X5 (by decide) f_X5_readsLine_87 rfl (by rw [up_ne (by omega), up_ne (by omega), y.2.2.2 _ _ (by omega) (by omega), up_ne (by omega)]; exact e5) ?_
                  refine V_iconst dX5_readsLine_137 ?_
                  refine V_iadd dX5_readsLine_138 ?_
                  refine V_putI (ci := 5) (j := 5) (ji := 5) dX5_readsLine_139 s_71 rfl rfl i_X5_readsLine_X5 tyX5_ok nmX5 (by decide) f_X5_readsLine_87 rfl rfl rfl ?_
                  refine V_iconst dX5_readsLine_142 ?_
                  exact V_zret dX5_readsLine_143 rfl (by omega) (by rw [er]; exact lm_ok (by omega) no2 no3 rfl f1 (by rw [zz] at y; exact y) _ _ (by unfold ntF; (repeat' split) <;> omega) (by unfold nqF; (repeat' split) <;> omega))
              · refine V_iconst dX5_readsLine_106 ?_
                refine V_goto (tgt := 129) dX5_readsLine_107 (by decide) ?_
                refine V_putI (ci := 5) (j := 18) (ji := 18) dX5_readsLine_129 s_71 rfl rfl i_X5_readsLine_X5 tyX5_ok nmX5 (by decide) f_X5_readsLine_109 rfl rfl rfl ?_
                refine V_aload_n dX5_readsLine_132 rfl ?_
                refine V_dup dX5_readsLine_133 rfl ?_
                refine V_getIE (ci := 5) (j := 5) (ji := 5) (z := w 71 5) dX5_readsLine_134 s_71 rfl rfl i_X5_readsLine_X5 (by decide) f_X5_readsLine_87 rfl (by rw [up_ne (by omega), up_ne (by omega), y.2.2.2 _ _ (by omega) (by omega), up_ne (by omega)]; exact e5) ?_
                refine V_iconst dX5_readsLine_137 ?_
                refine V_iadd dX5_readsLine_138 ?_
                refine V_putI (ci := 5) (j := 5) (ji := 5) dX5_readsLine_139 s_71 rfl rfl i_X5_readsLine_X5 tyX5_ok nmX5 (by decide) f_X5_readsLine_87 rfl rfl rfl ?_
                refine V_iconst dX5_readsLine_142 ?_
                exact V_zret dX5_readsLine_143 rfl (by omega) (by rw [er]; exact lm_ok (by omega) no2 no3 rfl f1 (by rw [zz] at y; exact y) _ _ (by unfold ntF; (repeat' split) <;> omega) (by unfold nqF; (repeat' split) <;> omega))
          · have rf : (rsP T (w 71 17) c (nx T p)).1 = false := by
              cases q : (rsP T (w 71 17) c (nx T p)).1
              · rfl
              · have := y.1; rw [q] at this; simp at this; omega
            refine V_iconst dX5_readsLine_67 ?_
            exact V_zret dX5_readsLine_68 rfl (by omega) (by rw [er]; exact ⟨by rw [rf]; simp, y.2.1, (fun q => by rw [rf] at q; cases q), fun k j q1 q2 => by rw [y.2.2.2 _ _ (by omega) (by omega), up_ne (by omega), f1 _ _ (by omega)]⟩)
        · have rr : lmR T (lnP T (w 71 17) (w 71 18) p) (w 71 5) (w 71 17) (w 71 18) w w 0 := by rw [ln_no (Or.inr (Or.inr (by omega)))]; exact lm_fail hk
          refine V_iconst dX5_readsLine_41 ?_
          exact V_zret dX5_readsLine_42 rfl (by omega) rr
    · have ys : 1 ≤ c ∧ c ≤ 4 := by
        by_cases q9 : 1 ≤ c ∧ c ≤ 4
        · exact q9
        · rw [if_neg q9] at hs; omega
      refine V_aload_n dX5_readsLine_17 rfl ?_
      refine V_getI (ci := 5) (j := 17) (ji := 17) dX5_readsLine_18 s_71 rfl rfl i_X5_readsLine_X5 (by decide) f_X5_readsLine_93 rfl ?_
      refine V_bipush dX5_readsLine_21 rfl ?_
      refine V_icmp_eq (tgt := 41) dX5_readsLine_23 (by decide) (by omega) (by omega) (fun h23 => ?_) (fun h23 => ?_)
      · have rr : lmR T (lnP T (w 71 17) (w 71 18) p) (w 71 5) (w 71 17) (w 71 18) w w 0 := by rw [ln_no (Or.inr (Or.inl (by omega)))]; exact lm_fail hk
        refine V_iconst dX5_readsLine_41 ?_
        exact V_zret dX5_readsLine_42 rfl (by omega) rr
      · refine V_iload_n dX5_readsLine_26 rfl ?_
        refine V_bipush dX5_readsLine_27 rfl ?_
        refine V_icmp_ne (tgt := 43) dX5_readsLine_29 (by decide) (by omega) (by omega) (fun h29 => ?_) (fun h29 => ?_)
        · have no2 : ¬ ((1 ≤ c ∧ c ≤ 4) ∧ w 71 17 = 6) := fun q => by omega
          have no3 : ¬ (c = 6 ∧ w 71 18 = 6) := fun q => by omega
          refine V_aload_n dX5_readsLine_43 rfl ?_
          refine V_vV0 dX5_readsLine_44 o_X5_readsLine_90 s_71 rfl (Nat.le_of_ble_eq_true rfl) (c_X5_token G l hT hk.at_) ?_
          rintro w1 ⟨t1, f1⟩
          rw [hk.2.2.2] at t1
          have t1 : tkM w1 T (nx T p) := t1
          have e5 : w1 71 5 = w 71 5 := f1 _ _ (by omega)
          have e17 : w1 71 17 = w 71 17 := f1 _ _ (by omega)
          have hT1 := f1.tm hT
          have er : lnP T (w 71 17) (w 71 18) p = rsP T (w 71 17) c (nx T p) := ln_rs hcw.symm (by omega) no2 no3
          refine V_aload_n dX5_readsLine_47 rfl ?_
          refine V_getR (ci := 5) (j := 4) dX5_readsLine_48 s_71 rfl rfl i_X5_readsLine_X5 (by decide) f_X5_readsLine_20 ?_
          refine V_iconst dX5_readsLine_51 ?_
          refine V_aload_n dX5_readsLine_52 rfl ?_
          refine V_getIE (ci := 5) (j := 5) (ji := 5) (z := w 71 5) dX5_readsLine_53 s_71 rfl rfl i_X5_readsLine_X5 (by decide) f_X5_readsLine_87 rfl e5 ?_
          refine V_imul dX5_readsLine_56 ?_
          refine V_iload_n dX5_readsLine_57 rfl ?_
          refine V_iast dX5_readsLine_58 s_75 (by show 0 ≤ _ ∧ _ < (48 : Int); omega) ?_
          refine V_aload_n dX5_readsLine_59 rfl ?_
          refine V_iload_n dX5_readsLine_60 rfl ?_
          refine V_iV1 dX5_readsLine_61 o_X5_readsLine_112 s_71 rfl (Nat.le_of_ble_eq_true rfl) (c_X5_readsRest G l (w := up w1 75 (4 * w 71 5) c) (hT1.keep (up_ne (by omega)) (fun i => up_ne (by omega))) (t1.up (by omega)) (by rw [up_ne (by omega)]; omega) (by rw [up_ne (by omega)]; omega) (c := c) (by omega)) ?_
          rintro z w2 y
          rw [up_ne (by omega), up_ne (by omega), e5, e17] at y
          have rz : z = 0 ∨ z = 1 := by rw [y.1]; split <;> simp
          refine V_if_ne (tgt := 69) dX5_readsLine_64 (by decide) (by omega) (fun h64 => ?_) (fun h64 => ?_)
          · have zz : z = 1 := by omega
            refine V_aload_n dX5_readsLine_69 rfl ?_
            refine V_iload_n dX5_readsLine_70 rfl ?_
            refine V_if_ne (tgt := 78) dX5_readsLine_71 (by decide) (by omega) (fun h71 => ?_) (fun h71 => ?_)
            · refine V_iload_n dX5_readsLine_78 rfl ?_
              refine V_iS1 dX5_readsLine_79 o_X5_readsLine_105 (Nat.le_of_ble_eq_true rfl) (c_X5_isTreeWord G l (by omega)) ?_
              rintro u _ ⟨hu, rfl⟩
              have ru : u = 0 ∨ u = 1 := by rw [hu]; split <;> simp
              refine V_if_eq (tgt := 94) dX5_readsLine_82 (by decide) (by omega) (fun h82 => ?_) (fun h82 => ?_)
              · have nu : ¬ (1 ≤ c ∧ c ≤ 4) := fun q9 => by rw [if_pos q9] at hu; omega
                refine V_aload_n dX5_readsLine_94 rfl ?_
                refine V_getIE (ci := 5) (j := 17) (ji := 17) (z := w 71 17) dX5_readsLine_95 s_71 rfl rfl i_X5_readsLine_X5 (by decide) f_X5_readsLine_93 rfl (by rw [y.2.2.2 _ _ (by omega) (by omega), up_ne (by omega), f1 _ _ (by omega)]) ?_
                refine V_putI (ci := 5) (j := 17) (ji := 17) dX5_readsLine_98 s_71 rfl rfl i_X5_readsLine_X5 tyX5_ok nmX5 (by decide) f_X5_readsLine_93 rfl rfl rfl ?_
                refine V_aload_n dX5_readsLine_101 rfl ?_
                refine V_iload_n dX5_readsLine_102 rfl ?_
                refine V_if_ne (tgt := 110) dX5_readsLine_103 (by decide) (by omega) (fun h103 => ?_) (fun h103 => ?_)
                · refine V_iload_n dX5_readsLine_110 rfl ?_
                  refine V_bipush dX5_readsLine_111 rfl ?_
                  refine V_icmp_ne (tgt := 125) dX5_readsLine_113 (by decide) (by omega) (by omega) (fun h113 => ?_) (fun h113 => ?_)
                  · refine V_aload_n dX5_readsLine_125 rfl ?_
                    refine V_getIE (ci := 5) (j := 18) (ji := 18) (z := w 71 18) dX5_readsLine_126 s_71 rfl rfl i_X5_readsLine_X5 (by decide) f_X5_readsLine_109 rfl (by rw [up_ne (by omega), y.2.2.2 _ _ (by omega) (by omega), up_ne (by omega), f1 _ _ (by omega)]) ?_
                    refine V_putI (ci := 5) (j := 18) (ji := 18) dX5_readsLine_129 s_71 rfl rfl i_X5_readsLine_X5 tyX5_ok nmX5 (by decide) f_X5_readsLine_109 rfl rfl rfl ?_
                    refine V_aload_n dX5_readsLine_132 rfl ?_
                    refine V_dup dX5_readsLine_133 rfl ?_
                    refine V_getIE (ci := 5) (j := 5) (ji := 5) (z := w 71 5) dX5_readsLine_134 s_71 rfl rfl i_X5_readsLine_X5 (by decide) f_X5_readsLine_87 rfl (by rw [up_ne (by omega), up_ne (by omega), y.2.2.2 _ _ (by omega) (by omega), up_ne (by omega)]; exact e5) ?_
                    refine V_iconst dX5_readsLine_137 ?_
                    refine V_iadd dX5_readsLine_138 ?_
                    refine V_putI (ci := 5) (j := 5) (ji := 5) dX5_readsLine_139 s_71 rfl rfl i_X5_readsLine_X5 tyX5_ok nmX5 (by decide) f_X5_readsLine_87 rfl rfl rfl ?_
                    refine V_iconst dX5_readsLine_142 ?_
                    exact V_zret dX5_readsLine_143 rfl (by omega) (by rw [er]; exact lm_ok (by omega) no2 no3 rfl f1 (by rw [zz] at y; exact y) _ _ (by unfold ntF; (repeat' split) <;> omega) (by unfold nqF; (repeat' split) <;> omega))
                  · refine V_aload_n dX5_readsLine_116 rfl ?_
                    refine V_getIE (ci := 5) (j := 18) (ji := 18) (z := w 71 18) dX5_readsLine_117 s_71 rfl rfl i_X5_readsLine_X5 (by decide) f_X5_readsLine_109 rfl (by rw [up_ne (by omega), y.2.2.2 _ _ (by omega) (by omega), up_ne (by omega), f1 _ _ (by omega)]) ?_
                    refine V_iconst dX5_readsLine_120 ?_
                    refine V_iadd dX5_readsLine_121 ?_
                    refine V_goto (tgt := 129) dX5_readsLine_122 (by decide) ?_
                    refine V_putI (ci := 5) (j := 18) (ji := 18) dX5_readsLine_129 s_71 rfl rfl i_X5_readsLine_X5 tyX5_ok nmX5 (by decide) f_X5_readsLine_109 rfl rfl rfl ?_
                    refine V_aload_n dX5_readsLine_132 rfl ?_
                    refine V_dup dX5_readsLine_133 rfl ?_
                    refine V_getIE (ci := 5) (j := 5) (ji := 5) (z := w 71 5) dX5_readsLine_134 s_71 rfl rfl i_X5_readsLine_X5 (by decide) f_X5_readsLine_87 rfl (by rw [up_ne (by omega), up_ne (by omega), y.2.2.2 _ _ (by omega) (by omega), up_ne (by omega)]; exact e5) ?_
                    refine V_iconst dX5_readsLine_137 ?_
                    refine V_iadd dX5_readsLine_138 ?_
                    refine V_putI (ci := 5) (j := 5) (ji := 5) dX5_readsLine_139 s_71 rfl rfl i_X5_readsLine_X5 tyX5_ok nmX5 (by decide) f_X5_readsLine_87 rfl rfl rfl ?_
                    refine V_iconst dX5_readsLine_142 ?_
                    exact V_zret dX5_readsLine_143 rfl (by omega) (by rw [er]; exact lm_ok (by omega) no2 no3 rfl f1 (by rw [zz] at y; exact y) _ _ (by unfold ntF; (repeat' split) <;> omega) (by unfold nqF; (repeat' split) <;> omega))
                · refine V_iconst dX5_readsLine_106 ?_
                  refine V_goto (tgt := 129) dX5_readsLine_107 (by decide) ?_
                  refine V_putI (ci := 5) (j := 18) (ji := 18) dX5_readsLine_129 s_71 rfl rfl i_X5_readsLine_X5 tyX5_ok nmX5 (by decide) f_X5_readsLine_109 rfl rfl rfl ?_
                  refine V_aload_n dX5_readsLine_132 rfl ?_
                  refine V_dup dX5_readsLine_133 rfl ?_
                  refine V_getIE (ci := 5) (j := 5) (ji := 5) (z := w 71 5) dX5_readsLine_134 s_71 rfl rfl i_X5_readsLine_X5 (by decide) f_X5_readsLine_87 rfl (by rw [up_ne (by omega), up_ne (by omega), y.2.2.2 _ _ (by omega) (by omega), up_ne (by omega)]; exact e5) ?_
                  refine V_iconst dX5_readsLine_137 ?_
                  refine V_iadd dX5_readsLine_138 ?_
                  refine V_putI (ci := 5) (j := 5) (ji := 5) dX5_readsLine_139 s_71 rfl rfl i_X5_readsLine_X5 tyX5_ok nmX5 (by decide) f_X5_readsLine_87 rfl rfl rfl ?_
                  refine V_iconst dX5_readsLine_142 ?_
                  exact V_zret dX5_readsLine_143 rfl (by omega) (by rw [er]; exact lm_ok (by omega) no2 no3 rfl f1 (by rw [zz] at y; exact y) _ _ (by unfold ntF; (repeat' split) <;> omega) (by unfold nqF; (repeat' split) <;> omega))
              · have yu : 1 ≤ c ∧ c ≤ 4 := by
                  by_cases q9 : 1 ≤ c ∧ c ≤ 4
                  · exact q9
                  · rw [if_neg q9] at hu; omega
                refine V_aload_n dX5_readsLine_85 rfl ?_
                refine V_getIE (ci := 5) (j := 17) (ji := 17) (z := w 71 17) dX5_readsLine_86 s_71 rfl rfl i_X5_readsLine_X5 (by decide) f_X5_readsLine_93 rfl (by rw [y.2.2.2 _ _ (by omega) (by omega), up_ne (by omega), f1 _ _ (by omega)]) ?_
                refine V_iconst dX5_readsLine_89 ?_
                refine V_iadd dX5_readsLine_90 ?_
                refine V_goto (tgt := 98) dX5_readsLine_91 (by decide) ?_
                refine V_putI (ci := 5) (j := 17) (ji := 17) dX5_readsLine_98 s_71 rfl rfl i_X5_readsLine_X5 tyX5_ok nmX5 (by decide) f_X5_readsLine_93 rfl rfl rfl ?_
                refine V_aload_n dX5_readsLine_101 rfl ?_
                refine V_iload_n dX5_readsLine_102 rfl ?_
                refine V_if_ne (tgt := 110) dX5_readsLine_103 (by decide) (by omega) (fun h103 => ?_) (fun h103 => ?_)
                · refine V_iload_n dX5_readsLine_110 rfl ?_
                  refine V_bipush dX5_readsLine_111 rfl ?_
                  refine V_icmp_ne (tgt := 125) dX5_readsLine_113 (by decide) (by omega) (by omega) (fun h113 => ?_) (fun h113 => ?_)
                  · refine V_aload_n dX5_readsLine_125 rfl ?_
                    refine V_getIE (ci := 5) (j := 18) (ji := 18) (z := w 71 18) dX5_readsLine_126 s_71 rfl rfl i_X5_readsLine_X5 (by decide) f_X5_readsLine_109 rfl (by rw [up_ne (by omega), y.2.2.2 _ _ (by omega) (by omega), up_ne (by omega), f1 _ _ (by omega)]) ?_
                    refine V_putI (ci := 5) (j := 18) (ji := 18) dX5_readsLine_129 s_71 rfl rfl i_X5_readsLine_X5 tyX5_ok nmX5 (by decide) f_X5_readsLine_109 rfl rfl rfl ?_
                    refine V_aload_n dX5_readsLine_132 rfl ?_
                    refine V_dup dX5_readsLine_133 rfl ?_
                    refine V_getIE (ci := 5) (j := 5) (ji := 5) (z := w 71 5) dX5_readsLine_134 s_71 rfl rfl i_X5_readsLine_X5 (by decide) f_X5_readsLine_87 rfl (by rw [up_ne (by omega), up_ne (by omega), y.2.2.2 _ _ (by omega) (by omega), up_ne (by omega)]; exact e5) ?_
                    refine V_iconst dX5_readsLine_137 ?_
                    refine V_iadd dX5_readsLine_138 ?_
                    refine V_putI (ci := 5) (j := 5) (ji := 5) dX5_readsLine_139 s_71 rfl rfl i_X5_readsLine_X5 tyX5_ok nmX5 (by decide) f_X5_readsLine_87 rfl rfl rfl ?_
                    refine V_iconst dX5_readsLine_142 ?_
                    exact V_zret dX5_readsLine_143 rfl (by omega) (by rw [er]; exact lm_ok (by omega) no2 no3 rfl f1 (by rw [zz] at y; exact y) _ _ (by unfold ntF; (repeat' split) <;> omega) (by unfold nqF; (repeat' split) <;> omega))
                  · refine V_aload_n dX5_readsLine_116 rfl ?_
                    refine V_getIE (ci := 5) (j := 18) (ji := 18) (z := w 71 18) dX5_readsLine_117 s_71 rfl rfl i_X5_readsLine_X5 (by decide) f_X5_readsLine_109 rfl (by rw [up_ne (by omega), y.2.2.2 _ _ (by omega) (by omega), up_ne (by omega), f1 _ _ (by omega)]) ?_
                    refine V_iconst dX5_readsLine_120 ?_
                    refine V_iadd dX5_readsLine_121 ?_
                    refine V_goto (tgt := 129) dX5_readsLine_122 (by decide) ?_
                    refine V_putI (ci := 5) (j := 18) (ji := 18) dX5_readsLine_129 s_71 rfl rfl i_X5_readsLine_X5 tyX5_ok nmX5 (by decide) f_X5_readsLine_109 rfl rfl rfl ?_
                    refine V_aload_n dX5_readsLine_132 rfl ?_
                    refine V_dup dX5_readsLine_133 rfl ?_
                    refine V_getIE (ci := 5) (j := 5) (ji := 5) (z := w 71 5) dX5_readsLine_134 s_71 rfl rfl i_X5_readsLine_X5 (by decide) f_X5_readsLine_87 rfl (by rw [up_ne (by omega), up_ne (by omega), y.2.2.2 _ _ (by omega) (by omega), up_ne (by omega)]; exact e5) ?_
                    refine V_iconst dX5_readsLine_137 ?_
                    refine V_iadd dX5_readsLine_138 ?_
                    refine V_putI (ci := 5) (j := 5) (ji := 5) dX5_readsLine_139 s_71 rfl rfl i_X5_readsLine_X5 tyX5_ok nmX5 (by decide) f_X5_readsLine_87 rfl rfl rfl ?_
                    refine V_iconst dX5_readsLine_142 ?_
                    exact V_zret dX5_readsLine_143 rfl (by omega) (by rw [er]; exact lm_ok (by omega) no2 no3 rfl f1 (by rw [zz] at y; exact y) _ _ (by unfold ntF; (repeat' split) <;> omega) (by unfold nqF; (repeat' split) <;> omega))
                · refine V_iconst dX5_readsLine_106 ?_
                  refine V_goto (tgt := 129) dX5_readsLine_107 (by decide) ?_
                  refine V_putI (ci := 5) (j := 18) (ji := 18) dX5_readsLine_129 s_71 rfl rfl i_X5_readsLine_X5 tyX5_ok nmX5 (by decide) f_X5_readsLine_109 rfl rfl rfl ?_
                  refine V_aload_n dX5_readsLine_132 rfl ?_
                  refine V_dup dX5_readsLine_133 rfl ?_
                  refine V_getIE (ci := 5) (j := 5) (ji := 5) (z := w 71 5) dX5_readsLine_134 s_71 rfl rfl i_X5_readsLine_X5 (by decide) f_X5_readsLine_87 rfl (by rw [up_ne (by omega), up_ne (by omega), y.2.2.2 _ _ (by omega) (by omega), up_ne (by omega)]; exact e5) ?_
                  refine V_iconst dX5_readsLine_137 ?_
                  refine V_iadd dX5_readsLine_138 ?_
                  refine V_putI (ci := 5) (j := 5) (ji := 5) dX5_readsLine_139 s_71 rfl rfl i_X5_readsLine_X5 tyX5_ok nmX5 (by decide) f_X5_readsLine_87 rfl rfl rfl ?_
                  refine V_iconst dX5_readsLine_142 ?_
                  exact V_zret dX5_readsLine_143 rfl (by omega) (by rw [er]; exact lm_ok (by omega) no2 no3 rfl f1 (by rw [zz] at y; exact y) _ _ (by unfold ntF; (repeat' split) <;> omega) (by unfold nqF; (repeat' split) <;> omega))
            · refine V_iconst dX5_readsLine_74 ?_
              refine V_goto (tgt := 98) dX5_readsLine_75 (by decide) ?_
              refine V_putI (ci := 5) (j := 17) (ji := 17) dX5_readsLine_98 s_71 rfl rfl i_X5_readsLine_X5 tyX5_ok nmX5 (by decide) f_X5_readsLine_93 rfl rfl rfl ?_
              refine V_aload_n dX5_readsLine_101 rfl ?_
              refine V_iload_n dX5_readsLine_102 rfl ?_
              refine V_if_ne (tgt := 110) dX5_readsLine_103 (by decide) (by omega) (fun h103 => ?_) (fun h103 => ?_)
              · refine V_iload_n dX5_readsLine_110 rfl ?_
                refine V_bipush dX5_readsLine_111 rfl ?_
                refine V_icmp_ne (tgt := 125) dX5_readsLine_113 (by decide) (by omega) (by omega) (fun h113 => ?_) (fun h113 => ?_)
                · refine V_aload_n dX5_readsLine_125 rfl ?_
                  refine V_getIE (ci := 5) (j := 18) (ji := 18) (z := w 71 18) dX5_readsLine_126 s_71 rfl rfl i_X5_readsLine_X5 (by decide) f_X5_readsLine_109 rfl (by rw [up_ne (by omega), y.2.2.2 _ _ (by omega) (by omega), up_ne (by omega), f1 _ _ (by omega)]) ?_
                  refine V_putI (ci := 5) (j := 18) (ji := 18) dX5_readsLine_129 s_71 rfl rfl i_X5_readsLine_X5 tyX5_ok nmX5 (by decide) f_X5_readsLine_109 rfl rfl rfl ?_
                  refine V_aload_n dX5_readsLine_132 rfl ?_
                  refine V_dup dX5_readsLine_133 rfl ?_
                  refine V_getIE (ci := 5) (j := 5) (ji := 5) (z := w 71 5) dX5_readsLine_134 s_71 rfl rfl i_X5_readsLine_X5 (by decide) f_X5_readsLine_87 rfl (by rw [up_ne (by omega), up_ne (by omega), y.2.2.2 _ _ (by omega) (by omega), up_ne (by omega)]; exact e5) ?_
                  refine V_iconst dX5_readsLine_137 ?_
                  refine V_iadd dX5_readsLine_138 ?_
                  refine V_putI (ci := 5) (j := 5) (ji := 5) dX5_readsLine_139 s_71 rfl rfl i_X5_readsLine_X5 tyX5_ok nmX5 (by decide) f_X5_readsLine_87 rfl rfl rfl ?_
                  refine V_iconst dX5_readsLine_142 ?_
                  exact V_zret dX5_readsLine_143 rfl (by omega) (by rw [er]; exact lm_ok (by omega) no2 no3 rfl f1 (by rw [zz] at y; exact y) _ _ (by unfold ntF; (repeat' split) <;> omega) (by unfold nqF; (repeat' split) <;> omega))
                · refine V_aload_n dX5_readsLine_116 rfl ?_
                  refine V_getIE (ci := 5) (j := 18) (ji := 18) (z := w 71 18) dX5_readsLine_117 s_71 rfl rfl i_X5_readsLine_X5 (by decide) f_X5_readsLine_109 rfl (by rw [up_ne (by omega), y.2.2.2 _ _ (by omega) (by omega), up_ne (by omega), f1 _ _ (by omega)]) ?_
                  refine V_iconst dX5_readsLine_120 ?_
                  refine V_iadd dX5_readsLine_121 ?_
                  refine V_goto (tgt := 129) dX5_readsLine_122 (by decide) ?_
                  refine V_putI (ci := 5) (j := 18) (ji := 18) dX5_readsLine_129 s_71 rfl rfl i_X5_readsLine_X5 tyX5_ok nmX5 (by decide) f_X5_readsLine_109 rfl rfl rfl ?_
                  refine V_aload_n dX5_readsLine_132 rfl ?_
                  refine V_dup dX5_readsLine_133 rfl ?_
                  refine V_getIE (ci := 5) (j := 5) (ji := 5) (z := w 71 5) dX5_readsLine_134 s_71 rfl rfl i_X5_readsLine_X5 (by decide) f_X5_readsLine_87 rfl (by rw [up_ne (by omega), up_ne (by omega), y.2.2.2 _ _ (by omega) (by omega), up_ne (by omega)]; exact e5) ?_
                  refine V_iconst dX5_readsLine_137 ?_
                  refine V_iadd dX5_readsLine_138 ?_
                  refine V_putI (ci := 5) (j := 5) (ji := 5) dX5_readsLine_139 s_71 rfl rfl i_X5_readsLine_X5 tyX5_ok nmX5 (by decide) f_X5_readsLine_87 rfl rfl rfl ?_
                  refine V_iconst dX5_readsLine_142 ?_
                  exact V_zret dX5_readsLine_143 rfl (by omega) (by rw [er]; exact lm_ok (by omega) no2 no3 rfl f1 (by rw [zz] at y; exact y) _ _ (by unfold ntF; (repeat' split) <;> omega) (by unfold nqF; (repeat' split) <;> omega))
              · refine V_iconst dX5_readsLine_106 ?_
                refine V_goto (tgt := 129) dX5_readsLine_107 (by decide) ?_
                refine V_putI (ci := 5) (j := 18) (ji := 18) dX5_readsLine_129 s_71 rfl rfl i_X5_readsLine_X5 tyX5_ok nmX5 (by decide) f_X5_readsLine_109 rfl rfl rfl ?_
                refine V_aload_n dX5_readsLine_132 rfl ?_
                refine V_dup dX5_readsLine_133 rfl ?_
                refine V_getIE (ci := 5) (j := 5) (ji := 5) (z := w 71 5) dX5_readsLine_134 s_71 rfl rfl i_X5_readsLine_X5 (by decide) f_X5_readsLine_87 rfl (by rw [up_ne (by omega), up_ne (by omega), y.2.2.2 _ _ (by omega) (by omega), up_ne (by omega)]; exact e5) ?_
                refine V_iconst dX5_readsLine_137 ?_
                refine V_iadd dX5_readsLine_138 ?_
                refine V_putI (ci := 5) (j := 5) (ji := 5) dX5_readsLine_139 s_71 rfl rfl i_X5_readsLine_X5 tyX5_ok nmX5 (by decide) f_X5_readsLine_87 rfl rfl rfl ?_
                refine V_iconst dX5_readsLine_142 ?_
                exact V_zret dX5_readsLine_143 rfl (by omega) (by rw [er]; exact lm_ok (by omega) no2 no3 rfl f1 (by rw [zz] at y; exact y) _ _ (by unfold ntF; (repeat' split) <;> omega) (by unfold nqF; (repeat' split) <;> omega))
          · have rf : (rsP T (w 71 17) c (nx T p)).1 = false := by
              cases q : (rsP T (w 71 17) c (nx T p)).1
              · rfl
              · have := y.1; rw [q] at this; simp at this; omega
            refine V_iconst dX5_readsLine_67 ?_
            exact V_zret dX5_readsLine_68 rfl (by omega) (by rw [er]; exact ⟨by rw [rf]; simp, y.2.1, (fun q => by rw [rf] at q; cases q), fun k j q1 q2 => by rw [y.2.2.2 _ _ (by omega) (by omega), up_ne (by omega), f1 _ _ (by omega)]⟩)
        · refine V_aload_n dX5_readsLine_32 rfl ?_
          refine V_getI (ci := 5) (j := 18) (ji := 18) dX5_readsLine_33 s_71 rfl rfl i_X5_readsLine_X5 (by decide) f_X5_readsLine_109 rfl ?_
          refine V_bipush dX5_readsLine_36 rfl ?_
          refine V_icmp_ne (tgt := 43) dX5_readsLine_38 (by decide) (by omega) (by omega) (fun h38 => ?_) (fun h38 => ?_)
          · have no2 : ¬ ((1 ≤ c ∧ c ≤ 4) ∧ w 71 17 = 6) := fun q => by omega
            have no3 : ¬ (c = 6 ∧ w 71 18 = 6) := fun q => by omega
            refine V_aload_n dX5_readsLine_43 rfl ?_
            refine V_vV0 dX5_readsLine_44 o_X5_readsLine_90 s_71 rfl (Nat.le_of_ble_eq_true rfl) (c_X5_token G l hT hk.at_) ?_
            rintro w1 ⟨t1, f1⟩
            rw [hk.2.2.2] at t1
            have t1 : tkM w1 T (nx T p) := t1
            have e5 : w1 71 5 = w 71 5 := f1 _ _ (by omega)
            have e17 : w1 71 17 = w 71 17 := f1 _ _ (by omega)
            have hT1 := f1.tm hT
            have er : lnP T (w 71 17) (w 71 18) p = rsP T (w 71 17) c (nx T p) := ln_rs hcw.symm (by omega) no2 no3
            refine V_aload_n dX5_readsLine_47 rfl ?_
            refine V_getR (ci := 5) (j := 4) dX5_readsLine_48 s_71 rfl rfl i_X5_readsLine_X5 (by decide) f_X5_readsLine_20 ?_
            refine V_iconst dX5_readsLine_51 ?_
            refine V_aload_n dX5_readsLine_52 rfl ?_
            refine V_getIE (ci := 5) (j := 5) (ji := 5) (z := w 71 5) dX5_readsLine_53 s_71 rfl rfl i_X5_readsLine_X5 (by decide) f_X5_readsLine_87 rfl e5 ?_
            refine V_imul dX5_readsLine_56 ?_
            refine V_iload_n dX5_readsLine_57 rfl ?_
            refine V_iast dX5_readsLine_58 s_75 (by show 0 ≤ _ ∧ _ < (48 : Int); omega) ?_
            refine V_aload_n dX5_readsLine_59 rfl ?_
            refine V_iload_n dX5_readsLine_60 rfl ?_
            refine V_iV1 dX5_readsLine_61 o_X5_readsLine_112 s_71 rfl (Nat.le_of_ble_eq_true rfl) (c_X5_readsRest G l (w := up w1 75 (4 * w 71 5) c) (hT1.keep (up_ne (by omega)) (fun i => up_ne (by omega))) (t1.up (by omega)) (by rw [up_ne (by omega)]; omega) (by rw [up_ne (by omega)]; omega) (c := c) (by omega)) ?_
            rintro z w2 y
            rw [up_ne (by omega), up_ne (by omega), e5, e17] at y
            have rz : z = 0 ∨ z = 1 := by rw [y.1]; split <;> simp
            refine V_if_ne (tgt := 69) dX5_readsLine_64 (by decide) (by omega) (fun h64 => ?_) (fun h64 => ?_)
            · have zz : z = 1 := by omega
              refine V_aload_n dX5_readsLine_69 rfl ?_
              refine V_iload_n dX5_readsLine_70 rfl ?_
              refine V_if_ne (tgt := 78) dX5_readsLine_71 (by decide) (by omega) (fun h71 => ?_) (fun h71 => ?_)
              · refine V_iload_n dX5_readsLine_78 rfl ?_
                refine V_iS1 dX5_readsLine_79 o_X5_readsLine_105 (Nat.le_of_ble_eq_true rfl) (c_X5_isTreeWord G l (by omega)) ?_
                rintro u _ ⟨hu, rfl⟩
                have ru : u = 0 ∨ u = 1 := by rw [hu]; split <;> simp
                refine V_if_eq (tgt := 94) dX5_readsLine_82 (by decide) (by omega) (fun h82 => ?_) (fun h82 => ?_)
                · have nu : ¬ (1 ≤ c ∧ c ≤ 4) := fun q9 => by rw [if_pos q9] at hu; omega
                  refine V_aload_n dX5_readsLine_94 rfl ?_
                  refine V_getIE (ci := 5) (j := 17) (ji := 17) (z := w 71 17) dX5_readsLine_95 s_71 rfl rfl i_X5_readsLine_X5 (by decide) f_X5_readsLine_93 rfl (by rw [y.2.2.2 _ _ (by omega) (by omega), up_ne (by omega), f1 _ _ (by omega)]) ?_
                  refine V_putI (ci := 5) (j := 17) (ji := 17) dX5_readsLine_98 s_71 rfl rfl i_X5_readsLine_X5 tyX5_ok nmX5 (by decide) f_X5_readsLine_93 rfl rfl rfl ?_
                  refine V_aload_n dX5_readsLine_101 rfl ?_
                  refine V_iload_n dX5_readsLine_102 rfl ?_
                  refine V_if_ne (tgt := 110) dX5_readsLine_103 (by decide) (by omega) (fun h103 => ?_) (fun h103 => ?_)
                  · refine V_iload_n dX5_readsLine_110 rfl ?_
                    refine V_bipush dX5_readsLine_111 rfl ?_
                    refine V_icmp_ne (tgt := 125) dX5_readsLine_113 (by decide) (by omega) (by omega) (fun h113 => ?_) (fun h113 => ?_)
                    · refine V_aload_n dX5_readsLine_125 rfl ?_
                      refine V_getIE (ci := 5) (j := 18) (ji := 18) (z := w 71 18) dX5_readsLine_126 s_71 rfl rfl i_X5_readsLine_X5 (by decide) f_X5_readsLine_109 rfl (by rw [up_ne (by omega), y.2.2.2 _ _ (by omega) (by omega), up_ne (by omega), f1 _ _ (by omega)]) ?_
                      refine V_putI (ci := 5) (j := 18) (ji := 18) dX5_readsLine_129 s_71 rfl rfl i_X5_readsLine_X5 tyX5_ok nmX5 (by decide) f_X5_readsLine_109 rfl rfl rfl ?_
                      refine V_aload_n dX5_readsLine_132 rfl ?_
                      refine V_dup dX5_readsLine_133 rfl ?_
                      refine V_getIE (ci := 5) (j := 5) (ji := 5) (z := w 71 5) dX5_readsLine_134 s_71 rfl rfl i_X5_readsLine_X5 (by decide) f_X5_readsLine_87 rfl (by rw [up_ne (by omega), up_ne (by omega), y.2.2.2 _ _ (by omega) (by omega), up_ne (by omega)]; exact e5) ?_
                      refine V_iconst dX5_readsLine_137 ?_
                      refine V_iadd dX5_readsLine_138 ?_
                      refine V_putI (ci := 5) (j := 5) (ji := 5) dX5_readsLine_139 s_71 rfl rfl i_X5_readsLine_X5 tyX5_ok nmX5 (by decide) f_X5_readsLine_87 rfl rfl rfl ?_
                      refine V_iconst dX5_readsLine_142 ?_
                      exact V_zret dX5_readsLine_143 rfl (by omega) (by rw [er]; exact lm_ok (by omega) no2 no3 rfl f1 (by rw [zz] at y; exact y) _ _ (by unfold ntF; (repeat' split) <;> omega) (by unfold nqF; (repeat' split) <;> omega))
                    · refine V_aload_n dX5_readsLine_116 rfl ?_
                      refine V_getIE (ci := 5) (j := 18) (ji := 18) (z := w 71 18) dX5_readsLine_117 s_71 rfl rfl i_X5_readsLine_X5 (by decide) f_X5_readsLine_109 rfl (by rw [up_ne (by omega), y.2.2.2 _ _ (by omega) (by omega), up_ne (by omega), f1 _ _ (by omega)]) ?_
                      refine V_iconst dX5_readsLine_120 ?_
                      refine V_iadd dX5_readsLine_121 ?_
                      refine V_goto (tgt := 129) dX5_readsLine_122 (by decide) ?_
                      refine V_putI (ci := 5) (j := 18) (ji := 18) dX5_readsLine_129 s_71 rfl rfl i_X5_readsLine_X5 tyX5_ok nmX5 (by decide) f_X5_readsLine_109 rfl rfl rfl ?_
                      refine V_aload_n dX5_readsLine_132 rfl ?_
                      refine V_dup dX5_readsLine_133 rfl ?_
                      refine V_getIE (ci := 5) (j := 5) (ji := 5) (z := w 71 5) dX5_readsLine_134 s_71 rfl rfl i_X5_readsLine_X5 (by decide) f_X5_readsLine_87 rfl (by rw [up_ne (by omega), up_ne (by omega), y.2.2.2 _ _ (by omega) (by omega), up_ne (by omega)]; exact e5) ?_
                      refine V_iconst dX5_readsLine_137 ?_
                      refine V_iadd dX5_readsLine_138 ?_
                      refine V_putI (ci := 5) (j := 5) (ji := 5) dX5_readsLine_139 s_71 rfl rfl i_X5_readsLine_X5 tyX5_ok nmX5 (by decide) f_X5_readsLine_87 rfl rfl rfl ?_
                      refine V_iconst dX5_readsLine_142 ?_
                      exact V_zret dX5_readsLine_143 rfl (by omega) (by rw [er]; exact lm_ok (by omega) no2 no3 rfl f1 (by rw [zz] at y; exact y) _ _ (by unfold ntF; (repeat' split) <;> omega) (by unfold nqF; (repeat' split) <;> omega))
                  · refine V_iconst dX5_readsLine_106 ?_
                    refine V_goto (tgt := 129) dX5_readsLine_107 (by decide) ?_
                    refine V_putI (ci := 5) (j := 18) (ji := 18) dX5_readsLine_129 s_71 rfl rfl i_X5_readsLine_X5 tyX5_ok nmX5 (by decide) f_X5_readsLine_109 rfl rfl rfl ?_
                    refine V_aload_n dX5_readsLine_132 rfl ?_
                    refine V_dup dX5_readsLine_133 rfl ?_
                    refine V_getIE (ci := 5) (j := 5) (ji := 5) (z := w 71 5) dX5_readsLine_134 s_71 rfl rfl i_X5_readsLine_X5 (by decide) f_X5_readsLine_87 rfl (by rw [up_ne (by omega), up_ne (by omega), y.2.2.2 _ _ (by omega) (by omega), up_ne (by omega)]; exact e5) ?_
                    refine V_iconst dX5_readsLine_137 ?_
                    refine V_iadd dX5_readsLine_138 ?_
                    refine V_putI (ci := 5) (j := 5) (ji := 5) dX5_readsLine_139 s_71 rfl rfl i_X5_readsLine_X5 tyX5_ok nmX5 (by decide) f_X5_readsLine_87 rfl rfl rfl ?_
                    refine V_iconst dX5_readsLine_142 ?_
                    exact V_zret dX5_readsLine_143 rfl (by omega) (by rw [er]; exact lm_ok (by omega) no2 no3 rfl f1 (by rw [zz] at y; exact y) _ _ (by unfold ntF; (repeat' split) <;> omega) (by unfold nqF; (repeat' split) <;> omega))
                · have yu : 1 ≤ c ∧ c ≤ 4 := by
                    by_cases q9 : 1 ≤ c ∧ c ≤ 4
                    · exact q9
                    · rw [if_neg q9] at hu; omega
                  refine V_aload_n dX5_readsLine_85 rfl ?_
                  refine V_getIE (ci := 5) (j := 17) (ji := 17) (z := w 71 17) dX5_readsLine_86 s_71 rfl rfl i_X5_readsLine_X5 (by decide) f_X5_readsLine_93 rfl (by rw [y.2.2.2 _ _ (by omega) (by omega), up_ne (by omega), f1 _ _ (by omega)]) ?_
                  refine V_iconst dX5_readsLine_89 ?_
                  refine V_iadd dX5_readsLine_90 ?_
                  refine V_goto (tgt := 98) dX5_readsLine_91 (by decide) ?_
                  refine V_putI (ci := 5) (j := 17) (ji := 17) dX5_readsLine_98 s_71 rfl rfl i_X5_readsLine_X5 tyX5_ok nmX5 (by decide) f_X5_readsLine_93 rfl rfl rfl ?_
                  refine V_aload_n dX5_readsLine_101 rfl ?_
                  refine V_iload_n dX5_readsLine_102 rfl ?_
                  refine V_if_ne (tgt := 110) dX5_readsLine_103 (by decide) (by omega) (fun h103 => ?_) (fun h103 => ?_)
                  · refine V_iload_n dX5_readsLine_110 rfl ?_
                    refine V_bipush dX5_readsLine_111 rfl ?_
                    refine V_icmp_ne (tgt := 125) dX5_readsLine_113 (by decide) (by omega) (by omega) (fun h113 => ?_) (fun h113 => ?_)
                    · refine V_aload_n dX5_readsLine_125 rfl ?_
                      refine V_getIE (ci := 5) (j := 18) (ji := 18) (z := w 71 18) dX5_readsLine_126 s_71 rfl rfl i_X5_readsLine_X5 (by decide) f_X5_readsLine_109 rfl (by rw [up_ne (by omega), y.2.2.2 _ _ (by omega) (by omega), up_ne (by omega), f1 _ _ (by omega)]) ?_
                      refine V_putI (ci := 5) (j := 18) (ji := 18) dX5_readsLine_129 s_71 rfl rfl i_X5_readsLine_X5 tyX5_ok nmX5 (by decide) f_X5_readsLine_109 rfl rfl rfl ?_
                      refine V_aload_n dX5_readsLine_132 rfl ?_
                      refine V_dup dX5_readsLine_133 rfl ?_
                      refine V_getIE (ci := 5) (j := 5) (ji := 5) (z := w 71 5) dX5_readsLine_134 s_71 rfl rfl i_X5_readsLine_X5 (by decide) f_X5_readsLine_87 rfl (by rw [up_ne (by omega), up_ne (by omega), y.2.2.2 _ _ (by omega) (by omega), up_ne (by omega)]; exact e5) ?_
                      refine V_iconst dX5_readsLine_137 ?_
                      refine V_iadd dX5_readsLine_138 ?_
                      refine V_putI (ci := 5) (j := 5) (ji := 5) dX5_readsLine_139 s_71 rfl rfl i_X5_readsLine_X5 tyX5_ok nmX5 (by decide) f_X5_readsLine_87 rfl rfl rfl ?_
                      refine V_iconst dX5_readsLine_142 ?_
                      exact V_zret dX5_readsLine_143 rfl (by omega) (by rw [er]; exact lm_ok (by omega) no2 no3 rfl f1 (by rw [zz] at y; exact y) _ _ (by unfold ntF; (repeat' split) <;> omega) (by unfold nqF; (repeat' split) <;> omega))
                    · refine V_aload_n dX5_readsLine_116 rfl ?_
                      refine V_getIE (ci := 5) (j := 18) (ji := 18) (z := w 71 18) dX5_readsLine_117 s_71 rfl rfl i_X5_readsLine_X5 (by decide) f_X5_readsLine_109 rfl (by rw [up_ne (by omega), y.2.2.2 _ _ (by omega) (by omega), up_ne (by omega), f1 _ _ (by omega)]) ?_
                      refine V_iconst dX5_readsLine_120 ?_
                      refine V_iadd dX5_readsLine_121 ?_
                      refine V_goto (tgt := 129) dX5_readsLine_122 (by decide) ?_
                      refine V_putI (ci := 5) (j := 18) (ji := 18) dX5_readsLine_129 s_71 rfl rfl i_X5_readsLine_X5 tyX5_ok nmX5 (by decide) f_X5_readsLine_109 rfl rfl rfl ?_
                      refine V_aload_n dX5_readsLine_132 rfl ?_
                      refine V_dup dX5_readsLine_133 rfl ?_
                      refine V_getIE (ci := 5) (j := 5) (ji := 5) (z := w 71 5) dX5_readsLine_134 s_71 rfl rfl i_X5_readsLine_X5 (by decide) f_X5_readsLine_87 rfl (by rw [up_ne (by omega), up_ne (by omega), y.2.2.2 _ _ (by omega) (by omega), up_ne (by omega)]; exact e5) ?_
                      refine V_iconst dX5_readsLine_137 ?_
                      refine V_iadd dX5_readsLine_138 ?_
                      refine V_putI (ci := 5) (j := 5) (ji := 5) dX5_readsLine_139 s_71 rfl rfl i_X5_readsLine_X5 tyX5_ok nmX5 (by decide) f_X5_readsLine_87 rfl rfl rfl ?_
                      refine V_iconst dX5_readsLine_142 ?_
                      exact V_zret dX5_readsLine_143 rfl (by omega) (by rw [er]; exact lm_ok (by omega) no2 no3 rfl f1 (by rw [zz] at y; exact y) _ _ (by unfold ntF; (repeat' split) <;> omega) (by unfold nqF; (repeat' split) <;> omega))
                  · refine V_iconst dX5_readsLine_106 ?_
                    refine V_goto (tgt := 129) dX5_readsLine_107 (by decide) ?_
                    refine V_putI (ci := 5) (j := 18) (ji := 18) dX5_readsLine_129 s_71 rfl rfl i_X5_readsLine_X5 tyX5_ok nmX5 (by decide) f_X5_readsLine_109 rfl rfl rfl ?_
                    refine V_aload_n dX5_readsLine_132 rfl ?_
                    refine V_dup dX5_readsLine_133 rfl ?_
                    refine V_getIE (ci := 5) (j := 5) (ji := 5) (z := w 71 5) dX5_readsLine_134 s_71 rfl rfl i_X5_readsLine_X5 (by decide) f_X5_readsLine_87 rfl (by rw [up_ne (by omega), up_ne (by omega), y.2.2.2 _ _ (by omega) (by omega), up_ne (by omega)]; exact e5) ?_
                    refine V_iconst dX5_readsLine_137 ?_
                    refine V_iadd dX5_readsLine_138 ?_
                    refine V_putI (ci := 5) (j := 5) (ji := 5) dX5_readsLine_139 s_71 rfl rfl i_X5_readsLine_X5 tyX5_ok nmX5 (by decide) f_X5_readsLine_87 rfl rfl rfl ?_
                    refine V_iconst dX5_readsLine_142 ?_
                    exact V_zret dX5_readsLine_143 rfl (by omega) (by rw [er]; exact lm_ok (by omega) no2 no3 rfl f1 (by rw [zz] at y; exact y) _ _ (by unfold ntF; (repeat' split) <;> omega) (by unfold nqF; (repeat' split) <;> omega))
              · refine V_iconst dX5_readsLine_74 ?_
                refine V_goto (tgt := 98) dX5_readsLine_75 (by decide) ?_
                refine V_putI (ci := 5) (j := 17) (ji := 17) dX5_readsLine_98 s_71 rfl rfl i_X5_readsLine_X5 tyX5_ok nmX5 (by decide) f_X5_readsLine_93 rfl rfl rfl ?_
                refine V_aload_n dX5_readsLine_101 rfl ?_
                refine V_iload_n dX5_readsLine_102 rfl ?_
                refine V_if_ne (tgt := 110) dX5_readsLine_103 (by decide) (by omega) (fun h103 => ?_) (fun h103 => ?_)
                · refine V_iload_n dX5_readsLine_110 rfl ?_
                  refine V_bipush dX5_readsLine_111 rfl ?_
                  refine V_icmp_ne (tgt := 125) dX5_readsLine_113 (by decide) (by omega) (by omega) (fun h113 => ?_) (fun h113 => ?_)
                  · refine V_aload_n dX5_readsLine_125 rfl ?_
                    refine V_getIE (ci := 5) (j := 18) (ji := 18) (z := w 71 18) dX5_readsLine_126 s_71 rfl rfl i_X5_readsLine_X5 (by decide) f_X5_readsLine_109 rfl (by rw [up_ne (by omega), y.2.2.2 _ _ (by omega) (by omega), up_ne (by omega), f1 _ _ (by omega)]) ?_
                    refine V_putI (ci := 5) (j := 18) (ji := 18) dX5_readsLine_129 s_71 rfl rfl i_X5_readsLine_X5 tyX5_ok nmX5 (by decide) f_X5_readsLine_109 rfl rfl rfl ?_
                    refine V_aload_n dX5_readsLine_132 rfl ?_
                    refine V_dup dX5_readsLine_133 rfl ?_
                    refine V_getIE (ci := 5) (j := 5) (ji := 5) (z := w 71 5) dX5_readsLine_134 s_71 rfl rfl i_X5_readsLine_X5 (by decide) f_X5_readsLine_87 rfl (by rw [up_ne (by omega), up_ne (by omega), y.2.2.2 _ _ (by omega) (by omega), up_ne (by omega)]; exact e5) ?_
                    refine V_iconst dX5_readsLine_137 ?_
                    refine V_iadd dX5_readsLine_138 ?_
                    refine V_putI (ci := 5) (j := 5) (ji := 5) dX5_readsLine_139 s_71 rfl rfl i_X5_readsLine_X5 tyX5_ok nmX5 (by decide) f_X5_readsLine_87 rfl rfl rfl ?_
                    refine V_iconst dX5_readsLine_142 ?_
                    exact V_zret dX5_readsLine_143 rfl (by omega) (by rw [er]; exact lm_ok (by omega) no2 no3 rfl f1 (by rw [zz] at y; exact y) _ _ (by unfold ntF; (repeat' split) <;> omega) (by unfold nqF; (repeat' split) <;> omega))
                  · refine V_aload_n dX5_readsLine_116 rfl ?_
                    refine V_getIE (ci := 5) (j := 18) (ji := 18) (z := w 71 18) dX5_readsLine_117 s_71 rfl rfl i_X5_readsLine_X5 (by decide) f_X5_readsLine_109 rfl (by rw [up_ne (by omega), y.2.2.2 _ _ (by omega) (by omega), up_ne (by omega), f1 _ _ (by omega)]) ?_
                    refine V_iconst dX5_readsLine_120 ?_
                    refine V_iadd dX5_readsLine_121 ?_
                    refine V_goto (tgt := 129) dX5_readsLine_122 (by decide) ?_
                    refine V_putI (ci := 5) (j := 18) (ji := 18) dX5_readsLine_129 s_71 rfl rfl i_X5_readsLine_X5 tyX5_ok nmX5 (by decide) f_X5_readsLine_109 rfl rfl rfl ?_
                    refine V_aload_n dX5_readsLine_132 rfl ?_
                    refine V_dup dX5_readsLine_133 rfl ?_
                    refine V_getIE (ci := 5) (j := 5) (ji := 5) (z := w 71 5) dX5_readsLine_134 s_71 rfl rfl i_X5_readsLine_X5 (by decide) f_X5_readsLine_87 rfl (by rw [up_ne (by omega), up_ne (by omega), y.2.2.2 _ _ (by omega) (by omega), up_ne (by omega)]; exact e5) ?_
                    refine V_iconst dX5_readsLine_137 ?_
                    refine V_iadd dX5_readsLine_138 ?_
                    refine V_putI (ci := 5) (j := 5) (ji := 5) dX5_readsLine_139 s_71 rfl rfl i_X5_readsLine_X5 tyX5_ok nmX5 (by decide) f_X5_readsLine_87 rfl rfl rfl ?_
                    refine V_iconst dX5_readsLine_142 ?_
                    exact V_zret dX5_readsLine_143 rfl (by omega) (by rw [er]; exact lm_ok (by omega) no2 no3 rfl f1 (by rw [zz] at y; exact y) _ _ (by unfold ntF; (repeat' split) <;> omega) (by unfold nqF; (repeat' split) <;> omega))
                · refine V_iconst dX5_readsLine_106 ?_
                  refine V_goto (tgt := 129) dX5_readsLine_107 (by decide) ?_
                  refine V_putI (ci := 5) (j := 18) (ji := 18) dX5_readsLine_129 s_71 rfl rfl i_X5_readsLine_X5 tyX5_ok nmX5 (by decide) f_X5_readsLine_109 rfl rfl rfl ?_
                  refine V_aload_n dX5_readsLine_132 rfl ?_
                  refine V_dup dX5_readsLine_133 rfl ?_
                  refine V_getIE (ci := 5) (j := 5) (ji := 5) (z := w 71 5) dX5_readsLine_134 s_71 rfl rfl i_X5_readsLine_X5 (by decide) f_X5_readsLine_87 rfl (by rw [up_ne (by omega), up_ne (by omega), y.2.2.2 _ _ (by omega) (by omega), up_ne (by omega)]; exact e5) ?_
                  refine V_iconst dX5_readsLine_137 ?_
                  refine V_iadd dX5_readsLine_138 ?_
                  refine V_putI (ci := 5) (j := 5) (ji := 5) dX5_readsLine_139 s_71 rfl rfl i_X5_readsLine_X5 tyX5_ok nmX5 (by decide) f_X5_readsLine_87 rfl rfl rfl ?_
                  refine V_iconst dX5_readsLine_142 ?_
                  exact V_zret dX5_readsLine_143 rfl (by omega) (by rw [er]; exact lm_ok (by omega) no2 no3 rfl f1 (by rw [zz] at y; exact y) _ _ (by unfold ntF; (repeat' split) <;> omega) (by unfold nqF; (repeat' split) <;> omega))
            · have rf : (rsP T (w 71 17) c (nx T p)).1 = false := by
                cases q : (rsP T (w 71 17) c (nx T p)).1
                · rfl
                · have := y.1; rw [q] at this; simp at this; omega
              refine V_iconst dX5_readsLine_67 ?_
              exact V_zret dX5_readsLine_68 rfl (by omega) (by rw [er]; exact ⟨by rw [rf]; simp, y.2.1, (fun q => by rw [rf] at q; cases q), fun k j q1 q2 => by rw [y.2.2.2 _ _ (by omega) (by omega), up_ne (by omega), f1 _ _ (by omega)]⟩)
          · have rr : lmR T (lnP T (w 71 17) (w 71 18) p) (w 71 5) (w 71 17) (w 71 18) w w 0 := by rw [ln_no (Or.inr (Or.inr (by omega)))]; exact lm_fail hk
            refine V_iconst dX5_readsLine_41 ?_
            exact V_zret dX5_readsLine_42 rfl (by omega) rr

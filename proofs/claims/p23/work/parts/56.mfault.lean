/-! ===== 56 the reference's reader: the whole text ===== -/
/-- behind a line: the end, one more, or a fault -/
def ctP (T : List Int) (n : Nat) (q : Int) (t : TS) : Int × List Li := if q = (T.length : Int) then (-1, []) else if ch T q = 59 ∧ n ≠ 0 then prP T n (nx T q) t else (q, [])
abbrev nqT (t : TS) : Int := ((t.2.2.2.2.2.2.1.length : Nat) : Int)
theorem prP_ct {T : List Int} {n : Nat} {s : Int} {t : TS} {r : LR} (hr : lnP T t.1 (nqT t) s = r) : prP T (n + 1) s t = if r.1 = true then ((ctP T n r.2.1 (apL r.2.2 t)).1, r.2.2 :: (ctP T n r.2.1 (apL r.2.2 t)).2) else (r.2.1, []) := by
  rw [prP_s hr]
  unfold ctP
  by_cases h1 : r.1 = true
  · rw [if_pos h1, if_pos h1]
    by_cases h2 : r.2.1 = (T.length : Int)
    · rw [if_pos h2, if_pos h2]
    · rw [if_neg h2, if_neg h2]
      by_cases h3 : ch T r.2.1 = 59 ∧ n ≠ 0
      · rw [if_pos h3, if_pos h3]
      · rw [if_neg h3, if_neg h3]
  · rw [if_neg h1, if_neg h1]
theorem ap_nt {nt nq : Int} {x : Li} {t : TS} (h : okLi nt nq x) : (apL x t).1 = ntF x.1 t.1 ∧ nqT (apL x t) = nqF x.1 (nqT t) := by
  have r := h.1
  unfold apL ntF nqF
  by_cases c0 : x.1 = 0
  · rw [if_pos c0, if_pos c0, if_pos c0]; exact ⟨rfl, rfl⟩
  · rw [if_neg c0, if_neg c0, if_neg c0]
    by_cases c5 : x.1 = 5
    · rw [if_pos c5, if_neg (by omega), if_neg (by omega)]; exact ⟨rfl, rfl⟩
    · rw [if_neg c5]
      by_cases c6 : x.1 = 6
      · rw [if_pos c6, if_neg (by omega), if_pos c6]; exact ⟨rfl, by simp [nqT]⟩
      · rw [if_neg c6]
        by_cases c7 : x.1 = 7
        · rw [if_pos c7, if_neg (by omega), if_neg c6]; exact ⟨rfl, rfl⟩
        · rw [if_neg c7, if_pos (by omega), if_neg c6]; exact ⟨rfl, rfl⟩
def okLs : List Li → TS → Prop
  | [], _ => True
  | x :: r, t => (okLi t.1 (nqT t) x ∧ ¬ ((1 ≤ x.1 ∧ x.1 ≤ 4) ∧ t.1 = 6) ∧ ¬ (x.1 = 6 ∧ nqT t = 6)) ∧ okLs r (apL x t)
def liMs (w : Wd) : Int → List Li → Prop
  | _, [] => True
  | m, x :: r => liM w m x ∧ liMs w (m + 1) r
theorem liM_keep {w w' : Wd} {m : Int} {x : Li} (h : liM w m x) (g : ∀ j : Int, 4 * m ≤ j → j < 4 * m + 4 → w' 75 j = w 75 j) : liM w' m x := by
  obtain ⟨h0, h1, h2, h3⟩ := h
  exact ⟨by rw [g _ (by omega) (by omega)]; exact h0, fun q => by rw [g _ (by omega) (by omega)]; exact h1 q, fun q => by rw [g _ (by omega) (by omega)]; exact h2 q, fun q => by rw [g _ (by omega) (by omega)]; exact h3 q⟩
def ftR (T : List Int) (n : Nat) (q : Int) (t : TS) (rm : Int) (w w' : Wd) (z : Int) : Prop := z = (ctP T n q t).1 ∧ (z = -1 → w' 71 5 = rm + (((ctP T n q t).2.length : Nat) : Int) ∧ liMs w' rm (ctP T n q t).2 ∧ okLs (ctP T n q t).2 t) ∧ frL rm w w' ∧ (-1 ≤ z ∧ z ≤ 200)
theorem ft_end {T : List Int} {n : Nat} {q rm : Int} {t : TS} {w : Wd} (hq : q = (T.length : Int)) (h5 : w 71 5 = rm) : ftR T n q t rm w w (-1) := by
  unfold ftR ctP
  rw [if_pos hq]
  exact ⟨rfl, fun _ => ⟨by rw [h5]; simp, trivial, trivial⟩, fun _ _ _ _ => rfl, by omega⟩
theorem ft_no {T : List Int} {n : Nat} {q rm : Int} {t : TS} {w : Wd} (hq : 0 ≤ q ∧ q < (T.length : Int)) (hT : T.length ≤ 200) (h : ¬ (ch T q = 59 ∧ n ≠ 0)) : ftR T n q t rm w w q := by
  unfold ftR ctP
  rw [if_neg (by omega), if_neg h]
  exact ⟨rfl, fun q9 => by omega, fun _ _ _ _ => rfl, by omega⟩
/-- the next line cannot stand -/
theorem ft_bad {T : List Int} {n : Nat} {q rm : Int} {t : TS} {w w' : Wd} {r : LR} (hq : 0 ≤ q ∧ q < (T.length : Int)) (hT : T.length ≤ 200) (h : ch T q = 59) (hr : lnP T t.1 (nqT t) (nx T q) = r) (hf : r.1 = false) (hb : 0 ≤ r.2.1 ∧ r.2.1 ≤ (T.length : Int)) (g : frL rm w w') : ftR T (n + 1) q t rm w w' r.2.1 := by
  unfold ftR ctP
  rw [if_neg (by omega), if_pos ⟨h, by omega⟩, prP_ct hr, if_neg (by rw [hf]; decide)]
  exact ⟨rfl, fun q9 => by omega, g, by omega⟩
theorem frL.t {m m' : Int} {w1 w2 w3 : Wd} (hm : m ≤ m') (h1 : frL m w1 w2) (h2 : frL m' w2 w3) : frL m w1 w3 := fun k j q1 q2 => (h2 k j q1 (by omega)).trans (h1 k j q1 q2)
/-- it stands, and the rest is read behind it -/
theorem ft_next {T : List Int} {n : Nat} {q rm z : Int} {t : TS} {w w2 w' : Wd} {r : LR} (hq : 0 ≤ q ∧ q < (T.length : Int)) (h : ch T q = 59) (hr : lnP T t.1 (nqT t) (nx T q) = r) (hf : r.1 = true) (hl : liM w2 rm r.2.2) (ho : okLi t.1 (nqT t) r.2.2 ∧ ¬ ((1 ≤ r.2.2.1 ∧ r.2.2.1 ≤ 4) ∧ t.1 = 6) ∧ ¬ (r.2.2.1 = 6 ∧ nqT t = 6)) (g : frL rm w w2) (y : ftR T n r.2.1 (apL r.2.2 t) (rm + 1) w2 w' z) : ftR T (n + 1) q t rm w w' z := by
  obtain ⟨y1, y2, y3, y4⟩ := y
  unfold ftR ctP
  rw [if_neg (by omega), if_pos ⟨h, by omega⟩, prP_ct hr, if_pos hf]
  refine ⟨y1, fun q9 => ?_, g.t (by omega) y3, y4⟩
  obtain ⟨a1, a2, a3⟩ := y2 q9
  refine ⟨by rw [a1]; simp only [List.length_cons]; omega, ⟨liM_keep hl (fun j q0 q1 => y3 _ _ (by omega) (by omega)), a2⟩, ⟨ho, a3⟩⟩
theorem e59 {T : List Int} {q : Int} (h : q < (T.length : Int)) (hc : ch T q = 59) : tkE T q = q + 1 := by
  unfold tkE
  rw [if_pos h, hc, if_pos (by decide)]
set_option maxRecDepth 100000 in
set_option maxHeartbeats 4000000 in
theorem l_X5_fault (G : Gb) (l : Launch) {T : List Int} {Post : Int → Wd → Prop} : ∀ (n : Nat) (q : Int) (t : TS) (w : Wd) (o1 : Option Value), TM w T → tkM w T q → w 71 5 = 12 - (n : Int) → n ≤ 12 → w 71 17 = t.1 → w 71 18 = nqT t → (0 ≤ t.1 ∧ t.1 ≤ 6) → nqT t ≤ 6 → (∀ z w', ftR T n q t (12 - (n : Int)) w w' z → Post z w') → V G l mX5_fault (Qi G Post) 42 [some (.ref (gA G 71)), o1] [] w := by
  intro n
  induction n with
  | zero =>
    intro q t w o1 hT hk h5 hn h17 h18 ht hq hp
    have kp := hk.1
    have k1 := hT.1
    have k2 := hT.2.1
    have k15 := hk.2.1
    have k16 := hk.2.2.1
    have kt := tkE_bd hk.1.1 hk.1.2
    refine V_aload_n dX5_fault_42 rfl ?_
    refine V_getI (ci := 5) (j := 15) (ji := 15) dX5_fault_43 s_71 rfl rfl i_X5_fault_X5 (by decide) f_X5_fault_62 rfl ?_
    refine V_aload_n dX5_fault_46 rfl ?_
    refine V_getI (ci := 5) (j := 3) (ji := 3) dX5_fault_47 s_71 rfl rfl i_X5_fault_X5 (by decide) f_X5_fault_54 rfl ?_
    refine V_icmp_ge (tgt := 120) dX5_fault_50 (by decide) (by omega) (by omega) (fun h50 => ?_) (fun h50 => ?_)
    · refine V_iconst dX5_fault_120 ?_
      exact V_iret dX5_fault_121 rfl (hp _ _ (ft_end (by omega) (by omega)))
    · refine V_aload_n dX5_fault_53 rfl ?_
      refine V_getI (ci := 5) (j := 16) (ji := 16) dX5_fault_54 s_71 rfl rfl i_X5_fault_X5 (by decide) f_X5_fault_69 rfl ?_
      refine V_aload_n dX5_fault_57 rfl ?_
      refine V_getI (ci := 5) (j := 15) (ji := 15) dX5_fault_58 s_71 rfl rfl i_X5_fault_X5 (by decide) f_X5_fault_62 rfl ?_
      refine V_isub dX5_fault_61 ?_
      refine V_iconst dX5_fault_62 ?_
      refine V_icmp_ne (tgt := 93) dX5_fault_63 (by decide) (by omega) (by omega) (fun h63 => ?_) (fun h63 => ?_)
      · refine V_iconst dX5_fault_93 ?_
        refine V_istore_n dX5_fault_94 (by decide) rfl ?_
        refine V_iload_n dX5_fault_95 rfl ?_
        refine V_if_eq (tgt := 108) dX5_fault_96 (by decide) (by omega) (fun h96 => ?_) (fun h96 => ?_)
        · refine V_iload_n dX5_fault_108 rfl ?_
          refine V_if_ne (tgt := 117) dX5_fault_109 (by decide) (by omega) (fun h109 => ?_) (fun h109 => ?_)
          · exact absurd rfl h109
          · refine V_aload_n dX5_fault_112 rfl ?_
            refine V_getI (ci := 5) (j := 15) (ji := 15) dX5_fault_113 s_71 rfl rfl i_X5_fault_X5 (by decide) f_X5_fault_62 rfl ?_
            exact V_iret dX5_fault_116 rfl (by rw [hk.2.1]; exact hp q w (ft_no (by omega) k2 (fun q9 => h63 (by rw [k15, k16, e59 (by omega) q9.1]; omega))))
        · exact absurd rfl h96
      · refine V_aload_n dX5_fault_66 rfl ?_
        refine V_getR (ci := 5) (j := 2) dX5_fault_67 s_71 rfl rfl i_X5_fault_X5 (by decide) f_X5_fault_17 ?_
        refine V_aload_n dX5_fault_70 rfl ?_
        refine V_getI (ci := 5) (j := 15) (ji := 15) dX5_fault_71 s_71 rfl rfl i_X5_fault_X5 (by decide) f_X5_fault_62 rfl ?_
        refine V_ialdE (z := ch T q) dX5_fault_74 s_74 (by omega) (by rw [k15]; exact (hT.2.2 q (by omega) (by omega)).1) ?_
        refine V_bipush dX5_fault_75 rfl ?_
        refine V_icmp_ne (tgt := 93) dX5_fault_77 (by decide) (by have kc := (hT.2.2 q (by omega) (by omega)).2; omega) (by omega) (fun h77 => ?_) (fun h77 => ?_)
        · refine V_iconst dX5_fault_93 ?_
          refine V_istore_n dX5_fault_94 (by decide) rfl ?_
          refine V_iload_n dX5_fault_95 rfl ?_
          refine V_if_eq (tgt := 108) dX5_fault_96 (by decide) (by omega) (fun h96 => ?_) (fun h96 => ?_)
          · refine V_iload_n dX5_fault_108 rfl ?_
            refine V_if_ne (tgt := 117) dX5_fault_109 (by decide) (by omega) (fun h109 => ?_) (fun h109 => ?_)
            · exact absurd rfl h109
            · refine V_aload_n dX5_fault_112 rfl ?_
              refine V_getI (ci := 5) (j := 15) (ji := 15) dX5_fault_113 s_71 rfl rfl i_X5_fault_X5 (by decide) f_X5_fault_62 rfl ?_
              exact V_iret dX5_fault_116 rfl (by rw [hk.2.1]; exact hp q w (ft_no (by omega) k2 (fun q9 => h77 q9.1)))
          · exact absurd rfl h96
        · refine V_aload_n dX5_fault_80 rfl ?_
          refine V_getI (ci := 5) (j := 5) (ji := 5) dX5_fault_81 s_71 rfl rfl i_X5_fault_X5 (by decide) f_X5_fault_87 rfl ?_
          refine V_bipush dX5_fault_84 rfl ?_
          refine V_icmp_ge (tgt := 93) dX5_fault_86 (by decide) (by omega) (by omega) (fun h86 => ?_) (fun h86 => ?_)
          · refine V_iconst dX5_fault_93 ?_
            refine V_istore_n dX5_fault_94 (by decide) rfl ?_
            refine V_iload_n dX5_fault_95 rfl ?_
            refine V_if_eq (tgt := 108) dX5_fault_96 (by decide) (by omega) (fun h96 => ?_) (fun h96 => ?_)
            · refine V_iload_n dX5_fault_108 rfl ?_
              refine V_if_ne (tgt := 117) dX5_fault_109 (by decide) (by omega) (fun h109 => ?_) (fun h109 => ?_)
              · exact absurd rfl h109
              · refine V_aload_n dX5_fault_112 rfl ?_
                refine V_getI (ci := 5) (j := 15) (ji := 15) dX5_fault_113 s_71 rfl rfl i_X5_fault_X5 (by decide) f_X5_fault_62 rfl ?_
                exact V_iret dX5_fault_116 rfl (by rw [hk.2.1]; exact hp q w (ft_no (by omega) k2 (fun q9 => q9.2 rfl)))
            · exact absurd rfl h96
          · exact absurd h86 (by omega)
  | succ n ih =>
    intro q t w o1 hT hk h5 hn h17 h18 ht hq hp
    have hq0 : 0 ≤ nqT t := Int.natCast_nonneg _
    have kp := hk.1
    have k1 := hT.1
    have k2 := hT.2.1
    have k15 := hk.2.1
    have k16 := hk.2.2.1
    have kt := tkE_bd hk.1.1 hk.1.2
    refine V_aload_n dX5_fault_42 rfl ?_
    refine V_getI (ci := 5) (j := 15) (ji := 15) dX5_fault_43 s_71 rfl rfl i_X5_fault_X5 (by decide) f_X5_fault_62 rfl ?_
    refine V_aload_n dX5_fault_46 rfl ?_
    refine V_getI (ci := 5) (j := 3) (ji := 3) dX5_fault_47 s_71 rfl rfl i_X5_fault_X5 (by decide) f_X5_fault_54 rfl ?_
    refine V_icmp_ge (tgt := 120) dX5_fault_50 (by decide) (by omega) (by omega) (fun h50 => ?_) (fun h50 => ?_)
    · refine V_iconst dX5_fault_120 ?_
      exact V_iret dX5_fault_121 rfl (hp _ _ (ft_end (by omega) (by omega)))
    · refine V_aload_n dX5_fault_53 rfl ?_
      refine V_getI (ci := 5) (j := 16) (ji := 16) dX5_fault_54 s_71 rfl rfl i_X5_fault_X5 (by decide) f_X5_fault_69 rfl ?_
      refine V_aload_n dX5_fault_57 rfl ?_
      refine V_getI (ci := 5) (j := 15) (ji := 15) dX5_fault_58 s_71 rfl rfl i_X5_fault_X5 (by decide) f_X5_fault_62 rfl ?_
      refine V_isub dX5_fault_61 ?_
      refine V_iconst dX5_fault_62 ?_
      refine V_icmp_ne (tgt := 93) dX5_fault_63 (by decide) (by omega) (by omega) (fun h63 => ?_) (fun h63 => ?_)
      · refine V_iconst dX5_fault_93 ?_
        refine V_istore_n dX5_fault_94 (by decide) rfl ?_
        refine V_iload_n dX5_fault_95 rfl ?_
        refine V_if_eq (tgt := 108) dX5_fault_96 (by decide) (by omega) (fun h96 => ?_) (fun h96 => ?_)
        · refine V_iload_n dX5_fault_108 rfl ?_
          refine V_if_ne (tgt := 117) dX5_fault_109 (by decide) (by omega) (fun h109 => ?_) (fun h109 => ?_)
          · exact absurd rfl h109
          · refine V_aload_n dX5_fault_112 rfl ?_
            refine V_getI (ci := 5) (j := 15) (ji := 15) dX5_fault_113 s_71 rfl rfl i_X5_fault_X5 (by decide) f_X5_fault_62 rfl ?_
            exact V_iret dX5_fault_116 rfl (by rw [hk.2.1]; exact hp q w (ft_no (by omega) k2 (fun q9 => h63 (by rw [k15, k16, e59 (by omega) q9.1]; omega))))
        · exact absurd rfl h96
      · refine V_aload_n dX5_fault_66 rfl ?_
        refine V_getR (ci := 5) (j := 2) dX5_fault_67 s_71 rfl rfl i_X5_fault_X5 (by decide) f_X5_fault_17 ?_
        refine V_aload_n dX5_fault_70 rfl ?_
        refine V_getI (ci := 5) (j := 15) (ji := 15) dX5_fault_71 s_71 rfl rfl i_X5_fault_X5 (by decide) f_X5_fault_62 rfl ?_
        refine V_ialdE (z := ch T q) dX5_fault_74 s_74 (by omega) (by rw [k15]; exact (hT.2.2 q (by omega) (by omega)).1) ?_
        refine V_bipush dX5_fault_75 rfl ?_
        refine V_icmp_ne (tgt := 93) dX5_fault_77 (by decide) (by have kc := (hT.2.2 q (by omega) (by omega)).2; omega) (by omega) (fun h77 => ?_) (fun h77 => ?_)
        · refine V_iconst dX5_fault_93 ?_
          refine V_istore_n dX5_fault_94 (by decide) rfl ?_
          refine V_iload_n dX5_fault_95 rfl ?_
          refine V_if_eq (tgt := 108) dX5_fault_96 (by decide) (by omega) (fun h96 => ?_) (fun h96 => ?_)
          · refine V_iload_n dX5_fault_108 rfl ?_
            refine V_if_ne (tgt := 117) dX5_fault_109 (by decide) (by omega) (fun h109 => ?_) (fun h109 => ?_)
            · exact absurd rfl h109
            · refine V_aload_n dX5_fault_112 rfl ?_
              refine V_getI (ci := 5) (j := 15) (ji := 15) dX5_fault_113 s_71 rfl rfl i_X5_fault_X5 (by decide) f_X5_fault_62 rfl ?_
              exact V_iret dX5_fault_116 rfl (by rw [hk.2.1]; exact hp q w (ft_no (by omega) k2 (fun q9 => h77 q9.1)))
          · exact absurd rfl h96
        · refine V_aload_n dX5_fault_80 rfl ?_
          refine V_getI (ci := 5) (j := 5) (ji := 5) dX5_fault_81 s_71 rfl rfl i_X5_fault_X5 (by decide) f_X5_fault_87 rfl ?_
          refine V_bipush dX5_fault_84 rfl ?_
          refine V_icmp_ge (tgt := 93) dX5_fault_86 (by decide) (by omega) (by omega) (fun h86 => ?_) (fun h86 => ?_)
          · exact absurd h86 (by omega)
          · refine V_iconst dX5_fault_89 ?_
            refine V_goto (tgt := 94) dX5_fault_90 (by decide) ?_
            refine V_istore_n dX5_fault_94 (by decide) rfl ?_
            refine V_iload_n dX5_fault_95 rfl ?_
            refine V_if_eq (tgt := 108) dX5_fault_96 (by decide) (by omega) (fun h96 => ?_) (fun h96 => ?_)
            · exact absurd h96 (by decide)
            · refine V_aload_n dX5_fault_99 rfl ?_
              refine V_vV0 dX5_fault_100 o_X5_fault_90 s_71 rfl (Nat.le_of_ble_eq_true rfl) (c_X5_token G l hT hk.at_) ?_
              rintro w1 ⟨tk1, f1⟩
              rw [hk.2.2.2] at tk1
              have tk1 : tkM w1 T (nx T q) := tk1
              have hT1 := f1.tm hT
              have a5 : w1 71 5 = w 71 5 := f1 _ _ (by omega)
              have a17 : w1 71 17 = w 71 17 := f1 _ _ (by omega)
              have a18 : w1 71 18 = w 71 18 := f1 _ _ (by omega)
              refine V_aload_n dX5_fault_103 rfl ?_
              refine V_iV0 dX5_fault_104 o_X5_fault_121 s_71 rfl (Nat.le_of_ble_eq_true rfl) (c_X5_readsLine G l hT1 tk1 (by omega) (by omega) (by omega)) ?_
              rintro z w2 y
              rw [a5, a17, a18, h17, h18] at y
              have rz : z = 0 ∨ z = 1 := by rw [y.1]; split <;> simp
              have hT2 : TM w2 T := hT1.keep (y.2.2.2 _ _ (by omega) (by omega)) (fun i => y.2.2.2 _ _ (by omega) (by omega))
              have fL : frL (w 71 5) w w2 := fun k j q1 q2 => by rw [y.2.2.2 k j q1 q2, f1 _ _ (by omega)]
              refine V_istore_n dX5_fault_107 (by decide) rfl ?_
              refine V_iload_n dX5_fault_108 rfl ?_
              refine V_if_ne (tgt := 117) dX5_fault_109 (by decide) (by omega) (fun h109 => ?_) (fun h109 => ?_)
              · have rt : (lnP T t.1 (nqT t) (nx T q)).1 = true := by
                  cases q9 : (lnP T t.1 (nqT t) (nx T q)).1
                  · have := y.1; rw [q9] at this; simp at this; omega
                  · rfl
                obtain ⟨⟨b1, b2, b3, b4⟩, b5, b6, b7⟩ := y.2.2.1 rt
                obtain ⟨d1, d2⟩ := ap_nt (t := t) b5
                have n6 : 0 ≤ ntF (lnP T t.1 (nqT t) (nx T q)).2.2.1 t.1 ∧ ntF (lnP T t.1 (nqT t) (nx T q)).2.2.1 t.1 ≤ 6 := by unfold ntF; (repeat' split) <;> omega
                have q6 : 0 ≤ nqF (lnP T t.1 (nqT t) (nx T q)).2.2.1 (nqT t) ∧ nqF (lnP T t.1 (nqT t) (nx T q)).2.2.1 (nqT t) ≤ 6 := by unfold nqF; (repeat' split) <;> omega
                refine V_goto (tgt := 42) dX5_fault_117 (by decide) ?_
                refine ih _ (apL (lnP T t.1 (nqT t) (nx T q)).2.2 t) w2 _ hT2 y.2.1 (by omega) (by omega) (b3.trans d1.symm) (b4.trans d2.symm) (by omega) (by omega) (fun z9 w9 y9 => hp z9 w9 ?_)
                have y9 : ftR T n (lnP T t.1 (nqT t) (nx T q)).2.1 (apL (lnP T t.1 (nqT t) (nx T q)).2.2 t) (w 71 5 + 1) w2 w9 z9 := by rw [show w 71 5 + 1 = 12 - (n : Int) by omega]; exact y9
                rw [← h5]
                exact ft_next (by omega) h77 rfl rt b1 ⟨b5, b6, b7⟩ fL y9
              · have rf : (lnP T t.1 (nqT t) (nx T q)).1 = false := by
                  cases q9 : (lnP T t.1 (nqT t) (nx T q)).1
                  · rfl
                  · have := y.1; rw [q9] at this; simp at this; omega
                refine V_aload_n dX5_fault_112 rfl ?_
                refine V_getI (ci := 5) (j := 15) (ji := 15) dX5_fault_113 s_71 rfl rfl i_X5_fault_X5 (by decide) f_X5_fault_62 rfl ?_
                exact V_iret dX5_fault_116 rfl (by rw [y.2.1.2.1]; exact hp _ _ (by rw [← h5]; exact ft_bad (by omega) k2 h77 rfl rf y.2.1.1 fL))
/-- behind fault: its answer, and, if it is NONE, the lines -/
def faR (σ : SG) (w w' : Wd) (z : Int) : Prop := z = (prP σ.1 12 (sk σ.1 0) σ.2.1).1 ∧ (z = -1 → w' 71 5 = (((prP σ.1 12 (sk σ.1 0) σ.2.1).2.length : Nat) : Int) ∧ liMs w' 0 (prP σ.1 12 (sk σ.1 0) σ.2.1).2 ∧ okLs (prP σ.1 12 (sk σ.1 0) σ.2.1).2 σ.2.1) ∧ frL 0 w w' ∧ (-1 ≤ z ∧ z ≤ 200)
theorem SM.nq {c : Int} {σ : SG} {w : Wd} (h : SM c σ w) : w 71 12 = nqT σ.2.1 := by
  have := h.2.1.2.1.2.1
  show w 71 12 = ((σ.2.1.2.2.2.2.2.2.1.length : Nat) : Int)
  rw [← h.tQ]
  simp [qsM]
  omega
set_option maxRecDepth 100000 in
set_option maxHeartbeats 4000000 in
theorem c0_X5_fault (G : Gb) (l : Launch) {w : Wd} {c : Int} {σ : SG} (h : SM c σ w) : Ci G l yX5_fault mX5_fault [.ref (gA G 71)] w (fun z w' => faR σ w w' z) := by
  refine V_start 1 (by decide) rfl rfl (Nat.le_of_ble_eq_true rfl) ?_
  show V G l mX5_fault _ 0 [some (.ref (gA G 71)), none] [] w
  have k2 := h.1.2.1
  have kt := h.2.1.2.1.1
  have eN := h.tN
  have eQ := h.nq
  have kq := h.2.1.2.1.2.1
  refine V_aload_n dX5_fault_0 rfl ?_
  refine V_iconst dX5_fault_1 ?_
  refine V_putI (ci := 5) (j := 14) (ji := 14) dX5_fault_2 s_71 rfl rfl i_X5_fault_X5 tyX5_ok nmX5 (by decide) f_X5_fault_59 rfl rfl rfl ?_
  refine V_aload_n dX5_fault_5 rfl ?_
  refine V_iconst dX5_fault_6 ?_
  refine V_putI (ci := 5) (j := 5) (ji := 5) dX5_fault_7 s_71 rfl rfl i_X5_fault_X5 tyX5_ok nmX5 (by decide) f_X5_fault_87 rfl rfl rfl ?_
  refine V_aload_n dX5_fault_10 rfl ?_
  refine V_aload_n dX5_fault_11 rfl ?_
  refine V_getIE (ci := 5) (j := 10) (ji := 10) (z := w 71 10) dX5_fault_12 s_71 rfl rfl i_X5_fault_X5 (by decide) f_X5_fault_115 rfl (by rw [up_ne (by omega), up_ne (by omega)]) ?_
  refine V_putI (ci := 5) (j := 17) (ji := 17) dX5_fault_15 s_71 rfl rfl i_X5_fault_X5 tyX5_ok nmX5 (by decide) f_X5_fault_93 rfl rfl rfl ?_
  refine V_aload_n dX5_fault_18 rfl ?_
  refine V_aload_n dX5_fault_19 rfl ?_
  refine V_getIE (ci := 5) (j := 12) (ji := 12) (z := w 71 12) dX5_fault_20 s_71 rfl rfl i_X5_fault_X5 (by decide) f_X5_fault_118 rfl (by rw [up_ne (by omega), up_ne (by omega), up_ne (by omega)]) ?_
  refine V_putI (ci := 5) (j := 18) (ji := 18) dX5_fault_23 s_71 rfl rfl i_X5_fault_X5 tyX5_ok nmX5 (by decide) f_X5_fault_109 rfl rfl rfl ?_
  refine V_aload_n dX5_fault_26 rfl ?_
  generalize hu : (up (up (up (up w 71 14 0) 71 5 0) 71 17 (w 71 10)) 71 18 (w 71 12)) = u
  have gu : ∀ (k : Nat) (j : Int), (k ≠ 71 ∨ (j ≠ 14 ∧ j ≠ 5 ∧ j ≠ 17 ∧ j ≠ 18)) → u k j = w k j := fun k j q => by rw [← hu, up_ne (by omega), up_ne (by omega), up_ne (by omega), up_ne (by omega)]
  have u14 : u 71 14 = 0 := by rw [← hu, up_ne (by omega), up_ne (by omega), up_ne (by omega), up_eq]
  have u5 : u 71 5 = 0 := by rw [← hu, up_ne (by omega), up_ne (by omega), up_eq]
  have u17 : u 71 17 = σ.2.1.1 := by rw [← hu, up_ne (by omega), up_eq]; exact h.tN
  have u18 : u 71 18 = nqT σ.2.1 := by rw [← hu, up_eq]; exact h.nq
  have hTu : TM u σ.1 := h.1.keep (gu _ _ (by omega)) (fun i => gu _ _ (by omega))
  refine V_vV0 dX5_fault_27 o_X5_fault_90 s_71 rfl (Nat.le_of_ble_eq_true rfl) (c_X5_token G l hTu (by rw [u14]; omega)) ?_
  rintro w1 ⟨tk1, f1⟩
  rw [u14] at tk1
  have hT1 := f1.tm hTu
  have a5 : w1 71 5 = 0 := (f1 _ _ (by omega)).trans u5
  have a17 : w1 71 17 = σ.2.1.1 := (f1 _ _ (by omega)).trans u17
  have a18 : w1 71 18 = nqT σ.2.1 := (f1 _ _ (by omega)).trans u18
  have fw : frL 0 w w1 := fun k j q1 q2 => by rw [f1 _ _ (by omega), gu _ _ (by omega)]
  refine V_aload_n dX5_fault_30 rfl ?_
  refine V_iV0 dX5_fault_31 o_X5_fault_121 s_71 rfl (Nat.le_of_ble_eq_true rfl) (c_X5_readsLine G l hT1 tk1 (by omega) (by omega) (by omega)) ?_
  rintro z w2 y
  rw [a5, a17, a18] at y
  have rz : z = 0 ∨ z = 1 := by rw [y.1]; split <;> simp
  have hT2 : TM w2 σ.1 := hT1.keep (y.2.2.2 _ _ (by omega) (by omega)) (fun i => y.2.2.2 _ _ (by omega) (by omega))
  refine V_if_ne (tgt := 42) dX5_fault_34 (by decide) (by omega) (fun h34 => ?_) (fun h34 => ?_)
  · have rt : (lnP σ.1 σ.2.1.1 (nqT σ.2.1) (sk σ.1 0)).1 = true := by
      cases q9 : (lnP σ.1 σ.2.1.1 (nqT σ.2.1) (sk σ.1 0)).1
      · have := y.1; rw [q9] at this; simp at this; omega
      · rfl
    obtain ⟨⟨b1, b2, b3, b4⟩, b5, b6, b7⟩ := y.2.2.1 rt
    obtain ⟨d1, d2⟩ := ap_nt (t := σ.2.1) b5
    have n6 : 0 ≤ ntF (lnP σ.1 σ.2.1.1 (nqT σ.2.1) (sk σ.1 0)).2.2.1 σ.2.1.1 ∧ ntF (lnP σ.1 σ.2.1.1 (nqT σ.2.1) (sk σ.1 0)).2.2.1 σ.2.1.1 ≤ 6 := by unfold ntF; (repeat' split) <;> omega
    have q6 : 0 ≤ nqF (lnP σ.1 σ.2.1.1 (nqT σ.2.1) (sk σ.1 0)).2.2.1 (nqT σ.2.1) ∧ nqF (lnP σ.1 σ.2.1.1 (nqT σ.2.1) (sk σ.1 0)).2.2.1 (nqT σ.2.1) ≤ 6 := by unfold nqF; (repeat' split) <;> omega
    refine l_X5_fault G l 11 _ (apL (lnP σ.1 σ.2.1.1 (nqT σ.2.1) (sk σ.1 0)).2.2 σ.2.1) w2 _ hT2 y.2.1 (by omega) (by omega) (b3.trans d1.symm) (b4.trans d2.symm) (by omega) (by omega) (fun z9 w9 y9 => ?_)
    obtain ⟨c1, c2, c3, c4⟩ := y9
    unfold faR
    rw [prP_ct rfl, if_pos rt]
    refine ⟨c1, fun q9 => ?_, fw.t (by omega) (y.2.2.2.t (by omega) c3), c4⟩
    obtain ⟨e1, e2, e3⟩ := c2 q9
    refine ⟨by rw [e1]; simp only [List.length_cons]; omega, ⟨liM_keep b1 (fun j q0 q1 => c3 _ _ (by omega) (by omega)), e2⟩, ⟨⟨b5, b6, b7⟩, e3⟩⟩
  · have rf : (lnP σ.1 σ.2.1.1 (nqT σ.2.1) (sk σ.1 0)).1 = false := by
      cases q9 : (lnP σ.1 σ.2.1.1 (nqT σ.2.1) (sk σ.1 0)).1
      · rfl
      · have := y.1; rw [q9] at this; simp at this; omega
    have pb := y.2.1.1
    refine V_aload_n dX5_fault_37 rfl ?_
    refine V_getI (ci := 5) (j := 15) (ji := 15) dX5_fault_38 s_71 rfl rfl i_X5_fault_X5 (by decide) f_X5_fault_62 rfl ?_
    exact V_iret dX5_fault_41 rfl (by rw [y.2.1.2.1]; unfold faR; rw [prP_ct rfl, if_neg (by rw [rf]; decide)]; exact ⟨rfl, fun q9 => by omega, fw.t (by omega) y.2.2.2, by omega⟩)
theorem frL.sm {c : Int} {σ : SG} {w w' : Wd} (h : SM c σ w) (g : frL 0 w w') : SM c σ w' := h.keep (by omega) (fun k j q => g k j (by omega) (by omega))
theorem Ci_mono {G : Gb} {l : Launch} {y : MethodName} {M : MB} {avs : List Value} {w : Wd} {P Q : Int → Wd → Prop} (h : Ci G l y M avs w P) (k : ∀ z w', P z w' → Q z w') : Ci G l y M avs w Q := by
  intro p e ha hc hk s m args below hf hap hP tr
  obtain ⟨t, o, h1, h2, h3, ⟨⟨r, u, e1, ⟨z, e0, e2⟩, e3⟩, e4⟩, e5⟩ := h p e ha hc hk s m args below hf hap hP tr
  exact ⟨t, o, h1, h2, h3, ⟨⟨r, u, e1, ⟨z, e0, k z u e2⟩, e3⟩, e4⟩, e5⟩
theorem c_X5_fault (G : Gb) (l : Launch) {w : Wd} {c : Int} {σ : SG} (h : SM c σ w) : Ci G l yX5_fault mX5_fault [.ref (gA G 71)] w (fun z w' => z = (prP σ.1 12 (sk σ.1 0) σ.2.1).1 ∧ SM (c + 1) σ w' ∧ frM w w') :=
  Ci_mono (c0_X5_fault G l h) (fun z w' y => ⟨y.1, (frL.sm h y.2.2.1).same, fun k j q => y.2.2.1 k j (by omega) (by omega)⟩)

/-! ===== 52 the reference's reader: tokens, words ===== -/
def tkM (w : Wd) (T : List Int) (p : Int) : Prop := (0 ≤ p ∧ p ≤ (T.length : Int)) ∧ w 71 15 = p ∧ w 71 16 = tkE T p ∧ w 71 14 = tkE T p
def frTk (w w' : Wd) : Prop := ∀ (k : Nat) (j : Int), (k ≠ 71 ∨ (j ≠ 14 ∧ j ≠ 15 ∧ j ≠ 16)) → w' k j = w k j
theorem frTk.tm {w w' : Wd} {T : List Int} (h : frTk w w') (hT : TM w T) : TM w' T := hT.keep (h _ _ (by omega)) (fun i => h _ _ (by omega))
theorem frTk.t {w1 w2 w3 : Wd} (h1 : frTk w1 w2) (h2 : frTk w2 w3) : frTk w1 w3 := fun k j q => (h2 k j q).trans (h1 k j q)
theorem tkM.at_ {w : Wd} {T : List Int} {p : Int} (h : tkM w T p) : 0 ≤ w 71 14 ∧ w 71 14 ≤ (T.length : Int) := by
  have := tkE_bd h.1.1 h.1.2
  have q := h.1
  rw [h.2.2.2]
  omega
theorem TM.rg {w : Wd} {T : List Int} (h : TM w T) {i : Int} (h0 : 0 ≤ i) (h1 : i < (T.length : Int)) : 0 ≤ w 74 i ∧ w 74 i ≤ 255 := by
  have := h.2.2 i h0 h1
  rw [this.1]
  exact this.2
theorem TM.up {w : Wd} {T : List Int} {j z : Int} (h : TM w T) (hj : j ≠ 3) : TM (up w 71 j z) T := h.keep (up_ne (by omega)) (fun i => up_ne (by omega))
theorem tkE_s {T : List Int} {p : Int} (h0 : 0 ≤ p) (h : p < (T.length : Int)) (hs : srt (ch T p) ≠ 0) : exN T (srt (ch T p)) ((T.length : Int) - (p + 1)).toNat (p + 1) = tkE T p := by
  unfold tkE
  rw [if_pos h, if_neg hs, show ((T.length : Int) - p).toNat = ((T.length : Int) - (p + 1)).toNat + 1 by omega, exN, if_pos rfl]
set_option maxRecDepth 100000 in
set_option maxHeartbeats 4000000 in
theorem l1_X5_token (G : Gb) (l : Launch) {T : List Int} {Qc : Array Value → State → Outcome → State → Prop} : ∀ (n : Nat) (a : Int) (w : Wd), 0 ≤ a → a + n = (T.length : Int) → TM w T → w 71 14 = a → V G l mX5_token Qc 38 [some (.ref (gA G 71))] [] (up w 71 14 (skN T n a)) → V G l mX5_token Qc 0 [some (.ref (gA G 71))] [] w := by
  intro n
  induction n with
  | zero =>
    intro a w h0 h1 hT ha hp
    have k1 := hT.1
    have k2 := hT.2.1
    refine V_aload_n dX5_token_0 rfl ?_
    refine V_getI (ci := 5) (j := 14) (ji := 14) dX5_token_1 s_71 rfl rfl i_X5_token_X5 (by decide) f_X5_token_59 rfl ?_
    refine V_aload_n dX5_token_4 rfl ?_
    refine V_getI (ci := 5) (j := 3) (ji := 3) dX5_token_5 s_71 rfl rfl i_X5_token_X5 (by decide) f_X5_token_54 rfl ?_
    refine V_icmp_ge (tgt := 38) dX5_token_8 (by decide) (by omega) (by omega) (fun h8 => ?_) (fun h8 => ?_)
    · rw [skN, up_same ha] at hp
      exact hp
    · exact absurd h8 (by omega)
  | succ n ih =>
    intro a w h0 h1 hT ha hp
    have k1 := hT.1
    have k2 := hT.2.1
    have k3 := hT.2.2 a h0 (by omega)
    have k4 : w 74 (w 71 14) = ch T a := by rw [ha]; exact k3.1
    rw [skN] at hp
    refine V_aload_n dX5_token_0 rfl ?_
    refine V_getI (ci := 5) (j := 14) (ji := 14) dX5_token_1 s_71 rfl rfl i_X5_token_X5 (by decide) f_X5_token_59 rfl ?_
    refine V_aload_n dX5_token_4 rfl ?_
    refine V_getI (ci := 5) (j := 3) (ji := 3) dX5_token_5 s_71 rfl rfl i_X5_token_X5 (by decide) f_X5_token_54 rfl ?_
    refine V_icmp_ge (tgt := 38) dX5_token_8 (by decide) (by omega) (by omega) (fun h8 => ?_) (fun h8 => ?_)
    · exact absurd h8 (by omega)
    · refine V_aload_n dX5_token_11 rfl ?_
      refine V_getR (ci := 5) (j := 2) dX5_token_12 s_71 rfl rfl i_X5_token_X5 (by decide) f_X5_token_17 ?_
      refine V_aload_n dX5_token_15 rfl ?_
      refine V_getI (ci := 5) (j := 14) (ji := 14) dX5_token_16 s_71 rfl rfl i_X5_token_X5 (by decide) f_X5_token_59 rfl ?_
      refine V_ialdE (z := ch T a) dX5_token_19 s_74 (by omega) k4 ?_
      refine V_bipush dX5_token_20 rfl ?_
      refine V_icmp_ne (tgt := 38) dX5_token_22 (by decide) (by omega) (by omega) (fun h22 => ?_) (fun h22 => ?_)
      · rw [if_neg h22, up_same ha] at hp
        exact hp
      · rw [if_pos h22] at hp
        refine V_aload_n dX5_token_25 rfl ?_
        refine V_dup dX5_token_26 rfl ?_
        refine V_getI (ci := 5) (j := 14) (ji := 14) dX5_token_27 s_71 rfl rfl i_X5_token_X5 (by decide) f_X5_token_59 rfl ?_
        refine V_iconst dX5_token_30 ?_
        refine V_iadd dX5_token_31 ?_
        refine V_putI (ci := 5) (j := 14) (ji := 14) dX5_token_32 s_71 rfl rfl i_X5_token_X5 tyX5_ok nmX5 (by decide) f_X5_token_59 rfl rfl rfl ?_
        refine V_goto (tgt := 0) dX5_token_35 (by decide) ?_
        refine ih (a + 1) _ (by omega) (by omega) (hT.up (by omega)) (by rw [up_eq, ha]) ?_
        rw [up_up]
        exact hp
set_option maxRecDepth 100000 in
set_option maxHeartbeats 4000000 in
theorem l2_X5_token (G : Gb) (l : Launch) {T : List Int} {p : Int} (hp0 : 0 ≤ p ∧ p < (T.length : Int)) (hs : 0 < srt (ch T p)) {Qc : Array Value → State → Outcome → State → Prop} : ∀ (n : Nat) (e : Int) (w : Wd), 0 ≤ e → e + n = (T.length : Int) → TM w T → w 71 14 = e → w 71 15 = p → V G l mX5_token Qc 137 [some (.ref (gA G 71))] [] (up w 71 14 (exN T (srt (ch T p)) n e)) → V G l mX5_token Qc 71 [some (.ref (gA G 71))] [] w := by
  have rs := srt_v (ch T p)
  intro n
  induction n with
  | zero =>
    intro e w h0 h1 hT he hw hp
    have k1 := hT.1
    have k2 := hT.2.1
    refine V_aload_n dX5_token_71 rfl ?_
    refine V_getI (ci := 5) (j := 14) (ji := 14) dX5_token_72 s_71 rfl rfl i_X5_token_X5 (by decide) f_X5_token_59 rfl ?_
    refine V_aload_n dX5_token_75 rfl ?_
    refine V_getI (ci := 5) (j := 3) (ji := 3) dX5_token_76 s_71 rfl rfl i_X5_token_X5 (by decide) f_X5_token_54 rfl ?_
    refine V_icmp_ge (tgt := 137) dX5_token_79 (by decide) (by omega) (by omega) (fun h79 => ?_) (fun h79 => ?_)
    · rw [exN, up_same he] at hp
      exact hp
    · exact absurd h79 (by omega)
  | succ n ih =>
    intro e w h0 h1 hT he hw hp
    have k1 := hT.1
    have k2 := hT.2.1
    have k3 := hT.2.2 e h0 (by omega)
    have k4 : w 74 (w 71 14) = ch T e := by rw [he]; exact k3.1
    have k5 := hT.2.2 p hp0.1 hp0.2
    have k6 : w 74 (w 71 15) = ch T p := by rw [hw]; exact k5.1
    have re := srt_v (ch T e)
    rw [exN] at hp
    refine V_aload_n dX5_token_71 rfl ?_
    refine V_getI (ci := 5) (j := 14) (ji := 14) dX5_token_72 s_71 rfl rfl i_X5_token_X5 (by decide) f_X5_token_59 rfl ?_
    refine V_aload_n dX5_token_75 rfl ?_
    refine V_getI (ci := 5) (j := 3) (ji := 3) dX5_token_76 s_71 rfl rfl i_X5_token_X5 (by decide) f_X5_token_54 rfl ?_
    refine V_icmp_ge (tgt := 137) dX5_token_79 (by decide) (by omega) (by omega) (fun h79 => ?_) (fun h79 => ?_)
    · exact absurd h79 (by omega)
    · refine V_aload_n dX5_token_82 rfl ?_
      refine V_getR (ci := 5) (j := 2) dX5_token_83 s_71 rfl rfl i_X5_token_X5 (by decide) f_X5_token_17 ?_
      refine V_aload_n dX5_token_86 rfl ?_
      refine V_getI (ci := 5) (j := 15) (ji := 15) dX5_token_87 s_71 rfl rfl i_X5_token_X5 (by decide) f_X5_token_62 rfl ?_
      refine V_ialdE (z := ch T p) dX5_token_90 s_74 (by omega) k6 ?_
      refine V_iS1 dX5_token_91 o_X5_token_65 (Nat.le_of_ble_eq_true rfl) (c_X5_sort G l (by omega)) ?_
      rintro _ _ ⟨rfl, rfl⟩
      refine V_if_le (tgt := 137) dX5_token_94 (by decide) (by omega) (fun h94 => ?_) (fun h94 => ?_)
      · exact absurd h94 (by omega)
      · refine V_aload_n dX5_token_97 rfl ?_
        refine V_getR (ci := 5) (j := 2) dX5_token_98 s_71 rfl rfl i_X5_token_X5 (by decide) f_X5_token_17 ?_
        refine V_aload_n dX5_token_101 rfl ?_
        refine V_getI (ci := 5) (j := 14) (ji := 14) dX5_token_102 s_71 rfl rfl i_X5_token_X5 (by decide) f_X5_token_59 rfl ?_
        refine V_ialdE (z := ch T e) dX5_token_105 s_74 (by omega) k4 ?_
        refine V_iS1 dX5_token_106 o_X5_token_65 (Nat.le_of_ble_eq_true rfl) (c_X5_sort G l (by omega)) ?_
        rintro _ _ ⟨rfl, rfl⟩
        refine V_aload_n dX5_token_109 rfl ?_
        refine V_getR (ci := 5) (j := 2) dX5_token_110 s_71 rfl rfl i_X5_token_X5 (by decide) f_X5_token_17 ?_
        refine V_aload_n dX5_token_113 rfl ?_
        refine V_getI (ci := 5) (j := 15) (ji := 15) dX5_token_114 s_71 rfl rfl i_X5_token_X5 (by decide) f_X5_token_62 rfl ?_
        refine V_ialdE (z := ch T p) dX5_token_117 s_74 (by omega) k6 ?_
        refine V_iS1 dX5_token_118 o_X5_token_65 (Nat.le_of_ble_eq_true rfl) (c_X5_sort G l (by omega)) ?_
        rintro _ _ ⟨rfl, rfl⟩
        refine V_icmp_ne (tgt := 137) dX5_token_121 (by decide) (by omega) (by omega) (fun h121 => ?_) (fun h121 => ?_)
        · rw [if_neg h121, up_same he] at hp
          exact hp
        · rw [if_pos h121] at hp
          refine V_aload_n dX5_token_124 rfl ?_
          refine V_dup dX5_token_125 rfl ?_
          refine V_getI (ci := 5) (j := 14) (ji := 14) dX5_token_126 s_71 rfl rfl i_X5_token_X5 (by decide) f_X5_token_59 rfl ?_
          refine V_iconst dX5_token_129 ?_
          refine V_iadd dX5_token_130 ?_
          refine V_putI (ci := 5) (j := 14) (ji := 14) dX5_token_131 s_71 rfl rfl i_X5_token_X5 tyX5_ok nmX5 (by decide) f_X5_token_59 rfl rfl rfl ?_
          refine V_goto (tgt := 71) dX5_token_134 (by decide) ?_
          refine ih (e + 1) _ (by omega) (by omega) (hT.up (by omega)) (by rw [up_eq, he]) (by rw [up_ne (by omega)]; exact hw) ?_
          rw [up_up]
          exact hp
set_option maxRecDepth 100000 in
set_option maxHeartbeats 4000000 in
theorem c_X5_token (G : Gb) (l : Launch) {w : Wd} {T : List Int} (hT : TM w T) (h14 : 0 ≤ w 71 14 ∧ w 71 14 ≤ (T.length : Int)) : Cv G l yX5_token mX5_token [.ref (gA G 71)] w (fun w' => tkM w' T (sk T (w 71 14)) ∧ frTk w w') := by
  refine V_start 0 (by decide) rfl rfl (Nat.le_of_ble_eq_true rfl) ?_
  show V G l mX5_token _ 0 [some (.ref (gA G 71))] [] w
  have k2 := hT.2.1
  refine l1_X5_token G l ((T.length : Int) - w 71 14).toNat (w 71 14) w (by omega) (by omega) hT rfl ?_
  have pb := sk_bd (T := T) h14.1 h14.2
  generalize hpp : sk T (w 71 14) = p at pb ⊢
  have hu : skN T ((T.length : Int) - w 71 14).toNat (w 71 14) = p := hpp
  rw [hu]
  generalize hw1 : up w 71 14 p = u
  have g1 : ∀ (k : Nat) (j : Int), (k ≠ 71 ∨ j ≠ 14) → u k j = w k j := fun k j q => by rw [← hw1, up_ne q]
  have u14 : u 71 14 = p := by rw [← hw1, up_eq]
  have u3 : u 71 3 = (T.length : Int) := by rw [g1 _ _ (by omega)]; exact hT.1
  refine V_aload_n dX5_token_38 rfl ?_
  refine V_aload_n dX5_token_39 rfl ?_
  refine V_getIE (ci := 5) (j := 14) (ji := 14) (z := p) dX5_token_40 s_71 rfl rfl i_X5_token_X5 (by decide) f_X5_token_59 rfl u14 ?_
  refine V_putI (ci := 5) (j := 15) (ji := 15) dX5_token_43 s_71 rfl rfl i_X5_token_X5 tyX5_ok nmX5 (by decide) f_X5_token_62 rfl rfl rfl ?_
  refine V_aload_n dX5_token_46 rfl ?_
  refine V_dup dX5_token_47 rfl ?_
  refine V_getIE (ci := 5) (j := 14) (ji := 14) (z := p) dX5_token_48 s_71 rfl rfl i_X5_token_X5 (by decide) f_X5_token_59 rfl (by rw [up_ne (by omega)]; exact u14) ?_
  refine V_aload_n dX5_token_51 rfl ?_
  refine V_getIE (ci := 5) (j := 14) (ji := 14) (z := p) dX5_token_52 s_71 rfl rfl i_X5_token_X5 (by decide) f_X5_token_59 rfl (by rw [up_ne (by omega)]; exact u14) ?_
  refine V_aload_n dX5_token_55 rfl ?_
  refine V_getIE (ci := 5) (j := 3) (ji := 3) (z := (T.length : Int)) dX5_token_56 s_71 rfl rfl i_X5_token_X5 (by decide) f_X5_token_54 rfl (by rw [up_ne (by omega)]; exact u3) ?_
  refine V_icmp_ge (tgt := 66) dX5_token_59 (by decide) (by omega) (by omega) (fun h59 => ?_) (fun h59 => ?_)
  · refine V_iconst dX5_token_66 ?_
    refine V_iadd dX5_token_67 ?_
    refine V_putI (ci := 5) (j := 14) (ji := 14) dX5_token_68 s_71 rfl rfl i_X5_token_X5 tyX5_ok nmX5 (by decide) f_X5_token_59 rfl rfl rfl ?_
    generalize hv9 : up (up u 71 15 p) 71 14 (p + 0) = v
    have g2 : ∀ (k : Nat) (j : Int), (k ≠ 71 ∨ (j ≠ 14 ∧ j ≠ 15)) → v k j = w k j := fun k j q => by rw [← hv9, up_ne (by omega), up_ne (by omega), g1 _ _ (by omega)]
    have v14 : v 71 14 = (p + 0) := by rw [← hv9, up_eq]
    have v15 : v 71 15 = p := by rw [← hv9, up_ne (by omega), up_eq]
    have hTv : TM v T := hT.keep (g2 _ _ (by omega)) (fun i => g2 _ _ (by omega))
    have v3 := hTv.1
    refine V_aload_n dX5_token_71 rfl ?_
    refine V_getI (ci := 5) (j := 14) (ji := 14) dX5_token_72 s_71 rfl rfl i_X5_token_X5 (by decide) f_X5_token_59 rfl ?_
    refine V_aload_n dX5_token_75 rfl ?_
    refine V_getI (ci := 5) (j := 3) (ji := 3) dX5_token_76 s_71 rfl rfl i_X5_token_X5 (by decide) f_X5_token_54 rfl ?_
    refine V_icmp_ge (tgt := 137) dX5_token_79 (by decide) (by omega) (by omega) (fun h79 => ?_) (fun h79 => ?_)
    · refine V_aload_n dX5_token_137 rfl ?_
      refine V_aload_n dX5_token_138 rfl ?_
      refine V_getI (ci := 5) (j := 14) (ji := 14) dX5_token_139 s_71 rfl rfl i_X5_token_X5 (by decide) f_X5_token_59 rfl ?_
      refine V_putI (ci := 5) (j := 16) (ji := 16) dX5_token_142 s_71 rfl rfl i_X5_token_X5 tyX5_ok nmX5 (by decide) f_X5_token_69 rfl rfl rfl ?_
      exact V_vret dX5_token_145 rfl ⟨⟨⟨by omega, by omega⟩, by rw [up_ne (by omega)]; exact v15, by rw [up_eq, v14, tkE, if_neg (by omega)]; omega, by rw [up_ne (by omega), v14, tkE, if_neg (by omega)]; omega⟩, fun k j q => by rw [up_ne (by omega)]; exact g2 k j (by omega)⟩
    · exact absurd h79 (by omega)
  · refine V_iconst dX5_token_62 ?_
    refine V_goto (tgt := 67) dX5_token_63 (by decide) ?_
    refine V_iadd dX5_token_67 ?_
    refine V_putI (ci := 5) (j := 14) (ji := 14) dX5_token_68 s_71 rfl rfl i_X5_token_X5 tyX5_ok nmX5 (by decide) f_X5_token_59 rfl rfl rfl ?_
    generalize hv9 : up (up u 71 15 p) 71 14 (p + 1) = v
    have g2 : ∀ (k : Nat) (j : Int), (k ≠ 71 ∨ (j ≠ 14 ∧ j ≠ 15)) → v k j = w k j := fun k j q => by rw [← hv9, up_ne (by omega), up_ne (by omega), g1 _ _ (by omega)]
    have v14 : v 71 14 = (p + 1) := by rw [← hv9, up_eq]
    have v15 : v 71 15 = p := by rw [← hv9, up_ne (by omega), up_eq]
    have hTv : TM v T := hT.keep (g2 _ _ (by omega)) (fun i => g2 _ _ (by omega))
    have v3 := hTv.1
    have k5 := hTv.2.2 p (by omega) (by omega)
    have k6 : v 74 (v 71 15) = ch T p := by rw [v15]; exact k5.1
    have rs := srt_v (ch T p)
    by_cases hs0 : srt (ch T p) = 0
    · have eT : p + 1 = tkE T p := by rw [tkE, if_pos (by omega), if_pos hs0]
      refine V_aload_n dX5_token_71 rfl ?_
      refine V_getI (ci := 5) (j := 14) (ji := 14) dX5_token_72 s_71 rfl rfl i_X5_token_X5 (by decide) f_X5_token_59 rfl ?_
      refine V_aload_n dX5_token_75 rfl ?_
      refine V_getI (ci := 5) (j := 3) (ji := 3) dX5_token_76 s_71 rfl rfl i_X5_token_X5 (by decide) f_X5_token_54 rfl ?_
      refine V_icmp_ge (tgt := 137) dX5_token_79 (by decide) (by omega) (by omega) (fun h79 => ?_) (fun h79 => ?_)
      · refine V_aload_n dX5_token_137 rfl ?_
        refine V_aload_n dX5_token_138 rfl ?_
        refine V_getI (ci := 5) (j := 14) (ji := 14) dX5_token_139 s_71 rfl rfl i_X5_token_X5 (by decide) f_X5_token_59 rfl ?_
        refine V_putI (ci := 5) (j := 16) (ji := 16) dX5_token_142 s_71 rfl rfl i_X5_token_X5 tyX5_ok nmX5 (by decide) f_X5_token_69 rfl rfl rfl ?_
        exact V_vret dX5_token_145 rfl ⟨⟨⟨by omega, by omega⟩, by rw [up_ne (by omega)]; exact v15, by rw [up_eq, v14]; exact eT, by rw [up_ne (by omega), v14]; exact eT⟩, fun k j q => by rw [up_ne (by omega)]; exact g2 k j (by omega)⟩
      · refine V_aload_n dX5_token_82 rfl ?_
        refine V_getR (ci := 5) (j := 2) dX5_token_83 s_71 rfl rfl i_X5_token_X5 (by decide) f_X5_token_17 ?_
        refine V_aload_n dX5_token_86 rfl ?_
        refine V_getI (ci := 5) (j := 15) (ji := 15) dX5_token_87 s_71 rfl rfl i_X5_token_X5 (by decide) f_X5_token_62 rfl ?_
        refine V_ialdE (z := ch T p) dX5_token_90 s_74 (by omega) k6 ?_
        refine V_iS1 dX5_token_91 o_X5_token_65 (Nat.le_of_ble_eq_true rfl) (c_X5_sort G l (by omega)) ?_
        rintro _ _ ⟨rfl, rfl⟩
        refine V_if_le (tgt := 137) dX5_token_94 (by decide) (by omega) (fun h94 => ?_) (fun h94 => ?_)
        · refine V_aload_n dX5_token_137 rfl ?_
          refine V_aload_n dX5_token_138 rfl ?_
          refine V_getI (ci := 5) (j := 14) (ji := 14) dX5_token_139 s_71 rfl rfl i_X5_token_X5 (by decide) f_X5_token_59 rfl ?_
          refine V_putI (ci := 5) (j := 16) (ji := 16) dX5_token_142 s_71 rfl rfl i_X5_token_X5 tyX5_ok nmX5 (by decide) f_X5_token_69 rfl rfl rfl ?_
          exact V_vret dX5_token_145 rfl ⟨⟨⟨by omega, by omega⟩, by rw [up_ne (by omega)]; exact v15, by rw [up_eq, v14]; exact eT, by rw [up_ne (by omega), v14]; exact eT⟩, fun k j q => by rw [up_ne (by omega)]; exact g2 k j (by omega)⟩
        · exact absurd h94 (by omega)
    · refine l2_X5_token G l (p := p) ⟨by omega, by omega⟩ (by omega) ((T.length : Int) - (p + 1)).toNat (p + 1) v (by omega) (by omega) hTv v14 v15 ?_
      rw [tkE_s (by omega) (by omega) hs0]
      refine V_aload_n dX5_token_137 rfl ?_
      refine V_aload_n dX5_token_138 rfl ?_
      refine V_getIE (ci := 5) (j := 14) (ji := 14) (z := tkE T p) dX5_token_139 s_71 rfl rfl i_X5_token_X5 (by decide) f_X5_token_59 rfl (up_eq _ _ _ _) ?_
      refine V_putI (ci := 5) (j := 16) (ji := 16) dX5_token_142 s_71 rfl rfl i_X5_token_X5 tyX5_ok nmX5 (by decide) f_X5_token_69 rfl rfl rfl ?_
      exact V_vret dX5_token_145 rfl ⟨⟨⟨by omega, by omega⟩, by rw [up_ne (by omega), up_ne (by omega)]; exact v15, by rw [up_eq], by rw [up_ne (by omega), up_eq]⟩, fun k j q => by rw [up_ne (by omega), up_ne (by omega)]; exact g2 k j (by omega)⟩

/-! ===== 24 quarrels, a whole line, the whole text ===== -/
section VQ
variable {G : Gb} {l : Launch} {M : MB} {Qc : Array Value → State → Outcome → State → Prop} {pc : Nat} {L : List (Option Value)} {st : List Value} {w : Wd}
theorem V_icmp_ne0 {a b : Int} {off : Int} {tgt : Nat} (hd : decode M.1 pc = .ok (.if_icmp .ne off, 3)) (ht : (pc : Int) + off = (tgt : Int)) (kt : V G l M Qc tgt L st w) (kf : V G l M Qc (pc + 3) L st w) : V G l M Qc pc L (.int (iZ b) :: .int (iZ a) :: st) w :=
  fun p e s m args below meth c H locs ls C hP hS hl => lv_icmp_ne C.1 C.2.1 hd ht (fun _ => kt p e s m args below meth c H locs ls C hP hS hl) (fun _ => kf p e s m args below meth c H locs ls C hP hS hl)
end VQ
set_option maxRecDepth 100000 in
set_option maxHeartbeats 4000000 in
theorem c_X2_readQuarrel (G : Gb) (l : Launch) {w : Wd} {T : List Int} (hT : TX w T) {p : Int} (hk : tokA w T p) (ho : okT w 13) : Ci G l yX2_readQuarrel mX2_readQuarrel [.ref (gA G 1)] w (fun z w' => liR T (quP T (w 13 0) (w 13 6) p) w w' z) := by
  refine V_start 2 (by decide) rfl rfl (Nat.le_of_ble_eq_true rfl) ?_
  show V G l mX2_readQuarrel _ 0 [some (.ref (gA G 1)), none, none] [] w
  refine V_aload_n dX2_readQuarrel_0 rfl ?_
  refine V_getR (ci := 2) (j := 2) dX2_readQuarrel_1 s_1 rfl rfl i_X2_readQuarrel_X2 (by decide) f_X2_readQuarrel_18 ?_
  have ht := ho.1
  have hq := ho.2.1
  refine V_getI (ci := 3) (j := 6) (ji := 6) dX2_readQuarrel_4 s_13 rfl rfl i_X2_readQuarrel_X3 (by decide) f_X2_readQuarrel_105 rfl ?_
  refine V_bipush dX2_readQuarrel_7 rfl ?_
  refine V_icmp_lt (tgt := 14) dX2_readQuarrel_9 (by decide) (by omega) (by omega) (fun h9 => ?_) (fun h9 => ?_)
  · refine V_aload_n dX2_readQuarrel_14 rfl ?_
    refine V_vV0 dX2_readQuarrel_15 o_X2_readQuarrel_36 s_1 rfl (Nat.le_of_ble_eq_true rfl) (c_X2_nextToken G l hT hk.nx5) ?_
    rintro w1 ⟨t1, f1⟩
    rw [hk.2.2.1] at t1
    change tokA w1 T (nx T p) at t1
    have T1 := f1.tx hT
    have o1 := okT_frk (Or.inr rfl) ho f1
    refine V_aload_n dX2_readQuarrel_18 rfl ?_
    refine V_iconst dX2_readQuarrel_19 ?_
    refine V_aload_n dX2_readQuarrel_20 rfl ?_
    refine V_getR (ci := 2) (j := 2) dX2_readQuarrel_21 s_1 rfl rfl i_X2_readQuarrel_X2 (by decide) f_X2_readQuarrel_18 ?_
    refine V_getIE (ci := 3) (j := 0) (ji := 0) (z := w 13 0) dX2_readQuarrel_24 s_13 rfl rfl i_X2_readQuarrel_X3 (by decide) f_X2_readQuarrel_91 rfl (f1 _ _ (by omega)) ?_
    refine V_iconst dX2_readQuarrel_27 ?_
    refine V_isub dX2_readQuarrel_28 ?_
    refine V_iV2 dX2_readQuarrel_29 o_X2_readQuarrel_94 s_1 rfl (Nat.le_of_ble_eq_true rfl) (c_X2_readNumber G l T1 t1 (by omega) (by omega)) ?_
    rintro z1 w2 ⟨a1, b1, f2⟩
    have T2 := f2.tx T1
    have o2 := okT_frk (Or.inr rfl) o1 f2
    have rz1 : inR z1 := by
      by_cases q9 : okN T (nx T p) 0 (w 13 0 - 1)
      · have := (a1 q9).1; have := q9.2.2.2; omega
      · have := (b1 q9).1; omega
    refine V_istore_n dX2_readQuarrel_32 (by decide) rfl ?_
    refine V_iload_n dX2_readQuarrel_33 rfl ?_
    refine V_iconst dX2_readQuarrel_34 ?_
    refine V_icmp_ne (tgt := 40) dX2_readQuarrel_35 (by decide) (by omega) (by omega) (fun h35 => ?_) (fun h35 => ?_)
    · have g1 : okN T (nx T p) 0 (w 13 0 - 1) := by
        by_cases q9 : okN T (nx T p) 0 (w 13 0 - 1)
        · exact q9
        · exact absurd (b1 q9).1 (by omega)
      obtain ⟨v1, t2⟩ := a1 g1
      subst v1
      have g1r := g1.2.2.2
      have kb := kd_bd T (nx T (nx T p))
      have p2 := t2.1
      refine V_aload_n dX2_readQuarrel_40 rfl ?_
      refine V_getIE (ci := 2) (j := 6) (ji := 6) (z := kd T (nx T (nx T p))) dX2_readQuarrel_41 s_1 rfl rfl i_X2_readQuarrel_X2 (by decide) f_X2_readQuarrel_46 rfl t2.2.2.2.1 ?_
      refine V_iconst dX2_readQuarrel_44 ?_
      refine V_icmp_ne (tgt := 58) dX2_readQuarrel_45 (by decide) (by omega) (by omega) (fun h45 => ?_) (fun h45 => ?_)
      · refine V_aload_n dX2_readQuarrel_58 rfl ?_
        refine V_iconst dX2_readQuarrel_59 ?_
        refine V_aload_n dX2_readQuarrel_60 rfl ?_
        refine V_getR (ci := 2) (j := 2) dX2_readQuarrel_61 s_1 rfl rfl i_X2_readQuarrel_X2 (by decide) f_X2_readQuarrel_18 ?_
        refine V_getIE (ci := 3) (j := 0) (ji := 0) (z := w 13 0) dX2_readQuarrel_64 s_13 rfl rfl i_X2_readQuarrel_X3 (by decide) f_X2_readQuarrel_91 rfl ((f1.t f2) _ _ (by omega)) ?_
        refine V_iconst dX2_readQuarrel_67 ?_
        refine V_isub dX2_readQuarrel_68 ?_
        refine V_iV2 dX2_readQuarrel_69 o_X2_readQuarrel_94 s_1 rfl (Nat.le_of_ble_eq_true rfl) (c_X2_readNumber G l T2 t2 (by omega) (by omega)) ?_
        rintro z2 w3 ⟨a2, b2, f3⟩
        have T3 := f3.tx T2
        have o3 := okT_frk (Or.inr rfl) o2 f3
        have rz2 : inR z2 := by
          by_cases q9 : okN T (nx T (nx T p)) 0 (w 13 0 - 1)
          · have := (a2 q9).1; have := q9.2.2.2; omega
          · have := (b2 q9).1; omega
        refine V_istore_n dX2_readQuarrel_72 (by decide) rfl ?_
        refine V_iload_n dX2_readQuarrel_73 rfl ?_
        refine V_iconst dX2_readQuarrel_74 ?_
        refine V_icmp_ne (tgt := 80) dX2_readQuarrel_75 (by decide) (by omega) (by omega) (fun h75 => ?_) (fun h75 => ?_)
        · have g2 : okN T (nx T (nx T p)) 0 (w 13 0 - 1) := by
            by_cases q9 : okN T (nx T (nx T p)) 0 (w 13 0 - 1)
            · exact q9
            · exact absurd (b2 q9).1 (by omega)
          obtain ⟨v2, t3⟩ := a2 g2
          exact absurd (kd_2.mpr ⟨g2.1, g2.2.1⟩) h45
        · have g2 : ¬ okN T (nx T (nx T p)) 0 (w 13 0 - 1) := fun q9 => by have q8 := (a2 q9).1; have := q9.2.2.2; omega
          obtain ⟨-, hw2⟩ := b2 g2
          subst hw2
          refine V_iconst dX2_readQuarrel_78 ?_
          exact V_zret dX2_readQuarrel_79 rfl (by omega) (by unfold quP; rw [if_neg (by omega), nmP_y g1, if_neg (fun z => g2 z.1)]; exact li_fail t2 ho (f1.t f2))
      · refine V_aload_n dX2_readQuarrel_48 rfl ?_
        refine V_getIE (ci := 2) (j := 7) (ji := 7) (z := vl T (nx T (nx T p))) dX2_readQuarrel_49 s_1 rfl rfl i_X2_readQuarrel_X2 (by decide) f_X2_readQuarrel_108 rfl (t2.2.2.2.2 h45) ?_
        refine V_iload_n dX2_readQuarrel_52 rfl ?_
        by_cases hsh : tkE T (nx T (nx T p)) - nx T (nx T p) ≤ 2
        · have hgk := kd_2.mp h45
          have hvb := vl_bd p2.1 hgk.1 hgk.2 hsh
          refine V_icmp_ne (tgt := 58) dX2_readQuarrel_53 (by decide) (by omega) (by omega) (fun h53 => ?_) (fun h53 => ?_)
          · have hne : vl T (nx T (nx T p)) ≠ vl T (nx T p) := h53
            refine V_aload_n dX2_readQuarrel_58 rfl ?_
            refine V_iconst dX2_readQuarrel_59 ?_
            refine V_aload_n dX2_readQuarrel_60 rfl ?_
            refine V_getR (ci := 2) (j := 2) dX2_readQuarrel_61 s_1 rfl rfl i_X2_readQuarrel_X2 (by decide) f_X2_readQuarrel_18 ?_
            refine V_getIE (ci := 3) (j := 0) (ji := 0) (z := w 13 0) dX2_readQuarrel_64 s_13 rfl rfl i_X2_readQuarrel_X3 (by decide) f_X2_readQuarrel_91 rfl ((f1.t f2) _ _ (by omega)) ?_
            refine V_iconst dX2_readQuarrel_67 ?_
            refine V_isub dX2_readQuarrel_68 ?_
            refine V_iV2 dX2_readQuarrel_69 o_X2_readQuarrel_94 s_1 rfl (Nat.le_of_ble_eq_true rfl) (c_X2_readNumber G l T2 t2 (by omega) (by omega)) ?_
            rintro z2 w3 ⟨a2, b2, f3⟩
            have T3 := f3.tx T2
            have o3 := okT_frk (Or.inr rfl) o2 f3
            have rz2 : inR z2 := by
              by_cases q9 : okN T (nx T (nx T p)) 0 (w 13 0 - 1)
              · have := (a2 q9).1; have := q9.2.2.2; omega
              · have := (b2 q9).1; omega
            refine V_istore_n dX2_readQuarrel_72 (by decide) rfl ?_
            refine V_iload_n dX2_readQuarrel_73 rfl ?_
            refine V_iconst dX2_readQuarrel_74 ?_
            refine V_icmp_ne (tgt := 80) dX2_readQuarrel_75 (by decide) (by omega) (by omega) (fun h75 => ?_) (fun h75 => ?_)
            · have g2 : okN T (nx T (nx T p)) 0 (w 13 0 - 1) := by
                by_cases q9 : okN T (nx T (nx T p)) 0 (w 13 0 - 1)
                · exact q9
                · exact absurd (b2 q9).1 (by omega)
              obtain ⟨v2, t3⟩ := a2 g2
              subst v2
              have g2r := g2.2.2.2
              refine V_aload_n dX2_readQuarrel_80 rfl ?_
              refine V_getR (ci := 2) (j := 2) dX2_readQuarrel_81 s_1 rfl rfl i_X2_readQuarrel_X2 (by decide) f_X2_readQuarrel_18 ?_
              refine V_iload_n dX2_readQuarrel_84 rfl ?_
              refine V_iload_n dX2_readQuarrel_85 rfl ?_
              have fa := (f1.t f2).t f3
              have e6 : w3 13 6 = w 13 6 := fa _ _ (by omega)
              refine V_vV2 dX2_readQuarrel_86 o_X2_readQuarrel_111 s_13 rfl (Nat.le_of_ble_eq_true rfl) (c_X3_addQuarrel G l (Or.inr rfl) (by rw [e6]; omega)) ?_
              rintro _ rfl
              refine V_iconst dX2_readQuarrel_89 ?_
              exact V_zret dX2_readQuarrel_90 rfl (by omega) (by unfold quP; rw [if_neg (by omega), nmP_y g1, if_pos ⟨g2, hne⟩]; exact ⟨rfl, tok_keep t3 (fun j => by unfold aqW; rw [up_ne (by omega), up_ne (by omega), up_ne (by omega)]), okT_aq o3 (by omega) (by omega) (by omega), (tAS_aq (by omega)).trans (by rw [fa.as (Or.inr rfl)]; rfl), fun k j q1 q2 => by unfold aqW; rw [up_ne (by omega), up_ne (by omega), up_ne (by omega)]; exact fa k j q1⟩)
            · have g2 : ¬ okN T (nx T (nx T p)) 0 (w 13 0 - 1) := fun q9 => by have q8 := (a2 q9).1; have := q9.2.2.2; omega
              obtain ⟨-, hw2⟩ := b2 g2
              subst hw2
              refine V_iconst dX2_readQuarrel_78 ?_
              exact V_zret dX2_readQuarrel_79 rfl (by omega) (by unfold quP; rw [if_neg (by omega), nmP_y g1, if_neg (fun z => g2 z.1)]; exact li_fail t2 ho (f1.t f2))
          · have hno : ¬ (okN T (nx T (nx T p)) 0 (w 13 0 - 1) ∧ vl T (nx T (nx T p)) ≠ vl T (nx T p)) := fun z => z.2 h53
            refine V_iconst dX2_readQuarrel_56 ?_
            exact V_zret dX2_readQuarrel_57 rfl (by omega) (by unfold quP; rw [if_neg (by omega), nmP_y g1, if_neg hno]; exact li_fail t2 ho (f1.t f2))
        · refine V_icmp_ne0 (tgt := 58) dX2_readQuarrel_53 (by decide) ?_ ?_
          · refine V_aload_n dX2_readQuarrel_58 rfl ?_
            refine V_iconst dX2_readQuarrel_59 ?_
            refine V_aload_n dX2_readQuarrel_60 rfl ?_
            refine V_getR (ci := 2) (j := 2) dX2_readQuarrel_61 s_1 rfl rfl i_X2_readQuarrel_X2 (by decide) f_X2_readQuarrel_18 ?_
            refine V_getIE (ci := 3) (j := 0) (ji := 0) (z := w 13 0) dX2_readQuarrel_64 s_13 rfl rfl i_X2_readQuarrel_X3 (by decide) f_X2_readQuarrel_91 rfl ((f1.t f2) _ _ (by omega)) ?_
            refine V_iconst dX2_readQuarrel_67 ?_
            refine V_isub dX2_readQuarrel_68 ?_
            refine V_iV2 dX2_readQuarrel_69 o_X2_readQuarrel_94 s_1 rfl (Nat.le_of_ble_eq_true rfl) (c_X2_readNumber G l T2 t2 (by omega) (by omega)) ?_
            rintro z2 w3 ⟨a2, b2, f3⟩
            have T3 := f3.tx T2
            have o3 := okT_frk (Or.inr rfl) o2 f3
            have rz2 : inR z2 := by
              by_cases q9 : okN T (nx T (nx T p)) 0 (w 13 0 - 1)
              · have := (a2 q9).1; have := q9.2.2.2; omega
              · have := (b2 q9).1; omega
            refine V_istore_n dX2_readQuarrel_72 (by decide) rfl ?_
            refine V_iload_n dX2_readQuarrel_73 rfl ?_
            refine V_iconst dX2_readQuarrel_74 ?_
            refine V_icmp_ne (tgt := 80) dX2_readQuarrel_75 (by decide) (by omega) (by omega) (fun h75 => ?_) (fun h75 => ?_)
            · have g2 : okN T (nx T (nx T p)) 0 (w 13 0 - 1) := by
                by_cases q9 : okN T (nx T (nx T p)) 0 (w 13 0 - 1)
                · exact q9
                · exact absurd (b2 q9).1 (by omega)
              obtain ⟨v2, t3⟩ := a2 g2
              exact absurd g2.2.2.1 hsh
            · have g2 : ¬ okN T (nx T (nx T p)) 0 (w 13 0 - 1) := fun q9 => by have q8 := (a2 q9).1; have := q9.2.2.2; omega
              obtain ⟨-, hw2⟩ := b2 g2
              subst hw2
              refine V_iconst dX2_readQuarrel_78 ?_
              exact V_zret dX2_readQuarrel_79 rfl (by omega) (by unfold quP; rw [if_neg (by omega), nmP_y g1, if_neg (fun z => g2 z.1)]; exact li_fail t2 ho (f1.t f2))
          · have hno : ¬ (okN T (nx T (nx T p)) 0 (w 13 0 - 1) ∧ vl T (nx T (nx T p)) ≠ vl T (nx T p)) := fun z => hsh z.1.2.2.1
            refine V_iconst dX2_readQuarrel_56 ?_
            exact V_zret dX2_readQuarrel_57 rfl (by omega) (by unfold quP; rw [if_neg (by omega), nmP_y g1, if_neg hno]; exact li_fail t2 ho (f1.t f2))
    · have g1 : ¬ okN T (nx T p) 0 (w 13 0 - 1) := fun q9 => by have q8 := (a1 q9).1; have := q9.2.2.2; omega
      obtain ⟨-, hw1⟩ := b1 g1
      subst hw1
      refine V_iconst dX2_readQuarrel_38 ?_
      exact V_zret dX2_readQuarrel_39 rfl (by omega) (by unfold quP; rw [if_neg (by omega), nmP_n g1]; exact li_fail t1 ho f1)
  · refine V_iconst dX2_readQuarrel_12 ?_
    exact V_zret dX2_readQuarrel_13 rfl (by omega) (by unfold quP; rw [if_pos (by omega)]; exact li_fail hk ho (fun _ _ _ => rfl))
theorem scI_hd : ∀ i : Nat, i < 8 → 0 < scLen.getD i 0 ∧ srt (scC i 0) = 1 := by decide +kernel
theorem wd_kd {T : List Int} {s : Int} {i : Nat} (h0 : 0 ≤ s) (h : s ≤ (T.length : Int)) (hi : i < 8) (e : slc T s = scI i) : kd T s = 1 := by
  have h1 := scI_hd i hi
  have h2 := congrArg List.length e
  rw [slc_len h0 h, scI_len i hi] at h2
  have h3 := slc_at (T := T) (s := s) (j := 0) h0 (by omega) h
  have h4 := scI_at (i := i) (j := 0) hi h1.1
  rw [e, h4] at h3
  have h5 := Option.some.inj h3
  have h6 : ch T s = scC i 0 := by
    rw [show s + ((0 : Nat) : Int) = s by omega] at h5
    exact h5.symm
  have tb := tkE_bd h0 h
  have hlt : s < (T.length : Int) := by omega
  unfold kd
  rw [if_pos hlt, h6, if_pos h1.2]
theorem wdS_no {T : List Int} {s : Int} (h : ∀ i : Nat, i < 8 → slc T s ≠ scI i) : wdS T s = -1 := by
  unfold wdS
  rw [if_neg (h 1 (by omega)), if_neg (h 2 (by omega)), if_neg (h 3 (by omega)), if_neg (h 4 (by omega)), if_neg (h 0 (by omega)), if_neg (h 5 (by omega)), if_neg (h 6 (by omega)), if_neg (h 7 (by omega))]
theorem wdS_of {T : List Int} {s : Int} {i : Nat} {c : Int} (hc : (if scI i = scI 1 then (1 : Int) else if scI i = scI 2 then 2 else if scI i = scI 3 then 3 else if scI i = scI 4 then 4 else if scI i = scI 0 then 0 else if scI i = scI 5 then 5 else if scI i = scI 6 then 6 else if scI i = scI 7 then 7 else -1) = c) (e : slc T s = scI i) : wdS T s = c := by
  unfold wdS
  rw [e]
  exact hc
set_option maxRecDepth 100000 in
set_option maxHeartbeats 4000000 in
theorem c_X2_readLine (G : Gb) (l : Launch) {w : Wd} {T : List Int} (hT : TX w T) {p : Int} (hk : tokA w T p) (ho : okT w 13) : Ci G l yX2_readLine mX2_readLine [.ref (gA G 1)] w (fun z w' => liR T (lnP T (w 13 0) (w 13 6) p) w w' z) := by
  refine V_start 0 (by decide) rfl rfl (Nat.le_of_ble_eq_true rfl) ?_
  show V G l mX2_readLine _ 0 [some (.ref (gA G 1))] [] w
  refine V_aload_n dX2_readLine_0 rfl ?_
  have kb := kd_bd T p
  have hk0 := hk.1
  refine V_getIE (ci := 2) (j := 6) (ji := 6) (z := kd T p) dX2_readLine_1 s_1 rfl rfl i_X2_readLine_X2 (by decide) f_X2_readLine_46 rfl hk.2.2.2.1 ?_
  refine V_iconst dX2_readLine_4 ?_
  refine V_icmp_eq (tgt := 10) dX2_readLine_5 (by decide) (by omega) (by omega) (fun h5 => ?_) (fun h5 => ?_)
  · refine V_aload_n dX2_readLine_10 rfl ?_
    refine V_word (i := 0) rfl dX2_readLine_11 (by decide) rfl ?_
    refine V_iV1 dX2_readLine_13 o_X2_readLine_54 s_1 rfl (Nat.le_of_ble_eq_true rfl) (c_X2_isWord G l hT hk (i := 0) (by omega)) ?_
    rintro z0 _ ⟨hz0, rfl⟩
    have rz0 : z0 = 0 ∨ z0 = 1 := by rw [hz0]; split <;> simp
    refine V_if_eq (tgt := 24) dX2_readLine_16 (by decide) (by omega) (fun h16 => ?_) (fun h16 => ?_)
    · have n0 : slc T p ≠ scI 0 := fun q9 => by rw [if_pos q9] at hz0; omega
      refine V_aload_n dX2_readLine_24 rfl ?_
      refine V_word (i := 1) rfl dX2_readLine_25 (by decide) rfl ?_
      refine V_iV1 dX2_readLine_27 o_X2_readLine_54 s_1 rfl (Nat.le_of_ble_eq_true rfl) (c_X2_isWord G l hT hk (i := 1) (by omega)) ?_
      rintro z1 _ ⟨hz1, rfl⟩
      have rz1 : z1 = 0 ∨ z1 = 1 := by rw [hz1]; split <;> simp
      refine V_if_eq (tgt := 39) dX2_readLine_30 (by decide) (by omega) (fun h30 => ?_) (fun h30 => ?_)
      · have n1 : slc T p ≠ scI 1 := fun q9 => by rw [if_pos q9] at hz1; omega
        refine V_aload_n dX2_readLine_39 rfl ?_
        refine V_word (i := 2) rfl dX2_readLine_40 (by decide) rfl ?_
        refine V_iV1 dX2_readLine_42 o_X2_readLine_54 s_1 rfl (Nat.le_of_ble_eq_true rfl) (c_X2_isWord G l hT hk (i := 2) (by omega)) ?_
        rintro z2 _ ⟨hz2, rfl⟩
        have rz2 : z2 = 0 ∨ z2 = 1 := by rw [hz2]; split <;> simp
        refine V_if_eq (tgt := 54) dX2_readLine_45 (by decide) (by omega) (fun h45 => ?_) (fun h45 => ?_)
        · have n2 : slc T p ≠ scI 2 := fun q9 => by rw [if_pos q9] at hz2; omega
          refine V_aload_n dX2_readLine_54 rfl ?_
          refine V_word (i := 3) rfl dX2_readLine_55 (by decide) rfl ?_
          refine V_iV1 dX2_readLine_57 o_X2_readLine_54 s_1 rfl (Nat.le_of_ble_eq_true rfl) (c_X2_isWord G l hT hk (i := 3) (by omega)) ?_
          rintro z3 _ ⟨hz3, rfl⟩
          have rz3 : z3 = 0 ∨ z3 = 1 := by rw [hz3]; split <;> simp
          refine V_if_eq (tgt := 69) dX2_readLine_60 (by decide) (by omega) (fun h60 => ?_) (fun h60 => ?_)
          · have n3 : slc T p ≠ scI 3 := fun q9 => by rw [if_pos q9] at hz3; omega
            refine V_aload_n dX2_readLine_69 rfl ?_
            refine V_word (i := 4) rfl dX2_readLine_70 (by decide) rfl ?_
            refine V_iV1 dX2_readLine_72 o_X2_readLine_54 s_1 rfl (Nat.le_of_ble_eq_true rfl) (c_X2_isWord G l hT hk (i := 4) (by omega)) ?_
            rintro z4 _ ⟨hz4, rfl⟩
            have rz4 : z4 = 0 ∨ z4 = 1 := by rw [hz4]; split <;> simp
            refine V_if_eq (tgt := 84) dX2_readLine_75 (by decide) (by omega) (fun h75 => ?_) (fun h75 => ?_)
            · have n4 : slc T p ≠ scI 4 := fun q9 => by rw [if_pos q9] at hz4; omega
              refine V_aload_n dX2_readLine_84 rfl ?_
              refine V_word (i := 5) rfl dX2_readLine_85 (by decide) rfl ?_
              refine V_iV1 dX2_readLine_87 o_X2_readLine_54 s_1 rfl (Nat.le_of_ble_eq_true rfl) (c_X2_isWord G l hT hk (i := 5) (by omega)) ?_
              rintro z5 _ ⟨hz5, rfl⟩
              have rz5 : z5 = 0 ∨ z5 = 1 := by rw [hz5]; split <;> simp
              refine V_if_eq (tgt := 98) dX2_readLine_90 (by decide) (by omega) (fun h90 => ?_) (fun h90 => ?_)
              · have n5 : slc T p ≠ scI 5 := fun q9 => by rw [if_pos q9] at hz5; omega
                refine V_aload_n dX2_readLine_98 rfl ?_
                refine V_word (i := 6) rfl dX2_readLine_99 (by decide) rfl ?_
                refine V_iV1 dX2_readLine_101 o_X2_readLine_54 s_1 rfl (Nat.le_of_ble_eq_true rfl) (c_X2_isWord G l hT hk (i := 6) (by omega)) ?_
                rintro z6 _ ⟨hz6, rfl⟩
                have rz6 : z6 = 0 ∨ z6 = 1 := by rw [hz6]; split <;> simp
                refine V_if_eq (tgt := 112) dX2_readLine_104 (by decide) (by omega) (fun h104 => ?_) (fun h104 => ?_)
                · have n6 : slc T p ≠ scI 6 := fun q9 => by rw [if_pos q9] at hz6; omega
                  refine V_aload_n dX2_readLine_112 rfl ?_
                  refine V_word (i := 7) rfl dX2_readLine_113 (by decide) rfl ?_
                  refine V_iV1 dX2_readLine_115 o_X2_readLine_54 s_1 rfl (Nat.le_of_ble_eq_true rfl) (c_X2_isWord G l hT hk (i := 7) (by omega)) ?_
                  rintro z7 _ ⟨hz7, rfl⟩
                  have rz7 : z7 = 0 ∨ z7 = 1 := by rw [hz7]; split <;> simp
                  refine V_if_eq (tgt := 126) dX2_readLine_118 (by decide) (by omega) (fun h118 => ?_) (fun h118 => ?_)
                  · have n7 : slc T p ≠ scI 7 := fun q9 => by rw [if_pos q9] at hz7; omega
                    refine V_iconst dX2_readLine_126 ?_
                    exact V_zret dX2_readLine_127 rfl (by omega) (by rw [lnP, if_pos (wdS_no (fun i hi => by match i, hi with | 0, _ => exact n0 | 1, _ => exact n1 | 2, _ => exact n2 | 3, _ => exact n3 | 4, _ => exact n4 | 5, _ => exact n5 | 6, _ => exact n6 | 7, _ => exact n7))]; exact li_fail hk ho (fun _ _ _ => rfl))
                  · have e7 : slc T p = scI 7 := by
                      by_cases q9 : slc T p = scI 7
                      · exact q9
                      · rw [if_neg q9] at hz7; omega
                    have hw : wdS T p = 7 := wdS_of (by decide +kernel) e7
                    refine V_aload_n dX2_readLine_121 rfl ?_
                    refine V_iV0 dX2_readLine_122 o_X2_readLine_85 s_1 rfl (Nat.le_of_ble_eq_true rfl) (c_X2_readHands G l hT hk ho) ?_
                    intro z w' hr
                    exact V_zret dX2_readLine_125 rfl (by rw [hr.1]; split <;> simp) (by rw [lnP, if_neg (by omega), if_neg (by omega), if_neg (by omega), if_neg (by omega), if_pos hw]; exact hr)
                · have e6 : slc T p = scI 6 := by
                    by_cases q9 : slc T p = scI 6
                    · exact q9
                    · rw [if_neg q9] at hz6; omega
                  have hw : wdS T p = 6 := wdS_of (by decide +kernel) e6
                  refine V_aload_n dX2_readLine_107 rfl ?_
                  refine V_iV0 dX2_readLine_108 o_X2_readLine_80 s_1 rfl (Nat.le_of_ble_eq_true rfl) (c_X2_readQuarrel G l hT hk ho) ?_
                  intro z w' hr
                  exact V_zret dX2_readLine_111 rfl (by rw [hr.1]; split <;> simp) (by rw [lnP, if_neg (by omega), if_neg (by omega), if_neg (by omega), if_pos hw]; exact hr)
              · have e5 : slc T p = scI 5 := by
                  by_cases q9 : slc T p = scI 5
                  · exact q9
                  · rw [if_neg q9] at hz5; omega
                have hw : wdS T p = 5 := wdS_of (by decide +kernel) e5
                refine V_aload_n dX2_readLine_93 rfl ?_
                refine V_iV0 dX2_readLine_94 o_X2_readLine_75 s_1 rfl (Nat.le_of_ble_eq_true rfl) (c_X2_readPart G l hT hk ho) ?_
                intro z w' hr
                exact V_zret dX2_readLine_97 rfl (by rw [hr.1]; split <;> simp) (by rw [lnP, if_neg (by omega), if_neg (by omega), if_pos hw]; exact hr)
            · have e4 : slc T p = scI 4 := by
                by_cases q9 : slc T p = scI 4
                · exact q9
                · rw [if_neg q9] at hz4; omega
              have hw : wdS T p = 4 := wdS_of (by decide +kernel) e4
              refine V_aload_n dX2_readLine_78 rfl ?_
              refine V_iconst dX2_readLine_79 ?_
              refine V_iV1 dX2_readLine_80 o_X2_readLine_63 s_1 rfl (Nat.le_of_ble_eq_true rfl) (c_X2_readTree G l hT hk ho (c := 4) (by omega)) ?_
              intro z w' hr
              exact V_zret dX2_readLine_83 rfl (by rw [hr.1]; split <;> simp) (by rw [lnP, if_neg (by omega), if_neg (by omega), if_neg (by omega), if_neg (by omega), if_neg (by omega), hw]; exact hr)
          · have e3 : slc T p = scI 3 := by
              by_cases q9 : slc T p = scI 3
              · exact q9
              · rw [if_neg q9] at hz3; omega
            have hw : wdS T p = 3 := wdS_of (by decide +kernel) e3
            refine V_aload_n dX2_readLine_63 rfl ?_
            refine V_iconst dX2_readLine_64 ?_
            refine V_iV1 dX2_readLine_65 o_X2_readLine_63 s_1 rfl (Nat.le_of_ble_eq_true rfl) (c_X2_readTree G l hT hk ho (c := 3) (by omega)) ?_
            intro z w' hr
            exact V_zret dX2_readLine_68 rfl (by rw [hr.1]; split <;> simp) (by rw [lnP, if_neg (by omega), if_neg (by omega), if_neg (by omega), if_neg (by omega), if_neg (by omega), hw]; exact hr)
        · have e2 : slc T p = scI 2 := by
            by_cases q9 : slc T p = scI 2
            · exact q9
            · rw [if_neg q9] at hz2; omega
          have hw : wdS T p = 2 := wdS_of (by decide +kernel) e2
          refine V_aload_n dX2_readLine_48 rfl ?_
          refine V_iconst dX2_readLine_49 ?_
          refine V_iV1 dX2_readLine_50 o_X2_readLine_63 s_1 rfl (Nat.le_of_ble_eq_true rfl) (c_X2_readTree G l hT hk ho (c := 2) (by omega)) ?_
          intro z w' hr
          exact V_zret dX2_readLine_53 rfl (by rw [hr.1]; split <;> simp) (by rw [lnP, if_neg (by omega), if_neg (by omega), if_neg (by omega), if_neg (by omega), if_neg (by omega), hw]; exact hr)
      · have e1 : slc T p = scI 1 := by
          by_cases q9 : slc T p = scI 1
          · exact q9
          · rw [if_neg q9] at hz1; omega
        have hw : wdS T p = 1 := wdS_of (by decide +kernel) e1
        refine V_aload_n dX2_readLine_33 rfl ?_
        refine V_iconst dX2_readLine_34 ?_
        refine V_iV1 dX2_readLine_35 o_X2_readLine_63 s_1 rfl (Nat.le_of_ble_eq_true rfl) (c_X2_readTree G l hT hk ho (c := 1) (by omega)) ?_
        intro z w' hr
        exact V_zret dX2_readLine_38 rfl (by rw [hr.1]; split <;> simp) (by rw [lnP, if_neg (by omega), if_neg (by omega), if_neg (by omega), if_neg (by omega), if_neg (by omega), hw]; exact hr)
    · have e0 : slc T p = scI 0 := by
        by_cases q9 : slc T p = scI 0
        · exact q9
        · rw [if_neg q9] at hz0; omega
      have hw : wdS T p = 0 := wdS_of (by decide +kernel) e0
      refine V_aload_n dX2_readLine_19 rfl ?_
      refine V_iV0 dX2_readLine_20 o_X2_readLine_58 s_1 rfl (Nat.le_of_ble_eq_true rfl) (c_X2_readWood G l hT hk ho) ?_
      intro z w' hr
      exact V_zret dX2_readLine_23 rfl (by rw [hr.1]; split <;> simp) (by rw [lnP, if_neg (by omega), if_pos hw]; exact hr)
  · refine V_iconst dX2_readLine_8 ?_
    exact V_zret dX2_readLine_9 rfl (by omega) (by rw [lnP, if_pos (wdS_no (fun i hi e => h5 (wd_kd hk.1.1 hk.1.2 hi e)))]; exact li_fail hk ho (fun _ _ _ => rfl))
/-- the whole text, from a line on: the place of the fault, or -1; the lines -/
def prP (T : List Int) : Nat → Int → TS → Int × List Li
  | 0, s, _ => (s, [])
  | n + 1, s, t =>
    let r := lnP T t.1 ((t.2.2.2.2.2.2.1.length : Nat) : Int) s
    if r.1 = true then
      if r.2.1 = (T.length : Int) then (-1, [r.2.2])
      else if ch T r.2.1 = 59 ∧ n ≠ 0 then ((prP T n (nx T r.2.1) (apL r.2.2 t)).1, r.2.2 :: (prP T n (nx T r.2.1) (apL r.2.2 t)).2)
      else (r.2.1, [r.2.2])
    else (r.2.1, [])
theorem prP_s {T : List Int} {n : Nat} {s : Int} {t : TS} {r : LR} (hr : lnP T t.1 ((t.2.2.2.2.2.2.1.length : Nat) : Int) s = r) : prP T (n + 1) s t = if r.1 = true then (if r.2.1 = (T.length : Int) then (-1, [r.2.2]) else if ch T r.2.1 = 59 ∧ n ≠ 0 then ((prP T n (nx T r.2.1) (apL r.2.2 t)).1, r.2.2 :: (prP T n (nx T r.2.1) (apL r.2.2 t)).2) else (r.2.1, [r.2.2])) else (r.2.1, []) := by
  subst hr
  rfl
theorem qs_len {w : Wd} {d : Nat} (h : 0 ≤ w d 6) : (((qsC w d).length : Nat) : Int) = w d 6 := by
  unfold qsC
  rw [List.length_map, List.length_range]
  omega
def frR (w w' : Wd) : Prop := ∀ (k : Nat) (j : Int), (k ≠ 1 ∨ j < 3 ∨ 7 < j) → (k < 13 ∨ 20 < k) → w' k j = w k j
def rdR (T : List Int) (n : Nat) (p : Int) (w w' : Wd) (z : Int) : Prop := z = (prP T n p (tAS w 13)).1 ∧ okT w' 13 ∧ (z = -1 → tAS w' 13 = (prP T n p (tAS w 13)).2.foldl (fun t x => apL x t) (tAS w 13) ∧ w' 1 3 = w 1 3 + (((prP T n p (tAS w 13)).2.length : Nat) : Int)) ∧ frR w w' ∧ (-1 ≤ z ∧ z ≤ 200)
theorem kd_0 {T : List Int} {s : Int} (h : s ≤ (T.length : Int)) : kd T s = 0 ↔ s = (T.length : Int) := by
  unfold kd
  by_cases q : s < (T.length : Int)
  · rw [if_pos q]
    constructor
    · intro h; split at h <;> (try split at h) <;> omega
    · omega
  · rw [if_neg q]; omega
theorem okT_sl {w w' : Wd} {d : Nat} (h : okT w d) (g : ∀ (k : Nat) (j : Int), d ≤ k ∧ k ≤ d + 7 → w' k j = w k j) : okT w' d := by
  obtain ⟨h1, h2, h3, h4, h5⟩ := h
  refine ⟨by rw [g _ _ (by omega)]; exact h1, by rw [g _ _ (by omega)]; exact h2, by rw [g _ _ (by omega)]; exact h3, fun t q0 q1 => ?_, fun q q0 q1 => ?_⟩
  · rw [g _ _ (by omega), g _ _ (by omega), g _ _ (by omega), g _ _ (by omega), g _ _ (by omega)]
    exact h4 t q0 q1
  · rw [g _ _ (by omega)] at q1
    rw [g _ _ (by omega), g _ _ (by omega)]
    exact h5 q q0 q1
theorem rd_fr {w w2 u w4 w5 : Wd} {v : Int} (f2 : frX w w2) (hu : up w2 1 3 v = u) (f4 : frk u w4) (y4 : frR w4 w5) : frR w w5 := by
  intro k j q1 q2
  rw [y4 k j q1 q2, f4 k j (by omega), ← hu, up_ne (by omega), f2 k j (by omega) q2]
set_option maxRecDepth 100000 in
set_option maxHeartbeats 4000000 in
theorem l_X2_read (G : Gb) (l : Launch) {T : List Int} {Post : Int → Wd → Prop} : ∀ (n : Nat) (i : Int) (w : Wd) (p : Int), 0 ≤ i → i + n = 12 → TX w T → tokA w T p → okT w 13 → w 1 3 = i → (∀ z w', rdR T n p w w' z → Post z w') → V G l mX2_read (Qi G Post) 24 [some (.ref (gA G 1)), some (.ref (gA G 5)), some (.int (iZ i))] [] w := by
  intro n
  induction n with
  | zero =>
    intro i w p h0 h1 hT hk ho h3 hp
    refine V_iload_n dX2_read_24 rfl ?_
    refine V_bipush dX2_read_25 rfl ?_
    refine V_icmp_ge (tgt := 92) dX2_read_27 (by decide) (by omega) (by omega) (fun h27 => ?_) (fun h27 => ?_)
    · refine V_aload_n dX2_read_92 rfl ?_
      refine V_getIE (ci := 2) (j := 4) (ji := 4) (z := p) dX2_read_93 s_1 rfl rfl i_X2_read_X2 (by decide) f_X2_read_43 rfl hk.2.1 ?_
      exact V_iret dX2_read_96 rfl (hp _ _ ⟨rfl, ho, fun z => absurd z (by have := hk.1; omega), fun _ _ _ _ => rfl, by have := hk.1; have := hT.2.1; omega⟩)
    · exact absurd h27 (by omega)
  | succ n ih =>
    intro i w p h0 h1 hT hk ho h3 hp
    have k2 := hT.2.1
    have hql : (((tAS w 13).2.2.2.2.2.2.1.length : Nat) : Int) = w 13 6 := qs_len ho.2.1.1
    refine V_iload_n dX2_read_24 rfl ?_
    refine V_bipush dX2_read_25 rfl ?_
    refine V_icmp_ge (tgt := 92) dX2_read_27 (by decide) (by omega) (by omega) (fun h27 => ?_) (fun h27 => ?_)
    · exact absurd h27 (by omega)
    · refine V_aload_n dX2_read_30 rfl ?_
      refine V_iV0 dX2_read_31 o_X2_read_39 s_1 rfl (Nat.le_of_ble_eq_true rfl) (c_X2_readLine G l hT hk ho) ?_
      rintro z w2 ⟨hz, t2, o2, as2, f2⟩
      have T2 := f2.tx hT
      have b2 := t2.1
      have rz : z = 0 ∨ z = 1 := by rw [hz]; split <;> simp
      have e3 : w2 1 3 = w 1 3 := f2 _ _ (by omega) (by omega)
      refine V_if_ne (tgt := 42) dX2_read_34 (by decide) (by omega) (fun h34 => ?_) (fun h34 => ?_)
      · have hr : (lnP T (w 13 0) (w 13 6) p).1 = true := by
          by_cases q9 : (lnP T (w 13 0) (w 13 6) p).1 = true
          · exact q9
          · rw [if_neg q9] at hz; omega
        rw [if_pos hr] at as2
        refine V_aload_n dX2_read_42 rfl ?_
        refine V_dup dX2_read_43 rfl ?_
        refine V_getIE (ci := 2) (j := 3) (ji := 3) (z := w 1 3) dX2_read_44 s_1 rfl rfl i_X2_read_X2 (by decide) f_X2_read_30 rfl e3 ?_
        refine V_iconst dX2_read_47 ?_
        refine V_iadd dX2_read_48 ?_
        refine V_putI (ci := 2) (j := 3) (ji := 3) dX2_read_49 s_1 rfl rfl i_X2_read_X2 tyX2_ok nmX2 (by decide) f_X2_read_30 rfl rfl rfl ?_
        refine V_aload_n dX2_read_52 rfl ?_
        generalize hu : up w2 1 3 (w 1 3 + 1) = u
        have gu : ∀ (k : Nat) (j : Int), (k ≠ 1 ∨ j ≠ 3) → u k j = w2 k j := fun k j q => by rw [← hu, up_ne q]
        have u3 : u 1 3 = w 1 3 + 1 := by rw [← hu, up_eq]
        have tu : tokA u T (lnP T (w 13 0) (w 13 6) p).2.1 := by unfold tokA; rw [gu _ _ (by omega), gu _ _ (by omega), gu _ _ (by omega), gu _ _ (by omega)]; exact t2
        have Tu : TX u T := T2.keep (gu _ _ (by omega)) (fun i => gu _ _ (by omega))
        have au : tAS u 13 = tAS w2 13 := tAS_eq (fun k j q1 q2 => gu _ _ (by omega))
        have ou : okT u 13 := okT_sl o2 (fun k j q => gu _ _ (by omega))
        have kb := kd_bd T (lnP T (w 13 0) (w 13 6) p).2.1
        refine V_getIE (ci := 2) (j := 6) (ji := 6) (z := kd T (lnP T (w 13 0) (w 13 6) p).2.1) dX2_read_53 s_1 rfl rfl i_X2_read_X2 (by decide) f_X2_read_46 rfl tu.2.2.2.1 ?_
        refine V_if_ne (tgt := 61) dX2_read_56 (by decide) (by omega) (fun h56 => ?_) (fun h56 => ?_)
        · have ee : ¬ (lnP T (w 13 0) (w 13 6) p).2.1 = (T.length : Int) := fun q9 => h56 ((kd_0 b2.2).mpr q9)
          refine V_aload_n dX2_read_61 rfl ?_
          refine V_iV0 dX2_read_62 o_X2_read_49 s_1 rfl (Nat.le_of_ble_eq_true rfl) (c_X2_isAtSemicolon G l Tu tu) ?_
          rintro z2 _ ⟨hz2, rfl⟩
          have rz2 : z2 = 0 ∨ z2 = 1 := by rw [hz2]; split <;> simp
          refine V_if_eq (tgt := 77) dX2_read_65 (by decide) (by omega) (fun h65 => ?_) (fun h65 => ?_)
          · have hc : ¬ (ch T (lnP T (w 13 0) (w 13 6) p).2.1 = 59 ∧ n ≠ 0) := fun q9 => by rw [if_pos ⟨by omega, q9.1⟩] at hz2; omega
            refine V_aload_n dX2_read_77 rfl ?_
            have ep : prP T (n + 1) p (tAS w 13) = ((lnP T (w 13 0) (w 13 6) p).2.1, [(lnP T (w 13 0) (w 13 6) p).2.2]) := by rw [prP_s (r := lnP T (w 13 0) (w 13 6) p) (by rw [hql]; rfl), if_pos hr, if_neg ee, if_neg hc]
            refine V_getIE (ci := 2) (j := 4) (ji := 4) (z := (lnP T (w 13 0) (w 13 6) p).2.1) dX2_read_78 s_1 rfl rfl i_X2_read_X2 (by decide) f_X2_read_43 rfl tu.2.1 ?_
            exact V_iret dX2_read_81 rfl (hp _ _ ⟨by rw [ep], ou, fun z9 => absurd z9 (by omega), fun k j q1 q2 => (gu _ _ (by omega)).trans (f2 k j (by omega) q2), by omega⟩)
          · have hsm : ch T (lnP T (w 13 0) (w 13 6) p).2.1 = 59 := by
              by_cases q9 : (lnP T (w 13 0) (w 13 6) p).2.1 < (T.length : Int) ∧ ch T (lnP T (w 13 0) (w 13 6) p).2.1 = 59
              · exact q9.2
              · rw [if_neg q9] at hz2; omega
            refine V_aload_n dX2_read_68 rfl ?_
            refine V_getIE (ci := 2) (j := 3) (ji := 3) (z := w 1 3 + 1) dX2_read_69 s_1 rfl rfl i_X2_read_X2 (by decide) f_X2_read_30 rfl u3 ?_
            refine V_bipush dX2_read_72 rfl ?_
            refine V_icmp_ne (tgt := 82) dX2_read_74 (by decide) (by omega) (by omega) (fun h74 => ?_) (fun h74 => ?_)
            · have hc : ch T (lnP T (w 13 0) (w 13 6) p).2.1 = 59 ∧ n ≠ 0 := ⟨hsm, by omega⟩
              refine V_aload_n dX2_read_82 rfl ?_
              refine V_vV0 dX2_read_83 o_X2_read_36 s_1 rfl (Nat.le_of_ble_eq_true rfl) (c_X2_nextToken G l Tu tu.nx5) ?_
              rintro w4 ⟨t4, f4⟩
              rw [tu.2.2.1] at t4
              change tokA w4 T (nx T (lnP T (w 13 0) (w 13 6) p).2.1) at t4
              refine V_iinc dX2_read_86 rfl (by decide) rfl ?_
              refine V_goto (tgt := 24) dX2_read_89 (by decide) ?_
              refine ih (i + 1) w4 (nx T (lnP T (w 13 0) (w 13 6) p).2.1) (by omega) (by omega) (f4.tx Tu) t4 (okT_frk (Or.inr rfl) ou f4) (by rw [f4 _ _ (by omega), u3]; omega) (fun z5 w5 h5 => hp z5 w5 ?_)
              have a4 : tAS w4 13 = apL (lnP T (w 13 0) (w 13 6) p).2.2 (tAS w 13) := (f4.as (Or.inr rfl)).trans (au.trans as2)
              have ep : prP T (n + 1) p (tAS w 13) = ((prP T n (nx T (lnP T (w 13 0) (w 13 6) p).2.1) (tAS w4 13)).1, (lnP T (w 13 0) (w 13 6) p).2.2 :: (prP T n (nx T (lnP T (w 13 0) (w 13 6) p).2.1) (tAS w4 13)).2) := by rw [a4]; rw [prP_s (r := lnP T (w 13 0) (w 13 6) p) (by rw [hql]; rfl), if_pos hr, if_neg ee, if_pos hc]
              obtain ⟨y1, y2, y3, y4, y5⟩ := h5
              refine ⟨by rw [ep]; exact y1, y2, fun z9 => ?_, fun k j q1 q2 => rd_fr f2 hu f4 y4 k j q1 q2, y5⟩
              obtain ⟨c1, c2⟩ := y3 z9
              rw [ep]
              refine ⟨by rw [c1, List.foldl_cons, a4], ?_⟩
              rw [c2, f4 _ _ (by omega), u3, List.length_cons]
              omega
            · have hc : ¬ (ch T (lnP T (w 13 0) (w 13 6) p).2.1 = 59 ∧ n ≠ 0) := by omega
              refine V_aload_n dX2_read_77 rfl ?_
              have ep : prP T (n + 1) p (tAS w 13) = ((lnP T (w 13 0) (w 13 6) p).2.1, [(lnP T (w 13 0) (w 13 6) p).2.2]) := by rw [prP_s (r := lnP T (w 13 0) (w 13 6) p) (by rw [hql]; rfl), if_pos hr, if_neg ee, if_neg hc]
              refine V_getIE (ci := 2) (j := 4) (ji := 4) (z := (lnP T (w 13 0) (w 13 6) p).2.1) dX2_read_78 s_1 rfl rfl i_X2_read_X2 (by decide) f_X2_read_43 rfl tu.2.1 ?_
              exact V_iret dX2_read_81 rfl (hp _ _ ⟨by rw [ep], ou, fun z9 => absurd z9 (by omega), fun k j q1 q2 => (gu _ _ (by omega)).trans (f2 k j (by omega) q2), by omega⟩)
        · have ee := (kd_0 b2.2).mp h56
          have ep : prP T (n + 1) p (tAS w 13) = (-1, [(lnP T (w 13 0) (w 13 6) p).2.2]) := by rw [prP_s (r := lnP T (w 13 0) (w 13 6) p) (by rw [hql]; rfl), if_pos hr, if_pos ee]
          refine V_iconst dX2_read_59 ?_
          exact V_iret dX2_read_60 rfl (hp _ _ ⟨by rw [ep], ou, fun _ => by rw [ep]; exact ⟨au.trans as2, u3⟩, fun k j q1 q2 => (gu _ _ (by omega)).trans (f2 k j (by omega) q2), by omega⟩)
      · have hr : ¬ (lnP T (w 13 0) (w 13 6) p).1 = true := fun q9 => by rw [if_pos q9] at hz; omega
        have ep : prP T (n + 1) p (tAS w 13) = ((lnP T (w 13 0) (w 13 6) p).2.1, []) := by rw [prP_s (r := lnP T (w 13 0) (w 13 6) p) (by rw [hql]; rfl), if_neg hr]
        refine V_aload_n dX2_read_37 rfl ?_
        refine V_getIE (ci := 2) (j := 4) (ji := 4) (z := (lnP T (w 13 0) (w 13 6) p).2.1) dX2_read_38 s_1 rfl rfl i_X2_read_X2 (by decide) f_X2_read_43 rfl t2.2.1 ?_
        exact V_iret dX2_read_41 rfl (hp _ _ ⟨by rw [ep], o2, fun z9 => absurd z9 (by omega), fun k j q1 q2 => f2 k j (by omega) q2, by omega⟩)
set_option maxRecDepth 100000 in
set_option maxHeartbeats 4000000 in
theorem c_X2_read (G : Gb) (l : Launch) {w : Wd} {T : List Int} (hT : TX w T) (ho : okT w 5) : Ci G l yX2_read mX2_read [.ref (gA G 1), .ref (gA G 5)] w (fun z w' => z = (prP T 12 (sk T 0) (tAS w 5)).1 ∧ okT w' 13 ∧ (z = -1 → tAS w' 13 = (prP T 12 (sk T 0) (tAS w 5)).2.foldl (fun t x => apL x t) (tAS w 5) ∧ w' 1 3 = (((prP T 12 (sk T 0) (tAS w 5)).2.length : Nat) : Int)) ∧ frR w w' ∧ (-1 ≤ z ∧ z ≤ 200)) := by
  refine V_start 1 (by decide) rfl rfl (Nat.le_of_ble_eq_true rfl) ?_
  show V G l mX2_read _ 0 [some (.ref (gA G 1)), some (.ref (gA G 5)), none] [] w
  refine V_aload_n dX2_read_0 rfl ?_
  refine V_getR (ci := 2) (j := 2) dX2_read_1 s_1 rfl rfl i_X2_read_X2 (by decide) f_X2_read_18 ?_
  refine V_aload_n dX2_read_4 rfl ?_
  refine V_vV1 dX2_read_5 o_X2_read_26 s_13 rfl (Nat.le_of_ble_eq_true rfl) (c_X3_copyFrom G l (d := 13) (d2 := 5) (Or.inr rfl) (Or.inl rfl) (by omega) ho) ?_
  rintro w1 ⟨o1, a1, f1⟩
  have T1 : TX w1 T := hT.keep (f1 _ _ (by omega)) (fun i => f1 _ _ (by omega))
  refine V_aload_n dX2_read_8 rfl ?_
  refine V_iconst dX2_read_9 ?_
  refine V_putI (ci := 2) (j := 3) (ji := 3) dX2_read_10 s_1 rfl rfl i_X2_read_X2 tyX2_ok nmX2 (by decide) f_X2_read_30 rfl rfl rfl ?_
  refine V_aload_n dX2_read_13 rfl ?_
  refine V_iconst dX2_read_14 ?_
  refine V_putI (ci := 2) (j := 5) (ji := 5) dX2_read_15 s_1 rfl rfl i_X2_read_X2 tyX2_ok nmX2 (by decide) f_X2_read_33 rfl rfl rfl ?_
  refine V_aload_n dX2_read_18 rfl ?_
  refine V_vV0 dX2_read_19 o_X2_read_36 s_1 rfl (Nat.le_of_ble_eq_true rfl) (c_X2_nextToken G l (T1.keep (w' := up (up w1 1 3 0) 1 5 0) (by rw [up_ne (by omega), up_ne (by omega)]) (fun i => by rw [up_ne (by omega), up_ne (by omega)])) (by rw [up_eq]; omega)) ?_
  rintro w2 ⟨t2, f2⟩
  rw [up_eq] at t2
  refine V_iconst dX2_read_22 ?_
  refine V_istore_n dX2_read_23 (by decide) rfl ?_
  have gg : ∀ (k : Nat) (j : Int), (k ≠ 1 ∨ j < 3 ∨ 7 < j) → w2 k j = w1 k j := fun k j q => by rw [f2 k j (by omega), up_ne (by omega), up_ne (by omega)]
  have a2 : tAS w2 13 = tAS w 5 := (tAS_eq (fun k j q1 q2 => gg k j (by omega))).trans a1
  have e3 : w2 1 3 = 0 := by rw [f2 _ _ (by omega), up_ne (by omega), up_eq]
  refine l_X2_read G l 12 0 w2 (sk T 0) (by omega) (by omega) (T1.keep (gg _ _ (by omega)) (fun i => gg _ _ (by omega))) t2 (okT_sl o1 (fun k j q => gg k j (by omega))) e3 (fun z w' h => ?_)
  obtain ⟨y1, y2, y3, y4, y5⟩ := h
  rw [a2] at y1 y3
  refine ⟨y1, y2, fun z9 => ?_, fun k j q1 q2 => (y4 k j q1 q2).trans ((gg k j (by omega)).trans (f1 k j (by omega))), y5⟩
  obtain ⟨c1, c2⟩ := y3 z9
  exact ⟨c1, by rw [c2, e3]; omega⟩

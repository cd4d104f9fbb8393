/-! ===== 53 the reference's reader: words ===== -/
def ltS (W m j : Int) : Int := if j < 6 then bAnd (bShr W (5 * j)) 31 else bAnd (bShr m (5 * (j - 6))) 31
def mwW : List Int := [146935, 11311, 8505634, 468724, 787886568, 673840, 187238065, 20068392]
def mwM : List Int := [0, 0, 0, 0, 0, 0, 12, 0]
theorem mw_all : ∀ i : Fin 8, ∀ j : Fin 7, j.val < scLen.getD i.val 0 → 96 + ltS (mwW.getD i.val 0) (mwM.getD i.val 0) ((j.val : Nat) : Int) = scC i.val ((j.val : Nat) : Int) ∧ 0 ≤ scC i.val ((j.val : Nat) : Int) ∧ scC i.val ((j.val : Nat) : Int) ≤ 255 := by decide +kernel
theorem mw_len : ∀ i : Fin 8, scLen.getD i.val 0 ≤ 7 := by decide
theorem mw_at {i : Nat} {j : Int} (hi : i < 8) (hj : 0 ≤ j ∧ j < ((scLen.getD i 0 : Nat) : Int)) : 96 + ltS (mwW.getD i 0) (mwM.getD i 0) j = scC i j ∧ 0 ≤ scC i j ∧ scC i j ≤ 255 := by
  have hl : scLen.getD i 0 ≤ 7 := mw_len ⟨i, hi⟩
  have h := mw_all ⟨i, hi⟩ ⟨j.toNat, by omega⟩ (by show j.toNat < scLen.getD i 0; omega)
  dsimp only at h
  rwa [show ((j.toNat : Nat) : Int) = j by omega] at h
set_option maxRecDepth 100000 in
set_option maxHeartbeats 4000000 in
theorem x_X5_isWord (G : Gb) (l : Launch) {w : Wd} {W m n j : Int} {Post : Int → Wd → Prop} (hp : Post 0 w) : V G l mX5_isWord (Qi G Post) 23 [some (.ref (gA G 71)), some (.int (iZ W)), some (.int (iZ m)), some (.int (iZ n)), some (.int (iZ 0)), some (.int (iZ j))] [] w := by
  refine V_iload dX5_isWord_23 rfl ?_
  refine V_if_eq (tgt := 96) dX5_isWord_25 (by decide) (by omega) (fun h25 => ?_) (fun h25 => ?_)
  · refine V_iload dX5_isWord_96 rfl ?_
    exact V_zret dX5_isWord_98 rfl (by omega) hp
  · exact absurd rfl h25
set_option maxRecDepth 100000 in
set_option maxHeartbeats 4000000 in
theorem l_X5_isWord (G : Gb) (l : Launch) {w : Wd} {T : List Int} (hT : TM w T) {p : Int} (hk : tkM w T p) {i : Nat} (hi : i < 8) {W m n : Int} (hW : W = mwW.getD i 0) (hM : m = mwM.getD i 0) (hn : n = ((scLen.getD i 0 : Nat) : Int)) (hl : tkE T p - p = ((scLen.getD i 0 : Nat) : Int)) {Post : Int → Wd → Prop} (hp : Post (if slc T p = scI i then 1 else 0) w) : ∀ (q : Nat) (j : Int), 0 ≤ j → j + q = n → (∀ k : Int, 0 ≤ k → k < j → ch T (p + k) = scC i k) → V G l mX5_isWord (Qi G Post) 23 [some (.ref (gA G 71)), some (.int (iZ W)), some (.int (iZ m)), some (.int (iZ n)), some (.int (iZ 1)), some (.int (iZ j))] [] w := by
  have kl : scLen.getD i 0 ≤ 7 := mw_len ⟨i, hi⟩
  have kp := hk.1
  have k2 := hT.2.1
  have kt := tkE_bd hk.1.1 hk.1.2
  have k15 := hk.2.1
  intro q
  induction q with
  | zero =>
    intro j h0 h1 hc
    refine V_iload dX5_isWord_23 rfl ?_
    refine V_if_eq (tgt := 96) dX5_isWord_25 (by decide) (by omega) (fun h25 => ?_) (fun h25 => ?_)
    · exact absurd h25 (by decide)
    · refine V_iload dX5_isWord_28 rfl ?_
      refine V_iload_n dX5_isWord_30 rfl ?_
      refine V_icmp_ge (tgt := 96) dX5_isWord_31 (by decide) (by omega) (by omega) (fun h31 => ?_) (fun h31 => ?_)
      · refine V_iload dX5_isWord_96 rfl ?_
        exact V_zret dX5_isWord_98 rfl (by omega) (by rw [if_pos (slc_eq hk.1.1 hk.1.2 hi hl (fun k q0 q1 => hc k q0 (by omega)))] at hp; exact hp)
      · exact absurd h31 (by omega)
  | succ q ih =>
    intro j h0 h1 hc
    have ky := mw_at (i := i) (j := j) hi ⟨h0, by omega⟩
    have kc := (hT.2.2 (p + j) (by omega) (by omega)).2
    refine V_iload dX5_isWord_23 rfl ?_
    refine V_if_eq (tgt := 96) dX5_isWord_25 (by decide) (by omega) (fun h25 => ?_) (fun h25 => ?_)
    · exact absurd h25 (by decide)
    · refine V_iload dX5_isWord_28 rfl ?_
      refine V_iload_n dX5_isWord_30 rfl ?_
      refine V_icmp_ge (tgt := 96) dX5_isWord_31 (by decide) (by omega) (by omega) (fun h31 => ?_) (fun h31 => ?_)
      · exact absurd h31 (by omega)
      · refine V_aload_n dX5_isWord_34 rfl ?_
        refine V_getR (ci := 5) (j := 2) dX5_isWord_35 s_71 rfl rfl i_X5_isWord_X5 (by decide) f_X5_isWord_17 ?_
        refine V_aload_n dX5_isWord_38 rfl ?_
        refine V_getI (ci := 5) (j := 15) (ji := 15) dX5_isWord_39 s_71 rfl rfl i_X5_isWord_X5 (by decide) f_X5_isWord_62 rfl ?_
        refine V_iload dX5_isWord_42 rfl ?_
        refine V_iadd dX5_isWord_44 ?_
        refine V_ialdE (z := ch T (p + j)) dX5_isWord_45 s_74 (by omega) (by rw [hk.2.1]; exact (hT.2.2 (p + j) (by omega) (by omega)).1) ?_
        refine V_bipush dX5_isWord_46 rfl ?_
        refine V_iload dX5_isWord_48 rfl ?_
        refine V_bipush dX5_isWord_50 rfl ?_
        refine V_icmp_ge (tgt := 67) dX5_isWord_52 (by decide) (by omega) (by omega) (fun h52 => ?_) (fun h52 => ?_)
        · have e6 : 96 + bAnd (bShr m (5 * (j - 6))) 31 = scC i j := by have q9 := ky.1; rw [ltS, if_neg (by omega), ← hM] at q9; exact q9
          refine V_iload_n dX5_isWord_67 rfl ?_
          refine V_iconst dX5_isWord_68 ?_
          refine V_iload dX5_isWord_69 rfl ?_
          refine V_bipush dX5_isWord_71 rfl ?_
          refine V_isub dX5_isWord_73 ?_
          refine V_imul dX5_isWord_74 ?_
          refine V_ishr dX5_isWord_75 ?_
          refine V_bipush dX5_isWord_76 rfl ?_
          refine V_iand dX5_isWord_78 ?_
          refine V_iadd dX5_isWord_79 ?_
          refine V_top e6 ?_
          refine V_icmp_ne (tgt := 87) dX5_isWord_80 (by decide) (by omega) (by omega) (fun h80 => ?_) (fun h80 => ?_)
          · refine V_iconst dX5_isWord_87 ?_
            refine V_istore dX5_isWord_88 (by decide) rfl ?_
            refine V_iinc dX5_isWord_90 rfl (by decide) rfl ?_
            refine V_goto (tgt := 23) dX5_isWord_93 (by decide) ?_
            first
              | exact ih (j + 1) (by omega) (by omega) (fun k q0 q1 => by by_cases e : k = j; (subst e; exact h80); exact hc k q0 (by omega))
              | exact x_X5_isWord G l (by rw [if_neg (slc_ne hk.1.1 hk.1.2 hi ⟨h0, by omega⟩ hl h80)] at hp; exact hp)
          · refine V_iconst dX5_isWord_83 ?_
            refine V_goto (tgt := 88) dX5_isWord_84 (by decide) ?_
            refine V_istore dX5_isWord_88 (by decide) rfl ?_
            refine V_iinc dX5_isWord_90 rfl (by decide) rfl ?_
            refine V_goto (tgt := 23) dX5_isWord_93 (by decide) ?_
            first
              | exact ih (j + 1) (by omega) (by omega) (fun k q0 q1 => by by_cases e : k = j; (subst e; exact h80); exact hc k q0 (by omega))
              | exact x_X5_isWord G l (by rw [if_neg (slc_ne hk.1.1 hk.1.2 hi ⟨h0, by omega⟩ hl h80)] at hp; exact hp)
        · have e6 : 96 + bAnd (bShr W (5 * j)) 31 = scC i j := by have q9 := ky.1; rw [ltS, if_pos h52, ← hW] at q9; exact q9
          refine V_iload_n dX5_isWord_55 rfl ?_
          refine V_iconst dX5_isWord_56 ?_
          refine V_iload dX5_isWord_57 rfl ?_
          refine V_imul dX5_isWord_59 ?_
          refine V_ishr dX5_isWord_60 ?_
          refine V_bipush dX5_isWord_61 rfl ?_
          refine V_iand dX5_isWord_63 ?_
          refine V_goto (tgt := 79) dX5_isWord_64 (by decide) ?_
          refine V_iadd dX5_isWord_79 ?_
          refine V_top e6 ?_
          refine V_icmp_ne (tgt := 87) dX5_isWord_80 (by decide) (by omega) (by omega) (fun h80 => ?_) (fun h80 => ?_)
          · refine V_iconst dX5_isWord_87 ?_
            refine V_istore dX5_isWord_88 (by decide) rfl ?_
            refine V_iinc dX5_isWord_90 rfl (by decide) rfl ?_
            refine V_goto (tgt := 23) dX5_isWord_93 (by decide) ?_
            first
              | exact ih (j + 1) (by omega) (by omega) (fun k q0 q1 => by by_cases e : k = j; (subst e; exact h80); exact hc k q0 (by omega))
              | exact x_X5_isWord G l (by rw [if_neg (slc_ne hk.1.1 hk.1.2 hi ⟨h0, by omega⟩ hl h80)] at hp; exact hp)
          · refine V_iconst dX5_isWord_83 ?_
            refine V_goto (tgt := 88) dX5_isWord_84 (by decide) ?_
            refine V_istore dX5_isWord_88 (by decide) rfl ?_
            refine V_iinc dX5_isWord_90 rfl (by decide) rfl ?_
            refine V_goto (tgt := 23) dX5_isWord_93 (by decide) ?_
            first
              | exact ih (j + 1) (by omega) (by omega) (fun k q0 q1 => by by_cases e : k = j; (subst e; exact h80); exact hc k q0 (by omega))
              | exact x_X5_isWord G l (by rw [if_neg (slc_ne hk.1.1 hk.1.2 hi ⟨h0, by omega⟩ hl h80)] at hp; exact hp)
set_option maxRecDepth 100000 in
set_option maxHeartbeats 4000000 in
theorem c_X5_isWord (G : Gb) (l : Launch) {w : Wd} {T : List Int} (hT : TM w T) {p : Int} (hk : tkM w T p) {i : Nat} (hi : i < 8) {W m n : Int} (hW : W = mwW.getD i 0) (hM : m = mwM.getD i 0) (hn : n = ((scLen.getD i 0 : Nat) : Int)) : Ci G l yX5_isWord mX5_isWord [.ref (gA G 71), .int (iZ W), .int (iZ m), .int (iZ n)] w (fun z w' => z = (if slc T p = scI i then 1 else 0) ∧ w = w') := by
  refine V_start 2 (by decide) rfl rfl (Nat.le_of_ble_eq_true rfl) ?_
  show V G l mX5_isWord _ 0 [some (.ref (gA G 71)), some (.int (iZ W)), some (.int (iZ m)), some (.int (iZ n)), none, none] [] w
  have kl : scLen.getD i 0 ≤ 7 := mw_len ⟨i, hi⟩
  have kp := hk.1
  have k2 := hT.2.1
  have kt := tkE_bd hk.1.1 hk.1.2
  have k15 := hk.2.1
  have k16 := hk.2.2.1
  refine V_aload_n dX5_isWord_0 rfl ?_
  refine V_getI (ci := 5) (j := 16) (ji := 16) dX5_isWord_1 s_71 rfl rfl i_X5_isWord_X5 (by decide) f_X5_isWord_69 rfl ?_
  refine V_aload_n dX5_isWord_4 rfl ?_
  refine V_getI (ci := 5) (j := 15) (ji := 15) dX5_isWord_5 s_71 rfl rfl i_X5_isWord_X5 (by decide) f_X5_isWord_62 rfl ?_
  refine V_isub dX5_isWord_8 ?_
  refine V_iload_n dX5_isWord_9 rfl ?_
  refine V_icmp_ne (tgt := 17) dX5_isWord_10 (by decide) (by omega) (by omega) (fun h10 => ?_) (fun h10 => ?_)
  · refine V_iconst dX5_isWord_17 ?_
    refine V_istore dX5_isWord_18 (by decide) rfl ?_
    refine V_iconst dX5_isWord_20 ?_
    refine V_istore dX5_isWord_21 (by decide) rfl ?_
    first
      | exact x_X5_isWord G l ⟨by rw [if_neg (slc_nl hk.1.1 hk.1.2 hi (by omega))], rfl⟩
      | exact l_X5_isWord G l hT hk hi hW hM hn (by omega) ⟨rfl, rfl⟩ (scLen.getD i 0) 0 (by omega) (by omega) (fun k q0 q1 => by omega)
  · refine V_iconst dX5_isWord_13 ?_
    refine V_goto (tgt := 18) dX5_isWord_14 (by decide) ?_
    refine V_istore dX5_isWord_18 (by decide) rfl ?_
    refine V_iconst dX5_isWord_20 ?_
    refine V_istore dX5_isWord_21 (by decide) rfl ?_
    first
      | exact x_X5_isWord G l ⟨by rw [if_neg (slc_nl hk.1.1 hk.1.2 hi (by omega))], rfl⟩
      | exact l_X5_isWord G l hT hk hi hW hM hn (by omega) ⟨rfl, rfl⟩ (scLen.getD i 0) 0 (by omega) (by omega) (fun k q0 q1 => by omega)
set_option maxRecDepth 100000 in
set_option maxHeartbeats 4000000 in
theorem c_X5_treeWord (G : Gb) (l : Launch) {w : Wd} {T : List Int} (hT : TM w T) {p : Int} (hk : tkM w T p) : Ci G l yX5_treeWord mX5_treeWord [.ref (gA G 71)] w (fun z w' => z = (if slc T p = scI 1 then 1 else if slc T p = scI 2 then 2 else if slc T p = scI 3 then 3 else if slc T p = scI 4 then 4 else -1) ∧ w = w') := by
  refine V_start 0 (by decide) rfl rfl (Nat.le_of_ble_eq_true rfl) ?_
  show V G l mX5_treeWord _ 0 [some (.ref (gA G 71))] [] w
  refine V_aload_n dX5_treeWord_0 rfl ?_
  refine V_sipush dX5_treeWord_1 rfl ?_
  refine V_iconst dX5_treeWord_4 ?_
  refine V_iconst dX5_treeWord_5 ?_
  refine V_iV3 dX5_treeWord_6 o_X5_treeWord_72 s_71 rfl (Nat.le_of_ble_eq_true rfl) (c_X5_isWord G l hT hk (i := 1) (by omega) rfl rfl rfl) ?_
  rintro a _ ⟨ha, rfl⟩
  have ra : a = 0 ∨ a = 1 := by rw [ha]; split <;> simp
  refine V_if_eq (tgt := 16) dX5_treeWord_9 (by decide) (by omega) (fun h9 => ?_) (fun h9 => ?_)
  · have n1 : ¬ (slc T p = scI 1) := fun q9 => by rw [if_pos q9] at ha; omega
    refine V_aload_n dX5_treeWord_16 rfl ?_
    refine V_ldc (n := 8505634) dX5_treeWord_17 (List.mem_of_getElem? (i := 1) rfl) ?_
    refine V_iconst dX5_treeWord_19 ?_
    refine V_iconst dX5_treeWord_20 ?_
    refine V_iV3 dX5_treeWord_21 o_X5_treeWord_72 s_71 rfl (Nat.le_of_ble_eq_true rfl) (c_X5_isWord G l hT hk (i := 2) (by omega) rfl rfl rfl) ?_
    rintro b _ ⟨hb, rfl⟩
    have rb : b = 0 ∨ b = 1 := by rw [hb]; split <;> simp
    refine V_if_eq (tgt := 31) dX5_treeWord_24 (by decide) (by omega) (fun h24 => ?_) (fun h24 => ?_)
    · have n2 : ¬ (slc T p = scI 2) := fun q9 => by rw [if_pos q9] at hb; omega
      refine V_aload_n dX5_treeWord_31 rfl ?_
      refine V_ldc (n := 468724) dX5_treeWord_32 (List.mem_of_getElem? (i := 2) rfl) ?_
      refine V_iconst dX5_treeWord_34 ?_
      refine V_iconst dX5_treeWord_35 ?_
      refine V_iV3 dX5_treeWord_36 o_X5_treeWord_72 s_71 rfl (Nat.le_of_ble_eq_true rfl) (c_X5_isWord G l hT hk (i := 3) (by omega) rfl rfl rfl) ?_
      rintro d _ ⟨hd, rfl⟩
      have rd : d = 0 ∨ d = 1 := by rw [hd]; split <;> simp
      refine V_if_eq (tgt := 46) dX5_treeWord_39 (by decide) (by omega) (fun h39 => ?_) (fun h39 => ?_)
      · have n3 : ¬ (slc T p = scI 3) := fun q9 => by rw [if_pos q9] at hd; omega
        refine V_aload_n dX5_treeWord_46 rfl ?_
        refine V_ldc (n := 787886568) dX5_treeWord_47 (List.mem_of_getElem? (i := 3) rfl) ?_
        refine V_iconst dX5_treeWord_49 ?_
        refine V_bipush dX5_treeWord_50 rfl ?_
        refine V_iV3 dX5_treeWord_52 o_X5_treeWord_72 s_71 rfl (Nat.le_of_ble_eq_true rfl) (c_X5_isWord G l hT hk (i := 4) (by omega) rfl rfl rfl) ?_
        rintro f _ ⟨hf, rfl⟩
        have rf : f = 0 ∨ f = 1 := by rw [hf]; split <;> simp
        refine V_if_eq (tgt := 62) dX5_treeWord_55 (by decide) (by omega) (fun h55 => ?_) (fun h55 => ?_)
        · have n4 : ¬ (slc T p = scI 4) := fun q9 => by rw [if_pos q9] at hf; omega
          refine V_iconst dX5_treeWord_62 ?_
          exact V_iret dX5_treeWord_63 rfl ⟨by first | rw [if_pos e1] | rw [if_neg n1, if_pos e2] | rw [if_neg n1, if_neg n2, if_pos e3] | rw [if_neg n1, if_neg n2, if_neg n3, if_pos e4] | rw [if_neg n1, if_neg n2, if_neg n3, if_neg n4], rfl⟩
        · have e4 : slc T p = scI 4 := by
            by_cases q9 : slc T p = scI 4
            · exact q9
            · rw [if_neg q9] at hf; omega
          refine V_iconst dX5_treeWord_58 ?_
          refine V_goto (tgt := 63) dX5_treeWord_59 (by decide) ?_
          exact V_iret dX5_treeWord_63 rfl ⟨by first | rw [if_pos e1] | rw [if_neg n1, if_pos e2] | rw [if_neg n1, if_neg n2, if_pos e3] | rw [if_neg n1, if_neg n2, if_neg n3, if_pos e4] | rw [if_neg n1, if_neg n2, if_neg n3, if_neg n4], rfl⟩
      · have e3 : slc T p = scI 3 := by
          by_cases q9 : slc T p = scI 3
          · exact q9
          · rw [if_neg q9] at hd; omega
        refine V_iconst dX5_treeWord_42 ?_
        refine V_goto (tgt := 63) dX5_treeWord_43 (by decide) ?_
        exact V_iret dX5_treeWord_63 rfl ⟨by first | rw [if_pos e1] | rw [if_neg n1, if_pos e2] | rw [if_neg n1, if_neg n2, if_pos e3] | rw [if_neg n1, if_neg n2, if_neg n3, if_pos e4] | rw [if_neg n1, if_neg n2, if_neg n3, if_neg n4], rfl⟩
    · have e2 : slc T p = scI 2 := by
        by_cases q9 : slc T p = scI 2
        · exact q9
        · rw [if_neg q9] at hb; omega
      refine V_iconst dX5_treeWord_27 ?_
      refine V_goto (tgt := 63) dX5_treeWord_28 (by decide) ?_
      exact V_iret dX5_treeWord_63 rfl ⟨by first | rw [if_pos e1] | rw [if_neg n1, if_pos e2] | rw [if_neg n1, if_neg n2, if_pos e3] | rw [if_neg n1, if_neg n2, if_neg n3, if_pos e4] | rw [if_neg n1, if_neg n2, if_neg n3, if_neg n4], rfl⟩
  · have e1 : slc T p = scI 1 := by
      by_cases q9 : slc T p = scI 1
      · exact q9
      · rw [if_neg q9] at ha; omega
    refine V_iconst dX5_treeWord_12 ?_
    refine V_goto (tgt := 63) dX5_treeWord_13 (by decide) ?_
    exact V_iret dX5_treeWord_63 rfl ⟨by first | rw [if_pos e1] | rw [if_neg n1, if_pos e2] | rw [if_neg n1, if_neg n2, if_pos e3] | rw [if_neg n1, if_neg n2, if_neg n3, if_pos e4] | rw [if_neg n1, if_neg n2, if_neg n3, if_neg n4], rfl⟩
set_option maxRecDepth 100000 in
set_option maxHeartbeats 4000000 in
theorem c_X5_wordOf (G : Gb) (l : Launch) {w : Wd} {T : List Int} (hT : TM w T) {p : Int} (hk : tkM w T p) : Ci G l yX5_wordOf mX5_wordOf [.ref (gA G 71)] w (fun z w' => z = wdS T p ∧ w = w') := by
  refine V_start 1 (by decide) rfl rfl (Nat.le_of_ble_eq_true rfl) ?_
  show V G l mX5_wordOf _ 0 [some (.ref (gA G 71)), none] [] w
  refine V_aload_n dX5_wordOf_0 rfl ?_
  refine V_iV0 dX5_wordOf_1 o_X5_wordOf_79 s_71 rfl (Nat.le_of_ble_eq_true rfl) (c_X5_treeWord G l hT hk) ?_
  rintro z _ ⟨hz, rfl⟩
  have rz : -1 ≤ z ∧ z ≤ 4 := by rw [hz]; (repeat' split) <;> omega
  refine V_istore_n dX5_wordOf_4 (by decide) rfl ?_
  refine V_iload_n dX5_wordOf_5 rfl ?_
  refine V_iconst dX5_wordOf_6 ?_
  refine V_icmp_eq (tgt := 14) dX5_wordOf_7 (by decide) (by omega) (by omega) (fun h7 => ?_) (fun h7 => ?_)
  · have ez : wdS T p = (if slc T p = scI 0 then 0 else if slc T p = scI 5 then 5 else if slc T p = scI 6 then 6 else if slc T p = scI 7 then 7 else -1) := by
      unfold wdS
      rw [h7] at hz
      (repeat' split at hz) <;> simp_all
    refine V_aload_n dX5_wordOf_14 rfl ?_
    refine V_ldc (n := 146935) dX5_wordOf_15 (List.mem_of_getElem? (i := 1) rfl) ?_
    refine V_iconst dX5_wordOf_17 ?_
    refine V_iconst dX5_wordOf_18 ?_
    refine V_iV3 dX5_wordOf_19 o_X5_wordOf_72 s_71 rfl (Nat.le_of_ble_eq_true rfl) (c_X5_isWord G l hT hk (i := 0) (by omega) rfl rfl rfl) ?_
    rintro a _ ⟨ha, rfl⟩
    have ra : a = 0 ∨ a = 1 := by rw [ha]; split <;> simp
    refine V_if_eq (tgt := 29) dX5_wordOf_22 (by decide) (by omega) (fun h22 => ?_) (fun h22 => ?_)
    · have n0 : ¬ (slc T p = scI 0) := fun q9 => by rw [if_pos q9] at ha; omega
      refine V_aload_n dX5_wordOf_29 rfl ?_
      refine V_ldc (n := 673840) dX5_wordOf_30 (List.mem_of_getElem? (i := 2) rfl) ?_
      refine V_iconst dX5_wordOf_32 ?_
      refine V_iconst dX5_wordOf_33 ?_
      refine V_iV3 dX5_wordOf_34 o_X5_wordOf_72 s_71 rfl (Nat.le_of_ble_eq_true rfl) (c_X5_isWord G l hT hk (i := 5) (by omega) rfl rfl rfl) ?_
      rintro b _ ⟨hb, rfl⟩
      have rb : b = 0 ∨ b = 1 := by rw [hb]; split <;> simp
      refine V_if_eq (tgt := 44) dX5_wordOf_37 (by decide) (by omega) (fun h37 => ?_) (fun h37 => ?_)
      · have n5 : ¬ (slc T p = scI 5) := fun q9 => by rw [if_pos q9] at hb; omega
        refine V_aload_n dX5_wordOf_44 rfl ?_
        refine V_ldc (n := 187238065) dX5_wordOf_45 (List.mem_of_getElem? (i := 3) rfl) ?_
        refine V_bipush dX5_wordOf_47 rfl ?_
        refine V_bipush dX5_wordOf_49 rfl ?_
        refine V_iV3 dX5_wordOf_51 o_X5_wordOf_72 s_71 rfl (Nat.le_of_ble_eq_true rfl) (c_X5_isWord G l hT hk (i := 6) (by omega) rfl rfl rfl) ?_
        rintro d _ ⟨hd, rfl⟩
        have rd : d = 0 ∨ d = 1 := by rw [hd]; split <;> simp
        refine V_if_eq (tgt := 62) dX5_wordOf_54 (by decide) (by omega) (fun h54 => ?_) (fun h54 => ?_)
        · have n6 : ¬ (slc T p = scI 6) := fun q9 => by rw [if_pos q9] at hd; omega
          refine V_aload_n dX5_wordOf_62 rfl ?_
          refine V_ldc (n := 20068392) dX5_wordOf_63 (List.mem_of_getElem? (i := 4) rfl) ?_
          refine V_iconst dX5_wordOf_65 ?_
          refine V_iconst dX5_wordOf_66 ?_
          refine V_iV3 dX5_wordOf_67 o_X5_wordOf_72 s_71 rfl (Nat.le_of_ble_eq_true rfl) (c_X5_isWord G l hT hk (i := 7) (by omega) rfl rfl rfl) ?_
          rintro f _ ⟨hf, rfl⟩
          have rf : f = 0 ∨ f = 1 := by rw [hf]; split <;> simp
          refine V_if_eq (tgt := 78) dX5_wordOf_70 (by decide) (by omega) (fun h70 => ?_) (fun h70 => ?_)
          · have n7 : ¬ (slc T p = scI 7) := fun q9 => by rw [if_pos q9] at hf; omega
            refine V_iconst dX5_wordOf_78 ?_
            exact V_iret dX5_wordOf_79 rfl ⟨by first | exact ez.symm | rw [ez, if_pos e0] | rw [ez, if_neg n0, if_pos e5] | rw [ez, if_neg n0, if_neg n5, if_pos e6] | rw [ez, if_neg n0, if_neg n5, if_neg n6, if_pos e7] | rw [ez, if_neg n0, if_neg n5, if_neg n6, if_neg n7], rfl⟩
          · have e7 : slc T p = scI 7 := by
              by_cases q9 : slc T p = scI 7
              · exact q9
              · rw [if_neg q9] at hf; omega
            refine V_bipush dX5_wordOf_73 rfl ?_
            refine V_goto (tgt := 79) dX5_wordOf_75 (by decide) ?_
            exact V_iret dX5_wordOf_79 rfl ⟨by first | exact ez.symm | rw [ez, if_pos e0] | rw [ez, if_neg n0, if_pos e5] | rw [ez, if_neg n0, if_neg n5, if_pos e6] | rw [ez, if_neg n0, if_neg n5, if_neg n6, if_pos e7] | rw [ez, if_neg n0, if_neg n5, if_neg n6, if_neg n7], rfl⟩
        · have e6 : slc T p = scI 6 := by
            by_cases q9 : slc T p = scI 6
            · exact q9
            · rw [if_neg q9] at hd; omega
          refine V_bipush dX5_wordOf_57 rfl ?_
          refine V_goto (tgt := 79) dX5_wordOf_59 (by decide) ?_
          exact V_iret dX5_wordOf_79 rfl ⟨by first | exact ez.symm | rw [ez, if_pos e0] | rw [ez, if_neg n0, if_pos e5] | rw [ez, if_neg n0, if_neg n5, if_pos e6] | rw [ez, if_neg n0, if_neg n5, if_neg n6, if_pos e7] | rw [ez, if_neg n0, if_neg n5, if_neg n6, if_neg n7], rfl⟩
      · have e5 : slc T p = scI 5 := by
          by_cases q9 : slc T p = scI 5
          · exact q9
          · rw [if_neg q9] at hb; omega
        refine V_iconst dX5_wordOf_40 ?_
        refine V_goto (tgt := 79) dX5_wordOf_41 (by decide) ?_
        exact V_iret dX5_wordOf_79 rfl ⟨by first | exact ez.symm | rw [ez, if_pos e0] | rw [ez, if_neg n0, if_pos e5] | rw [ez, if_neg n0, if_neg n5, if_pos e6] | rw [ez, if_neg n0, if_neg n5, if_neg n6, if_pos e7] | rw [ez, if_neg n0, if_neg n5, if_neg n6, if_neg n7], rfl⟩
    · have e0 : slc T p = scI 0 := by
        by_cases q9 : slc T p = scI 0
        · exact q9
        · rw [if_neg q9] at ha; omega
      refine V_iconst dX5_wordOf_25 ?_
      refine V_goto (tgt := 79) dX5_wordOf_26 (by decide) ?_
      exact V_iret dX5_wordOf_79 rfl ⟨by first | exact ez.symm | rw [ez, if_pos e0] | rw [ez, if_neg n0, if_pos e5] | rw [ez, if_neg n0, if_neg n5, if_pos e6] | rw [ez, if_neg n0, if_neg n5, if_neg n6, if_pos e7] | rw [ez, if_neg n0, if_neg n5, if_neg n6, if_neg n7], rfl⟩
  · have ez : wdS T p = z := by
      unfold wdS
      rw [hz] at h7 ⊢
      (repeat' split at h7) <;> simp_all
    refine V_iload_n dX5_wordOf_10 rfl ?_
    refine V_goto (tgt := 79) dX5_wordOf_11 (by decide) ?_
    exact V_iret dX5_wordOf_79 rfl ⟨by first | exact ez.symm | rw [ez, if_pos e0] | rw [ez, if_neg n0, if_pos e5] | rw [ez, if_neg n0, if_neg n5, if_pos e6] | rw [ez, if_neg n0, if_neg n5, if_neg n6, if_pos e7] | rw [ez, if_neg n0, if_neg n5, if_neg n6, if_neg n7], rfl⟩

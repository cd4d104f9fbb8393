/-! ===== 34 TreeDebts: rid ===== -/
theorem or_sh : ∀ a : Fin 1024, ∀ k : Fin 10, bOr ((a.val : Nat) : Int) (bShl 1 ((k.val : Nat) : Int)) = ((a.val ||| 2 ^ k.val : Nat) : Int) := by decide +kernel
theorem or_shl {s : Nat} {p : Int} (hs : s < 1024) (hp : 0 ≤ p ∧ p ≤ 9) : bOr ((s : Nat) : Int) (bShl 1 p) = ((s ||| 2 ^ p.toNat : Nat) : Int) ∧ (s ||| 2 ^ p.toNat) < 1024 := by
  refine ⟨?_, Nat.or_lt_two_pow (n := 10) hs (Nat.pow_lt_pow_right (by omega) (by omega))⟩
  have h := or_sh ⟨s, hs⟩ ⟨p.toNat, by omega⟩
  rw [← h]
  show bOr _ (bShl 1 p) = bOr _ (bShl 1 ((p.toNat : Nat) : Int))
  rw [Int.toNat_of_nonneg hp.1]
def pwF (P : List Int) : List Ln → Nat → Nat
  | [], s => s
  | x :: r, s => pwF P r (s ||| 2 ^ (P.getD x.1.toNat 0).toNat)
def cmT (p : Int) : Int := (if p % 2 = 0 then 2 else 1) * (if p % 5 = 0 then 5 else 1)
def poN (t : Int) : Nat → Int → Int
  | 0, s => s
  | n + 1, s => poN t n (s * t)
def rdT (p q : Int) : Int := (if q = 0 then p else 10) / cmT p
def aRid (σ : SG) (p q : Int) : Int := if 0 ≤ p ∧ p ≤ 10 ∧ 0 ≤ q ∧ q ≤ 1 then poN (rdT p q) (pc10 (pwF σ.2.1.2.2.2.2.2.1 σ.2.2.1.2.2.2.2 0)) 1 else -3
theorem pc10_le (n : Nat) : pc10 n ≤ 10 := by
  unfold pc10
  exact Nat.le_trans (List.length_filter_le _ _) (by simp)
set_option maxRecDepth 100000 in
set_option maxHeartbeats 4000000 in
theorem l_X1_partsWithLoans (G : Gb) (l : Launch) {w : Wd} {b d : Nat} (hb : IsSt b) (hd : IsTd d) {c : Int} (ho : okC c w b) (hT : okT w d) {Post : Int → Wd → Prop} : ∀ (n : Nat) (i : Int) (s : Nat), 0 ≤ i → i + n = w b 3 → s < 1024 → Post ((pc10 (pwF (gl w (d + 5) 0 6) ((cLs w b).drop i.toNat) s) : Nat) : Int) w → V G l mX1_partsWithLoans (Qi G Post) 4 [some (.ref (gA G b)), some (.ref (gA G d)), some (.int (iZ ((s : Nat) : Int))), some (.int (iZ i))] [] w := by
  have kn := ho.n
  intro n
  induction n with
  | zero =>
    intro i s h0 h1 hs hp
    rw [show i.toNat = (w b 3).toNat by omega, cLs, rg_end, pwF] at hp
    refine V_iload_n dX1_partsWithLoans_4 rfl ?_
    refine V_aload_n dX1_partsWithLoans_5 rfl ?_
    refine V_getI (ci := 1) (j := 3) (ji := 3) dX1_partsWithLoans_6 (sSt_0 hb) rfl rfl i_X1_partsWithLoans_X1 (by decide) f_X1_partsWithLoans_37 rfl ?_
    refine V_icmp_ge (tgt := 34) dX1_partsWithLoans_9 (by decide) (by omega) (by omega) (fun h9 => ?_) (fun h9 => ?_)
    · refine V_iload_n dX1_partsWithLoans_34 rfl ?_
      refine V_iS1 dX1_partsWithLoans_35 o_X1_partsWithLoans_113 (Nat.le_of_ble_eq_true rfl) (c_bitCount G l (by omega)) ?_
      rintro _ _ ⟨rfl, rfl⟩
      exact V_iret dX1_partsWithLoans_38 rfl (by rw [show ((s : Nat) : Int).toNat = s by omega]; exact hp)
    · exact absurd h9 (by omega)
  | succ n ih =>
    intro i s h0 h1 hs hp
    have kl := ho.ln h0 (by omega)
    have kp := (hT.2.2.2.1 (w (b + 3) i) (by omega) (by omega)).2.2.2.2
    obtain ⟨o1, o2⟩ := or_shl (s := s) (p := w (d + 5) (w (b + 3) i)) hs (by omega)
    rw [cLs, rg_drop _ (show i.toNat < (w b 3).toNat by omega), pwF] at hp
    have e1 : (gl w (d + 5) 0 6).getD (cLn w b i.toNat).1.toNat 0 = w (d + 5) (w (b + 3) i) := by
      show (gl w (d + 5) 0 6).getD (w (b + 3) ((i.toNat : Nat) : Int)).toNat 0 = _
      rw [Int.toNat_of_nonneg h0, ← gl_0 (by omega) (by omega)]
    rw [e1, show i.toNat + 1 = (i + 1).toNat by omega] at hp
    refine V_iload_n dX1_partsWithLoans_4 rfl ?_
    refine V_aload_n dX1_partsWithLoans_5 rfl ?_
    refine V_getI (ci := 1) (j := 3) (ji := 3) dX1_partsWithLoans_6 (sSt_0 hb) rfl rfl i_X1_partsWithLoans_X1 (by decide) f_X1_partsWithLoans_37 rfl ?_
    refine V_icmp_ge (tgt := 34) dX1_partsWithLoans_9 (by decide) (by omega) (by omega) (fun h9 => ?_) (fun h9 => ?_)
    · exact absurd h9 (by omega)
    · refine V_iload_n dX1_partsWithLoans_12 rfl ?_
      refine V_iconst dX1_partsWithLoans_13 ?_
      refine V_aload_n dX1_partsWithLoans_14 rfl ?_
      refine V_getR (ci := 3) (j := 5) dX1_partsWithLoans_15 (sTd_0 hd) rfl rfl i_X1_partsWithLoans_X3 (by decide) f_X1_partsWithLoans_107 ?_
      refine V_aload_n dX1_partsWithLoans_18 rfl ?_
      refine V_getR (ci := 1) (j := 4) dX1_partsWithLoans_19 (sSt_0 hb) rfl rfl i_X1_partsWithLoans_X1 (by decide) f_X1_partsWithLoans_18 ?_
      refine V_iload_n dX1_partsWithLoans_22 rfl ?_
      refine V_iald dX1_partsWithLoans_23 (sSt_3 hb) (by omega) ?_
      refine V_iald dX1_partsWithLoans_24 (sTd_5 hd) (by omega) ?_
      refine V_ishl dX1_partsWithLoans_25 ?_
      refine V_ior dX1_partsWithLoans_26 ?_
      rw [o1]
      refine V_istore_n dX1_partsWithLoans_27 (by decide) rfl ?_
      refine V_iinc dX1_partsWithLoans_28 rfl (by decide) rfl ?_
      refine V_goto (tgt := 4) dX1_partsWithLoans_31 (by decide) ?_
      exact ih (i + 1) _ (by omega) (by omega) o2 hp
set_option maxRecDepth 100000 in
set_option maxHeartbeats 4000000 in
theorem c_X1_partsWithLoans (G : Gb) (l : Launch) {w : Wd} {b d : Nat} (hb : IsSt b) (hd : IsTd d) {c : Int} (ho : okC c w b) (hT : okT w d) : Ci G l yX1_partsWithLoans mX1_partsWithLoans [.ref (gA G b), .ref (gA G d)] w (fun z w' => z = ((pc10 (pwF (gl w (d + 5) 0 6) (cLs w b) 0) : Nat) : Int) ∧ w = w') := by
  refine V_start 2 (by decide) rfl rfl (Nat.le_of_ble_eq_true rfl) ?_
  show V G l mX1_partsWithLoans _ 0 [some (.ref (gA G b)), some (.ref (gA G d)), none, none] [] w
  have kn := ho.n
  refine V_iconst dX1_partsWithLoans_0 ?_
  refine V_istore_n dX1_partsWithLoans_1 (by decide) rfl ?_
  refine V_iconst dX1_partsWithLoans_2 ?_
  refine V_istore_n dX1_partsWithLoans_3 (by decide) rfl ?_
  exact l_X1_partsWithLoans G l hb hd ho hT (w b 3).toNat 0 0 (by omega) (by omega) (by omega) ⟨rfl, rfl⟩
set_option maxRecDepth 100000 in
set_option maxHeartbeats 4000000 in
theorem c_X4_commonWithTen (G : Gb) (l : Launch) {w : Wd} {p : Int} (hp : 0 ≤ p ∧ p ≤ 10) : Ci G l yX4_commonWithTen mX4_commonWithTen [.int (iZ p)] w (fun z w' => z = cmT p ∧ w = w') := by
  refine V_start 0 (by decide) rfl rfl (Nat.le_of_ble_eq_true rfl) ?_
  show V G l mX4_commonWithTen _ 0 [some (.int (iZ p))] [] w
  refine V_iload_n dX4_commonWithTen_0 rfl ?_
  refine V_iconst dX4_commonWithTen_1 ?_
  refine V_irem dX4_commonWithTen_2 (by omega) (by omega) ?_
  refine V_if_ne (tgt := 10) dX4_commonWithTen_3 (by decide) (by omega) (fun h3 => ?_) (fun h3 => ?_)
  · refine V_iconst dX4_commonWithTen_10 ?_
    refine V_iload_n dX4_commonWithTen_11 rfl ?_
    refine V_iconst dX4_commonWithTen_12 ?_
    refine V_irem dX4_commonWithTen_13 (by omega) (by omega) ?_
    refine V_if_ne (tgt := 21) dX4_commonWithTen_14 (by decide) (by omega) (fun h14 => ?_) (fun h14 => ?_)
    · refine V_iconst dX4_commonWithTen_21 ?_
      refine V_imul dX4_commonWithTen_22 ?_
      exact V_iret dX4_commonWithTen_23 rfl ⟨by unfold cmT; first | rw [if_pos (by omega), if_pos (by omega)] | rw [if_pos (by omega), if_neg (by omega)] | rw [if_neg (by omega), if_pos (by omega)] | rw [if_neg (by omega), if_neg (by omega)], rfl⟩
    · refine V_iconst dX4_commonWithTen_17 ?_
      refine V_goto (tgt := 22) dX4_commonWithTen_18 (by decide) ?_
      refine V_imul dX4_commonWithTen_22 ?_
      exact V_iret dX4_commonWithTen_23 rfl ⟨by unfold cmT; first | rw [if_pos (by omega), if_pos (by omega)] | rw [if_pos (by omega), if_neg (by omega)] | rw [if_neg (by omega), if_pos (by omega)] | rw [if_neg (by omega), if_neg (by omega)], rfl⟩
  · refine V_iconst dX4_commonWithTen_6 ?_
    refine V_goto (tgt := 11) dX4_commonWithTen_7 (by decide) ?_
    refine V_iload_n dX4_commonWithTen_11 rfl ?_
    refine V_iconst dX4_commonWithTen_12 ?_
    refine V_irem dX4_commonWithTen_13 (by omega) (by omega) ?_
    refine V_if_ne (tgt := 21) dX4_commonWithTen_14 (by decide) (by omega) (fun h14 => ?_) (fun h14 => ?_)
    · refine V_iconst dX4_commonWithTen_21 ?_
      refine V_imul dX4_commonWithTen_22 ?_
      exact V_iret dX4_commonWithTen_23 rfl ⟨by unfold cmT; first | rw [if_pos (by omega), if_pos (by omega)] | rw [if_pos (by omega), if_neg (by omega)] | rw [if_neg (by omega), if_pos (by omega)] | rw [if_neg (by omega), if_neg (by omega)], rfl⟩
    · refine V_iconst dX4_commonWithTen_17 ?_
      refine V_goto (tgt := 22) dX4_commonWithTen_18 (by decide) ?_
      refine V_imul dX4_commonWithTen_22 ?_
      exact V_iret dX4_commonWithTen_23 rfl ⟨by unfold cmT; first | rw [if_pos (by omega), if_pos (by omega)] | rw [if_pos (by omega), if_neg (by omega)] | rw [if_neg (by omega), if_pos (by omega)] | rw [if_neg (by omega), if_neg (by omega)], rfl⟩
set_option maxRecDepth 100000 in
set_option maxHeartbeats 4000000 in
theorem l_X4_rid (G : Gb) (l : Launch) {w : Wd} {p q t n : Int} (hn : 0 ≤ n ∧ n ≤ 10) {Post : Int → Wd → Prop} : ∀ (k : Nat) (i s : Int), 0 ≤ i → i + k = n → Post (poN t k s) w → V G l mX4_rid (Qi G Post) 57 [some (.ref (gA G 0)), some (.int (iZ p)), some (.int (iZ q)), some (.int (iZ t)), some (.int (iZ n)), some (.int (iZ s)), some (.int (iZ i))] [] w := by
  intro k
  induction k with
  | zero =>
    intro i s h0 h1 hp
    refine V_iload dX4_rid_57 rfl ?_
    refine V_iload dX4_rid_59 rfl ?_
    refine V_icmp_ge (tgt := 76) dX4_rid_61 (by decide) (by omega) (by omega) (fun h61 => ?_) (fun h61 => ?_)
    · refine V_iload dX4_rid_76 rfl ?_
      exact V_iret dX4_rid_78 rfl hp
    · exact absurd h61 (by omega)
  | succ k ih =>
    intro i s h0 h1 hp
    refine V_iload dX4_rid_57 rfl ?_
    refine V_iload dX4_rid_59 rfl ?_
    refine V_icmp_ge (tgt := 76) dX4_rid_61 (by decide) (by omega) (by omega) (fun h61 => ?_) (fun h61 => ?_)
    · exact absurd h61 (by omega)
    · refine V_iload dX4_rid_64 rfl ?_
      refine V_iload_n dX4_rid_66 rfl ?_
      refine V_imul dX4_rid_67 ?_
      refine V_istore dX4_rid_68 (by decide) rfl ?_
      refine V_iinc dX4_rid_70 rfl (by decide) rfl ?_
      refine V_goto (tgt := 57) dX4_rid_73 (by decide) ?_
      exact ih (i + 1) _ (by omega) (by omega) hp
set_option maxRecDepth 100000 in
set_option maxHeartbeats 4000000 in
theorem c_X4_rid (G : Gb) (l : Launch) {w : Wd} {c : Int} {σ : SG} (h : SC c σ w) {p : Int} (hp : inR p) {q : Int} (hq : inR q) : Ci G l yX4_rid mX4_rid [.ref (gA G 0), .int (iZ p), .int (iZ q)] w (fun z w' => z = aRid σ p q ∧ SC (c + 1) σ w' ∧ frC w w') := by
  refine V_start 4 (by decide) rfl rfl (Nat.le_of_ble_eq_true rfl) ?_
  show V G l mX4_rid _ 0 [some (.ref (gA G 0)), some (.int (iZ p)), some (.int (iZ q)), none, none, none, none] [] w
  have hT := h.2.1.2
  have hO := h.2.2.1.2.1
  have kt := hT.1
  have kn := hO.n
  have eN := h.tN
  have eL := h.aN
  have pl := pc10_le (pwF (gl w (5 + 5) 0 6) (cLs w 21) 0)
  have cb : 0 < cmT p ∧ cmT p ≤ 10 := by unfold cmT; split <;> split <;> omega
  refine V_iload_n dX4_rid_0 rfl ?_
  refine V_if_lt (tgt := 19) dX4_rid_1 (by decide) (by omega) (fun h1 => ?_) (fun h1 => ?_)
  · refine V_bipush dX4_rid_19 rfl ?_
    exact V_iret dX4_rid_21 rfl (by rw [aRid, if_neg (by omega)]; exact ⟨rfl, h.same, fun _ _ _ => rfl⟩)
  · refine V_iload_n dX4_rid_4 rfl ?_
    refine V_bipush dX4_rid_5 rfl ?_
    refine V_icmp_gt (tgt := 19) dX4_rid_7 (by decide) (by omega) (by omega) (fun h7 => ?_) (fun h7 => ?_)
    · refine V_bipush dX4_rid_19 rfl ?_
      exact V_iret dX4_rid_21 rfl (by rw [aRid, if_neg (by omega)]; exact ⟨rfl, h.same, fun _ _ _ => rfl⟩)
    · refine V_iload_n dX4_rid_10 rfl ?_
      refine V_if_lt (tgt := 19) dX4_rid_11 (by decide) (by omega) (fun h11 => ?_) (fun h11 => ?_)
      · refine V_bipush dX4_rid_19 rfl ?_
        exact V_iret dX4_rid_21 rfl (by rw [aRid, if_neg (by omega)]; exact ⟨rfl, h.same, fun _ _ _ => rfl⟩)
      · refine V_iload_n dX4_rid_14 rfl ?_
        refine V_iconst dX4_rid_15 ?_
        refine V_icmp_le (tgt := 22) dX4_rid_16 (by decide) (by omega) (by omega) (fun h16 => ?_) (fun h16 => ?_)
        · refine V_iload_n dX4_rid_22 rfl ?_
          refine V_if_ne (tgt := 30) dX4_rid_23 (by decide) (by omega) (fun h23 => ?_) (fun h23 => ?_)
          · refine V_bipush dX4_rid_30 rfl ?_
            refine V_iload_n dX4_rid_32 rfl ?_
            refine V_iS1 dX4_rid_33 o_X4_rid_186 (Nat.le_of_ble_eq_true rfl) (c_X4_commonWithTen G l (p := p) (by omega)) ?_
            rintro _ _ ⟨rfl, rfl⟩
            refine V_idiv dX4_rid_36 (by omega) (by omega) ?_
            refine V_istore_n dX4_rid_37 (by decide) rfl ?_
            refine V_aload_n dX4_rid_38 rfl ?_
            refine V_getR (ci := 4) (j := 2) dX4_rid_39 s_0 rfl rfl i_X4_rid_X4 (by decide) f_X4_rid_26 ?_
            refine V_aload_n dX4_rid_42 rfl ?_
            refine V_getR (ci := 4) (j := 1) dX4_rid_43 s_0 rfl rfl i_X4_rid_X4 (by decide) f_X4_rid_19 ?_
            refine V_iV1 dX4_rid_46 o_X4_rid_189 s_21 rfl (Nat.le_of_ble_eq_true rfl) (c_X1_partsWithLoans G l (b := 21) (d := 5) (Or.inl rfl) (Or.inl rfl) hO hT) ?_
            rintro _ _ ⟨rfl, rfl⟩
            refine V_istore dX4_rid_49 (by decide) rfl ?_
            refine V_iconst dX4_rid_51 ?_
            refine V_istore dX4_rid_52 (by decide) rfl ?_
            refine V_iconst dX4_rid_54 ?_
            refine V_istore dX4_rid_55 (by decide) rfl ?_
            refine l_X4_rid G l (n := ((pc10 (pwF (gl w (5 + 5) 0 6) (cLs w 21) 0) : Nat) : Int)) ⟨by omega, by omega⟩ (pc10 (pwF (gl w (5 + 5) 0 6) (cLs w 21) 0)) 0 1 (by omega) (by omega) ?_
            rw [aRid, if_pos (by omega)]
            refine ⟨?_, h.same, fun _ _ _ => rfl⟩
            rw [show gl w (5 + 5) 0 6 = σ.2.1.2.2.2.2.2.1 from h.tP', h.aL, rdT]
            first
              | rw [if_pos (by omega)]
              | rw [if_neg (by omega)]
          · refine V_iload_n dX4_rid_26 rfl ?_
            refine V_goto (tgt := 32) dX4_rid_27 (by decide) ?_
            refine V_iload_n dX4_rid_32 rfl ?_
            refine V_iS1 dX4_rid_33 o_X4_rid_186 (Nat.le_of_ble_eq_true rfl) (c_X4_commonWithTen G l (p := p) (by omega)) ?_
            rintro _ _ ⟨rfl, rfl⟩
            refine V_idiv dX4_rid_36 (by omega) (by omega) ?_
            refine V_istore_n dX4_rid_37 (by decide) rfl ?_
            refine V_aload_n dX4_rid_38 rfl ?_
            refine V_getR (ci := 4) (j := 2) dX4_rid_39 s_0 rfl rfl i_X4_rid_X4 (by decide) f_X4_rid_26 ?_
            refine V_aload_n dX4_rid_42 rfl ?_
            refine V_getR (ci := 4) (j := 1) dX4_rid_43 s_0 rfl rfl i_X4_rid_X4 (by decide) f_X4_rid_19 ?_
            refine V_iV1 dX4_rid_46 o_X4_rid_189 s_21 rfl (Nat.le_of_ble_eq_true rfl) (c_X1_partsWithLoans G l (b := 21) (d := 5) (Or.inl rfl) (Or.inl rfl) hO hT) ?_
            rintro _ _ ⟨rfl, rfl⟩
            refine V_istore dX4_rid_49 (by decide) rfl ?_
            refine V_iconst dX4_rid_51 ?_
            refine V_istore dX4_rid_52 (by decide) rfl ?_
            refine V_iconst dX4_rid_54 ?_
            refine V_istore dX4_rid_55 (by decide) rfl ?_
            refine l_X4_rid G l (n := ((pc10 (pwF (gl w (5 + 5) 0 6) (cLs w 21) 0) : Nat) : Int)) ⟨by omega, by omega⟩ (pc10 (pwF (gl w (5 + 5) 0 6) (cLs w 21) 0)) 0 1 (by omega) (by omega) ?_
            rw [aRid, if_pos (by omega)]
            refine ⟨?_, h.same, fun _ _ _ => rfl⟩
            rw [show gl w (5 + 5) 0 6 = σ.2.1.2.2.2.2.2.1 from h.tP', h.aL, rdT]
            first
              | rw [if_pos (by omega)]
              | rw [if_neg (by omega)]
        · refine V_bipush dX4_rid_19 rfl ?_
          exact V_iret dX4_rid_21 rfl (by rw [aRid, if_neg (by omega)]; exact ⟨rfl, h.same, fun _ _ _ => rfl⟩)

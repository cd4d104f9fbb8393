/-! ===== 51 the reference's calls: rid ===== -/
theorem sh_bit : ∀ a : Fin 1024, ∀ k : Fin 10, bAnd (bShr ((a.val : Nat) : Int) ((k.val : Nat) : Int)) 1 = if a.val.testBit k.val then 1 else 0 := by decide +kernel
theorem sh_bitZ {s : Nat} {k : Int} (hs : s < 1024) (hk : 0 ≤ k ∧ k < 10) : bAnd (bShr ((s : Nat) : Int) k) 1 = if s.testBit k.toNat then 1 else 0 := by
  have h := sh_bit ⟨s, hs⟩ ⟨k.toNat, by omega⟩
  rw [← h]
  show bAnd (bShr _ k) 1 = bAnd (bShr _ ((k.toNat : Nat) : Int)) 1
  rw [Int.toNat_of_nonneg hk.1]
def rdN (s : Nat) (p : Int) : Nat → Int → Int → Int
  | 0, _, a => a
  | n + 1, k, a => rdN s p n (k + 1) (a * (if s.testBit k.toNat then p else 1))
theorem rdN_pw : ∀ p : Fin 11, ∀ s : Fin 1024, rdN s.val ((p.val : Nat) : Int) 10 0 1 = (((p.val ^ pc10 s.val : Nat)) : Int) := by decide +kernel
theorem pw_bd : ∀ p : Fin 11, ∀ k : Fin 7, p.val ^ k.val ≤ 1000000 := by decide +kernel
theorem pc_or : ∀ a : Fin 1024, ∀ k : Fin 10, pc10 (a.val ||| 2 ^ k.val) ≤ pc10 a.val + 1 := by decide +kernel
theorem pc_mono {n m : Nat} (h : ∀ j, n.testBit j = true → m.testBit j = true) : pc10 n ≤ pc10 m := by
  unfold pc10
  rw [← List.countP_eq_length_filter, ← List.countP_eq_length_filter]
  exact List.countP_mono_left (fun j _ q => h j q)
def orP : List Int → Nat
  | [] => 0
  | v :: r => orP r ||| 2 ^ v.toNat
theorem orP_ok : ∀ L : List Int, (∀ v ∈ L, 0 ≤ v ∧ v ≤ 9) → orP L < 1024 ∧ pc10 (orP L) ≤ L.length
  | [], _ => ⟨by rw [orP]; omega, by decide⟩
  | v :: r, h => by
    obtain ⟨h1, h2⟩ := orP_ok r (fun x hx => h x (List.mem_cons_of_mem _ hx))
    have hv := h v List.mem_cons_self
    refine ⟨Nat.or_lt_two_pow (n := 10) h1 (Nat.pow_lt_pow_right (by omega) (by omega)), ?_⟩
    have q5 : pc10 (orP r ||| 2 ^ v.toNat) ≤ pc10 (orP r) + 1 := pc_or ⟨orP r, h1⟩ ⟨v.toNat, by omega⟩
    rw [orP, List.length_cons]
    omega
theorem orP_mem : ∀ (L : List Int) (v : Int), v ∈ L → (orP L).testBit v.toNat = true
  | [], v, h => by simp at h
  | x :: r, v, h => by
    rw [orP, Nat.testBit_or]
    rcases List.mem_cons.mp h with h | h
    · subst h
      rw [Nat.testBit_two_pow_self, Bool.or_true]
    · rw [orP_mem r v h, Bool.true_or]
theorem pwF_bit {P : List Int} (hP : P.length = 6) : ∀ (ls : List Ln) (s j : Nat), (∀ x ∈ ls, 0 ≤ x.1 ∧ x.1 < 6) → (pwF P ls s).testBit j = true → s.testBit j = true ∨ (orP P).testBit j = true
  | [], s, j, _, h => Or.inl h
  | x :: r, s, j, hx, h => by
    rw [pwF] at h
    rcases pwF_bit hP r _ j (fun y hy => hx y (List.mem_cons_of_mem _ hy)) h with q | q
    · rw [Nat.testBit_or, Bool.or_eq_true] at q
      rcases q with q | q
      · exact Or.inl q
      · right
        rw [Nat.testBit_two_pow] at q
        have e := of_decide_eq_true q
        rw [← e]
        have := hx x List.mem_cons_self
        exact orP_mem P _ (getD_mem (by omega))
    · exact Or.inr q
theorem pwF_lt {P : List Int} (hP : P.length = 6 ∧ ∀ v ∈ P, 0 ≤ v ∧ v ≤ 9) : ∀ (ls : List Ln) (s : Nat), (∀ x ∈ ls, 0 ≤ x.1 ∧ x.1 < 6) → s < 1024 → pwF P ls s < 1024
  | [], s, _, h => h
  | x :: r, s, hx, h => by
    rw [pwF]
    have := hx x List.mem_cons_self
    have hv := hP.2 _ (getD_mem (L := P) (i := x.1.toNat) (by omega))
    exact pwF_lt hP r _ (fun y hy => hx y (List.mem_cons_of_mem _ hy)) (Nat.or_lt_two_pow (n := 10) h (Nat.pow_lt_pow_right (by omega) (by omega)))
theorem pwF_6 {P : List Int} (hP : P.length = 6 ∧ ∀ v ∈ P, 0 ≤ v ∧ v ≤ 9) {ls : List Ln} (hx : ∀ x ∈ ls, 0 ≤ x.1 ∧ x.1 < 6) : pc10 (pwF P ls 0) ≤ 6 := by
  have h1 := pc_mono (n := pwF P ls 0) (m := orP P) (fun j q => by
    rcases pwF_bit hP.1 ls 0 j hx q with h | h
    · simp at h
    · exact h)
  have h2 := (orP_ok P hP.2).2
  omega
def rdS (σ : SG) : Nat := pwF σ.2.1.2.2.2.2.2.1 σ.2.2.1.2.2.2.2 0
def aRidM (σ : SG) (p q : Int) : Int := if 0 ≤ p ∧ p ≤ 10 ∧ 0 ≤ q ∧ q ≤ 1 then (if q = 0 then ((p.toNat ^ pc10 (rdS σ) : Nat) : Int) else ((10 ^ pc10 (rdS σ) : Nat) : Int)) / ((Nat.gcd (10 ^ pc10 (rdS σ)) (p.toNat ^ pc10 (rdS σ)) : Nat) : Int) else -3
set_option maxRecDepth 100000 in
set_option maxHeartbeats 4000000 in
theorem l1_X5_rid (G : Gb) (l : Launch) {w : Wd} {c p q : Int} (hO : okM c w 0) (hT : okTm w) {Qc : Array Value → State → Outcome → State → Prop} {F : Nat} : ∀ (n : Nat) (i : Int) (s : Nat), 0 ≤ i → i + n = w 72 14 → s < 1024 → pwF (gl w 79 0 6) ((mLs w 0).drop i.toNat) s = F → (∀ i' s, s = F → V G l mX5_rid Qc 70 [some (.ref (gA G 71)), some (.int (iZ p)), some (.int (iZ q)), some (.int (iZ ((s : Nat) : Int))), some (.int (iZ i')), none, none, none, none] [] w) → V G l mX5_rid Qc 30 [some (.ref (gA G 71)), some (.int (iZ p)), some (.int (iZ q)), some (.int (iZ ((s : Nat) : Int))), some (.int (iZ i)), none, none, none, none] [] w := by
  have kn : 0 ≤ w 72 14 ∧ w 72 14 ≤ 12 := hO.n
  have e14 : w 72 (0 + 14) = w 72 14 := rfl
  intro n
  induction n with
  | zero =>
    intro i s h0 h1 hs hF hp
    rw [mLs_end (by omega), pwF] at hF
    refine V_iload dX5_rid_30 rfl ?_
    refine V_aload_n dX5_rid_32 rfl ?_
    refine V_getR (ci := 5) (j := 0) dX5_rid_33 s_71 rfl rfl i_X5_rid_X5 (by decide) f_X5_rid_7 ?_
    refine V_bipush dX5_rid_36 rfl ?_
    refine V_iald dX5_rid_38 s_72 (by omega) ?_
    refine V_icmp_ge (tgt := 70) dX5_rid_39 (by decide) (by omega) (by omega) (fun h39 => ?_) (fun h39 => ?_)
    · exact hp _ _ hF
    · exact absurd h39 (by omega)
  | succ n ih =>
    intro i s h0 h1 hs hF hp
    have kl := hO.ln h0 (by omega)
    have kp := (hT.2.2.2.1 (w 72 (0 + 15 + 5 * i)) (by omega) (by omega)).2.2.2.2
    obtain ⟨o1, o2⟩ := or_shl (s := s) (p := w 79 (w 72 (0 + 15 + 5 * i))) hs (by omega)
    rw [mLs_drop h0 (by omega), pwF] at hF
    have e1 : (gl w 79 0 6).getD (w 72 (0 + 15 + 5 * i)).toNat 0 = w 79 (w 72 (0 + 15 + 5 * i)) := by rw [← gl_0 (by omega) (by omega)]
    dsimp only at hF
    rw [e1] at hF
    refine V_iload dX5_rid_30 rfl ?_
    refine V_aload_n dX5_rid_32 rfl ?_
    refine V_getR (ci := 5) (j := 0) dX5_rid_33 s_71 rfl rfl i_X5_rid_X5 (by decide) f_X5_rid_7 ?_
    refine V_bipush dX5_rid_36 rfl ?_
    refine V_iald dX5_rid_38 s_72 (by omega) ?_
    refine V_icmp_ge (tgt := 70) dX5_rid_39 (by decide) (by omega) (by omega) (fun h39 => ?_) (fun h39 => ?_)
    · exact absurd h39 (by omega)
    · refine V_iload_n dX5_rid_42 rfl ?_
      refine V_iconst dX5_rid_43 ?_
      refine V_aload_n dX5_rid_44 rfl ?_
      refine V_getR (ci := 5) (j := 9) dX5_rid_45 s_71 rfl rfl i_X5_rid_X5 (by decide) f_X5_rid_32 ?_
      refine V_aload_n dX5_rid_48 rfl ?_
      refine V_getR (ci := 5) (j := 0) dX5_rid_49 s_71 rfl rfl i_X5_rid_X5 (by decide) f_X5_rid_7 ?_
      refine V_iconst dX5_rid_52 ?_
      refine V_iload dX5_rid_53 rfl ?_
      refine V_iconst dX5_rid_55 ?_
      refine V_iS3 dX5_rid_56 o_X5_rid_136 (Nat.le_of_ble_eq_true rfl) (c_X5_placeOf G l) ?_
      rintro _ _ ⟨rfl, rfl⟩
      refine V_top (show 0 + 15 + 5 * i + 0 = 0 + 15 + 5 * i by omega) ?_
      refine V_iald dX5_rid_59 s_72 (by omega) ?_
      refine V_iald dX5_rid_60 s_79 (by omega) ?_
      refine V_ishl dX5_rid_61 ?_
      refine V_ior dX5_rid_62 ?_
      rw [o1]
      refine V_istore_n dX5_rid_63 (by decide) rfl ?_
      refine V_iinc dX5_rid_64 rfl (by decide) rfl ?_
      refine V_goto (tgt := 30) dX5_rid_67 (by decide) ?_
      exact ih (i + 1) _ (by omega) (by omega) o2 hF hp
set_option maxRecDepth 100000 in
set_option maxHeartbeats 4000000 in
theorem l2_X5_rid (G : Gb) (l : Launch) {w : Wd} {p q : Int} {s : Nat} (hs : s < 1024) {Qc : Array Value → State → Outcome → State → Prop} {A B : Int} : ∀ (n : Nat) (i a b : Int), 0 ≤ i → i + n = 10 → rdN s p n i a = A → rdN s 10 n i b = B → (∀ i' a b, a = A → b = B → V G l mX5_rid Qc 133 [some (.ref (gA G 71)), some (.int (iZ p)), some (.int (iZ q)), some (.int (iZ ((s : Nat) : Int))), some (.int (iZ a)), some (.int (iZ b)), some (.int (iZ i')), none, none] [] w) → V G l mX5_rid Qc 79 [some (.ref (gA G 71)), some (.int (iZ p)), some (.int (iZ q)), some (.int (iZ ((s : Nat) : Int))), some (.int (iZ a)), some (.int (iZ b)), some (.int (iZ i)), none, none] [] w := by
  intro n
  induction n with
  | zero =>
    intro i a b h0 h1 hA hB hp
    rw [rdN] at hA hB
    refine V_iload dX5_rid_79 rfl ?_
    refine V_bipush dX5_rid_81 rfl ?_
    refine V_icmp_ge (tgt := 133) dX5_rid_83 (by decide) (by omega) (by omega) (fun h83 => ?_) (fun h83 => ?_)
    · exact hp _ _ _ hA hB
    · exact absurd h83 (by omega)
  | succ n ih =>
    intro i a b h0 h1 hA hB hp
    have eb := sh_bitZ (s := s) (k := i) hs (by omega)
    have rb : inR (if s.testBit i.toNat = true then (1 : Int) else 0) := by split <;> omega
    refine V_iload dX5_rid_79 rfl ?_
    refine V_bipush dX5_rid_81 rfl ?_
    refine V_icmp_ge (tgt := 133) dX5_rid_83 (by decide) (by omega) (by omega) (fun h83 => ?_) (fun h83 => ?_)
    · exact absurd h83 (by omega)
    · refine V_iload dX5_rid_86 rfl ?_
      refine V_iload_n dX5_rid_88 rfl ?_
      refine V_iload dX5_rid_89 rfl ?_
      refine V_ishr dX5_rid_91 ?_
      refine V_iconst dX5_rid_92 ?_
      refine V_iand dX5_rid_93 ?_
      rw [eb]
      refine V_iconst dX5_rid_94 ?_
      refine V_icmp_ne (tgt := 102) dX5_rid_95 (by decide) rb (by omega) (fun h95 => ?_) (fun h95 => ?_)
      · have nb : ¬ s.testBit i.toNat = true := fun q9 => by rw [if_pos q9] at h95; exact h95 rfl
        refine V_iconst dX5_rid_102 ?_
        refine V_imul dX5_rid_103 ?_
        refine V_istore dX5_rid_104 (by decide) rfl ?_
        refine V_iload dX5_rid_106 rfl ?_
        refine V_iload_n dX5_rid_108 rfl ?_
        refine V_iload dX5_rid_109 rfl ?_
        refine V_ishr dX5_rid_111 ?_
        refine V_iconst dX5_rid_112 ?_
        refine V_iand dX5_rid_113 ?_
        rw [eb]
        refine V_iconst dX5_rid_114 ?_
        refine V_icmp_ne (tgt := 123) dX5_rid_115 (by decide) rb (by omega) (fun h115 => ?_) (fun h115 => ?_)
        · refine V_iconst dX5_rid_123 ?_
          refine V_imul dX5_rid_124 ?_
          refine V_istore dX5_rid_125 (by decide) rfl ?_
          refine V_iinc dX5_rid_127 rfl (by decide) rfl ?_
          refine V_goto (tgt := 79) dX5_rid_130 (by decide) ?_
          first
            | exact absurd h115 (by rw [if_pos yb]; omega)
            | exact absurd h115 (by rw [if_neg nb]; omega)
            | exact ih (i + 1) _ _ (by omega) (by omega) (by rw [rdN, if_pos yb] at hA; exact hA) (by rw [rdN, if_pos yb] at hB; exact hB) hp
            | exact ih (i + 1) _ _ (by omega) (by omega) (by rw [rdN, if_neg nb] at hA; exact hA) (by rw [rdN, if_neg nb] at hB; exact hB) hp
        · refine V_bipush dX5_rid_118 rfl ?_
          refine V_goto (tgt := 124) dX5_rid_120 (by decide) ?_
          refine V_imul dX5_rid_124 ?_
          refine V_istore dX5_rid_125 (by decide) rfl ?_
          refine V_iinc dX5_rid_127 rfl (by decide) rfl ?_
          refine V_goto (tgt := 79) dX5_rid_130 (by decide) ?_
          first
            | exact absurd h115 (by rw [if_pos yb]; omega)
            | exact absurd h115 (by rw [if_neg nb]; omega)
            | exact ih (i + 1) _ _ (by omega) (by omega) (by rw [rdN, if_pos yb] at hA; exact hA) (by rw [rdN, if_pos yb] at hB; exact hB) hp
            | exact ih (i + 1) _ _ (by omega) (by omega) (by rw [rdN, if_neg nb] at hA; exact hA) (by rw [rdN, if_neg nb] at hB; exact hB) hp
      · have yb : s.testBit i.toNat = true := by
          by_cases q9 : s.testBit i.toNat = true
          · exact q9
          · rw [if_neg q9] at h95; omega
        refine V_iload_n dX5_rid_98 rfl ?_
        refine V_goto (tgt := 103) dX5_rid_99 (by decide) ?_
        refine V_imul dX5_rid_103 ?_
        refine V_istore dX5_rid_104 (by decide) rfl ?_
        refine V_iload dX5_rid_106 rfl ?_
        refine V_iload_n dX5_rid_108 rfl ?_
        refine V_iload dX5_rid_109 rfl ?_
        refine V_ishr dX5_rid_111 ?_
        refine V_iconst dX5_rid_112 ?_
        refine V_iand dX5_rid_113 ?_
        rw [eb]
        refine V_iconst dX5_rid_114 ?_
        refine V_icmp_ne (tgt := 123) dX5_rid_115 (by decide) rb (by omega) (fun h115 => ?_) (fun h115 => ?_)
        · refine V_iconst dX5_rid_123 ?_
          refine V_imul dX5_rid_124 ?_
          refine V_istore dX5_rid_125 (by decide) rfl ?_
          refine V_iinc dX5_rid_127 rfl (by decide) rfl ?_
          refine V_goto (tgt := 79) dX5_rid_130 (by decide) ?_
          first
            | exact absurd h115 (by rw [if_pos yb]; omega)
            | exact absurd h115 (by rw [if_neg nb]; omega)
            | exact ih (i + 1) _ _ (by omega) (by omega) (by rw [rdN, if_pos yb] at hA; exact hA) (by rw [rdN, if_pos yb] at hB; exact hB) hp
            | exact ih (i + 1) _ _ (by omega) (by omega) (by rw [rdN, if_neg nb] at hA; exact hA) (by rw [rdN, if_neg nb] at hB; exact hB) hp
        · refine V_bipush dX5_rid_118 rfl ?_
          refine V_goto (tgt := 124) dX5_rid_120 (by decide) ?_
          refine V_imul dX5_rid_124 ?_
          refine V_istore dX5_rid_125 (by decide) rfl ?_
          refine V_iinc dX5_rid_127 rfl (by decide) rfl ?_
          refine V_goto (tgt := 79) dX5_rid_130 (by decide) ?_
          first
            | exact absurd h115 (by rw [if_pos yb]; omega)
            | exact absurd h115 (by rw [if_neg nb]; omega)
            | exact ih (i + 1) _ _ (by omega) (by omega) (by rw [rdN, if_pos yb] at hA; exact hA) (by rw [rdN, if_pos yb] at hB; exact hB) hp
            | exact ih (i + 1) _ _ (by omega) (by omega) (by rw [rdN, if_neg nb] at hA; exact hA) (by rw [rdN, if_neg nb] at hB; exact hB) hp
set_option maxRecDepth 100000 in
set_option maxHeartbeats 4000000 in
theorem l3_X5_rid (G : Gb) (l : Launch) {w : Wd} {p q a b : Int} {o3 : Option Value} {Qc : Array Value → State → Outcome → State → Prop} {g : Nat} : ∀ (n : Nat) (x y : Int) (o8 : Option Value), y.toNat ≤ n → (0 ≤ x ∧ x ≤ 1000000) → (0 ≤ y ∧ y ≤ 1000000) → Nat.gcd y.toNat x.toNat = g → (∀ y o8, V G l mX5_rid Qc 164 [some (.ref (gA G 71)), some (.int (iZ p)), some (.int (iZ q)), o3, some (.int (iZ a)), some (.int (iZ b)), some (.int (iZ ((g : Nat) : Int))), some (.int (iZ y)), o8] [] w) → V G l mX5_rid Qc 141 [some (.ref (gA G 71)), some (.int (iZ p)), some (.int (iZ q)), o3, some (.int (iZ a)), some (.int (iZ b)), some (.int (iZ x)), some (.int (iZ y)), o8] [] w := by
  intro n
  induction n with
  | zero =>
    intro x y o8 h0 hx hy hg hp
    have e0 : y = 0 := by omega
    subst e0
    rw [show (0 : Int).toNat = 0 from rfl, Nat.gcd_zero_left] at hg
    have ex : x = ((g : Nat) : Int) := by omega
    refine V_iload dX5_rid_141 rfl ?_
    refine V_if_eq (tgt := 164) dX5_rid_143 (by decide) (by omega) (fun h143 => ?_) (fun h143 => ?_)
    · rw [ex]
      exact hp _ _
    · exact absurd rfl h143
  | succ n ih =>
    intro x y o8 h0 hx hy hg hp
    refine V_iload dX5_rid_141 rfl ?_
    refine V_if_eq (tgt := 164) dX5_rid_143 (by decide) (by omega) (fun h143 => ?_) (fun h143 => ?_)
    · subst h143
      rw [show (0 : Int).toNat = 0 from rfl, Nat.gcd_zero_left] at hg
      have ex : x = ((g : Nat) : Int) := by omega
      rw [ex]
      exact hp _ _
    · have m0 : 0 ≤ x % y := Int.emod_nonneg x (by omega)
      have m1 : x % y < y := Int.emod_lt_of_pos x (by omega)
      have m2 : (x % y).toNat = x.toNat % y.toNat := by
        have : ((x.toNat % y.toNat : Nat) : Int) = x % y := by rw [Int.natCast_emod, Int.toNat_of_nonneg hx.1, Int.toNat_of_nonneg hy.1]
        omega
      refine V_iload dX5_rid_146 rfl ?_
      refine V_iload dX5_rid_148 rfl ?_
      refine V_irem dX5_rid_150 (by omega) (by omega) ?_
      refine V_istore dX5_rid_151 (by decide) rfl ?_
      refine V_iload dX5_rid_153 rfl ?_
      refine V_istore dX5_rid_155 (by decide) rfl ?_
      refine V_iload dX5_rid_157 rfl ?_
      refine V_istore dX5_rid_159 (by decide) rfl ?_
      refine V_goto (tgt := 141) dX5_rid_161 (by decide) ?_
      exact ih y (x % y) _ (by omega) (by omega) (by omega) (by rw [m2, ← Nat.gcd_rec]; exact hg) hp
set_option maxRecDepth 100000 in
set_option maxHeartbeats 4000000 in
theorem c_X5_rid (G : Gb) (l : Launch) {w : Wd} {c : Int} {σ : SG} (h : SM c σ w) {p : Int} (hp : inR p) {q : Int} (hq : inR q) : Ci G l yX5_rid mX5_rid [.ref (gA G 71), .int (iZ p), .int (iZ q)] w (fun z w' => z = aRidM σ p q ∧ SM (c + 1) σ w' ∧ frM w w') := by
  refine V_start 6 (by decide) rfl rfl (Nat.le_of_ble_eq_true rfl) ?_
  show V G l mX5_rid _ 0 [some (.ref (gA G 71)), some (.int (iZ p)), some (.int (iZ q)), none, none, none, none, none, none] [] w
  have hT := h.2.1.2.1
  have hO := h.2.2.1.2.1
  have kt := hT.1
  have kn : 0 ≤ w 72 14 ∧ w 72 14 ≤ 12 := hO.n
  have eN := h.tN
  have eL := h.aN
  refine V_iload_n dX5_rid_0 rfl ?_
  refine V_i2l dX5_rid_1 (iZ_l (by omega)) ?_
  refine V_lconst (v := lZ 0) dX5_rid_2 rfl ?_
  refine V_ldc2 (v := (lZ 10)) dX5_rid_3 (List.mem_of_getElem? (i := 1) rfl) ?_
  refine V_iS3 dX5_rid_6 o_X5_rid_50 (Nat.le_of_ble_eq_true rfl) (c_X5_in G l (by omega) (by omega) (by omega)) ?_
  rintro z _ ⟨hz, rfl⟩
  have rz : z = 0 ∨ z = 1 := by rw [hz]; split <;> simp
  refine V_if_eq (tgt := 22) dX5_rid_9 (by decide) (by omega) (fun h9 => ?_) (fun h9 => ?_)
  · have yz : ¬ (0 ≤ p ∧ p ≤ 10) := fun q9 => by rw [if_pos q9] at hz; omega
    have na : ¬ (0 ≤ p ∧ p ≤ 10 ∧ 0 ≤ q ∧ q ≤ 1) := fun q9 => yz ⟨q9.1, q9.2.1⟩
    refine V_bipush dX5_rid_22 rfl ?_
    exact V_iret dX5_rid_24 rfl (by rw [aRidM, if_neg na]; exact ⟨rfl, h.same, fun _ _ _ => rfl⟩)
  · have yz : 0 ≤ p ∧ p ≤ 10 := by
      by_cases q9 : 0 ≤ p ∧ p ≤ 10
      · exact q9
      · rw [if_neg q9] at hz; omega
    refine V_iload_n dX5_rid_12 rfl ?_
    refine V_i2l dX5_rid_13 (iZ_l (by omega)) ?_
    refine V_lconst (v := lZ 0) dX5_rid_14 rfl ?_
    refine V_lconst (v := lZ 1) dX5_rid_15 rfl ?_
    refine V_iS3 dX5_rid_16 o_X5_rid_50 (Nat.le_of_ble_eq_true rfl) (c_X5_in G l (by omega) (by omega) (by omega)) ?_
    rintro x _ ⟨hx, rfl⟩
    have rx : x = 0 ∨ x = 1 := by rw [hx]; split <;> simp
    refine V_if_ne (tgt := 25) dX5_rid_19 (by decide) (by omega) (fun h19 => ?_) (fun h19 => ?_)
    · have yx : 0 ≤ q ∧ q ≤ 1 := by
        by_cases q9 : 0 ≤ q ∧ q ≤ 1
        · exact q9
        · rw [if_neg q9] at hx; omega
      have okP : (gl w 79 0 6).length = 6 ∧ ∀ v ∈ gl w 79 0 6, 0 ≤ v ∧ v ≤ 9 := ⟨gl_len _ _ _ _, fun v hv => by
        obtain ⟨i, g0, g1, rfl⟩ := gl_mem hv
        rw [Int.zero_add]
        exact (hT.2.2.2.1 i g0 g1).2.2.2.2⟩
      have okL : ∀ x ∈ mLs w 0, 0 ≤ x.1 ∧ x.1 < 6 := fun x hx => (hO.2.2.2.2.2.2 x hx).1
      have sF : pwF (gl w 79 0 6) (mLs w 0) 0 = rdS σ := by rw [h.tP', h.aL]; rfl
      have slt : rdS σ < 1024 := by rw [← sF]; exact pwF_lt okP _ _ okL (by omega)
      have s6 : pc10 (rdS σ) ≤ 6 := by rw [← sF]; exact pwF_6 okP okL
      have eA : rdN (rdS σ) p 10 0 1 = ((p.toNat ^ pc10 (rdS σ) : Nat) : Int) := by
        have q5 := rdN_pw ⟨p.toNat, by omega⟩ ⟨rdS σ, slt⟩
        dsimp only at q5
        rw [Int.toNat_of_nonneg yz.1] at q5
        exact q5
      have eB : rdN (rdS σ) 10 10 0 1 = ((10 ^ pc10 (rdS σ) : Nat) : Int) := rdN_pw ⟨10, by omega⟩ ⟨rdS σ, slt⟩
      have bA : p.toNat ^ pc10 (rdS σ) ≤ 1000000 := pw_bd ⟨p.toNat, by omega⟩ ⟨pc10 (rdS σ), by omega⟩
      have bB : 10 ^ pc10 (rdS σ) ≤ 1000000 := pw_bd ⟨10, by omega⟩ ⟨pc10 (rdS σ), by omega⟩
      have pB : 0 < 10 ^ pc10 (rdS σ) := Nat.pow_pos (by omega)
      have gB : 0 < Nat.gcd (10 ^ pc10 (rdS σ)) (p.toNat ^ pc10 (rdS σ)) := Nat.gcd_pos_of_pos_left _ pB
      have gL : Nat.gcd (10 ^ pc10 (rdS σ)) (p.toNat ^ pc10 (rdS σ)) ≤ 10 ^ pc10 (rdS σ) := Nat.gcd_le_left _ pB
      refine V_iconst dX5_rid_25 ?_
      refine V_istore_n dX5_rid_26 (by decide) rfl ?_
      refine V_iconst dX5_rid_27 ?_
      refine V_istore dX5_rid_28 (by decide) rfl ?_
      refine l1_X5_rid G l hO hT (F := rdS σ) (w 72 14).toNat 0 0 (by omega) (by omega) (by omega) sF (fun i5 s hs => ?_)
      refine V_iconst dX5_rid_70 ?_
      refine V_istore dX5_rid_71 (by decide) rfl ?_
      refine V_iconst dX5_rid_73 ?_
      refine V_istore dX5_rid_74 (by decide) rfl ?_
      refine V_iconst dX5_rid_76 ?_
      refine V_istore dX5_rid_77 (by decide) rfl ?_
      refine l2_X5_rid G l (s := s) (by rw [hs]; exact slt) (A := ((p.toNat ^ pc10 (rdS σ) : Nat) : Int)) (B := ((10 ^ pc10 (rdS σ) : Nat) : Int)) 10 0 1 1 (by omega) (by omega) (by rw [hs]; exact eA) (by rw [hs]; exact eB) (fun i5 a b ha hb => ?_)
      subst ha
      subst hb
      refine V_iload dX5_rid_133 rfl ?_
      refine V_istore dX5_rid_135 (by decide) rfl ?_
      refine V_iload dX5_rid_137 rfl ?_
      refine V_istore dX5_rid_139 (by decide) rfl ?_
      refine l3_X5_rid G l (g := Nat.gcd (10 ^ pc10 (rdS σ)) (p.toNat ^ pc10 (rdS σ))) 1000000 _ _ none (by omega) (by omega) (by omega) (by rw [Int.toNat_natCast, Int.toNat_natCast]) (fun y5 o8 => ?_)
      refine V_iload_n dX5_rid_164 rfl ?_
      refine V_if_ne (tgt := 176) dX5_rid_165 (by decide) (by omega) (fun h165 => ?_) (fun h165 => ?_)
      · refine V_iload dX5_rid_176 rfl ?_
        refine V_iload dX5_rid_178 rfl ?_
        refine V_idiv dX5_rid_180 (by omega) (by omega) ?_
        exact V_iret dX5_rid_181 rfl ⟨by rw [aRidM, if_pos (by omega)]; first | rw [if_pos (by omega)] | rw [if_neg (by omega)], h.same, fun _ _ _ => rfl⟩
      · refine V_iload dX5_rid_168 rfl ?_
        refine V_iload dX5_rid_170 rfl ?_
        refine V_idiv dX5_rid_172 (by omega) (by omega) ?_
        refine V_goto (tgt := 181) dX5_rid_173 (by decide) ?_
        exact V_iret dX5_rid_181 rfl ⟨by rw [aRidM, if_pos (by omega)]; first | rw [if_pos (by omega)] | rw [if_neg (by omega)], h.same, fun _ _ _ => rfl⟩
    · have yx : ¬ (0 ≤ q ∧ q ≤ 1) := fun q9 => by rw [if_pos q9] at hx; omega
      have na : ¬ (0 ≤ p ∧ p ≤ 10 ∧ 0 ≤ q ∧ q ≤ 1) := fun q9 => yx q9.2.2
      refine V_bipush dX5_rid_22 rfl ?_
      exact V_iret dX5_rid_24 rfl (by rw [aRidM, if_neg na]; exact ⟨rfl, h.same, fun _ _ _ => rfl⟩)

/-! ===== 54 the reference's reader: numbers, lines ===== -/
def frRd (i : Int) (w w' : Wd) : Prop := ∀ (k : Nat) (j : Int), (k ≠ 71 ∨ (j ≠ 14 ∧ j ≠ 15 ∧ j ≠ 16)) → (k ≠ 75 ∨ j ≠ i) → w' k j = w k j
theorem frRd.tm {i : Int} {w w' : Wd} {T : List Int} (h : frRd i w w') (hT : TM w T) : TM w' T := hT.keep (h _ _ (by omega) (by omega)) (fun i => h _ _ (by omega) (by omega))
set_option maxRecDepth 100000 in
set_option maxHeartbeats 4000000 in
theorem l_X5_reads (G : Gb) (l : Launch) {w : Wd} {T : List Int} (hT : TM w T) {p k lo hi un : Int} (hk : tkM w T p) {Qc : Array Value → State → Outcome → State → Prop} {F : Int} : ∀ (n : Nat) (q v : Int), p ≤ q → q + n = tkE T p → dvN T n q v = F → (∀ q, V G l mX5_reads Qc 84 [some (.ref (gA G 71)), some (.int (iZ k)), some (.int (iZ lo)), some (.int (iZ hi)), some (.int (iZ un)), some (.int (iZ F)), some (.int (iZ q))] [] w) → V G l mX5_reads Qc 51 [some (.ref (gA G 71)), some (.int (iZ k)), some (.int (iZ lo)), some (.int (iZ hi)), some (.int (iZ un)), some (.int (iZ v)), some (.int (iZ q))] [] w := by
  have kp := hk.1
  have k2 := hT.2.1
  have kt := tkE_bd hk.1.1 hk.1.2
  have k16 := hk.2.2.1
  intro n
  induction n with
  | zero =>
    intro q v h0 h1 hF hp
    rw [dvN] at hF
    refine V_iload dX5_reads_51 rfl ?_
    refine V_aload_n dX5_reads_53 rfl ?_
    refine V_getI (ci := 5) (j := 16) (ji := 16) dX5_reads_54 s_71 rfl rfl i_X5_reads_X5 (by decide) f_X5_reads_69 rfl ?_
    refine V_icmp_ge (tgt := 84) dX5_reads_57 (by decide) (by omega) (by omega) (fun h57 => ?_) (fun h57 => ?_)
    · rw [hF]
      exact hp q
    · exact absurd h57 (by omega)
  | succ n ih =>
    intro q v h0 h1 hF hp
    rw [dvN] at hF
    refine V_iload dX5_reads_51 rfl ?_
    refine V_aload_n dX5_reads_53 rfl ?_
    refine V_getI (ci := 5) (j := 16) (ji := 16) dX5_reads_54 s_71 rfl rfl i_X5_reads_X5 (by decide) f_X5_reads_69 rfl ?_
    refine V_icmp_ge (tgt := 84) dX5_reads_57 (by decide) (by omega) (by omega) (fun h57 => ?_) (fun h57 => ?_)
    · exact absurd h57 (by omega)
    · refine V_bipush dX5_reads_60 rfl ?_
      refine V_iload dX5_reads_62 rfl ?_
      refine V_imul dX5_reads_64 ?_
      refine V_aload_n dX5_reads_65 rfl ?_
      refine V_getR (ci := 5) (j := 2) dX5_reads_66 s_71 rfl rfl i_X5_reads_X5 (by decide) f_X5_reads_17 ?_
      refine V_iload dX5_reads_69 rfl ?_
      refine V_ialdE (z := ch T q) dX5_reads_71 s_74 (by omega) (hT.2.2 q (by omega) (by omega)).1 ?_
      refine V_iadd dX5_reads_72 ?_
      refine V_bipush dX5_reads_73 rfl ?_
      refine V_isub dX5_reads_75 ?_
      refine V_istore dX5_reads_76 (by decide) rfl ?_
      refine V_iinc dX5_reads_78 rfl (by decide) rfl ?_
      refine V_goto (tgt := 51) dX5_reads_81 (by decide) ?_
      exact ih (q + 1) _ (by omega) (by omega) hF hp
set_option maxRecDepth 100000 in
set_option maxHeartbeats 4000000 in
theorem c_X5_reads (G : Gb) (l : Launch) {w : Wd} {T : List Int} (hT : TM w T) {p k lo hi un : Int} (hk : tkM w T p) (hm : 0 ≤ w 71 5 ∧ w 71 5 < 12) (h3 : 0 ≤ k ∧ k ≤ 2) (hlo : inR lo) (hhi : inR hi) (hun : inR un) : Ci G l yX5_reads mX5_reads [.ref (gA G 71), .int (iZ k), .int (iZ lo), .int (iZ hi), .int (iZ un)] w (fun z w' => (okN T p lo hi ∧ vl T p ≠ un → z = 1 ∧ tkM w' T (nx T p) ∧ w' 75 (4 * w 71 5 + 1 + k) = vl T p ∧ frRd (4 * w 71 5 + 1 + k) w w') ∧ (¬ (okN T p lo hi ∧ vl T p ≠ un) → z = 0 ∧ w = w')) := by
  refine V_start 2 (by decide) rfl rfl (Nat.le_of_ble_eq_true rfl) ?_
  show V G l mX5_reads _ 0 [some (.ref (gA G 71)), some (.int (iZ k)), some (.int (iZ lo)), some (.int (iZ hi)), some (.int (iZ un)), none, none] [] w
  have kp := hk.1
  have k1 := hT.1
  have k2 := hT.2.1
  have kt := tkE_bd hk.1.1 hk.1.2
  have k15 := hk.2.1
  have k16 := hk.2.2.1
  refine V_aload_n dX5_reads_0 rfl ?_
  refine V_getI (ci := 5) (j := 15) (ji := 15) dX5_reads_1 s_71 rfl rfl i_X5_reads_X5 (by decide) f_X5_reads_62 rfl ?_
  refine V_aload_n dX5_reads_4 rfl ?_
  refine V_getI (ci := 5) (j := 3) (ji := 3) dX5_reads_5 s_71 rfl rfl i_X5_reads_X5 (by decide) f_X5_reads_54 rfl ?_
  refine V_icmp_eq (tgt := 40) dX5_reads_8 (by decide) (by omega) (by omega) (fun h8 => ?_) (fun h8 => ?_)
  · refine V_iconst dX5_reads_40 ?_
    exact V_zret dX5_reads_41 rfl (by omega) ⟨fun q => by have a1 := q.1.1; have a2 := q.1.2.1; have a3 := q.1.2.2.1; have a4 := q.1.2.2.2.1; have a5 := q.1.2.2.2.2; have a6 := q.2; exfalso; omega, fun _ => ⟨rfl, rfl⟩⟩
  · refine V_aload_n dX5_reads_11 rfl ?_
    refine V_getR (ci := 5) (j := 2) dX5_reads_12 s_71 rfl rfl i_X5_reads_X5 (by decide) f_X5_reads_17 ?_
    refine V_aload_n dX5_reads_15 rfl ?_
    refine V_getI (ci := 5) (j := 15) (ji := 15) dX5_reads_16 s_71 rfl rfl i_X5_reads_X5 (by decide) f_X5_reads_62 rfl ?_
    refine V_ialdE (z := ch T p) dX5_reads_19 s_74 (by omega) (by rw [k15]; exact (hT.2.2 p (by omega) (by omega)).1) ?_
    have kc := (hT.2.2 p (by omega) (by omega)).2
    have rs := srt_v (ch T p)
    refine V_iS1 dX5_reads_20 o_X5_reads_65 (Nat.le_of_ble_eq_true rfl) (c_X5_sort G l (by omega)) ?_
    rintro _ _ ⟨rfl, rfl⟩
    refine V_iconst dX5_reads_23 ?_
    refine V_icmp_ne (tgt := 40) dX5_reads_24 (by decide) (by omega) (by omega) (fun h24 => ?_) (fun h24 => ?_)
    · refine V_iconst dX5_reads_40 ?_
      exact V_zret dX5_reads_41 rfl (by omega) ⟨fun q => by have a1 := q.1.1; have a2 := q.1.2.1; have a3 := q.1.2.2.1; have a4 := q.1.2.2.2.1; have a5 := q.1.2.2.2.2; have a6 := q.2; exfalso; omega, fun _ => ⟨rfl, rfl⟩⟩
    · refine V_aload_n dX5_reads_27 rfl ?_
      refine V_getI (ci := 5) (j := 16) (ji := 16) dX5_reads_28 s_71 rfl rfl i_X5_reads_X5 (by decide) f_X5_reads_69 rfl ?_
      refine V_aload_n dX5_reads_31 rfl ?_
      refine V_getI (ci := 5) (j := 15) (ji := 15) dX5_reads_32 s_71 rfl rfl i_X5_reads_X5 (by decide) f_X5_reads_62 rfl ?_
      refine V_isub dX5_reads_35 ?_
      refine V_iconst dX5_reads_36 ?_
      refine V_icmp_le (tgt := 42) dX5_reads_37 (by decide) (by omega) (by omega) (fun h37 => ?_) (fun h37 => ?_)
      · have vb := vl_bd (T := T) (s := p) (by omega) (by omega) h24 (by omega)
        refine V_iconst dX5_reads_42 ?_
        refine V_istore dX5_reads_43 (by decide) rfl ?_
        refine V_aload_n dX5_reads_45 rfl ?_
        refine V_getI (ci := 5) (j := 15) (ji := 15) dX5_reads_46 s_71 rfl rfl i_X5_reads_X5 (by decide) f_X5_reads_62 rfl ?_
        refine V_istore dX5_reads_49 (by decide) rfl ?_
        rw [k15]
        refine l_X5_reads G l hT hk (F := vl T p) (tkE T p - p).toNat p 0 (by omega) (by omega) rfl (fun q => ?_)
        refine V_iload dX5_reads_84 rfl ?_
        refine V_i2l dX5_reads_86 (iZ_l (by omega)) ?_
        refine V_iload_n dX5_reads_87 rfl ?_
        refine V_i2l dX5_reads_88 (iZ_l (by omega)) ?_
        refine V_iload_n dX5_reads_89 rfl ?_
        refine V_i2l dX5_reads_90 (iZ_l (by omega)) ?_
        refine V_iS3 dX5_reads_91 o_X5_reads_50 (Nat.le_of_ble_eq_true rfl) (c_X5_in G l (by omega) hlo hhi) ?_
        rintro x _ ⟨hx, rfl⟩
        have rx : x = 0 ∨ x = 1 := by rw [hx]; split <;> simp
        refine V_if_eq (tgt := 104) dX5_reads_94 (by decide) (by omega) (fun h94 => ?_) (fun h94 => ?_)
        · have yx : ¬ (lo ≤ vl T p ∧ vl T p ≤ hi) := fun q9 => by rw [if_pos q9] at hx; omega
          refine V_iconst dX5_reads_104 ?_
          exact V_zret dX5_reads_105 rfl (by omega) ⟨fun q => by have a1 := q.1.1; have a2 := q.1.2.1; have a3 := q.1.2.2.1; have a4 := q.1.2.2.2.1; have a5 := q.1.2.2.2.2; have a6 := q.2; exfalso; omega, fun _ => ⟨rfl, rfl⟩⟩
        · have yx : lo ≤ vl T p ∧ vl T p ≤ hi := by
            by_cases q9 : lo ≤ vl T p ∧ vl T p ≤ hi
            · exact q9
            · rw [if_neg q9] at hx; omega
          refine V_iload dX5_reads_97 rfl ?_
          refine V_iload dX5_reads_99 rfl ?_
          refine V_icmp_ne (tgt := 106) dX5_reads_101 (by decide) (by omega) (by omega) (fun h101 => ?_) (fun h101 => ?_)
          · refine V_aload_n dX5_reads_106 rfl ?_
            refine V_getR (ci := 5) (j := 4) dX5_reads_107 s_71 rfl rfl i_X5_reads_X5 (by decide) f_X5_reads_20 ?_
            refine V_iconst dX5_reads_110 ?_
            refine V_aload_n dX5_reads_111 rfl ?_
            refine V_getI (ci := 5) (j := 5) (ji := 5) dX5_reads_112 s_71 rfl rfl i_X5_reads_X5 (by decide) f_X5_reads_87 rfl ?_
            refine V_imul dX5_reads_115 ?_
            refine V_iconst dX5_reads_116 ?_
            refine V_iadd dX5_reads_117 ?_
            refine V_iload_n dX5_reads_118 rfl ?_
            refine V_iadd dX5_reads_119 ?_
            refine V_iload dX5_reads_120 rfl ?_
            refine V_iast dX5_reads_122 s_75 (by show 0 ≤ _ ∧ _ < (48 : Int); omega) ?_
            refine V_aload_n dX5_reads_123 rfl ?_
            refine V_vV0 dX5_reads_124 o_X5_reads_90 s_71 rfl (Nat.le_of_ble_eq_true rfl) (c_X5_token G l (hT.keep (up_ne (by omega)) (fun i => up_ne (by omega))) (by rw [up_ne (by omega)]; exact hk.at_)) ?_
            rintro w2 ⟨t2, f2⟩
            rw [up_ne (by omega), hk.2.2.2] at t2
            refine V_iconst dX5_reads_127 ?_
            exact V_zret dX5_reads_128 rfl (by omega) ⟨fun _ => ⟨rfl, t2, by rw [f2 _ _ (by omega), up_eq], fun kk j q1 q2 => by rw [f2 kk j q1, up_ne (by omega)]⟩, fun q => absurd (show okN T p lo hi ∧ vl T p ≠ un from ⟨⟨by omega, h24, by omega, yx.1, yx.2⟩, h101⟩) q⟩
          · refine V_iconst dX5_reads_104 ?_
            exact V_zret dX5_reads_105 rfl (by omega) ⟨fun q => by have a1 := q.1.1; have a2 := q.1.2.1; have a3 := q.1.2.2.1; have a4 := q.1.2.2.2.1; have a5 := q.1.2.2.2.2; have a6 := q.2; exfalso; omega, fun _ => ⟨rfl, rfl⟩⟩
      · refine V_iconst dX5_reads_40 ?_
        exact V_zret dX5_reads_41 rfl (by omega) ⟨fun q => by have a1 := q.1.1; have a2 := q.1.2.1; have a3 := q.1.2.2.1; have a4 := q.1.2.2.2.1; have a5 := q.1.2.2.2.2; have a6 := q.2; exfalso; omega, fun _ => ⟨rfl, rfl⟩⟩
/-- the rest of a line with the word c, its first number's token at p -/
def rsP (T : List Int) (nt c p : Int) : LR :=
  if c = 0 then (true, p, 0, 0, 0, 0)
  else if c = 5 then nmP T p 0 (nt - 1) (fun a s1 => nmP T s1 0 9 (fun b s2 => (true, s2, 5, a, b, 0)))
  else if c = 6 then nmP T p 0 (nt - 1) (fun a s1 => if okN T s1 0 (nt - 1) ∧ vl T s1 ≠ a then (true, nx T s1, 6, a, vl T s1, 0) else lfail s1)
  else if c = 7 then nmP T p 0 99 (fun a s1 => (true, s1, 7, a, 0, 0))
  else nmP T p 0 99 (fun a s1 => nmP T s1 0 50 (fun b s2 => nmP T s2 1 99 (fun e s3 => (true, s3, c, a, b, e))))
/-- the numbers of a line are laid at place rm -/
def liM' (w : Wd) (rm : Int) (x : Li) : Prop := (x.1 ≠ 0 → w 75 (4 * rm + 1) = x.2.1) ∧ (x.1 ≠ 0 ∧ x.1 ≠ 7 → w 75 (4 * rm + 2) = x.2.2.1) ∧ (1 ≤ x.1 ∧ x.1 ≤ 4 → w 75 (4 * rm + 3) = x.2.2.2)
def frRs (rm : Int) (w w' : Wd) : Prop := ∀ (k : Nat) (j : Int), (k ≠ 71 ∨ (j ≠ 14 ∧ j ≠ 15 ∧ j ≠ 16)) → (k ≠ 75 ∨ j < 4 * rm + 1 ∨ 4 * rm + 3 < j) → w' k j = w k j
def rmR (T : List Int) (r : LR) (rm : Int) (w w' : Wd) (z : Int) : Prop := z = (if r.1 = true then 1 else 0) ∧ tkM w' T r.2.1 ∧ (r.1 = true → liM' w' rm r.2.2) ∧ frRs rm w w'
theorem rm_fail {T : List Int} {s rm : Int} {w w' : Wd} (hk : tkM w' T s) (hf : frRs rm w w') : rmR T (lfail s) rm w w' 0 := ⟨rfl, hk, (fun q => nomatch q), hf⟩
set_option maxRecDepth 100000 in
set_option maxHeartbeats 4000000 in
theorem l_X5_readsRest (G : Gb) (l : Launch) {w : Wd} {T : List Int} (hT : TM w T) {p : Int} (hk : tkM w T p) (hm : 0 ≤ w 71 5 ∧ w 71 5 < 12) (ht : 0 ≤ w 71 17 ∧ w 71 17 ≤ 6) {c : Int} {Post : Int → Wd → Prop} (hp : ∀ z w', rmR T (nmP T p 0 99 (fun a s1 => nmP T s1 0 50 (fun b s2 => nmP T s2 1 99 (fun e s3 => (true, s3, c, a, b, e))))) (w 71 5) w w' z → Post z w') : V G l mX5_readsRest (Qi G Post) 137 [some (.ref (gA G 71)), some (.int (iZ c)), some (.int (iZ (w 71 17 - 1)))] [] w := by
  have kn : inR (w 71 17 - 1) := by omega
  refine V_aload_n dX5_readsRest_137 rfl ?_
  refine V_iconst dX5_readsRest_138 ?_
  refine V_iconst dX5_readsRest_139 ?_
  refine V_bipush dX5_readsRest_140 rfl ?_
  refine V_iconst dX5_readsRest_142 ?_
  refine V_iV4 dX5_readsRest_143 o_X5_readsRest_96 s_71 rfl (Nat.le_of_ble_eq_true rfl) (c_X5_reads G l hT hk hm (k := 0) (lo := 0) (hi := 99) (un := (-1)) (by omega) (by omega) (by omega) (by omega)) ?_
  rintro z1 w1 ⟨y1, n1⟩
  have rz1 : z1 = 0 ∨ z1 = 1 := by
    by_cases q9 : okN T p 0 99 ∧ vl T p ≠ (-1)
    · exact Or.inr (y1 q9).1
    · exact Or.inl (n1 q9).1
  refine V_if_eq (tgt := 177) dX5_readsRest_146 (by decide) (by omega) (fun h146 => ?_) (fun h146 => ?_)
  · have b1 : ¬ (okN T p 0 99 ∧ vl T p ≠ (-1)) := fun q9 => by have := (y1 q9).1; omega
    obtain ⟨_, rfl⟩ := n1 b1
    have rr : rmR T (nmP T p 0 99 (fun a s1 => nmP T s1 0 50 (fun b s2 => nmP T s2 1 99 (fun e s3 => (true, s3, c, a, b, e))))) (w 71 5) w w 0 := by rw [nmP_n (fun q9 => b1 ⟨q9, by have a4 := q9.2.2.2.1; omega⟩)]; exact rm_fail hk (fun _ _ _ _ => rfl)
    refine V_iconst dX5_readsRest_177 ?_
    exact V_zret dX5_readsRest_178 rfl (by omega) (hp _ _ rr)
  · have b1 : okN T p 0 99 ∧ vl T p ≠ (-1) := by
      by_cases q9 : okN T p 0 99 ∧ vl T p ≠ (-1)
      · exact q9
      · have := (n1 q9).1; omega
    obtain ⟨_, t1, v1, f1⟩ := y1 b1
    have hT1 := f1.tm hT
    have e1 : w1 71 5 = w 71 5 := (f1 _ _ (by omega) (by omega))
    have hm1 : 0 ≤ w1 71 5 ∧ w1 71 5 < 12 := by omega
    refine V_aload_n dX5_readsRest_149 rfl ?_
    refine V_iconst dX5_readsRest_150 ?_
    refine V_iconst dX5_readsRest_151 ?_
    refine V_bipush dX5_readsRest_152 rfl ?_
    refine V_iconst dX5_readsRest_154 ?_
    refine V_iV4 dX5_readsRest_155 o_X5_readsRest_96 s_71 rfl (Nat.le_of_ble_eq_true rfl) (c_X5_reads G l hT1 t1 hm1 (k := 1) (lo := 0) (hi := 50) (un := (-1)) (by omega) (by omega) (by omega) (by omega)) ?_
    rintro z2 w2 ⟨y2, n2⟩
    have rz2 : z2 = 0 ∨ z2 = 1 := by
      by_cases q9 : okN T (nx T p) 0 50 ∧ vl T (nx T p) ≠ (-1)
      · exact Or.inr (y2 q9).1
      · exact Or.inl (n2 q9).1
    refine V_if_eq (tgt := 177) dX5_readsRest_158 (by decide) (by omega) (fun h158 => ?_) (fun h158 => ?_)
    · have b2 : ¬ (okN T (nx T p) 0 50 ∧ vl T (nx T p) ≠ (-1)) := fun q9 => by have := (y2 q9).1; omega
      obtain ⟨_, rfl⟩ := n2 b2
      have rr : rmR T (nmP T p 0 99 (fun a s1 => nmP T s1 0 50 (fun b s2 => nmP T s2 1 99 (fun e s3 => (true, s3, c, a, b, e))))) (w 71 5) w w1 0 := by rw [nmP_y b1.1, nmP_n (fun q9 => b2 ⟨q9, by have a4 := q9.2.2.2.1; omega⟩)]; exact rm_fail t1 (fun k j q1 q2 => f1 k j q1 (by omega))
      refine V_iconst dX5_readsRest_177 ?_
      exact V_zret dX5_readsRest_178 rfl (by omega) (hp _ _ rr)
    · have b2 : okN T (nx T p) 0 50 ∧ vl T (nx T p) ≠ (-1) := by
        by_cases q9 : okN T (nx T p) 0 50 ∧ vl T (nx T p) ≠ (-1)
        · exact q9
        · have := (n2 q9).1; omega
      obtain ⟨_, t2, v2, f2⟩ := y2 b2
      have hT2 := f2.tm hT1
      have e2 : w2 71 5 = w 71 5 := (f2 _ _ (by omega) (by omega)).trans e1
      have hm2 : 0 ≤ w2 71 5 ∧ w2 71 5 < 12 := by omega
      refine V_aload_n dX5_readsRest_161 rfl ?_
      refine V_iconst dX5_readsRest_162 ?_
      refine V_iconst dX5_readsRest_163 ?_
      refine V_bipush dX5_readsRest_164 rfl ?_
      refine V_iconst dX5_readsRest_166 ?_
      refine V_iV4 dX5_readsRest_167 o_X5_readsRest_96 s_71 rfl (Nat.le_of_ble_eq_true rfl) (c_X5_reads G l hT2 t2 hm2 (k := 2) (lo := 1) (hi := 99) (un := (-1)) (by omega) (by omega) (by omega) (by omega)) ?_
      rintro z3 w3 ⟨y3, n3⟩
      have rz3 : z3 = 0 ∨ z3 = 1 := by
        by_cases q9 : okN T (nx T (nx T p)) 1 99 ∧ vl T (nx T (nx T p)) ≠ (-1)
        · exact Or.inr (y3 q9).1
        · exact Or.inl (n3 q9).1
      refine V_if_eq (tgt := 177) dX5_readsRest_170 (by decide) (by omega) (fun h170 => ?_) (fun h170 => ?_)
      · have b3 : ¬ (okN T (nx T (nx T p)) 1 99 ∧ vl T (nx T (nx T p)) ≠ (-1)) := fun q9 => by have := (y3 q9).1; omega
        obtain ⟨_, rfl⟩ := n3 b3
        have rr : rmR T (nmP T p 0 99 (fun a s1 => nmP T s1 0 50 (fun b s2 => nmP T s2 1 99 (fun e s3 => (true, s3, c, a, b, e))))) (w 71 5) w w2 0 := by rw [nmP_y b1.1, nmP_y b2.1, nmP_n (fun q9 => b3 ⟨q9, by have a4 := q9.2.2.2.1; omega⟩)]; exact rm_fail t2 (fun k j q1 q2 => (f2 k j q1 (by omega)).trans (f1 k j q1 (by omega)))
        refine V_iconst dX5_readsRest_177 ?_
        exact V_zret dX5_readsRest_178 rfl (by omega) (hp _ _ rr)
      · have b3 : okN T (nx T (nx T p)) 1 99 ∧ vl T (nx T (nx T p)) ≠ (-1) := by
          by_cases q9 : okN T (nx T (nx T p)) 1 99 ∧ vl T (nx T (nx T p)) ≠ (-1)
          · exact q9
          · have := (n3 q9).1; omega
        obtain ⟨_, t3, v3, f3⟩ := y3 b3
        have hT3 := f3.tm hT2
        have e3 : w3 71 5 = w 71 5 := (f3 _ _ (by omega) (by omega)).trans e2
        have hm3 : 0 ≤ w3 71 5 ∧ w3 71 5 < 12 := by omega
        have rr : rmR T (nmP T p 0 99 (fun a s1 => nmP T s1 0 50 (fun b s2 => nmP T s2 1 99 (fun e s3 => (true, s3, c, a, b, e))))) (w 71 5) w w3 1 := by
          rw [nmP_y b1.1, nmP_y b2.1, nmP_y b3.1]
          exact ⟨rfl, t3, fun _ => ⟨fun _ => by rw [f3 _ _ (by omega) (by omega), f2 _ _ (by omega) (by omega), show 4 * w 71 5 + 1 = 4 * w 71 5 + 1 + 0 by omega]; exact v1, fun _ => by rw [f3 _ _ (by omega) (by omega), show 4 * w 71 5 + 2 = 4 * w1 71 5 + 1 + 1 by omega]; exact v2, fun _ => by rw [show 4 * w 71 5 + 3 = 4 * w2 71 5 + 1 + 2 by omega]; exact v3⟩, (fun k j q1 q2 => (f3 k j q1 (by omega)).trans ((f2 k j q1 (by omega)).trans (f1 k j q1 (by omega))))⟩
        refine V_iconst dX5_readsRest_173 ?_
        refine V_goto (tgt := 178) dX5_readsRest_174 (by decide) ?_
        exact V_zret dX5_readsRest_178 rfl (by omega) (hp _ _ rr)
set_option maxRecDepth 100000 in
set_option maxHeartbeats 4000000 in
theorem c_X5_readsRest (G : Gb) (l : Launch) {w : Wd} {T : List Int} (hT : TM w T) {p : Int} (hk : tkM w T p) (hm : 0 ≤ w 71 5 ∧ w 71 5 < 12) (ht : 0 ≤ w 71 17 ∧ w 71 17 ≤ 6) {c : Int} (hc : 0 ≤ c ∧ c ≤ 7) : Ci G l yX5_readsRest mX5_readsRest [.ref (gA G 71), .int (iZ c)] w (fun z w' => rmR T (rsP T (w 71 17) c p) (w 71 5) w w' z) := by
  refine V_start 1 (by decide) rfl rfl (Nat.le_of_ble_eq_true rfl) ?_
  show V G l mX5_readsRest _ 0 [some (.ref (gA G 71)), some (.int (iZ c)), none] [] w
  have kn : inR (w 71 17 - 1) := by omega
  refine V_aload_n dX5_readsRest_0 rfl ?_
  refine V_getI (ci := 5) (j := 17) (ji := 17) dX5_readsRest_1 s_71 rfl rfl i_X5_readsRest_X5 (by decide) f_X5_readsRest_93 rfl ?_
  refine V_iconst dX5_readsRest_4 ?_
  refine V_isub dX5_readsRest_5 ?_
  refine V_istore_n dX5_readsRest_6 (by decide) rfl ?_
  refine V_iload_n dX5_readsRest_7 rfl ?_
  rcases (show c = 0 ∨ c = 1 ∨ c = 2 ∨ c = 3 ∨ c = 4 ∨ c = 5 ∨ c = 6 ∨ c = 7 by omega) with h8 | h8 | h8 | h8 | h8 | h8 | h8 | h8
  · refine V_tswI (v := 0) (off := 48) (tgt := 56) dX5_readsRest_8 h8 (by decide) rfl (by decide) ?_
    refine V_iconst dX5_readsRest_56 ?_
    exact V_zret dX5_readsRest_57 rfl (by omega) (by rw [rsP, if_pos h8]; exact ⟨rfl, hk, fun _ => ⟨fun q9 => absurd rfl q9, fun q9 => absurd rfl q9.1, fun q9 => by dsimp only at q9; omega⟩, fun _ _ _ _ => rfl⟩)
  · refine V_tswI (v := 1) (off := 129) (tgt := 137) dX5_readsRest_8 h8 (by decide) rfl (by decide) ?_
    exact l_X5_readsRest G l hT hk hm ht (fun z w' q => by rw [rsP, if_neg (by omega), if_neg (by omega), if_neg (by omega), if_neg (by omega)]; exact q)
  · refine V_tswI (v := 2) (off := 129) (tgt := 137) dX5_readsRest_8 h8 (by decide) rfl (by decide) ?_
    exact l_X5_readsRest G l hT hk hm ht (fun z w' q => by rw [rsP, if_neg (by omega), if_neg (by omega), if_neg (by omega), if_neg (by omega)]; exact q)
  · refine V_tswI (v := 3) (off := 129) (tgt := 137) dX5_readsRest_8 h8 (by decide) rfl (by decide) ?_
    exact l_X5_readsRest G l hT hk hm ht (fun z w' q => by rw [rsP, if_neg (by omega), if_neg (by omega), if_neg (by omega), if_neg (by omega)]; exact q)
  · refine V_tswI (v := 4) (off := 129) (tgt := 137) dX5_readsRest_8 h8 (by decide) rfl (by decide) ?_
    exact l_X5_readsRest G l hT hk hm ht (fun z w' q => by rw [rsP, if_neg (by omega), if_neg (by omega), if_neg (by omega), if_neg (by omega)]; exact q)
  · refine V_tswI (v := 5) (off := 50) (tgt := 58) dX5_readsRest_8 h8 (by decide) rfl (by decide) ?_
    refine V_aload_n dX5_readsRest_58 rfl ?_
    refine V_iconst dX5_readsRest_59 ?_
    refine V_iconst dX5_readsRest_60 ?_
    refine V_iload_n dX5_readsRest_61 rfl ?_
    refine V_iconst dX5_readsRest_62 ?_
    refine V_iV4 dX5_readsRest_63 o_X5_readsRest_96 s_71 rfl (Nat.le_of_ble_eq_true rfl) (c_X5_reads G l hT hk hm (k := 0) (lo := 0) (hi := (w 71 17 - 1)) (un := (-1)) (by omega) (by omega) (by omega) (by omega)) ?_
    rintro z1 w1 ⟨y1, n1⟩
    have rz1 : z1 = 0 ∨ z1 = 1 := by
      by_cases q9 : okN T p 0 (w 71 17 - 1) ∧ vl T p ≠ (-1)
      · exact Or.inr (y1 q9).1
      · exact Or.inl (n1 q9).1
    refine V_if_eq (tgt := 85) dX5_readsRest_66 (by decide) (by omega) (fun h66 => ?_) (fun h66 => ?_)
    · have b1 : ¬ (okN T p 0 (w 71 17 - 1) ∧ vl T p ≠ (-1)) := fun q9 => by have := (y1 q9).1; omega
      obtain ⟨_, rfl⟩ := n1 b1
      have rr : rmR T (rsP T (w 71 17) c p) (w 71 5) w w 0 := by
        rw [rsP, if_neg (by omega), if_pos h8, nmP_n (fun q9 => b1 ⟨q9, by have a4 := q9.2.2.2.1; omega⟩)]
        exact rm_fail hk (fun _ _ _ _ => rfl)
      refine V_iconst dX5_readsRest_85 ?_
      exact V_zret dX5_readsRest_86 rfl (by omega) rr
    · have b1 : okN T p 0 (w 71 17 - 1) ∧ vl T p ≠ (-1) := by
        by_cases q9 : okN T p 0 (w 71 17 - 1) ∧ vl T p ≠ (-1)
        · exact q9
        · have := (n1 q9).1; omega
      obtain ⟨_, t1, v1, f1⟩ := y1 b1
      have hT1 := f1.tm hT
      have e1 : w1 71 5 = w 71 5 := (f1 _ _ (by omega) (by omega))
      have hm1 : 0 ≤ w1 71 5 ∧ w1 71 5 < 12 := by omega
      refine V_aload_n dX5_readsRest_69 rfl ?_
      refine V_iconst dX5_readsRest_70 ?_
      refine V_iconst dX5_readsRest_71 ?_
      refine V_bipush dX5_readsRest_72 rfl ?_
      refine V_iconst dX5_readsRest_74 ?_
      refine V_iV4 dX5_readsRest_75 o_X5_readsRest_96 s_71 rfl (Nat.le_of_ble_eq_true rfl) (c_X5_reads G l hT1 t1 hm1 (k := 1) (lo := 0) (hi := 9) (un := (-1)) (by omega) (by omega) (by omega) (by omega)) ?_
      rintro z2 w2 ⟨y2, n2⟩
      have rz2 : z2 = 0 ∨ z2 = 1 := by
        by_cases q9 : okN T (nx T p) 0 9 ∧ vl T (nx T p) ≠ (-1)
        · exact Or.inr (y2 q9).1
        · exact Or.inl (n2 q9).1
      refine V_if_eq (tgt := 85) dX5_readsRest_78 (by decide) (by omega) (fun h78 => ?_) (fun h78 => ?_)
      · have b2 : ¬ (okN T (nx T p) 0 9 ∧ vl T (nx T p) ≠ (-1)) := fun q9 => by have := (y2 q9).1; omega
        obtain ⟨_, rfl⟩ := n2 b2
        have rr : rmR T (rsP T (w 71 17) c p) (w 71 5) w w1 0 := by
          rw [rsP, if_neg (by omega), if_pos h8, nmP_y b1.1, nmP_n (fun q9 => b2 ⟨q9, by have a4 := q9.2.2.2.1; omega⟩)]
          exact rm_fail t1 (fun k j q1 q2 => f1 k j q1 (by omega))
        refine V_iconst dX5_readsRest_85 ?_
        exact V_zret dX5_readsRest_86 rfl (by omega) rr
      · have b2 : okN T (nx T p) 0 9 ∧ vl T (nx T p) ≠ (-1) := by
          by_cases q9 : okN T (nx T p) 0 9 ∧ vl T (nx T p) ≠ (-1)
          · exact q9
          · have := (n2 q9).1; omega
        obtain ⟨_, t2, v2, f2⟩ := y2 b2
        have hT2 := f2.tm hT1
        have e2 : w2 71 5 = w 71 5 := (f2 _ _ (by omega) (by omega)).trans e1
        have hm2 : 0 ≤ w2 71 5 ∧ w2 71 5 < 12 := by omega
        have rr : rmR T (rsP T (w 71 17) c p) (w 71 5) w w2 1 := by
          rw [rsP, if_neg (by omega), if_pos h8, nmP_y b1.1, nmP_y b2.1]
          exact ⟨rfl, t2, fun _ => ⟨fun _ => by rw [f2 _ _ (by omega) (by omega), show 4 * w 71 5 + 1 = 4 * w 71 5 + 1 + 0 by omega]; exact v1, fun _ => by rw [show 4 * w 71 5 + 2 = 4 * w1 71 5 + 1 + 1 by omega]; exact v2, fun q9 => by dsimp only at q9; omega⟩, (fun k j q1 q2 => (f2 k j q1 (by omega)).trans (f1 k j q1 (by omega)))⟩
        refine V_iconst dX5_readsRest_81 ?_
        refine V_goto (tgt := 86) dX5_readsRest_82 (by decide) ?_
        exact V_zret dX5_readsRest_86 rfl (by omega) rr
  · refine V_tswI (v := 6) (off := 79) (tgt := 87) dX5_readsRest_8 h8 (by decide) rfl (by decide) ?_
    refine V_aload_n dX5_readsRest_87 rfl ?_
    refine V_iconst dX5_readsRest_88 ?_
    refine V_iconst dX5_readsRest_89 ?_
    refine V_iload_n dX5_readsRest_90 rfl ?_
    refine V_iconst dX5_readsRest_91 ?_
    refine V_iV4 dX5_readsRest_92 o_X5_readsRest_96 s_71 rfl (Nat.le_of_ble_eq_true rfl) (c_X5_reads G l hT hk hm (k := 0) (lo := 0) (hi := (w 71 17 - 1)) (un := (-1)) (by omega) (by omega) (by omega) (by omega)) ?_
    rintro z1 w1 ⟨y1, n1⟩
    have rz1 : z1 = 0 ∨ z1 = 1 := by
      by_cases q9 : okN T p 0 (w 71 17 - 1) ∧ vl T p ≠ (-1)
      · exact Or.inr (y1 q9).1
      · exact Or.inl (n1 q9).1
    refine V_if_eq (tgt := 125) dX5_readsRest_95 (by decide) (by omega) (fun h95 => ?_) (fun h95 => ?_)
    · have b1 : ¬ (okN T p 0 (w 71 17 - 1) ∧ vl T p ≠ (-1)) := fun q9 => by have := (y1 q9).1; omega
      obtain ⟨_, rfl⟩ := n1 b1
      have rr : rmR T (rsP T (w 71 17) c p) (w 71 5) w w 0 := by
        rw [rsP, if_neg (by omega), if_neg (by omega), if_pos h8, nmP_n (fun q9 => b1 ⟨q9, by have a4 := q9.2.2.2.1; omega⟩)]
        exact rm_fail hk (fun _ _ _ _ => rfl)
      refine V_iconst dX5_readsRest_125 ?_
      exact V_zret dX5_readsRest_126 rfl (by omega) rr
    · have b1 : okN T p 0 (w 71 17 - 1) ∧ vl T p ≠ (-1) := by
        by_cases q9 : okN T p 0 (w 71 17 - 1) ∧ vl T p ≠ (-1)
        · exact q9
        · have := (n1 q9).1; omega
      obtain ⟨_, t1, v1, f1⟩ := y1 b1
      have hT1 := f1.tm hT
      have e1 : w1 71 5 = w 71 5 := (f1 _ _ (by omega) (by omega))
      have hm1 : 0 ≤ w1 71 5 ∧ w1 71 5 < 12 := by omega
      have vb1 := vl_bd (T := T) (s := p) hk.1.1 b1.1.1 b1.1.2.1 b1.1.2.2.1
      refine V_aload_n dX5_readsRest_98 rfl ?_
      refine V_iconst dX5_readsRest_99 ?_
      refine V_iconst dX5_readsRest_100 ?_
      refine V_iload_n dX5_readsRest_101 rfl ?_
      refine V_aload_n dX5_readsRest_102 rfl ?_
      refine V_getR (ci := 5) (j := 4) dX5_readsRest_103 s_71 rfl rfl i_X5_readsRest_X5 (by decide) f_X5_readsRest_20 ?_
      refine V_iconst dX5_readsRest_106 ?_
      refine V_aload_n dX5_readsRest_107 rfl ?_
      refine V_getI (ci := 5) (j := 5) (ji := 5) dX5_readsRest_108 s_71 rfl rfl i_X5_readsRest_X5 (by decide) f_X5_readsRest_87 rfl ?_
      refine V_imul dX5_readsRest_111 ?_
      refine V_iconst dX5_readsRest_112 ?_
      refine V_iadd dX5_readsRest_113 ?_
      refine V_ialdE (z := vl T p) dX5_readsRest_114 s_75 (by show 0 ≤ _ ∧ _ < (48 : Int); omega) (by rw [show 4 * w1 71 5 + 1 = 4 * w 71 5 + 1 + 0 by omega]; exact v1) ?_
      refine V_iV4 dX5_readsRest_115 o_X5_readsRest_96 s_71 rfl (Nat.le_of_ble_eq_true rfl) (c_X5_reads G l hT1 t1 hm1 (k := 1) (lo := 0) (hi := (w 71 17 - 1)) (un := (vl T p)) (by omega) (by omega) (by omega) (by omega)) ?_
      rintro z2 w2 ⟨y2, n2⟩
      have rz2 : z2 = 0 ∨ z2 = 1 := by
        by_cases q9 : okN T (nx T p) 0 (w 71 17 - 1) ∧ vl T (nx T p) ≠ (vl T p)
        · exact Or.inr (y2 q9).1
        · exact Or.inl (n2 q9).1
      refine V_if_eq (tgt := 125) dX5_readsRest_118 (by decide) (by omega) (fun h118 => ?_) (fun h118 => ?_)
      · have b2 : ¬ (okN T (nx T p) 0 (w 71 17 - 1) ∧ vl T (nx T p) ≠ (vl T p)) := fun q9 => by have := (y2 q9).1; omega
        obtain ⟨_, rfl⟩ := n2 b2
        have rr : rmR T (rsP T (w 71 17) c p) (w 71 5) w w1 0 := by
          rw [rsP, if_neg (by omega), if_neg (by omega), if_pos h8, nmP_y b1.1, if_neg b2]
          exact rm_fail t1 (fun k j q1 q2 => f1 k j q1 (by omega))
        refine V_iconst dX5_readsRest_125 ?_
        exact V_zret dX5_readsRest_126 rfl (by omega) rr
      · have b2 : okN T (nx T p) 0 (w 71 17 - 1) ∧ vl T (nx T p) ≠ (vl T p) := by
          by_cases q9 : okN T (nx T p) 0 (w 71 17 - 1) ∧ vl T (nx T p) ≠ (vl T p)
          · exact q9
          · have := (n2 q9).1; omega
        obtain ⟨_, t2, v2, f2⟩ := y2 b2
        have hT2 := f2.tm hT1
        have e2 : w2 71 5 = w 71 5 := (f2 _ _ (by omega) (by omega)).trans e1
        have hm2 : 0 ≤ w2 71 5 ∧ w2 71 5 < 12 := by omega
        have rr : rmR T (rsP T (w 71 17) c p) (w 71 5) w w2 1 := by
          rw [rsP, if_neg (by omega), if_neg (by omega), if_pos h8, nmP_y b1.1, if_pos b2]
          exact ⟨rfl, t2, fun _ => ⟨fun _ => by rw [f2 _ _ (by omega) (by omega), show 4 * w 71 5 + 1 = 4 * w 71 5 + 1 + 0 by omega]; exact v1, fun _ => by rw [show 4 * w 71 5 + 2 = 4 * w1 71 5 + 1 + 1 by omega]; exact v2, fun q9 => by dsimp only at q9; omega⟩, (fun k j q1 q2 => (f2 k j q1 (by omega)).trans (f1 k j q1 (by omega)))⟩
        refine V_iconst dX5_readsRest_121 ?_
        refine V_goto (tgt := 126) dX5_readsRest_122 (by decide) ?_
        exact V_zret dX5_readsRest_126 rfl (by omega) rr
  · refine V_tswI (v := 7) (off := 119) (tgt := 127) dX5_readsRest_8 h8 (by decide) rfl (by decide) ?_
    refine V_aload_n dX5_readsRest_127 rfl ?_
    refine V_iconst dX5_readsRest_128 ?_
    refine V_iconst dX5_readsRest_129 ?_
    refine V_bipush dX5_readsRest_130 rfl ?_
    refine V_iconst dX5_readsRest_132 ?_
    refine V_iV4 dX5_readsRest_133 o_X5_readsRest_96 s_71 rfl (Nat.le_of_ble_eq_true rfl) (c_X5_reads G l hT hk hm (k := 0) (lo := 0) (hi := 99) (un := (-1)) (by omega) (by omega) (by omega) (by omega)) ?_
    rintro z1 w1 ⟨y1, n1⟩
    have rz1 : z1 = 0 ∨ z1 = 1 := by
      by_cases q9 : okN T p 0 99 ∧ vl T p ≠ (-1)
      · exact Or.inr (y1 q9).1
      · exact Or.inl (n1 q9).1
    have rr : rmR T (rsP T (w 71 17) c p) (w 71 5) w w1 z1 := by
      by_cases q9 : okN T p 0 99 ∧ vl T p ≠ (-1)
      · obtain ⟨a1, t1, v1, f1⟩ := y1 q9
        rw [rsP, if_neg (by omega), if_neg (by omega), if_neg (by omega), if_pos h8, nmP_y q9.1, a1]
        exact ⟨rfl, t1, fun _ => ⟨fun _ => by rw [show 4 * w 71 5 + 1 = 4 * w 71 5 + 1 + 0 by omega]; exact v1, fun q9 => absurd rfl q9.2, fun q9 => by dsimp only at q9; omega⟩, (fun k j q1 q2 => f1 k j q1 (by omega))⟩
      · obtain ⟨a1, rfl⟩ := n1 q9
        rw [rsP, if_neg (by omega), if_neg (by omega), if_neg (by omega), if_pos h8, nmP_n (fun q8 => q9 ⟨q8, by have a4 := q8.2.2.2.1; omega⟩), a1]
        exact rm_fail hk (fun _ _ _ _ => rfl)
    exact V_zret dX5_readsRest_136 rfl (by omega) rr

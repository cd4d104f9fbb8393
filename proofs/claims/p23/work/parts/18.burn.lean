/-! ===== 18 State: begin, burn, hand over ===== -/
/-- branches as told from place i on, fates 0 -/
def bgW (w : Wd) (b d : Nat) (i : Int) : Wd := fun k j => if k = b + 1 ∧ i ≤ j ∧ j < 6 then w (d + 2) j else if k = b + 2 ∧ i ≤ j ∧ j < 6 then 0 else w k j
theorem bgW_end {w : Wd} {b d : Nat} : bgW w b d 6 = w := by
  funext k j
  unfold bgW
  rw [if_neg (by omega), if_neg (by omega)]
theorem bgW_step {w : Wd} {b d : Nat} {i : Int} (hb : IsSt b) (hd : IsTd d) (h : i < 6) : bgW (up (up w (b + 1) i (w (d + 2) i)) (b + 2) i 0) b d (i + 1) = bgW w b d i := by
  funext k j
  unfold bgW
  rw [up_ne (k' := d + 2) (by omega), up_ne (k' := d + 2) (by omega)]
  by_cases hj : j = i
  · subst hj
    rw [if_neg (by omega), if_neg (by omega)]
    by_cases h1 : k = b + 1
    · subst h1
      rw [if_pos (by omega), up_ne (by omega), up_eq]
    · by_cases h2 : k = b + 2
      · subst h2
        rw [if_neg (by omega), if_pos (by omega), up_eq]
      · rw [if_neg (by omega), if_neg (by omega), up_ne (by omega), up_ne (by omega)]
  · rw [up_ne (k' := k) (j' := j) (by omega), up_ne (k' := k) (j' := j) (by omega)]
    by_cases h1 : k = b + 1 ∧ i + 1 ≤ j ∧ j < 6
    · rw [if_pos h1, if_pos (by omega)]
    · rw [if_neg h1]
      by_cases h2 : k = b + 2 ∧ i + 1 ≤ j ∧ j < 6
      · rw [if_pos h2, if_neg (by omega), if_pos (by omega)]
      · rw [if_neg h2, if_neg (by omega), if_neg (by omega)]
def bgS (w : Wd) (b d : Nat) : Wd := bgW (up (up (up w b 0 0) b 3 0) b 9 0) b d 0
theorem bgS_ok {w : Wd} {b d : Nat} (hb : IsSt b) (hd : IsTd d) (hT : okT w d) {c : Int} (hc : 0 ≤ c) : okC c (bgS w b d) b ∧ cAS (bgS w b d) b = (0, 0, gl w (d + 2) 0 6, [0, 0, 0, 0, 0, 0], []) ∧ frm b w (bgS w b d) := by
  have g : ∀ (k : Nat) (j : Int), k ≠ b + 1 → k ≠ b + 2 → bgS w b d k j = up (up (up w b 0 0) b 3 0) b 9 0 k j := by
    intro k j h1 h2
    unfold bgS bgW
    rw [if_neg (by omega), if_neg (by omega)]
  have e0 : bgS w b d b 0 = 0 := by rw [g _ _ (by omega) (by omega), up_ne (by omega), up_ne (by omega), up_eq]
  have e3 : bgS w b d b 3 = 0 := by rw [g _ _ (by omega) (by omega), up_ne (by omega), up_eq]
  have e9 : bgS w b d b 9 = 0 := by rw [g _ _ (by omega) (by omega), up_eq]
  have eH : gl (bgS w b d) (b + 1) 0 6 = gl w (d + 2) 0 6 := by
    apply gl_eq
    intro i g0 g1
    unfold bgS bgW
    rw [if_pos (by omega), up_ne (by omega), up_ne (by omega), up_ne (by omega)]
  have eF : gl (bgS w b d) (b + 2) 0 6 = [0, 0, 0, 0, 0, 0] := by
    have h0 : gl (bgS w b d) (b + 2) 0 6 = gl (fun _ _ => 0) 0 0 6 := by
      apply gl_eq
      intro i g0 g1
      unfold bgS bgW
      rw [if_neg (by omega), if_pos (by omega)]
    rw [h0]
    rfl
  have hA : cAS (bgS w b d) b = (0, 0, gl w (d + 2) 0 6, [0, 0, 0, 0, 0, 0], []) := by
    unfold cAS
    rw [e0, e9, eH, eF, cLs_nil (by omega)]
  refine ⟨⟨by omega, ?_⟩, hA, fun k j q => ?_⟩
  · rw [hA]
    refine ⟨⟨by omega, by dsimp only; omega⟩, ⟨by dsimp only; omega, by simpa using hc⟩, ⟨gl_len _ _ _ _, fun x hx => ?_⟩, ⟨rfl, fun x hx => ?_⟩, by simp, fun x hx => by simp at hx⟩
    · obtain ⟨i, h0, h1, rfl⟩ := gl_mem hx
      rw [Int.zero_add]
      exact (hT.2.2.2.1 i h0 h1).2.1
    · simp only [List.mem_cons, List.not_mem_nil, or_false] at hx
      omega
  · rw [g _ _ (by omega) (by omega), up_ne (by omega), up_ne (by omega), up_ne (by omega)]
set_option maxRecDepth 100000 in
set_option maxHeartbeats 4000000 in
theorem l_X1_begin (G : Gb) (l : Launch) {b d : Nat} (hb : IsSt b) (hd : IsTd d) {Post : Wd → Prop} : ∀ (n : Nat) (i : Int) (w : Wd), 0 ≤ i → i + n = 6 → Post (bgW w b d i) → V G l mX1_begin (Qv G Post) 17 [some (.ref (gA G b)), some (.ref (gA G d)), some (.int (iZ i))] [] w := by
  intro n
  induction n with
  | zero =>
    intro i w h0 h1 hp
    have e : i = 6 := by omega
    subst e
    refine V_iload_n dX1_begin_17 rfl ?_
    refine V_bipush dX1_begin_18 rfl ?_
    refine V_icmp_ge (tgt := 48) dX1_begin_20 (by decide) (by omega) (by omega) (fun h20 => ?_) (fun h20 => ?_)
    · exact V_vret dX1_begin_48 rfl (by rw [bgW_end] at hp; exact hp)
    · exact absurd h20 (by omega)
  | succ n ih =>
    intro i w h0 h1 hp
    refine V_iload_n dX1_begin_17 rfl ?_
    refine V_bipush dX1_begin_18 rfl ?_
    refine V_icmp_ge (tgt := 48) dX1_begin_20 (by decide) (by omega) (by omega) (fun h20 => ?_) (fun h20 => ?_)
    · exact absurd h20 (by omega)
    · refine V_aload_n dX1_begin_23 rfl ?_
      refine V_getR (ci := 1) (j := 1) dX1_begin_24 (sSt_0 hb) rfl rfl i_X1_begin_X1 (by decide) f_X1_begin_9 ?_
      refine V_iload_n dX1_begin_27 rfl ?_
      refine V_aload_n dX1_begin_28 rfl ?_
      refine V_getR (ci := 3) (j := 2) dX1_begin_29 (sTd_0 hd) rfl rfl i_X1_begin_X3 (by decide) f_X1_begin_43 ?_
      refine V_iload_n dX1_begin_32 rfl ?_
      refine V_iald dX1_begin_33 (sTd_2 hd) (by omega) ?_
      refine V_iast dX1_begin_34 (sSt_1 hb) (by omega) ?_
      refine V_aload_n dX1_begin_35 rfl ?_
      refine V_getR (ci := 1) (j := 2) dX1_begin_36 (sSt_0 hb) rfl rfl i_X1_begin_X1 (by decide) f_X1_begin_15 ?_
      refine V_iload_n dX1_begin_39 rfl ?_
      refine V_iconst dX1_begin_40 ?_
      refine V_iast dX1_begin_41 (sSt_2 hb) (by omega) ?_
      refine V_iinc dX1_begin_42 rfl (by decide) rfl ?_
      refine V_goto (tgt := 17) dX1_begin_45 (by decide) ?_
      exact ih _ _ (by omega) (by omega) (by rw [bgW_step hb hd (by omega)]; exact hp)
set_option maxRecDepth 100000 in
set_option maxHeartbeats 4000000 in
theorem c_X1_begin (G : Gb) (l : Launch) {w : Wd} {b d : Nat} (hb : IsSt b) (hd : IsTd d) : Cv G l yX1_begin mX1_begin [.ref (gA G b), .ref (gA G d)] w (fun w' => w' = bgS w b d) := by
  refine V_start 1 (by decide) rfl rfl (Nat.le_of_ble_eq_true rfl) ?_
  show V G l mX1_begin _ 0 [some (.ref (gA G b)), some (.ref (gA G d)), none] [] w
  refine V_aload_n dX1_begin_0 rfl ?_
  refine V_iconst dX1_begin_1 ?_
  refine V_putI (ci := 1) (j := 0) (ji := 0) dX1_begin_2 (sSt_0 hb) rfl rfl i_X1_begin_X1 tyX1_ok nmX1 (by decide) f_X1_begin_33 rfl rfl rfl ?_
  refine V_aload_n dX1_begin_5 rfl ?_
  refine V_iconst dX1_begin_6 ?_
  refine V_putI (ci := 1) (j := 3) (ji := 3) dX1_begin_7 (sSt_0 hb) rfl rfl i_X1_begin_X1 tyX1_ok nmX1 (by decide) f_X1_begin_37 rfl rfl rfl ?_
  refine V_aload_n dX1_begin_10 rfl ?_
  refine V_iconst dX1_begin_11 ?_
  refine V_putI (ci := 1) (j := 9) (ji := 9) dX1_begin_12 (sSt_0 hb) rfl rfl i_X1_begin_X1 tyX1_ok nmX1 (by decide) f_X1_begin_40 rfl rfl rfl ?_
  refine V_iconst dX1_begin_15 ?_
  refine V_istore_n dX1_begin_16 (by decide) rfl ?_
  exact l_X1_begin G l hb hd 6 0 _ (by omega) (by omega) rfl
/-- a fire, tree by tree -/
def brS (P : List Int) (part : Int) : Nat → Nat → List Int × List Ln → List Int × List Ln
  | 0, _, s => s
  | n + 1, i, s => if P.getD i 0 = part ∧ s.1.getD i 0 = 0 then brS P part n (i + 1) (s.1.set i 1, s.2.filter (fun x => decide (x.1 ≠ (i : Int)))) else brS P part n (i + 1) s
def brC (P : List Int) (part : Int) : Nat → Nat → List Int × List Ln → Int
  | 0, _, _ => 0
  | n + 1, i, s => if P.getD i 0 = part ∧ s.1.getD i 0 = 0 then 1 + brC P part n (i + 1) (s.1.set i 1, s.2.filter (fun x => decide (x.1 ≠ (i : Int)))) else brC P part n (i + 1) s
/-- the State at b behind a fire, from tree i on -/
def brR (c : Int) (b d : Nat) (part : Int) (n i : Nat) (w w' : Wd) : Prop := okC c w' b ∧ (gl w' (b + 2) 0 6, cLs w' b) = brS (gl w (d + 5) 0 6) part n i (gl w (b + 2) 0 6, cLs w b) ∧ (w' b 0 = w b 0 ∧ w' b 9 = w b 9 ∧ gl w' (b + 1) 0 6 = gl w (b + 1) 0 6) ∧ frm b w w'
/-- fewer loans are sound, too -/
theorem okAS_less {c : Int} {a : AS} (h : okAS c a) {ls : List Ln} {F : List Int} (hs : ls.Sublist a.2.2.2.2) (hF : F.length = 6 ∧ ∀ x ∈ F, 0 ≤ x ∧ x ≤ 2) : okAS c (a.1, a.2.1, a.2.2.1, F, ls) := by
  obtain ⟨h1, h2, h3, h4, h5, h6⟩ := h
  refine ⟨h1, ?_, h3, hF, Nat.le_trans hs.length_le h5, fun x hx => h6 x (hs.subset hx)⟩
  have := hs.countP_le (p := fun x : Ln => decide (x.2.2.2.2 = 0))
  dsimp only
  omega
theorem br_one {c : Int} {b : Nat} {t : Int} {w w2 : Wd} (hb : IsSt b) (ho : okC c w b) (ht : 0 ≤ t ∧ t < 6) (h : roR b t (w b 3).toNat (up w (b + 2) t 1) w2) :
    okC c w2 b ∧ gl w2 (b + 2) 0 6 = (gl w (b + 2) 0 6).set t.toNat 1 ∧ cLs w2 b = (cLs w b).filter (fun x => decide (x.1 ≠ t)) ∧ (w2 b 0 = w b 0 ∧ w2 b 9 = w b 9 ∧ gl w2 (b + 1) 0 6 = gl w (b + 1) 0 6) ∧ frm b w w2 := by
  obtain ⟨h1, h2, h3⟩ := h
  have e1 : cLs (up w (b + 2) t 1) b = cLs w b := by
    apply cLs_eq
    · exact up_ne (by omega)
    · intro k j q1 q2 q3 q4
      exact up_ne (by omega)
  rw [e1, List.take_of_length_le (by rw [cLs_len]; exact Nat.le_refl _), List.drop_eq_nil_of_le (by rw [cLs_len]; exact Nat.le_refl _), List.append_nil] at h2
  have eF : gl w2 (b + 2) 0 6 = (gl w (b + 2) 0 6).set t.toNat 1 := by
    rw [← gl_set ht.1]
    apply gl_eq
    intro i g0 g1
    rw [h3 _ _ (by omega) (by omega), Int.zero_add, Int.zero_add]
  have eH : gl w2 (b + 1) 0 6 = gl w (b + 1) 0 6 := gl_eq (fun i _ _ => by rw [h3 _ _ (by omega) (by omega), up_ne (by omega)])
  have e0 : w2 b 0 = w b 0 := by rw [h3 _ _ (by omega) (by omega), up_ne (by omega)]
  have e9 : w2 b 9 = w b 9 := by rw [h3 _ _ (by omega) (by omega), up_ne (by omega)]
  refine ⟨⟨h1.1, ?_⟩, eF, h2, ⟨e0, e9, eH⟩, fun k j q => by rw [h3 _ _ (by omega) (by omega), up_ne (by omega)]⟩
  unfold cAS
  rw [e0, e9, eH, eF, h2]
  refine okAS_less ho.2 List.filter_sublist ⟨by rw [List.length_set, gl_len], fun x hx => ?_⟩
  rcases List.mem_or_eq_of_mem_set hx with h | h
  · exact ho.2.2.2.2.1.2 x h
  · omega
set_option maxRecDepth 100000 in
set_option maxHeartbeats 4000000 in
theorem l_X1_burn (G : Gb) (l : Launch) {b d : Nat} (hb : IsSt b) (hd : IsTd d) {c p T : Int} (hp0 : inR p) (hT0 : T ≤ 6) {Post : Int → Wd → Prop} : ∀ (n : Nat) (s i : Int) (w : Wd), 0 ≤ i → i + n = T → okC c w b → okT w d → w d 0 = T → (∀ w', brR c b d p n i.toNat w w' → Post (s + brC (gl w (d + 5) 0 6) p n i.toNat (gl w (b + 2) 0 6, cLs w b)) w') → V G l mX1_burn (Qi G Post) 5 [some (.ref (gA G b)), some (.ref (gA G d)), some (.int (iZ p)), some (.int (iZ s)), some (.int (iZ i))] [] w := by
  intro n
  induction n with
  | zero =>
    intro s i w h0 h1 ho hT hw hp
    refine V_iload dX1_burn_5 rfl ?_
    refine V_aload_n dX1_burn_7 rfl ?_
    refine V_getI (ci := 3) (j := 0) (ji := 0) dX1_burn_8 (sTd_0 hd) rfl rfl i_X1_burn_X3 (by decide) f_X1_burn_104 rfl ?_
    refine V_icmp_ge (tgt := 58) dX1_burn_11 (by decide) (by omega) (by omega) (fun h11 => ?_) (fun h11 => ?_)
    · refine V_iload_n dX1_burn_58 rfl ?_
      exact V_iret dX1_burn_59 rfl (by have := hp w ⟨ho, rfl, ⟨rfl, rfl, rfl⟩, fun _ _ _ => rfl⟩; rw [brC, Int.add_zero] at this; exact this)
    · exact absurd h11 (by omega)
  | succ n ih =>
    intro s i w h0 h1 ho hT hw hp
    have k1 := hT.2.2.2.1 i h0 (by omega)
    have k2 := ho.fate h0 (by omega : i < 6)
    refine V_iload dX1_burn_5 rfl ?_
    refine V_aload_n dX1_burn_7 rfl ?_
    refine V_getI (ci := 3) (j := 0) (ji := 0) dX1_burn_8 (sTd_0 hd) rfl rfl i_X1_burn_X3 (by decide) f_X1_burn_104 rfl ?_
    refine V_icmp_ge (tgt := 58) dX1_burn_11 (by decide) (by omega) (by omega) (fun h11 => ?_) (fun h11 => ?_)
    · exact absurd h11 (by omega)
    · refine V_aload_n dX1_burn_14 rfl ?_
      refine V_getR (ci := 3) (j := 5) dX1_burn_15 (sTd_0 hd) rfl rfl i_X1_burn_X3 (by decide) f_X1_burn_107 ?_
      refine V_iload dX1_burn_18 rfl ?_
      refine V_iald dX1_burn_20 (sTd_5 hd) (by omega) ?_
      refine V_iload_n dX1_burn_21 rfl ?_
      refine V_icmp_ne (tgt := 52) dX1_burn_22 (by decide) (by omega) (by omega) (fun h22 => ?_) (fun h22 => ?_)
      · refine V_iinc dX1_burn_52 rfl (by decide) rfl ?_
        refine V_goto (tgt := 5) dX1_burn_55 (by decide) ?_
        first
          | (have hc : ¬ ((gl w (d + 5) 0 6).getD i.toNat 0 = p ∧ (gl w (b + 2) 0 6).getD i.toNat 0 = 0) := by rw [gl_D h0 (by omega), gl_D h0 (by omega), Int.zero_add]; omega
             refine ih _ _ _ (by omega) (by omega) ho hT hw (fun w' h => ?_)
             have hq := hp w' (by obtain ⟨y1, y2, y3, y4⟩ := h; refine ⟨y1, ?_, y3, y4⟩; rw [brS, if_neg hc, y2, show i.toNat + 1 = (i + 1).toNat by omega])
             rw [brC, if_neg hc, show i.toNat + 1 = (i + 1).toNat by omega] at hq
             exact hq)
          | (have hc : (gl w (d + 5) 0 6).getD i.toNat 0 = p ∧ (gl w (b + 2) 0 6).getD i.toNat 0 = 0 := by rw [gl_D h0 (by omega), gl_D h0 (by omega), Int.zero_add]; exact ⟨h22, h32⟩
             have eP : gl w2 (d + 5) 0 6 = gl w (d + 5) 0 6 := gl_eq (fun j _ _ => o5 _ _ (by omega))
             refine ih _ _ _ (by omega) (by omega) o1 (hT.frm hb hd o5) (by rw [o5 _ _ (by omega)]; exact hw) (fun w' h => ?_)
             have hq := hp w' (by obtain ⟨y1, y2, y3, y4⟩ := h; refine ⟨y1, ?_, ⟨y3.1.trans o4.1, y3.2.1.trans o4.2.1, y3.2.2.trans o4.2.2⟩, fun k j q => (y4 k j q).trans (o5 k j q)⟩; rw [brS, if_pos hc, y2, eP, o2, o3, show i.toNat + 1 = (i + 1).toNat by omega, show ((i.toNat : Nat) : Int) = i by omega])
             rw [brC, if_pos hc, show i.toNat + 1 = (i + 1).toNat by omega, show ((i.toNat : Nat) : Int) = i by omega, ← Int.add_assoc] at hq
             rw [eP, o2, o3]
             exact hq)
      · refine V_aload_n dX1_burn_25 rfl ?_
        refine V_getR (ci := 1) (j := 2) dX1_burn_26 (sSt_0 hb) rfl rfl i_X1_burn_X1 (by decide) f_X1_burn_15 ?_
        refine V_iload dX1_burn_29 rfl ?_
        refine V_iald dX1_burn_31 (sSt_2 hb) (by omega) ?_
        refine V_if_ne (tgt := 52) dX1_burn_32 (by decide) (by omega) (fun h32 => ?_) (fun h32 => ?_)
        · refine V_iinc dX1_burn_52 rfl (by decide) rfl ?_
          refine V_goto (tgt := 5) dX1_burn_55 (by decide) ?_
          first
          | (have hc : ¬ ((gl w (d + 5) 0 6).getD i.toNat 0 = p ∧ (gl w (b + 2) 0 6).getD i.toNat 0 = 0) := by rw [gl_D h0 (by omega), gl_D h0 (by omega), Int.zero_add]; omega
             refine ih _ _ _ (by omega) (by omega) ho hT hw (fun w' h => ?_)
             have hq := hp w' (by obtain ⟨y1, y2, y3, y4⟩ := h; refine ⟨y1, ?_, y3, y4⟩; rw [brS, if_neg hc, y2, show i.toNat + 1 = (i + 1).toNat by omega])
             rw [brC, if_neg hc, show i.toNat + 1 = (i + 1).toNat by omega] at hq
             exact hq)
          | (have hc : (gl w (d + 5) 0 6).getD i.toNat 0 = p ∧ (gl w (b + 2) 0 6).getD i.toNat 0 = 0 := by rw [gl_D h0 (by omega), gl_D h0 (by omega), Int.zero_add]; exact ⟨h22, h32⟩
             have eP : gl w2 (d + 5) 0 6 = gl w (d + 5) 0 6 := gl_eq (fun j _ _ => o5 _ _ (by omega))
             refine ih _ _ _ (by omega) (by omega) o1 (hT.frm hb hd o5) (by rw [o5 _ _ (by omega)]; exact hw) (fun w' h => ?_)
             have hq := hp w' (by obtain ⟨y1, y2, y3, y4⟩ := h; refine ⟨y1, ?_, ⟨y3.1.trans o4.1, y3.2.1.trans o4.2.1, y3.2.2.trans o4.2.2⟩, fun k j q => (y4 k j q).trans (o5 k j q)⟩; rw [brS, if_pos hc, y2, eP, o2, o3, show i.toNat + 1 = (i + 1).toNat by omega, show ((i.toNat : Nat) : Int) = i by omega])
             rw [brC, if_pos hc, show i.toNat + 1 = (i + 1).toNat by omega, show ((i.toNat : Nat) : Int) = i by omega, ← Int.add_assoc] at hq
             rw [eP, o2, o3]
             exact hq)
        · refine V_aload_n dX1_burn_35 rfl ?_
          refine V_getR (ci := 1) (j := 2) dX1_burn_36 (sSt_0 hb) rfl rfl i_X1_burn_X1 (by decide) f_X1_burn_15 ?_
          refine V_iload dX1_burn_39 rfl ?_
          refine V_iconst dX1_burn_41 ?_
          refine V_iast dX1_burn_42 (sSt_2 hb) (by omega) ?_
          refine V_aload_n dX1_burn_43 rfl ?_
          refine V_iload dX1_burn_44 rfl ?_
          refine V_vV1 dX1_burn_46 o_X1_burn_110 (sSt_0 hb) rfl (Nat.le_of_ble_eq_true rfl) (c_X1_removeLoansOf G l hb (by omega) (by rw [up_ne (by omega)]; exact ho.n) (fun j g0 g1 => by rw [up_ne (by omega)] at g1 ⊢; have q := ho.ln g0 g1; omega)) ?_
          intro w2 h2
          rw [up_ne (by omega)] at h2
          obtain ⟨o1, o2, o3, o4, o5⟩ := br_one hb ho (by omega) h2
          refine V_iinc dX1_burn_49 rfl (by decide) rfl ?_
          refine V_iinc dX1_burn_52 rfl (by decide) rfl ?_
          refine V_goto (tgt := 5) dX1_burn_55 (by decide) ?_
          first
          | (have hc : ¬ ((gl w (d + 5) 0 6).getD i.toNat 0 = p ∧ (gl w (b + 2) 0 6).getD i.toNat 0 = 0) := by rw [gl_D h0 (by omega), gl_D h0 (by omega), Int.zero_add]; omega
             refine ih _ _ _ (by omega) (by omega) ho hT hw (fun w' h => ?_)
             have hq := hp w' (by obtain ⟨y1, y2, y3, y4⟩ := h; refine ⟨y1, ?_, y3, y4⟩; rw [brS, if_neg hc, y2, show i.toNat + 1 = (i + 1).toNat by omega])
             rw [brC, if_neg hc, show i.toNat + 1 = (i + 1).toNat by omega] at hq
             exact hq)
          | (have hc : (gl w (d + 5) 0 6).getD i.toNat 0 = p ∧ (gl w (b + 2) 0 6).getD i.toNat 0 = 0 := by rw [gl_D h0 (by omega), gl_D h0 (by omega), Int.zero_add]; exact ⟨h22, h32⟩
             have eP : gl w2 (d + 5) 0 6 = gl w (d + 5) 0 6 := gl_eq (fun j _ _ => o5 _ _ (by omega))
             refine ih _ _ _ (by omega) (by omega) o1 (hT.frm hb hd o5) (by rw [o5 _ _ (by omega)]; exact hw) (fun w' h => ?_)
             have hq := hp w' (by obtain ⟨y1, y2, y3, y4⟩ := h; refine ⟨y1, ?_, ⟨y3.1.trans o4.1, y3.2.1.trans o4.2.1, y3.2.2.trans o4.2.2⟩, fun k j q => (y4 k j q).trans (o5 k j q)⟩; rw [brS, if_pos hc, y2, eP, o2, o3, show i.toNat + 1 = (i + 1).toNat by omega, show ((i.toNat : Nat) : Int) = i by omega])
             rw [brC, if_pos hc, show i.toNat + 1 = (i + 1).toNat by omega, show ((i.toNat : Nat) : Int) = i by omega, ← Int.add_assoc] at hq
             rw [eP, o2, o3]
             exact hq)
set_option maxRecDepth 100000 in
set_option maxHeartbeats 4000000 in
theorem c_X1_burn (G : Gb) (l : Launch) {w : Wd} {b d : Nat} (hb : IsSt b) (hd : IsTd d) {c p : Int} (hp0 : inR p) (ho : okC c w b) (hT : okT w d) : Ci G l yX1_burn mX1_burn [.ref (gA G b), .ref (gA G d), .int (iZ p)] w (fun z w' => z = brC (gl w (d + 5) 0 6) p (w d 0).toNat 0 (gl w (b + 2) 0 6, cLs w b) ∧ brR c b d p (w d 0).toNat 0 w w') := by
  refine V_start 2 (by decide) rfl rfl (Nat.le_of_ble_eq_true rfl) ?_
  show V G l mX1_burn _ 0 [some (.ref (gA G b)), some (.ref (gA G d)), some (.int (iZ p)), none, none] [] w
  have k0 := hT.1
  refine V_iconst dX1_burn_0 ?_
  refine V_istore_n dX1_burn_1 (by decide) rfl ?_
  refine V_iconst dX1_burn_2 ?_
  refine V_istore dX1_burn_3 (by decide) rfl ?_
  exact l_X1_burn G l hb hd hp0 k0.2 (w d 0).toNat 0 0 w (by omega) (by omega) ho hT rfl (fun w' h => ⟨by rw [Int.zero_add]; rfl, h⟩)
/-- a loan of tree t is that of tree q -/
def hoL (t q : Int) (x : Ln) : Ln := if x.1 = t then (q, x.2.1, x.2.2.1, x.2.2.2.1, x.2.2.2.2) else x
def hoC (t : Int) : List Ln → Int
  | [] => 0
  | x :: r => (if x.1 = t then 1 else 0) + hoC t r
def hoW (w : Wd) (b : Nat) (t q : Int) (i : Int) : Wd := fun k j => if k = b + 3 ∧ (i ≤ j ∧ j < w b 3) ∧ w (b + 3) j = t then q else w k j
theorem hoW_end {w : Wd} {b : Nat} {t q i : Int} (h : w b 3 ≤ i) : hoW w b t q i = w := by
  funext k j
  unfold hoW
  rw [if_neg (by omega)]
theorem hoW_no {w : Wd} {b : Nat} {t q i : Int} (h : w (b + 3) i ≠ t) : hoW w b t q (i + 1) = hoW w b t q i := by
  funext k j
  unfold hoW
  by_cases hj : j = i
  · subst hj
    rw [if_neg (by omega), if_neg (fun z => h z.2.2)]
  · by_cases hc : k = b + 3 ∧ (i + 1 ≤ j ∧ j < w b 3) ∧ w (b + 3) j = t
    · rw [if_pos hc, if_pos ⟨hc.1, by omega, hc.2.2⟩]
    · rw [if_neg hc, if_neg (fun z => hc ⟨z.1, by omega, z.2.2⟩)]
theorem hoW_yes {w : Wd} {b : Nat} {t q i : Int} (h : w (b + 3) i = t) (hi : i < w b 3) : hoW (up w (b + 3) i q) b t q (i + 1) = hoW w b t q i := by
  funext k j
  unfold hoW
  rw [up_ne (k' := b) (j' := 3) (by omega)]
  by_cases hj : j = i
  · subst hj
    by_cases hk : k = b + 3
    · subst hk
      rw [if_neg (by omega), if_pos ⟨rfl, by omega, h⟩, up_eq]
    · rw [if_neg (by omega), if_neg (by omega), up_ne (by omega)]
  · rw [up_ne (k' := b + 3) (j' := j) (by omega), up_ne (k' := k) (j' := j) (by omega)]
    by_cases hc : k = b + 3 ∧ (i + 1 ≤ j ∧ j < w b 3) ∧ w (b + 3) j = t
    · rw [if_pos hc, if_pos ⟨hc.1, by omega, hc.2.2⟩]
    · rw [if_neg hc, if_neg (fun z => hc ⟨z.1, by omega, z.2.2⟩)]
theorem cLs_ho {w : Wd} {b : Nat} {t q : Int} : cLs (hoW w b t q 0) b = (cLs w b).map (hoL t q) := by
  have g : ∀ (k : Nat) (j : Int), k ≠ b + 3 → hoW w b t q 0 k j = w k j := by
    intro k j h
    unfold hoW
    rw [if_neg (fun z => h z.1)]
  unfold cLs
  rw [g b 3 (by omega), List.map_map]
  apply List.map_congr_left
  intro i hi
  have hi2 := List.mem_range.mp hi
  show cLn (hoW w b t q 0) b i = hoL t q (cLn w b i)
  unfold cLn hoL
  dsimp only
  rw [g (b + 4) _ (by omega), g (b + 5) _ (by omega), g (b + 6) _ (by omega), g (b + 7) _ (by omega)]
  unfold hoW
  by_cases hc : w (b + 3) (i : Int) = t
  · rw [if_pos ⟨rfl, by omega, hc⟩, if_pos hc]
  · rw [if_neg (fun z => hc z.2.2), if_neg hc]
/-- a tree is sold -/
def soS (t q : Int) (a : AS) : AS := (a.1, a.2.1, (a.2.2.1.set q.toNat (min (a.2.2.1.getD q.toNat 0 + a.2.2.1.getD t.toNat 0) 99)).set t.toNat 0, a.2.2.2.1.set t.toNat 2, a.2.2.2.2.map (hoL t q))
def soW (w : Wd) (b : Nat) (t q : Int) : Wd := up (up (up (hoW w b t q 0) (b + 1) q (min (w (b + 1) q + w (b + 1) t) 99)) (b + 1) t 0) (b + 2) t 2
theorem soS_ok {c t q : Int} {a : AS} (h : okAS c a) (ht : 0 ≤ t ∧ t < 6) (hq : 0 ≤ q ∧ q < 6) : okAS c (soS t q a) := by
  obtain ⟨h1, h2, h3, h4, h5, h6⟩ := h
  refine ⟨h1, ?_, ⟨by simpa [soS] using h3.1, fun x hx => ?_⟩, ⟨by simpa [soS] using h4.1, fun x hx => ?_⟩, by simpa [soS] using h5, fun x hx => ?_⟩
  · have e : ∀ r : List Ln, (r.map (hoL t q)).countP (fun x => decide (x.2.2.2.2 = 0)) = r.countP (fun x => decide (x.2.2.2.2 = 0)) := by
      intro r
      induction r with
      | nil => rfl
      | cons y r ih =>
        rw [List.map_cons, List.countP_cons, List.countP_cons, ih]
        have : (hoL t q y).2.2.2.2 = y.2.2.2.2 := by unfold hoL; split <;> rfl
        rw [this]
    show 0 ≤ a.2.1 ∧ a.2.1 + (((a.2.2.2.2.map (hoL t q)).countP (fun x => decide (x.2.2.2.2 = 0)) : Nat) : Int) ≤ c
    rw [e]
    exact h2
  · have m1 := h3.2 _ (getD_mem (L := a.2.2.1) (i := q.toNat) (by have := h3.1; omega))
    have m2 := h3.2 _ (getD_mem (L := a.2.2.1) (i := t.toNat) (by have := h3.1; omega))
    rcases List.mem_or_eq_of_mem_set hx with h | h
    · rcases List.mem_or_eq_of_mem_set h with h | h
      · exact h3.2 x h
      · omega
    · omega
  · rcases List.mem_or_eq_of_mem_set hx with h | h
    · exact h4.2 x h
    · omega
  · obtain ⟨y, hy, rfl⟩ := List.mem_map.mp hx
    have := h6 y hy
    unfold hoL
    split
    · exact ⟨hq, this.2.1, this.2.2.1, this.2.2.2.1, this.2.2.2.2⟩
    · exact this
theorem soW_ok {c t q : Int} {w : Wd} {b : Nat} (ho : okC c w b) (ht : 0 ≤ t ∧ t < 6) (hq : 0 ≤ q ∧ q < 6) (hne : t ≠ q) : okC c (soW w b t q) b ∧ cAS (soW w b t q) b = soS t q (cAS w b) ∧ frm b w (soW w b t q) := by
  have g : ∀ (k : Nat) (j : Int), k ≠ b + 3 → hoW w b t q 0 k j = w k j := by
    intro k j h
    unfold hoW
    rw [if_neg (fun z => h z.1)]
  have eL : cLs (soW w b t q) b = (cLs w b).map (hoL t q) := by
    rw [← cLs_ho]
    apply cLs_eq
    · unfold soW; rw [up_ne (by omega), up_ne (by omega), up_ne (by omega)]
    · intro k j q1 q2 q3 q4
      unfold soW; rw [up_ne (by omega), up_ne (by omega), up_ne (by omega)]
  have eH : gl (soW w b t q) (b + 1) 0 6 = ((gl w (b + 1) 0 6).set q.toNat (min (w (b + 1) q + w (b + 1) t) 99)).set t.toNat 0 := by
    rw [← gl_set hq.1, ← gl_set ht.1]
    apply gl_eq
    intro i g0 g1
    unfold soW
    rw [up_ne (by omega), Int.zero_add, Int.zero_add, Int.zero_add]
    unfold up
    rw [g _ _ (by omega)]
  have eF : gl (soW w b t q) (b + 2) 0 6 = (gl w (b + 2) 0 6).set t.toNat 2 := by
    rw [← gl_set ht.1]
    apply gl_eq
    intro i g0 g1
    unfold soW
    rw [Int.zero_add, Int.zero_add]
    unfold up
    rw [g _ _ (by omega)]
    by_cases e : i = t
    · rw [if_pos ⟨rfl, e⟩, if_pos ⟨rfl, e⟩]
    · rw [if_neg (by omega), if_neg (by omega), if_neg (by omega), if_neg (by omega)]
  have hA : cAS (soW w b t q) b = soS t q (cAS w b) := by
    unfold cAS soS
    dsimp only
    rw [eL, eH, eF, gl_D hq.1 hq.2, gl_D ht.1 ht.2, Int.zero_add, Int.zero_add]
    unfold soW
    rw [up_ne (by omega), up_ne (by omega), up_ne (by omega), up_ne (by omega), up_ne (by omega), up_ne (by omega), g _ _ (by omega), g _ _ (by omega)]
  refine ⟨⟨?_, ?_⟩, hA, fun k j q => ?_⟩
  · unfold soW
    rw [up_ne (by omega), up_ne (by omega), up_ne (by omega), g _ _ (by omega)]
    exact ho.1
  · rw [hA]
    exact soS_ok ho.2 ht hq
  · unfold soW
    rw [up_ne (by omega), up_ne (by omega), up_ne (by omega), g _ _ (by omega)]
theorem ho_in {w : Wd} {b : Nat} {N i q : Int} (hs : ∀ i : Int, 0 ≤ i → i < N → inR (w (b + 3) i)) (hq : inR q) : ∀ j : Int, 0 ≤ j → j < N → inR (up w (b + 3) i q (b + 3) j) := by
  intro j g0 g1
  by_cases e : j = i
  · subst e
    rw [up_eq]
    exact hq
  · rw [up_ne (Or.inr e)]
    exact hs j g0 g1
theorem cLs_drop_up {w : Wd} {b : Nat} {i q : Int} (h : 0 ≤ i) : (cLs (up w (b + 3) i q) b).drop (i + 1).toNat = (cLs w b).drop (i + 1).toNat := by
  have e3 : up w (b + 3) i q b 3 = w b 3 := up_ne (by omega)
  apply List.ext_getElem?
  intro j
  rw [List.getElem?_drop, List.getElem?_drop]
  by_cases hj : (i + 1).toNat + j < (w b 3).toNat
  · rw [cLs_some hj, cLs_some (by rw [e3]; exact hj)]
    unfold cLn
    rw [up_ne (by omega), up_ne (by omega), up_ne (by omega), up_ne (by omega), up_ne (by omega)]
  · rw [cLs_none (w := up w (b + 3) i q) (by rw [e3]; omega), cLs_none (by omega)]
set_option maxRecDepth 100000 in
set_option maxHeartbeats 4000000 in
theorem l_X1_handOver (G : Gb) (l : Launch) {b : Nat} (hb : IsSt b) {t q N : Int} (ht : inR t) (hq : inR q) (hN : 0 ≤ N ∧ N ≤ 12) {Qc : Array Value → State → Outcome → State → Prop} : ∀ (n : Nat) (s i : Int) (w : Wd), 0 ≤ i → i + n = N → w b 3 = N → (∀ i : Int, 0 ≤ i → i < N → inR (w (b + 3) i)) → (∀ i', V G l mX1_handOver Qc 42 [some (.ref (gA G b)), some (.int (iZ t)), some (.int (iZ q)), some (.int (iZ (s + hoC t ((cLs w b).drop i.toNat)))), some (.int (iZ i'))] [] (hoW w b t q i)) → V G l mX1_handOver Qc 5 [some (.ref (gA G b)), some (.int (iZ t)), some (.int (iZ q)), some (.int (iZ s)), some (.int (iZ i))] [] w := by
  intro n
  induction n with
  | zero =>
    intro s i w h0 h1 hw hs hk
    refine V_iload dX1_handOver_5 rfl ?_
    refine V_aload_n dX1_handOver_7 rfl ?_
    refine V_getI (ci := 1) (j := 3) (ji := 3) dX1_handOver_8 (sSt_0 hb) rfl rfl i_X1_handOver_X1 (by decide) f_X1_handOver_37 rfl ?_
    refine V_icmp_ge (tgt := 42) dX1_handOver_11 (by decide) (by omega) (by omega) (fun h11 => ?_) (fun h11 => ?_)
    · have hk := hk i
      rw [hoW_end (by omega), cLs_end (by omega)] at hk
      simp only [hoC, Int.add_zero] at hk
      exact hk
    · exact absurd h11 (by omega)
  | succ n ih =>
    intro s i w h0 h1 hw hs hk
    have q1 := hs i h0 (by omega)
    rw [cLs_drop h0 (by omega), hoC] at hk
    refine V_iload dX1_handOver_5 rfl ?_
    refine V_aload_n dX1_handOver_7 rfl ?_
    refine V_getI (ci := 1) (j := 3) (ji := 3) dX1_handOver_8 (sSt_0 hb) rfl rfl i_X1_handOver_X1 (by decide) f_X1_handOver_37 rfl ?_
    refine V_icmp_ge (tgt := 42) dX1_handOver_11 (by decide) (by omega) (by omega) (fun h11 => ?_) (fun h11 => ?_)
    · exact absurd h11 (by omega)
    · refine V_aload_n dX1_handOver_14 rfl ?_
      refine V_getR (ci := 1) (j := 4) dX1_handOver_15 (sSt_0 hb) rfl rfl i_X1_handOver_X1 (by decide) f_X1_handOver_18 ?_
      refine V_iload dX1_handOver_18 rfl ?_
      refine V_iald dX1_handOver_20 (sSt_3 hb) (by omega) ?_
      refine V_iload_n dX1_handOver_21 rfl ?_
      refine V_icmp_ne (tgt := 36) dX1_handOver_22 (by decide) (by omega) (by omega) (fun h22 => ?_) (fun h22 => ?_)
      · refine V_iinc dX1_handOver_36 rfl (by decide) rfl ?_
        refine V_goto (tgt := 5) dX1_handOver_39 (by decide) ?_
        first
          | (refine ih _ _ _ (by omega) (by omega) hw hs (fun i' => ?_); have hk := hk i'; rw [hoW_no h22]; dsimp only at hk; rw [if_neg h22, Int.zero_add] at hk; exact hk)
          | (refine ih _ _ _ (by omega) (by omega) (by rw [up_ne (by omega)]; exact hw) (fun j g0 g1 => ho_in hs hq j g0 g1) (fun i' => ?_); have hk := hk i'; rw [hoW_yes h22 (by omega), cLs_drop_up (by omega)]; dsimp only at hk; rw [if_pos h22, ← Int.add_assoc] at hk; exact hk)
      · refine V_aload_n dX1_handOver_25 rfl ?_
        refine V_getR (ci := 1) (j := 4) dX1_handOver_26 (sSt_0 hb) rfl rfl i_X1_handOver_X1 (by decide) f_X1_handOver_18 ?_
        refine V_iload dX1_handOver_29 rfl ?_
        refine V_iload_n dX1_handOver_31 rfl ?_
        refine V_iast dX1_handOver_32 (sSt_3 hb) (by omega) ?_
        refine V_iinc dX1_handOver_33 rfl (by decide) rfl ?_
        refine V_iinc dX1_handOver_36 rfl (by decide) rfl ?_
        refine V_goto (tgt := 5) dX1_handOver_39 (by decide) ?_
        first
          | (refine ih _ _ _ (by omega) (by omega) hw hs (fun i' => ?_); have hk := hk i'; rw [hoW_no h22]; dsimp only at hk; rw [if_neg h22, Int.zero_add] at hk; exact hk)
          | (refine ih _ _ _ (by omega) (by omega) (by rw [up_ne (by omega)]; exact hw) (fun j g0 g1 => ho_in hs hq j g0 g1) (fun i' => ?_); have hk := hk i'; rw [hoW_yes h22 (by omega), cLs_drop_up (by omega)]; dsimp only at hk; rw [if_pos h22, ← Int.add_assoc] at hk; exact hk)
set_option maxRecDepth 100000 in
set_option maxHeartbeats 4000000 in
theorem c_X1_handOver (G : Gb) (l : Launch) {w : Wd} {b : Nat} (hb : IsSt b) {c t q : Int} (ht : 0 ≤ t ∧ t < 6) (hq : 0 ≤ q ∧ q < 6) (ho : okC c w b) : Ci G l yX1_handOver mX1_handOver [.ref (gA G b), .int (iZ t), .int (iZ q)] w (fun z w' => z = hoC t (cLs w b) ∧ w' = soW w b t q) := by
  refine V_start 2 (by decide) rfl rfl (Nat.le_of_ble_eq_true rfl) ?_
  show V G l mX1_handOver _ 0 [some (.ref (gA G b)), some (.int (iZ t)), some (.int (iZ q)), none, none] [] w
  have ge : ∀ (k : Nat) (j : Int), k ≠ b + 3 → hoW w b t q 0 k j = w k j := by
    intro k j h
    unfold hoW
    rw [if_neg (fun z => h z.1)]
  refine V_iconst dX1_handOver_0 ?_
  refine V_istore_n dX1_handOver_1 (by decide) rfl ?_
  refine V_iconst dX1_handOver_2 ?_
  refine V_istore dX1_handOver_3 (by decide) rfl ?_
  refine l_X1_handOver G l hb (by omega) (by omega) ho.n (w b 3).toNat 0 0 w (by omega) (by have := ho.1; omega) rfl (fun i g0 g1 => by have q := ho.ln g0 g1; omega) (fun i' => ?_)
  refine V_aload_n dX1_handOver_42 rfl ?_
  refine V_iload_n dX1_handOver_43 rfl ?_
  refine V_aload_n dX1_handOver_44 rfl ?_
  refine V_getR (ci := 1) (j := 1) dX1_handOver_45 (sSt_0 hb) rfl rfl i_X1_handOver_X1 (by decide) f_X1_handOver_9 ?_
  refine V_iload_n dX1_handOver_48 rfl ?_
  refine V_ialdE (z := w (b + 1) t) dX1_handOver_49 (sSt_1 hb) (by omega) (ge _ _ (by omega)) ?_
  refine V_vV2 dX1_handOver_50 o_X1_handOver_97 (sSt_0 hb) rfl (Nat.le_of_ble_eq_true rfl) (c_X1_addBranches G l hb (w := hoW w b t q 0) hq (by rw [ge _ _ (by omega)]; exact ho.has hq.1 hq.2) (ho.has ht.1 ht.2)) ?_
  rintro _ rfl
  rw [ge (b + 1) q (by omega)]
  refine V_aload_n dX1_handOver_53 rfl ?_
  refine V_getR (ci := 1) (j := 1) dX1_handOver_54 (sSt_0 hb) rfl rfl i_X1_handOver_X1 (by decide) f_X1_handOver_9 ?_
  refine V_iload_n dX1_handOver_57 rfl ?_
  refine V_iconst dX1_handOver_58 ?_
  refine V_iast dX1_handOver_59 (sSt_1 hb) (by omega) ?_
  refine V_aload_n dX1_handOver_60 rfl ?_
  refine V_getR (ci := 1) (j := 2) dX1_handOver_61 (sSt_0 hb) rfl rfl i_X1_handOver_X1 (by decide) f_X1_handOver_15 ?_
  refine V_iload_n dX1_handOver_64 rfl ?_
  refine V_iconst dX1_handOver_65 ?_
  refine V_iast dX1_handOver_66 (sSt_2 hb) (by omega) ?_
  refine V_iload_n dX1_handOver_67 rfl ?_
  exact V_iret dX1_handOver_68 rfl ⟨by rw [Int.zero_add]; rfl, rfl⟩

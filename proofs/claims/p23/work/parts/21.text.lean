/-! ===== 21 THE TEXT: tokens, numbers, words, lines; the class's Text ===== -/
def ch (T : List Int) (i : Int) : Int := T.getD i.toNat 0
/-- 1 a letter, 2 a digit, 0 all else -/
def srt (c : Int) : Int := if 97 ≤ c ∧ c ≤ 122 then 1 else if 48 ≤ c ∧ c ≤ 57 then 2 else 0
def skN (T : List Int) : Nat → Int → Int
  | 0, i => i
  | n + 1, i => if ch T i = 32 then skN T n (i + 1) else i
def sk (T : List Int) (i : Int) : Int := skN T ((T.length : Int) - i).toNat i
def exN (T : List Int) (s : Int) : Nat → Int → Int
  | 0, e => e
  | n + 1, e => if srt (ch T e) = s then exN T s n (e + 1) else e
/-- the end of the token that begins at s -/
def tkE (T : List Int) (s : Int) : Int := if s < (T.length : Int) then (if srt (ch T s) = 0 then s + 1 else exN T (srt (ch T s)) ((T.length : Int) - s).toNat s) else s
def dvN (T : List Int) : Nat → Int → Int → Int
  | 0, _, a => a
  | n + 1, p, a => dvN T n (p + 1) (10 * a + ch T p - 48)
def vl (T : List Int) (s : Int) : Int := dvN T (tkE T s - s).toNat s 0
def kd (T : List Int) (s : Int) : Int := if s < (T.length : Int) then (if srt (ch T s) = 1 then 1 else if srt (ch T s) = 2 then 2 else 3) else 0
theorem skN_bd (T : List Int) : ∀ (n : Nat) (i : Int), i ≤ skN T n i ∧ skN T n i ≤ i + n
  | 0, i => by rw [skN]; omega
  | n + 1, i => by
    rw [skN]
    have := skN_bd T n (i + 1)
    split <;> omega
theorem sk_bd {T : List Int} {i : Int} (h0 : 0 ≤ i) (h : i ≤ (T.length : Int)) : i ≤ sk T i ∧ sk T i ≤ (T.length : Int) := by
  have := skN_bd T ((T.length : Int) - i).toNat i
  unfold sk
  omega
theorem exN_bd (T : List Int) (s : Int) : ∀ (n : Nat) (i : Int), i ≤ exN T s n i ∧ exN T s n i ≤ i + n
  | 0, i => by rw [exN]; omega
  | n + 1, i => by
    rw [exN]
    have := exN_bd T s n (i + 1)
    split <;> omega
theorem tkE_bd {T : List Int} {s : Int} (h0 : 0 ≤ s) (h : s ≤ (T.length : Int)) : s ≤ tkE T s ∧ tkE T s ≤ (T.length : Int) := by
  unfold tkE
  have := exN_bd T (srt (ch T s)) ((T.length : Int) - s).toNat s
  split
  · split <;> omega
  · omega
theorem tkE_lt {T : List Int} {s : Int} (h0 : 0 ≤ s) (h : s < (T.length : Int)) : s < tkE T s := by
  unfold tkE
  rw [if_pos h]
  split
  · omega
  · obtain ⟨n, hn⟩ : ∃ n, ((T.length : Int) - s).toNat = n + 1 := ⟨((T.length : Int) - s).toNat - 1, by omega⟩
    rw [hn, exN, if_pos rfl]
    have := exN_bd T (srt (ch T s)) n (s + 1)
    omega
theorem srt_v (c : Int) : srt c = 0 ∨ srt c = 1 ∨ srt c = 2 := by unfold srt; split <;> (try split) <;> simp
/-- the world's text is T -/
def TX (w : Wd) (T : List Int) : Prop := w 1 1 = (T.length : Int) ∧ T.length ≤ 200 ∧ ∀ i : Int, 0 ≤ i → i < (T.length : Int) → w 2 i = ch T i ∧ 0 ≤ ch T i ∧ ch T i ≤ 255
theorem TX.keep {w w' : Wd} {T : List Int} (h : TX w T) (h1 : w' 1 1 = w 1 1) (h2 : ∀ i : Int, w' 2 i = w 2 i) : TX w' T := ⟨h1.trans h.1, h.2.1, fun i g0 g1 => by rw [h2]; exact h.2.2 i g0 g1⟩
theorem up_up (w : Wd) (k : Nat) (j a b : Int) : up (up w k j a) k j b = up w k j b := by
  funext k' j'
  unfold up
  split <;> rfl
theorem up_same {w : Wd} {k : Nat} {j a : Int} (h : w k j = a) : up w k j a = w := by
  funext k' j'
  unfold up
  split
  · rename_i q
    rw [q.1, q.2, h]
  · rfl
theorem up_abA {w : Wd} {k : Nat} {j1 j2 a c d : Int} (h : j1 ≠ j2) : up (up (up w k j1 a) k j2 c) k j1 d = up (up w k j2 c) k j1 d := by
  funext k' j'
  unfold up
  by_cases h1 : k' = k ∧ j' = j1
  · rw [if_pos h1, if_pos h1]
  · rw [if_neg h1, if_neg h1, if_neg h1]
theorem up_swap {w : Wd} {k k2 : Nat} {j j2 a b : Int} (h : k ≠ k2 ∨ j ≠ j2) : up (up w k j a) k2 j2 b = up (up w k2 j2 b) k j a := by
  funext k' j'
  unfold up
  by_cases h1 : k' = k2 ∧ j' = j2
  · rw [if_pos h1]
    by_cases h2 : k' = k ∧ j' = j
    · omega
    · rw [if_neg h2, if_pos h1]
  · rw [if_neg h1]
    by_cases h2 : k' = k ∧ j' = j
    · rw [if_pos h2, if_pos h2]
    · rw [if_neg h2, if_neg h2, if_neg h1]
set_option maxRecDepth 100000 in
set_option maxHeartbeats 4000000 in
theorem c_X2_isLetter (G : Gb) (l : Launch) {w : Wd} {c : Int} (hc : inR c) : Ci G l yX2_isLetter mX2_isLetter [.int (iZ c)] w (fun z w' => z = (if srt c = 1 then 1 else 0) ∧ w = w') := by
  refine V_start 0 (by decide) rfl rfl (Nat.le_of_ble_eq_true rfl) ?_
  show V G l mX2_isLetter _ 0 [some (.int (iZ c))] [] w
  refine V_iload_n dX2_isLetter_0 rfl ?_
  refine V_bipush dX2_isLetter_1 rfl ?_
  refine V_icmp_lt (tgt := 16) dX2_isLetter_3 (by decide) (by omega) (by omega) (fun h3 => ?_) (fun h3 => ?_)
  · refine V_iconst dX2_isLetter_16 ?_
    exact V_zret dX2_isLetter_17 rfl (by omega) ⟨by unfold srt; (repeat' split) <;> omega, rfl⟩
  · refine V_iload_n dX2_isLetter_6 rfl ?_
    refine V_bipush dX2_isLetter_7 rfl ?_
    refine V_icmp_gt (tgt := 16) dX2_isLetter_9 (by decide) (by omega) (by omega) (fun h9 => ?_) (fun h9 => ?_)
    · refine V_iconst dX2_isLetter_16 ?_
      exact V_zret dX2_isLetter_17 rfl (by omega) ⟨by unfold srt; (repeat' split) <;> omega, rfl⟩
    · refine V_iconst dX2_isLetter_12 ?_
      refine V_goto (tgt := 17) dX2_isLetter_13 (by decide) ?_
      exact V_zret dX2_isLetter_17 rfl (by omega) ⟨by unfold srt; (repeat' split) <;> omega, rfl⟩
set_option maxRecDepth 100000 in
set_option maxHeartbeats 4000000 in
theorem c_X2_isDigit (G : Gb) (l : Launch) {w : Wd} {c : Int} (hc : inR c) : Ci G l yX2_isDigit mX2_isDigit [.int (iZ c)] w (fun z w' => z = (if srt c = 2 then 1 else 0) ∧ w = w') := by
  refine V_start 0 (by decide) rfl rfl (Nat.le_of_ble_eq_true rfl) ?_
  show V G l mX2_isDigit _ 0 [some (.int (iZ c))] [] w
  refine V_iload_n dX2_isDigit_0 rfl ?_
  refine V_bipush dX2_isDigit_1 rfl ?_
  refine V_icmp_lt (tgt := 16) dX2_isDigit_3 (by decide) (by omega) (by omega) (fun h3 => ?_) (fun h3 => ?_)
  · refine V_iconst dX2_isDigit_16 ?_
    exact V_zret dX2_isDigit_17 rfl (by omega) ⟨by unfold srt; (repeat' split) <;> omega, rfl⟩
  · refine V_iload_n dX2_isDigit_6 rfl ?_
    refine V_bipush dX2_isDigit_7 rfl ?_
    refine V_icmp_gt (tgt := 16) dX2_isDigit_9 (by decide) (by omega) (by omega) (fun h9 => ?_) (fun h9 => ?_)
    · refine V_iconst dX2_isDigit_16 ?_
      exact V_zret dX2_isDigit_17 rfl (by omega) ⟨by unfold srt; (repeat' split) <;> omega, rfl⟩
    · refine V_iconst dX2_isDigit_12 ?_
      refine V_goto (tgt := 17) dX2_isDigit_13 (by decide) ?_
      exact V_zret dX2_isDigit_17 rfl (by omega) ⟨by unfold srt; (repeat' split) <;> omega, rfl⟩
set_option maxRecDepth 100000 in
set_option maxHeartbeats 4000000 in
theorem c_X2_add (G : Gb) (l : Launch) {w : Wd} {c : Int} (h0 : 0 ≤ w 1 1 ∧ w 1 1 < 200) : Cv G l yX2_add mX2_add [.ref (gA G 1), .int (iZ c)] w (fun w' => w' = up (up w 2 (w 1 1) c) 1 1 (w 1 1 + 1)) := by
  refine V_start 0 (by decide) rfl rfl (Nat.le_of_ble_eq_true rfl) ?_
  show V G l mX2_add _ 0 [some (.ref (gA G 1)), some (.int (iZ c))] [] w
  refine V_aload_n dX2_add_0 rfl ?_
  refine V_getI (ci := 2) (j := 1) (ji := 1) dX2_add_1 s_1 rfl rfl i_X2_add_X2 (by decide) f_X2_add_22 rfl ?_
  refine V_sipush dX2_add_4 rfl ?_
  refine V_icmp_lt (tgt := 11) dX2_add_7 (by decide) (by omega) (by omega) (fun h7 => ?_) (fun h7 => ?_)
  · refine V_aload_n dX2_add_11 rfl ?_
    refine V_getR (ci := 2) (j := 0) dX2_add_12 s_1 rfl rfl i_X2_add_X2 (by decide) f_X2_add_9 ?_
    refine V_aload_n dX2_add_15 rfl ?_
    refine V_getI (ci := 2) (j := 1) (ji := 1) dX2_add_16 s_1 rfl rfl i_X2_add_X2 (by decide) f_X2_add_22 rfl ?_
    refine V_iload_n dX2_add_19 rfl ?_
    refine V_iast dX2_add_20 s_2 (by omega) ?_
    refine V_aload_n dX2_add_21 rfl ?_
    refine V_dup dX2_add_22 rfl ?_
    refine V_getIE (ci := 2) (j := 1) (ji := 1) (z := w 1 1) dX2_add_23 s_1 rfl rfl i_X2_add_X2 (by decide) f_X2_add_22 rfl (by rw [up_ne (by omega)]) ?_
    refine V_iconst dX2_add_26 ?_
    refine V_iadd dX2_add_27 ?_
    refine V_putI (ci := 2) (j := 1) (ji := 1) dX2_add_28 s_1 rfl rfl i_X2_add_X2 tyX2_ok nmX2 (by decide) f_X2_add_22 rfl rfl rfl ?_
    exact V_vret dX2_add_31 rfl rfl
  · exact absurd h7 (by omega)
theorem dv_ex (T : List Int) : ∀ (n : Nat) (e v : Int), 0 ≤ e → ∀ r : Int, r = exN T 2 n e → dvN T (r - e).toNat e v = (if n = 0 then v else if srt (ch T e) = 2 then dvN T (r - (e + 1)).toNat (e + 1) (10 * v + ch T e - 48) else v)
  | 0, e, v, h, r, hr => by rw [exN] at hr; rw [hr, show (e - e).toNat = 0 by omega]; rfl
  | n + 1, e, v, h, r, hr => by
    rw [exN] at hr
    rw [if_neg (by omega)]
    by_cases hs : srt (ch T e) = 2
    · rw [if_pos hs] at hr ⊢
      have := exN_bd T 2 n (e + 1)
      rw [show (r - e).toNat = (r - (e + 1)).toNat + 1 by omega, dvN]
    · rw [if_neg hs] at hr ⊢
      rw [hr, show (e - e).toNat = 0 by omega]
      rfl
set_option maxRecDepth 100000 in
set_option maxHeartbeats 4000000 in
theorem l_X2_readDigits (G : Gb) (l : Launch) {T : List Int} {Post : Wd → Prop} : ∀ (n : Nat) (e v : Int) (w : Wd), 0 ≤ e → e + n = (T.length : Int) → TX w T → w 1 5 = e → w 1 7 = v → Post (up (up w 1 5 (exN T 2 n e)) 1 7 (dvN T (exN T 2 n e - e).toNat e v)) → V G l mX2_readDigits (Qv G Post) 5 [some (.ref (gA G 1))] [] w := by
  intro n
  induction n with
  | zero =>
    intro e v w h0 h1 hT h5 h7 hp
    have k1 := hT.1
    have k2 := hT.2.1
    refine V_aload_n dX2_readDigits_5 rfl ?_
    refine V_getI (ci := 2) (j := 5) (ji := 5) dX2_readDigits_6 s_1 rfl rfl i_X2_readDigits_X2 (by decide) f_X2_readDigits_33 rfl ?_
    refine V_aload_n dX2_readDigits_9 rfl ?_
    refine V_getI (ci := 2) (j := 1) (ji := 1) dX2_readDigits_10 s_1 rfl rfl i_X2_readDigits_X2 (by decide) f_X2_readDigits_22 rfl ?_
    refine V_icmp_ge (tgt := 68) dX2_readDigits_13 (by decide) (by omega) (by omega) (fun h13 => ?_) (fun h13 => ?_)
    · exact V_vret dX2_readDigits_68 rfl (by rw [exN, show (e - e).toNat = 0 by omega, dvN, up_same h5, up_same h7] at hp; exact hp)
    · exact absurd h13 (by omega)
  | succ n ih =>
    intro e v w h0 h1 hT h5 h7 hp
    have k1 := hT.1
    have k2 := hT.2.1
    refine V_aload_n dX2_readDigits_5 rfl ?_
    refine V_getI (ci := 2) (j := 5) (ji := 5) dX2_readDigits_6 s_1 rfl rfl i_X2_readDigits_X2 (by decide) f_X2_readDigits_33 rfl ?_
    refine V_aload_n dX2_readDigits_9 rfl ?_
    refine V_getI (ci := 2) (j := 1) (ji := 1) dX2_readDigits_10 s_1 rfl rfl i_X2_readDigits_X2 (by decide) f_X2_readDigits_22 rfl ?_
    refine V_icmp_ge (tgt := 68) dX2_readDigits_13 (by decide) (by omega) (by omega) (fun h13 => ?_) (fun h13 => ?_)
    · exact absurd h13 (by omega)
    · refine V_aload_n dX2_readDigits_16 rfl ?_
      refine V_getR (ci := 2) (j := 0) dX2_readDigits_17 s_1 rfl rfl i_X2_readDigits_X2 (by decide) f_X2_readDigits_9 ?_
      refine V_aload_n dX2_readDigits_20 rfl ?_
      refine V_getI (ci := 2) (j := 5) (ji := 5) dX2_readDigits_21 s_1 rfl rfl i_X2_readDigits_X2 (by decide) f_X2_readDigits_33 rfl ?_
      have q := hT.2.2 e h0 (by omega)
      refine V_ialdE (z := ch T e) dX2_readDigits_24 s_2 (by rw [h5]; omega) (by rw [h5]; exact q.1) ?_
      refine V_iS1 dX2_readDigits_25 o_X2_readDigits_120 (Nat.le_of_ble_eq_true rfl) (c_X2_isDigit G l (by omega)) ?_
      rintro z _ ⟨hz, rfl⟩
      have hz2 : z = 0 ∨ z = 1 := by rw [hz]; split <;> simp
      refine V_if_eq (tgt := 68) dX2_readDigits_28 (by decide) (by omega) (fun h28 => ?_) (fun h28 => ?_)
      · have hs : srt (ch T e) ≠ 2 := by intro q9; rw [if_pos q9] at hz; omega
        exact V_vret dX2_readDigits_68 rfl (by rw [exN, if_neg hs, show (e - e).toNat = 0 by omega, dvN, up_same h5, up_same h7] at hp; exact hp)
      · have hs : srt (ch T e) = 2 := by
          by_cases q9 : srt (ch T e) = 2
          · exact q9
          · rw [if_neg q9] at hz; omega
        refine V_aload_n dX2_readDigits_31 rfl ?_
        refine V_bipush dX2_readDigits_32 rfl ?_
        refine V_aload_n dX2_readDigits_34 rfl ?_
        refine V_getIE (ci := 2) (j := 7) (ji := 7) (z := v) dX2_readDigits_35 s_1 rfl rfl i_X2_readDigits_X2 (by decide) f_X2_readDigits_108 rfl h7 ?_
        refine V_imul dX2_readDigits_38 ?_
        refine V_aload_n dX2_readDigits_39 rfl ?_
        refine V_getR (ci := 2) (j := 0) dX2_readDigits_40 s_1 rfl rfl i_X2_readDigits_X2 (by decide) f_X2_readDigits_9 ?_
        refine V_aload_n dX2_readDigits_43 rfl ?_
        refine V_getI (ci := 2) (j := 5) (ji := 5) dX2_readDigits_44 s_1 rfl rfl i_X2_readDigits_X2 (by decide) f_X2_readDigits_33 rfl ?_
        refine V_ialdE (z := ch T e) dX2_readDigits_47 s_2 (by rw [h5]; omega) (by rw [h5]; exact q.1) ?_
        refine V_iadd dX2_readDigits_48 ?_
        refine V_bipush dX2_readDigits_49 rfl ?_
        refine V_isub dX2_readDigits_51 ?_
        refine V_putI (ci := 2) (j := 7) (ji := 7) dX2_readDigits_52 s_1 rfl rfl i_X2_readDigits_X2 tyX2_ok nmX2 (by decide) f_X2_readDigits_108 rfl rfl rfl ?_
        refine V_aload_n dX2_readDigits_55 rfl ?_
        refine V_dup dX2_readDigits_56 rfl ?_
        refine V_getIE (ci := 2) (j := 5) (ji := 5) (z := e) dX2_readDigits_57 s_1 rfl rfl i_X2_readDigits_X2 (by decide) f_X2_readDigits_33 rfl (by rw [up_ne (by omega)]; exact h5) ?_
        refine V_iconst dX2_readDigits_60 ?_
        refine V_iadd dX2_readDigits_61 ?_
        refine V_putI (ci := 2) (j := 5) (ji := 5) dX2_readDigits_62 s_1 rfl rfl i_X2_readDigits_X2 tyX2_ok nmX2 (by decide) f_X2_readDigits_33 rfl rfl rfl ?_
        refine V_goto (tgt := 5) dX2_readDigits_65 (by decide) ?_
        refine ih (e + 1) (10 * v + ch T e - 48) _ (by omega) (by omega) (hT.keep (by rw [up_ne (by omega), up_ne (by omega)]) (fun i => by rw [up_ne (by omega), up_ne (by omega)])) (by rw [up_eq]) (by rw [up_ne (by omega), up_eq]) ?_
        rw [exN, if_pos hs] at hp
        have hb := exN_bd T 2 n (e + 1)
        rw [show (exN T 2 n (e + 1) - e).toNat = (exN T 2 n (e + 1) - (e + 1)).toNat + 1 by omega, dvN] at hp
        rw [up_up, up_abA (by omega)]
        exact hp
set_option maxRecDepth 100000 in
set_option maxHeartbeats 4000000 in
theorem c_X2_readDigits (G : Gb) (l : Launch) {w : Wd} {T : List Int} (hT : TX w T) (h5 : 0 ≤ w 1 5 ∧ w 1 5 ≤ (T.length : Int)) : Cv G l yX2_readDigits mX2_readDigits [.ref (gA G 1)] w (fun w' => w' = up (up w 1 5 (exN T 2 ((T.length : Int) - w 1 5).toNat (w 1 5))) 1 7 (dvN T (exN T 2 ((T.length : Int) - w 1 5).toNat (w 1 5) - w 1 5).toNat (w 1 5) 0)) := by
  refine V_start 0 (by decide) rfl rfl (Nat.le_of_ble_eq_true rfl) ?_
  show V G l mX2_readDigits _ 0 [some (.ref (gA G 1))] [] w
  refine V_aload_n dX2_readDigits_0 rfl ?_
  refine V_iconst dX2_readDigits_1 ?_
  refine V_putI (ci := 2) (j := 7) (ji := 7) dX2_readDigits_2 s_1 rfl rfl i_X2_readDigits_X2 tyX2_ok nmX2 (by decide) f_X2_readDigits_108 rfl rfl rfl ?_
  refine l_X2_readDigits G l ((T.length : Int) - w 1 5).toNat (w 1 5) 0 _ (by omega) (by omega) (hT.keep (by rw [up_ne (by omega)]) (fun i => by rw [up_ne (by omega)])) (by rw [up_ne (by omega)]) (by rw [up_eq]) ?_
  rw [up_swap (k := 1) (j := 7) (k2 := 1) (j2 := 5) (by omega), up_up]
/-- the token looked at is the one that begins at p -/
def tokA (w : Wd) (T : List Int) (p : Int) : Prop := (0 ≤ p ∧ p ≤ (T.length : Int)) ∧ w 1 4 = p ∧ w 1 5 = tkE T p ∧ w 1 6 = kd T p ∧ (kd T p = 2 → w 1 7 = vl T p)
/-- nothing but the token has changed -/
def frk (w w' : Wd) : Prop := ∀ (k : Nat) (j : Int), (k ≠ 1 ∨ j < 4 ∨ 7 < j) → w' k j = w k j
set_option maxRecDepth 100000 in
set_option maxHeartbeats 4000000 in
theorem l1_X2_nextToken (G : Gb) (l : Launch) {T : List Int} {Qc : Array Value → State → Outcome → State → Prop} : ∀ (n : Nat) (i : Int) (w : Wd), 0 ≤ i → i + n = (T.length : Int) → TX w T → w 1 4 = i → V G l mX2_nextToken Qc 46 [some (.ref (gA G 1))] [] (up w 1 4 (skN T n i)) → V G l mX2_nextToken Qc 8 [some (.ref (gA G 1))] [] w := by
  intro n
  induction n with
  | zero =>
    intro i w h0 h1 hT h4 hp
    have k1 := hT.1
    have k2 := hT.2.1
    refine V_aload_n dX2_nextToken_8 rfl ?_
    refine V_getI (ci := 2) (j := 4) (ji := 4) dX2_nextToken_9 s_1 rfl rfl i_X2_nextToken_X2 (by decide) f_X2_nextToken_43 rfl ?_
    refine V_aload_n dX2_nextToken_12 rfl ?_
    refine V_getI (ci := 2) (j := 1) (ji := 1) dX2_nextToken_13 s_1 rfl rfl i_X2_nextToken_X2 (by decide) f_X2_nextToken_22 rfl ?_
    refine V_icmp_ge (tgt := 46) dX2_nextToken_16 (by decide) (by omega) (by omega) (fun h16 => ?_) (fun h16 => ?_)
    · rw [skN, up_same h4] at hp
      exact hp
    · exact absurd h16 (by omega)
  | succ n ih =>
    intro i w h0 h1 hT h4 hp
    have k1 := hT.1
    have k2 := hT.2.1
    have q := hT.2.2 i h0 (by omega)
    refine V_aload_n dX2_nextToken_8 rfl ?_
    refine V_getI (ci := 2) (j := 4) (ji := 4) dX2_nextToken_9 s_1 rfl rfl i_X2_nextToken_X2 (by decide) f_X2_nextToken_43 rfl ?_
    refine V_aload_n dX2_nextToken_12 rfl ?_
    refine V_getI (ci := 2) (j := 1) (ji := 1) dX2_nextToken_13 s_1 rfl rfl i_X2_nextToken_X2 (by decide) f_X2_nextToken_22 rfl ?_
    refine V_icmp_ge (tgt := 46) dX2_nextToken_16 (by decide) (by omega) (by omega) (fun h16 => ?_) (fun h16 => ?_)
    · exact absurd h16 (by omega)
    · refine V_aload_n dX2_nextToken_19 rfl ?_
      refine V_getR (ci := 2) (j := 0) dX2_nextToken_20 s_1 rfl rfl i_X2_nextToken_X2 (by decide) f_X2_nextToken_9 ?_
      refine V_aload_n dX2_nextToken_23 rfl ?_
      refine V_getI (ci := 2) (j := 4) (ji := 4) dX2_nextToken_24 s_1 rfl rfl i_X2_nextToken_X2 (by decide) f_X2_nextToken_43 rfl ?_
      refine V_ialdE (z := ch T i) dX2_nextToken_27 s_2 (by rw [h4]; omega) (by rw [h4]; exact q.1) ?_
      refine V_bipush dX2_nextToken_28 rfl ?_
      refine V_icmp_ne (tgt := 46) dX2_nextToken_30 (by decide) (by omega) (by omega) (fun h30 => ?_) (fun h30 => ?_)
      · rw [skN, if_neg h30, up_same h4] at hp
        exact hp
      · refine V_aload_n dX2_nextToken_33 rfl ?_
        refine V_dup dX2_nextToken_34 rfl ?_
        refine V_getIE (ci := 2) (j := 4) (ji := 4) (z := i) dX2_nextToken_35 s_1 rfl rfl i_X2_nextToken_X2 (by decide) f_X2_nextToken_43 rfl h4 ?_
        refine V_iconst dX2_nextToken_38 ?_
        refine V_iadd dX2_nextToken_39 ?_
        refine V_putI (ci := 2) (j := 4) (ji := 4) dX2_nextToken_40 s_1 rfl rfl i_X2_nextToken_X2 tyX2_ok nmX2 (by decide) f_X2_nextToken_43 rfl rfl rfl ?_
        refine V_goto (tgt := 8) dX2_nextToken_43 (by decide) ?_
        refine ih (i + 1) _ (by omega) (by omega) (hT.keep (by rw [up_ne (by omega)]) (fun j => by rw [up_ne (by omega)])) (by rw [up_eq]) ?_
        rw [up_up]
        rw [skN, if_pos h30] at hp
        exact hp
set_option maxRecDepth 100000 in
set_option maxHeartbeats 4000000 in
theorem l2_X2_nextToken (G : Gb) (l : Launch) {T : List Int} {Qc : Array Value → State → Outcome → State → Prop} : ∀ (n : Nat) (e : Int) (w : Wd), 0 ≤ e → e + n = (T.length : Int) → TX w T → w 1 5 = e → V G l mX2_nextToken Qc 174 [some (.ref (gA G 1))] [] (up w 1 5 (exN T 1 n e)) → V G l mX2_nextToken Qc 93 [some (.ref (gA G 1))] [] w := by
  intro n
  induction n with
  | zero =>
    intro e w h0 h1 hT h5 hp
    have k1 := hT.1
    have k2 := hT.2.1
    refine V_aload_n dX2_nextToken_93 rfl ?_
    refine V_getI (ci := 2) (j := 5) (ji := 5) dX2_nextToken_94 s_1 rfl rfl i_X2_nextToken_X2 (by decide) f_X2_nextToken_33 rfl ?_
    refine V_aload_n dX2_nextToken_97 rfl ?_
    refine V_getI (ci := 2) (j := 1) (ji := 1) dX2_nextToken_98 s_1 rfl rfl i_X2_nextToken_X2 (by decide) f_X2_nextToken_22 rfl ?_
    refine V_icmp_ge (tgt := 174) dX2_nextToken_101 (by decide) (by omega) (by omega) (fun h101 => ?_) (fun h101 => ?_)
    · rw [exN, up_same h5] at hp
      exact hp
    · exact absurd h101 (by omega)
  | succ n ih =>
    intro e w h0 h1 hT h5 hp
    have k1 := hT.1
    have k2 := hT.2.1
    have q := hT.2.2 e h0 (by omega)
    refine V_aload_n dX2_nextToken_93 rfl ?_
    refine V_getI (ci := 2) (j := 5) (ji := 5) dX2_nextToken_94 s_1 rfl rfl i_X2_nextToken_X2 (by decide) f_X2_nextToken_33 rfl ?_
    refine V_aload_n dX2_nextToken_97 rfl ?_
    refine V_getI (ci := 2) (j := 1) (ji := 1) dX2_nextToken_98 s_1 rfl rfl i_X2_nextToken_X2 (by decide) f_X2_nextToken_22 rfl ?_
    refine V_icmp_ge (tgt := 174) dX2_nextToken_101 (by decide) (by omega) (by omega) (fun h101 => ?_) (fun h101 => ?_)
    · exact absurd h101 (by omega)
    · refine V_aload_n dX2_nextToken_104 rfl ?_
      refine V_getR (ci := 2) (j := 0) dX2_nextToken_105 s_1 rfl rfl i_X2_nextToken_X2 (by decide) f_X2_nextToken_9 ?_
      refine V_aload_n dX2_nextToken_108 rfl ?_
      refine V_getI (ci := 2) (j := 5) (ji := 5) dX2_nextToken_109 s_1 rfl rfl i_X2_nextToken_X2 (by decide) f_X2_nextToken_33 rfl ?_
      refine V_ialdE (z := ch T e) dX2_nextToken_112 s_2 (by rw [h5]; omega) (by rw [h5]; exact q.1) ?_
      refine V_iS1 dX2_nextToken_113 o_X2_nextToken_117 (Nat.le_of_ble_eq_true rfl) (c_X2_isLetter G l (by omega)) ?_
      rintro z _ ⟨hz, rfl⟩
      have hz2 : z = 0 ∨ z = 1 := by rw [hz]; split <;> simp
      refine V_if_eq (tgt := 174) dX2_nextToken_116 (by decide) (by omega) (fun h116 => ?_) (fun h116 => ?_)
      · have hs : srt (ch T e) ≠ 1 := by intro q9; rw [if_pos q9] at hz; omega
        rw [exN, if_neg hs, up_same h5] at hp
        exact hp
      · have hs : srt (ch T e) = 1 := by
          by_cases q9 : srt (ch T e) = 1
          · exact q9
          · rw [if_neg q9] at hz; omega
        refine V_aload_n dX2_nextToken_119 rfl ?_
        refine V_dup dX2_nextToken_120 rfl ?_
        refine V_getIE (ci := 2) (j := 5) (ji := 5) (z := e) dX2_nextToken_121 s_1 rfl rfl i_X2_nextToken_X2 (by decide) f_X2_nextToken_33 rfl h5 ?_
        refine V_iconst dX2_nextToken_124 ?_
        refine V_iadd dX2_nextToken_125 ?_
        refine V_putI (ci := 2) (j := 5) (ji := 5) dX2_nextToken_126 s_1 rfl rfl i_X2_nextToken_X2 tyX2_ok nmX2 (by decide) f_X2_nextToken_33 rfl rfl rfl ?_
        refine V_goto (tgt := 93) dX2_nextToken_129 (by decide) ?_
        refine ih (e + 1) _ (by omega) (by omega) (hT.keep (by rw [up_ne (by omega)]) (fun j => by rw [up_ne (by omega)])) (by rw [up_eq]) ?_
        rw [up_up]
        rw [exN, if_pos hs] at hp
        exact hp
set_option maxRecDepth 100000 in
set_option maxHeartbeats 4000000 in
theorem c_X2_nextToken (G : Gb) (l : Launch) {w : Wd} {T : List Int} (hT : TX w T) (h5 : 0 ≤ w 1 5 ∧ w 1 5 ≤ (T.length : Int)) : Cv G l yX2_nextToken mX2_nextToken [.ref (gA G 1)] w (fun w' => tokA w' T (sk T (w 1 5)) ∧ frk w w') := by
  refine V_start 0 (by decide) rfl rfl (Nat.le_of_ble_eq_true rfl) ?_
  show V G l mX2_nextToken _ 0 [some (.ref (gA G 1))] [] w
  have k1 := hT.1
  have k2 := hT.2.1
  refine V_aload_n dX2_nextToken_0 rfl ?_
  refine V_aload_n dX2_nextToken_1 rfl ?_
  refine V_getI (ci := 2) (j := 5) (ji := 5) dX2_nextToken_2 s_1 rfl rfl i_X2_nextToken_X2 (by decide) f_X2_nextToken_33 rfl ?_
  refine V_putI (ci := 2) (j := 4) (ji := 4) dX2_nextToken_5 s_1 rfl rfl i_X2_nextToken_X2 tyX2_ok nmX2 (by decide) f_X2_nextToken_43 rfl rfl rfl ?_
  refine l1_X2_nextToken G l ((T.length : Int) - w 1 5).toNat (w 1 5) _ (by omega) (by omega) (hT.keep (by rw [up_ne (by omega)]) (fun j => by rw [up_ne (by omega)])) (by rw [up_eq]) ?_
  rw [up_up]
  have hs0 := sk_bd (T := T) (i := w 1 5) h5.1 h5.2
  have hsk : skN T ((T.length : Int) - w 1 5).toNat (w 1 5) = sk T (w 1 5) := rfl
  rw [hsk]
  generalize sk T (w 1 5) = s at hs0 ⊢
  refine V_aload_n dX2_nextToken_46 rfl ?_
  refine V_aload_n dX2_nextToken_47 rfl ?_
  refine V_getIE (ci := 2) (j := 4) (ji := 4) (z := s) dX2_nextToken_48 s_1 rfl rfl i_X2_nextToken_X2 (by decide) f_X2_nextToken_43 rfl (by rw [up_eq]) ?_
  refine V_putI (ci := 2) (j := 5) (ji := 5) dX2_nextToken_51 s_1 rfl rfl i_X2_nextToken_X2 tyX2_ok nmX2 (by decide) f_X2_nextToken_33 rfl rfl rfl ?_
  refine V_aload_n dX2_nextToken_54 rfl ?_
  refine V_getIE (ci := 2) (j := 4) (ji := 4) (z := s) dX2_nextToken_55 s_1 rfl rfl i_X2_nextToken_X2 (by decide) f_X2_nextToken_43 rfl (by rw [up_ne (by omega), up_eq]) ?_
  refine V_aload_n dX2_nextToken_58 rfl ?_
  refine V_getIE (ci := 2) (j := 1) (ji := 1) (z := w 1 1) dX2_nextToken_59 s_1 rfl rfl i_X2_nextToken_X2 (by decide) f_X2_nextToken_22 rfl (by rw [up_ne (by omega), up_ne (by omega)]) ?_
  refine V_icmp_lt (tgt := 73) dX2_nextToken_62 (by decide) (by omega) (by omega) (fun h62 => ?_) (fun h62 => ?_)
  · refine V_aload_n dX2_nextToken_73 rfl ?_
    refine V_getR (ci := 2) (j := 0) dX2_nextToken_74 s_1 rfl rfl i_X2_nextToken_X2 (by decide) f_X2_nextToken_9 ?_
    refine V_aload_n dX2_nextToken_77 rfl ?_
    refine V_getIE (ci := 2) (j := 4) (ji := 4) (z := s) dX2_nextToken_78 s_1 rfl rfl i_X2_nextToken_X2 (by decide) f_X2_nextToken_43 rfl (by rw [up_ne (by omega), up_eq]) ?_
    have q := hT.2.2 s (by omega) (by omega)
    refine V_ialdE (z := ch T s) dX2_nextToken_81 s_2 (by omega) (by rw [up_ne (by omega), up_ne (by omega)]; exact q.1) ?_
    refine V_iS1 dX2_nextToken_82 o_X2_nextToken_117 (Nat.le_of_ble_eq_true rfl) (c_X2_isLetter G l (by omega)) ?_
    rintro z _ ⟨hz, rfl⟩
    have hz2 : z = 0 ∨ z = 1 := by rw [hz]; split <;> simp
    refine V_if_eq (tgt := 132) dX2_nextToken_85 (by decide) (by omega) (fun h85 => ?_) (fun h85 => ?_)
    · have hl : srt (ch T s) ≠ 1 := by intro q9; rw [if_pos q9] at hz; omega
      refine V_aload_n dX2_nextToken_132 rfl ?_
      refine V_getR (ci := 2) (j := 0) dX2_nextToken_133 s_1 rfl rfl i_X2_nextToken_X2 (by decide) f_X2_nextToken_9 ?_
      refine V_aload_n dX2_nextToken_136 rfl ?_
      refine V_getIE (ci := 2) (j := 4) (ji := 4) (z := s) dX2_nextToken_137 s_1 rfl rfl i_X2_nextToken_X2 (by decide) f_X2_nextToken_43 rfl (by rw [up_ne (by omega), up_eq]) ?_
      refine V_ialdE (z := ch T s) dX2_nextToken_140 s_2 (by omega) (by rw [up_ne (by omega), up_ne (by omega)]; exact q.1) ?_
      refine V_iS1 dX2_nextToken_141 o_X2_nextToken_120 (Nat.le_of_ble_eq_true rfl) (c_X2_isDigit G l (by omega)) ?_
      rintro z3 _ ⟨hz3, rfl⟩
      have hz4 : z3 = 0 ∨ z3 = 1 := by rw [hz3]; split <;> simp
      refine V_if_eq (tgt := 159) dX2_nextToken_144 (by decide) (by omega) (fun h144 => ?_) (fun h144 => ?_)
      · have hg : srt (ch T s) ≠ 2 := by intro q9; rw [if_pos q9] at hz3; omega
        refine V_aload_n dX2_nextToken_159 rfl ?_
        refine V_iconst dX2_nextToken_160 ?_
        refine V_putI (ci := 2) (j := 6) (ji := 6) dX2_nextToken_161 s_1 rfl rfl i_X2_nextToken_X2 tyX2_ok nmX2 (by decide) f_X2_nextToken_46 rfl rfl rfl ?_
        refine V_aload_n dX2_nextToken_164 rfl ?_
        refine V_dup dX2_nextToken_165 rfl ?_
        refine V_getIE (ci := 2) (j := 5) (ji := 5) (z := s) dX2_nextToken_166 s_1 rfl rfl i_X2_nextToken_X2 (by decide) f_X2_nextToken_33 rfl (by rw [up_ne (by omega), up_eq]) ?_
        refine V_iconst dX2_nextToken_169 ?_
        refine V_iadd dX2_nextToken_170 ?_
        refine V_putI (ci := 2) (j := 5) (ji := 5) dX2_nextToken_171 s_1 rfl rfl i_X2_nextToken_X2 tyX2_ok nmX2 (by decide) f_X2_nextToken_33 rfl rfl rfl ?_
        first
          | (exact V_vret dX2_nextToken_174 rfl ⟨⟨by omega, by rw [up_ne (by omega), up_ne (by omega), up_eq], by rw [up_ne (by omega), up_eq, tkE, if_neg (by omega)], by rw [up_eq, kd, if_neg (by omega)], fun h => by rw [kd, if_neg (by omega)] at h; omega⟩, fun k j q => by rw [up_ne (by omega), up_ne (by omega), up_ne (by omega)]⟩)
          | (exact V_vret dX2_nextToken_174 rfl ⟨⟨by omega, by rw [up_ne (by omega), up_ne (by omega), up_ne (by omega), up_ne (by omega), up_eq], by rw [up_ne (by omega), up_eq, tkE, if_pos (by omega), if_neg (by omega), hg], by rw [up_ne (by omega), up_ne (by omega), up_eq, kd, if_pos (by omega), if_neg hl, if_pos hg], fun _ => by rw [up_eq, vl, tkE, if_pos (by omega), if_neg (by omega), hg]⟩, fun k j q => by rw [up_ne (by omega), up_ne (by omega), up_ne (by omega), up_ne (by omega), up_ne (by omega)]⟩)
          | (exact V_vret dX2_nextToken_174 rfl ⟨⟨by omega, by rw [up_ne (by omega), up_ne (by omega), up_ne (by omega), up_eq], by rw [up_eq, tkE, if_pos (by omega), if_pos (by have := srt_v (ch T s); omega)], by rw [up_ne (by omega), up_eq, kd, if_pos (by omega), if_neg hl, if_neg hg], fun h => by rw [kd, if_pos (by omega), if_neg hl, if_neg hg] at h; omega⟩, fun k j q => by rw [up_ne (by omega), up_ne (by omega), up_ne (by omega), up_ne (by omega)]⟩)
      · have hg : srt (ch T s) = 2 := by
          by_cases q9 : srt (ch T s) = 2
          · exact q9
          · rw [if_neg q9] at hz3; omega
        refine V_aload_n dX2_nextToken_147 rfl ?_
        refine V_iconst dX2_nextToken_148 ?_
        refine V_putI (ci := 2) (j := 6) (ji := 6) dX2_nextToken_149 s_1 rfl rfl i_X2_nextToken_X2 tyX2_ok nmX2 (by decide) f_X2_nextToken_46 rfl rfl rfl ?_
        refine V_aload_n dX2_nextToken_152 rfl ?_
        refine V_vV0 dX2_nextToken_153 o_X2_nextToken_123 s_1 rfl (Nat.le_of_ble_eq_true rfl) (c_X2_readDigits G l (hT.keep (by rw [up_ne (by omega), up_ne (by omega), up_ne (by omega)]) (fun j => by rw [up_ne (by omega), up_ne (by omega), up_ne (by omega)])) (by rw [up_ne (by omega), up_eq]; omega)) ?_
        rintro _ rfl
        rw [up_ne (w := up (up w 1 4 s) 1 5 s) (k := 1) (j := 6) (k' := 1) (j' := 5) (by omega), up_eq]
        refine V_goto (tgt := 174) dX2_nextToken_156 (by decide) ?_
        first
          | (exact V_vret dX2_nextToken_174 rfl ⟨⟨by omega, by rw [up_ne (by omega), up_ne (by omega), up_eq], by rw [up_ne (by omega), up_eq, tkE, if_neg (by omega)], by rw [up_eq, kd, if_neg (by omega)], fun h => by rw [kd, if_neg (by omega)] at h; omega⟩, fun k j q => by rw [up_ne (by omega), up_ne (by omega), up_ne (by omega)]⟩)
          | (exact V_vret dX2_nextToken_174 rfl ⟨⟨by omega, by rw [up_ne (by omega), up_ne (by omega), up_ne (by omega), up_ne (by omega), up_eq], by rw [up_ne (by omega), up_eq, tkE, if_pos (by omega), if_neg (by omega), hg], by rw [up_ne (by omega), up_ne (by omega), up_eq, kd, if_pos (by omega), if_neg hl, if_pos hg], fun _ => by rw [up_eq, vl, tkE, if_pos (by omega), if_neg (by omega), hg]⟩, fun k j q => by rw [up_ne (by omega), up_ne (by omega), up_ne (by omega), up_ne (by omega), up_ne (by omega)]⟩)
          | (exact V_vret dX2_nextToken_174 rfl ⟨⟨by omega, by rw [up_ne (by omega), up_ne (by omega), up_ne (by omega), up_eq], by rw [up_eq, tkE, if_pos (by omega), if_pos (by have := srt_v (ch T s); omega)], by rw [up_ne (by omega), up_eq, kd, if_pos (by omega), if_neg hl, if_neg hg], fun h => by rw [kd, if_pos (by omega), if_neg hl, if_neg hg] at h; omega⟩, fun k j q => by rw [up_ne (by omega), up_ne (by omega), up_ne (by omega), up_ne (by omega)]⟩)
    · have hl : srt (ch T s) = 1 := by
        by_cases q9 : srt (ch T s) = 1
        · exact q9
        · rw [if_neg q9] at hz; omega
      refine V_aload_n dX2_nextToken_88 rfl ?_
      refine V_iconst dX2_nextToken_89 ?_
      refine V_putI (ci := 2) (j := 6) (ji := 6) dX2_nextToken_90 s_1 rfl rfl i_X2_nextToken_X2 tyX2_ok nmX2 (by decide) f_X2_nextToken_46 rfl rfl rfl ?_
      refine l2_X2_nextToken G l ((T.length : Int) - s).toNat s _ (by omega) (by omega) (hT.keep (by rw [up_ne (by omega), up_ne (by omega), up_ne (by omega)]) (fun j => by rw [up_ne (by omega), up_ne (by omega), up_ne (by omega)])) (by rw [up_ne (by omega), up_eq]) ?_
      exact V_vret dX2_nextToken_174 rfl ⟨⟨by omega, by rw [up_ne (by omega), up_ne (by omega), up_ne (by omega), up_eq], by rw [up_eq, tkE, if_pos (by omega), if_neg (by omega), hl], by rw [up_ne (by omega), up_eq, kd, if_pos (by omega), if_pos hl], fun h => by rw [kd, if_pos (by omega), if_pos hl] at h; omega⟩, fun k j q => by rw [up_ne (by omega), up_ne (by omega), up_ne (by omega), up_ne (by omega)]⟩
  · refine V_aload_n dX2_nextToken_65 rfl ?_
    refine V_iconst dX2_nextToken_66 ?_
    refine V_putI (ci := 2) (j := 6) (ji := 6) dX2_nextToken_67 s_1 rfl rfl i_X2_nextToken_X2 tyX2_ok nmX2 (by decide) f_X2_nextToken_46 rfl rfl rfl ?_
    refine V_goto (tgt := 174) dX2_nextToken_70 (by decide) ?_
    first
      | (exact V_vret dX2_nextToken_174 rfl ⟨⟨by omega, by rw [up_ne (by omega), up_ne (by omega), up_eq], by rw [up_ne (by omega), up_eq, tkE, if_neg (by omega)], by rw [up_eq, kd, if_neg (by omega)], fun h => by rw [kd, if_neg (by omega)] at h; omega⟩, fun k j q => by rw [up_ne (by omega), up_ne (by omega), up_ne (by omega)]⟩)
      | (exact V_vret dX2_nextToken_174 rfl ⟨⟨by omega, by rw [up_ne (by omega), up_ne (by omega), up_ne (by omega), up_ne (by omega), up_eq], by rw [up_ne (by omega), up_eq, tkE, if_pos (by omega), if_neg (by omega), hg], by rw [up_ne (by omega), up_ne (by omega), up_eq, kd, if_pos (by omega), if_neg hl, if_pos hg], fun _ => by rw [up_eq, vl, tkE, if_pos (by omega), if_neg (by omega), hg]⟩, fun k j q => by rw [up_ne (by omega), up_ne (by omega), up_ne (by omega), up_ne (by omega), up_ne (by omega)]⟩)
      | (exact V_vret dX2_nextToken_174 rfl ⟨⟨by omega, by rw [up_ne (by omega), up_ne (by omega), up_ne (by omega), up_eq], by rw [up_eq, tkE, if_pos (by omega), if_pos (by have := srt_v (ch T s); omega)], by rw [up_ne (by omega), up_eq, kd, if_pos (by omega), if_neg hl, if_neg hg], fun h => by rw [kd, if_pos (by omega), if_neg hl, if_neg hg] at h; omega⟩, fun k j q => by rw [up_ne (by omega), up_ne (by omega), up_ne (by omega), up_ne (by omega)]⟩)

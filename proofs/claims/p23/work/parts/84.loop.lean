/-! ===== 84 the law: its loop ===== -/
set_option maxRecDepth 100000 in
set_option maxHeartbeats 4000000 in
theorem lw_loop {G : Gb} {l : Launch} {b Ln : Nat} {xs : Nat → Int32} (hL : Ln ≤ 2048) : ∀ (n : Nat) (i c : Int) (σ : SG) (w : Wd), 0 ≤ i → i ≤ 2100 → (Ln : Int) < i + 4 * n + 4 → c + n ≤ 1000 → SC c σ w → SM c σ w → LV G l b Ln xs 18 i [] w := by
  intro n
  induction n with
  | zero =>
    intro i c σ w h0 h1 h2 h3 hc hm
    refine LV_i3 dL_law_18 (LV_a0 dL_law_19 (LV_len dL_law_20 (LV_iconst dL_law_21 (LV_isub dL_law_22 ?_))))
    refine LV_gt (tgt := 768) dL_law_23 (by decide) (by omega) (by omega) (fun q => ?_) (fun q => ?_)
    · exact LV_iconst dL_law_768 (LV_end dL_law_769)
    · exact absurd q (by omega)
  | succ n ih =>
    intro i c σ w h0 h1 h2 h3 hc hm
    refine LV_i3 dL_law_18 (LV_a0 dL_law_19 (LV_len dL_law_20 (LV_iconst dL_law_21 (LV_isub dL_law_22 ?_))))
    refine LV_gt (tgt := 768) dL_law_23 (by decide) (by omega) (by omega) (fun q => ?_) (fun q => ?_)
    · exact LV_iconst dL_law_768 (LV_end dL_law_769)
    · refine LV_a0 dL_law_26 (LV_i3 dL_law_27 (LV_ild dL_law_28 (by omega) (LV_bipush dL_law_29 rfl (LV_iand dL_law_31 ?_))))
      have hr : inR (bAnd (sx xs i) 31) := iZ_rng _
      have go : ∀ (c' : Int) (σ' : SG) (w' : Wd), c' ≤ c + 1 → SC c' σ' w' → SM c' σ' w' → LV G l b Ln xs 762 i [] w' := fun c' σ' w' hc' s1 s2 => LV_inc dL_law_762 (LV_goto (tgt := 18) dL_law_765 (by decide) (ih (i + 4) c' σ' w' (by omega) (by omega) (by omega) (by omega) s1 s2))
      have go1 : ∀ (σ' : SG) (w' : Wd), SC (c + 1) σ' w' → SM (c + 1) σ' w' → LV G l b Ln xs 762 i [] w' := fun σ' w' s1 s2 => go (c + 1) σ' w' (Int.le_refl _) s1 s2
      clear ih
      generalize bAnd (sx xs i) 31 = v at hr ⊢
      rcases (show (v < 0 ∨ 21 < v) ∨ v = 0 ∨ v = 1 ∨ v = 2 ∨ v = 3 ∨ v = 4 ∨ v = 5 ∨ v = 6 ∨ v = 7 ∨ v = 8 ∨ v = 9 ∨ v = 10 ∨ v = 11 ∨ v = 12 ∨ v = 13 ∨ v = 14 ∨ v = 15 ∨ v = 16 ∨ v = 17 ∨ v = 18 ∨ v = 19 ∨ v = 20 ∨ v = 21 by omega) with h | h | h | h | h | h | h | h | h | h | h | h | h | h | h | h | h | h | h | h | h | h | h
      · exact LV_tswO (tgt := 762) dL_law_32 hr h (by decide) (go c σ w (by omega) hc hm)
      · exact LV_tswI (v := 0) (off := 104) (tgt := 136) dL_law_32 h (by omega) rfl (by decide) (lc_write hc hm (by omega) h0 (by omega) go1)
      · exact LV_tswI (v := 1) (off := 167) (tgt := 199) dL_law_32 h (by omega) rfl (by decide) (lc_erase hc hm (by omega) h0 (by omega) go1)
      · exact LV_tswI (v := 2) (off := 180) (tgt := 212) dL_law_32 h (by omega) rfl (by decide) (lc_fault hc hm (by omega) h0 (by omega) go1)
      · exact LV_tswI (v := 3) (off := 193) (tgt := 225) dL_law_32 h (by omega) rfl (by decide) (lc_wood hc hm (by omega) h0 (by omega) go1)
      · exact LV_tswI (v := 4) (off := 206) (tgt := 238) dL_law_32 h (by omega) rfl (by decide) (lc_tree hc hm (by omega) h0 (by omega) go1)
      · exact LV_tswI (v := 5) (off := 239) (tgt := 271) dL_law_32 h (by omega) rfl (by decide) (lc_loan hc hm (by omega) h0 (by omega) go1)
      · exact LV_tswI (v := 6) (off := 272) (tgt := 304) dL_law_32 h (by omega) rfl (by decide) (lc_as hc hm (by omega) h0 (by omega) go1)
      · exact LV_tswI (v := 7) (off := 305) (tgt := 337) dL_law_32 h (by omega) rfl (by decide) (lc_borrow hc hm (by omega) h0 (by omega) go1)
      · exact LV_tswI (v := 8) (off := 338) (tgt := 370) dL_law_32 h (by omega) rfl (by decide) (lc_days hc hm (by omega) h0 (by omega) go1)
      · exact LV_tswI (v := 9) (off := 361) (tgt := 393) dL_law_32 h (by omega) rfl (by decide) (lc_fire hc hm (by omega) h0 (by omega) go1)
      · exact LV_tswI (v := 10) (off := 384) (tgt := 416) dL_law_32 h (by omega) rfl (by decide) (lc_sell hc hm (by omega) h0 (by omega) go1)
      · exact LV_tswI (v := 11) (off := 417) (tgt := 449) dL_law_32 h (by omega) rfl (by decide) (lc_keep hc hm (by omega) h0 (by omega) go1)
      · exact LV_tswI (v := 12) (off := 440) (tgt := 472) dL_law_32 h (by omega) rfl (by decide) (lc_back hc hm (by omega) h0 (by omega) go1)
      · exact LV_tswI (v := 13) (off := 463) (tgt := 495) dL_law_32 h (by omega) rfl (by decide) (lc_later hc hm (by omega) h0 (by omega) go1)
      · exact LV_tswI (v := 14) (off := 496) (tgt := 528) dL_law_32 h (by omega) rfl (by decide) (lc_all hc hm (by omega) h0 (by omega) go1)
      · exact LV_tswI (v := 15) (off := 529) (tgt := 561) dL_law_32 h (by omega) rfl (by decide) (lc_clear hc hm (by omega) h0 (by omega) go1)
      · exact LV_tswI (v := 16) (off := 542) (tgt := 574) dL_law_32 h (by omega) rfl (by decide) (lc_hut hc hm (by omega) h0 (by omega) go1)
      · exact LV_tswI (v := 17) (off := 585) (tgt := 617) dL_law_32 h (by omega) rfl (by decide) (lc_enough hc hm (by omega) h0 (by omega) go1)
      · exact LV_tswI (v := 18) (off := 608) (tgt := 640) dL_law_32 h (by omega) rfl (by decide) (lc_rid hc hm (by omega) h0 (by omega) go1)
      · exact LV_tswI (v := 19) (off := 641) (tgt := 673) dL_law_32 h (by omega) rfl (by decide) (lc_grandson hc hm (by omega) h0 (by omega) go1)
      · exact LV_tswI (v := 20) (off := 664) (tgt := 696) dL_law_32 h (by omega) rfl (by decide) (lc_toWhom hc hm (by omega) h0 (by omega) go1)
      · exact LV_tswI (v := 21) (off := 707) (tgt := 739) dL_law_32 h (by omega) rfl (by decide) (lc_count hc hm (by omega) h0 (by omega) go1)

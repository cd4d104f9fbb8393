/-! ===== 82r rid: both answers are one ===== -/
theorem rid_all : ∀ p : Fin 11, ∀ q : Fin 2, ∀ n : Fin 7, poN (rdT ((p.val : Nat) : Int) ((q.val : Nat) : Int)) n.val 1 = (if ((q.val : Nat) : Int) = 0 then ((p.val ^ n.val : Nat) : Int) else ((10 ^ n.val : Nat) : Int)) / ((Nat.gcd (10 ^ n.val) (p.val ^ n.val) : Nat) : Int) := by decide +kernel
theorem gl_mem6 {w : Wd} {k : Nat} {v : Int} (h : v ∈ gl w k 0 6) : ∃ i : Int, 0 ≤ i ∧ i < 6 ∧ w k i = v := by
  unfold gl at h
  obtain ⟨i, hi, e⟩ := List.mem_map.mp h
  have h6 := List.mem_range.mp hi
  exact ⟨(i : Int), by omega, by omega, by rw [← e, Int.zero_add]⟩
theorem aRid_eq {c : Int} {σ : SG} {w : Wd} (hc : SC c σ w) (p q : Int) : aRid σ p q = aRidM σ p q := by
  unfold aRid aRidM
  by_cases h : 0 ≤ p ∧ p ≤ 10 ∧ 0 ≤ q ∧ q ≤ 1
  · rw [if_pos h, if_pos h]
    have ho : okAS c σ.2.2.1 := by rw [← hc.2.2.1.1]; exact hc.2.2.1.2.1.2
    have s6 : pc10 (rdS σ) ≤ 6 := by
      unfold rdS
      refine pwF_6 ⟨by rw [← hc.tP']; exact gl_len _ _ _ _, fun v hv => ?_⟩ (fun x hx => (ho.2.2.2.2.2 x hx).1)
      rw [← hc.tP'] at hv
      obtain ⟨i, h0, h1, rfl⟩ := gl_mem6 hv
      exact (hc.2.1.2.2.2.2.1 i h0 h1).2.2.2.2
    have k := rid_all ⟨p.toNat, by omega⟩ ⟨q.toNat, by omega⟩ ⟨pc10 (rdS σ), by omega⟩
    dsimp only at k
    rw [Int.toNat_of_nonneg h.1, Int.toNat_of_nonneg h.2.2.1] at k
    exact k
  · rw [if_neg h, if_neg h]

/-! ===== 86 what the tables say at the start ===== -/
theorem ao_row {args : Array Value} {s : State} (h : (Cond.arrayOver (.array .int)).before args s = true) : ∃ (comp c : ClassId) (k : Class), s.vm.findClass "[I" = some comp ∧ s.vm.classes[c]? = some k ∧ k.kind = .array comp (.array .int) ∧ s.vm.findClass "[[I" = some c := by
  have e1 : (FieldType.array .int).toString = "[I" := by decide
  simp only [Cond.before, Cond.holds, Cond.value, beq_iff_eq, e1] at h
  cases hc : s.vm.findClass "[I" with
  | none => simp [hc] at h
  | some comp =>
    rw [hc] at h
    simp only [Option.bind_some, Option.bind_eq_some_iff, Option.map_eq_some_iff] at h
    obtain ⟨c, hi, k, hk, hq⟩ := h
    obtain ⟨hlt, hp, -⟩ := Array.findIdx?_eq_some_iff_getElem.mp hi
    rw [show s.vm.classes[c] = k from (Array.getElem?_eq_some_iff.mp hk).2] at hp
    cases hkd : k.kind with
    | array cp ty =>
      rw [hkd] at hq hp
      simp at hq hp
      exact ⟨comp, c, k, rfl, hk, by rw [hkd, hp, hq.1], hq.2⟩
    | _ => rw [hkd] at hq; simp at hq
theorem tb_i0 : Cond.instantiable RX0 5 ∈ lw_tbl := by decide +kernel
theorem tb_i1 : Cond.instantiable RX1 10 ∈ lw_tbl := by decide +kernel
theorem tb_i2 : Cond.instantiable RX2 8 ∈ lw_tbl := by decide +kernel
theorem tb_i3 : Cond.instantiable RX3 10 ∈ lw_tbl := by decide +kernel
theorem tb_i4 : Cond.instantiable RX4 7 ∈ lw_tbl := by decide +kernel
theorem tb_i5 : Cond.instantiable RX5 21 ∈ lw_tbl := by decide +kernel
theorem tb_aI : Cond.arrayClass .int ∈ lw_tbl := by decide +kernel
theorem tb_aZ : Cond.arrayClass .boolean ∈ lw_tbl := by decide +kernel
theorem tb_oS : Cond.arrayOver (.object "TreeDebts$State") ∈ lw_tbl := by decide +kernel
theorem tb_oA : Cond.arrayOver (.array .int) ∈ lw_tbl := by decide +kernel
theorem tb_n0 : Cond.methodLinkNest "TreeDebts" 9 yX2_init "TreeDebts" ∈ lw_tbl := by decide +kernel
theorem tb_n1 : Cond.methodLinkNest "TreeDebts$Text" 17 yX3_init "TreeDebts" ∈ lw_tbl := by decide +kernel
theorem tb_n2 : Cond.methodLinkNest "TreeDebts" 18 yX3_init "TreeDebts" ∈ lw_tbl := by decide +kernel
theorem tb_n3 : Cond.methodLinkNest "TreeDebts" 25 yX1_init "TreeDebts" ∈ lw_tbl := by decide +kernel
theorem tb_n4 : Cond.methodLinkNest "TreeDebts" 43 yX0_init "TreeDebts" ∈ lw_tbl := by decide +kernel
theorem tb_f : Cond.fieldLinkNest RX3 49 "TreeDebts" "OVER" "[I" "TreeDebts" ∈ lw_tbl := by decide +kernel
theorem tb_lO : Cond.laysStatic "TreeDebts" "OVER" "[I" ∈ lw_tbl := by decide +kernel
theorem tb_dO : Cond.initialized "TreeDebts" ∈ lw_tbl := by decide +kernel
theorem tb_lC : Cond.laysStatic "java/lang/String" "COMPACT_STRINGS" "Z" ∈ lw_tbl := by decide +kernel
theorem tb_dC : Cond.initialized "java/lang/String" ∈ lw_tbl := by decide +kernel
theorem tb_lQ : Cond.laysStatic "jdk/internal/util/Preconditions" "SIOOBE_FORMATTER" "Ljava/util/function/BiFunction;" ∈ lw_tbl := by decide +kernel
theorem tb_dQ : Cond.initialized "jdk/internal/util/Preconditions" ∈ lw_tbl := by decide +kernel
theorem tb_s : ∀ i, i < 8 → Cond.stringRef RX2 (scIx.getD i 0) (scTx.getD i "") ∈ lw_tbl := by decide +kernel
theorem fl_ex : ∀ i, i < 8 → Cond.exactly (Term.string RX2 (scIx.getD i 0)) "java/lang/String" ∈ flatC (Jvm.Cond.and given_1 narrow_1) := by decide +kernel
theorem fl_co : ∀ i, i < 8 → Cond.eq (.field (Term.string RX2 (scIx.getD i 0)) "java/lang/String" "coder" "B") (.int 0) ∈ flatC (Jvm.Cond.and given_1 narrow_1) := by decide +kernel
theorem fl_ar : ∀ i, i < 8 → Cond.arrayOf (Term.field (Term.string RX2 (scIx.getD i 0)) "java/lang/String" "value" "[B") .byte ∈ flatC (Jvm.Cond.and given_1 narrow_1) := by decide +kernel
theorem fl_le : ∀ i, i < 8 → Cond.eq (.length (Term.field (Term.string RX2 (scIx.getD i 0)) "java/lang/String" "value" "[B")) (.int (Int32.ofNat (scLen.getD i 0))) ∈ flatC (Jvm.Cond.and given_1 narrow_1) := by decide +kernel
theorem fl_el : ∀ i, i < 8 → ∀ j, j < scLen.getD i 0 → Cond.eq (.elem (Term.field (Term.string RX2 (scIx.getD i 0)) "java/lang/String" "value" "[B") (.int (Int32.ofNat j))) (.int ((scByt.getD i []).getD j 0)) ∈ flatC (Jvm.Cond.and given_1 narrow_1) := by decide +kernel
theorem fl_ne : ∀ i, i < 8 → ∀ j, j < 8 → i ≠ j → Cond.not (Cond.eq (Term.string RX2 (scIx.getD i 0)) (Term.string RX2 (scIx.getD j 0))) ∈ flatC (Jvm.Cond.and given_1 narrow_1) ∨ Cond.not (Cond.eq (Term.string RX2 (scIx.getD j 0)) (Term.string RX2 (scIx.getD i 0))) ∈ flatC (Jvm.Cond.and given_1 narrow_1) := by decide +kernel
theorem fl_oa : Cond.arrayOf (Term.static "TreeDebts" "OVER" "[I") .int ∈ flatC (Jvm.Cond.and given_1 narrow_1) := by decide +kernel
theorem fl_ol : Cond.eq (.length (Term.static "TreeDebts" "OVER" "[I")) (.int (Int32.ofNat 5)) ∈ flatC (Jvm.Cond.and given_1 narrow_1) := by decide +kernel
theorem fl_oe : ∀ j, j < 5 → Cond.eq (.elem (Term.static "TreeDebts" "OVER" "[I") (.int (Int32.ofNat j))) (.int (iZ (ovL.getD j 0))) ∈ flatC (Jvm.Cond.and given_1 narrow_1) := by decide +kernel
theorem fl_c : Cond.eq (Term.static "java/lang/String" "COMPACT_STRINGS" "Z") (.int 1) ∈ flatC (Jvm.Cond.and given_1 narrow_1) := by decide +kernel
theorem fl_q : Cond.isRef (Term.static "jdk/internal/util/Preconditions" "SIOOBE_FORMATTER" "Ljava/util/function/BiFunction;") ∈ flatC (Jvm.Cond.and given_1 narrow_1) := by decide +kernel
set_option maxHeartbeats 4000000 in
theorem tab_start {s : State} {A : Array Value} (hts : ∀ w ∈ lw_tbl, w.before A s = true) : ∃ (D : va_G) (C : Nat → ClassId), tbF D C s := by
  obtain ⟨c0, i0, k0⟩ := u_known hts inX0 (hts _ tb_i0)
  obtain ⟨c1, i1, k1⟩ := u_known hts inX1 (hts _ tb_i1)
  obtain ⟨c2, i2, k2⟩ := u_known hts inX2 (hts _ tb_i2)
  obtain ⟨c3, i3, k3⟩ := u_known hts inX3 (hts _ tb_i3)
  obtain ⟨c4, i4, k4⟩ := u_known hts inX4 (hts _ tb_i4)
  obtain ⟨c5, i5, k5⟩ := u_known hts inX5 (hts _ tb_i5)
  obtain ⟨cI, kI, xI, fI, hkI, kdI⟩ := Cond.arrayClass_spec (hts _ tb_aI)
  obtain ⟨cZ, kZ, xZ, fZ, hkZ, kdZ⟩ := Cond.arrayClass_spec (hts _ tb_aZ)
  obtain ⟨xS, cS, kS, fS, -, hkS, kdS, nS⟩ := Cond.arrayOver_spec (hts _ tb_oS)
  obtain ⟨xA, cA, kA, fA, hkA, kdA, nA⟩ := ao_row (hts _ tb_oA)
  have e : xA = cI := Option.some.inj (fA.symm.trans fI)
  subst e
  refine ⟨(fun c => match c with | 0 => c0 | 1 => c1 | 2 => c2 | 3 => c3 | 4 => c4 | _ => c5, fun c => match c with | 0 => i0 | 1 => i1 | 2 => i2 | 3 => i3 | 4 => i4 | _ => i5), fun c => match c with | 0 => xA | 1 => cZ | 2 => cS | _ => cA, ⟨fun c q hq => ?_, fun k q hq => ?_⟩, ⟨kA, kI, xI, hkA, kdA, hkI, kdI⟩, ⟨va_Nw.of rfl (hts _ tb_n0), va_Nw.of rfl (hts _ tb_n1), va_Nw.of rfl (hts _ tb_n2), va_Nw.of rfl (hts _ tb_n3), va_Nw.of rfl (hts _ tb_n4)⟩, va_AO.of (hts _ tb_oS)⟩
  · match c, hq with
    | 0, hq => cases hq; exact k0
    | 1, hq => cases hq; exact k1
    | 2, hq => cases hq; exact k2
    | 3, hq => cases hq; exact k3
    | 4, hq => cases hq; exact k4
    | 5, hq => cases hq; exact k5
    | n + 6, hq => cases hq
  · match k, hq with
    | 0, hq => cases hq; exact ⟨fun N z => ⟨(fun k h => by cases h), kI, hkI, xI, kdI⟩, fI⟩
    | 1, hq => cases hq; exact ⟨fun N z => ⟨(fun k h => by cases h), kZ, hkZ, xZ, kdZ⟩, fZ⟩
    | 2, hq => cases hq; exact ⟨fun N z => ⟨(fun k h => by cases h), kS, hkS, xS, kdS⟩, kS, xS, hkS, kdS, fS, nS⟩
    | 3, hq => cases hq; exact ⟨fun N z => ⟨(fun k h => by cases h), kA, hkA, xA, kdA⟩, nA⟩
    | n + 4, hq => cases hq
set_option maxHeartbeats 4000000 in
theorem gl_start {s : State} {A : Array Value} {D : va_G} {C : Nat → ClassId} (hts : ∀ w ∈ lw_tbl, w.before A s = true) (hgv : (Jvm.Cond.and given_1 narrow_1).before A s = true) (hB : tbF D C s) : ∃ (K Vv : Nat → Nat) (O : Nat), gGl (D, gAt s.heap.size, C, K, Vv, O) s := by
  have hs := flat_of_before _ hgv
  have hA : ∀ a : Nat, a < s.heap.size → ¬ (∃ k : Nat, k < 83 ∧ gAt s.heap.size k = a) := by
    rintro a ha ⟨k, -, e⟩
    unfold gAt at e
    omega
  obtain ⟨K, Vv, hS, hK⟩ := vk_Sof (N := 8) (tm := fun i => Term.string RX2 (scIx.getD i 0)) (len := scLen) (byt := scByt) (by decide) (fun i hi => hs _ (fl_ex i hi)) (fun i hi => hs _ (fl_co i hi)) (fun i hi => hs _ (fl_ar i hi)) (fun i hi => hs _ (fl_le i hi)) (fun i hi j hj => hs _ (fl_el i hi j hj)) (fun i j hi hj e => (fl_ne i hi j hj e).imp (fun h => hs _ h) (fun h => hs _ h)) hA
  obtain ⟨t, ht, hT⟩ := va_Tof (tm := Term.static "TreeDebts" "OVER" "[I") (ty := .int) (N := 5) (f := fun j => .int (iZ (ovL.getD j 0))) (by decide) (hs _ fl_oa) (va_eqt (hs _ fl_ol)) (fun j hj => va_eqt (hs _ (fl_oe j hj))) hA
  exact ⟨K, Vv, t, hB.1, gAt_inj _, va_Zref (hts _ tb_lO) (hts _ tb_dO) ht hA, hT, va_Nw.of rfl (hts _ tb_f), hS, fun i hi => vk_R.of (hts _ (tb_s i hi)) (hK i hi), va_Zof (hts _ tb_lC) (hts _ tb_dC) (va_eqt (hs _ fl_c)) hA, va_Zqof (hts _ tb_lQ) (hts _ tb_dQ) (hs _ fl_q) hA⟩

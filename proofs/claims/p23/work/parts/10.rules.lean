/-! ===== 10 rules that name what is read ===== -/
section VE
variable {G : Gb} {l : Launch} {M : MB} {Qc : Array Value → State → Outcome → State → Prop} {pc : Nat} {L : List (Option Value)} {st : List Value} {w : Wd}
theorem V_ialdE {kk n : Nat} {i z : Int} (hd : decode M.1 pc = .ok (.iaload, 1)) (hs : shL[kk]? = some (shA 0 n)) (hi : 0 ≤ i ∧ i < (n : Int)) (hz : w kk i = z) (k : V G l M Qc (pc + 1) L (.int (iZ z) :: st) w) : V G l M Qc pc L (.int (iZ i) :: .ref (gA G kk) :: st) w := V_iald hd hs hi (by rw [hz]; exact k)
theorem V_getIE {kk ci idx j N : Nat} {ji z : Int} {fl : List (Option Nat)} {C0 : String} {T : u_T} (hd : decode M.1 pc = .ok (.getfield idx, 3)) (hs : shL[kk]? = some (shO ci fl)) (hc : vwCl[ci]? = some (C0, T, N)) (hj : fl[j]? = some none) (hin : ∀ x ∈ u_ws C0 T N, x ∈ M.2.2.2.2.1) (hN : j < N) (hl0 : Cond.fieldLink M.2.2.1 idx (T j).1 (T j).2.1 (T j).2.2.1 ∈ M.2.2.2.2.1) (hji : (j : Int) = ji) (hz : w kk ji = z)
    (k : V G l M Qc (pc + 3) L (.int (iZ z) :: st) w) : V G l M Qc pc L (.ref (gA G kk) :: st) w := V_getI hd hs hc hj hin hN hl0 hji (by rw [hz]; exact k)
/-- the number on top of the stack, by another name -/
theorem V_top {a b : Int} (h : a = b) (k : V G l M Qc pc L (.int (iZ b) :: st) w) : V G l M Qc pc L (.int (iZ a) :: st) w := by rw [h]; exact k
end VE

/-! the class's run as a whole -/
def nx (i rs : Nat) : Nat := if i < rs then rs else i
theorem sN_stp (P : PG) (tr : Bool) (i : Nat) (s : RSt) : sN (stp P tr i s) ≤ sN s + 1 := by
  unfold stp
  split
  · exact Nat.le_succ _
  · split
    · exact Nat.le_succ _
    · split
      · split <;> exact Nat.le_succ _
      · split
        · exact Nat.le_succ _
        · split
          · exact Nat.le_succ _
          · split
            · split <;> exact Nat.le_succ _
            · split
              · exact Nat.le_succ _
              · exact Nat.le_refl _
theorem nx_go {i rs : Nat} (h : i < rs) : nx (i + 1) rs = nx i rs := by
  unfold nx
  rw [if_pos h]
  split <;> omega
theorem run_step {P : PG} (ok : OkP P) {tr : Bool} {i rs : Nat} {s q : RSt} (hi : i < pNi P) (hr : rs ≤ i) (hT : sT s = -9) (h : rnF P tr (pNi P) (nx i rs) s = q) : rnF P tr (pNi P) (nx (i + 1) (rsm P i rs s)) (stp P tr i s) = q := by
  have e1 : nx i rs = i := by unfold nx; rw [if_neg (by omega)]
  rw [e1] at h
  obtain ⟨f, hf⟩ : ∃ f, pNi P = f + 1 := ⟨pNi P - 1, by omega⟩
  have e2 : rnF P tr (pNi P) i s = rnF P tr f (i + 1 + skp P i s) (stp P tr i s) := by
    rw [hf, rnF, if_pos ⟨by omega, hT⟩]
  rw [e2] at h
  have e3 : nx (i + 1) (rsm P i rs s) = i + 1 + skp P i s := by
    unfold nx rsm skp
    by_cases z : pFd P i 0 = 7 ∧ sG s (pFd P i 1) = 0
    · rw [if_pos z, if_pos z, if_pos (by have := (ok_sk ok hi z.1).2.1; omega)]
    · rw [if_neg z, if_neg z, if_neg (by omega)]
  rw [e3, ← h]
  exact rnF_fuel (by omega) (by omega)
theorem rsm_le {P : PG} (ok : OkP P) {i rs : Nat} {s : RSt} (hi : i < pNi P) (h : rs ≤ 40) : rsm P i rs s ≤ 40 := by
  have := ok.2.2.1
  unfold rsm
  split
  · rename_i z
    have := (ok_sk ok hi z.1).2.2
    omega
  · exact h
theorem run_end {P : PG} {tr : Bool} {i rs : Nat} {s q : RSt} (h : rnF P tr (pNi P) (nx i rs) s = q) (z : pNi P ≤ i ∨ ¬ sT s = -9) : s = q := by
  rw [← h]
  refine (rnF_end ?_).symm
  rintro ⟨w1, w2⟩
  rcases z with z | z
  · unfold nx at w1
    split at w1 <;> omega
  · exact z w2

theorem if_ad {f : Nat → Nat} (h : f 0 = 6) : ifd f 1 = f 1 ∧ ifd f 7 = f 2 ∧ ifd f 8 = f 3 := by
  unfold ifd
  refine ⟨?_, if_pos h, if_pos h⟩
  show (if f 0 = 1 ∨ f 0 = 2 then f 4 else if 5 ≤ f 0 then f 1 else 0) = f 1
  rw [if_neg (by omega), if_pos (by omega)]
theorem if_nm {f : Nat → Nat} (h : f 0 = 5 ∨ f 0 = 7) : ifd f 1 = f 1 ∧ ifd f 9 = f 2 := by
  unfold ifd
  refine ⟨?_, if_pos h⟩
  show (if f 0 = 1 ∨ f 0 = 2 then f 4 else if 5 ≤ f 0 then f 1 else 0) = f 1
  rw [if_neg (by omega), if_pos (by omega)]
theorem if_o8 {f : Nat → Nat} (h : f 0 = 8) : ifd f 1 = f 1 := by
  unfold ifd
  show (if f 0 = 1 ∨ f 0 = 2 then f 4 else if 5 ≤ f 0 then f 1 else 0) = f 1
  rw [if_neg (by omega), if_pos (by omega)]
theorem ok_ad {P : PG} (h : OkP P) {i : Nat} (hi : i < pNi P) (hk : pFd P i 0 = 6) : pFd P i 1 < 8 ∧ pFd P i 2 < 8 ∧ pFd P i 3 < 8 := (h.2.2.2 i hi).2.2.2.2.2.1 hk
theorem ok_co {P : PG} (h : OkP P) {i : Nat} (hi : i < pNi P) (hk : pFd P i 0 = 5) : pFd P i 1 < 8 := (h.2.2.2 i hi).2.2.2.2.1 hk
theorem ok_sk {P : PG} (h : OkP P) {i : Nat} (hi : i < pNi P) (hk : pFd P i 0 = 7) : pFd P i 1 < 8 ∧ 1 ≤ pFd P i 2 ∧ pFd P i 2 ≤ 9 := (h.2.2.2 i hi).2.2.2.2.2.2.1 hk
theorem ok_ou {P : PG} (h : OkP P) {i : Nat} (hi : i < pNi P) (hk : pFd P i 0 = 8) : pFd P i 1 < 8 := (h.2.2.2 i hi).2.2.2.2.2.2.2 hk

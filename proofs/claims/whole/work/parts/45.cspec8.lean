/-! touching partitions -/
def rgO (P : PG) (r o l : Nat) : Prop := r < pNr P ∧ 1 ≤ l ∧ o + l ≤ pSz P r ∧ ∀ j, j < l → ptd P r (o + j) = true ∧ pof P r (o + j) = pof P r o
theorem rgO_a {P : PG} (ok : OkP P) {n : Nat} (hn : n < pNi P) (hk : isAc P n = true) : rgO P (pFd P n 1) (pFd P n 2) (pFd P n 3) := by
  obtain ⟨o1, o2, o3, o4, o5, o6⟩ := ok_ac ok hn hk
  exact ⟨o1, o2, o4, fun j hj => ⟨ptd_a hn hk hj rfl, pof_ac hn hk hj⟩⟩
theorem rgO_d {P : PG} (ok : OkP P) {n s : Nat} (hn : n < pNi P) (hk : pFd P n 0 = 3) (hs : s < pFd P n 5) : rgO P (pFd P n 1) (pFd P n 2 + s) (pln P n s) := by
  obtain ⟨o1, o2, o3, o4, o5, o6, o7⟩ := ok_cp ok hn hk
  obtain ⟨s1, s2, s3, s4⟩ := pln_spec hs
  exact ⟨o1, s1, by omega, fun j hj => ⟨ptd_d hn hk (j := s + j) (by omega) (by omega), pof_pd hs hj⟩⟩
theorem rgO_s {P : PG} (ok : OkP P) {n s : Nat} (hn : n < pNi P) (hk : pFd P n 0 = 3) (hs : s < pFd P n 5) : rgO P (pFd P n 3) (pFd P n 4 + s) (pln P n s) := by
  obtain ⟨o1, o2, o3, o4, o5, o6, o7⟩ := ok_cp ok hn hk
  obtain ⟨s1, s2, s3, s4⟩ := pln_spec hs
  exact ⟨o2, s1, by omega, fun j hj => ⟨ptd_s hn hk (j := s + j) (by omega) (by omega), pof_ps hs hj⟩⟩
def tch (P : PG) (r o l : Nat) (h : AH) : AH := if l = lnp P r (pof P r o) then h else sI h (pta P r o) 2 (bi false)
theorem W4_touch {P : PG} (ok : OkP P) {φ γ : Nat → Bool} {h : AH} {r o l : Nat} (W : W4 P φ γ h) (rg : rgO P r o l) : W4 P (fun x => φ x && rcx P r o l x) γ (tch P r o l h) := by
  obtain ⟨r1, r2, r3, r4⟩ := rg
  have e := rcx_len r2 r3 r4
  unfold tch
  by_cases z : l = lnp P r (pof P r o)
  · rw [if_pos z]
    have : (fun x => φ x && rcx P r o l x) = φ := by
      funext x
      unfold rcx
      rw [e, decide_eq_true z, Bool.or_true, Bool.and_true]
    rw [this]; exact W
  · rw [if_neg z]
    refine W4_set2 ok W r1 (by omega) (r4 0 (by omega)).1 ?_ (fun y hy => ?_)
    · show (φ _ && rcx P r o l _) = false
      unfold rcx
      rw [e, decide_eq_false z]; simp
    · show (φ y && rcx P r o l y) = φ y
      unfold rcx
      rw [decide_eq_true hy, Bool.true_or, Bool.and_true]
theorem FAn_tch {P : PG} (ok : OkP P) {h0 h : AH} {r o l : Nat} (F : FAn h0 h) (rg : rgO P r o l) : FAn h0 (tch P r o l h) := by
  obtain ⟨r1, r2, r3, r4⟩ := rg
  unfold tch
  split
  · exact F
  · exact FAn_pt ok F r1 (by omega) (r4 0 (by omega)).1
def rwk (h η : AH) : Prop := ∀ i, i < 24 → hI η (35 + i) = hI h (35 + i)
theorem rwk_pt {P : PG} {h0 h : AH} {r k j : Nat} {v : Int32} (F : rwk h0 h) : rwk h0 (sI h (pta P r k) j v) := fun i hi => by
  rw [hI_n (by unfold pta; omega)]; exact F i hi
theorem rwk_tch {P : PG} {h0 h : AH} {r o l : Nat} (F : rwk h0 h) : rwk h0 (tch P r o l h) := by
  unfold tch
  split
  · exact F
  · exact rwk_pt F
/-- what the pieces ahead of step s say of partition x -/
def tcF (P : PG) (n s x : Nat) : Bool := if pFd P n 0 = 3 then allN (if s < pFd P n 5 then s else pFd P n 5) (cpC P n x) else true
theorem tcF_0 {P : PG} {n s : Nat} (h : pcx P n s = 0) (x : Nat) : tcF P n (s + 1) x = tcF P n s x := by
  unfold tcF
  by_cases hk : pFd P n 0 = 3
  · rw [if_pos hk, if_pos hk]
    by_cases hs : s < pFd P n 5
    · have hp : pst P n s = false := by
        cases z : pst P n s with
        | false => rfl
        | true =>
          unfold pcx at h
          rw [if_pos ⟨hk, hs, z⟩] at h
          have := (pln_spec hs).1
          omega
      have hc : cpC P n x s = true := by
        unfold pst at hp
        unfold cpC
        rw [hp]; rfl
      have e : (if s + 1 < pFd P n 5 then s + 1 else pFd P n 5) = s + 1 := by split <;> omega
      rw [e, if_pos hs, allN_s, hc, Bool.and_true]
    · rw [if_neg hs, if_neg (by omega)]
  · rw [if_neg hk, if_neg hk]
theorem pcx_of {P : PG} {n s : Nat} (h : 0 < pcx P n s) : pFd P n 0 = 3 ∧ s < pFd P n 5 ∧ pst P n s = true ∧ pcx P n s = pln P n s := by
  unfold pcx at h ⊢
  by_cases z : pFd P n 0 = 3 ∧ s < pFd P n 5 ∧ pst P n s = true
  · rw [if_pos z]; exact ⟨z.1, z.2.1, z.2.2, rfl⟩
  · rw [if_neg z] at h; omega
theorem tcF_1 {P : PG} {n s : Nat} (h : 0 < pcx P n s) (x : Nat) : tcF P n (s + 1) x = ((tcF P n s x && rcx P (pFd P n 1) (pFd P n 2 + s) (pln P n s) x) && rcx P (pFd P n 3) (pFd P n 4 + s) (pln P n s) x) := by
  obtain ⟨hk, hs, hp, -⟩ := pcx_of h
  unfold tcF
  rw [if_pos hk, if_pos hk]
  have e : (if s + 1 < pFd P n 5 then s + 1 else pFd P n 5) = s + 1 := by split <;> omega
  rw [e, if_pos hs, allN_s, Bool.and_assoc]
  congr 1
  unfold pst at hp
  unfold cpC
  rw [hp]; rfl
theorem pcx_le {P : PG} (ok : OkP P) {n s : Nat} (hn : n < pNi P) : pcx P n s ≤ 16 := by
  by_cases z : 0 < pcx P n s
  · obtain ⟨hk, hs, hp, e⟩ := pcx_of z
    have := (pln_spec hs).2.1
    obtain ⟨o1, o2, o3, o4, o5, o6, o7⟩ := ok_cp ok hn hk
    omega
  · omega
theorem W4_eq {P : PG} {f f' g g' : Nat → Bool} {h : AH} (W : W4 P f g h) (e : ∀ x, f' x = f x) (e2 : ∀ x, g' x = g x) : W4 P f' g' h := by
  have a : f' = f := funext e
  have b : g' = g := funext e2
  rw [a, b]; exact W
/-- at the end of the pieces -/
theorem tcF_16 {P : PG} (ok : OkP P) {n : Nat} (hn : n < pNi P) (x : Nat) (hk : ¬ (pFd P n 0 = 1 ∨ pFd P n 0 = 2)) : tcF P n 16 x = prC P x n := by
  unfold tcF prC
  have : ¬ isAc P n = true := by
    unfold isAc
    simp only [Bool.or_eq_true, decide_eq_true_eq]
    exact hk
  rw [if_neg this]
  by_cases z : pFd P n 0 = 3
  · rw [if_pos z, if_pos z]
    obtain ⟨o1, o2, o3, o4, o5, o6, o7⟩ := ok_cp ok hn z
    have e : (if 16 < pFd P n 5 then 16 else pFd P n 5) = pFd P n 5 := by split <;> omega
    rw [e]
  · rw [if_neg z, if_neg z]
theorem prC_ac {P : PG} {n : Nat} (x : Nat) (hk : pFd P n 0 = 1 ∨ pFd P n 0 = 2) : prC P x n = rcx P (pFd P n 1) (pFd P n 2) (pFd P n 3) x := by
  unfold prC
  rw [if_pos (by simp [isAc, hk])]
theorem tcF_n {P : PG} {n s : Nat} (x : Nat) (hk : ¬ pFd P n 0 = 3) : tcF P n s x = true := if_neg hk

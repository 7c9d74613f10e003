theorem smN_eq {f g : Nat → Nat} : ∀ {n : Nat}, (∀ i, i < n → f i = g i) → smN n f = smN n g := by
  intro n
  induction n with
  | zero => intro _; rfl
  | succ n ih => intro h; rw [smN_s, smN_s, ih (fun i hi => h i (by omega)), h n (by omega)]
theorem smN_mono (f : Nat → Nat) {n m : Nat} (h : n ≤ m) : smN n f ≤ smN m f := by
  induction m with
  | zero => rw [show n = 0 by omega]; exact Nat.le_refl _
  | succ m ih =>
    by_cases z : n = m + 1
    · rw [z]; exact Nat.le_refl _
    · rw [smN_s]; have := ih (by omega); omega
/-- the partitions' bytes are the record's, but for the padding -/
theorem sm_ln (P : PG) (r : Nat) : ∀ k, smN (cnt P r k) (lnf P r k) + cnN k (fun j => !ptd P r j) = k := by
  intro k
  induction k with
  | zero => rfl
  | succ k ih =>
    rw [cnN_s]
    by_cases hp : ptd P r k = true
    · have e0 : (if (!ptd P r k) = true then cnN k (fun j => !ptd P r j) + 1 else cnN k (fun j => !ptd P r j)) = cnN k (fun j => !ptd P r j) := if_neg (by rw [hp]; simp)
      rw [e0]
      by_cases hb : bgn P r k = true
      · have hc0 : cnt P r (k + 1) = cnt P r k + 1 := by rw [cnt_s, if_pos hb]
        have e1 : smN (cnt P r k) (lnf P r (k + 1)) = smN (cnt P r k) (lnf P r k) := smN_eq (fun i hi => by rw [lnf_s, if_neg (by omega)])
        have e2 : lnf P r (k + 1) (cnt P r k) = 1 := by rw [lnf_s, if_pos ⟨hp, hc0.symm⟩, if_pos hb]
        rw [hc0, smN_s, e1, e2]
        omega
      · have hc0 : cnt P r (k + 1) = cnt P r k := by rw [cnt_s, if_neg hb]
        have hc1 := cnt_pos hp
        obtain ⟨c, hc⟩ : ∃ c, cnt P r k = c + 1 := ⟨cnt P r k - 1, by omega⟩
        have e1 : smN c (lnf P r (k + 1)) = smN c (lnf P r k) := smN_eq (fun i hi => by rw [lnf_s, if_neg (by omega)])
        have e2 : lnf P r (k + 1) c = lnf P r k c + 1 := by rw [lnf_s, if_pos ⟨hp, by omega⟩, if_neg hb]
        rw [hc, smN_s] at ih
        rw [hc0, hc, smN_s, e1, e2]
        omega
    · have hb : ¬ bgn P r k = true := by unfold bgn; simp [hp]
      have hc0 : cnt P r (k + 1) = cnt P r k := by rw [cnt_s, if_neg hb]
      have e0 : (if (!ptd P r k) = true then cnN k (fun j => !ptd P r j) + 1 else cnN k (fun j => !ptd P r j)) = cnN k (fun j => !ptd P r j) + 1 := if_pos (by simpa using hp)
      have e1 : smN (cnt P r k) (lnf P r (k + 1)) = smN (cnt P r k) (lnf P r k) := smN_eq (fun i hi => by rw [lnf_s, if_neg (fun w => hp w.1)])
      rw [e0, hc0, e1]
      omega
theorem pad_ln (P : PG) (r : Nat) : smN (npt P r) (lnp P r) + pad P r = pSz P r := sm_ln P r (pSz P r)
theorem pcx_pos {P : PG} {n s : Nat} (hk : pFd P n 0 = 3) (hs : s < pFd P n 5) : 0 < pcx P n s ↔ pst P n s = true := by
  unfold pcx
  have := (pln_spec hs).1
  by_cases z : pst P n s = true
  · rw [if_pos ⟨hk, hs, z⟩]; exact ⟨fun _ => z, fun _ => by omega⟩
  · rw [if_neg (fun w => z w.2.2)]; exact ⟨fun h => absurd h (by omega), fun h => absurd h z⟩
theorem pcs_0 {P : PG} {n s : Nat} (hk : pFd P n 0 = 3) (h : pcx P n s = 0) : cnN (mn5 P n (s + 1)) (pst P n) = cnN (mn5 P n s) (pst P n) := by
  unfold mn5
  by_cases hs : s < pFd P n 5
  · have e : (if s + 1 < pFd P n 5 then s + 1 else pFd P n 5) = s + 1 := by split <;> omega
    rw [e, if_pos hs, cnN_s, if_neg]
    intro z
    have := (pcx_pos hk hs).mpr z
    omega
  · rw [if_neg hs, if_neg (by omega)]
theorem pcs_1 {P : PG} {n s : Nat} (h : 0 < pcx P n s) : cnN (mn5 P n (s + 1)) (pst P n) = cnN (mn5 P n s) (pst P n) + 1 := by
  obtain ⟨hk, hs, hp, -⟩ := pcx_of h
  unfold mn5
  have e : (if s + 1 < pFd P n 5 then s + 1 else pFd P n 5) = s + 1 := by split <;> omega
  rw [e, if_pos hs, cnN_s, if_pos hp]
theorem pth_s (P : PG) (i f s y : Nat) : pth P i (f + 1) s y = if pst P i s = true then (if y = 0 then pln P i s else pth P i f (s + 1) (y - 1)) else pth P i f (s + 1) y := rfl
theorem pth_n0 {P : PG} {n s y : Nat} (hk : pFd P n 0 = 3) (h : pcx P n s = 0) : pth P n (pFd P n 5 - (s + 1)) (s + 1) y = pth P n (pFd P n 5 - s) s y := by
  by_cases hs : s < pFd P n 5
  · obtain ⟨f, hf⟩ : ∃ f, pFd P n 5 - s = f + 1 := ⟨pFd P n 5 - s - 1, by omega⟩
    rw [hf, pth_s, if_neg (fun z => by have := (pcx_pos hk hs).mpr z; omega), show pFd P n 5 - (s + 1) = f by omega]
  · rw [show pFd P n 5 - (s + 1) = 0 by omega, show pFd P n 5 - s = 0 by omega]; rfl
theorem pth_n1 {P : PG} {n s y : Nat} (h : 0 < pcx P n s) : pth P n (pFd P n 5 - s) s y = if y = 0 then pcx P n s else pth P n (pFd P n 5 - (s + 1)) (s + 1) (y - 1) := by
  obtain ⟨hk, hs, hp, e⟩ := pcx_of h
  obtain ⟨f, hf⟩ : ∃ f, pFd P n 5 - s = f + 1 := ⟨pFd P n 5 - s - 1, by omega⟩
  rw [hf, pth_s, if_pos hp, e, show pFd P n 5 - (s + 1) = f by omega]
/-- the length of piece y of the copy n, 0 if there is none -/
def lpc (P : PG) (n : Nat) (y : Int32) : Nat := if 0 ≤ y.toInt then pth P n (pFd P n 5) 0 (nt y) else 0

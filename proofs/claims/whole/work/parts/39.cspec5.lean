theorem lnf_pos (P : PG) (r : Nat) : ∀ k p, p < cnt P r k → 1 ≤ lnf P r k p := by
  intro k
  induction k with
  | zero => intro p h; exact absurd h (Nat.not_lt_zero _)
  | succ k ih =>
    intro p h
    rw [lnf_s]
    by_cases z : ptd P r k = true ∧ p + 1 = cnt P r (k + 1)
    · rw [if_pos z]
      by_cases y : bgn P r k = true
      · rw [if_pos y]; exact Nat.le_refl _
      · rw [if_neg y]; omega
    · rw [if_neg z]
      refine ih p ?_
      rw [cnt_s] at h z
      by_cases y : bgn P r k = true
      · rw [if_pos y] at h z
        have hp : ptd P r k = true := by unfold bgn at y; simp only [Bool.and_eq_true] at y; exact y.1
        have : p ≠ cnt P r k := fun w => z ⟨hp, by omega⟩
        omega
      · rw [if_neg y] at h; exact h
def nbr (a c : Nat) (x : Int32) : Nat := if 0 ≤ x.toInt ∧ x.toInt < c then a + 7 + nt x else a + 2
theorem nbr_n {a c p : Nat} (hp : p < c) (hc : c ≤ 16) : nbr a c (nI p) = a + 7 + p := by
  unfold nbr
  rw [i_n (by omega), if_pos (by omega), nt_n (by omega)]
theorem L3_pad {P : PG} {r k : Nat} {e : AH} {a : Nat} (l : L3 P r k e a) (hp : ptd P r k = false) : L3 P r (k + 1) e a := by
  obtain ⟨l1, l2, l3⟩ := l
  have hb : ¬ bgn P r k = true := by unfold bgn; rw [hp]; simp
  have hc : cnt P r (k + 1) = cnt P r k := by rw [cnt_s, if_neg hb]
  refine ⟨by rw [hc]; exact l1, fun p h => ?_, fun j hj => ?_⟩
  · rw [hc] at h
    rw [bgf_s, if_neg (fun w => hb w.1), lnf_s, if_neg (fun w => by rw [hp] at w; cases w.1)]
    exact l2 p h
  · rw [l3 j hj]
    congr 1
    by_cases z : j < k ∧ ptd P r j = true
    · rw [if_pos z, if_pos ⟨by omega, z.2⟩]
    · rw [if_neg z, if_neg]
      rintro ⟨w1, w2⟩
      by_cases y : j = k
      · rw [y, hp] at w2; cases w2
      · exact z ⟨by omega, w2⟩
theorem L3_grow {P : PG} {r k : Nat} {e1 e2 : AH} {a p l0 : Nat} (hk : k < 16) (hp : ptd P r k = true) (hc : cnt P r (k + 1) = p + 1) (hl : lnf P r (k + 1) p = l0 + 1) (G1 : hI e1 a 7 = nI (p + 1)) (G2 : hI e1 (a + 7 + p) 0 = nI (bgf P r (k + 1) p) ∧ hI e1 (a + 7 + p) 3 = bi (esc P r)) (G3 : ∀ q, q < p → PT e1 (a + 7 + q) (bgf P r k q) (lnf P r k q) (!esc P r && isWn (lnf P r k q)) (esc P r)) (G4 : ∀ j, j < 16 → hP e1 (a + 3) j = some (if j < k ∧ ptd P r j = true then a + 7 + pof P r j else a + 2)) (he2 : e2 = sI (sI (sP e1 (a + 3) k (some (a + 7 + p))) (a + 7 + p) 1 (nI (l0 + 1))) (a + 7 + p) 2 (bi (!esc P r && isWn (l0 + 1)))) : L3 P r (k + 1) e2 a := by
  have hI2 : ∀ b, b ≠ a + 7 + p → hI e2 b = hI e1 b := fun b hb => by rw [he2, hI_n hb, hI_n hb]; rfl
  refine ⟨by rw [hI2 _ (by omega), hc]; exact G1, fun q hq => ?_, fun j hj => ?_⟩
  · rw [hc] at hq
    by_cases z : q = p
    · subst z
      rw [hl]
      refine ⟨?_, ?_, ?_, ?_⟩
      · rw [he2, hI_s, if_neg (by omega), hI_s, if_neg (by omega)]; exact G2.1
      · rw [he2, hI_s, if_neg (by omega), hI_s, if_pos ⟨rfl, rfl⟩]
      · rw [he2, hI_s, if_pos ⟨rfl, rfl⟩]
      · rw [he2, hI_s, if_neg (by omega), hI_s, if_neg (by omega)]; exact G2.2
    · have hb : ¬ (bgn P r k = true ∧ q = cnt P r k) := by
        rintro ⟨w1, w2⟩
        rw [cnt_s, if_pos w1] at hc
        omega
      rw [bgf_s, if_neg hb, lnf_s, if_neg (by omega)]
      exact PT_of (G3 q (by omega)) (hI2 _ (by omega))
  · have : hP e2 (a + 3) j = if j = k then some (a + 7 + p) else hP e1 (a + 3) j := by
      rw [he2]
      show (if a + 3 = a + 3 ∧ j = k then some (a + 7 + p) else hP e1 (a + 3) j) = _
      simp
    rw [this]
    by_cases z : j = k
    · subst z
      rw [if_pos rfl, if_pos ⟨by omega, hp⟩]
      unfold pof
      rw [hc]; rfl
    · rw [if_neg z, G4 j hj]
      congr 1
      by_cases y : j < k ∧ ptd P r j = true
      · rw [if_pos y, if_pos ⟨by omega, y.2⟩]
      · rw [if_neg y, if_neg]
        rintro ⟨w1, w2⟩
        exact y ⟨by omega, w2⟩
theorem bgn_of {P : PG} {r k : Nat} (hp : ptd P r k = true) {b : Bool} (hg : (!gon P r k) = b) : bgn P r k = b := by
  unfold bgn
  rw [hp, hg]; rfl

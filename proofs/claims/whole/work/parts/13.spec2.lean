/-! the scan of a record's bytes -/
def bgn (P : PG) (r k : Nat) : Bool := ptd P r k && !gon P r k
def cnt (P : PG) (r : Nat) : Nat → Nat
  | 0 => 0
  | k + 1 => if bgn P r k = true then cnt P r k + 1 else cnt P r k
def bgf (P : PG) (r : Nat) : Nat → Nat → Nat
  | 0, _ => 0
  | k + 1, p => if bgn P r k = true ∧ p = cnt P r k then k else bgf P r k p
def lnf (P : PG) (r : Nat) : Nat → Nat → Nat
  | 0, _ => 0
  | k + 1, p => if ptd P r k = true ∧ p + 1 = cnt P r (k + 1) then (if bgn P r k = true then 1 else lnf P r k p + 1) else lnf P r k p
/-- the number of the partition of byte k -/
def pof (P : PG) (r k : Nat) : Nat := cnt P r (k + 1) - 1
def npt (P : PG) (r : Nat) : Nat := cnt P r (pSz P r)
def bgp (P : PG) (r p : Nat) : Nat := bgf P r (pSz P r) p
def lnp (P : PG) (r p : Nat) : Nat := lnf P r (pSz P r) p
theorem acI_of_j {P : PG} {r k : Nat} (h : jnd P r k = true) : acc P r k = true ∧ acc P r (k + 1) = true := by
  obtain ⟨i, hi, h2⟩ := anyN_iff.mp h
  simp only [Bool.and_eq_true] at h2
  refine ⟨anyN_iff.mpr ⟨i, hi, h2.1⟩, anyN_iff.mpr ⟨i, hi, ?_⟩⟩
  have h3 := h2.1
  simp only [acI, Bool.and_eq_true] at h3 ⊢
  exact ⟨h3.1, h3.2.1, h2.2⟩
/-- a byte that goes on has the byte ahead of it in a partition -/
theorem gon_prev {P : PG} {r k : Nat} (h : gon P r k = true) : 0 < k ∧ ptd P r (k - 1) = true := by
  unfold gon at h
  unfold ptd
  split at h
  · rename_i he
    simp only [decide_eq_true_eq] at h
    exact ⟨h, by simp [he]⟩
  · split at h
    · cases h
    · refine ⟨by omega, ?_⟩
      simp only [Bool.or_eq_true, Bool.and_eq_true] at h
      rcases h with h | ⟨h, -⟩
      · simp [(acI_of_j h).1]
      · simp [h]
theorem cnt_le (P : PG) (r : Nat) : ∀ k, cnt P r k ≤ k
  | 0 => Nat.le_refl _
  | k + 1 => by
    have := cnt_le P r k
    unfold cnt
    split <;> omega
theorem cnt_mono1 (P : PG) (r k : Nat) : cnt P r k ≤ cnt P r (k + 1) ∧ cnt P r (k + 1) ≤ cnt P r k + 1 := by
  show cnt P r k ≤ (if bgn P r k = true then cnt P r k + 1 else cnt P r k) ∧ (if bgn P r k = true then cnt P r k + 1 else cnt P r k) ≤ _
  split <;> omega
theorem cnt_mono (P : PG) (r : Nat) {j k : Nat} (h : j ≤ k) : cnt P r j ≤ cnt P r k := by
  induction k with
  | zero => rw [Nat.le_zero.mp h]; exact Nat.le_refl _
  | succ k ih =>
    rcases Nat.lt_or_eq_of_le h with h1 | h1
    · exact Nat.le_trans (ih (by omega)) (cnt_mono1 P r k).1
    · rw [h1]; exact Nat.le_refl _
theorem cnt_pos {P : PG} {r : Nat} : ∀ {k : Nat}, ptd P r k = true → 1 ≤ cnt P r (k + 1)
  | k, h => by
    show 1 ≤ if bgn P r k = true then cnt P r k + 1 else cnt P r k
    split
    · omega
    · rename_i hb
      have hg : gon P r k = true := by
        cases hh : gon P r k with
        | true => rfl
        | false => exact absurd (by simp [bgn, h, hh]) hb
      obtain ⟨h0, h1⟩ := gon_prev hg
      obtain ⟨j, rfl⟩ : ∃ j, k = j + 1 := ⟨k - 1, by omega⟩
      exact cnt_pos (k := j) h1
termination_by k => k
theorem cnt_s (P : PG) (r k : Nat) : cnt P r (k + 1) = if bgn P r k = true then cnt P r k + 1 else cnt P r k := rfl
theorem bgf_s (P : PG) (r k p : Nat) : bgf P r (k + 1) p = if bgn P r k = true ∧ p = cnt P r k then k else bgf P r k p := rfl
theorem lnf_s (P : PG) (r k p : Nat) : lnf P r (k + 1) p = if ptd P r k = true ∧ p + 1 = cnt P r (k + 1) then (if bgn P r k = true then 1 else lnf P r k p + 1) else lnf P r k p := rfl
/-- the beginning of the partition of byte k is at or ahead of k; it is k just if k begins -/
theorem bgf_lt (P : PG) (r : Nat) : ∀ k p, p < cnt P r k → bgf P r k p < k
  | 0, p, h => absurd h (Nat.not_lt_zero _)
  | k + 1, p, h => by
    rw [bgf_s]
    split
    · omega
    · rename_i hn
      rw [cnt_s] at h
      split at h
      · rename_i hb
        have : p < cnt P r k := by
          rcases Nat.lt_or_eq_of_le (Nat.le_of_lt_succ h) with h1 | h1
          · exact h1
          · exact absurd ⟨hb, h1⟩ hn
        have := bgf_lt P r k p this
        omega
      · have := bgf_lt P r k p h
        omega
/-- later bytes don't change the beginnings of earlier partitions -/
theorem bgf_stay (P : PG) (r : Nat) {p : Nat} : ∀ {j k : Nat}, j ≤ k → p < cnt P r j → bgf P r k p = bgf P r j p := by
  intro j k h
  induction k with
  | zero => intro _; rw [Nat.le_zero.mp h]
  | succ k ih =>
    intro hp
    rcases Nat.lt_or_eq_of_le h with h1 | h1
    · have h2 : j ≤ k := by omega
      have h3 := cnt_mono P r h2
      rw [bgf_s, if_neg (by omega)]
      exact ih h2 hp
    · rw [h1]
theorem bgn_pof {P : PG} {r k : Nat} (h : ptd P r k = true) (hk : k < pSz P r) : bgp P r (pof P r k) = k ↔ bgn P r k = true := by
  have h1 := cnt_pos h
  have h2 := cnt_mono1 P r k
  unfold bgp pof
  rw [bgf_stay P r (j := k + 1) (by omega) (by omega)]
  rw [bgf_s]
  rw [cnt_s] at h1 ⊢
  by_cases hb : bgn P r k = true
  · simp [hb]
  · simp only [hb]
    simp [hb] at h1
    simp only [false_and, if_false, iff_false, Bool.false_eq_true]
    have := bgf_lt P r k (cnt P r k - 1) (by omega)
    omega
theorem pof_lt {P : PG} {r k : Nat} (h : ptd P r k = true) (hk : k < pSz P r) : pof P r k < npt P r := by
  have h1 := cnt_pos h
  have h2 := cnt_mono P r (show k + 1 ≤ pSz P r by omega)
  unfold pof npt
  omega
theorem npt_le (P : PG) (r : Nat) : npt P r ≤ pSz P r := cnt_le P r _

theorem hI_s (h : AH) (a j : Nat) (v : Int32) (b i : Nat) : hI (sI h a j v) b i = if b = a ∧ i = j then v else hI h b i := rfl
theorem hI_n {h : AH} {a j : Nat} {v : Int32} {b : Nat} (e : b ≠ a) : hI (sI h a j v) b = hI h b := by
  funext i
  rw [hI_s, if_neg (fun w => e w.1)]
theorem RF_sI {h : AH} {m : Nat} {P : PG} {a j : Nat} {v : Int32} (W : RF h m P) (e : m + 1 ≠ a) : RF (sI h a j v) m P :=
  ⟨W.1, by rw [hI_n e]; exact W.2.1, W.2.2⟩
theorem RF_eq {h h' : AH} {m : Nat} {P : PG} (W : RF h m P) (e1 : h'.1 = h.1) (e2 : hP h' = hP h) (e3 : hI h' (m + 1) = hI h (m + 1)) : RF h' m P :=
  ⟨by rw [e1, e2]; exact W.1, by rw [e3]; exact W.2.1, W.2.2⟩
/-- the scan has come to byte k of record r -/
def FP (h0 h : AH) (m : Nat) (P : PG) (r k : Nat) : Prop :=
  (h.1 = h0.1 ∧ hJ h = hJ h0 ∧ hP h = hP h0) ∧ (∀ a, a ≠ m + 3 → a ≠ m + 4 → a ≠ m + 5 → a ≠ m + 6 → hI h a = hI h0 a) ∧ (∀ x, x < 16 * r ∨ 16 * r + 16 ≤ x → hI h (m + 3) x = hI h0 (m + 3) x ∧ hI h (m + 4) x = hI h0 (m + 4) x ∧ hI h (m + 5) x = hI h0 (m + 5) x) ∧ (∀ x, hI h (m + 6) x = hI h0 (m + 6) x) ∧
  (∀ j, j < k → hI h (m + 3) (16 * r + j) = if ptd P r j = true then nI (pof P r j) else -9) ∧ ∀ p, p < cnt P r k → hI h (m + 4) (16 * r + p) = nI (bgf P r k p) ∧ hI h (m + 5) (16 * r + p) = nI (lnf P r k p)
theorem FP.rf {h0 h : AH} {m : Nat} {P : PG} {r k : Nat} (W : RF h0 m P) (F : FP h0 h m P r k) : RF h m P := RF_eq W F.1.1 F.1.2.2 (F.2.1 _ (by omega) (by omega) (by omega) (by omega))
theorem FP_0 (h : AH) (m : Nat) (P : PG) (r : Nat) : FP h h m P r 0 := ⟨⟨rfl, rfl, rfl⟩, fun _ _ _ _ _ => rfl, fun _ _ => ⟨rfl, rfl, rfl⟩, fun _ => rfl, fun _ h => absurd h (Nat.not_lt_zero _), fun _ h => absurd h (Nat.not_lt_zero _)⟩
theorem FP_pad {h0 h : AH} {m : Nat} {P : PG} {r k : Nat} (F : FP h0 h m P r k) (hk : k < 16) (hp : ptd P r k = false) : FP h0 (sI h (m + 3) (16 * r + k) (-9)) m P r (k + 1) := by
  obtain ⟨f1, f2, f3, f4, f5, f6⟩ := F
  have hb : ¬ bgn P r k = true := by simp [bgn, hp]
  refine ⟨f1, fun a a1 a2 a3 a4 => ?_, fun x hx => ?_, fun x => ?_, fun j hj => ?_, fun p hq => ?_⟩
  · rw [hI_n a1]; exact f2 a a1 a2 a3 a4
  · rw [hI_s, if_neg (by omega), hI_s, if_neg (by omega), hI_s, if_neg (by omega)]; exact f3 x hx
  · rw [hI_s, if_neg (by omega)]; exact f4 x
  · rw [hI_s]
    by_cases e : j = k
    · subst e; rw [if_pos ⟨rfl, rfl⟩, if_neg (by simp [hp])]
    · rw [if_neg (by omega)]; exact f5 j (by omega)
  · rw [cnt_s, if_neg hb] at hq
    rw [hI_s, if_neg (by omega), hI_s, if_neg (by omega), bgf_s, if_neg (fun w => hb w.1), lnf_s, if_neg (by simp [hp])]
    exact f6 p hq
theorem FP_go {h0 h : AH} {m : Nat} {P : PG} {r k n : Nat} {v0 : Int32} (F : FP h0 h m P r k) (hn : n = cnt P r k) (hk : k < 16) (hp : ptd P r k = true) (hg : gon P r k = true) : FP h0 (sI (sI (sI h (m + 3) (16 * r + k) v0) (m + 3) (16 * r + k) (nI (n - 1))) (m + 5) (16 * r + n - 1) (hI (sI (sI h (m + 3) (16 * r + k) v0) (m + 3) (16 * r + k) (nI (n - 1))) (m + 5) (16 * r + n - 1) + nI 1)) m P r (k + 1) := by
  obtain ⟨f1, f2, f3, f4, f5, f6⟩ := F
  have hb : ¬ bgn P r k = true := by simp [bgn, hg]
  have h1 := cnt_pos hp
  have hc : cnt P r (k + 1) = n := by rw [cnt_s, if_neg hb, hn]
  rw [hc] at h1
  have h2 := cnt_le P r k
  refine ⟨f1, fun a a1 a2 a3 a4 => ?_, fun x hx => ?_, fun x => ?_, fun j hj => ?_, fun p hq => ?_⟩
  · rw [hI_n a3, hI_n a1, hI_n a1]; exact f2 a a1 a2 a3 a4
  · simp only [hI_s]
    rw [if_neg (by omega), if_neg (by omega), if_neg (by omega), if_neg (by omega), if_neg (by omega), if_neg (by omega), if_neg (by omega), if_neg (by omega), if_neg (by omega)]; exact f3 x hx
  · rw [hI_s, if_neg (by omega), hI_s, if_neg (by omega), hI_s, if_neg (by omega)]; exact f4 x
  · rw [hI_s, if_neg (by omega), hI_s]
    by_cases e : j = k
    · subst e; rw [if_pos ⟨rfl, rfl⟩, if_pos hp]; unfold pof; rw [hc]
    · rw [if_neg (by omega), hI_s, if_neg (by omega)]; exact f5 j (by omega)
  · rw [hc] at hq
    obtain ⟨g1, g2⟩ := f6 p (by omega)
    rw [bgf_s, if_neg (fun w => hb w.1), lnf_s, hc]
    refine ⟨by rw [hI_s, if_neg (by omega), hI_s, if_neg (by omega), hI_s, if_neg (by omega)]; exact g1, ?_⟩
    rw [hI_s]
    by_cases e : p + 1 = n
    · rw [if_pos ⟨rfl, by omega⟩, if_pos ⟨hp, e⟩, if_neg hb, show 16 * r + n - 1 = 16 * r + p by omega]
      rw [hI_s, if_neg (by omega), hI_s, if_neg (by omega), g2, nI_add]
    · rw [if_neg (by omega), if_neg (fun w => e w.2), hI_s, if_neg (by omega), hI_s, if_neg (by omega)]; exact g2
theorem FP_new {h0 h : AH} {m : Nat} {P : PG} {r k n : Nat} {v0 : Int32} (F : FP h0 h m P r k) (hn : n = cnt P r k) (hk : k < 16) (hp : ptd P r k = true) (hg : gon P r k = false) : FP h0 (sI (sI (sI (sI (sI h (m + 3) (16 * r + k) v0) (m + 4) (16 * r + n) (nI k)) (m + 5) (16 * r + n) (nI 0)) (m + 3) (16 * r + k) (nI (n + 1 - 1))) (m + 5) (16 * r + (n + 1) - 1) (hI (sI (sI (sI (sI h (m + 3) (16 * r + k) v0) (m + 4) (16 * r + n) (nI k)) (m + 5) (16 * r + n) (nI 0)) (m + 3) (16 * r + k) (nI (n + 1 - 1))) (m + 5) (16 * r + (n + 1) - 1) + nI 1)) m P r (k + 1) := by
  obtain ⟨f1, f2, f3, f4, f5, f6⟩ := F
  have hb : bgn P r k = true := by simp [bgn, hp, hg]
  have hc : cnt P r (k + 1) = n + 1 := by rw [cnt_s, if_pos hb, hn]
  have h2 := cnt_le P r k
  have ei : 16 * r + (n + 1) - 1 = 16 * r + n := by omega
  rw [ei]
  refine ⟨f1, fun a a1 a2 a3 a4 => ?_, fun x hx => ?_, fun x => ?_, fun j hj => ?_, fun p hq => ?_⟩
  · rw [hI_n a3, hI_n a1, hI_n a3, hI_n a2, hI_n a1]; exact f2 a a1 a2 a3 a4
  · obtain ⟨q1, q2, q3⟩ := f3 x hx
    refine ⟨?_, ?_, ?_⟩
    · rw [hI_s, if_neg (by omega), hI_s, if_neg (by omega), hI_s, if_neg (by omega), hI_s, if_neg (by omega), hI_s, if_neg (by omega)]; exact q1
    · rw [hI_s, if_neg (by omega), hI_s, if_neg (by omega), hI_s, if_neg (by omega), hI_s, if_neg (by omega), hI_s, if_neg (by omega)]; exact q2
    · rw [hI_s, if_neg (by omega), hI_s, if_neg (by omega), hI_s, if_neg (by omega), hI_s, if_neg (by omega), hI_s, if_neg (by omega)]; exact q3
  · rw [hI_s, if_neg (by omega), hI_s, if_neg (by omega), hI_s, if_neg (by omega), hI_s, if_neg (by omega), hI_s, if_neg (by omega)]; exact f4 x
  · rw [hI_s, if_neg (by omega), hI_s]
    by_cases e : j = k
    · subst e; rw [if_pos ⟨rfl, rfl⟩, if_pos hp]; unfold pof; rw [hc]
    · rw [if_neg (by omega), hI_s, if_neg (by omega), hI_s, if_neg (by omega), hI_s, if_neg (by omega)]; exact f5 j (by omega)
  · rw [hc] at hq
    rw [bgf_s, lnf_s, hc]
    by_cases e : p = n
    · subst e
      refine ⟨?_, ?_⟩
      · rw [if_pos ⟨hb, hn⟩, hI_s, if_neg (by omega), hI_s, if_neg (by omega), hI_s, if_neg (by omega), hI_s, if_pos ⟨rfl, rfl⟩]
      · rw [if_pos ⟨hp, rfl⟩, if_pos hb, hI_s, if_pos ⟨rfl, rfl⟩, hI_s, if_neg (by omega), hI_s, if_pos ⟨rfl, rfl⟩]; rfl
    · obtain ⟨g1, g2⟩ := f6 p (by omega)
      rw [if_neg (by omega), if_neg (by omega)]
      refine ⟨?_, ?_⟩
      · rw [hI_s, if_neg (by omega), hI_s, if_neg (by omega), hI_s, if_neg (by omega), hI_s, if_neg (by omega), hI_s, if_neg (by omega)]; exact g1
      · rw [hI_s, if_neg (by omega), hI_s, if_neg (by omega), hI_s, if_neg (by omega), hI_s, if_neg (by omega), hI_s, if_neg (by omega)]; exact g2
/-- record r's partitions are found -/
def PtR (h : AH) (m : Nat) (P : PG) (r : Nat) : Prop := hI h (m + 6) r = nI (npt P r) ∧ (∀ j, j < pSz P r → hI h (m + 3) (16 * r + j) = if ptd P r j = true then nI (pof P r j) else -9) ∧ ∀ p, p < npt P r → hI h (m + 4) (16 * r + p) = nI (bgp P r p) ∧ hI h (m + 5) (16 * r + p) = nI (lnp P r p)
/-- what findParts(r) does -/
def FR (h0 h : AH) (m : Nat) (P : PG) (r : Nat) : Prop :=
  (h.1 = h0.1 ∧ hJ h = hJ h0 ∧ hP h = hP h0) ∧ (∀ a, a ≠ m + 3 → a ≠ m + 4 → a ≠ m + 5 → a ≠ m + 6 → hI h a = hI h0 a) ∧ (∀ x, x < 16 * r ∨ 16 * r + 16 ≤ x → hI h (m + 3) x = hI h0 (m + 3) x ∧ hI h (m + 4) x = hI h0 (m + 4) x ∧ hI h (m + 5) x = hI h0 (m + 5) x) ∧ (∀ x, x ≠ r → hI h (m + 6) x = hI h0 (m + 6) x) ∧ PtR h m P r
theorem FP_end {h0 h : AH} {m : Nat} {P : PG} {r k n : Nat} (F : FP h0 h m P r k) (hk : k = pSz P r) (hn : n = cnt P r k) : FR h0 (sI h (m + 6) r (nI n)) m P r := by
  subst hk
  obtain ⟨f1, f2, f3, f4, f5, f6⟩ := F
  refine ⟨f1, fun a a1 a2 a3 a4 => ?_, fun x hx => ?_, fun x hx => ?_, ?_, fun j hj => ?_, fun p hq => ?_⟩
  · rw [hI_n a4]; exact f2 a a1 a2 a3 a4
  · rw [hI_s, if_neg (by omega), hI_s, if_neg (by omega), hI_s, if_neg (by omega)]; exact f3 x hx
  · rw [hI_s, if_neg (fun w => hx w.2)]; exact f4 x
  · rw [hI_s, if_pos ⟨rfl, rfl⟩, hn]; rfl
  · rw [hI_s, if_neg (by omega)]; exact f5 j hj
  · rw [hI_s, if_neg (by omega), hI_s, if_neg (by omega)]; exact f6 p hq

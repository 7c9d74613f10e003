theorem if_ac {f : Nat → Nat} (h : f 0 = 1 ∨ f 0 = 2) : ifd f 1 = f 4 ∧ ifd f 2 = f 1 ∧ ifd f 3 = f 2 ∧ ifd f 4 = f 3 := by
  unfold ifd
  refine ⟨if_pos h, if_pos (by omega), if_pos (by omega), ?_⟩
  show (if f 0 = 3 then f 5 else if f 0 ≤ 2 then f 3 else 0) = f 3
  rw [if_neg (by omega), if_pos (by omega)]
theorem if_cp {f : Nat → Nat} (h : f 0 = 3) : ifd f 2 = f 1 ∧ ifd f 3 = f 2 ∧ ifd f 4 = f 5 ∧ ifd f 5 = f 3 ∧ ifd f 6 = f 4 := by
  unfold ifd
  exact ⟨if_pos (by omega), if_pos (by omega), if_pos h, if_pos h, if_pos h⟩
theorem if_es {f : Nat → Nat} (h : f 0 = 4) : ifd f 2 = f 1 := by
  unfold ifd
  exact if_pos (by omega)
theorem if_ot {f : Nat → Nat} (h : 5 ≤ f 0) : ifd f 2 = 0 ∧ ifd f 1 = f 1 := by
  unfold ifd
  refine ⟨if_neg (by omega), ?_⟩
  show (if f 0 = 1 ∨ f 0 = 2 then f 4 else if 5 ≤ f 0 then f 1 else 0) = f 1
  rw [if_neg (by omega), if_pos h]
theorem xfd_lt {P : PG} {i : Nat} (h : i < pNi P) : xfd P i = pFd P i := if_pos h
/-- what the analysis may change -/
def FAn (h η : AH) : Prop := Fm 35 151 h η ∧ ∀ r, r < 4 → hI η (61 + 23 * r) = hI h (61 + 23 * r)
theorem FAn.rf (h : AH) : FAn h h := ⟨Fm.rf _ _ _, fun _ _ => rfl⟩
theorem FAn.tr {h0 h1 h2 : AH} (A : FAn h0 h1) (B : FAn h1 h2) : FAn h0 h2 := ⟨A.1.tr B.1, fun r hr => (B.2 r hr).trans (A.2 r hr)⟩
theorem FAn.cx {h0 h1 : AH} {P : PG} {U : Nat → Nat} (A : FAn h0 h1) (X : CX h0 P U) : CX h1 P U := A.1.cx X (by decide) (by decide)
theorem FAn_l {h η : AH} {r0 : Nat} (hr0 : r0 < 4) (F : Fm (59 + 23 * r0) (59 + 23 * r0 + 23) h η) (e : hI η (59 + 23 * r0 + 2) = hI h (59 + 23 * r0 + 2)) : FAn h η := by
  refine ⟨F.wd (by omega) (by omega), fun r hr => ?_⟩
  by_cases z : r = r0
  · subst z
    have : 61 + 23 * r = 59 + 23 * r + 2 := by omega
    rw [this]; exact e
  · exact (F.2.1 _ (by omega)).1
theorem FAn_i {h η : AH} (e1 : η.1 = h.1) (e2 : hP η = hP h) (e3 : ∀ b, b < 59 ∨ 151 ≤ b → hI η b = hI h b ∧ hJ η b = hJ h b) (e4 : ∀ r, r < 4 → hI η (61 + 23 * r) = hI h (61 + 23 * r)) : FAn h η := ⟨⟨e1, fun b hb => ⟨(e3 b (by omega)).1, (e3 b (by omega)).2, by rw [e2]⟩, fun b _ => by rw [e2]⟩, e4⟩
/-- all layouts, behind the first n instructions -/
def W1 (P : PG) (n : Nat) (h : AH) : Prop := ∀ r, r < 4 → L1 P r n h (59 + 23 * r) ∧ L3 P r 0 h (59 + 23 * r)
theorem jnN_n (P : PG) (r k n : Nat) : jnN P r k (n + 1) = (jnN P r k n || (decide (0 < k) && (acI P r (k - 1) n && hld (pFd P n 2) (pFd P n 3) k))) := by
  unfold jnN
  rw [anyN_s, Bool.and_or_distrib_left]
theorem W1_step {P : PG} {n : Nat} {h η : AH} (W : W1 P n h) (e7 : ∀ r, r < 4 → hI η (59 + 23 * r) 7 = hI h (59 + 23 * r) 7 ∧ hI η (59 + 23 * r) 6 = hI h (59 + 23 * r) 6) (eP : hP η = hP h) (e8 : ∀ r, r < 4 → hI η (59 + 23 * r) 8 = bi (anyN n (esI P r) || esI P r n)) (e4 : ∀ r, r < 4 → ∀ k, k < 16 → hI η (59 + 23 * r + 4) k = bi (anyN n (acI P r k) || acI P r k n) ∧ hI η (59 + 23 * r + 5) k = bi (jnN P r k n || (decide (0 < k) && (acI P r (k - 1) n && hld (pFd P n 2) (pFd P n 3) k))) ∧ hJ η (59 + 23 * r + 6) k = orB (cpd P n 1 r k) (orB (cpd P n 0 r k) (crN P r k n) (bt (2 * n))) (bt (2 * n + 1))) : W1 P (n + 1) η := by
  intro r hr
  obtain ⟨⟨l1, l2, l3⟩, m1, m2, m3⟩ := W r hr
  refine ⟨⟨by rw [(e7 r hr).2]; exact l1, e8 r hr, fun k hk => ?_⟩, by rw [(e7 r hr).1]; exact m1, fun p hp => absurd hp (Nat.not_lt_zero _), fun j hj => by rw [eP]; exact m3 j hj⟩
  rw [jnN_n, anyN_s, crN_s]
  exact e4 r hr k hk
theorem W1_ot {P : PG} {n : Nat} {h : AH} (W : W1 P n h) (hk : 5 ≤ pFd P n 0) : W1 P (n + 1) h := by
  have a1 : ∀ r k, acI P r k n = false := fun r k => by
    have q1 : ¬ pFd P n 0 = 1 := by omega
    have q2 : ¬ pFd P n 0 = 2 := by omega
    simp [acI, isAc, q1, q2]
  have a2 : ∀ s r k, cpd P n s r k = false := fun s r k => by
    have q1 : ¬ pFd P n 0 = 3 := by omega
    simp [cpd, q1]
  have a3 : ∀ r, esI P r n = false := fun r => by
    have q1 : ¬ pFd P n 0 = 4 := by omega
    simp [esI, q1]
  refine W1_step W (fun _ _ => ⟨rfl, rfl⟩) rfl (fun r hr => ?_) (fun r hr k hk => ?_)
  · rw [a3, Bool.or_false]; exact (W r hr).1.2.1
  · rw [a1, a1, a2, a2, Bool.or_false, Bool.false_and, Bool.and_false, Bool.or_false]; exact (W r hr).1.2.2 k hk
theorem W1_es {P : PG} {n : Nat} {h : AH} (W : W1 P n h) (hk : pFd P n 0 = 4) (hr1 : pFd P n 1 < 4) : FAn h (sI h (59 + 23 * pFd P n 1) 8 (bi true)) ∧ W1 P (n + 1) (sI h (59 + 23 * pFd P n 1) 8 (bi true)) := by
  have a1 : ∀ r k, acI P r k n = false := fun r k => by simp [acI, isAc, hk]
  have a2 : ∀ s r k, cpd P n s r k = false := fun s r k => by simp [cpd, hk]
  have a3 : ∀ r, esI P r n = decide (pFd P n 1 = r) := fun r => by simp [esI, hk]
  refine ⟨FAn_i rfl rfl (fun b hb => ⟨hI_n (by omega), rfl⟩) (fun r hr => hI_n (by omega)), W1_step W (fun r hr => ?_) rfl (fun r hr => ?_) (fun r hr k hk => ?_)⟩
  · rw [hI_s, hI_s, if_neg (by omega), if_neg (by omega)]; exact ⟨rfl, rfl⟩
  · rw [a3, hI_s]
    by_cases z : r = pFd P n 1
    · subst z; rw [if_pos ⟨rfl, rfl⟩]; simp
    · rw [if_neg (by omega), decide_eq_false (by omega), Bool.or_false]; exact (W r hr).1.2.1
  · rw [a1, a1, a2, a2, Bool.or_false, Bool.false_and, Bool.and_false, Bool.or_false, hI_n (by omega), hI_n (by omega)]; exact (W r hr).1.2.2 k hk
theorem W1_ac {P : PG} {n : Nat} {h η : AH} (W : W1 P n h) (hk : pFd P n 0 = 1 ∨ pFd P n 0 = 2) (hr1 : pFd P n 1 < 4) (q1 : η.1 = h.1) (q2 : hJ η = hJ h) (q3 : hP η = hP h) (q4 : ∀ b, b ≠ 59 + 23 * pFd P n 1 + 4 → b ≠ 59 + 23 * pFd P n 1 + 5 → hI η b = hI h b) (q5 : ∀ k, k < 16 → hI η (59 + 23 * pFd P n 1 + 4) k = bi (anyN n (acI P (pFd P n 1) k) || hld (pFd P n 2) (pFd P n 3) k) ∧ hI η (59 + 23 * pFd P n 1 + 5) k = bi (jnN P (pFd P n 1) k n || (decide (pFd P n 2 < k) && decide (k < pFd P n 2 + pFd P n 3)))) : FAn h η ∧ W1 P (n + 1) η := by
  have n3 : ¬ pFd P n 0 = 3 := by omega
  have n4 : ¬ pFd P n 0 = 4 := by omega
  have hac : isAc P n = true := by simp [isAc, hk]
  have a1 : ∀ r k, acI P r k n = (decide (pFd P n 1 = r) && hld (pFd P n 2) (pFd P n 3) k) := fun r k => by simp [acI, hac]
  have a2 : ∀ s r k, cpd P n s r k = false := fun s r k => by simp [cpd, n3]
  have a3 : ∀ r, esI P r n = false := fun r => by simp [esI, n4]
  refine ⟨FAn_i q1 q3 (fun b hb => ⟨q4 b (by omega) (by omega), by rw [q2]⟩) (fun r hr => q4 _ (by omega) (by omega)), W1_step W (fun r hr => ?_) q3 (fun r hr => ?_) (fun r hr k hk => ?_)⟩
  · rw [q4 _ (by omega) (by omega)]; exact ⟨rfl, rfl⟩
  · rw [a3, Bool.or_false, q4 _ (by omega) (by omega)]; exact (W r hr).1.2.1
  · rw [a1, a1, a2, a2, q2]
    by_cases z : r = pFd P n 1
    · subst z
      rw [(q5 k hk).1, (q5 k hk).2]
      refine ⟨by simp, congrArg bi ?_, ((W _ hr).1.2.2 k hk).2.2⟩
      congr 1
      simp only [hld, decide_true, Bool.true_and]
      rw [Bool.eq_iff_iff]
      simp only [Bool.and_eq_true, decide_eq_true_eq]
      omega
    · rw [decide_eq_false (by omega), Bool.false_and, Bool.or_false, Bool.false_and, Bool.false_and, Bool.and_false, Bool.or_false, q4 _ (by omega) (by omega), q4 _ (by omega) (by omega)]
      exact (W r hr).1.2.2 k hk
/-- one side of a copy -/
theorem W1_c1 {P : PG} {n s : Nat} {h η : AH} {R : Nat → Nat → Int64} (hs : s < 2) (hk : pFd P n 0 = 3) (hr1 : pFd P n (1 + 2 * s) < 4) (hR : ∀ r, r < 4 → ∀ k, k < 16 → hJ h (59 + 23 * r + 6) k = R r k) (q4 : ∀ b, b ≠ 59 + 23 * pFd P n (1 + 2 * s) + 6 → hJ η b = hJ h b) (q5 : ∀ k, k < 16 → hJ η (59 + 23 * pFd P n (1 + 2 * s) + 6) k = orB (hld (pFd P n (2 + 2 * s)) (pFd P n 5) k) (R (pFd P n (1 + 2 * s)) k) (bt (2 * n + s))) : ∀ r, r < 4 → ∀ k, k < 16 → hJ η (59 + 23 * r + 6) k = orB (cpd P n s r k) (R r k) (bt (2 * n + s)) := by
  intro r hr k hkk
  by_cases z : r = pFd P n (1 + 2 * s)
  · subst z
    rw [q5 k hkk]
    congr 1
    simp [cpd, hk]
  · have : cpd P n s r k = false := by
      have : ¬ pFd P n (1 + 2 * s) = r := fun w => z w.symm
      simp [cpd, this]
    rw [this, q4 _ (by omega), hR r hr k hkk]; rfl
theorem W1_cp {P : PG} {n : Nat} {h h1 η : AH} (W : W1 P n h) (hk : pFd P n 0 = 3) (A1 : h1.1 = h.1 ∧ hI h1 = hI h ∧ hP h1 = hP h) (A2 : η.1 = h1.1 ∧ hI η = hI h1 ∧ hP η = hP h1) (q1 : ∀ b, b < 59 ∨ 151 ≤ b → hJ h1 b = hJ h b ∧ hJ η b = hJ h1 b) (q2 : ∀ r, r < 4 → ∀ k, k < 16 → hJ η (59 + 23 * r + 6) k = orB (cpd P n 1 r k) (orB (cpd P n 0 r k) (crN P r k n) (bt (2 * n))) (bt (2 * n + 1))) : FAn h η ∧ W1 P (n + 1) η := by
  have a1 : ∀ r k, acI P r k n = false := fun r k => by simp [acI, isAc, hk]
  have a3 : ∀ r, esI P r n = false := fun r => by simp [esI, hk]
  have hIe : hI η = hI h := A2.2.1.trans A1.2.1
  refine ⟨FAn_i (A2.1.trans A1.1) (A2.2.2.trans A1.2.2) (fun b hb => ⟨by rw [hIe], (q1 b hb).2.trans (q1 b hb).1⟩) (fun r hr => by rw [hIe]), W1_step W (fun r hr => by rw [hIe]; exact ⟨rfl, rfl⟩) (A2.2.2.trans A1.2.2) (fun r hr => ?_) (fun r hr k hk => ?_)⟩
  · rw [a3, Bool.or_false, hIe]; exact (W r hr).1.2.1
  · rw [a1, a1, Bool.or_false, Bool.false_and, Bool.and_false, Bool.or_false, hIe]
    exact ⟨((W r hr).1.2.2 k hk).1, ((W r hr).1.2.2 k hk).2.1, q2 r hr k hk⟩
def lay (x : Int32) : Nat := if 0 ≤ x.toInt ∧ x.toInt < 4 then 59 + 23 * nt x else 11
theorem lay_n {r : Nat} (h : r < 4) : lay (nI r) = 59 + 23 * r := by
  unfold lay
  rw [i_n (by omega), if_pos (by omega), nt_n (by omega)]
theorem szx_lt {P : PG} {r : Nat} (h : r < pNr P) : szx P r = pSz P r := if_pos h

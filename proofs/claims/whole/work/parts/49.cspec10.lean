/-! the analysis is up to date -/
def AC (P : PG) (h : AH) : Prop := W4 P (prm P) (fun x => liv P x) h ∧ ∀ n, n < pNi P → ∀ s, s < 16 → hI h (35 + n) s = nI (pcx P n s)
def lv0 (P : PG) (n x : Nat) : Bool := esc P (x / 16) || anyN n (fun i => decide (pFd P i 0 = 2) && decide (x = acP P i))
def pr0 (P : PG) (n x : Nat) : Bool := prI P x && allN n (prC P x)
theorem lv0_s (P : PG) (n x : Nat) : lv0 P (n + 1) x = (lv0 P n x || (decide (pFd P n 0 = 2) && decide (x = acP P n))) := by
  unfold lv0
  rw [anyN_s, Bool.or_assoc]
theorem pr0_s (P : PG) (n x : Nat) : pr0 P (n + 1) x = (pr0 P n x && prC P x n) := by
  unfold pr0
  rw [allN_s, Bool.and_assoc]
theorem lv0_sd {P : PG} (ok : OkP P) : lsd P (lv0 P (pNi P)) := by
  intro x hv h
  refine LV_bs ?_
  unfold lv0 at h
  rw [Bool.or_eq_true, anyN_iff] at h
  rcases h with h | ⟨i, hi, h⟩
  · obtain ⟨r, p, hr, hp, e⟩ := hv
    have h1 := npt_le P r
    have h2 := (ok.2.1 r hr).2
    have e2 : x / 16 = r := by omega
    rw [e2] at h
    exact Or.inl ⟨r, p, hr, hp, e, h⟩
  · simp only [Bool.and_eq_true, decide_eq_true_eq] at h
    exact Or.inr ⟨i, hi, h.1, h.2⟩
theorem lv0_bs {P : PG} (ok : OkP P) : lbs P (lv0 P (pNi P)) := by
  intro x h
  unfold lv0
  rw [Bool.or_eq_true, anyN_iff]
  rcases h with ⟨r, p, hr, hp, e, h⟩ | ⟨i, hi, h1, h2⟩
  · have h1 := npt_le P r
    have h2 := (ok.2.1 r hr).2
    have e2 : x / 16 = r := by omega
    rw [e2]; exact Or.inl h
  · refine Or.inr ⟨i, hi, ?_⟩
    simp only [Bool.and_eq_true, decide_eq_true_eq]
    exact ⟨h1, h2⟩
theorem W4_vp {P : PG} {f f' g g' : Nat → Bool} {h : AH} (W : W4 P f g h) (e : ∀ x, vpl P x → f' x = f x ∧ g' x = g x) : W4 P f' g' h := by
  intro r hr
  obtain ⟨l1, l2, l3, l4, l5⟩ := W r hr
  refine ⟨l1, l2, l3, fun p hp => ?_, l5⟩
  have hx : r < pNr P := by
    by_cases z : r < pNr P
    · exact z
    · have : szx P r = 0 := if_neg z
      rw [this] at hp
      exact absurd hp (Nat.not_lt_zero _)
  have hv : vpl P (16 * r + p) := ⟨r, p, hx, by rw [szx_lt hx] at hp; exact hp, rfl⟩
  rw [(e _ hv).1, (e _ hv).2]
  exact l4 p hp
theorem AC_of {P : PG} {h : AH} {γ : Nat → Bool} (W : W4 P (pr0 P (pNi P)) γ h) (a : lsd P γ) (b : lbs P γ) (c : cls P γ) (hp : ∀ n, n < pNi P → ∀ s, s < 16 → hI h (35 + n) s = nI (pcx P n s)) : AC P h := ⟨W4_vp W (fun x hx => ⟨rfl, (liv_of a b c hx).symm⟩), hp⟩
/-- another layout has changed -/
theorem L1_nx {P : PG} {r n r0 : Nat} {h η : AH} (F : Fm (59 + 23 * r0) (59 + 23 * r0 + 23) h η) (hr : r ≠ r0) (l : L1 P r n h (59 + 23 * r)) : L1 P r n η (59 + 23 * r) := L1_of l (fun k _ _ => by rw [(F.2.1 _ (by omega)).1]) (F.2.1 _ (by omega)).1 (F.2.1 _ (by omega)).1 (F.2.1 _ (by omega)).2.1
theorem L3_nx {P : PG} {r k r0 : Nat} {h η : AH} (F : Fm (59 + 23 * r0) (59 + 23 * r0 + 23) h η) (hr : r ≠ r0) (hc : cnt P r k ≤ 16) (l : L3 P r k h (59 + 23 * r)) : L3 P r k η (59 + 23 * r) := by
  obtain ⟨l1, l2, l3⟩ := l
  exact ⟨by rw [(F.2.1 _ (by omega)).1]; exact l1, fun p hp => PT_of (l2 p hp) (F.2.1 _ (by omega)).1, fun j hj => by rw [(F.2.1 _ (by omega)).2.2]; exact l3 j hj⟩
theorem L13_0 {P : PG} {r : Nat} {η : AH} {a : Nat} (e6 : hI η a 6 = nI (szx P r)) (e7 : hI η a 7 = nI 0) (e8 : hI η a 8 = bi false) (e : ∀ k, k < 16 → hP η (a + 3) k = some (a + 2) ∧ hI η (a + 4) k = bi false ∧ hI η (a + 5) k = bi false ∧ hJ η (a + 6) k = 0) : L1 P r 0 η a ∧ L3 P r 0 η a := by
  refine ⟨⟨e6, e8, fun k hk => ⟨(e k hk).2.1, ?_, (e k hk).2.2.2⟩⟩, e7, fun p hp => absurd hp (Nat.not_lt_zero _), fun j hj => ?_⟩
  · rw [(e k hk).2.2.1]
    congr 1
    simp [jnN, anyN]
  · rw [(e j hj).1, if_neg (by omega)]
/-- the layouts ahead of r have their partitions -/
def W2 (P : PG) (r : Nat) (h : AH) : Prop := ∀ q, q < 4 → L1 P q (pNi P) h (59 + 23 * q) ∧ (q < r → L3 P q (szx P q) h (59 + 23 * q)) ∧ (r ≤ q → L3 P q 0 h (59 + 23 * q))
theorem W2_s {P : PG} (ok : OkP P) {r : Nat} {h η : AH} (hr : r < 4) (W : W2 P r h) (F : Fm (59 + 23 * r) (59 + 23 * r + 23) h η) (l1 : L1 P r (pNi P) η (59 + 23 * r)) (l3 : L3 P r (szx P r) η (59 + 23 * r)) : W2 P (r + 1) η := by
  intro q hq
  by_cases z : q = r
  · subst z
    exact ⟨l1, fun _ => l3, fun h => absurd h (by omega)⟩
  · obtain ⟨a, b, c⟩ := W q hq
    exact ⟨L1_nx F z a, fun h => L3_nx F z (cnt16 ok q) (b (by omega)), fun h => L3_nx F z (Nat.zero_le _) (c (by omega))⟩

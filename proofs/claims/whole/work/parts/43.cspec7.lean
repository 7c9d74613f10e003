/-! a partition's bytes lie together -/
theorem ptg (P : PG) (r : Nat) : ∀ k, (∀ j, j < k → ptd P r j = true → bgf P r k (pof P r j) ≤ j ∧ j < bgf P r k (pof P r j) + lnf P r k (pof P r j)) ∧ (0 < k → ptd P r (k - 1) = true → bgf P r k (cnt P r k - 1) + lnf P r k (cnt P r k - 1) = k) := by
  intro k
  induction k with
  | zero => exact ⟨fun j hj => absurd hj (Nat.not_lt_zero _), fun h => absurd h (Nat.not_lt_zero _)⟩
  | succ k ih =>
    obtain ⟨A, B⟩ := ih
    have hB : ptd P r k = true → bgf P r (k + 1) (cnt P r (k + 1) - 1) + lnf P r (k + 1) (cnt P r (k + 1) - 1) = k + 1 := by
      intro hp
      have hc := cnt_pos hp
      by_cases hb : bgn P r k = true
      · have hc0 : cnt P r (k + 1) = cnt P r k + 1 := by rw [cnt_s, if_pos hb]
        rw [hc0, Nat.add_sub_cancel, bgf_s, if_pos ⟨hb, rfl⟩, lnf_s, if_pos ⟨hp, hc0.symm⟩, if_pos hb]
      · have hc0 : cnt P r (k + 1) = cnt P r k := by rw [cnt_s, if_neg hb]
        have hg : gon P r k = true := by
          unfold bgn at hb
          rw [hp] at hb
          simpa using hb
        obtain ⟨g1, g2⟩ := gon_prev hg
        have := B g1 g2
        rw [bgf_s, if_neg (fun w => hb w.1), lnf_s, if_pos ⟨hp, by omega⟩, if_neg hb, hc0]
        omega
    refine ⟨fun j hj hp => ?_, fun _ hp => hB hp⟩
    by_cases z : j = k
    · subst z
      have h1 := hB hp
      have hc := cnt_pos hp
      have h2 := bgf_lt P r (j + 1) (cnt P r (j + 1) - 1) (by omega)
      unfold pof
      omega
    · have hA := A j (by omega) hp
      have hc := cnt_pos hp
      have hm := cnt_mono P r (show j + 1 ≤ k by omega)
      have hq : pof P r j < cnt P r k := by unfold pof; omega
      have e1 : bgf P r (k + 1) (pof P r j) = bgf P r k (pof P r j) := by rw [bgf_s, if_neg (by omega)]
      have e2 : lnf P r k (pof P r j) ≤ lnf P r (k + 1) (pof P r j) := by
        rw [lnf_s]
        by_cases y : ptd P r k = true ∧ pof P r j + 1 = cnt P r (k + 1)
        · rw [if_pos y]
          by_cases w : bgn P r k = true
          · have : cnt P r (k + 1) = cnt P r k + 1 := by rw [cnt_s, if_pos w]
            omega
          · rw [if_neg w]; omega
        · rw [if_neg y]; exact Nat.le_refl _
      omega
theorem ptg_in {P : PG} {r j : Nat} (hj : j < pSz P r) (hp : ptd P r j = true) : bgp P r (pof P r j) ≤ j ∧ j < bgp P r (pof P r j) + lnp P r (pof P r j) := (ptg P r _).1 j hj hp
/-- a range inside one partition is the whole of it just if it is as long -/
theorem rcx_len {P : PG} {r o l : Nat} (h1 : 1 ≤ l) (h2 : o + l ≤ pSz P r) (hp : ∀ j, j < l → ptd P r (o + j) = true ∧ pof P r (o + j) = pof P r o) : (decide (bgp P r (pof P r o) = o) && decide (lnp P r (pof P r o) = l)) = decide (l = lnp P r (pof P r o)) := by
  have a := ptg_in (P := P) (r := r) (j := o) (by omega) (hp 0 (by omega)).1
  have b := ptg_in (P := P) (r := r) (j := o + (l - 1)) (by omega) (hp (l - 1) (by omega)).1
  rw [(hp (l - 1) (by omega)).2] at b
  rw [Bool.eq_iff_iff]
  simp only [Bool.and_eq_true, decide_eq_true_eq]
  omega
theorem pln_uniq {P : PG} {i k m : Nat} (hk : k < pFd P i 5) (h1 : 1 ≤ m) (h2 : k + m ≤ pFd P i 5) (h3 : ∀ j, 1 ≤ j → j < m → pcut P i (k + j) = false) (h4 : k + m < pFd P i 5 → pcut P i (k + m) = true) : pln P i k = m := by
  obtain ⟨s1, s2, s3, s4⟩ := pln_spec hk
  rcases Nat.lt_trichotomy (pln P i k) m with z | z | z
  · have a := h3 _ s1 z
    have b := s4 (by omega)
    rw [a] at b; cases b
  · exact z
  · have a := s3 m h1 z
    have b := h4 (by omega)
    rw [a] at b; cases b
/-- the piece that begins at step s, or 0 -/
def pcx (P : PG) (n s : Nat) : Nat := if pFd P n 0 = 3 ∧ s < pFd P n 5 ∧ pst P n s = true then pln P n s else 0
def EI (P : PG) (n s E : Nat) : Prop := E ≤ pFd P n 5 ∧ (s ≤ pFd P n 5 → s ≤ E) ∧ (∀ j, s ≤ j → j < E → pst P n j = false) ∧ (E < pFd P n 5 → pst P n E = true) ∧ (pFd P n 5 < s → E = pFd P n 5)
theorem pst_pc {P : PG} {n j : Nat} (h : 0 < j) : pst P n j = pcut P n j := by
  unfold pst
  rw [decide_eq_false (by omega), Bool.false_or]
theorem EI_out {P : PG} {n q E : Nat} (e : EI P n (q + 1) E) (h : E ≤ q) : EI P n q E ∧ pFd P n 5 ≤ q := by
  obtain ⟨a, b, c, d, f⟩ := e
  have : pFd P n 5 < q + 1 := by
    by_cases z : q + 1 ≤ pFd P n 5
    · have := b z; omega
    · omega
  have := f this
  exact ⟨⟨a, fun _ => by omega, fun j h1 h2 => by omega, d, fun _ => this⟩, by omega⟩
theorem EI_yes {P : PG} {n q E : Nat} (e : EI P n (q + 1) E) (h : q < E) (hs : pst P n q = true) : EI P n q q ∧ pln P n q = E - q ∧ q < pFd P n 5 := by
  obtain ⟨a, b, c, d, f⟩ := e
  refine ⟨⟨by omega, fun _ => Nat.le_refl _, fun j h1 h2 => by omega, fun _ => hs, fun _ => by omega⟩, ?_, by omega⟩
  refine pln_uniq (by omega) (by omega) (by omega) (fun j h1 h2 => ?_) (fun h1 => ?_)
  · rw [← pst_pc (by omega)]; exact c _ (by omega) (by omega)
  · rw [← pst_pc (by omega), show q + (E - q) = E by omega]; exact d (by omega)
theorem EI_no {P : PG} {n q E : Nat} (e : EI P n (q + 1) E) (h : q < E) (hs : pst P n q = false) : EI P n q E := by
  obtain ⟨a, b, c, d, f⟩ := e
  refine ⟨a, fun _ => by omega, fun j h1 h2 => ?_, d, fun h1 => by omega⟩
  by_cases z : j = q
  · rw [z]; exact hs
  · exact c j (by omega) h2
/-! all layouts, with their partitions: f promotable, g live, by 16 * record + partition -/
def L4 (P : PG) (r : Nat) (f g : Nat → Bool) (h : AH) (a : Nat) : Prop := hI h a 6 = nI (szx P r) ∧ hI h a 8 = bi (esc P r) ∧ hI h a 7 = nI (cnt P r (szx P r)) ∧ (∀ p, p < cnt P r (szx P r) → PT h (a + 7 + p) (bgf P r (szx P r) p) (lnf P r (szx P r) p) (f (16 * r + p)) (g (16 * r + p))) ∧ ∀ j, j < 16 → hP h (a + 3) j = some (if j < szx P r ∧ ptd P r j = true then a + 7 + pof P r j else a + 2)
def W4 (P : PG) (f g : Nat → Bool) (h : AH) : Prop := ∀ r, r < 4 → L4 P r f g h (59 + 23 * r)
theorem W4_of {P : PG} {h : AH} (ok : OkP P) (W : ∀ r, r < 4 → L1 P r (pNi P) h (59 + 23 * r) ∧ L3 P r (szx P r) h (59 + 23 * r)) : W4 P (prI P) (fun x => esc P (x / 16)) h := by
  intro r hr
  obtain ⟨⟨l1, l2, l3⟩, m1, m2, m3⟩ := W r hr
  refine ⟨l1, l2, m1, fun p hp => ?_, m3⟩
  have hz := szx_le ok r
  have hp16 : p < 16 := by have := cnt_le P r (szx P r); omega
  have hx : r < pNr P := by
    by_cases z : r < pNr P
    · exact z
    · have : szx P r = 0 := if_neg z
      rw [this] at hp
      exact absurd hp (Nat.not_lt_zero _)
  have := m2 p hp
  show PT h _ _ _ _ (esc P ((16 * r + p) / 16))
  rw [prI_at P hp16, show (16 * r + p) / 16 = r by omega]
  have e : lnp P r p = lnf P r (szx P r) p := by unfold lnp; rw [szx_lt hx]
  rw [e]
  exact this
/-- the cells of a layout are as before -/
theorem L4_of {P : PG} {r : Nat} {f g : Nat → Bool} {h h' : AH} {a : Nat} (l : L4 P r f g h a) (e : ∀ b, b = a ∨ (a + 7 ≤ b ∧ b < a + 23) → hI h' b = hI h b) (e3 : hP h' (a + 3) = hP h (a + 3)) (c16 : cnt P r (szx P r) ≤ 16) : L4 P r f g h' a := by
  obtain ⟨l1, l2, l3, l4, l5⟩ := l
  exact ⟨by rw [e a (Or.inl rfl)]; exact l1, by rw [e a (Or.inl rfl)]; exact l2, by rw [e a (Or.inl rfl)]; exact l3, fun p hp => PT_of (l4 p hp) (e _ (by omega)), fun j hj => by rw [e3]; exact l5 j hj⟩
theorem cnt16 {P : PG} (ok : OkP P) (r : Nat) : cnt P r (szx P r) ≤ 16 := Nat.le_trans (cnt_le P r _) (szx_le ok r)
/-- the partition of byte k of record r -/
def pta (P : PG) (r k : Nat) : Nat := 59 + 23 * r + 7 + pof P r k
theorem pta_f {P : PG} {f g : Nat → Bool} {h : AH} (ok : OkP P) (C : CS h.1 (hP h)) (W : W4 P f g h) {r k : Nat} (hr : r < pNr P) (hk : k < pSz P r) (hp : ptd P r k = true) : hP h (59 + 23 * r + 3) k = some (pta P r k) ∧ h.1[pta P r k]? = some (4, 4) ∧ PT h (pta P r k) (bgp P r (pof P r k)) (lnp P r (pof P r k)) (f (16 * r + pof P r k)) (g (16 * r + pof P r k)) ∧ pof P r k < 16 ∧ lnp P r (pof P r k) ≤ 16 ∧ 1 ≤ lnp P r (pof P r k) ∧ bgp P r (pof P r k) < 16 := by
  have h4 := ok.1
  have h16 := (ok.2.1 r hr).2
  obtain ⟨l1, l2, l3, l4, l5⟩ := W r (by omega)
  have hz := szx_lt hr
  have hq := pof_lt hp hk
  have hq2 : pof P r k < cnt P r (szx P r) := by rw [hz]; exact hq
  have hn := npt_le P r
  have hPT := l4 _ hq2
  rw [hz] at hPT
  refine ⟨?_, LA_pt (C.2.2.2.2.2.2 r (by omega)) (by omega), hPT, by omega, Nat.le_trans (lnp_le P r _) h16, lnf_pos P r _ _ hq, Nat.lt_of_lt_of_le (bgf_lt P r _ _ hq) h16⟩
  rw [l5 k (by omega), if_pos ⟨by omega, hp⟩]; rfl
/-- field 2 or 3 of a partition set -/
theorem W4_set2 {P : PG} {f f' g : Nat → Bool} {h : AH} (ok : OkP P) (W : W4 P f g h) {r k : Nat} {b : Bool} (hr : r < pNr P) (hk : k < pSz P r) (hp : ptd P r k = true) (h1 : f' (16 * r + pof P r k) = b) (h2 : ∀ y, y ≠ 16 * r + pof P r k → f' y = f y) : W4 P f' g (sI h (pta P r k) 2 (bi b)) := by
  have h4 := ok.1
  have h16 := (ok.2.1 r hr).2
  have hq := pof_lt hp hk
  have hn := npt_le P r
  intro s hs
  have hc := cnt16 ok s
  obtain ⟨l1, l2, l3, l4, l5⟩ := W s hs
  unfold pta
  refine ⟨by rw [hI_n (by omega)]; exact l1, by rw [hI_n (by omega)]; exact l2, by rw [hI_n (by omega)]; exact l3, fun p hp => ?_, l5⟩
  have o := l4 p hp
  by_cases z : s = r ∧ p = pof P r k
  · obtain ⟨z1, z2⟩ := z
    subst z1 z2
    refine ⟨?_, ?_, ?_, ?_⟩
    · rw [hI_s, if_neg (by omega)]; exact o.1
    · rw [hI_s, if_neg (by omega)]; exact o.2.1
    · rw [hI_s, if_pos ⟨rfl, rfl⟩, h1]
    · rw [hI_s, if_neg (by omega)]; exact o.2.2.2
  · rw [h2 _ (by omega)]
    exact PT_of o (hI_n (by omega))
theorem W4_set3 {P : PG} {f g g' : Nat → Bool} {h : AH} (ok : OkP P) (W : W4 P f g h) {r k : Nat} {b : Bool} (hr : r < pNr P) (hk : k < pSz P r) (hp : ptd P r k = true) (h1 : g' (16 * r + pof P r k) = b) (h2 : ∀ y, y ≠ 16 * r + pof P r k → g' y = g y) : W4 P f g' (sI h (pta P r k) 3 (bi b)) := by
  have h4 := ok.1
  have h16 := (ok.2.1 r hr).2
  have hq := pof_lt hp hk
  have hn := npt_le P r
  intro s hs
  have hc := cnt16 ok s
  obtain ⟨l1, l2, l3, l4, l5⟩ := W s hs
  unfold pta
  refine ⟨by rw [hI_n (by omega)]; exact l1, by rw [hI_n (by omega)]; exact l2, by rw [hI_n (by omega)]; exact l3, fun p hp => ?_, l5⟩
  have o := l4 p hp
  by_cases z : s = r ∧ p = pof P r k
  · obtain ⟨z1, z2⟩ := z
    subst z1 z2
    refine ⟨?_, ?_, ?_, ?_⟩
    · rw [hI_s, if_neg (by omega)]; exact o.1
    · rw [hI_s, if_neg (by omega)]; exact o.2.1
    · rw [hI_s, if_neg (by omega)]; exact o.2.2.1
    · rw [hI_s, if_pos ⟨rfl, rfl⟩, h1]
  · rw [h2 _ (by omega)]
    exact PT_of o (hI_n (by omega))
theorem FAn_pt {P : PG} (ok : OkP P) {h0 h : AH} (F : FAn h0 h) {r k j : Nat} {v : Int32} (hr : r < pNr P) (hk : k < pSz P r) (hp : ptd P r k = true) : FAn h0 (sI h (pta P r k) j v) := by
  have h4 := ok.1
  have h16 := (ok.2.1 r hr).2
  have hq := pof_lt hp hk
  have hn := npt_le P r
  unfold pta
  exact ⟨F.1.setI (by omega), fun s hs => by rw [hI_n (by omega)]; exact F.2 s hs⟩
theorem FB_W4 {P : PG} (ok : OkP P) {f g : Nat → Bool} {h η : AH} {n : Nat} (hn : n < 24) (F : FB h η (35 + n)) (W : W4 P f g h) : W4 P f g η := fun r hr => L4_of (W r hr) (fun b hb => F.2 b (by omega)) (by rw [F.1.2.2]) (cnt16 ok r)
theorem FB_An {h η : AH} {n : Nat} (hn : n < 24) (F : FB h η (35 + n)) : FAn h η := ⟨⟨F.1.1, fun b hb => ⟨F.2 b (by omega), by rw [F.1.2.1], by rw [F.1.2.2]⟩, fun b _ => by rw [F.1.2.2]⟩, fun r hr => F.2 _ (by omega)⟩

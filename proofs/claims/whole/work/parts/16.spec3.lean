/-! pieces -/
theorem ptd_ac {P : PG} {r k i : Nat} (hi : i < pNi P) (h : acI P r k i = true) : ptd P r k = true := by
  have : acc P r k = true := anyN_iff.mpr ⟨i, hi, h⟩
  simp [ptd, this]
theorem ptd_in {P : PG} {r k i side : Nat} (hi : i < pNi P) (hs : side < 2) (h : cpd P i side r k = true) : ptd P r k = true := by
  have : inC P r k = true := anyN_iff.mpr ⟨i, hi, by rcases (show side = 0 ∨ side = 1 by omega) with rfl | rfl <;> simp [h]⟩
  cases ha : acc P r k <;> simp [ptd, sft, this, ha]
theorem ptd_d {P : PG} {i j x : Nat} (hi : i < pNi P) (hc : pFd P i 0 = 3) (hj : j < pFd P i 5) (hx : x = pFd P i 2 + j) : ptd P (pFd P i 1) x = true :=
  ptd_in (side := 0) hi (by decide) (by simp [cpd, hc, hld]; omega)
theorem ptd_s {P : PG} {i j x : Nat} (hi : i < pNi P) (hc : pFd P i 0 = 3) (hj : j < pFd P i 5) (hx : x = pFd P i 4 + j) : ptd P (pFd P i 3) x = true :=
  ptd_in (side := 1) hi (by decide) (by simp [cpd, hc, hld]; omega)
theorem ptd_a {P : PG} {i j x : Nat} (hi : i < pNi P) (hc : isAc P i = true) (hj : j < pFd P i 3) (hx : x = pFd P i 2 + j) : ptd P (pFd P i 1) x = true :=
  ptd_ac hi (by simp [acI, hc, hld]; omega)
def pcut (P : PG) (i j : Nat) : Bool := bgn P (pFd P i 1) (pFd P i 2 + j) || bgn P (pFd P i 3) (pFd P i 4 + j)
def plF (P : PG) (i k : Nat) : Nat → Nat → Nat
  | 0, n => n
  | f + 1, n => if pcut P i (k + n) = true then n else plF P i k f (n + 1)
/-- how long the piece is that begins with byte k of the copy i -/
def pln (P : PG) (i k : Nat) : Nat := plF P i k (pFd P i 5 - (k + 1)) 1
theorem plF_spec {P : PG} {i k : Nat} : ∀ (f n : Nat), k + n + f = pFd P i 5 → n ≤ plF P i k f n ∧ k + plF P i k f n ≤ pFd P i 5 ∧ (∀ j, n ≤ j → j < plF P i k f n → pcut P i (k + j) = false) ∧ (k + plF P i k f n < pFd P i 5 → pcut P i (k + plF P i k f n) = true)
  | 0, n, h => ⟨Nat.le_refl _, by show k + n ≤ _; omega, fun j h1 h2 => absurd h2 (by show ¬ j < n; omega), fun h2 => absurd h2 (by show ¬ k + n < _; omega)⟩
  | f + 1, n, h => by
    unfold plF
    split
    · rename_i hc
      exact ⟨Nat.le_refl _, by omega, fun j h1 h2 => absurd h2 (by omega), fun _ => hc⟩
    · rename_i hc
      obtain ⟨a, b, c, d⟩ := plF_spec (P := P) (i := i) (k := k) f (n + 1) (by omega)
      refine ⟨by omega, b, fun j h1 h2 => ?_, d⟩
      by_cases e : j = n
      · subst e
        cases hh : pcut P i (k + j) with
        | true => exact absurd hh hc
        | false => rfl
      · exact c j (by omega) h2
theorem pln_spec {P : PG} {i k : Nat} (h : k < pFd P i 5) : 1 ≤ pln P i k ∧ k + pln P i k ≤ pFd P i 5 ∧ (∀ j, 1 ≤ j → j < pln P i k → pcut P i (k + j) = false) ∧ (k + pln P i k < pFd P i 5 → pcut P i (k + pln P i k) = true) :=
  plF_spec (P := P) (i := i) (k := k) (pFd P i 5 - (k + 1)) 1 (by omega)
/-- bytes of one partition -/
theorem pof_same {P : PG} {r k0 : Nat} : ∀ {len : Nat}, (∀ j, 0 < j → j < len → bgn P r (k0 + j) = false) → ∀ j, j < len → pof P r (k0 + j) = pof P r k0 := by
  intro len h j
  induction j with
  | zero => intro _; rfl
  | succ j ih =>
    intro hj
    have h1 := ih (by omega)
    have h2 := h (j + 1) (by omega) hj
    unfold pof at h1 ⊢
    rw [show k0 + (j + 1) = k0 + j + 1 by omega] at h2 ⊢
    rw [cnt_s P r (k0 + j + 1), if_neg (by simp [h2])]
    exact h1
theorem bgn_ac {P : PG} {i j : Nat} (hi : i < pNi P) (hc : isAc P i = true) (h0 : 0 < j) (hj : j < pFd P i 3) : bgn P (pFd P i 1) (pFd P i 2 + j) = false := by
  have hg : gon P (pFd P i 1) (pFd P i 2 + j) = true := by
    unfold gon
    split
    · simp; omega
    · rw [if_neg (by omega)]
      have : jnd P (pFd P i 1) (pFd P i 2 + j - 1) = true := anyN_iff.mpr ⟨i, hi, by simp [acI, hc, hld]; omega⟩
      simp [this]
  simp [bgn, hg]
theorem pof_ac {P : PG} {i j : Nat} (hi : i < pNi P) (hc : isAc P i = true) (hj : j < pFd P i 3) : pof P (pFd P i 1) (pFd P i 2 + j) = pof P (pFd P i 1) (pFd P i 2) :=
  pof_same (fun j h0 h1 => bgn_ac hi hc h0 h1) j hj
theorem pof_pd {P : PG} {i k j : Nat} (hk : k < pFd P i 5) (hj : j < pln P i k) : pof P (pFd P i 1) (pFd P i 2 + k + j) = pof P (pFd P i 1) (pFd P i 2 + k) :=
  pof_same (len := pln P i k) (fun j h0 h1 => by
    have := (pln_spec hk).2.2.1 j (by omega) h1
    simp only [pcut, Bool.or_eq_false_iff] at this
    rw [Nat.add_assoc]; exact this.1) j hj
theorem pof_ps {P : PG} {i k j : Nat} (hk : k < pFd P i 5) (hj : j < pln P i k) : pof P (pFd P i 3) (pFd P i 4 + k + j) = pof P (pFd P i 3) (pFd P i 4 + k) :=
  pof_same (len := pln P i k) (fun j h0 h1 => by
    have := (pln_spec hk).2.2.1 j (by omega) h1
    simp only [pcut, Bool.or_eq_false_iff] at this
    rw [Nat.add_assoc]; exact this.2) j hj
/-! promotable -/
/-- a range of record r is just its partition, or x isn't that partition's place -/
def rcx (P : PG) (r o l x : Nat) : Bool := decide (x ≠ 16 * r + pof P r o) || (decide (bgp P r (pof P r o) = o) && decide (lnp P r (pof P r o) = l))
def cpC (P : PG) (i x s : Nat) : Bool := !(decide (s = 0) || pcut P i s) || (rcx P (pFd P i 1) (pFd P i 2 + s) (pln P i s) x && rcx P (pFd P i 3) (pFd P i 4 + s) (pln P i s) x)
def prC (P : PG) (x i : Nat) : Bool := if isAc P i = true then rcx P (pFd P i 1) (pFd P i 2) (pFd P i 3) x else if pFd P i 0 = 3 then allN (pFd P i 5) (cpC P i x) else true
def isWn (n : Nat) : Bool := decide (n = 1 ∨ n = 2 ∨ n = 4)
def prI (P : PG) (x : Nat) : Bool := !esc P (x / 16) && isWn (lnp P (x / 16) (x % 16))
/-- the partition at place x = 16 * record + number is promotable -/
def prm (P : PG) (x : Nat) : Bool := prI P x && allN (pNi P) (prC P x)
/-- booleans in a row of 64 -/
def BR (h : AH) (a : Nat) (f : Nat → Bool) : Prop := ∀ x, x < 64 → hI h a x = bi (f x)
theorem BR_set {h : AH} {a x : Nat} {f f' : Nat → Bool} {b : Bool} (B : BR h a f) (h1 : f' x = b) (h2 : ∀ y, y ≠ x → f' y = f y) : BR (sI h a x (bi b)) a f' := by
  intro y hy
  rw [hI_s]
  by_cases e : y = x
  · rw [if_pos ⟨rfl, e⟩, e, h1]
  · rw [if_neg (fun w => e w.2), h2 y e]; exact B y hy
theorem BR_ne {h : AH} {a c x : Nat} {v : Int32} {f : Nat → Bool} (B : BR h a f) (e : a ≠ c) : BR (sI h c x v) a f := by
  intro y hy
  rw [hI_s, if_neg (fun w => e w.1)]; exact B y hy
theorem allN_add {f : Nat → Bool} {k : Nat} : ∀ {n : Nat}, (∀ j, 1 ≤ j → j < n → f (k + j) = true) → 1 ≤ n → allN (k + n) f = (allN k f && f k)
  | 0, _, h => absurd h (by decide)
  | 1, _, _ => rfl
  | n + 2, h, _ => by
    have ih := allN_add (f := f) (k := k) (n := n + 1) (fun j h1 h2 => h j h1 (by omega)) (by omega)
    show (allN (k + (n + 1)) f && f (k + (n + 1))) = _
    rw [ih, h (n + 1) (by omega) (by omega), Bool.and_true]
/-- only the row a of the reference has changed -/
def FB (h0 h : AH) (a : Nat) : Prop := (h.1 = h0.1 ∧ hJ h = hJ h0 ∧ hP h = hP h0) ∧ ∀ b, b ≠ a → hI h b = hI h0 b
theorem FB.rf {h : AH} (a : Nat) : FB h h a := ⟨⟨rfl, rfl, rfl⟩, fun _ _ => rfl⟩
theorem FB.set {h0 h : AH} {a x : Nat} {v : Int32} (F : FB h0 h a) : FB h0 (sI h a x v) a := ⟨F.1, fun b hb => by rw [hI_n hb]; exact F.2 b hb⟩
theorem FB.tr {h0 h1 h2 : AH} {a : Nat} (A : FB h0 h1 a) (B : FB h1 h2 a) : FB h0 h2 a := ⟨⟨B.1.1.trans A.1.1, B.1.2.1.trans A.1.2.1, B.1.2.2.trans A.1.2.2⟩, fun b hb => (B.2 b hb).trans (A.2 b hb)⟩
theorem FB.RF {h0 h : AH} {a m : Nat} {P : PG} (F : FB h0 h a) (W : RF h0 m P) (e : m + 1 ≠ a) : RF h m P := RF_eq W F.1.1 F.1.2.2 (F.2 _ e)
theorem PtR_eq {h h' : AH} {m : Nat} {P : PG} {r : Nat} (A : PtR h m P r) (e3 : hI h' (m + 3) = hI h (m + 3)) (e4 : hI h' (m + 4) = hI h (m + 4)) (e5 : hI h' (m + 5) = hI h (m + 5)) (e6 : hI h' (m + 6) = hI h (m + 6)) : PtR h' m P r := by
  unfold PtR at A ⊢
  rw [e3, e4, e5, e6]; exact A
theorem FB.PA {h0 h : AH} {m k n : Nat} {P : PG} (F : FB h0 h (m + k)) (A : PA h0 m P n) (e : 7 ≤ k) : PA h m P n := fun r hr => PtR_eq (A r hr) (F.2 _ (by omega)) (F.2 _ (by omega)) (F.2 _ (by omega)) (F.2 _ (by omega))
theorem PA_sI {h : AH} {m k n x : Nat} {v : Int32} {P : PG} (A : PA h m P n) (e : 7 ≤ k) : PA (sI h (m + k) x v) m P n := FB.PA (FB.set (FB.rf (m + k))) A e
theorem rst_set {h : AH} {P : PG} {a r o l pl : Nat} {f fk : Nat → Bool} {b : Bool} (B : BR h a fk) (hq : fk = f ∨ fk = fun x => f x && rcx P r o l x) (hpl : pl = 16 * r + pof P r o) (hb : b = (fk pl && (decide (bgp P r (pof P r o) = o) && decide (lnp P r (pof P r o) = l)))) : BR (sI h a pl (bi b)) a (fun x => f x && rcx P r o l x) := by
  refine BR_set B ?_ (fun y hy => ?_)
  · rw [hb]
    rcases hq with rfl | rfl
    · simp [rcx, hpl]
    · simp only [rcx, hpl]
      cases f (16 * r + pof P r o) <;> simp
  · have h1 : rcx P r o l y = true := by simp [rcx, ← hpl, hy]
    rcases hq with rfl | rfl <;> simp [h1]
theorem cpC_step {P : PG} {i k x : Nat} (hk : k < pFd P i 5) (hs : k = 0 ∨ pcut P i k = true) : allN (k + pln P i k) (cpC P i x) = (allN k (cpC P i x) && (rcx P (pFd P i 1) (pFd P i 2 + k) (pln P i k) x && rcx P (pFd P i 3) (pFd P i 4 + k) (pln P i k) x)) := by
  have h := pln_spec hk
  rw [allN_add (fun j h1 h2 => by simp [cpC, h.2.2.1 j h1 h2]; omega) h.1]
  congr 1
  rcases hs with rfl | hs
  · simp [cpC]
  · simp [cpC, hs]
theorem isW_n {n : Nat} (h : n < 2 ^ 31) : isW (nI n) = isWn n := by
  unfold isW isWn
  rw [i_n h]
  congr 1
  apply propext
  omega
theorem lnf_le (P : PG) (r : Nat) : ∀ k p, lnf P r k p ≤ k
  | 0, _ => Nat.le_refl _
  | k + 1, p => by
    have := lnf_le P r k p
    rw [lnf_s]
    split
    · split <;> omega
    · omega
theorem lnp_le (P : PG) (r p : Nat) : lnp P r p ≤ pSz P r := lnf_le P r _ p
theorem prI_at (P : PG) {r p : Nat} (hp : p < 16) : prI P (16 * r + p) = (!esc P r && isWn (lnp P r p)) := by
  unfold prI
  rw [show (16 * r + p) / 16 = r by omega, show (16 * r + p) % 16 = p by omega]

section MORE
variable {g : GX} {μ : MT} {θ : TH} {h : AH} {k n : Nat} {L L' : List (Nat × Value)} {pc q tgt : Nat} {S : List Value}
theorem V_iincM {j i : Nat} {a : Nat} (hd : decode μ.2.1 pc = .ok (.iinc i (-1), 3)) (hq : pc + 3 = q) (hj : L[j]? = some (i, .int (nI a))) (ha : 1 ≤ a) (hi : Nat.blt i μ.2.2.1 = true) (hL : (i, Value.int (nI (a - 1))) :: lfi i L = L') (kk : V g μ θ h k n L' q S) : V g μ θ h k n L pc S :=
  V_iinc hd hq hj (by rw [← pk_sub ha]; show nI a + (-1) = nI a - 1; rw [Int32.sub_eq_add_neg]) hi hL kk
theorem V_iincK {j i a b : Nat} {c : Int} (hd : decode μ.2.1 pc = .ok (.iinc i c, 3)) (hq : pc + 3 = q) (hj : L[j]? = some (i, .int (nI a))) (hb : Int32.ofInt c = nI b) (hi : Nat.blt i μ.2.2.1 = true) (hL : (i, Value.int (nI (a + b))) :: lfi i L = L') (kk : V g μ θ h k n L' q S) : V g μ θ h k n L pc S :=
  V_iinc hd hq hj (by rw [hb, nI_add]) hi hL kk
end MORE
/-! ANSWERS -/
def nt (x : Int32) : Nat := x.toInt.toNat
theorem nt_n {n : Nat} (h : n < 2 ^ 31) : nt (nI n) = n := by unfold nt; rw [i_n h]; rfl
theorem isR_of {P : PG} {x : Int32} (h : isR P x = true) : ∃ r, r < pNr P ∧ x = nI r := by
  simp only [isR, decide_eq_true_eq] at h
  exact i_of h.1 h.2
theorem isR_n {P : PG} (ok : OkP P) {r : Nat} (h : r < pNr P) : isR P (nI r) = true := by
  have := ok.1
  simp only [isR, decide_eq_true_eq]
  rw [i_n (by omega)]; omega
def cnN : Nat → (Nat → Bool) → Nat
  | 0, _ => 0
  | n + 1, f => if f n = true then cnN n f + 1 else cnN n f
def smN : Nat → (Nat → Nat) → Nat
  | 0, _ => 0
  | n + 1, f => smN n f + f n
theorem cnN_s (n : Nat) (f : Nat → Bool) : cnN (n + 1) f = if f n = true then cnN n f + 1 else cnN n f := rfl
theorem smN_s (n : Nat) (f : Nat → Nat) : smN (n + 1) f = smN n f + f n := rfl
theorem cnN_le (f : Nat → Bool) : ∀ n, cnN n f ≤ n
  | 0 => Nat.le_refl _
  | n + 1 => by
    have := cnN_le f n
    rw [cnN_s]; split <;> omega
theorem smN_le {f : Nat → Nat} {b : Nat} : ∀ {n}, (∀ i, i < n → f i ≤ b) → smN n f ≤ b * n
  | 0, _ => by simp [smN]
  | n + 1, h => by
    have := smN_le (n := n) (fun i hi => h i (by omega))
    have := h n (by omega)
    rw [smN_s, Nat.mul_succ]; omega
theorem cnN_add {f : Nat → Bool} {k : Nat} : ∀ {n : Nat}, (∀ j, 1 ≤ j → j < n → f (k + j) = false) → 1 ≤ n → f k = true → cnN (k + n) f = cnN k f + 1
  | 0, _, h, _ => absurd h (by decide)
  | 1, _, _, h => by rw [cnN_s, if_pos h]
  | n + 2, h, _, h2 => by
    have ih := cnN_add (f := f) (k := k) (n := n + 1) (fun j h1 h2 => h j h1 (by omega)) (by omega) h2
    rw [show k + (n + 2) = k + (n + 1) + 1 by omega, cnN_s, if_neg (by simp [h (n + 1) (by omega) (by omega)])]
    exact ih
def pad (P : PG) (r : Nat) : Nat := cnN (pSz P r) (fun k => !ptd P r k)
/-- a piece begins at step s -/
def pst (P : PG) (i s : Nat) : Bool := decide (s = 0) || pcut P i s
def pcs (P : PG) (i : Nat) : Nat := cnN (pFd P i 5) (pst P i)
/-- the length of the piece of number y, from step s on; 0 if there is none -/
def pth (P : PG) (i : Nat) : Nat → Nat → Nat → Nat
  | 0, _, _ => 0
  | f + 1, s, y => if pst P i s = true then (if y = 0 then pln P i s else pth P i f (s + 1) (y - 1)) else pth P i f (s + 1) y
theorem pth_go {P : PG} {i : Nat} : ∀ {n f s y : Nat}, (∀ j, j < n → pst P i (s + j) = false) → pth P i (f + n) s y = pth P i f (s + n) y
  | 0, _, _, _, _ => rfl
  | n + 1, f, s, y, h => by
    have h0 := h 0 (by omega)
    rw [Nat.add_zero] at h0
    have ih := pth_go (n := n) (f := f) (s := s + 1) (y := y) (fun j hj => by rw [show s + 1 + j = s + (j + 1) by omega]; exact h (j + 1) (by omega))
    rw [show s + (n + 1) = s + 1 + n by omega, ← ih]
    show pth P i (f + n + 1) s y = _
    rw [pth, if_neg (by simp [h0])]
theorem pth_nx {P : PG} {i k y : Nat} (hk : k < pFd P i 5) (hs : pst P i k = true) (hy : 0 < y) : pth P i (pFd P i 5 - k) k y = pth P i (pFd P i 5 - (k + pln P i k)) (k + pln P i k) (y - 1) := by
  have h := pln_spec hk
  rw [show pFd P i 5 - k = pFd P i 5 - (k + pln P i k) + (pln P i k - 1) + 1 by omega]
  rw [pth, if_pos hs, if_neg (by omega), pth_go (fun j hj => ?_)]
  · rw [show k + 1 + (pln P i k - 1) = k + pln P i k by omega]
  · have := h.2.2.1 (j + 1) (by omega) (by omega)
    rw [show k + (j + 1) = k + 1 + j by omega] at this
    simp [pst, this]
theorem pth_0 {P : PG} {i k : Nat} (hk : k < pFd P i 5) (hs : pst P i k = true) : pth P i (pFd P i 5 - k) k 0 = pln P i k := by
  rw [show pFd P i 5 - k = pFd P i 5 - (k + 1) + 1 by omega, pth, if_pos hs, if_pos rfl]
def isPt (P : PG) (x y : Int32) : Bool := isR P x && decide (0 ≤ y.toInt ∧ y.toInt < npt P (nt x))
def isCy (P : PG) (x : Int32) : Bool := decide (0 ≤ x.toInt ∧ x.toInt < pNi P) && decide (pFd P (nt x) 0 = 3)
def aEs (P : PG) (x : Int32) : Int32 := if isR P x = true then bi (esc P (nt x)) else -1
def aPc (P : PG) (x : Int32) : Int32 := if isR P x = true then nI (npt P (nt x)) else -1
def aPs (P : PG) (x y : Int32) : Int32 := if isPt P x y = true then nI (bgp P (nt x) (nt y)) else -1
def aPl (P : PG) (x y : Int32) : Int32 := if isPt P x y = true then nI (lnp P (nt x) (nt y)) else -1
def aPp (P : PG) (x y : Int32) : Int32 := if isPt P x y = true then bi (prm P (16 * nt x + nt y)) else -1
noncomputable def aLv (P : PG) (x y : Int32) : Int32 := if isPt P x y = true then bi (liv P (16 * nt x + nt y)) else -1
def aPd (P : PG) (x : Int32) : Int32 := if isR P x = true then nI (pad P (nt x)) else -1
def aCc (P : PG) (x : Int32) : Int32 := if isCy P x = true then nI (pcs P (nt x)) else -1
def aCl (P : PG) (x y : Int32) : Int32 := if isCy P x = true ∧ 0 ≤ y.toInt then (if pth P (nt x) (pFd P (nt x) 5) 0 (nt y) = 0 then -1 else nI (pth P (nt x) (pFd P (nt x) 5) 0 (nt y))) else -1
noncomputable def aSc (P : PG) : Int32 := nI (smN (pNr P) fun r => cnN (npt P r) fun p => liv P (16 * r + p) && prm P (16 * r + p))
noncomputable def aLb (P : PG) : Int32 := nI (smN (pNr P) fun r => smN (npt P r) fun p => if liv P (16 * r + p) = true then lnp P r p else 0)
theorem isPt_of {P : PG} (ok : OkP P) {x y : Int32} (h : isPt P x y = true) : ∃ r p, r < pNr P ∧ p < npt P r ∧ x = nI r ∧ y = nI p := by
  simp only [isPt, Bool.and_eq_true, decide_eq_true_eq] at h
  obtain ⟨h1, h2, h3⟩ := h
  obtain ⟨r, hr, rfl⟩ := isR_of h1
  obtain ⟨p, hp, rfl⟩ := i_of h2 h3
  have := ok.1
  rw [nt_n (by omega)] at hp
  exact ⟨r, p, hr, hp, rfl, rfl⟩
theorem isCy_of {P : PG} (ok : OkP P) {x : Int32} (h : isCy P x = true) : ∃ i, i < pNi P ∧ pFd P i 0 = 3 ∧ x = nI i := by
  simp only [isCy, Bool.and_eq_true, decide_eq_true_eq] at h
  obtain ⟨⟨h1, h2⟩, h3⟩ := h
  obtain ⟨i, hi, rfl⟩ := i_of h1 h2
  have := ok.2.2.1
  rw [nt_n (by omega)] at h3
  exact ⟨i, hi, h3, rfl⟩
/-! THE REFERENCE BETWEEN CALLS, and behind a question -/
def RG (h : AH) (m : Nat) (P : PG) : Prop := RF h m P ∧ (∃ f, BR h (m + 7) f) ∧ ∃ f, BR h (m + 8) f
def FQ (h0 h : AH) (m : Nat) : Prop := (h.1 = h0.1 ∧ hJ h = hJ h0 ∧ hP h = hP h0) ∧ (∀ a, a < m ∨ a = m + 1 ∨ a = m + 2 ∨ m + 12 ≤ a → hI h a = hI h0 a) ∧ hI h m 2 = hI h0 m 2 ∧ (∃ f, BR h (m + 7) f) ∧ ∃ f, BR h (m + 8) f
theorem RG.q {h : AH} {m : Nat} {P : PG} (G : RG h m P) : FQ h h m := ⟨⟨rfl, rfl, rfl⟩, fun _ _ => rfl, rfl, G.2⟩
theorem FQ.rg {h0 h : AH} {m : Nat} {P : PG} (G : RG h0 m P) (F : FQ h0 h m) : RG h m P := ⟨RF_eq G.1 F.1.1 F.1.2.2 (F.2.1 _ (by omega)), F.2.2.2⟩
theorem FQ.tr {h0 h1 h2 : AH} {m : Nat} (A : FQ h0 h1 m) (B : FQ h1 h2 m) : FQ h0 h2 m := ⟨⟨B.1.1.trans A.1.1, B.1.2.1.trans A.1.2.1, B.1.2.2.trans A.1.2.2⟩, fun a ha => (B.2.1 a ha).trans (A.2.1 a ha), B.2.2.1.trans A.2.2.1, B.2.2.2⟩
/-- all is found -/
def AN (h : AH) (m : Nat) (P : PG) : Prop := PA h m P (pNr P) ∧ ∀ r, r < pNr P → ∀ p, p < npt P r → hI h (m + 7) (16 * r + p) = bi (prm P (16 * r + p)) ∧ hI h (m + 8) (16 * r + p) = bi (liv P (16 * r + p))
theorem FA.q {h0 h : AH} {m : Nat} {P : PG} (F : FA h0 h m) (G : RG h0 m P) : FQ h0 h m := by
  refine ⟨F.1, fun a ha => F.2 a (by omega) (by omega) (by omega) (by omega), by rw [F.2 m (by omega) (by omega) (by omega) (by omega)], ?_, ?_⟩
  · obtain ⟨f, hf⟩ := G.2.1
    exact ⟨f, fun x hx => by rw [F.2 _ (by omega) (by omega) (by omega) (by omega)]; exact hf x hx⟩
  · obtain ⟨f, hf⟩ := G.2.2
    exact ⟨f, fun x hx => by rw [F.2 _ (by omega) (by omega) (by omega) (by omega)]; exact hf x hx⟩

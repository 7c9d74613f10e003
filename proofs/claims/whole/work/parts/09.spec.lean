/-! WHAT A PROGRAM IS: records (how many, their sizes), instructions (how many, six numbers each: kind, then as the reference lays them). A value of CONSTANT is a number below 2^32. -/
abbrev PG : Type := Nat × (Nat → Nat) × Nat × (Nat → Nat → Nat)
abbrev pNr (P : PG) : Nat := P.1
abbrev pSz (P : PG) (r : Nat) : Nat := P.2.1 r
abbrev pNi (P : PG) : Nat := P.2.2.1
abbrev pFd (P : PG) (i w : Nat) : Nat := P.2.2.2 i w
def OkI (P : PG) (i : Nat) : Prop :=
  (1 ≤ pFd P i 0 ∧ pFd P i 0 ≤ 8) ∧
  ((pFd P i 0 = 1 ∨ pFd P i 0 = 2) → pFd P i 1 < pNr P ∧ (pFd P i 3 = 1 ∨ pFd P i 3 = 2 ∨ pFd P i 3 = 4) ∧ pFd P i 2 + pFd P i 3 ≤ pSz P (pFd P i 1) ∧ pFd P i 4 < 8) ∧
  (pFd P i 0 = 3 → pFd P i 1 < pNr P ∧ pFd P i 3 < pNr P ∧ 1 ≤ pFd P i 5 ∧ pFd P i 2 + pFd P i 5 ≤ pSz P (pFd P i 1) ∧ pFd P i 4 + pFd P i 5 ≤ pSz P (pFd P i 3) ∧ (pFd P i 1 = pFd P i 3 → pFd P i 2 + pFd P i 5 ≤ pFd P i 4 ∨ pFd P i 4 + pFd P i 5 ≤ pFd P i 2)) ∧
  (pFd P i 0 = 4 → pFd P i 1 < pNr P) ∧ (pFd P i 0 = 5 → pFd P i 1 < 8) ∧ (pFd P i 0 = 6 → pFd P i 1 < 8 ∧ pFd P i 2 < 8 ∧ pFd P i 3 < 8) ∧ (pFd P i 0 = 7 → pFd P i 1 < 8 ∧ 1 ≤ pFd P i 2 ∧ pFd P i 2 ≤ 9) ∧ (pFd P i 0 = 8 → pFd P i 1 < 8)
def OkP (P : PG) : Prop := pNr P ≤ 4 ∧ (∀ r, r < pNr P → 1 ≤ pSz P r ∧ pSz P r ≤ 16) ∧ pNi P ≤ 24 ∧ ∀ i, i < pNi P → OkI P i
def anyN : Nat → (Nat → Bool) → Bool
  | 0, _ => false
  | n + 1, f => anyN n f || f n
def allN : Nat → (Nat → Bool) → Bool
  | 0, _ => true
  | n + 1, f => allN n f && f n
theorem anyN_iff {n : Nat} {f : Nat → Bool} : anyN n f = true ↔ ∃ i, i < n ∧ f i = true := by
  induction n with
  | zero => simp [anyN]
  | succ n ih =>
    simp only [anyN, Bool.or_eq_true, ih]
    constructor
    · rintro (⟨i, h1, h2⟩ | h)
      · exact ⟨i, by omega, h2⟩
      · exact ⟨n, by omega, h⟩
    · rintro ⟨i, h1, h2⟩
      rcases Nat.lt_or_eq_of_le (Nat.le_of_lt_succ h1) with h | h
      · exact Or.inl ⟨i, h, h2⟩
      · subst h; exact Or.inr h2
theorem allN_iff {n : Nat} {f : Nat → Bool} : allN n f = true ↔ ∀ i, i < n → f i = true := by
  induction n with
  | zero => simp [allN]
  | succ n ih =>
    simp only [allN, Bool.and_eq_true, ih]
    constructor
    · rintro ⟨h1, h2⟩ i hi
      rcases Nat.lt_or_eq_of_le (Nat.le_of_lt_succ hi) with h | h
      · exact h1 i h
      · subst h; exact h2
    · intro h
      exact ⟨fun i hi => h i (by omega), h n (by omega)⟩
/-! partitions -/
def isAc (P : PG) (i : Nat) : Bool := decide (pFd P i 0 = 1) || decide (pFd P i 0 = 2)
def hld (o l k : Nat) : Bool := decide (o ≤ k) && decide (k < o + l)
def esc (P : PG) (r : Nat) : Bool := anyN (pNi P) fun i => decide (pFd P i 0 = 4) && decide (pFd P i 1 = r)
def acI (P : PG) (r k i : Nat) : Bool := isAc P i && (decide (pFd P i 1 = r) && hld (pFd P i 2) (pFd P i 3) k)
def acc (P : PG) (r k : Nat) : Bool := anyN (pNi P) (acI P r k)
/-- bytes k and k + 1 are in one access -/
def jnd (P : PG) (r k : Nat) : Bool := anyN (pNi P) fun i => acI P r k i && hld (pFd P i 2) (pFd P i 3) (k + 1)
def cpd (P : PG) (i side r k : Nat) : Bool := decide (pFd P i 0 = 3) && (decide (pFd P i (1 + 2 * side) = r) && hld (pFd P i (2 + 2 * side)) (pFd P i 5) k)
def inC (P : PG) (r k : Nat) : Bool := anyN (pNi P) fun i => cpd P i 0 r k || cpd P i 1 r k
def sft (P : PG) (r k : Nat) : Bool := inC P r k && !acc P r k
def alk (P : PG) (r k : Nat) : Bool := allN (pNi P) fun i => (cpd P i 0 r k == cpd P i 0 r (k + 1)) && (cpd P i 1 r k == cpd P i 1 r (k + 1))
def gon (P : PG) (r k : Nat) : Bool := if esc P r = true then decide (0 < k) else if k = 0 then false else jnd P r (k - 1) || (sft P r (k - 1) && (sft P r k && alk P r (k - 1)))
def ptd (P : PG) (r k : Nat) : Bool := esc P r || (acc P r k || sft P r k)
/-! THE REFERENCE'S CELLS: the object at m, its eleven arrays behind it -/
def mdS : List (Nat × Nat) := [(8, 16), (9, 150), (9, 1200), (9, 64), (9, 64), (9, 64), (9, 4), (10, 64), (10, 64), (9, 64), (9, 8), (9, 24)]
def mdP (k : Nat) : Option Nat := if k < 2 then some (k + 1) else if k = 2 then none else if k < 12 then some k else none
def Md (sh : List (Nat × Nat)) (p : Nat → Nat → Option Nat) (m : Nat) : Prop := (∀ i q, mdS[i]? = some q → sh[m + i]? = some q) ∧ ∀ k r, mdP k = some r → p m k = some (m + r)
/-- its row s holds the program -/
def RS (s : Nat → Int32) (P : PG) : Prop := s 0 = nI (pNr P) ∧ (∀ r, r < pNr P → s (1 + r) = nI (pSz P r)) ∧ s 5 = nI (pNi P) ∧ ∀ i, i < pNi P → ∀ w, w < 6 → s (6 + 6 * i + w) = nI (pFd P i w)
def RF (h : AH) (m : Nat) (P : PG) : Prop := Md h.1 (hP h) m ∧ RS (hI h (m + 1)) P ∧ OkP P
theorem pv {x y : Int32} (e : x = y) : some (Value.int x) = some (Value.int y) := by rw [e]
theorem pvb {x y : Bool} (e : x = y) : some (Value.int (bi x)) = some (Value.int (bi y)) := by rw [e]
/-- numbers as the machine compares them -/
theorem i_lt {x y : Int32} : x < y ↔ x.toInt < y.toInt := Int32.lt_iff_toInt_lt
theorem i_le {x y : Int32} : x ≤ y ↔ x.toInt ≤ y.toInt := Int32.le_iff_toInt_le
theorem i_eq {x y : Int32} : x = y ↔ x.toInt = y.toInt := ⟨fun h => by rw [h], fun h => Int32.toInt_inj.mp h⟩
theorem i_n {n : Nat} (h : n < 2 ^ 31) : (nI n).toInt = n := nI_toInt h
theorem i_m1 : (-1 : Int32).toInt = -1 := by decide
theorem i_m2 : (-2 : Int32).toInt = -2 := by decide
theorem i_m9 : (-9 : Int32).toInt = -9 := by decide
theorem i_0 : (0 : Int32).toInt = 0 := by decide
theorem i_rng (x : Int32) : -2147483648 ≤ x.toInt ∧ x.toInt < 2147483648 := ⟨x.le_toInt, x.toInt_lt⟩
theorem i_sub {x y : Int32} (h : -2147483648 ≤ x.toInt - y.toInt ∧ x.toInt - y.toInt < 2147483648) : (x - y).toInt = x.toInt - y.toInt := by
  rw [Int32.toInt_sub]
  exact Int.bmod_eq_of_le (by omega) (by omega)
theorem i_add {x y : Int32} (h : -2147483648 ≤ x.toInt + y.toInt ∧ x.toInt + y.toInt < 2147483648) : (x + y).toInt = x.toInt + y.toInt := by
  rw [Int32.toInt_add]
  exact Int.bmod_eq_of_le (by omega) (by omega)
/-- a number of a script as a small one -/
theorem i_of {x : Int32} {n : Nat} (h0 : 0 ≤ x.toInt) (h1 : x.toInt < n) : ∃ j, j < n ∧ x = nI j := by
  have hr := i_rng x
  refine ⟨x.toInt.toNat, by omega, i_eq.mpr ?_⟩
  rw [i_n (by omega)]; omega
theorem nI_lit (n : Nat) : (OfNat.ofNat n : Int32) = nI n := rfl
theorem ok_kd {P : PG} (h : OkP P) {i : Nat} (hi : i < pNi P) : 1 ≤ pFd P i 0 ∧ pFd P i 0 ≤ 8 := (h.2.2.2 i hi).1
theorem ok_ac {P : PG} (h : OkP P) {i : Nat} (hi : i < pNi P) (hk : isAc P i = true) : pFd P i 1 < pNr P ∧ 1 ≤ pFd P i 3 ∧ pFd P i 3 ≤ 4 ∧ pFd P i 2 + pFd P i 3 ≤ pSz P (pFd P i 1) ∧ pSz P (pFd P i 1) ≤ 16 ∧ pFd P i 4 < 8 := by
  simp only [isAc, Bool.or_eq_true, decide_eq_true_eq] at hk
  obtain ⟨a, b, c, d⟩ := (h.2.2.2 i hi).2.1 hk
  have := h.2.1 _ a
  exact ⟨a, by omega, by omega, c, this.2, d⟩
theorem ok_cp {P : PG} (h : OkP P) {i : Nat} (hi : i < pNi P) (hk : pFd P i 0 = 3) : pFd P i 1 < pNr P ∧ pFd P i 3 < pNr P ∧ 1 ≤ pFd P i 5 ∧ pFd P i 2 + pFd P i 5 ≤ pSz P (pFd P i 1) ∧ pFd P i 4 + pFd P i 5 ≤ pSz P (pFd P i 3) ∧ pSz P (pFd P i 1) ≤ 16 ∧ pSz P (pFd P i 3) ≤ 16 := by
  obtain ⟨a, b, c, d, e, -⟩ := (h.2.2.2 i hi).2.2.1 hk
  exact ⟨a, b, c, d, e, (h.2.1 _ a).2, (h.2.1 _ b).2⟩
theorem ok_es {P : PG} (h : OkP P) {i : Nat} (hi : i < pNi P) (hk : pFd P i 0 = 4) : pFd P i 1 < pNr P := (h.2.2.2 i hi).2.2.2.1 hk
def acW (P : PG) (r k : Nat) (wn : Bool) (i : Nat) : Bool := acI P r k i && (!wn || hld (pFd P i 2) (pFd P i 3) (k + 1))
def esI (P : PG) (r i : Nat) : Bool := decide (pFd P i 0 = 4) && decide (pFd P i 1 = r)
theorem anyN_s (n : Nat) (f : Nat → Bool) : anyN (n + 1) f = (anyN n f || f n) := rfl
theorem allN_s (n : Nat) (f : Nat → Bool) : allN (n + 1) f = (allN n f && f n) := rfl
theorem acW_f (P : PG) (r k : Nat) : acW P r k false = acI P r k := by funext i; simp [acW]
theorem acW_t (P : PG) (r k : Nat) : anyN (pNi P) (acW P r k true) = jnd P r k := by
  unfold jnd
  congr 1
theorem ok_cs {P : PG} (h : OkP P) {i side : Nat} (hi : i < pNi P) (hs : side < 2) (hk : pFd P i 0 = 3) : pFd P i (1 + 2 * side) < pNr P ∧ pFd P i (2 + 2 * side) + pFd P i 5 ≤ 16 ∧ 1 ≤ pFd P i 5 := by
  obtain ⟨a, b, c, d, e, f, g⟩ := ok_cp h hi hk
  rcases (show side = 0 ∨ side = 1 by omega) with rfl | rfl
  · exact ⟨a, by show pFd P i 2 + pFd P i 5 ≤ 16; omega, c⟩
  · exact ⟨b, by show pFd P i 4 + pFd P i 5 ≤ 16; omega, c⟩
def cpE (P : PG) (r k i : Nat) : Bool := cpd P i 0 r k || cpd P i 1 r k
def alI (P : PG) (r k i : Nat) : Bool := (cpd P i 0 r k == cpd P i 0 r (k + 1)) && (cpd P i 1 r k == cpd P i 1 r (k + 1))
/-- the first s sides -/
def alS (P : PG) (r k i : Nat) : Nat → Bool
  | 0 => true
  | s + 1 => alS P r k i s && (cpd P i s r k == cpd P i s r (k + 1))
theorem alS_2 (P : PG) (r k i : Nat) : alS P r k i 2 = alI P r k i := by simp [alS, alI]

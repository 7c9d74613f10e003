/-! the class's layouts: the bits of the copy ranges -/
def tb (x : Int64) (j : Nat) : Bool := x.toBitVec.getLsbD j
def bt (j : Nat) : Int64 := (1 : Int64) <<< (Int32.toInt64 (nI j) &&& 63)
theorem tb_or (x y : Int64) (j : Nat) : tb (x ||| y) j = (tb x j || tb y j) := BitVec.getLsbD_or
theorem tb_0 (j : Nat) : tb 0 j = false := by simp [tb]
theorem tb_bt : ∀ j, j < 64 → ∀ i, i < 64 → tb (bt j) i = decide (i = j) := by decide +kernel
theorem tb_ext {x y : Int64} (h : ∀ j, j < 64 → tb x j = tb y j) : x = y := Int64.toBitVec.inj (BitVec.eq_of_getLsbD_eq fun i hi => h i hi)
def orB (c : Bool) (x b : Int64) : Int64 := if c = true then x ||| b else x
theorem tb_orB {c : Bool} {x : Int64} {j i : Nat} (hj : j < 64) (hi : i < 64) : tb (orB c x (bt j)) i = (tb x i || (c && decide (i = j))) := by
  unfold orB
  cases c
  · simp
  · rw [if_pos rfl, tb_or, tb_bt j hj i hi]; simp
def crN (P : PG) (r k : Nat) : Nat → Int64
  | 0 => 0
  | n + 1 => orB (cpd P n 1 r k) (orB (cpd P n 0 r k) (crN P r k n) (bt (2 * n))) (bt (2 * n + 1))
theorem crN_s (P : PG) (r k n : Nat) : crN P r k (n + 1) = orB (cpd P n 1 r k) (orB (cpd P n 0 r k) (crN P r k n) (bt (2 * n))) (bt (2 * n + 1)) := rfl
theorem tb_cr {P : PG} {r k : Nat} : ∀ {n : Nat}, n ≤ 24 → ∀ j, j < 64 → tb (crN P r k n) j = (decide (j < 2 * n) && cpd P (j / 2) (j % 2) r k) := by
  intro n
  induction n with
  | zero => intro _ j _; rw [show crN P r k 0 = 0 from rfl, tb_0]; simp
  | succ n ih =>
    intro hn j hj
    rw [crN_s, tb_orB (by omega) hj, tb_orB (by omega) hj, ih (by omega) j hj]
    by_cases a : j < 2 * n
    · have h1 : j ≠ 2 * n := by omega
      have h2 : j ≠ 2 * n + 1 := by omega
      have h3 : j < 2 * (n + 1) := by omega
      simp [a, h1, h2, h3]
    · by_cases b : j = 2 * n
      · subst b
        have h1 : 2 * n / 2 = n := by omega
        have h2 : 2 * n % 2 = 0 := by omega
        have h3 : 2 * n < 2 * (n + 1) := by omega
        rw [h1, h2]
        simp [h3]
      · by_cases c : j = 2 * n + 1
        · subst c
          have h1 : (2 * n + 1) / 2 = n := by omega
          have h2 : (2 * n + 1) % 2 = 1 := by omega
          have h3 : 2 * n + 1 < 2 * (n + 1) := by omega
          rw [h1, h2]
          simp [h3]
        · have h3 : ¬ j < 2 * (n + 1) := by omega
          simp [a, b, c, h3]
theorem cr_eq {P : PG} {r k k' n : Nat} (hn : n ≤ 24) : crN P r k n = crN P r k' n ↔ ∀ i, i < n → cpd P i 0 r k = cpd P i 0 r k' ∧ cpd P i 1 r k = cpd P i 1 r k' := by
  constructor
  · intro h i hi
    have h1 := tb_cr (P := P) (r := r) (k := k) hn (2 * i) (by omega)
    have h2 := tb_cr (P := P) (r := r) (k := k') hn (2 * i) (by omega)
    have h3 := tb_cr (P := P) (r := r) (k := k) hn (2 * i + 1) (by omega)
    have h4 := tb_cr (P := P) (r := r) (k := k') hn (2 * i + 1) (by omega)
    rw [h] at h1 h3
    rw [show 2 * i / 2 = i by omega, show 2 * i % 2 = 0 by omega] at h1 h2
    rw [show (2 * i + 1) / 2 = i by omega, show (2 * i + 1) % 2 = 1 by omega] at h3 h4
    have a1 := h1.symm.trans h2
    have a2 := h3.symm.trans h4
    have b1 : 2 * i < 2 * n := by omega
    have b2 : 2 * i + 1 < 2 * n := by omega
    simp only [b1, decide_true, Bool.true_and] at a1
    simp only [b2, decide_true, Bool.true_and] at a2
    exact ⟨a1, a2⟩
  · intro h
    refine tb_ext fun j hj => ?_
    rw [tb_cr hn j hj, tb_cr hn j hj]
    by_cases a : j < 2 * n
    · have hi := h (j / 2) (by omega)
      rcases (show j % 2 = 0 ∨ j % 2 = 1 by omega) with z | z
      · rw [z, hi.1]
      · rw [z, hi.2]
    · simp [a]
theorem cr_z {P : PG} {r k n : Nat} (hn : n ≤ 24) : crN P r k n = 0 ↔ ∀ i, i < n → cpd P i 0 r k = false ∧ cpd P i 1 r k = false := by
  constructor
  · intro h i hi
    have h1 := tb_cr (P := P) (r := r) (k := k) hn (2 * i) (by omega)
    have h3 := tb_cr (P := P) (r := r) (k := k) hn (2 * i + 1) (by omega)
    rw [h, tb_0] at h1 h3
    rw [show 2 * i / 2 = i by omega, show 2 * i % 2 = 0 by omega] at h1
    rw [show (2 * i + 1) / 2 = i by omega, show (2 * i + 1) % 2 = 1 by omega] at h3
    have b1 : 2 * i < 2 * n := by omega
    have b2 : 2 * i + 1 < 2 * n := by omega
    simp only [b1, decide_true, Bool.true_and] at h1
    simp only [b2, decide_true, Bool.true_and] at h3
    exact ⟨h1.symm, h3.symm⟩
  · intro h
    refine tb_ext fun j hj => ?_
    rw [tb_cr hn j hj, tb_0]
    by_cases a : j < 2 * n
    · have hi := h (j / 2) (by omega)
      rcases (show j % 2 = 0 ∨ j % 2 = 1 by omega) with z | z
      · rw [z, hi.1]; simp
      · rw [z, hi.2]; simp
    · simp [a]
theorem inC_cr {P : PG} (ok : OkP P) (r k : Nat) : inC P r k = false ↔ crN P r k (pNi P) = 0 := by
  rw [cr_z ok.2.2.1]
  constructor
  · intro h i hi
    have : ¬ inC P r k = true := by rw [h]; simp
    unfold inC at this
    rw [anyN_iff] at this
    have h2 : ¬ ((cpd P i 0 r k || cpd P i 1 r k) = true) := fun z => this ⟨i, hi, z⟩
    simpa using h2
  · intro h
    have : ¬ inC P r k = true := by
      unfold inC
      rw [anyN_iff]
      rintro ⟨i, hi, z⟩
      have := h i hi
      rw [this.1, this.2] at z
      simp at z
    simpa using this
theorem alk_cr {P : PG} (ok : OkP P) (r k : Nat) : alk P r k = true ↔ crN P r k (pNi P) = crN P r (k + 1) (pNi P) := by
  rw [cr_eq ok.2.2.1]
  unfold alk
  rw [allN_iff]
  constructor
  · intro h i hi
    simpa using h i hi
  · intro h i hi
    simpa using h i hi
/-- a byte that one access holds together with the byte ahead, of the first n -/
def jnN (P : PG) (r k n : Nat) : Bool := decide (0 < k) && anyN n (fun i => acI P r (k - 1) i && hld (pFd P i 2) (pFd P i 3) k)
theorem jnN_s (P : PG) (r k : Nat) : jnN P r (k + 1) (pNi P) = jnd P r k := by simp [jnN, jnd]
theorem pad_B {P : PG} (ok : OkP P) (r k : Nat) : ptd P r k = false ↔ esc P r = false ∧ acc P r k = false ∧ crN P r k (pNi P) = 0 := by
  rw [← inC_cr ok]
  unfold ptd sft
  cases esc P r <;> cases acc P r k <;> cases inC P r k <;> simp
theorem gon_0 (P : PG) (r : Nat) : gon P r 0 = false := by unfold gon; split <;> simp
theorem gon_e {P : PG} {r k : Nat} (hk : 0 < k) (he : esc P r = true) : gon P r k = true := by unfold gon; rw [if_pos he]; simpa using hk
theorem gon_a {P : PG} {r k : Nat} (hk : 0 < k) (he : esc P r = false) (ha : acc P r k = true) : gon P r k = jnN P r k (pNi P) := by
  obtain ⟨j, rfl⟩ : ∃ j, k = j + 1 := ⟨k - 1, by omega⟩
  unfold gon
  rw [if_neg (by rw [he]; simp), if_neg (by omega), jnN_s]
  simp [sft, ha]
theorem gon_c {P : PG} (ok : OkP P) {r k : Nat} (hk : 0 < k) (he : esc P r = false) (ha : acc P r k = false) (hp : ptd P r k = true) : gon P r k = true ↔ acc P r (k - 1) = false ∧ crN P r (k - 1) (pNi P) = crN P r k (pNi P) := by
  obtain ⟨j, rfl⟩ : ∃ j, k = j + 1 := ⟨k - 1, by omega⟩
  have hc : inC P r (j + 1) = true := by
    unfold ptd sft at hp
    rw [he, ha] at hp
    simpa using hp
  have hj : jnd P r j = false := by
    cases z : jnd P r j with
    | false => rfl
    | true => have := (acI_of_j z).2; rw [ha] at this; cases this
  have hs : sft P r (j + 1) = true := by unfold sft; rw [hc, ha]; rfl
  unfold gon
  rw [if_neg (by rw [he]; simp), if_neg (by omega), Nat.add_sub_cancel, hj, hs]
  simp only [Bool.false_or, Bool.true_and, Bool.and_eq_true]
  rw [alk_cr ok]
  constructor
  · rintro ⟨h1, h2⟩
    unfold sft at h1
    simp only [Bool.and_eq_true, Bool.not_eq_true'] at h1
    exact ⟨h1.2, h2⟩
  · rintro ⟨h1, h2⟩
    refine ⟨?_, h2⟩
    unfold sft
    rw [h1]
    have : ¬ inC P r j = false := by
      rw [inC_cr ok, h2, ← inC_cr ok, hc]; simp
    simpa using this
/-- the bytes of a layout at a, behind the first n instructions -/
def L1 (P : PG) (r n : Nat) (h : AH) (a : Nat) : Prop := hI h a 6 = nI (szx P r) ∧ hI h a 8 = bi (anyN n (esI P r)) ∧ ∀ k, k < 16 → hI h (a + 4) k = bi (anyN n (acI P r k)) ∧ hI h (a + 5) k = bi (jnN P r k n) ∧ hJ h (a + 6) k = crN P r k n
theorem L1_of {P : PG} {r n : Nat} {h h' : AH} {a : Nat} (l : L1 P r n h a) (e : ∀ k, 6 ≤ k → k ≠ 7 → hI h' a k = hI h a k) (e4 : hI h' (a + 4) = hI h (a + 4)) (e5 : hI h' (a + 5) = hI h (a + 5)) (e6 : hJ h' (a + 6) = hJ h (a + 6)) : L1 P r n h' a := by
  obtain ⟨l1, l2, l3⟩ := l
  exact ⟨by rw [e 6 (by decide) (by decide)]; exact l1, by rw [e 8 (by decide) (by decide)]; exact l2, fun k hk => by rw [e4, e5, e6]; exact l3 k hk⟩
def AL (a : Nat) : Prop := dyn (a + 3) ∧ ¬ dyn a ∧ ¬ dyn (a + 1)
theorem AL_r {r : Nat} (h : r < 4) : AL (59 + 23 * r) := by
  unfold AL dyn
  omega
theorem szx_le {P : PG} (ok : OkP P) (r : Nat) : szx P r ≤ 16 := by
  unfold szx
  split
  · rename_i h; exact (ok.2.1 r h).2
  · omega
/-- a partition at b -/
def PT (h : AH) (b s l : Nat) (pr lv : Bool) : Prop := hI h b 0 = nI s ∧ hI h b 1 = nI l ∧ hI h b 2 = bi pr ∧ hI h b 3 = bi lv
theorem PT_of {h h' : AH} {b s l : Nat} {pr lv : Bool} (p : PT h b s l pr lv) (e : hI h' b = hI h b) : PT h' b s l pr lv := by unfold PT; rw [e]; exact p
/-- the partitions of a layout at a, behind the first k bytes -/
def L3 (P : PG) (r k : Nat) (h : AH) (a : Nat) : Prop := hI h a 7 = nI (cnt P r k) ∧ (∀ p, p < cnt P r k → PT h (a + 7 + p) (bgf P r k p) (lnf P r k p) (!esc P r && isWn (lnf P r k p)) (esc P r)) ∧ ∀ j, j < 16 → hP h (a + 3) j = some (if j < k ∧ ptd P r j = true then a + 7 + pof P r j else a + 2)

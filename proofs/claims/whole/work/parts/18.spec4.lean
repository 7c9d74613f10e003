/-! live -/
def dtP (P : PG) (i k : Nat) : Nat := 16 * pFd P i 1 + pof P (pFd P i 1) (pFd P i 2 + k)
def srP (P : PG) (i k : Nat) : Nat := 16 * pFd P i 3 + pof P (pFd P i 3) (pFd P i 4 + k)
def vpl (P : PG) (x : Nat) : Prop := ∃ r p, r < pNr P ∧ p < npt P r ∧ x = 16 * r + p
def bsL (P : PG) (x : Nat) : Prop := (∃ r p, r < pNr P ∧ p < npt P r ∧ x = 16 * r + p ∧ esc P r = true) ∨ ∃ i, i < pNi P ∧ pFd P i 0 = 2 ∧ x = 16 * pFd P i 1 + pof P (pFd P i 1) (pFd P i 2)
def cls (P : PG) (S : Nat → Bool) : Prop := ∀ i, i < pNi P → pFd P i 0 = 3 → ∀ k, k < pFd P i 5 → S (dtP P i k) = true → S (srP P i k) = true
/-- the least set that has the first live ones and goes with the copies -/
def LV (P : PG) (x : Nat) : Prop := ∀ S : Nat → Bool, (∀ y, bsL P y → S y = true) → cls P S → S x = true
noncomputable def liv (P : PG) (x : Nat) : Bool := @decide (LV P x) (Classical.propDecidable _)
def lsd (P : PG) (f : Nat → Bool) : Prop := ∀ x, vpl P x → f x = true → LV P x
def lbs (P : PG) (f : Nat → Bool) : Prop := ∀ x, bsL P x → f x = true
theorem LV_bs {P : PG} {x : Nat} (h : bsL P x) : LV P x := fun _ h1 _ => h1 x h
theorem LV_cp {P : PG} {i k : Nat} (hi : i < pNi P) (hc : pFd P i 0 = 3) (hk : k < pFd P i 5) (h : LV P (dtP P i k)) : LV P (srP P i k) := fun S h1 h2 => h2 i hi hc k hk (h S h1 h2)
theorem vpl_d {P : PG} (ok : OkP P) {i k : Nat} (hi : i < pNi P) (hc : pFd P i 0 = 3) (hk : k < pFd P i 5) : vpl P (dtP P i k) := by
  have h := ok_cp ok hi hc
  exact ⟨_, _, h.1, pof_lt (ptd_d hi hc hk rfl) (by omega), rfl⟩
theorem vpl_s {P : PG} (ok : OkP P) {i k : Nat} (hi : i < pNi P) (hc : pFd P i 0 = 3) (hk : k < pFd P i 5) : vpl P (srP P i k) := by
  have h := ok_cp ok hi hc
  exact ⟨_, _, h.2.1, pof_lt (ptd_s hi hc hk rfl) (by omega), rfl⟩
theorem vpl_lt {P : PG} (ok : OkP P) {x : Nat} (h : vpl P x) : x < 64 := by
  obtain ⟨r, p, h1, h2, rfl⟩ := h
  have := ok.1
  have := ok.2.1 r h1
  have := npt_le P r
  omega
theorem liv_of {P : PG} {f : Nat → Bool} {x : Nat} (h1 : lsd P f) (h2 : lbs P f) (h3 : cls P f) (hx : vpl P x) : f x = liv P x := by
  unfold liv
  cases hf : f x with
  | true => exact (@decide_eq_true _ (Classical.propDecidable _) (h1 x hx hf)).symm
  | false => exact (@decide_eq_false _ (Classical.propDecidable _) (fun w => by have := w f h2 h3; rw [hf] at this; cases this)).symm
/-- one copy carried over its first k bytes -/
def EN (P : PG) (i : Nat) (f fk : Nat → Bool) (k : Nat) (b : Bool) : Prop := (∀ x, f x = true → fk x = true) ∧ (lsd P f → lsd P fk) ∧ (b = false → (∀ x, fk x = f x) ∧ ∀ j, j < k → f (dtP P i j) = true → f (srP P i j) = true) ∧ (b = true → ∃ x, x < 64 ∧ f x = false ∧ fk x = true)
theorem EN_0 (P : PG) (i : Nat) (f : Nat → Bool) : EN P i f f 0 false := ⟨fun _ h => h, fun h => h, fun _ => ⟨fun _ => rfl, fun j h => absurd h (Nat.not_lt_zero _)⟩, fun h => by cases h⟩
theorem EN_s {P : PG} (ok : OkP P) {i k : Nat} {f fk : Nat → Bool} {b b' v : Bool} (hi : i < pNi P) (hc : pFd P i 0 = 3) (hk : k < pFd P i 5) (E : EN P i f fk k b) (hb : b' = (b || (fk (dtP P i k) && !fk (srP P i k)))) (hv : v = (fk (srP P i k) || fk (dtP P i k))) : EN P i f (fun x => if x = srP P i k then v else fk x) (k + 1) b' := by
  obtain ⟨e1, e2, e3, e4⟩ := E
  refine ⟨fun x hx => ?_, fun hs x hx hf => ?_, fun hb' => ?_, fun hb' => ?_⟩
  · show (if _ then _ else _) = _
    split
    · rename_i e
      rw [hv, ← e, e1 x hx]; rfl
    · exact e1 x hx
  · have hs' := e2 hs
    have hf2 : (if x = srP P i k then v else fk x) = true := hf
    by_cases e : x = srP P i k
    · rw [if_pos e, hv, Bool.or_eq_true] at hf2
      subst e
      rcases hf2 with h | h
      · exact hs' _ hx h
      · exact LV_cp hi hc hk (hs' _ (vpl_d ok hi hc hk) h)
    · rw [if_neg e] at hf2
      exact hs' x hx hf2
  · rw [hb', eq_comm, Bool.or_eq_false_iff, Bool.and_eq_false_iff] at hb
    obtain ⟨hb1, hb2⟩ := hb
    obtain ⟨g1, g2⟩ := e3 hb1
    have hd : fk (dtP P i k) = true → fk (srP P i k) = true := fun w => by
      rcases hb2 with h | h
      · rw [w] at h; cases h
      · simpa using h
    refine ⟨fun x => ?_, fun j hj hf => ?_⟩
    · show (if _ then _ else _) = _
      split
      · rename_i e
        rw [hv, e, ← g1]
        cases hh : fk (dtP P i k) with
        | true => rw [hd hh]; rfl
        | false => rw [Bool.or_false]
      · exact g1 x
    · by_cases e : j = k
      · subst e
        rw [← g1] at hf ⊢
        exact hd hf
      · exact g2 j (by omega) hf
  · rw [hb', eq_comm, Bool.or_eq_true, Bool.and_eq_true] at hb
    by_cases hbt : b = true
    · obtain ⟨x, h1, h2, h3⟩ := e4 hbt
      refine ⟨x, h1, h2, ?_⟩
      show (if _ then _ else _) = _
      split
      · rename_i e
        rw [hv, ← e, h3]; rfl
      · exact h3
    · have hbf : b = false := by simpa using hbt
      rcases hb with h | ⟨h1, h2⟩
      · exact absurd h hbt
      · refine ⟨srP P i k, vpl_lt ok (vpl_s ok hi hc hk), ?_, ?_⟩
        · rw [← (e3 hbf).1]; simpa using h2
        · show (if _ then _ else _) = _
          rw [if_pos rfl, hv, h1, Bool.or_true]
/-- a round over the copies, come to instruction n -/
def EM (P : PG) (f fk : Nat → Bool) (n : Nat) (b : Bool) : Prop := (∀ x, f x = true → fk x = true) ∧ (lsd P f → lsd P fk) ∧ (b = false → (∀ x, fk x = f x) ∧ ∀ i, i < n → pFd P i 0 = 3 → ∀ k, k < pFd P i 5 → f (dtP P i k) = true → f (srP P i k) = true) ∧ (b = true → ∃ x, x < 64 ∧ f x = false ∧ fk x = true)
theorem EM_0 (P : PG) (f : Nat → Bool) : EM P f f 0 false := ⟨fun _ h => h, fun h => h, fun _ => ⟨fun _ => rfl, fun j h => absurd h (Nat.not_lt_zero _)⟩, fun h => by cases h⟩
theorem EM_no {P : PG} {f fk : Nat → Bool} {n : Nat} {b : Bool} (E : EM P f fk n b) (h : ¬ pFd P n 0 = 3) : EM P f fk (n + 1) b :=
  ⟨E.1, E.2.1, fun hb => ⟨(E.2.2.1 hb).1, fun i hi hc => (E.2.2.1 hb).2 i (by
    rcases Nat.lt_or_eq_of_le (Nat.le_of_lt_succ hi) with z | z
    · exact z
    · exact absurd (z ▸ hc) h) hc⟩, E.2.2.2⟩
theorem EM_s {P : PG} {f fk fl : Nat → Bool} {n : Nat} {b b' c : Bool} (E : EM P f fk n b) (E2 : EN P n fk fl (pFd P n 5) c) (hb : b' = (b || c)) : EM P f fl (n + 1) b' := by
  obtain ⟨e1, e2, e3, e4⟩ := E
  obtain ⟨g1, g2, g3, g4⟩ := E2
  refine ⟨fun x hx => g1 x (e1 x hx), fun h => g2 (e2 h), fun h => ?_, fun h => ?_⟩
  · rw [h, eq_comm, Bool.or_eq_false_iff] at hb
    obtain ⟨a1, a2⟩ := e3 hb.1
    obtain ⟨b1, b2⟩ := g3 hb.2
    refine ⟨fun x => (b1 x).trans (a1 x), fun i hi hc k hk hf => ?_⟩
    rcases Nat.lt_or_eq_of_le (Nat.le_of_lt_succ hi) with z | z
    · exact a2 i z hc k hk hf
    · subst z
      rw [← a1] at hf ⊢
      exact b2 k hk hf
  · by_cases hbt : b = true
    · obtain ⟨x, h1, h2, h3⟩ := e4 hbt
      exact ⟨x, h1, h2, g1 x h3⟩
    · have hbf : b = false := by simpa using hbt
      rw [h, hbf, Bool.false_or] at hb
      obtain ⟨x, h1, h2, h3⟩ := g4 hb.symm
      exact ⟨x, h1, by rw [← (e3 hbf).1]; exact h2, h3⟩
/-- how many of the first n are not yet in -/
def cF (f : Nat → Bool) : Nat → Nat
  | 0 => 0
  | n + 1 => if f n = true then cF f n else cF f n + 1
theorem cF_le {f g : Nat → Bool} (h : ∀ x, f x = true → g x = true) : ∀ n, cF g n ≤ cF f n
  | 0 => Nat.le_refl _
  | n + 1 => by
    have ih := cF_le h n
    show (if g n = true then cF g n else cF g n + 1) ≤ (if f n = true then cF f n else cF f n + 1)
    by_cases hf : f n = true
    · rw [if_pos hf, if_pos (h n hf)]; exact ih
    · rw [if_neg hf]; split <;> omega
theorem cF_lt {f g : Nat → Bool} (h : ∀ x, f x = true → g x = true) {x : Nat} (h1 : f x = false) (h2 : g x = true) : ∀ n, x < n → cF g n < cF f n
  | 0, hn => absurd hn (Nat.not_lt_zero _)
  | n + 1, hn => by
    show (if g n = true then cF g n else cF g n + 1) < (if f n = true then cF f n else cF f n + 1)
    by_cases e : x = n
    · subst e
      have ih := cF_le h x
      rw [if_pos h2, if_neg (by simp [h1])]; omega
    · have ih := cF_lt h h1 h2 n (by omega)
      by_cases hf : f n = true
      · rw [if_pos hf, if_pos (h n hf)]; exact ih
      · rw [if_neg hf]; split <;> omega
def mL (f : Nat → Bool) (b : Bool) : Nat := 2 * cF f 64 + (if b = true then 1 else 0)
theorem mL_lt {P : PG} {f g : Nat → Bool} {n : Nat} {b : Bool} (E : EM P f g n b) : mL g b < mL f true := by
  unfold mL
  cases b with
  | false =>
    have : g = f := funext (E.2.2.1 rfl).1
    rw [this]; simp
  | true =>
    obtain ⟨x, h1, h2, h3⟩ := E.2.2.2 rfl
    have := cF_lt E.1 h2 h3 64 h1
    simp; omega

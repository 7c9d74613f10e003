/-! life, passed on at the pieces -/
def mn5 (P : PG) (n s : Nat) : Nat := if s < pFd P n 5 then s else pFd P n 5
def ES (P : PG) (n : Nat) (f fk : Nat → Bool) (s : Nat) (b : Bool) : Prop := (pFd P n 0 = 3 ∧ EN P n f fk (mn5 P n s) b ∧ (0 < s → s ≤ pFd P n 5 → fk (dtP P n (s - 1)) = true → fk (srP P n (s - 1)) = true)) ∨ (¬ pFd P n 0 = 3 ∧ fk = f ∧ b = false)
def ER (P : PG) (n : Nat) (f fk : Nat → Bool) (b : Bool) : Prop := (pFd P n 0 = 3 ∧ EN P n f fk (pFd P n 5) b) ∨ (¬ pFd P n 0 = 3 ∧ fk = f ∧ b = false)
theorem ES_0 {P : PG} (ok : OkP P) {n : Nat} (hn : n < pNi P) (f : Nat → Bool) : ES P n f f 0 false := by
  by_cases z : pFd P n 0 = 3
  · obtain ⟨o1, o2, o3, o4, o5, o6, o7⟩ := ok_cp ok hn z
    refine Or.inl ⟨z, ?_, fun h => absurd h (Nat.lt_irrefl _)⟩
    unfold mn5
    rw [if_pos (by omega)]
    exact EN_0 P n f
  · exact Or.inr ⟨z, rfl, rfl⟩
theorem ES_16 {P : PG} (ok : OkP P) {n : Nat} (hn : n < pNi P) {f fk : Nat → Bool} {b : Bool} (E : ES P n f fk 16 b) : ER P n f fk b := by
  rcases E with ⟨z, E, -⟩ | z
  · obtain ⟨o1, o2, o3, o4, o5, o6, o7⟩ := ok_cp ok hn z
    have : mn5 P n 16 = pFd P n 5 := by unfold mn5; split <;> omega
    rw [this] at E
    exact Or.inl ⟨z, E⟩
  · exact Or.inr z
theorem ES_same {P : PG} (ok : OkP P) {n s : Nat} {f fk : Nat → Bool} {b : Bool} (hn : n < pNi P) (E : ES P n f fk s b) (hs : s < pFd P n 5) (h : pFd P n 0 = 3 → fk (dtP P n s) = true → fk (srP P n s) = true) : ES P n f fk (s + 1) b := by
  rcases E with ⟨z, E, E2⟩ | z
  · refine Or.inl ⟨z, ?_, fun _ _ => by rw [Nat.add_sub_cancel]; exact h z⟩
    have m1 : mn5 P n s = s := if_pos hs
    have m2 : mn5 P n (s + 1) = s + 1 := by unfold mn5; split <;> omega
    rw [m1] at E
    rw [m2]
    have hz := h z
    have hb : b = (b || (fk (dtP P n s) && !fk (srP P n s))) := by
      cases q : fk (dtP P n s) with
      | false => simp
      | true => rw [hz q]; simp
    have r := EN_s (v := fk (srP P n s)) ok hn z hs E hb (by
      cases q : fk (dtP P n s) with
      | false => simp
      | true => rw [hz q]; rfl)
    have e : (fun x => if x = srP P n s then fk (srP P n s) else fk x) = fk := by
      funext x
      by_cases y : x = srP P n s
      · rw [if_pos y, y]
      · rw [if_neg y]
    rw [e] at r
    exact r
  · exact Or.inr z
theorem ES_out {P : PG} {n s : Nat} {f fk : Nat → Bool} {b : Bool} (E : ES P n f fk s b) (hs : ¬ s < pFd P n 5) : ES P n f fk (s + 1) b := by
  rcases E with ⟨z, E, E2⟩ | z
  · refine Or.inl ⟨z, ?_, fun _ h => absurd h (by omega)⟩
    have m1 : mn5 P n s = pFd P n 5 := if_neg hs
    have m2 : mn5 P n (s + 1) = pFd P n 5 := if_neg (by omega)
    rw [m1] at E
    rw [m2]; exact E
  · exact Or.inr z
theorem pof_nb {P : PG} {r k : Nat} (h : bgn P r (k + 1) = false) : pof P r (k + 1) = pof P r k := by
  unfold pof
  rw [cnt_s P r (k + 1), h]
  rfl
/-- no piece begins here -/
theorem ES_no {P : PG} (ok : OkP P) {n s : Nat} {f fk : Nat → Bool} {b : Bool} (hn : n < pNi P) (E : ES P n f fk s b) (hp : pcx P n s = 0) : ES P n f fk (s + 1) b := by
  by_cases hs : s < pFd P n 5
  · refine ES_same ok hn E hs (fun z hd => ?_)
    have hq : pst P n s = false := by
      cases q : pst P n s with
      | false => rfl
      | true =>
        unfold pcx at hp
        rw [if_pos ⟨z, hs, q⟩] at hp
        have := (pln_spec hs).1
        omega
    have h0 : 0 < s := by
      by_cases y : s = 0
      · rw [y] at hq; unfold pst at hq; simp at hq
      · omega
    rcases E with ⟨-, -, E2⟩ | w
    · obtain ⟨t, rfl⟩ : ∃ t, s = t + 1 := ⟨s - 1, by omega⟩
      rw [pst_pc h0] at hq
      unfold pcut at hq
      rw [Bool.or_eq_false_iff] at hq
      have e1 : dtP P n (t + 1) = dtP P n t := by
        unfold dtP
        rw [← Nat.add_assoc, pof_nb (by rw [Nat.add_assoc]; exact hq.1)]
      have e2 : srP P n (t + 1) = srP P n t := by
        unfold srP
        rw [← Nat.add_assoc, pof_nb (by rw [Nat.add_assoc]; exact hq.2)]
      have := E2 h0 (by omega)
      rw [Nat.add_sub_cancel] at this
      rw [e1] at hd
      rw [e2]; exact this hd
    · exact absurd z w.1
  · exact ES_out E hs
theorem ES_set {P : PG} (ok : OkP P) {n s : Nat} {f fk : Nat → Bool} {b : Bool} (hn : n < pNi P) (hk : pFd P n 0 = 3) (E : ES P n f fk s b) (hs : s < pFd P n 5) (h1 : fk (dtP P n s) = true) (h2 : fk (srP P n s) = false) : ES P n f (fun x => if x = srP P n s then true else fk x) (s + 1) true := by
  rcases E with ⟨z, E, E2⟩ | z
  · refine Or.inl ⟨z, ?_, fun _ _ _ => ?_⟩
    · have m1 : mn5 P n s = s := if_pos hs
      have m2 : mn5 P n (s + 1) = s + 1 := by unfold mn5; split <;> omega
      rw [m1] at E
      rw [m2]
      exact EN_s (v := true) ok hn z hs E (by rw [h1, h2]; simp) (by rw [h1]; simp)
    · rw [Nat.add_sub_cancel]
      show (if srP P n s = srP P n s then true else fk (srP P n s)) = true
      rw [if_pos rfl]
  · exact absurd hk z.1
/-- the positions from m on -/
def ED (P : PG) (f fk : Nat → Bool) (m : Nat) (b : Bool) : Prop := (∀ x, f x = true → fk x = true) ∧ (lsd P f → lsd P fk) ∧ (b = false → (∀ x, fk x = f x) ∧ ∀ i, m ≤ i → i < pNi P → pFd P i 0 = 3 → ∀ k, k < pFd P i 5 → f (dtP P i k) = true → f (srP P i k) = true) ∧ (b = true → ∃ x, x < 64 ∧ f x = false ∧ fk x = true)
theorem ED_0 (P : PG) (f : Nat → Bool) : ED P f f (pNi P) false := ⟨fun _ h => h, fun h => h, fun _ => ⟨fun _ => rfl, fun j h1 h2 => absurd h2 (by omega)⟩, fun h => by cases h⟩
theorem ED_s {P : PG} {f fk fl : Nat → Bool} {n : Nat} {b c : Bool} (E : ED P f fk (n + 1) b) (E2 : ER P n fk fl c) : ED P f fl n (b || c) := by
  obtain ⟨e1, e2, e3, e4⟩ := E
  rcases E2 with ⟨hk, g1, g2, g3, g4⟩ | ⟨hk, rfl, rfl⟩
  · refine ⟨fun x hx => g1 x (e1 x hx), fun h => g2 (e2 h), fun h => ?_, fun h => ?_⟩
    · rw [Bool.or_eq_false_iff] at h
      obtain ⟨a1, a2⟩ := e3 h.1
      obtain ⟨b1, b2⟩ := g3 h.2
      refine ⟨fun x => (b1 x).trans (a1 x), fun i h1 h2 hc k hkk hf => ?_⟩
      by_cases z : i = n
      · subst z
        rw [← a1] at hf ⊢
        exact b2 k hkk hf
      · exact a2 i (by omega) h2 hc k hkk hf
    · by_cases hbt : b = true
      · obtain ⟨x, h1, h2, h3⟩ := e4 hbt
        exact ⟨x, h1, h2, g1 x h3⟩
      · have hbf : b = false := by simpa using hbt
        rw [hbf, Bool.false_or] at h
        obtain ⟨x, h1, h2, h3⟩ := g4 h
        exact ⟨x, h1, by rw [← (e3 hbf).1]; exact h2, h3⟩
  · rw [Bool.or_false]
    refine ⟨e1, e2, fun h => ⟨(e3 h).1, fun i h1 h2 hc => ?_⟩, e4⟩
    by_cases z : i = n
    · subst z; exact absurd hc hk
    · exact (e3 h).2 i (by omega) h2 hc
theorem cF_n (f : Nat → Bool) : ∀ n, cF f n ≤ n
  | 0 => Nat.le_refl _
  | n + 1 => by
    have ih := cF_n f n
    show (if f n = true then cF f n else cF f n + 1) ≤ n + 1
    split <;> omega
/-- between two rounds -/
def EO (P : PG) (f : Nat → Bool) (t : Nat) (c : Bool) : Prop := lsd P f ∧ lbs P f ∧ (c = false → cls P f) ∧ (c = true → t + cF f 64 ≤ 64) ∧ t ≤ 65
theorem EO_s {P : PG} {f fk : Nat → Bool} {t : Nat} {b : Bool} (o : EO P f t true) (E : ED P f fk 0 b) : EO P fk (t + 1) b := by
  obtain ⟨o1, o2, o3, o4, o5⟩ := o
  obtain ⟨e1, e2, e3, e4⟩ := E
  have o4 := o4 rfl
  refine ⟨e2 o1, fun x hx => e1 x (o2 x hx), fun h => ?_, fun h => ?_, by omega⟩
  · obtain ⟨a1, a2⟩ := e3 h
    have : fk = f := funext a1
    rw [this]
    exact fun i hi hc k hk hf => a2 i (Nat.zero_le _) hi hc k hk hf
  · obtain ⟨x, h1, h2, h3⟩ := e4 h
    have := cF_lt e1 h2 h3 64 h1
    omega

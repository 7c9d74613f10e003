/-! the class's history: a ring of what takes an edit back -/
def UE (h : AH) (kd ps : Int32) (sb : Option Nat) (Q Q' : PG) : Prop :=
  (kd = nI 1 ∧ pNr Q = pNr Q' + 1 ∧ pNi Q = pNi Q' ∧ (∀ r, r < pNr Q' → pSz Q r = pSz Q' r) ∧ ∀ i, i < pNi Q' → ∀ w, pFd Q i w = pFd Q' i w) ∨
  (kd = nI 2 ∧ ps = nI (pNi Q') ∧ pNr Q = pNr Q' ∧ (∀ r, r < pNr Q' → pSz Q r = pSz Q' r) ∧ pNi Q = pNi Q' + 1 ∧ ∀ i, i < pNi Q' → ∀ w, pFd Q i w = pFd Q' i w) ∨
  (kd = nI 3 ∧ ∃ x u, ps = nI x ∧ sb = some u ∧ x < pNi Q' ∧ IN h u (pFd Q' x) ∧ pNr Q = pNr Q' ∧ (∀ r, r < pNr Q' → pSz Q r = pSz Q' r) ∧ pNi Q' = pNi Q + 1 ∧ ∀ i, i < pNi Q → ∀ w, pFd Q i w = if i < x then pFd Q' i w else pFd Q' (i + 1) w)
def slt (t j : Nat) : Nat := (t + 7 - j) % 8
def cur (P : PG) (K : Nat → PG) (c j : Nat) : PG := if j = 0 then P else K (c - j)
def CH (h : AH) (P : PG) (K : Nat → PG) (c t : Nat) : Prop := t < 8 ∧ hI h 5 3 = nI t ∧ hI h 5 4 = nI c ∧ c ≤ 8 ∧ (∀ j, j < c → OkP (K j)) ∧ ∀ j, j < c → UE h (hI h 6 (slt t j)) (hI h 7 (slt t j)) (hP h 8 (slt t j)) (cur P K c j) (K (c - 1 - j))
theorem UE_of {h h' : AH} {kd ps : Int32} {sb : Option Nat} {Q Q' : PG} (u : UE h kd ps sb Q Q') (hi : ∀ u f, IN h u f → IN h' u f) : UE h' kd ps sb Q Q' := by
  rcases u with z | z | ⟨z, x, u, a, b, c, d, e⟩
  · exact Or.inl z
  · exact Or.inr (Or.inl z)
  · exact Or.inr (Or.inr ⟨z, x, u, a, b, c, hi u _ d, e⟩)
/-- cells of the history unchanged -/
theorem CH_of {h h' : AH} {P : PG} {K : Nat → PG} {c t : Nat} (H : CH h P K c t) (e5 : hI h' 5 = hI h 5) (e6 : hI h' 6 = hI h 6) (e7 : hI h' 7 = hI h 7) (e8 : hP h' 8 = hP h 8) (hi : ∀ u f, IN h u f → IN h' u f) : CH h' P K c t := by
  obtain ⟨a, b, d, e, f, k⟩ := H
  exact ⟨a, by rw [e5]; exact b, by rw [e5]; exact d, e, f, fun j hj => by rw [e6, e7, e8]; exact UE_of (k j hj) hi⟩
def npk (c : Nat) : Nat := if c = 8 then 8 else c + 1
/-- behind note(kd, ps, u) -/
theorem CH_push {h e h' : AH} {P P' : PG} {K : Nat → PG} {c t u : Nat} {kd ps : Int32} (H : CH h P K c t) (ok : OkP P) (e6 : hI e 6 = hI h 6) (e7 : hI e 7 = hI h 7) (e8 : hP e 8 = hP h 8) (hh : h' = sI (sI (sP (sI (sI e 6 t kd) 7 t ps) 8 t (some u)) 5 3 (nI ((t + 1) % 8))) 5 4 (nI (npk c))) (hi : ∀ u f, IN h u f → IN h' u f) (hu : UE h' kd ps (some u) P' P) : CH h' P' (psh K c P).1 (psh K c P).2 ((t + 1) % 8) := by
  obtain ⟨a, b, d, e9, f, k⟩ := H
  have g6 : ∀ x, hI h' 6 x = if x = t then kd else hI h 6 x := fun x => by
    rw [hh, hI_n (by decide), hI_n (by decide)]
    show hI (sI (sI e 6 t kd) 7 t ps) 6 x = _
    rw [hI_n (by decide), hI_s, e6]
    simp
  have g7 : ∀ x, hI h' 7 x = if x = t then ps else hI h 7 x := fun x => by
    rw [hh, hI_n (by decide), hI_n (by decide)]
    show hI (sI (sI e 6 t kd) 7 t ps) 7 x = _
    rw [hI_s, hI_n (by decide), e7]
    simp
  have g8 : ∀ x, hP h' 8 x = if x = t then some u else hP h 8 x := fun x => by
    rw [hh]
    show (if 8 = 8 ∧ x = t then some u else hP e 8 x) = _
    rw [e8]
    simp
  have hc2 : (psh K c P).2 = npk c := by unfold psh npk; split <;> rfl
  refine ⟨by omega, by rw [hh, hI_s, if_neg (by omega), hI_s, if_pos ⟨rfl, rfl⟩], by rw [hh, hI_s, if_pos ⟨rfl, rfl⟩, hc2], by rw [hc2]; unfold npk; split <;> omega, fun j hj => ?_, fun j hj => ?_⟩
  · rw [hc2] at hj
    unfold psh
    unfold npk at hj
    split at hj
    · rename_i h8
      rw [if_pos h8]
      show OkP (if j = 7 then P else K (j + 1))
      split
      · exact ok
      · exact f _ (by omega)
    · rename_i h8
      rw [if_neg h8]
      show OkP (if j = c then P else K j)
      split
      · exact ok
      · exact f _ (by omega)
  · rw [hc2] at hj ⊢
    rw [g6, g7, g8]
    cases j with
    | zero =>
      have es : slt ((t + 1) % 8) 0 = t := by unfold slt; omega
      rw [es, if_pos rfl, if_pos rfl, if_pos rfl]
      have e1 : (psh K c P).1 (npk c - 1 - 0) = P := by
        unfold psh npk
        by_cases h8 : c = 8
        · rw [if_pos h8, if_pos h8]; rfl
        · rw [if_neg h8, if_neg h8]
          show (if c + 1 - 1 - 0 = c then P else K _) = P
          rw [if_pos (by omega)]
      rw [e1]
      exact hu
    | succ j =>
      have hj' : j < c ∧ j < 7 := by unfold npk at hj; split at hj <;> omega
      have es : slt ((t + 1) % 8) (j + 1) = slt t j := by unfold slt; omega
      have en : slt t j ≠ t := by unfold slt; omega
      rw [es, if_neg en, if_neg en, if_neg en]
      have e1 : (psh K c P).1 (npk c - 1 - (j + 1)) = K (c - 1 - j) := by
        unfold psh npk
        by_cases h8 : c = 8
        · rw [if_pos h8, if_pos h8]
          show (if 8 - 1 - (j + 1) = 7 then P else K (8 - 1 - (j + 1) + 1)) = _
          rw [if_neg (by omega)]; congr 1; omega
        · rw [if_neg h8, if_neg h8]
          show (if c + 1 - 1 - (j + 1) = c then P else K (c + 1 - 1 - (j + 1))) = _
          rw [if_neg (by omega)]; congr 1; omega
      have e2 : cur P' (psh K c P).1 (npk c) (j + 1) = cur P K c j := by
        unfold cur
        rw [if_neg (by omega)]
        unfold psh npk
        by_cases h8 : c = 8
        · rw [if_pos h8, if_pos h8]
          show (if 8 - (j + 1) = 7 then P else K (8 - (j + 1) + 1)) = _
          by_cases z : j = 0
          · rw [if_pos (by omega), if_pos z]
          · rw [if_neg (by omega), if_neg z]; congr 1; omega
        · rw [if_neg h8, if_neg h8]
          show (if c + 1 - (j + 1) = c then P else K (c + 1 - (j + 1))) = _
          by_cases z : j = 0
          · rw [if_pos (by omega), if_pos z]
          · rw [if_neg (by omega), if_neg z]; congr 1; omega
      rw [e1, e2]
      exact UE_of (k j hj'.1) hi
/-- the latest entry is gone -/
theorem CH_pop {h h' : AH} {P P' : PG} {K : Nat → PG} {c t : Nat} (H : CH h P K (c + 1) t) (e53 : hI h' 5 3 = nI (slt t 0)) (e54 : hI h' 5 4 = nI c) (e6 : hI h' 6 = hI h 6) (e7 : hI h' 7 = hI h 7) (e8 : hP h' 8 = hP h 8) (hi : ∀ u f, IN h u f → IN h' u f) (hP' : P' = K c) : CH h' P' K c (slt t 0) := by
  obtain ⟨a, b, d, e9, f, k⟩ := H
  refine ⟨by unfold slt; omega, e53, e54, by omega, fun j hj => f j (by omega), fun j hj => ?_⟩
  have es : slt (slt t 0) j = slt t (j + 1) := by unfold slt; omega
  rw [e6, e7, e8, es]
  have := UE_of (k (j + 1) (by omega)) hi
  have e1 : K (c + 1 - 1 - (j + 1)) = K (c - 1 - j) := by congr 1; omega
  have e2 : cur P K (c + 1) (j + 1) = cur P' K c j := by
    unfold cur
    rw [if_neg (by omega)]
    by_cases z : j = 0
    · rw [if_pos z, hP', z]; rfl
    · rw [if_neg z]; congr 1; omega
  rw [e1, e2] at this
  exact this
/-- the program behind a change of the list -/
theorem CPr_del {h h' : AH} {P P' : PG} {U : Nat → Nat} {x : Nat} (X : CPr h P U) (h24 : pNi P ≤ 24) (hx : x < pNi P) (F : FL3 h h' (pNi P - 1) (delU U (pNi P) x)) (hi : ∀ u f, IN h u f → IN h' u f) (e1 : pNr P = pNr P') (e2 : ∀ r, r < pNr P' → pSz P r = pSz P' r) (e3 : pNi P = pNi P' + 1) (e4 : ∀ i, i < pNi P' → ∀ w, pFd P' i w = if i < x then pFd P i w else pFd P (i + 1) w) : CPr h' P' (delU U (pNi P) x) := by
  obtain ⟨c1, c2, c3, c4, c5, c6⟩ := X
  obtain ⟨f1, f2, f3, f4, f5, f6, f7⟩ := F
  refine ⟨by rw [f3 3 (by decide), c1, e1], by rw [f4]; congr 1; omega, fun r hr => by rw [f2 2 (by decide), c3 r (by omega), e2 r hr], fun i hi24 => ⟨f7 i hi24, ?_⟩, hi _ _ c5, fun i h1 h2 => ?_⟩
  · unfold delU
    by_cases z : i < x
    · rw [if_pos z]
      have := hi _ _ (c4 i hi24).2
      have ex : xfd P i = xfd P' i := by
        unfold xfd
        rw [if_pos (by omega), if_pos (by omega)]
        funext w
        rw [e4 i (by omega) w, if_pos z]
      rw [← ex]; exact this
    · rw [if_neg z]
      by_cases y : i + 1 < pNi P
      · rw [if_pos y]
        have := hi _ _ (c4 (i + 1) (by omega)).2
        have ex : xfd P (i + 1) = xfd P' i := by
          unfold xfd
          rw [if_pos (by omega), if_pos (by omega)]
          funext w
          rw [e4 i (by omega) w, if_neg z]
        rw [← ex]; exact this
      · rw [if_neg y]
        have ex : xfd P' i = fun _ => 0 := by unfold xfd; rw [if_neg (by omega)]
        rw [ex]; exact hi _ _ c5
  · unfold delU
    rw [if_neg (by omega), if_neg (by omega)]
theorem CPr_ins {h h' : AH} {P P' : PG} {U : Nat → Nat} {x u : Nat} (X : CPr h P U) (h24 : pNi P < 24) (hx : x ≤ pNi P) (F : FL3 h h' (pNi P + 1) (insU U x u)) (hi : ∀ u f, IN h u f → IN h' u f) (hu : IN h' u (pFd P' x)) (e1 : pNr P = pNr P') (e2 : ∀ r, r < pNr P' → pSz P r = pSz P' r) (e3 : pNi P' = pNi P + 1) (e4 : ∀ i, i < pNi P → ∀ w, pFd P i w = if i < x then pFd P' i w else pFd P' (i + 1) w) : CPr h' P' (insU U x u) := by
  obtain ⟨c1, c2, c3, c4, c5, c6⟩ := X
  obtain ⟨f1, f2, f3, f4, f5, f6, f7⟩ := F
  refine ⟨by rw [f3 3 (by decide), c1, e1], by rw [f4, e3], fun r hr => by rw [f2 2 (by decide), c3 r (by omega), e2 r hr], fun i hi24 => ⟨f7 i hi24, ?_⟩, hi _ _ c5, fun i h1 h2 => ?_⟩
  · unfold insU
    by_cases z : i < x
    · rw [if_pos z]
      have := hi _ _ (c4 i hi24).2
      have ex : xfd P i = xfd P' i := by
        unfold xfd
        rw [if_pos (by omega), if_pos (by omega)]
        funext w
        rw [e4 i (by omega) w, if_pos z]
      rw [← ex]; exact this
    · rw [if_neg z]
      by_cases y : i = x
      · rw [if_pos y]
        have ex : xfd P' i = pFd P' x := by unfold xfd; rw [if_pos (by omega), y]
        rw [ex]; exact hu
      · rw [if_neg y]
        have := hi _ _ (c4 (i - 1) (by omega)).2
        have ex : xfd P (i - 1) = xfd P' i := by
          unfold xfd
          by_cases q : i - 1 < pNi P
          · rw [if_pos q, if_pos (by omega)]
            funext w
            rw [e4 (i - 1) q w, if_neg (by omega), show i - 1 + 1 = i by omega]
          · rw [if_neg q, if_neg (by omega)]
        rw [← ex]; exact this
  · unfold insU
    rw [if_neg (by omega), if_neg (by omega)]
    exact c6 _ (by omega) (by omega)
theorem FL3.in {h h' : AH} {n : Nat} {U : Nat → Nat} (F : FL3 h h' n U) : ∀ u f, IN h u f → IN h' u f := fun u f N => ⟨N.1, by rw [F.1]; exact N.2.1, fun k hk => by rw [F.2.1 u (by have := N.1; omega)]; exact N.2.2 k hk⟩
theorem FL3.cs {h h' : AH} {n : Nat} {U : Nat → Nat} (F : FL3 h h' n U) (X : CS h.1 (hP h)) : CS h'.1 (hP h') := CS_of X (fun a _ => by rw [F.1]) (fun b _ hb => F.2.2.2.2.2.1 b (fun z => hb (Or.inl z)))

theorem s_0 : csL[0]? = some (7, 4) := rfl
theorem s_1 : csL[1]? = some (5, 5) := rfl
theorem s_2 : csL[2]? = some (9, 4) := rfl
theorem s_3 : csL[3]? = some (12, 24) := rfl
theorem s_4 : csL[4]? = some (2, 10) := rfl
theorem s_5 : csL[5]? = some (1, 5) := rfl
theorem s_6 : csL[6]? = some (9, 8) := rfl
theorem s_7 : csL[7]? = some (9, 8) := rfl
theorem s_8 : csL[8]? = some (12, 8) := rfl
theorem s_9 : csL[9]? = some (0, 4) := rfl
theorem s_10 : csL[10]? = some (14, 4) := rfl
theorem s_34 : csL[34]? = some (15, 24) := by decide
theorem s_151 : csL[151]? = some (6, 11) := by decide
theorem s_152 : csL[152]? = some (9, 8) := by decide
theorem s_153 : csL[153]? = some (15, 4) := by decide
theorem s_158 : csL[158]? = some (9, 24) := by decide
theorem s_row : ∀ i, i < 24 → csL[35 + i]? = some (9, 16) := by decide
theorem s_brow : ∀ r, r < 4 → csL[154 + r]? = some (9, 16) := by decide
theorem LA_pt {sh : List (Nat × Nat)} {p : Nat → Nat → Option Nat} {a j : Nat} (Y : LA sh p a) (hj : j < 16) : sh[a + 7 + j]? = some (4, 4) := by
  rw [Nat.add_assoc]
  refine Y.1 (7 + j) (4, 4) ?_
  have : ∀ j, j < 16 → laS[7 + j]? = some (4, 4) := by decide
  exact this j hj
theorem nw_at (h : AH) (q : Nat × Nat) : (nw h q).1[h.1.length]? = some q := by
  show (h.1 ++ [q])[h.1.length]? = _
  rw [List.getElem?_append_right (Nat.le_refl _), Nat.sub_self]; rfl
def szx (P : PG) (r : Nat) : Nat := if r < pNr P then pSz P r else 0
def szR (P : PG) (x : Int32) : Nat := if isR P x = true then pSz P (nt x) else 0
/-- a new Instruction object, else nothing changed -/
def FNw (h h' : AH) : Prop := h'.1 = h.1 ++ [(2, 10)] ∧ ∀ b, b < h.1.length → hI h' b = hI h b ∧ hJ h' b = hJ h b ∧ hP h' b = hP h b
theorem FNw.nw (h : AH) : FNw h (nw h (2, 10)) := ⟨rfl, fun b hb => ⟨by funext i; show (if b = _ then _ else _) = _; rw [if_neg (Nat.ne_of_lt hb)], by funext i; show (if b = _ then _ else _) = _; rw [if_neg (Nat.ne_of_lt hb)], by funext i; show (if b = _ then _ else _) = _; rw [if_neg (Nat.ne_of_lt hb)]⟩⟩
theorem FNw.set {h h' : AH} {j : Nat} {v : Int32} (F : FNw h h') : FNw h (sI h' h.1.length j v) := ⟨F.1, fun b hb => ⟨by rw [hI_n (Nat.ne_of_lt hb)]; exact (F.2 b hb).1, (F.2 b hb).2⟩⟩
theorem nw_0 (h : AH) (q : Nat × Nat) (j : Nat) : hI (nw h q) h.1.length j = nI 0 := if_pos rfl
theorem FNw.lt {h h' : AH} {u : Nat} {q : Nat × Nat} (F : FNw h h') (hu : h.1[u]? = some q) : u < h.1.length := (List.getElem?_eq_some_iff.mp hu).1
theorem FNw.sh {h h' : AH} {u : Nat} {q : Nat × Nat} (F : FNw h h') (hu : h.1[u]? = some q) : h'.1[u]? = some q := by
  rw [F.1, List.getElem?_append_left (F.lt hu)]; exact hu
theorem FNw.in {h h' : AH} {u : Nat} {f : Nat → Nat} (F : FNw h h') (N : IN h u f) : IN h' u f := ⟨N.1, F.sh N.2.1, fun k hk => by rw [(F.2 u (F.lt N.2.1)).1]; exact N.2.2 k hk⟩
theorem FNw.cs {h h' : AH} (F : FNw h h') (hl : 159 ≤ h.1.length) (X : CS h.1 (hP h)) : CS h'.1 (hP h') := CS_of X (fun a ha => by rw [F.1, List.getElem?_append_left (by omega)]) (fun b hb _ => (F.2 b (by omega)).2.2)
/-- the list and the number of instructions have changed -/
def FL3 (h h' : AH) (n' : Nat) (U' : Nat → Nat) : Prop := h'.1 = h.1 ∧ (∀ b, b ≠ 1 → hI h' b = hI h b) ∧ (∀ k, k ≠ 4 → hI h' 1 k = hI h 1 k) ∧ hI h' 1 4 = nI n' ∧ hJ h' = hJ h ∧ (∀ b, b ≠ 3 → hP h' b = hP h b) ∧ ∀ i, i < 24 → hP h' 3 i = some (U' i)
def delU (U : Nat → Nat) (n x : Nat) (i : Nat) : Nat := if i < x then U i else if i + 1 < n then U (i + 1) else 4
def insU (U : Nat → Nat) (x u : Nat) (i : Nat) : Nat := if i < x then U i else if i = x then u else U (i - 1)

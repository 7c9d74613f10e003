/-! THE CLASS'S CELLS -/
def laS : List (Nat × Nat) := [(3, 9), (13, 16), (4, 4), (13, 16), (10, 16), (10, 16), (11, 16), (4, 4), (4, 4), (4, 4), (4, 4), (4, 4), (4, 4), (4, 4), (4, 4), (4, 4), (4, 4), (4, 4), (4, 4), (4, 4), (4, 4), (4, 4), (4, 4)]
def lap (k : Nat) : Option Nat := if k < 6 then some (k + 1) else none
/-- a Layout at a -/
def LA (sh : List (Nat × Nat)) (p : Nat → Nat → Option Nat) (a : Nat) : Prop := (∀ i q, laS[i]? = some q → sh[a + i]? = some q) ∧ (∀ k d, lap k = some d → p a k = some (a + d)) ∧ ∀ j, j < 16 → p (a + 1) j = some (a + 7 + j)
def csL : List (Nat × Nat) := [(7, 4), (5, 5), (9, 4), (12, 24), (2, 10), (1, 5), (9, 8), (9, 8), (12, 8), (0, 4), (14, 4)] ++ (laS ++ ([(15, 24)] ++ (List.replicate 24 (9, 16) ++ (laS ++ (laS ++ (laS ++ (laS ++ [(6, 11), (9, 8), (15, 4), (9, 16), (9, 16), (9, 16), (9, 16), (9, 24)])))))))
/-- the references that never change -/
def csP (a k : Nat) : Option Nat := match a with
  | 0 => if k = 0 then some 1 else if k = 1 then some 5 else if k = 2 then some 9 else if k = 3 then some 151 else none
  | 1 => if k = 0 then some 2 else if k = 1 then some 3 else if k = 2 then some 4 else none
  | 5 => if k = 0 then some 6 else if k = 1 then some 7 else if k = 2 then some 8 else none
  | 9 => if k = 0 then some 10 else if k = 1 then some 11 else if k = 2 then some 34 else none
  | 151 => if k = 0 then some 1 else if k = 1 then some 9 else if k = 2 then some 152 else if k = 3 then some 153 else if k = 4 then some 158 else none
  | _ => none
/-- the rows of references that change: the list, the history's, the holders -/
def dyn (b : Nat) : Prop := b = 3 ∨ b = 8 ∨ b = 14 ∨ b = 62 ∨ b = 85 ∨ b = 108 ∨ b = 131
def CS (sh : List (Nat × Nat)) (p : Nat → Nat → Option Nat) : Prop := (∀ (a : Nat) (q : Nat × Nat), csL[a]? = some q → sh[a]? = some q) ∧ (∀ a k r, csP a k = some r → p a k = some r) ∧ (∀ r, r < 4 → p 10 r = some (59 + 23 * r)) ∧ (∀ i, i < 24 → p 34 i = some (35 + i)) ∧ (∀ r, r < 4 → p 153 r = some (154 + r)) ∧ LA sh p 11 ∧ ∀ r, r < 4 → LA sh p (59 + 23 * r)
theorem LA_of {sh sh' : List (Nat × Nat)} {p p' : Nat → Nat → Option Nat} {a : Nat} (h : LA sh p a) (e : ∀ i, i < 23 → sh'[a + i]? = sh[a + i]?) (e1 : p' a = p a) (e2 : p' (a + 1) = p (a + 1)) : LA sh' p' a := by
  refine ⟨fun i q hq => ?_, fun k d hk => by rw [e1]; exact h.2.1 k d hk, fun j hj => by rw [e2]; exact h.2.2 j hj⟩
  have : i < 23 := (List.getElem?_eq_some_iff.mp hq).1
  rw [e i this]; exact h.1 i q hq
theorem CS_of {sh sh' : List (Nat × Nat)} {p p' : Nat → Nat → Option Nat} (h : CS sh p) (e : ∀ a, a < 159 → sh'[a]? = sh[a]?) (ep : ∀ b, b < 159 → ¬ dyn b → p' b = p b) : CS sh' p' := by
  obtain ⟨h1, h2, h3, h4, h5, h6, h7⟩ := h
  refine ⟨fun a q hq => ?_, fun a k r hr => ?_, fun r hr => ?_, fun i hi => ?_, fun r hr => ?_, ?_, fun r hr => ?_⟩
  · have : a < 159 := (List.getElem?_eq_some_iff.mp hq).1
    rw [e a this]; exact h1 a q hq
  · have hh := h2 a k r hr
    have ha : a = 0 ∨ a = 1 ∨ a = 5 ∨ a = 9 ∨ a = 151 := by
      unfold csP at hr
      split at hr <;> first | omega | cases hr
    rw [ep a (by omega) (by unfold dyn; omega)]; exact hh
  · rw [ep 10 (by decide) (by unfold dyn; omega)]; exact h3 r hr
  · rw [ep 34 (by decide) (by unfold dyn; omega)]; exact h4 i hi
  · rw [ep 153 (by decide) (by unfold dyn; omega)]; exact h5 r hr
  · exact LA_of h6 (fun i hi => e _ (by omega)) (ep _ (by decide) (by unfold dyn; omega)) (ep _ (by decide) (by unfold dyn; omega))
  · exact LA_of (h7 r hr) (fun i hi => e _ (by omega)) (ep _ (by omega) (by unfold dyn; omega)) (ep _ (by omega) (by unfold dyn; omega))
/-- the fields of an Instruction object, of the six numbers f -/
def ifd (f : Nat → Nat) (k : Nat) : Nat := match k with
  | 0 => f 0
  | 1 => if f 0 = 1 ∨ f 0 = 2 then f 4 else if 5 ≤ f 0 then f 1 else 0
  | 2 => if f 0 ≤ 4 then f 1 else 0
  | 3 => if f 0 ≤ 3 then f 2 else 0
  | 4 => if f 0 = 3 then f 5 else if f 0 ≤ 2 then f 3 else 0
  | 5 => if f 0 = 3 then f 3 else 0
  | 6 => if f 0 = 3 then f 4 else 0
  | 7 => if f 0 = 6 then f 2 else 0
  | 8 => if f 0 = 6 then f 3 else 0
  | _ => if f 0 = 5 ∨ f 0 = 7 then f 2 else 0
/-- an Instruction object at u -/
def IN (h : AH) (u : Nat) (f : Nat → Nat) : Prop := (u = 4 ∨ 171 ≤ u) ∧ h.1[u]? = some (2, 10) ∧ ∀ k, k < 10 → hI h u k = nI (ifd f k)
def xfd (P : PG) (i : Nat) : Nat → Nat := if i < pNi P then pFd P i else fun _ => 0
/-- the Program object holds P; the instruction of number i lies at U i -/
def CPr (h : AH) (P : PG) (U : Nat → Nat) : Prop := hI h 1 3 = nI (pNr P) ∧ hI h 1 4 = nI (pNi P) ∧ (∀ r, r < pNr P → hI h 2 r = nI (pSz P r)) ∧ (∀ i, i < 24 → hP h 3 i = some (U i) ∧ IN h (U i) (xfd P i)) ∧ IN h 4 (fun _ => 0) ∧ ∀ i, pNi P ≤ i → i < 24 → U i = 4
def CX (h : AH) (P : PG) (U : Nat → Nat) : Prop := CS h.1 (hP h) ∧ CPr h P U ∧ OkP P
/-- cells outside [lo, hi) are as before; no reference changes but in the rows that may -/
def Fm (lo hi : Nat) (h h' : AH) : Prop := h'.1 = h.1 ∧ (∀ b, b < lo ∨ hi ≤ b → hI h' b = hI h b ∧ hJ h' b = hJ h b ∧ hP h' b = hP h b) ∧ ∀ b, ¬ dyn b → hP h' b = hP h b
theorem Fm.rf (lo hi : Nat) (h : AH) : Fm lo hi h h := ⟨rfl, fun _ _ => ⟨rfl, rfl, rfl⟩, fun _ _ => rfl⟩
theorem Fm.tr {lo hi : Nat} {h0 h1 h2 : AH} (A : Fm lo hi h0 h1) (B : Fm lo hi h1 h2) : Fm lo hi h0 h2 := ⟨B.1.trans A.1, fun b hb => ⟨(B.2.1 b hb).1.trans (A.2.1 b hb).1, (B.2.1 b hb).2.1.trans (A.2.1 b hb).2.1, (B.2.1 b hb).2.2.trans (A.2.1 b hb).2.2⟩, fun b hb => (B.2.2 b hb).trans (A.2.2 b hb)⟩
theorem Fm.wd {lo hi lo' hi' : Nat} {h0 h1 : AH} (A : Fm lo hi h0 h1) (e1 : lo' ≤ lo) (e2 : hi ≤ hi') : Fm lo' hi' h0 h1 := ⟨A.1, fun b hb => A.2.1 b (by omega), A.2.2⟩
theorem Fm.cs {lo hi : Nat} {h0 h1 : AH} (A : Fm lo hi h0 h1) (X : CS h0.1 (hP h0)) : CS h1.1 (hP h1) := CS_of X (fun a _ => by rw [A.1]) (fun b _ hb => A.2.2 b hb)
theorem Fm.la {lo hi a : Nat} {h0 h1 : AH} (A : Fm lo hi h0 h1) (Y : LA h0.1 (hP h0) a) (e1 : ¬ dyn a) (e2 : ¬ dyn (a + 1)) : LA h1.1 (hP h1) a := LA_of Y (fun i _ => by rw [A.1]) (A.2.2 _ e1) (A.2.2 _ e2)
theorem Fm.setI {lo hi : Nat} {h0 h : AH} {b j : Nat} {v : Int32} (A : Fm lo hi h0 h) (e : lo ≤ b ∧ b < hi) : Fm lo hi h0 (sI h b j v) := ⟨A.1, fun c hc => ⟨by rw [hI_n (by omega)]; exact (A.2.1 c hc).1, (A.2.1 c hc).2.1, (A.2.1 c hc).2.2⟩, A.2.2⟩
theorem Fm.setJ {lo hi : Nat} {h0 h : AH} {b j : Nat} {v : Int64} (A : Fm lo hi h0 h) (e : lo ≤ b ∧ b < hi) : Fm lo hi h0 (sJ h b j v) := ⟨A.1, fun c hc => ⟨(A.2.1 c hc).1, by
  have : hJ (sJ h b j v) c = hJ h c := by funext i; show (if c = b ∧ i = j then v else hJ h c i) = _; rw [if_neg (by omega)]
  rw [this]; exact (A.2.1 c hc).2.1, (A.2.1 c hc).2.2⟩, A.2.2⟩
theorem hP_n {h : AH} {a j : Nat} {v : Option Nat} {b : Nat} (e : b ≠ a) : hP (sP h a j v) b = hP h b := by
  funext i
  show (if b = a ∧ i = j then v else hP h b i) = _
  rw [if_neg (fun w => e w.1)]
theorem hP_s (h : AH) (a j : Nat) (v : Option Nat) (b i : Nat) : hP (sP h a j v) b i = if b = a ∧ i = j then v else hP h b i := rfl
theorem hJ_s (h : AH) (a j : Nat) (v : Int64) (b i : Nat) : hJ (sJ h a j v) b i = if b = a ∧ i = j then v else hJ h b i := rfl
theorem hJ_n {h : AH} {a j : Nat} {v : Int64} {b : Nat} (e : b ≠ a) : hJ (sJ h a j v) b = hJ h b := by
  funext i
  rw [hJ_s, if_neg (fun w => e w.1)]
theorem Fm.setP {lo hi : Nat} {h0 h : AH} {b j : Nat} {v : Option Nat} (A : Fm lo hi h0 h) (e : lo ≤ b ∧ b < hi) (d : dyn b) : Fm lo hi h0 (sP h b j v) := ⟨A.1, fun c hc => ⟨(A.2.1 c hc).1, (A.2.1 c hc).2.1, by rw [hP_n (by omega)]; exact (A.2.1 c hc).2.2⟩, fun c hc => by rw [hP_n (fun z => hc (by rw [z]; exact d))]; exact A.2.2 c hc⟩
theorem IN_of {h h' : AH} {u : Nat} {f : Nat → Nat} (N : IN h u f) (e : h'.1 = h.1) (ei : hI h' u = hI h u) : IN h' u f := ⟨N.1, by rw [e]; exact N.2.1, fun k hk => by rw [ei]; exact N.2.2 k hk⟩
/-- the program stays where its cells do -/
theorem Fm.cx {lo hi : Nat} {h0 h1 : AH} {P : PG} {U : Nat → Nat} (A : Fm lo hi h0 h1) (X : CX h0 P U) (e1 : 5 ≤ lo) (e2 : hi ≤ 171) : CX h1 P U := by
  obtain ⟨x1, ⟨c1, c2, c3, c4, c5, c6⟩, x3⟩ := X
  have k : ∀ u, u = 4 ∨ 171 ≤ u → hI h1 u = hI h0 u := fun u hu => (A.2.1 u (by omega)).1
  refine ⟨A.cs x1, ⟨by rw [(A.2.1 1 (by omega)).1]; exact c1, by rw [(A.2.1 1 (by omega)).1]; exact c2, fun r hr => by rw [(A.2.1 2 (by omega)).1]; exact c3 r hr, fun i hi => ?_, IN_of c5 A.1 (k 4 (Or.inl rfl)), c6⟩, x3⟩
  obtain ⟨d1, d2⟩ := c4 i hi
  exact ⟨by rw [(A.2.1 3 (by omega)).2.2]; exact d1, IN_of d2 A.1 (k _ d2.1)⟩

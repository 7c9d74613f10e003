/-! THE CLASS'S RUN -/
def BY (h : AH) (f : Nat → Int32) : Prop := ∀ r, r < 4 → ∀ k, k < 16 → hI h (154 + r) k = f (16 * r + k)
theorem BY_set {h : AH} {f : Nat → Int32} {r k : Nat} {v : Int32} (B : BY h f) (hr : r < 4) (hk : k < 16) : BY (sI h (154 + r) k v) (upd f (16 * r + k) v) := by
  intro q hq j hj
  rw [hI_s, upd_at]
  by_cases z : q = r ∧ j = k
  · rw [if_pos (by omega), if_pos (by omega)]
  · rw [if_neg (by omega), if_neg (by omega)]; exact B q hq j hj
/-- only the run's rows of bytes have changed -/
def FBy (h η : AH) : Prop := (η.1 = h.1 ∧ hJ η = hJ h ∧ hP η = hP h) ∧ ∀ b, b < 154 ∨ 158 ≤ b → hI η b = hI h b
theorem FBy.rf (h : AH) : FBy h h := ⟨⟨rfl, rfl, rfl⟩, fun _ _ => rfl⟩
theorem FBy.set {h0 h : AH} {r k : Nat} {v : Int32} (F : FBy h0 h) (hr : r < 4) : FBy h0 (sI h (154 + r) k v) := ⟨F.1, fun b hb => by rw [hI_n (by omega)]; exact F.2 b hb⟩
theorem FBy.cs {h η : AH} (F : FBy h η) (C : CS h.1 (hP h)) : CS η.1 (hP η) := by rw [F.1.1, F.1.2.2]; exact C
theorem FBy.in {h η : AH} {u : Nat} {f : Nat → Nat} (F : FBy h η) (N : IN h u f) : IN η u f := IN_of N F.1.1 (F.2 u (by have := N.1; omega))
theorem FBy.tr {h0 h1 h2 : AH} (A : FBy h0 h1) (B : FBy h1 h2) : FBy h0 h2 := ⟨⟨B.1.1.trans A.1.1, B.1.2.1.trans A.1.2.1, B.1.2.2.trans A.1.2.2⟩, fun b hb => (B.2 b hb).trans (A.2 b hb)⟩
/-- the run may have changed -/
def FRn (h η : AH) : Prop := (η.1 = h.1 ∧ hJ η = hJ h ∧ hP η = hP h) ∧ ∀ b, b < 151 ∨ 159 ≤ b → hI η b = hI h b
theorem FRn.rf (h : AH) : FRn h h := ⟨⟨rfl, rfl, rfl⟩, fun _ _ => rfl⟩
theorem FRn.tr {h0 h1 h2 : AH} (A : FRn h0 h1) (B : FRn h1 h2) : FRn h0 h2 := ⟨⟨B.1.1.trans A.1.1, B.1.2.1.trans A.1.2.1, B.1.2.2.trans A.1.2.2⟩, fun b hb => (B.2 b hb).trans (A.2 b hb)⟩
theorem FRn.set {h0 h : AH} {a k : Nat} {v : Int32} (F : FRn h0 h) (ha : 151 ≤ a ∧ a < 159) : FRn h0 (sI h a k v) := ⟨F.1, fun b hb => by rw [hI_n (by omega)]; exact F.2 b hb⟩
theorem FBy.rn {h η : AH} (F : FBy h η) : FRn h η := ⟨F.1, fun b hb => F.2 b (by omega)⟩
theorem FRn.fm {h η : AH} (F : FRn h η) : Fm 151 159 h η := ⟨F.1.1, fun b hb => ⟨F.2 b hb, by rw [F.1.2.1], by rw [F.1.2.2]⟩, fun b _ => by rw [F.1.2.2]⟩
theorem FRn.cx {h0 h1 : AH} {P : PG} {U : Nat → Nat} (A : FRn h0 h1) (X : CX h0 P U) : CX h1 P U := A.fm.cx X (by decide) (by decide)
theorem FRn.ac {h0 h1 : AH} {P : PG} (ok : OkP P) (A : FRn h0 h1) (C : AC P h0) : AC P h1 := by
  have h24 := ok.2.2.1
  exact ⟨fun r hr => L4_of (C.1 r hr) (fun b hb => A.2 b (by omega)) (by rw [A.1.2.2]) (cnt16 ok r), fun n hn s hs => by rw [A.2 _ (by omega)]; exact C.2 n hn s hs⟩
/-- the run's state -/
def CR (h : AH) (tr : Bool) (rs : Nat) (s : RSt) : Prop := BY h (sB s) ∧ (∀ x, x < 8 → hI h 152 x = sG s x) ∧ (∀ x, x < sN s → hI h 158 x = sO s x) ∧ hI h 151 6 = nI (sN s) ∧ hI h 151 7 = sS s ∧ hI h 151 8 = sC s ∧ hI h 151 9 = sT s ∧ hI h 151 5 = bi tr ∧ hI h 151 10 = nI rs
theorem sto_up (base : Nat) (v : Int32) (t : Nat) (f : Nat → Int32) : stoB base v (t + 1) f = upd (stoB base v t f) (base + t) (byt v t) := by
  funext x
  rw [upd_at]
  unfold stoB
  by_cases z : x = base + t
  · rw [if_pos (by omega), if_pos z, show x - base = t by omega]
  · rw [if_neg z]
    by_cases y : base ≤ x ∧ x < base + t
    · rw [if_pos y, if_pos (by omega)]
    · rw [if_neg y, if_neg (by omega)]

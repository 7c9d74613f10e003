/-! RUNS: bytes (16 * record + offset), registers, outputs, how many outputs, checksum, cost, trap -/
abbrev RSt : Type := (Nat → Int32) × (Nat → Int32) × (Nat → Int32) × Nat × Int32 × Int32 × Int32
abbrev sB (s : RSt) : Nat → Int32 := s.1
abbrev sG (s : RSt) : Nat → Int32 := s.2.1
abbrev sO (s : RSt) : Nat → Int32 := s.2.2.1
abbrev sN (s : RSt) : Nat := s.2.2.2.1
abbrev sS (s : RSt) : Int32 := s.2.2.2.2.1
abbrev sC (s : RSt) : Int32 := s.2.2.2.2.2.1
abbrev sT (s : RSt) : Int32 := s.2.2.2.2.2.2
def byt (v : Int32) (k : Nat) : Int32 := (v >>> (nI (8 * k) &&& 31)) &&& nI 255
/-- the first n bytes of a store at 'base' -/
def stoB (base : Nat) (v : Int32) (n : Nat) (f : Nat → Int32) : Nat → Int32 := fun x => if base ≤ x ∧ x < base + n then byt v (x - base) else f x
def ldV (f : Nat → Int32) (base : Nat) : Nat → Int32
  | 0 => nI 0
  | k + 1 => ldV f base k ||| (f (base + k) <<< (nI (8 * k) &&& 31))
/-- n bytes copied in ascending order -/
def cpB (to fr : Nat) : Nat → (Nat → Int32) → (Nat → Int32)
  | 0, f => f
  | n + 1, f => upd (cpB to fr n f) (to + n) (cpB to fr n f (fr + n))
def esS (f : Nat → Int32) (base : Nat) (s : Int32) : Nat → Int32
  | 0 => s
  | k + 1 => nI 31 * esS f base s k + f (base + k)
def ovf (x y : Int32) : Bool := decide (¬ (x.toInt64 + y.toInt64).toInt32.toInt64 = x.toInt64 + y.toInt64)
/-- what a piece costs: places of its two partitions, length -/
def pcC (P : PG) (d s n : Nat) : Nat := if prm P d = true ∧ prm P s = true then 0 else if prm P d = true ∨ prm P s = true then 1 else n
noncomputable def cpS (P : PG) (i : Nat) : Nat → (Nat → Int32) × Int32 → (Nat → Int32) × Int32
  | 0, q => q
  | s + 1, q => if pst P i s = true ∧ liv P (dtP P i s) = true then (cpB (16 * pFd P i 1 + pFd P i 2 + s) (16 * pFd P i 3 + pFd P i 4 + s) (pln P i s) (cpS P i s q).1, (cpS P i s q).2 + nI (pcC P (dtP P i s) (srP P i s) (pln P i s))) else cpS P i s q
/-- the place of an access's partition -/
def acP (P : PG) (i : Nat) : Nat := 16 * pFd P i 1 + pof P (pFd P i 1) (pFd P i 2)
noncomputable def acC (P : PG) (tr : Bool) (i : Nat) : Nat := if tr = true ∧ (prm P (acP P i) = true ∨ liv P (acP P i) = false) then 0 else 1
/-- one instruction -/
noncomputable def stp (P : PG) (tr : Bool) (i : Nat) (s : RSt) : RSt :=
  if pFd P i 0 = 1 then ((if tr = true ∧ liv P (acP P i) = false then sB s else stoB (16 * pFd P i 1 + pFd P i 2) (sG s (pFd P i 4)) (pFd P i 3) (sB s)), sG s, sO s, sN s, sS s, sC s + nI (acC P tr i), sT s)
  else if pFd P i 0 = 2 then (sB s, upd (sG s) (pFd P i 4) (ldV (sB s) (16 * pFd P i 1 + pFd P i 2) (pFd P i 3)), sO s, sN s, sS s, sC s + nI (acC P tr i), sT s)
  else if pFd P i 0 = 3 then (if tr = true then ((cpS P i (pFd P i 5) (sB s, sC s)).1, sG s, sO s, sN s, sS s, (cpS P i (pFd P i 5) (sB s, sC s)).2, sT s)
    else (cpB (16 * pFd P i 1 + pFd P i 2) (16 * pFd P i 3 + pFd P i 4) (pFd P i 5) (sB s), sG s, sO s, sN s, sS s, sC s + nI (pFd P i 5), sT s))
  else if pFd P i 0 = 4 then (upd (sB s) (16 * pFd P i 1) ((sB s (16 * pFd P i 1) + nI 1) &&& nI 255), sG s, sO s, sN s, esS (sB s) (16 * pFd P i 1) (sS s) (pSz P (pFd P i 1)), sC s + nI (pSz P (pFd P i 1)), sT s)
  else if pFd P i 0 = 5 then (sB s, upd (sG s) (pFd P i 1) (nI (pFd P i 2)), sO s, sN s, sS s, sC s, sT s)
  else if pFd P i 0 = 6 then (if ovf (sG s (pFd P i 2)) (sG s (pFd P i 3)) = true then (sB s, sG s, sO s, sN s, sS s, sC s, nI i)
    else (sB s, upd (sG s) (pFd P i 1) ((sG s (pFd P i 2)).toInt64 + (sG s (pFd P i 3)).toInt64).toInt32, sO s, sN s, sS s, sC s, -9))
  else if pFd P i 0 = 7 then s
  else (sB s, sG s, upd (sO s) (sN s) (sG s (pFd P i 1)), sN s + 1, sS s, sC s, sT s)
def skp (P : PG) (i : Nat) (s : RSt) : Nat := if pFd P i 0 = 7 ∧ sG s (pFd P i 1) = 0 then pFd P i 2 else 0
noncomputable def rnF (P : PG) (tr : Bool) : Nat → Nat → RSt → RSt
  | 0, _, s => s
  | f + 1, i, s => if i < pNi P ∧ sT s = -9 then rnF P tr f (i + 1 + skp P i s) (stp P tr i s) else s
def rs0 : RSt := (fun _ => 0, fun _ => 0, fun _ => 0, 0, 0, 0, -9)
noncomputable def run (P : PG) (tr : Bool) : RSt := rnF P tr (pNi P) 0 rs0
theorem rnF_end {P : PG} {tr : Bool} {f i : Nat} {s : RSt} (h : ¬ (i < pNi P ∧ sT s = -9)) : rnF P tr f i s = s := by
  cases f with
  | zero => rfl
  | succ f => rw [rnF, if_neg h]
/-- more fuel than is needed changes nothing -/
theorem rnF_fuel {P : PG} {tr : Bool} : ∀ {f f' i : Nat} {s : RSt}, pNi P ≤ i + f → pNi P ≤ i + f' → rnF P tr f i s = rnF P tr f' i s
  | 0, f', i, s, h, _ => by rw [rnF_end (f := f') (fun w => by omega)]; rfl
  | f + 1, 0, i, s, _, h => by rw [rnF_end (f := f + 1) (fun w => by omega)]; rfl
  | f + 1, f' + 1, i, s, h1, h2 => by
    rw [rnF, rnF]
    split
    · exact rnF_fuel (by omega) (by omega)
    · rfl
/-- bytes, registers and outputs count only where they exist -/
def SE (s t : RSt) : Prop := (∀ x, x < 64 → sB s x = sB t x) ∧ (∀ x, x < 8 → sG s x = sG t x) ∧ (∀ x, x < sN s → sO s x = sO t x) ∧ sN s = sN t ∧ sS s = sS t ∧ sC s = sC t ∧ sT s = sT t
theorem cpB_eq {a b : Nat} {f f' : Nat → Int32} (h : ∀ x, x < 64 → f x = f' x) : ∀ {n}, b + n ≤ 64 → ∀ x, x < 64 → cpB a b n f x = cpB a b n f' x
  | 0, _ => h
  | n + 1, hn => by
    intro x hx
    have ih := cpB_eq (a := a) (b := b) h (n := n) (by omega)
    show upd _ _ _ _ = upd _ _ _ _
    unfold upd
    split
    · exact ih _ (by omega)
    · exact ih x hx
theorem ldV_eq {base : Nat} {f f' : Nat → Int32} (h : ∀ x, x < 64 → f x = f' x) : ∀ {n}, base + n ≤ 64 → ldV f base n = ldV f' base n
  | 0, _ => rfl
  | n + 1, hn => by rw [ldV, ldV, ldV_eq h (by omega), h _ (by omega)]
theorem esS_eq {base : Nat} {v : Int32} {f f' : Nat → Int32} (h : ∀ x, x < 64 → f x = f' x) : ∀ {n}, base + n ≤ 64 → esS f base v n = esS f' base v n
  | 0, _ => rfl
  | n + 1, hn => by rw [esS, esS, esS_eq h (by omega), h _ (by omega)]
theorem upd_at {f : Nat → Int32} {k : Nat} {x : Int32} (j : Nat) : upd f k x j = if j = k then x else f j := rfl
/-- the copy's steps between two beginnings do nothing -/
theorem cpS_add {P : PG} {i k : Nat} {q : (Nat → Int32) × Int32} : ∀ {n : Nat}, (∀ j, 1 ≤ j → j < n → pst P i (k + j) = false) → 1 ≤ n → cpS P i (k + n) q = cpS P i (k + 1) q
  | 0, _, h => absurd h (by decide)
  | 1, _, _ => rfl
  | n + 2, h, _ => by
    have ih := cpS_add (P := P) (i := i) (k := k) (q := q) (n := n + 1) (fun j h1 h2 => h j h1 (by omega)) (by omega)
    rw [show k + (n + 2) = k + (n + 1) + 1 by omega, cpS, if_neg (by simp [h (n + 1) (by omega) (by omega)])]
    exact ih
/-! the reference's cells of a run -/
def RR (h : AH) (m : Nat) (s : RSt) : Prop := (∀ x, x < 64 → hI h (m + 9) x = sB s x) ∧ (∀ x, x < 8 → hI h (m + 10) x = sG s x) ∧ (∀ x, x < sN s → hI h (m + 11) x = sO s x) ∧ hI h m 12 = nI (sN s) ∧ hI h m 13 = sS s ∧ hI h m 14 = sC s ∧ hI h m 15 = sT s
def FX (h0 h : AH) (m : Nat) : Prop := (h.1 = h0.1 ∧ hJ h = hJ h0 ∧ hP h = hP h0) ∧ (∀ a, a ≠ m → a ≠ m + 9 → a ≠ m + 10 → a ≠ m + 11 → hI h a = hI h0 a) ∧ ∀ k, k < 12 → hI h m k = hI h0 m k
theorem FX.rf (h : AH) (m : Nat) : FX h h m := ⟨⟨rfl, rfl, rfl⟩, fun _ _ _ _ _ => rfl, fun _ _ => rfl⟩
theorem FX.tr {h0 h1 h2 : AH} {m : Nat} (A : FX h0 h1 m) (B : FX h1 h2 m) : FX h0 h2 m := ⟨⟨B.1.1.trans A.1.1, B.1.2.1.trans A.1.2.1, B.1.2.2.trans A.1.2.2⟩, fun a a1 a2 a3 a4 => (B.2.1 a a1 a2 a3 a4).trans (A.2.1 a a1 a2 a3 a4), fun k hk => (B.2.2 k hk).trans (A.2.2 k hk)⟩
theorem FX.RF {h0 h : AH} {m : Nat} {P : PG} (F : FX h0 h m) (W : RF h0 m P) : RF h m P := RF_eq W F.1.1 F.1.2.2 (F.2.1 _ (by omega) (by omega) (by omega) (by omega))
theorem FX.AN {h0 h : AH} {m : Nat} {P : PG} (F : FX h0 h m) (N : AN h0 m P) : AN h m P := by
  refine ⟨fun r hr => PtR_eq (N.1 r hr) (F.2.1 _ (by omega) (by omega) (by omega) (by omega)) (F.2.1 _ (by omega) (by omega) (by omega) (by omega)) (F.2.1 _ (by omega) (by omega) (by omega) (by omega)) (F.2.1 _ (by omega) (by omega) (by omega) (by omega)), fun r hr p hp => ?_⟩
  rw [F.2.1 (m + 7) (by omega) (by omega) (by omega) (by omega), F.2.1 (m + 8) (by omega) (by omega) (by omega) (by omega)]
  exact N.2 r hr p hp
theorem FX.q {h0 h : AH} {m : Nat} {P : PG} (F : FX h0 h m) (G : RG h0 m P) : FQ h0 h m := by
  refine ⟨F.1, fun a ha => F.2.1 a (by omega) (by omega) (by omega) (by omega), F.2.2 2 (by decide), ?_, ?_⟩
  · obtain ⟨f, hf⟩ := G.2.1
    exact ⟨f, fun x hx => by rw [F.2.1 _ (by omega) (by omega) (by omega) (by omega)]; exact hf x hx⟩
  · obtain ⟨f, hf⟩ := G.2.2
    exact ⟨f, fun x hx => by rw [F.2.1 _ (by omega) (by omega) (by omega) (by omega)]; exact hf x hx⟩
theorem FX.set {h0 h : AH} {m a x : Nat} {v : Int32} (F : FX h0 h m) (e : (a = m ∧ 12 ≤ x) ∨ a = m + 9 ∨ a = m + 10 ∨ a = m + 11) : FX h0 (sI h a x v) m :=
  ⟨F.1, fun b b1 b2 b3 b4 => by rw [hI_n (by omega)]; exact F.2.1 b b1 b2 b3 b4, fun k hk => by rw [hI_s, if_neg (by omega)]; exact F.2.2 k hk⟩
theorem FB.X {h0 h : AH} {m a : Nat} (F : FB h0 h a) (e : a = m + 9 ∨ a = m + 10 ∨ a = m + 11) : FX h0 h m := ⟨F.1, fun b b1 b2 b3 b4 => F.2 b (by omega), fun k hk => by rw [F.2 m (by omega)]⟩
theorem RF_sM {h : AH} {m : Nat} {P : PG} {j : Nat} {v : Int32} (W : RF h m P) : RF (sI h m j v) m P := RF_sI W (by omega)
theorem sto_s {e : AH} {a base k : Nat} {v : Int32} {f : Nat → Int32} (B : hI e a = stoB base v k f) : hI (sI e a (base + k) (byt v k)) a = stoB base v (k + 1) f := by
  funext x
  rw [hI_s, B]
  unfold stoB
  by_cases z : x = base + k
  · rw [if_pos ⟨rfl, z⟩, if_pos (by omega), z, show base + k - base = k by omega]
  · rw [if_neg (fun w => z w.2)]
    by_cases y : base ≤ x ∧ x < base + k
    · rw [if_pos y, if_pos (by omega)]
    · rw [if_neg y, if_neg (by omega)]
theorem sto_0 (base : Nat) (v : Int32) (f : Nat → Int32) : stoB base v 0 f = f := by
  funext x
  unfold stoB
  rw [if_neg (by omega)]
theorem cp_s {e : AH} {a to fr t x y : Nat} {f : Nat → Int32} (B : hI e a = cpB to fr t f) (hx : x = to + t) (hy : y = fr + t) : hI (sI e a x (hI e a y)) a = cpB to fr (t + 1) f := by
  funext z
  rw [hI_s, B, hx, hy]
  show _ = upd _ _ _ _
  unfold upd
  by_cases w : z = to + t
  · rw [if_pos ⟨rfl, w⟩, if_pos w]
  · rw [if_neg (fun q => w q.2), if_neg w]
theorem lgc0 {a b : Int64} : lg_cmp a b = 0 ↔ a = b := by
  unfold lg_cmp
  constructor
  · intro h
    split at h
    · cases h
    · split at h
      · assumption
      · cases h
  · intro h
    subst h
    simp
theorem RR_c {h : AH} {m : Nat} {s : RSt} {v : Int32} (R : RR h m s) : RR (sI h m 14 v) m (sB s, sG s, sO s, sN s, sS s, v, sT s) := by
  obtain ⟨r1, r2, r3, r4, r5, r6, r7⟩ := R
  refine ⟨fun x hx => ?_, fun x hx => ?_, fun x hx => ?_, ?_, ?_, ?_, ?_⟩
  · rw [hI_n (by omega)]; exact r1 x hx
  · rw [hI_n (by omega)]; exact r2 x hx
  · rw [hI_n (by omega)]; exact r3 x hx
  · rw [hI_s, if_neg (by omega)]; exact r4
  · rw [hI_s, if_neg (by omega)]; exact r5
  · rw [hI_s, if_pos ⟨rfl, rfl⟩]
  · rw [hI_s, if_neg (by omega)]; exact r7
theorem RR_t {h : AH} {m : Nat} {s : RSt} {v : Int32} (R : RR h m s) : RR (sI h m 15 v) m (sB s, sG s, sO s, sN s, sS s, sC s, v) := by
  obtain ⟨r1, r2, r3, r4, r5, r6, r7⟩ := R
  refine ⟨fun x hx => ?_, fun x hx => ?_, fun x hx => ?_, ?_, ?_, ?_, ?_⟩
  · rw [hI_n (by omega)]; exact r1 x hx
  · rw [hI_n (by omega)]; exact r2 x hx
  · rw [hI_n (by omega)]; exact r3 x hx
  · rw [hI_s, if_neg (by omega)]; exact r4
  · rw [hI_s, if_neg (by omega)]; exact r5
  · rw [hI_s, if_neg (by omega)]; exact r6
  · rw [hI_s, if_pos ⟨rfl, rfl⟩]
theorem RR_b {h e : AH} {m : Nat} {s : RSt} {f : Nat → Int32} (R : RR h m s) (F : FB h e (m + 9)) (hf : ∀ x, x < 64 → hI e (m + 9) x = f x) : RR e m (f, sG s, sO s, sN s, sS s, sC s, sT s) := by
  obtain ⟨r1, r2, r3, r4, r5, r6, r7⟩ := R
  have hm := F.2 m (by omega)
  refine ⟨hf, fun x hx => ?_, fun x hx => ?_, by rw [hm]; exact r4, by rw [hm]; exact r5, by rw [hm]; exact r6, by rw [hm]; exact r7⟩
  · rw [F.2 _ (by omega)]; exact r2 x hx
  · rw [F.2 _ (by omega)]; exact r3 x hx
theorem RR_g {h : AH} {m j : Nat} {s : RSt} {v : Int32} (R : RR h m s) : RR (sI h (m + 10) j v) m (sB s, upd (sG s) j v, sO s, sN s, sS s, sC s, sT s) := by
  obtain ⟨r1, r2, r3, r4, r5, r6, r7⟩ := R
  have hm : hI (sI h (m + 10) j v) m = hI h m := hI_n (by omega)
  refine ⟨fun x hx => ?_, fun x hx => ?_, fun x hx => ?_, by rw [hm]; exact r4, by rw [hm]; exact r5, by rw [hm]; exact r6, by rw [hm]; exact r7⟩
  · rw [hI_n (by omega)]; exact r1 x hx
  · rw [hI_s]
    show _ = upd _ _ _ _
    unfold upd
    by_cases z : x = j
    · rw [if_pos ⟨rfl, z⟩, if_pos z]
    · rw [if_neg (fun w => z w.2), if_neg z]; exact r2 x hx
  · rw [hI_n (by omega)]; exact r3 x hx
theorem RR_eq {h : AH} {m : Nat} {s t : RSt} (R : RR h m s) (e : s = t) : RR h m t := e ▸ R

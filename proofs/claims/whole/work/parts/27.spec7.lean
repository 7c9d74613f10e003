/-! EDITS: the program, the programs that can be got back (the latest last), how many -/
abbrev GS : Type := PG × (Nat → PG) × Nat
def psh (K : Nat → PG) (c : Nat) (P : PG) : (Nat → PG) × Nat := if c = 8 then (fun j => if j = 7 then P else K (j + 1), 8) else (fun j => if j = c then P else K j, c + 1)
def pDe (P : PG) (z : Nat) : PG := (pNr P + 1, fun r => if r = pNr P then z else pSz P r, pNi P, fun i w => pFd P i w)
def pAp (P : PG) (f : Nat → Nat) : PG := (pNr P, fun r => pSz P r, pNi P + 1, fun i w => if i = pNi P then f w else pFd P i w)
def pRm (P : PG) (x : Nat) : PG := (pNr P, fun r => pSz P r, pNi P - 1, fun i w => if i < x then pFd P i w else pFd P (i + 1) w)
def f6 (k a b c d e w : Nat) : Nat := match w with
  | 0 => k
  | 1 => a
  | 2 => b
  | 3 => c
  | 4 => d
  | _ => e
theorem OkI_mono {P P' : PG} {i i' : Nat} (h : OkI P i) (hf : ∀ w, pFd P' i' w = pFd P i w) (hn : pNr P ≤ pNr P') (hs : ∀ r, r < pNr P → pSz P' r = pSz P r) : OkI P' i' := by
  unfold OkI at h ⊢
  rw [hf 0, hf 1, hf 2, hf 3, hf 4, hf 5]
  obtain ⟨h0, h1, h2, h3, h4, h5, h6, h7⟩ := h
  refine ⟨h0, fun z => ?_, fun z => ?_, fun z => ?_, h4, h5, h6, h7⟩
  · obtain ⟨a, b, c, d⟩ := h1 z
    exact ⟨by omega, b, by rw [hs _ a]; exact c, d⟩
  · obtain ⟨a, b, c, d, e, f⟩ := h2 z
    exact ⟨by omega, by omega, c, by rw [hs _ a]; exact d, by rw [hs _ b]; exact e, f⟩
  · have := h3 z; omega
def OkF (P : PG) (f : Nat → Nat) : Prop := OkI (pNr P, fun r => pSz P r, 1, fun _ w => f w) 0
theorem ok_De {P : PG} (ok : OkP P) {z : Nat} (h1 : 1 ≤ z) (h2 : z ≤ 16) (hn : pNr P < 4) : OkP (pDe P z) := by
  refine ⟨by show pNr P + 1 ≤ 4; omega, fun r hr => ?_, ok.2.2.1, fun i hi => OkI_mono (ok.2.2.2 i hi) (fun _ => rfl) (Nat.le_succ _) (fun r hr => if_neg (by omega))⟩
  show 1 ≤ (if _ then _ else _) ∧ (if _ then _ else _) ≤ 16
  have hr : r < pNr P + 1 := hr
  split
  · exact ⟨h1, h2⟩
  · exact ok.2.1 r (by omega)
theorem ok_Ap {P : PG} (ok : OkP P) {f : Nat → Nat} (hf : OkF P f) (hn : pNi P < 24) : OkP (pAp P f) := by
  refine ⟨ok.1, ok.2.1, by show pNi P + 1 ≤ 24; omega, fun i hi => ?_⟩
  have hi : i < pNi P + 1 := hi
  by_cases z : i = pNi P
  · exact OkI_mono hf (fun w => if_pos z) (Nat.le_refl _) (fun _ _ => rfl)
  · exact OkI_mono (ok.2.2.2 i (by omega)) (fun w => if_neg z) (Nat.le_refl _) (fun _ _ => rfl)
theorem ok_Rm {P : PG} (ok : OkP P) {x : Nat} (hx : x < pNi P) : OkP (pRm P x) := by
  have h24 := ok.2.2.1
  refine ⟨ok.1, ok.2.1, by show pNi P - 1 ≤ 24; omega, fun i hi => ?_⟩
  have hi : i < pNi P - 1 := hi
  by_cases z : i < x
  · exact OkI_mono (ok.2.2.2 i (by omega)) (fun w => if_pos z) (Nat.le_refl _) (fun _ _ => rfl)
  · exact OkI_mono (ok.2.2.2 (i + 1) (by omega)) (fun w => if_neg z) (Nat.le_refl _) (fun _ _ => rfl)
theorem RS_eq {s s' : Nat → Int32} {P : PG} (ok : OkP P) (h : RS s P) (e : ∀ x, x < 150 → s' x = s x) : RS s' P := by
  obtain ⟨a, b, c, d⟩ := h
  have := ok.1
  have := ok.2.2.1
  refine ⟨by rw [e _ (by decide)]; exact a, fun r hr => by rw [e _ (by omega)]; exact b r hr, by rw [e _ (by decide)]; exact c, fun i hi w hw => by rw [e _ (by omega)]; exact d i hi w hw⟩
theorem RS_De {s s' : Nat → Int32} {P : PG} {z : Nat} (ok : OkP P) (h : RS s P) (hn : pNr P < 4) (h0 : s' 0 = nI (pNr P + 1)) (h1 : s' (1 + pNr P) = nI z) (e : ∀ x, x ≠ 0 → x ≠ 1 + pNr P → s' x = s x) : RS s' (pDe P z) := by
  obtain ⟨a, b, c, d⟩ := h
  refine ⟨h0, fun r hr => ?_, by rw [e _ (by decide) (by omega)]; exact c, fun i hi w hw => by rw [e _ (by omega) (by omega)]; exact d i hi w hw⟩
  have hr : r < pNr P + 1 := hr
  show _ = nI (if _ then _ else _)
  by_cases z : r = pNr P
  · rw [if_pos z, z]; exact h1
  · rw [if_neg z, e _ (by omega) (by omega)]; exact b r (by omega)
theorem RS_Ap {s s' : Nat → Int32} {P : PG} {f : Nat → Nat} (h : RS s P) (h5 : s' 5 = nI (pNi P + 1)) (hw : ∀ w, w < 6 → s' (6 + 6 * pNi P + w) = nI (f w)) (hr4 : pNr P ≤ 4) (e : ∀ x, x ≠ 5 → x < 6 + 6 * pNi P → s' x = s x) : RS s' (pAp P f) := by
  obtain ⟨a, b, c, d⟩ := h
  refine ⟨by rw [e _ (by decide) (by omega)]; exact a, fun r hr => ?_, h5, fun i hi w hw' => ?_⟩
  · have hr : r < pNr P := hr
    rw [e _ (by omega) (by omega)]; exact b r hr
  · have hi : i < pNi P + 1 := hi
    show _ = nI (if _ then _ else _)
    by_cases z : i = pNi P
    · rw [if_pos z, z]; exact hw w hw'
    · rw [if_neg z, e _ (by omega) (by omega)]; exact d i (by omega) w hw'
theorem RS_Rm {s s' : Nat → Int32} {P : PG} {x : Nat} (h : RS s P) (ok : OkP P) (hx : x < pNi P) (h5 : s' 5 = nI (pNi P - 1)) (h1 : ∀ y, y ≠ 5 → y < 6 + 6 * x → s' y = s y) (h2 : ∀ y, 6 + 6 * x ≤ y → y + 6 < 150 → s' y = s (y + 6)) : RS s' (pRm P x) := by
  obtain ⟨a, b, c, d⟩ := h
  have := ok.1
  have := ok.2.2.1
  refine ⟨by rw [h1 _ (by decide) (by omega)]; exact a, fun r hr => ?_, h5, fun i hi w hw => ?_⟩
  · have hr : r < pNr P := hr
    rw [h1 _ (by omega) (by omega)]; exact b r hr
  · have hi : i < pNi P - 1 := hi
    show _ = nI (if _ then _ else _)
    by_cases z : i < x
    · rw [if_pos z, h1 _ (by omega) (by omega)]; exact d i (by omega) w hw
    · rw [if_neg z, h2 _ (by omega) (by omega), show 6 + 6 * i + w + 6 = 6 + 6 * (i + 1) + w by omega]; exact d (i + 1) (by omega) w hw
/-- the rows of earlier programs -/
def HS (h : AH) (m : Nat) (K : Nat → PG) (c : Nat) : Prop := hI h m 2 = nI c ∧ c ≤ 8 ∧ ∀ j, j < c → OkP (K j) ∧ RS (fun x => hI h (m + 2) (150 * j + x)) (K j)
def RH (h : AH) (m : Nat) (σ : GS) : Prop := RG h m σ.1 ∧ HS h m σ.2.1 σ.2.2
def FE (h0 h : AH) (m : Nat) : Prop := (h.1 = h0.1 ∧ hJ h = hJ h0 ∧ hP h = hP h0) ∧ ∀ a, a < m ∨ m + 12 ≤ a → hI h a = hI h0 a
theorem FE.rf (h : AH) (m : Nat) : FE h h m := ⟨⟨rfl, rfl, rfl⟩, fun _ _ => rfl⟩
theorem FQ.e {h0 h : AH} {m : Nat} (F : FQ h0 h m) : FE h0 h m := ⟨F.1, fun a ha => F.2.1 a (by omega)⟩
theorem FQ.rh {h0 h : AH} {m : Nat} {σ : GS} (F : FQ h0 h m) (G : RH h0 m σ) : RH h m σ := ⟨FQ.rg G.1 F, by
  obtain ⟨a, b, c⟩ := G.2
  refine ⟨by rw [F.2.2.1]; exact a, b, fun j hj => ?_⟩
  rw [F.2.1 (m + 2) (by omega)]; exact c j hj⟩
/-- behind note() -/
def FN (h0 h : AH) (m : Nat) : Prop := (h.1 = h0.1 ∧ hJ h = hJ h0 ∧ hP h = hP h0) ∧ (∀ a, a ≠ m → a ≠ m + 2 → hI h a = hI h0 a) ∧ ∀ k, k ≠ 2 → hI h m k = hI h0 m k
theorem FN.rg {h0 h : AH} {m : Nat} {P : PG} (F : FN h0 h m) (G : RG h0 m P) : RG h m P := by
  refine ⟨RF_eq G.1 F.1.1 F.1.2.2 (F.2.1 _ (by omega) (by omega)), ?_, ?_⟩
  · rw [show BR h (m + 7) = BR h0 (m + 7) from by unfold BR; rw [F.2.1 (m + 7) (by omega) (by omega)]]; exact G.2.1
  · rw [show BR h (m + 8) = BR h0 (m + 8) from by unfold BR; rw [F.2.1 (m + 8) (by omega) (by omega)]]; exact G.2.2
theorem FN.e {h0 h : AH} {m : Nat} (F : FN h0 h m) : FE h0 h m := ⟨F.1, fun a ha => F.2.1 a (by omega) (by omega)⟩
/-- only the row s has changed since -/
theorem RH_s {h e : AH} {m : Nat} {P P' : PG} {K : Nat → PG} {c : Nat} (G : RG h m P) (H : HS h m K c) (F : FB h e (m + 1)) (ok : OkP P') (R : RS (hI e (m + 1)) P') : RH e m (P', K, c) := by
  obtain ⟨a, b, d⟩ := H
  refine ⟨⟨⟨by rw [F.1.1, F.1.2.2]; exact G.1.1, R, ok⟩, ?_, ?_⟩, by rw [F.2 m (by omega)]; exact a, b, fun j hj => by rw [F.2 (m + 2) (by omega)]; exact d j hj⟩
  · rw [show BR e (m + 7) = BR h (m + 7) from by unfold BR; rw [F.2 (m + 7) (by omega)]]; exact G.2.1
  · rw [show BR e (m + 8) = BR h (m + 8) from by unfold BR; rw [F.2 (m + 8) (by omega)]]; exact G.2.2
theorem FB.e {h0 h : AH} {m k : Nat} (F : FB h0 h (m + k)) (hk : k < 12) : FE h0 h m := ⟨F.1, fun a ha => F.2 a (by omega)⟩
theorem FE.tr {h0 h1 h2 : AH} {m : Nat} (A : FE h0 h1 m) (B : FE h1 h2 m) : FE h0 h2 m := ⟨⟨B.1.1.trans A.1.1, B.1.2.1.trans A.1.2.1, B.1.2.2.trans A.1.2.2⟩, fun a ha => (B.2 a ha).trans (A.2 a ha)⟩
/-- what a call answers and leaves: an append -/
def apR (σ : GS) (ok : Bool) (f : Nat → Nat) : Int32 × GS := if ok = true then (if pNi σ.1 = 24 then (-3, σ) else (nI (pNi σ.1), (pAp σ.1 f, psh σ.2.1 σ.2.2 σ.1))) else (-1, σ)
def deR (σ : GS) (x : Int32) : Int32 × GS := if 1 ≤ x.toInt ∧ x.toInt ≤ 16 then (if pNr σ.1 = 4 then (-3, σ) else (nI (pNr σ.1), (pDe σ.1 (nt x), psh σ.2.1 σ.2.2 σ.1))) else (-1, σ)
def rmR (σ : GS) (x : Int32) : Int32 × GS := if 0 ≤ x.toInt ∧ x.toInt < pNi σ.1 then (nI (pNi σ.1 - 1), (pRm σ.1 (nt x), psh σ.2.1 σ.2.2 σ.1)) else (-1, σ)
def unR (σ : GS) : Int32 × GS := if σ.2.2 = 0 then (-2, σ) else (nI (σ.2.2 - 1), (σ.2.1 (σ.2.2 - 1), σ.2.1, σ.2.2 - 1))
def rngB (P : PG) (x y z : Int32) : Bool := decide (0 ≤ x.toInt ∧ x.toInt < pNr P ∧ 1 ≤ z.toInt ∧ 0 ≤ y.toInt ∧ y.toInt + z.toInt ≤ pSz P (nt x))
theorem rngB_of {P : PG} (ok : OkP P) {x y z : Int32} (h : rngB P x y z = true) : ∃ r o l, r < pNr P ∧ 1 ≤ l ∧ o + l ≤ pSz P r ∧ pSz P r ≤ 16 ∧ x = nI r ∧ y = nI o ∧ z = nI l ∧ nt x = r ∧ nt y = o ∧ nt z = l := by
  simp only [rngB, decide_eq_true_eq] at h
  obtain ⟨h1, h2, h3, h4, h5⟩ := h
  obtain ⟨r, hr, rfl⟩ := i_of h1 h2
  have := ok.1
  have hs := ok.2.1 r hr
  rw [nt_n (by omega)] at h5
  obtain ⟨o, ho, rfl⟩ := i_of (n := 17) h4 (by omega)
  obtain ⟨l, hl, rfl⟩ := i_of (n := 17) (show 0 ≤ z.toInt by omega) (by omega)
  rw [i_n (by omega), i_n (by omega)] at h5
  rw [i_n (by omega)] at h3
  exact ⟨r, o, l, hr, by omega, by omega, hs.2, rfl, rfl, rfl, nt_n (by omega), nt_n (by omega), nt_n (by omega)⟩
theorem isG_of {x : Int32} (h : isG x = true) : ∃ r, r < 8 ∧ x = nI r ∧ nt x = r := by
  simp only [isG, decide_eq_true_eq] at h
  obtain ⟨r, hr, rfl⟩ := i_of (n := 8) h.1 h.2
  exact ⟨r, hr, rfl, nt_n (by omega)⟩
theorem i_any (x : Int32) : ∃ n, x = nI n := ⟨x.toBitVec.toNat, by
  unfold nI
  apply Int32.toBitVec_inj.mp
  simp⟩

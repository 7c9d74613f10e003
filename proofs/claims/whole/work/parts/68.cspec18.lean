/-! THE CLASS AS A WHOLE: its world between two calls -/
/-- what is no partition has the length 0 -/
def ZP (h : AH) : Prop := hI h 11 7 = nI 0 ∧ hI h 13 1 = nI 0 ∧ ∀ r, r < 4 → hI h (61 + 23 * r) 1 = nI 0
def CA (P : PG) (h : AH) : Prop := ∃ st : Bool, hI h 9 3 = bi st ∧ (st = false → AC P h)
def CG (h : AH) (σ : GS) : Prop := (∃ U, CX h σ.1 U) ∧ (∃ t, CH h σ.1 σ.2.1 σ.2.2 t) ∧ CA σ.1 h ∧ ZP h ∧ 171 ≤ h.1.length
/-- a call of the class leaves the reference's cells as they were -/
def FK (h η : AH) : Prop := (∀ (a : Nat) (q : Nat × Nat), h.1[a]? = some q → η.1[a]? = some q) ∧ ∀ b, 159 ≤ b → b < 171 → hI η b = hI h b ∧ hP η b = hP h b
theorem FK.rf (h : AH) : FK h h := ⟨fun _ _ z => z, fun _ _ _ => ⟨rfl, rfl⟩⟩
theorem FK.tr {h0 h1 h2 : AH} (A : FK h0 h1) (B : FK h1 h2) : FK h0 h2 := ⟨fun a q z => B.1 a q (A.1 a q z), fun b u v => ⟨(B.2 b u v).1.trans (A.2 b u v).1, (B.2 b u v).2.trans (A.2 b u v).2⟩⟩
theorem FK.rh {h η : AH} {σ : GS} (F : FK h η) (G : RH h 159 σ) : RH η 159 σ := by
  have k : ∀ b, b < 12 → hI η (159 + b) = hI h (159 + b) := fun b hb => (F.2 _ (by omega) (by omega)).1
  obtain ⟨⟨⟨M, R, ok⟩, ⟨f7, b7⟩, ⟨f8, b8⟩⟩, a, b, d⟩ := G
  refine ⟨⟨⟨⟨fun i q hq => F.1 _ _ (M.1 i q hq), fun k r hr => by rw [(F.2 159 (by decide) (by decide)).2]; exact M.2 k r hr⟩, ?_, ok⟩, ⟨f7, ?_⟩, ⟨f8, ?_⟩⟩, ?_, b, fun j hj => ?_⟩
  · rw [k 1 (by decide)]; exact R
  · intro x hx; rw [k 7 (by decide)]; exact b7 x hx
  · intro x hx; rw [k 8 (by decide)]; exact b8 x hx
  · rw [(F.2 159 (by decide) (by decide)).1]; exact a
  · rw [k 2 (by decide)]; exact d j hj
theorem FRs.fk {h η : AH} (F : FRs h η) : FK h η := ⟨fun a q hq => by rw [F.1.1]; exact hq, fun b h1 h2 => ⟨(F.1.2.1 b (by omega)).1, (F.1.2.1 b (by omega)).2.2⟩⟩
theorem FRn.fk {h η : AH} (F : FRn h η) : FK h η := ⟨fun a q hq => by rw [F.1.1]; exact hq, fun b h1 h2 => ⟨F.2 b (by omega), by rw [F.1.2.2]⟩⟩
theorem FRs.zp {h η : AH} (F : FRs h η) (Z : ZP h) : ZP η := ⟨by rw [F.2.2 11 (by decide) (by decide)]; exact Z.1, by rw [F.2.2 13 (by decide) (by decide)]; exact Z.2.1, fun r hr => by rw [F.2.1 r hr]; exact Z.2.2 r hr⟩
theorem FRs.cg {h η : AH} {σ : GS} (F : FRs h η) (G : CG h σ) (e : hI η 9 3 = bi false) (A : AC σ.1 η) : CG η σ := by
  obtain ⟨⟨U, X⟩, ⟨t, H⟩, -, Z, hl⟩ := G
  have k : ∀ b, b < 9 ∨ 151 ≤ b → hI η b = hI h b := fun b hb => (F.1.2.1 b hb).1
  exact ⟨⟨U, F.cx X⟩, ⟨t, CH_of H (k 5 (by decide)) (k 6 (by decide)) (k 7 (by decide)) (F.1.2.1 8 (by decide)).2.2 (fun u f N => IN_of N F.1.1 (k u (by have := N.1; omega)))⟩, ⟨false, e, fun _ => A⟩, F.zp Z, by rw [F.1.1]; exact hl⟩
theorem ZP_of {h η : AH} (Z : ZP h) (e : ∀ b, 9 < b → b < 151 → hI η b = hI h b) : ZP η := ⟨by rw [e 11 (by decide) (by decide)]; exact Z.1, by rw [e 13 (by decide) (by decide)]; exact Z.2.1, fun r hr => by rw [e _ (by omega) (by omega)]; exact Z.2.2 r hr⟩
theorem AC_k {P : PG} {h η : AH} (ok : OkP P) (C : AC P h) (k : ∀ b, 9 < b → b < 151 → hI η b = hI h b) (e : ∀ b, 9 < b → b < 151 → hP η b = hP h b) : AC P η := by
  have h24 := ok.2.2.1
  exact ⟨fun r hr => L4_of (C.1 r hr) (fun b hb => k b (by omega) (by omega)) (e _ (by omega) (by omega)) (cnt16 ok r), fun n hn s hs => by rw [k _ (by omega) (by omega)]; exact C.2 n hn s hs⟩
theorem FRn.cg {h η : AH} {σ : GS} (F : FRn h η) (G : CG h σ) : CG η σ := by
  obtain ⟨⟨U, X⟩, ⟨t, H⟩, ⟨st, e, A⟩, Z, hl⟩ := G
  have k : ∀ b, b < 151 ∨ 159 ≤ b → hI η b = hI h b := F.2
  exact ⟨⟨U, F.cx X⟩, ⟨t, CH_of H (k 5 (by decide)) (k 6 (by decide)) (k 7 (by decide)) (by rw [F.1.2.2]) (fun u f N => IN_of N F.1.1 (k u (by have := N.1; omega)))⟩, ⟨st, by rw [k 9 (by decide)]; exact e, fun z => F.ac X.2.2 (A z)⟩, ZP_of Z (fun b _ hb => k b (Or.inl hb)), by rw [F.1.1]; exact hl⟩
/-- a call of the reference leaves the class's world as it was -/
theorem FE.cg {h η : AH} {σ : GS} (F : FE h η 159) (G : CG h σ) : CG η σ := by
  obtain ⟨⟨U, X⟩, ⟨t, H⟩, ⟨st, e, A⟩, Z, hl⟩ := G
  have k : ∀ b, b < 159 ∨ 171 ≤ b → hI η b = hI h b := fun b hb => F.2 b (by omega)
  have Fm1 : Fm 159 171 h η := ⟨F.1.1, fun b hb => ⟨k b hb, by rw [F.1.2.1], by rw [F.1.2.2]⟩, fun b _ => by rw [F.1.2.2]⟩
  exact ⟨⟨U, Fm1.cx X (by decide) (by decide)⟩, ⟨t, CH_of H (k 5 (by decide)) (k 6 (by decide)) (k 7 (by decide)) (by rw [F.1.2.2]) (fun u f N => IN_of N F.1.1 (k u (by have := N.1; omega)))⟩, ⟨st, by rw [k 9 (by decide)]; exact e, fun z => AC_k X.2.2 (A z) (fun b _ hb => k b (by omega)) (fun b _ _ => by rw [F.1.2.2])⟩, ZP_of Z (fun b _ hb => k b (by omega)), by rw [F.1.1]; exact hl⟩
/-- a new Instruction object -/
theorem FNw.fk {h η : AH} (F : FNw h η) (hl : 171 ≤ h.1.length) : FK h η := ⟨fun a q hq => F.sh hq, fun b _ hb => ⟨(F.2 b (by omega)).1, (F.2 b (by omega)).2.2⟩⟩
theorem FNw.cg {h η : AH} {σ : GS} (F : FNw h η) (G : CG h σ) : CG η σ := by
  obtain ⟨⟨U, X⟩, ⟨t, H⟩, ⟨st, e, A⟩, Z, hl⟩ := G
  have k : ∀ b, b < 171 → hI η b = hI h b := fun b hb => (F.2 b (by omega)).1
  have kp : ∀ b, b < 171 → hP η b = hP h b := fun b hb => (F.2 b (by omega)).2.2
  obtain ⟨x1, ⟨c1, c2, c3, c4, c5, c6⟩, x3⟩ := X
  refine ⟨⟨U, F.cs (by omega) x1, ⟨by rw [k 1 (by decide)]; exact c1, by rw [k 1 (by decide)]; exact c2, fun r hr => by rw [k 2 (by decide)]; exact c3 r hr, fun i hi => ⟨by rw [kp 3 (by decide)]; exact (c4 i hi).1, F.in (c4 i hi).2⟩, F.in c5, c6⟩, x3⟩, ⟨t, CH_of H (k 5 (by decide)) (k 6 (by decide)) (k 7 (by decide)) (kp 8 (by decide)) (fun u f N => F.in N)⟩, ⟨st, by rw [k 9 (by decide)]; exact e, fun z => AC_k x3 (A z) (fun b _ hb => k b (by omega)) (fun b _ hb => kp b (by omega))⟩, ZP_of Z (fun b _ hb => k b (by omega)), ?_⟩
  rw [F.1, List.length_append]
  omega
/-- behind an edit, the analysis no longer up to date -/
theorem FEd.zp {h η : AH} (F : FEd h η) (Z : ZP h) : ZP η := ZP_of Z (fun b hb _ => F.2.2.1 b (by omega) (by omega) (by omega) (by omega) (by omega))
theorem Ed_fin {h η : AH} {σ σ' : GS} {U : Nat → Nat} {t : Nat} (F : FEd h η) (G : CG h σ) (X : CX η σ'.1 U) (H : CH η σ'.1 σ'.2.1 σ'.2.2 t) : FK h (sI η 9 3 (bi true)) ∧ CG (sI η 9 3 (bi true)) σ' := by
  have Z := F.zp G.2.2.2.1
  have hl := G.2.2.2.2
  refine ⟨⟨fun a q hq => by show η.1[a]? = _; rw [F.1]; exact hq, fun b h1 h2 => ⟨by rw [hI_n (by omega)]; exact F.2.2.1 b (by omega) (by omega) (by omega) (by omega) (by omega), F.2.2.2 b (by omega) (by omega)⟩⟩, ⟨U, ((Fm.rf 9 10 η).setI (by decide)).cx X (by decide) (by decide)⟩, ⟨t, CH_of H (hI_n (by decide)) (hI_n (by decide)) (hI_n (by decide)) rfl (fun u f N => IN_of N rfl (hI_n (by have := N.1; omega)))⟩, ⟨true, by rw [hI_s, if_pos ⟨rfl, rfl⟩], fun z => by cases z⟩, ZP_of Z (fun b hb _ => hI_n (by omega)), by show 171 ≤ η.1.length; rw [F.1]; exact hl⟩
/-- note() as a change of cells -/
theorem note_fm {e : AH} {t u c : Nat} {kd ps : Int32} : Fm 5 9 e (sI (sI (sP (sI (sI e 6 t kd) 7 t ps) 8 t (some u)) 5 3 (nI ((t + 1) % 8))) 5 4 (nI (npk c))) := (((((Fm.rf 5 9 e).setI (by decide)).setI (by decide)).setP (by decide) (Or.inr (Or.inl rfl))).setI (by decide)).setI (by decide)
theorem note_ed {h e : AH} {t u c : Nat} {kd ps : Int32} (F : FEd h e) : FEd h (sI (sI (sP (sI (sI e 6 t kd) 7 t ps) 8 t (some u)) 5 3 (nI ((t + 1) % 8))) 5 4 (nI (npk c))) := ((((F.sI (by decide)).sI (by decide)).sP (by decide)).sI (by decide)).sI (by decide)
/-- a record declared -/
theorem CX_De {h : AH} {P : PG} {U : Nat → Nat} {z : Nat} (X : CX h P U) (hr : pNr P < 4) (h1 : 1 ≤ z) (h2 : z ≤ 16) : CX (sI (sI h 2 (pNr P) (nI z)) 1 3 (nI (pNr P + 1))) (pDe P z) U := by
  obtain ⟨x1, ⟨c1, c2, c3, c4, c5, c6⟩, x3⟩ := X
  have hi : ∀ u f, IN h u f → IN (sI (sI h 2 (pNr P) (nI z)) 1 3 (nI (pNr P + 1))) u f := fun u f N => IN_of N rfl (by rw [hI_n (by have := N.1; omega), hI_n (by have := N.1; omega)])
  refine ⟨x1, ⟨by rw [hI_s, if_pos ⟨rfl, rfl⟩]; rfl, by rw [hI_s, if_neg (by decide), hI_n (by decide)]; exact c2, fun r hr' => ?_, fun i hi' => ⟨(c4 i hi').1, hi _ _ (c4 i hi').2⟩, hi _ _ c5, c6⟩, ok_De x3 h1 h2 hr⟩
  have hr' : r < pNr P + 1 := hr'
  rw [hI_n (by decide), hI_s]
  show _ = nI (if r = pNr P then z else pSz P r)
  by_cases y : r = pNr P
  · rw [if_pos ⟨rfl, y⟩, if_pos y]
  · rw [if_neg (fun w => y w.2), if_neg y]; exact c3 r (by omega)
theorem ed_De {h : AH} {P : PG} {K : Nat → PG} {c t z : Nat} (G : CG h (P, K, c)) {U : Nat → Nat} (X : CX h P U) (H : CH h P K c t) (hr : pNr P < 4) (h1 : 1 ≤ z) (h2 : z ≤ 16) {η : AH} (hη : η = sI (sI (sP (sI (sI (sI (sI h 2 (pNr P) (nI z)) 1 3 (nI (pNr P + 1))) 6 t (nI 1)) 7 t (nI (pNr P))) 8 t (some 4)) 5 3 (nI ((t + 1) % 8))) 5 4 (nI (npk c))) : FK h (sI η 9 3 (bi true)) ∧ CG (sI η 9 3 (bi true)) (pDe P z, psh K c P) := by
  have X1 := CX_De X hr h1 h2
  have F1 : FEd h (sI (sI h 2 (pNr P) (nI z)) 1 3 (nI (pNr P + 1))) := ((FEd.rf h).sI (by decide)).sI (by decide)
  have F2 : FEd h η := by rw [hη]; exact note_ed F1
  have X2 : CX η (pDe P z) U := by rw [hη]; exact note_fm.cx X1 (by decide) (by decide)
  refine Ed_fin F2 G (σ' := (pDe P z, psh K c P)) X2 (CH_push (e := sI (sI h 2 (pNr P) (nI z)) 1 3 (nI (pNr P + 1))) (P' := pDe P z) H X.2.2 ?_ ?_ rfl hη F2.in ?_)
  · rw [hI_n (by decide), hI_n (by decide)]
  · rw [hI_n (by decide), hI_n (by decide)]
  · exact Or.inl ⟨rfl, rfl, rfl, fun r hr => if_neg (Nat.ne_of_lt hr), fun i hi w => rfl⟩
/-- an instruction appended -/
theorem ed_Ap {h e : AH} {P : PG} {K : Nat → PG} {c t u : Nat} {f : Nat → Nat} (G : CG h (P, K, c)) {U : Nat → Nat} (X : CX h P U) (H : CH h P K c t) (h24 : pNi P < 24) (N : IN h u f) (hf : OkF P f) (F : FL3 h e (pNi P + 1) (insU U (pNi P) u)) {η : AH} (hη : η = sI (sI (sP (sI (sI e 6 t (nI 2)) 7 t (nI (pNi P))) 8 t (some u)) 5 3 (nI ((t + 1) % 8))) 5 4 (nI (npk c))) : FK h (sI η 9 3 (bi true)) ∧ CG (sI η 9 3 (bi true)) (pAp P f, psh K c P) := by
  have ef : pFd (pAp P f) (pNi P) = f := by
    funext w
    show (if pNi P = pNi P then f w else _) = _
    rw [if_pos rfl]
  have X1 : CX e (pAp P f) (insU U (pNi P) u) := ⟨F.cs X.1, CPr_ins (P' := pAp P f) X.2.1 h24 (Nat.le_refl _) F F.in (by rw [ef]; exact F.in _ _ N) rfl (fun r hr => rfl) rfl (fun i hi w => by
    rw [if_pos hi]
    show _ = if i = pNi P then f w else pFd P i w
    rw [if_neg (Nat.ne_of_lt hi)]), ok_Ap X.2.2 hf h24⟩
  have F1 : FEd h e := F.ed (FEd.rf h)
  have F2 : FEd h η := by rw [hη]; exact note_ed F1
  have X2 : CX η (pAp P f) (insU U (pNi P) u) := by rw [hη]; exact note_fm.cx X1 (by decide) (by decide)
  refine Ed_fin F2 G (σ' := (pAp P f, psh K c P)) X2 (CH_push (P' := pAp P f) H X.2.2 (F.2.1 6 (by decide)) (F.2.1 7 (by decide)) (F.2.2.2.2.2.1 8 (by decide)) hη F2.in ?_)
  exact Or.inr (Or.inl ⟨rfl, rfl, rfl, fun r hr => rfl, rfl, fun i hi w => if_neg (Nat.ne_of_lt hi)⟩)
/-- an instruction removed -/
theorem ed_Rm {h e η : AH} {P : PG} {K : Nat → PG} {c t x : Nat} (G : CG h (P, K, c)) {U : Nat → Nat} (X : CX h P U) (H : CH h P K c t) (hx : x < pNi P) (he : e = sI (sI (sP (sI (sI h 6 t (nI 3)) 7 t (nI x)) 8 t (some (U x))) 5 3 (nI ((t + 1) % 8))) 5 4 (nI (npk c))) (F : FL3 e η (pNi P - 1) (delU U (pNi P) x)) : FK h (sI η 9 3 (bi true)) ∧ CG (sI η 9 3 (bi true)) (pRm P x, psh K c P) := by
  have h24 := X.2.2.2.2.1
  have F1 : FEd h e := by rw [he]; exact note_ed (FEd.rf h)
  have X1 : CX e P U := by rw [he]; exact note_fm.cx X (by decide) (by decide)
  have F2 : FEd h η := F.ed F1
  have X2 : CX η (pRm P x) (delU U (pNi P) x) := ⟨F.cs X1.1, CPr_del (P' := pRm P x) X1.2.1 h24 hx F F.in rfl (fun r hr => rfl) (by show pNi P = pNi P - 1 + 1; omega) (fun i hi w => rfl), ok_Rm X.2.2 hx⟩
  have Nx : IN h (U x) (pFd P x) := by rw [← xfd_lt hx]; exact (X.2.1.2.2.2.1 x (by omega)).2
  have H1 : CH e (pRm P x) (psh K c P).1 (psh K c P).2 ((t + 1) % 8) := CH_push (P' := pRm P x) H X.2.2 rfl rfl rfl he F1.in (Or.inr (Or.inr ⟨rfl, x, U x, rfl, rfl, hx, F1.in _ _ Nx, rfl, fun r hr => rfl, by show pNi P = pNi P - 1 + 1; omega, fun i hi w => rfl⟩))
  exact Ed_fin F2 G (σ' := (pRm P x, psh K c P)) X2 (CH_of H1 (F.2.1 5 (by decide)) (F.2.1 6 (by decide)) (F.2.1 7 (by decide)) (F.2.2.2.2.2.1 8 (by decide)) F.in)
/-- the partition that is asked for -/
def PQ (P : PG) (x y : Int32) (η : AH) (b : Nat) : Prop := (isPt P x y = true ∧ PT η b (bgp P (nt x) (nt y)) (lnp P (nt x) (nt y)) (prm P (16 * nt x + nt y)) (liv P (16 * nt x + nt y)) ∧ 1 ≤ lnp P (nt x) (nt y) ∧ lnp P (nt x) (nt y) ≤ 16) ∨ (isPt P x y = false ∧ hI η b 1 = nI 0)
theorem lay_at {P : PG} {η : AH} (C : CS η.1 (hP η)) (A : AC P η) (Z : ZP η) (ok : OkP P) (x : Int32) : ∃ c, LA η.1 (hP η) (lay x) ∧ hI η (lay x) 7 = nI c ∧ c ≤ 16 ∧ ∀ y, η.1[nbr (lay x) c y]? = some (4, 4) ∧ PQ P x y η (nbr (lay x) c y) := by
  have h4 := ok.1
  by_cases z : 0 ≤ x.toInt ∧ x.toInt < 4
  · obtain ⟨r, hr, rfl⟩ := i_of (n := 4) z.1 z.2
    rw [lay_n hr]
    have Y := C.2.2.2.2.2.2 r hr
    obtain ⟨l1, l2, l3, l4, l5⟩ := A.1 r hr
    have hc := cnt16 ok r
    refine ⟨cnt P r (szx P r), Y, l3, hc, fun y => ?_⟩
    unfold nbr PQ
    rw [nt_n (by omega)]
    by_cases w : 0 ≤ y.toInt ∧ y.toInt < cnt P r (szx P r)
    · rw [if_pos w]
      obtain ⟨p, hp, rfl⟩ := i_of w.1 w.2
      rw [nt_n (by omega)]
      refine ⟨LA_pt Y (by omega), Or.inl ?_⟩
      have hrn : r < pNr P := by
        by_cases q : r < pNr P
        · exact q
        · rw [show szx P r = 0 from if_neg q] at hp
          exact absurd hp (Nat.not_lt_zero _)
      have e := szx_lt hrn
      rw [e] at hp l4
      have k1 := lnf_pos P r _ p hp
      have k2 := lnp_le P r p
      have k3 := (ok.2.1 r hrn).2
      have k4 := cnt_le P r (pSz P r)
      refine ⟨?_, l4 p hp, k1, by omega⟩
      simp only [isPt, Bool.and_eq_true, decide_eq_true_eq]
      rw [nt_n (by omega), i_n (by omega)]
      exact ⟨isR_n ok hrn, by omega, by show (p : Int) < (cnt P r (pSz P r) : Nat); omega⟩
    · rw [if_neg w]
      refine ⟨Y.1 2 _ rfl, Or.inr ⟨?_, ?_⟩⟩
      · cases hb : isPt P (nI r) y with
        | false => rfl
        | true =>
          simp only [isPt, Bool.and_eq_true, decide_eq_true_eq] at hb
          rw [nt_n (by omega)] at hb
          obtain ⟨r', hr', e⟩ := isR_of hb.1
          have hrr : r' = r := ((nI_eq (by omega) (by omega)).mp e).symm
          rw [hrr] at hr'
          rw [szx_lt hr'] at w
          exact absurd hb.2 w
      · rw [show 59 + 23 * r + 2 = 61 + 23 * r by omega]
        exact Z.2.2 r hr
  · have e : lay x = 11 := if_neg z
    rw [e]
    refine ⟨0, C.2.2.2.2.2.1, Z.1, by decide, fun y => ?_⟩
    have e2 : nbr 11 0 y = 13 := if_neg (by omega)
    rw [e2]
    refine ⟨C.2.2.2.2.2.1.1 2 _ rfl, Or.inr ⟨?_, Z.2.1⟩⟩
    cases hb : isPt P x y with
    | false => rfl
    | true =>
      simp only [isPt, isR, Bool.and_eq_true, decide_eq_true_eq] at hb
      omega
/-- the kind of the instruction that is asked for, 0 if there is none -/
def akd (P : PG) (x : Int32) : Nat := if isI P x = true then pFd P (nt x) 0 else 0
theorem uat_f {h : AH} {P : PG} {U : Nat → Nat} (X : CX h P U) (x : Int32) : h.1[uat P U x]? = some (2, 10) ∧ hI h (uat P U x) 0 = nI (akd P x) := by
  unfold uat akd
  have h24 := X.2.2.2.2.1
  by_cases z : isI P x = true
  · rw [if_pos z, if_pos z]
    obtain ⟨i, hi, rfl⟩ := i_of (of_decide_eq_true z).1 (of_decide_eq_true z).2
    rw [nt_n (by omega)]
    obtain ⟨-, N⟩ := X.2.1.2.2.2.1 i (by omega)
    rw [xfd_lt hi] at N
    exact ⟨N.2.1, N.2.2 0 (by decide)⟩
  · rw [if_neg z, if_neg z]
    exact ⟨X.2.1.2.2.2.2.1.2.1, X.2.1.2.2.2.2.1.2.2 0 (by decide)⟩
theorem akd_le {P : PG} (ok : OkP P) (x : Int32) : akd P x ≤ 8 := by
  unfold akd
  have h24 := ok.2.2.1
  by_cases z : isI P x = true
  · rw [if_pos z]
    obtain ⟨i, hi, rfl⟩ := i_of (of_decide_eq_true z).1 (of_decide_eq_true z).2
    rw [nt_n (by omega)]
    exact (ok_kd ok hi).2
  · rw [if_neg z]; omega
theorem akd_3 {P : PG} (x : Int32) : akd P x = 3 ↔ isCy P x = true := by
  unfold akd
  simp only [isCy, Bool.and_eq_true, decide_eq_true_eq, isI]
  by_cases z : 0 ≤ x.toInt ∧ x.toInt < pNi P
  · rw [if_pos z]; exact ⟨fun w => ⟨z, w⟩, fun w => w.2⟩
  · rw [if_neg z]; exact ⟨fun w => absurd w (by decide), fun w => absurd w.1 z⟩
theorem akd_n {P : PG} {x : Int32} (h : ¬ akd P x = 3) : isCy P x = false := by
  cases hb : isCy P x with
  | false => rfl
  | true => exact absurd ((akd_3 x).mpr hb) h
theorem tof_t {x : Int32} (h : x = nI 1) : tof x = true := by rw [h]; decide
theorem tof_f {x : Int32} (h : ¬ x = nI 1) : tof x = false := by
  unfold tof
  simp only [decide_eq_false_iff_not]
  intro w
  exact h (i_eq.mpr (by rw [w]; decide))

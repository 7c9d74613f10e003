/-- one slot changed -/
def sI (h : AH) (a j : Nat) (v : Int32) : AH := (h.1, fun b i => if b = a ∧ i = j then v else hI h b i, hJ h, hP h)
def sJ (h : AH) (a j : Nat) (v : Int64) : AH := (h.1, hI h, fun b i => if b = a ∧ i = j then v else hJ h b i, hP h)
def sP (h : AH) (a j : Nat) (v : Option Nat) : AH := (h.1, hI h, hJ h, fun b i => if b = a ∧ i = j then v else hP h b i)
/-- a field under its number in the constant pool of 'own' -/
def FL (own : String) (idx ci fk : Nat) : Prop := ∃ (C : String) (T : u_T) (ty : Nat → FieldType) (N : Nat), vwCl[ci]? = some (C, T, N) ∧ fk < N ∧ ci < 9 ∧ Cond.fieldLink own idx (T fk).1 (T fk).2.1 (T fk).2.2.1 ∈ gt ∧ (∀ w ∈ u_ws C T N, w ∈ gt) ∧
  (∀ k, k < N → parseFieldDescriptor (T k).2.2.1 = some (ty k)) ∧ (∀ a, a < N → ∀ b, b < N → a ≠ b → (T a).2.1 ≠ (T b).2.1)
/-- the same, the field may be written: it isn't final -/
def FW (own : String) (idx ci fk : Nat) (t : FieldType) : Prop := FL own idx ci fk ∧ ∀ (C : String) (T : u_T) (N : Nat), vwCl[ci]? = some (C, T, N) → (T fk).2.2.2 = false ∧ parseFieldDescriptor (T fk).2.2.1 = some t
/-- the same, a final field of the class whose constructor writes it -/
def FF (own : String) (idx ci fk : Nat) (t : FieldType) : Prop := FL own idx ci fk ∧ ∀ (C : String) (T : u_T) (N : Nat), vwCl[ci]? = some (C, T, N) → (T fk).2.2.2 = true ∧ (T fk).1 = own ∧ parseFieldDescriptor (T fk).2.2.1 = some t
theorem Rep.obj {g : GX} {h : AH} {H : Heap} {a ci N : Nat} (R : Rep g h H) (hs : h.1[a]? = some (ci, N)) (hc : ci < 9) : ∃ r : vw_C, vwCl[ci]? = some r ∧ r.2.2 = N ∧ t_OB (gB g + a) ((gD g).1 ci) N ((gD g).2 ci) H (cv g h ci a) := by
  have := R.2 a _ hs
  unfold cellOk at this
  rw [if_pos hc] at this
  exact this
theorem Rep.arr {g : GX} {h : AH} {H : Heap} {a ci N : Nat} (R : Rep g h H) (hs : h.1[a]? = some (ci, N)) (hc : ¬ ci < 9) : H[gB g + a]? = some (arrV (gC g ci) N (cv g h ci a)) := by
  have := R.2 a _ hs
  unfold cellOk at this
  rw [if_neg hc] at this
  exact this
/-- a heap in which one cell has changed -/
theorem Rep.put {g : GX} {h h' : AH} {H H' : Heap} {a : Nat} {q : Nat × Nat} (R : Rep g h H) (hs : h.1[a]? = some q) (e1 : h'.1 = h.1) (ho : ∀ b c j, b ≠ a → cv g h' c b j = cv g h c b j) (hz : H'.size = H.size) (oq : ∀ x, x ≠ gB g + a → H'[x]? = H[x]?) (hn : cellOk g h' a q H') : Rep g h' H' := by
  refine ⟨by rw [hz, e1]; exact R.1, fun b qb hb => ?_⟩
  rw [e1] at hb
  by_cases e : b = a
  · subst e
    cases hs.symm.trans hb
    exact hn
  · have h0 := R.2 b qb hb
    have hx : H'[gB g + b]? = H[gB g + b]? := oq _ (by omega)
    unfold cellOk at h0 ⊢
    split
    · rename_i hc
      rw [if_pos hc] at h0
      obtain ⟨r, h1, h2, h3⟩ := h0
      exact ⟨r, h1, h2, (h3.kept hx).to (fun j _ => (ho b qb.1 j e).symm)⟩
    · rename_i hc
      rw [if_neg hc] at h0
      rw [hx, h0]
      congr 2
      funext j
      exact (ho b qb.1 j e).symm
theorem cv_sI (g : GX) (h : AH) (a j : Nat) (v : Int32) (c b i : Nat) : cv g (sI h a j v) c b i = if b = a ∧ i = j ∧ sty c i = 0 then .int v else cv g h c b i := by
  show (if sty c i = 0 then Value.int (if b = a ∧ i = j then v else hI h b i) else if sty c i = 1 then .long (hJ h b i) else rv g (hP h b i)) = _
  unfold cv
  by_cases e : b = a ∧ i = j
  · obtain ⟨rfl, rfl⟩ := e
    by_cases h0 : sty c i = 0 <;> simp [h0]
  · have e2 : ¬ (b = a ∧ i = j ∧ sty c i = 0) := fun w => e ⟨w.1, w.2.1⟩
    simp only [if_neg e, if_neg e2]
theorem cv_sJ (g : GX) (h : AH) (a j : Nat) (v : Int64) (c b i : Nat) : cv g (sJ h a j v) c b i = if b = a ∧ i = j ∧ sty c i = 1 then .long v else cv g h c b i := by
  show (if sty c i = 0 then Value.int (hI h b i) else if sty c i = 1 then .long (if b = a ∧ i = j then v else hJ h b i) else rv g (hP h b i)) = _
  unfold cv
  by_cases e : b = a ∧ i = j
  · obtain ⟨rfl, rfl⟩ := e
    by_cases h0 : sty c i = 1 <;> simp [h0]
  · have e2 : ¬ (b = a ∧ i = j ∧ sty c i = 1) := fun w => e ⟨w.1, w.2.1⟩
    simp only [if_neg e, if_neg e2]
theorem sty_3 (c j : Nat) : sty c j = 0 ∨ sty c j = 1 ∨ sty c j = 2 := by
  unfold sty
  split <;> first | decide | (split <;> first | decide | (split <;> decide))
theorem cv_sP (g : GX) (h : AH) (a j : Nat) (v : Option Nat) (c b i : Nat) : cv g (sP h a j v) c b i = if b = a ∧ i = j ∧ sty c i = 2 then rv g v else cv g h c b i := by
  show (if sty c i = 0 then Value.int (hI h b i) else if sty c i = 1 then .long (hJ h b i) else rv g (if b = a ∧ i = j then v else hP h b i)) = _
  unfold cv
  by_cases e : b = a ∧ i = j
  · obtain ⟨rfl, rfl⟩ := e
    rcases sty_3 c i with h0 | h0 | h0 <;> simp [h0]
  · have e2 : ¬ (b = a ∧ i = j ∧ sty c i = 2) := fun w => e ⟨w.1, w.2.1⟩
    simp only [if_neg e, if_neg e2]
section HEAP
variable {g : GX} {μ : MT} {θ : TH} {h : AH} {k n : Nat} {L L' : List (Nat × Value)} {pc q tgt : Nat} {S : List Value}
theorem V_getc {a idx ci fk N : Nat} {v : Value} (hl : FL μ.1.cls idx ci fk) (hs : h.1[a]? = some (ci, N)) (hv : cv g h ci a fk = tv g v) (hd : decode μ.2.1 pc = .ok (.getfield idx, 3)) (hq : pc + 3 = q) (kk : V g μ θ h k n L q (v :: S)) : V g μ θ h k n L pc (.ref a :: S) := by
  subst hq
  intro p e s m args below meth c H locs ls B R hS hl'
  obtain ⟨C, T, ty, N', hc, hk, hci, hlk, hin, -, -⟩ := hl
  obtain ⟨r, h1, h2, cell, q1, q2, q3, q4⟩ := R.obj hs hci
  have hr : r = (C, T, N') := Option.some.inj (h1.symm.trans hc)
  subst hr
  subst h2
  obtain ⟨hS', hfc, kC, hkC, hkind⟩ := B.2.2.2.2.2.2.2.2.1.1.1 ci _ hc
  obtain ⟨cf, kf, fi, f, hi, hsl⟩ := hS' fk hk
  refine W.getf B.1 B.2.1 B.2.2.2.2.1 (B.2.2.2.2.2.1 _ hlk) hi (u_facts hfc hkC (u_lays B.2.2.2.2.2.1 hin hk) hi).1 q1 (by rw [q3]; exact fun h => by cases h) (v := tv g v) ?_ rfl rfl hd (kk p e s m args below meth c H locs ls B R hS hl')
  rw [hsl, q4 fk hk, hv]
theorem V_getI {a idx ci fk N : Nat} (hl : FL μ.1.cls idx ci fk) (hs : h.1[a]? = some (ci, N)) (hy : sty ci fk = 0) (hd : decode μ.2.1 pc = .ok (.getfield idx, 3)) (hq : pc + 3 = q) (kk : V g μ θ h k n L q (.int (hI h a fk) :: S)) : V g μ θ h k n L pc (.ref a :: S) :=
  V_getc hl hs (by unfold cv; rw [if_pos hy]; rfl) hd hq kk
theorem V_getP {a idx ci fk N r : Nat} (hl : FL μ.1.cls idx ci fk) (hs : h.1[a]? = some (ci, N)) (hy : sty ci fk = 2) (hr : hP h a fk = some r) (hd : decode μ.2.1 pc = .ok (.getfield idx, 3)) (hq : pc + 3 = q) (kk : V g μ θ h k n L q (.ref r :: S)) : V g μ θ h k n L pc (.ref a :: S) :=
  V_getc hl hs (by unfold cv; rw [if_neg (by rw [hy]; decide), if_neg (by rw [hy]; decide), hr]; rfl) hd hq kk
/-- a field is written -/
theorem V_putc {a idx ci fk N : Nat} {v : Value} {t : FieldType} {h' : AH} (hl : FW μ.1.cls idx ci fk t) (hs : h.1[a]? = some (ci, N)) (hn : narrow t (tv g v) = tv g v) (hf : fits t (tv g v) = true) (e1 : h'.1 = h.1) (hc' : ∀ c b j, cv g h' c b j = if b = a ∧ j = fk ∧ sty c j = sty ci fk then tv g v else cv g h c b j) (hd : decode μ.2.1 pc = .ok (.putfield idx, 3)) (hq : pc + 3 = q) (kk : V g μ θ h' k n L q S) : V g μ θ h k n L pc (v :: .ref a :: S) := by
  subst hq
  intro p e s m args below meth c H locs ls B R hS hl'
  obtain ⟨⟨C, T, ty0, N', hc, hk, hci, hlk, hin, hty, hnm⟩, hw⟩ := hl
  obtain ⟨r, h1, h2, cell, q1, q2, q3, q4⟩ := R.obj hs hci
  have hr : r = (C, T, N') := Option.some.inj (h1.symm.trans hc)
  subst hr
  subst h2
  obtain ⟨hfin, hdesc⟩ := hw C T N' hc
  have hts := B.2.2.2.2.2.1
  have hap := va_apart (own := μ.1.cls) hts hin ty0 hty hnm B.2.2.2.2.2.2.2.2.1.1 hc
  obtain ⟨hS', hfc, kC, hkC, hkind⟩ := B.2.2.2.2.2.2.2.2.1.1.1 ci _ hc
  obtain ⟨cf, kf, fi, f, hi, hsl⟩ := hS' fk hk
  have hlay := hts _ (hin _ (u_in_lay hk))
  unfold u_lay at hlay
  rw [if_neg (by rw [hfin]; decide)] at hlay
  have hst := (u_facts hfc hkC (u_lays hts hin hk) hi).1
  have h6 := u_store hfc hkC hkind hlay hi hdesc hn hf
  refine W.putK B.1 B.2.1 (f := f) ⟨B.2.2.2.2.1, hts _ hlk, ⟨_, _, _, hi⟩, hst⟩ (by rw [q2]; exact h6) q1 q3 (by rw [hsl]; exact k2_hasslot (q4 fk hk)) rfl rfl hd fun H' x1 x2 x3 => ?_
  rw [hsl] at x1 ⊢
  refine kk p e s m args below meth c H' _ ls B (R.put hs e1 (fun b c j hb => by rw [hc', if_neg (fun w => hb w.1)]) x2 x3 ?_) (hS.put x2 x3 (Nat.le_add_right _ _)) hl'
  unfold cellOk
  rw [if_pos hci]
  refine ⟨(C, T, N'), hc, rfl, t_OB.to (V := updV (cv g h ci a) fk (tv g v)) ⟨_, x1, q2, q3, t_set q4 hap hk (tv g v)⟩ (fun j _ => ?_)⟩
  rw [hc']
  unfold updV
  by_cases hj : j = fk
  · subst hj
    simp
  · rw [if_neg hj, if_neg (fun w => hj w.2.1)]
theorem V_putI {a idx ci fk N : Nat} {v : Int32} (hl : FW μ.1.cls idx ci fk .int) (hs : h.1[a]? = some (ci, N)) (hy : sty ci fk = 0) (hd : decode μ.2.1 pc = .ok (.putfield idx, 3)) (hq : pc + 3 = q) (kk : V g μ θ (sI h a fk v) k n L q S) : V g μ θ h k n L pc (.int v :: .ref a :: S) :=
  V_putc (h' := sI h a fk v) hl hs rfl rfl rfl (fun c b j => by rw [cv_sI, hy]; rfl) hd hq kk
theorem V_putZ {a idx ci fk N : Nat} {b : Bool} (hl : FW μ.1.cls idx ci fk .boolean) (hs : h.1[a]? = some (ci, N)) (hy : sty ci fk = 0) (hd : decode μ.2.1 pc = .ok (.putfield idx, 3)) (hq : pc + 3 = q) (kk : V g μ θ (sI h a fk (bi b)) k n L q S) : V g μ θ h k n L pc (.int (bi b) :: .ref a :: S) :=
  V_putc (h' := sI h a fk (bi b)) hl hs (bi_nar b) (by cases b <;> rfl) rfl (fun c b j => by rw [cv_sI, hy]; rfl) hd hq kk
/-- a final field is written by its constructor -/
theorem V_putFc {a idx ci fk N : Nat} {v : Value} {t : FieldType} {h' : AH} (hl : FF μ.1.cls idx ci fk t) (hin2 : μ.1.name = "<init>") (hs : h.1[a]? = some (ci, N)) (hn : narrow t (tv g v) = tv g v) (hf : fits t (tv g v) = true) (e1 : h'.1 = h.1) (hc' : ∀ c b j, cv g h' c b j = if b = a ∧ j = fk ∧ sty c j = sty ci fk then tv g v else cv g h c b j) (hd : decode μ.2.1 pc = .ok (.putfield idx, 3)) (hq : pc + 3 = q) (kk : V g μ θ h' k n L q S) : V g μ θ h k n L pc (v :: .ref a :: S) := by
  subst hq
  intro p e s m args below meth c H locs ls B R hS hl'
  obtain ⟨⟨C, T, ty0, N', hc, hk, hci, hlk, hin, hty, hnm⟩, hw⟩ := hl
  obtain ⟨r, h1, h2, cell, q1, q2, q3, q4⟩ := R.obj hs hci
  have hr : r = (C, T, N') := Option.some.inj (h1.symm.trans hc)
  subst hr
  subst h2
  obtain ⟨hfin, hdecl, hdesc⟩ := hw C T N' hc
  have hts := B.2.2.2.2.2.1
  have hap := va_apart (own := μ.1.cls) hts hin ty0 hty hnm B.2.2.2.2.2.2.2.2.1.1 hc
  obtain ⟨hS', hfc, kC, hkC, hkind⟩ := B.2.2.2.2.2.2.2.2.1.1.1 ci _ hc
  obtain ⟨cf, kf, fi, f, hi, hsl⟩ := hS' fk hk
  have hlay := hts _ (hin _ (u_in_lay hk))
  unfold u_lay at hlay
  rw [if_pos hfin] at hlay
  have hst := (u_facts hfc hkC (u_lays hts hin hk) hi).1
  have hcf : m.cls = cf := by
    obtain ⟨_, _, c', _, _, _, -, -, hf', -, -, -, hown2, -⟩ := Cond.laysFinal_spec hlay
    have e1 : c' = cf := by have := hi.symm.trans hf'; simp at this; exact this.1.symm
    rw [hdecl] at hown2
    rw [← e1]; exact Option.some.inj (B.2.2.2.2.1.symm.trans hown2)
  have h6 := u_fits hfc hkC hkind (Or.inr hlay) hi hdesc hn hf
  refine W.putFinK B.1 B.2.1 B.2.2.2.2.1 (hts _ hlk) hi hst hcf (B.2.2.2.2.2.2.2.1 hin2) (by rw [q2]; exact h6) q1 q3 (by rw [hsl]; exact k2_hasslot (q4 fk hk)) rfl rfl hd fun H' x1 x2 x3 => ?_
  rw [hsl] at x1 ⊢
  refine kk p e s m args below meth c H' _ ls B (R.put hs e1 (fun b c j hb => by rw [hc', if_neg (fun w => hb w.1)]) x2 x3 ?_) (hS.put x2 x3 (Nat.le_add_right _ _)) hl'
  unfold cellOk
  rw [if_pos hci]
  refine ⟨(C, T, N'), hc, rfl, t_OB.to (V := updV (cv g h ci a) fk (tv g v)) ⟨_, x1, q2, q3, t_set q4 hap hk (tv g v)⟩ (fun j _ => ?_)⟩
  rw [hc']
  unfold updV
  by_cases hj : j = fk
  · subst hj
    simp
  · rw [if_neg hj, if_neg (fun w => hj w.2.1)]
theorem V_putFI {a idx ci fk N : Nat} {v : Int32} (hl : FF μ.1.cls idx ci fk .int) (hin2 : μ.1.name = "<init>") (hs : h.1[a]? = some (ci, N)) (hy : sty ci fk = 0) (hd : decode μ.2.1 pc = .ok (.putfield idx, 3)) (hq : pc + 3 = q) (kk : V g μ θ (sI h a fk v) k n L q S) : V g μ θ h k n L pc (.int v :: .ref a :: S) :=
  V_putFc (h' := sI h a fk v) hl hin2 hs rfl rfl rfl (fun c b j => by rw [cv_sI, hy]; rfl) hd hq kk
theorem V_putFP {a idx ci fk N r : Nat} {t : FieldType} (hl : FF μ.1.cls idx ci fk t) (ht : (∃ C, t = .object C) ∨ ∃ u, t = .array u) (hin2 : μ.1.name = "<init>") (hs : h.1[a]? = some (ci, N)) (hy : sty ci fk = 2) (hd : decode μ.2.1 pc = .ok (.putfield idx, 3)) (hq : pc + 3 = q) (kk : V g μ θ (sP h a fk (some r)) k n L q S) : V g μ θ h k n L pc (.ref r :: .ref a :: S) :=
  V_putFc (h' := sP h a fk (some r)) hl hin2 hs (by rcases ht with ⟨C, rfl⟩ | ⟨u, rfl⟩ <;> rfl) (by rcases ht with ⟨C, rfl⟩ | ⟨u, rfl⟩ <;> rfl) rfl (fun c b j => by rw [cv_sP, hy]; rfl) hd hq kk
/-- arrays -/
theorem V_iald {a i N : Nat} (hs : h.1[a]? = some (9, N)) (hi : i < N) (hN : N < 2 ^ 31) (hd : decode μ.2.1 pc = .ok (.iaload, 1)) (hq : pc + 1 = q) (kk : V g μ θ h k n L q (.int (hI h a i) :: S)) : V g μ θ h k n L pc (.int (nI i) :: .ref a :: S) := by
  subst hq
  intro p e s m args below meth c H locs ls B R hS hl'
  have hcl := nI_clamp (n := i) (by omega)
  exact W.iald (v := .int (hI h a i)) B.1 B.2.1 (R.arr hs (by decide)) ((B.2.2.2.2.2.2.2.2.1.1.2 0 _ rfl).1 N _) (fun q => by cases q) (by rw [arrV_size]; exact nI_in hi hN) (by rw [hcl, arrV_read _ _ hi]; rfl) rfl rfl hd (kk p e s m args below meth c H locs ls B R hS hl')
theorem V_zald {a i N : Nat} (hs : h.1[a]? = some (10, N)) (hi : i < N) (hN : N < 2 ^ 31) (hd : decode μ.2.1 pc = .ok (.baload, 1)) (hq : pc + 1 = q) (kk : V g μ θ h k n L q (.int (hI h a i) :: S)) : V g μ θ h k n L pc (.int (nI i) :: .ref a :: S) := by
  subst hq
  intro p e s m args below meth c H locs ls B R hS hl'
  have hcl := nI_clamp (n := i) (by omega)
  exact W.zald (v := .int (hI h a i)) B.1 B.2.1 (R.arr hs (by decide)) ((B.2.2.2.2.2.2.2.2.1.1.2 1 _ rfl).1 N _) (fun q => by cases q) (by rw [arrV_size]; exact nI_in hi hN) (by rw [hcl, arrV_read _ _ hi]; rfl) rfl rfl hd (kk p e s m args below meth c H locs ls B R hS hl')
theorem V_lald {a i N : Nat} (hs : h.1[a]? = some (11, N)) (hi : i < N) (hN : N < 2 ^ 31) (hd : decode μ.2.1 pc = .ok (.laload, 1)) (hq : pc + 1 = q) (kk : V g μ θ h k n L q (.long (hJ h a i) :: S)) : V g μ θ h k n L pc (.int (nI i) :: .ref a :: S) := by
  subst hq
  intro p e s m args below meth c H locs ls B R hS hl'
  have hcl := nI_clamp (n := i) (by omega)
  exact W.lald (v := .long (hJ h a i)) B.1 B.2.1 (R.arr hs (by decide)) ((B.2.2.2.2.2.2.2.2.1.1.2 2 _ rfl).1 N _) (fun q => by cases q) (by rw [arrV_size]; exact nI_in hi hN) (by rw [hcl, arrV_read _ _ hi]; rfl) rfl rfl hd (kk p e s m args below meth c H locs ls B R hS hl')
theorem V_aald {a c i N r : Nat} (hc : 12 ≤ c ∧ c ≤ 15) (hs : h.1[a]? = some (c, N)) (hi : i < N) (hN : N < 2 ^ 31) (hr : hP h a i = some r) (hd : decode μ.2.1 pc = .ok (.aaload, 1)) (hq : pc + 1 = q) (kk : V g μ θ h k n L q (.ref r :: S)) : V g μ θ h k n L pc (.int (nI i) :: .ref a :: S) := by
  subst hq
  intro p e s m args below meth cc H locs ls B R hS hl'
  have hcl := nI_clamp (n := i) (by omega)
  have hcv : cv g h c a i = tv g (.ref r) := by
    have : sty c i = 2 := by rcases (show c = 12 ∨ c = 13 ∨ c = 14 ∨ c = 15 by omega) with rfl | rfl | rfl | rfl <;> rfl
    unfold cv; rw [if_neg (by rw [this]; decide), if_neg (by rw [this]; decide), hr]; rfl
  have key : ∀ {ty : FieldType} {t0 : Nat}, (tys g)[t0]? = some (gC g c, ty) → ty.isReference = true → W p g.1 e θ.1 s m args below meth cc H locs k n (θ.2.2 args s below) (F0 m pc ls ((.int (nI i) :: .ref a :: S).map (tv g))) := fun ht hrf =>
    W.aald (v := tv g (.ref r)) B.1 B.2.1 (R.arr hs (by omega)) ((B.2.2.2.2.2.2.2.2.1.1.2 _ _ ht).1 N _) hrf (fun q => by cases q) (by rw [arrV_size]; exact nI_in hi hN) (by rw [hcl, arrV_read _ _ hi, hcv]) rfl rfl hd (kk p e s m args below meth cc H locs ls B R hS hl')
  rcases (show c = 12 ∨ c = 13 ∨ c = 14 ∨ c = 15 by omega) with rfl | rfl | rfl | rfl
  · exact key (t0 := 3) rfl rfl
  · exact key (t0 := 4) rfl rfl
  · exact key (t0 := 5) rfl rfl
  · exact key (t0 := 6) rfl rfl
theorem V_iast {a i N : Nat} {v : Int32} (hs : h.1[a]? = some (9, N)) (hi : i < N) (hN : N < 2 ^ 31) (hd : decode μ.2.1 pc = .ok (.iastore, 1)) (hq : pc + 1 = q) (kk : V g μ θ (sI h a i v) k n L q S) : V g μ θ h k n L pc (.int v :: .int (nI i) :: .ref a :: S) := by
  subst hq
  intro p e s m args below meth c H locs ls B R hS hl'
  have hcl := nI_clamp (n := i) (by omega)
  refine W.iast B.1 B.2.1 (R.arr hs (by decide)) ((B.2.2.2.2.2.2.2.2.1.1.2 0 _ rfl).1 N _) (fun q => by cases q) (by rw [arrV_size]; exact nI_in hi hN) rfl rfl hd fun H' x1 x2 x3 => ?_
  refine kk p e s m args below meth c H' _ ls B (R.put hs rfl (fun b c j hb => by rw [cv_sI, if_neg (fun w => hb w.1)]) x2 x3 ?_) (hS.put x2 x3 (Nat.le_add_right _ _)) hl'
  unfold cellOk
  rw [if_neg (by simp), x1, hcl, arrV_store]
  congr 2
  funext j
  rw [cv_sI]
  unfold updV
  by_cases hj : j = i
  · subst hj
    simp [sty]
  · rw [if_neg hj, if_neg (fun w => hj w.2.1)]
theorem V_zast {a i N : Nat} {b : Bool} (hs : h.1[a]? = some (10, N)) (hi : i < N) (hN : N < 2 ^ 31) (hd : decode μ.2.1 pc = .ok (.bastore, 1)) (hq : pc + 1 = q) (kk : V g μ θ (sI h a i (bi b)) k n L q S) : V g μ θ h k n L pc (.int (bi b) :: .int (nI i) :: .ref a :: S) := by
  subst hq
  intro p e s m args below meth c H locs ls B R hS hl'
  have hcl := nI_clamp (n := i) (by omega)
  refine W.zast B.1 B.2.1 (R.arr hs (by decide)) ((B.2.2.2.2.2.2.2.2.1.1.2 1 _ rfl).1 N _) (fun q => by cases q) (by rw [arrV_size]; exact nI_in hi hN) rfl rfl hd fun H' x1 x2 x3 => ?_
  refine kk p e s m args below meth c H' _ ls B (R.put hs rfl (fun b c j hb => by rw [cv_sI, if_neg (fun w => hb w.1)]) x2 x3 ?_) (hS.put x2 x3 (Nat.le_add_right _ _)) hl'
  unfold cellOk
  rw [if_neg (by simp), x1, hcl, arrV_store]
  congr 2
  funext j
  rw [cv_sI]
  unfold updV
  by_cases hj : j = i
  · subst hj
    simp [sty, bi_nar]
  · rw [if_neg hj, if_neg (fun w => hj w.2.1)]
theorem V_last {a i N : Nat} {v : Int64} (hs : h.1[a]? = some (11, N)) (hi : i < N) (hN : N < 2 ^ 31) (hd : decode μ.2.1 pc = .ok (.lastore, 1)) (hq : pc + 1 = q) (kk : V g μ θ (sJ h a i v) k n L q S) : V g μ θ h k n L pc (.long v :: .int (nI i) :: .ref a :: S) := by
  subst hq
  intro p e s m args below meth c H locs ls B R hS hl'
  have hcl := nI_clamp (n := i) (by omega)
  refine W.last B.1 B.2.1 (R.arr hs (by decide)) ((B.2.2.2.2.2.2.2.2.1.1.2 2 _ rfl).1 N _) (fun q => by cases q) (by rw [arrV_size]; exact nI_in hi hN) rfl rfl hd fun H' x1 x2 x3 => ?_
  refine kk p e s m args below meth c H' _ ls B (R.put hs rfl (fun b c j hb => by rw [cv_sJ, if_neg (fun w => hb w.1)]) x2 x3 ?_) (hS.put x2 x3 (Nat.le_add_right _ _)) hl'
  unfold cellOk
  rw [if_neg (by simp), x1, hcl, arrV_store]
  congr 2
  funext j
  rw [cv_sJ]
  unfold updV
  by_cases hj : j = i
  · subst hj
    simp [sty]
  · rw [if_neg hj, if_neg (fun w => hj w.2.1)]
/-- an array of references gets an object of its class: kind 12 of class 2, 13 of 4, 14 of 3 -/
theorem V_aast {a c i N r cr Nr : Nat} (hc : (c = 12 ∧ cr = 2) ∨ (c = 13 ∧ cr = 4) ∨ (c = 14 ∧ cr = 3)) (hs : h.1[a]? = some (c, N)) (hr : h.1[r]? = some (cr, Nr)) (hi : i < N) (hN : N < 2 ^ 31) (hd : decode μ.2.1 pc = .ok (.aastore, 1)) (hq : pc + 1 = q) (kk : V g μ θ (sP h a i (some r)) k n L q S) : V g μ θ h k n L pc (.ref r :: .int (nI i) :: .ref a :: S) := by
  subst hq
  intro p e s m args below meth cc H locs ls B R hS hl'
  have hcl := nI_clamp (n := i) (by omega)
  have hc9 : ¬ c < 9 := by omega
  have hr9 : cr < 9 := by omega
  obtain ⟨rr, hrr, hN2, cellV, g1, g2, g3, -⟩ := R.obj hr hr9
  have hK := B.2.2.2.2.2.2.2.2.1.1
  have hcls := (hK.1 cr rr hrr).2
  obtain ⟨C, t0, ht, hrn⟩ : ∃ (C : String) (t0 : Nat), (tys g)[t0]? = some (gC g c, .object C) ∧ rr.1 = C := by
    rcases hc with ⟨rfl, rfl⟩ | ⟨rfl, rfl⟩ | ⟨rfl, rfl⟩
    · exact ⟨_, 3, rfl, by cases hrr; rfl⟩
    · exact ⟨_, 4, rfl, by cases hrr; rfl⟩
    · exact ⟨_, 5, rfl, by cases hrr; rfl⟩
  obtain ⟨kA, comp, k1, k2, k3, -⟩ := (hK.2 t0 _ ht).2
  have hcomp : comp = (gD g).1 cr := Option.some.inj (k3.symm.trans (by rw [← hrn]; exact hcls.1))
  subst hcomp
  obtain ⟨kC, hkC, -⟩ := hcls.2
  refine W.aast B.1 B.2.1 (R.arr hs hc9) (fun q h => by cases h) (fun h => by cases h) k1 k2 rfl hkC ⟨nI_pos (by omega), by rw [hcl, arrV_size]; exact hi⟩ g1 (fun q h => by rw [g3] at h; cases h) (by rw [g2]; exact hkC) (by rw [g2]; exact va_assign hcls) rfl rfl hd fun H' x1 x2 x3 => ?_
  refine kk p e s m args below meth cc H' _ ls B (R.put hs rfl (fun b c j hb => by rw [cv_sP, if_neg (fun w => hb w.1)]) x2 x3 ?_) (hS.put x2 x3 (Nat.le_add_right _ _)) hl'
  unfold cellOk
  rw [if_neg hc9, x1, hcl, arrV_store]
  congr 2
  funext j
  rw [cv_sP]
  have hsy : ∀ j, sty c j = 2 := fun j => by rcases hc with ⟨rfl, -⟩ | ⟨rfl, -⟩ | ⟨rfl, -⟩ <;> rfl
  unfold updV
  by_cases hj : j = i
  · subst hj
    simp [hsy, rv]
  · rw [if_neg hj, if_neg (fun w => hj w.2.1)]
end HEAP

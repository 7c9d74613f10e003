/-! MAKING CELLS: while the cells that aren't made yet hold nothing, a new cell is one more shape -/
def Fz (h : AH) : Prop := ∀ b, h.1.length ≤ b → hI h b = (fun _ => 0) ∧ hJ h b = (fun _ => 0) ∧ hP h b = fun _ => none
def apn (h : AH) (l : List (Nat × Nat)) : AH := (h.1 ++ l, h.2)
theorem nw_z {h : AH} {q : Nat × Nat} (Z : Fz h) : nw h q = apn h [q] := by
  have e1 : (fun b j => if b = h.1.length then 0 else hI h b j) = hI h := by
    funext b j
    by_cases z : b = h.1.length
    · rw [if_pos z, (Z b (by omega)).1]
    · rw [if_neg z]
  have e2 : (fun b j => if b = h.1.length then 0 else hJ h b j) = hJ h := by
    funext b j
    by_cases z : b = h.1.length
    · rw [if_pos z, (Z b (by omega)).2.1]
    · rw [if_neg z]
  have e3 : (fun b j => if b = h.1.length then none else hP h b j) = hP h := by
    funext b j
    by_cases z : b = h.1.length
    · rw [if_pos z, (Z b (by omega)).2.2]
    · rw [if_neg z]
  unfold nw
  rw [e1, e2, e3]
  rfl
theorem Fz.ap {h : AH} {l : List (Nat × Nat)} (Z : Fz h) : Fz (apn h l) := fun b hb => Z b (by
  have hb : (h.1 ++ l).length ≤ b := hb
  rw [List.length_append] at hb; omega)
theorem Fz_sP {h : AH} {a j : Nat} {v : Option Nat} (Z : Fz h) (ha : a < h.1.length) : Fz (sP h a j v) := fun b hb => by
  have hb : h.1.length ≤ b := hb
  refine ⟨(Z b hb).1, (Z b hb).2.1, ?_⟩
  rw [hP_n (by omega)]; exact (Z b hb).2.2
theorem Fz_sI {h : AH} {a j : Nat} {v : Int32} (Z : Fz h) (ha : a < h.1.length) : Fz (sI h a j v) := fun b hb => by
  have hb : h.1.length ≤ b := hb
  refine ⟨?_, (Z b hb).2.1, (Z b hb).2.2⟩
  rw [hI_n (by omega)]; exact (Z b hb).1
theorem len_ap {h : AH} {q : Nat × Nat} {n : Nat} (e : h.1.length = n) : (apn h [q]).1.length = n + 1 := by
  show (h.1 ++ [q]).length = _
  rw [List.length_append, e]; rfl
theorem sh_ap {h : AH} {l : List (Nat × Nat)} {a : Nat} {q : Nat × Nat} (e : h.1[a]? = some q) : (apn h l).1[a]? = some q := by
  show (h.1 ++ l)[a]? = _
  rw [List.getElem?_append_left (List.getElem?_eq_some_iff.mp e).1]; exact e
theorem sh_new {h : AH} {a : Nat} {q : Nat × Nat} (e : h.1.length = a) : (apn h [q]).1[a]? = some q := by
  show (h.1 ++ [q])[a]? = _
  subst e
  rw [List.getElem?_append_right (Nat.le_refl _), Nat.sub_self]; rfl
/-- an array of N rows of M ints -/
def nwm (h : AH) (N M : Nat) : AH := (h.1 ++ ((15, N) :: List.replicate N (9, M)), fun b j => if h.1.length ≤ b then 0 else hI h b j, fun b j => if h.1.length ≤ b then 0 else hJ h b j, fun b j => if h.1.length ≤ b then (if b = h.1.length ∧ j < N then some (b + 1 + j) else none) else hP h b j)
def apm (h : AH) (N M : Nat) : AH := (h.1 ++ ((15, N) :: List.replicate N (9, M)), hI h, hJ h, fun b j => if b = h.1.length ∧ j < N then some (b + 1 + j) else hP h b j)
theorem nwm_z {h : AH} {N M : Nat} (Z : Fz h) : nwm h N M = apm h N M := by
  have e1 : (fun b j => if h.1.length ≤ b then 0 else hI h b j) = hI h := by
    funext b j
    by_cases z : h.1.length ≤ b
    · rw [if_pos z, (Z b z).1]
    · rw [if_neg z]
  have e2 : (fun b j => if h.1.length ≤ b then 0 else hJ h b j) = hJ h := by
    funext b j
    by_cases z : h.1.length ≤ b
    · rw [if_pos z, (Z b z).2.1]
    · rw [if_neg z]
  have e3 : (fun b j => if h.1.length ≤ b then (if b = h.1.length ∧ j < N then some (b + 1 + j) else none) else hP h b j) = fun b j => if b = h.1.length ∧ j < N then some (b + 1 + j) else hP h b j := by
    funext b j
    by_cases z : h.1.length ≤ b
    · rw [if_pos z, (Z b z).2.2]
    · rw [if_neg z, if_neg (by omega)]
  unfold nwm apm
  rw [e1, e2, e3]
theorem cv_nwm {g : GX} {h : AH} {N M c b j : Nat} (hb : b < h.1.length) : cv g (nwm h N M) c b j = cv g h c b j := by
  show (if _ then Value.int (if h.1.length ≤ b then 0 else hI h b j) else if _ then Value.long (if h.1.length ≤ b then 0 else hJ h b j) else rv g (if h.1.length ≤ b then (if b = h.1.length ∧ j < N then some (b + 1 + j) else none) else hP h b j)) = _
  rw [if_neg (Nat.not_le.mpr hb), if_neg (Nat.not_le.mpr hb), if_neg (Nat.not_le.mpr hb)]
  rfl
theorem Rep.rows {g : GX} {h : AH} {N M : Nat} {H H' : Heap} (R : Rep g h H) (hz : H'.size = H.size + 1 + N) (oq : ∀ x, x < H.size → H'[x]? = H[x]?) (h1 : H'[H.size]? = some (mr_o (gC g 15) N H.size N)) (h2 : ∀ j, j < N → H'[H.size + 1 + j]? = some (mr_r (gC g 9) M)) : Rep g (nwm h N M) H' := by
  refine ⟨?_, fun b qb hb => ?_⟩
  · show _ = gB g + (h.1 ++ ((15, N) :: List.replicate N (9, M))).length
    rw [hz, R.1, List.length_append, List.length_cons, List.length_replicate]; omega
  · have hb : (h.1 ++ ((15, N) :: List.replicate N (9, M)))[b]? = some qb := hb
    by_cases e : b < h.1.length
    · rw [List.getElem?_append_left e] at hb
      have h0 := R.2 b qb hb
      have hx : H'[gB g + b]? = H[gB g + b]? := oq _ (by rw [R.1]; omega)
      unfold cellOk at h0 ⊢
      split
      · rename_i hc
        rw [if_pos hc] at h0
        obtain ⟨r, k1, k2, k3⟩ := h0
        exact ⟨r, k1, k2, (k3.kept hx).to (fun j _ => (cv_nwm e).symm)⟩
      · rename_i hc
        rw [if_neg hc] at h0
        rw [hx, h0]
        congr 2
        funext j
        exact (cv_nwm e).symm
    · rw [List.getElem?_append_right (by omega)] at hb
      obtain ⟨i, hi⟩ : ∃ i, b = h.1.length + i := ⟨b - h.1.length, by omega⟩
      subst hi
      rw [Nat.add_sub_cancel_left] at hb
      cases i with
      | zero =>
        cases hb
        unfold cellOk
        rw [if_neg (by simp), Nat.add_zero, ← R.1, h1]
        unfold mr_o
        congr 2
        funext j
        show _ = rv g (if h.1.length ≤ h.1.length then (if h.1.length = h.1.length ∧ j < N then some (h.1.length + 1 + j) else none) else hP h h.1.length j)
        rw [if_pos (Nat.le_refl _)]
        by_cases z : j < N
        · rw [if_pos z, if_pos ⟨rfl, z⟩, R.1]
          show Value.ref (gB g + h.1.length + 1 + j) = Value.ref (gB g + (h.1.length + 1 + j))
          rw [show gB g + h.1.length + 1 + j = gB g + (h.1.length + 1 + j) by omega]
        · rw [if_neg z, if_neg (fun w => z w.2)]; rfl
      | succ i =>
        rw [List.getElem?_cons_succ, List.getElem?_replicate] at hb
        split at hb
        · rename_i hiN
          cases hb
          unfold cellOk
          rw [if_neg (by simp), show gB g + (h.1.length + (i + 1)) = H.size + 1 + i by rw [R.1]; omega, h2 i hiN]
          unfold mr_r
          congr 2
          funext j
          show _ = Value.int (if h.1.length ≤ h.1.length + (i + 1) then 0 else hI h _ j)
          rw [if_pos (Nat.le_add_right _ _)]
        · cases hb
def fitM (R : Room) (k n N M : Nat) : Bool := Nat.ble (k + (1 + N)) R.cells && Nat.ble (n + (N + N * M)) R.slots
section ALLOC2
variable {g : GX} {μ : MT} {θ : TH} {h : AH} {k n : Nat} {L : List (Nat × Value)} {pc q : Nat} {S : List Value}
theorem V_multi {idx N M : Nat} (hcl : Cond.classLink μ.1.cls idx "[[I" ∈ gt) (hN : Nat.ble N 1000 = true) (hM : Nat.ble M 1000 = true) (hf : fitM θ.1 k n N M = true) (hd : decode μ.2.1 pc = .ok (.multianewarray idx 2, 4)) (hq : pc + 4 = q) (kk : V g μ θ (nwm h N M) (k + (1 + N)) (n + (N + N * M)) L q (.ref h.1.length :: S)) : V g μ θ h k n L pc (.int (nI M) :: .int (nI N) :: S) := by
  subst hq
  intro p e s m args below meth c H locs ls B R hS hl
  simp only [fitM, Bool.and_eq_true] at hf
  have hts := B.2.2.2.2.2.1
  refine mr_W B.1 B.2.1 B.2.2.2.2.1 (index := idx) (hts _ hcl) B.2.2.2.2.2.2.2.2.1.2.1.2.2.2 (hts _ ac_int) rfl hd (Nat.le_of_ble_eq_true hN) (Nat.le_of_ble_eq_true hM) rfl (Nat.le_of_ble_eq_true hf.1) (Nat.le_of_ble_eq_true hf.2) fun cA cR H' f1 f2 z1 o1 x1 x2 => ?_
  have eA : cA = gC g 15 := Option.some.inj (f1.symm.trans (B.2.2.2.2.2.2.2.2.1.1.2 6 _ rfl).2)
  have eR : cR = gC g 9 := Option.some.inj (f2.symm.trans (B.2.2.2.2.2.2.2.2.1.1.2 0 _ rfl).2)
  subst eA; subst eR
  have hR' := R.rows z1 o1 x1 x2
  have hS' : va_S (gA g) s.heap H' (locs ++ (List.range N).map fun j => ⟨H.size, j⟩) := ⟨Nat.le_trans hS.1 (by omega), fun x h1 h2 => (o1 x (Nat.lt_of_lt_of_le h1 hS.1)).trans (hS.2.1 x h1 h2), fun x hx => by
    rcases List.mem_append.mp hx with h | h
    · exact hS.2.2 x h
    · obtain ⟨j, -, rfl⟩ := List.mem_map.mp h
      show gB g ≤ H.size
      rw [R.1]; omega⟩
  have := kk p e s m args below meth c H' _ ls B hR' hS' hl
  refine W.eq ?_ this
  show F0 m (pc + 4) ls (.ref H.size :: S.map (tv g)) = _
  rw [R.1]
  rfl
theorem V_al {a : Nat} {q0 : Nat × Nat} (Z : Fz h) (hl : h.1.length = a) (kk : V g μ θ (apn h [q0]) k n L pc (.ref a :: S)) : V g μ θ (nw h q0) k n L pc (.ref h.1.length :: S) := by rw [nw_z Z, hl]; exact kk
theorem V_alm {a N M : Nat} (Z : Fz h) (hl : h.1.length = a) (kk : V g μ θ (apm h N M) k n L pc (.ref a :: S)) : V g μ θ (nwm h N M) k n L pc (.ref h.1.length :: S) := by rw [nwm_z Z, hl]; exact kk
theorem V_wd {k' n' : Nat} (hk : k ≤ k') (hn : n ≤ n') (kk : V g μ θ h k' n' L pc S) : V g μ θ h k n L pc S :=
  fun p e s m args below meth c H locs ls B R hS hl => W.widen hk hn (kk p e s m args below meth c H locs ls B R hS hl)
end ALLOC2
theorem fitA_of {R : Room} {k n N : Nat} (h1 : k + 1 ≤ R.cells) (h2 : n + N ≤ R.slots) : fitA R k n N = true := by
  simp only [fitA, Bool.and_eq_true]
  exact ⟨Nat.ble_eq_true_of_le h1, Nat.ble_eq_true_of_le h2⟩
theorem fitR_of {R : Room} {d mc ms k n : Nat} {S : List Value} (h1 : d + 1 ≤ R.frames) (h2 : 40 * (d + 1) ≤ R.locals) (h3 : k + mc ≤ R.cells) (h4 : n + ms ≤ R.slots) (h5 : (S.map fun v => v.category).sum ≤ 8) : fitR R d mc ms k n S = true := by
  simp only [fitR, Bool.and_eq_true]
  exact ⟨Nat.ble_eq_true_of_le h1, Nat.ble_eq_true_of_le h2, Nat.ble_eq_true_of_le h3, Nat.ble_eq_true_of_le h4, Nat.ble_eq_true_of_le h5⟩
theorem apm_z {h : AH} {N M : Nat} (Z : Fz h) : Fz (apm h N M) := fun b hb => by
  have hb : (h.1 ++ ((15, N) :: List.replicate N (9, M))).length ≤ b := hb
  rw [List.length_append, List.length_cons] at hb
  have z := Z b (by omega)
  refine ⟨z.1, z.2.1, ?_⟩
  funext j
  show (if b = h.1.length ∧ j < N then _ else hP h b j) = none
  rw [if_neg (by omega), z.2.2]
theorem sI_0 {h : AH} {a j : Nat} (e : hI h a j = nI 0) : sI h a j (nI 0) = h := by
  have : (fun b i => if b = a ∧ i = j then nI 0 else hI h b i) = hI h := by
    funext b i
    by_cases z : b = a ∧ i = j
    · rw [if_pos z, z.1, z.2, e]
    · rw [if_neg z]
  unfold sI
  rw [this]
/-- behind a constructor of the object at a -/
def Cn (h η : AH) (a : Nat) (l : List (Nat × Nat)) : Prop := η.1 = h.1 ++ l ∧ Fz η ∧ hI η = hI h ∧ ∀ b, b < a → hP η b = hP h b

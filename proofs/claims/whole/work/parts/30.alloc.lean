/-- a new cell, all zero -/
def nw (h : AH) (q : Nat × Nat) : AH := (h.1 ++ [q], fun b j => if b = h.1.length then 0 else hI h b j, fun b j => if b = h.1.length then 0 else hJ h b j, fun b j => if b = h.1.length then none else hP h b j)
theorem cv_nw {g : GX} {h : AH} {q : Nat × Nat} {c b j : Nat} (hb : b < h.1.length) : cv g (nw h q) c b j = cv g h c b j := by
  show (if _ then Value.int (if b = h.1.length then 0 else hI h b j) else if _ then Value.long (if b = h.1.length then 0 else hJ h b j) else rv g (if b = h.1.length then none else hP h b j)) = _
  rw [if_neg (Nat.ne_of_lt hb), if_neg (Nat.ne_of_lt hb), if_neg (Nat.ne_of_lt hb)]
  rfl
theorem cv_nw0 {g : GX} {h : AH} {q : Nat × Nat} {c j : Nat} : cv g (nw h q) c h.1.length j = if sty c j = 0 then .int 0 else if sty c j = 1 then .long 0 else .null := by
  show (if _ then Value.int (if h.1.length = h.1.length then 0 else hI h _ j) else if _ then Value.long (if h.1.length = h.1.length then 0 else hJ h _ j) else rv g (if h.1.length = h.1.length then none else hP h _ j)) = _
  rw [if_pos rfl, if_pos rfl, if_pos rfl]
  rfl
theorem Rep.push {g : GX} {h : AH} {q : Nat × Nat} {H H' : Heap} (R : Rep g h H) (hz : H'.size = H.size + 1) (oq : ∀ x, x < H.size → H'[x]? = H[x]?) (hn : cellOk g (nw h q) h.1.length q H') : Rep g (nw h q) H' := by
  refine ⟨by rw [hz, R.1]; show _ = gB g + (h.1 ++ [q]).length; rw [List.length_append]; rfl, fun b qb hb => ?_⟩
  have hb : (h.1 ++ [q])[b]? = some qb := hb
  by_cases e : b < h.1.length
  · rw [List.getElem?_append_left e] at hb
    have h0 := R.2 b qb hb
    have hx : H'[gB g + b]? = H[gB g + b]? := oq _ (by rw [R.1]; omega)
    unfold cellOk at h0 ⊢
    split
    · rename_i hc
      rw [if_pos hc] at h0
      obtain ⟨r, h1, h2, h3⟩ := h0
      exact ⟨r, h1, h2, (h3.kept hx).to (fun j _ => (cv_nw e).symm)⟩
    · rename_i hc
      rw [if_neg hc] at h0
      rw [hx, h0]
      congr 2
      funext j
      exact (cv_nw e).symm
  · have hlt := (List.getElem?_eq_some_iff.mp hb).1
    rw [List.length_append] at hlt
    have : b = h.1.length := by simp at hlt; omega
    subst this
    rw [List.getElem?_append_right (Nat.le_refl _), Nat.sub_self] at hb
    cases hb
    exact hn
/-- the classes that are made: their zero values -/
def DV (ci : Nat) : Prop := ∃ (C : String) (T : u_T) (ty : Nat → FieldType) (N : Nat), vwCl[ci]? = some (C, T, N) ∧ ci < 9 ∧ (∀ w ∈ u_ws C T N, w ∈ gt) ∧ (∀ k, k < N → parseFieldDescriptor (T k).2.2.1 = some (ty k)) ∧ (∀ k, k < N → defaultValue (ty k) = if sty ci k = 0 then .int 0 else if sty ci k = 1 then .long 0 else .null) ∧ Cond.instantiable C N ∈ gt ∧ Cond.initialized C ∈ gt
theorem dv_0 : DV 0 := ⟨_, _, tyX0, _, rfl, by decide, iX0, tyX0_ok, by decide, qX0, jX0⟩
theorem dv_1 : DV 1 := ⟨_, _, tyX1, _, rfl, by decide, iX1, tyX1_ok, by decide, qX1, jX1⟩
theorem dv_2 : DV 2 := ⟨_, _, tyX2, _, rfl, by decide, iX2, tyX2_ok, by decide, qX2, jX2⟩
theorem dv_3 : DV 3 := ⟨_, _, tyX3, _, rfl, by decide, iX3, tyX3_ok, by decide, qX3, jX3⟩
theorem dv_4 : DV 4 := ⟨_, _, tyX4, _, rfl, by decide, iX4, tyX4_ok, by decide, qX4, jX4⟩
theorem dv_5 : DV 5 := ⟨_, _, tyX5, _, rfl, by decide, iX5, tyX5_ok, by decide, qX5, jX5⟩
theorem dv_6 : DV 6 := ⟨_, _, tyX6, _, rfl, by decide, iX6, tyX6_ok, by decide, qX6, jX6⟩
theorem dv_7 : DV 7 := ⟨_, _, tyX7, _, rfl, by decide, iX7, tyX7_ok, by decide, qX7, jX7⟩
theorem dv_8 : DV 8 := ⟨_, _, tyX8, _, rfl, by decide, iX8, tyX8_ok, by decide, qX8, jX8⟩
def fitA (R : Room) (k n N : Nat) : Bool := Nat.ble (k + 1) R.cells && Nat.ble (n + N) R.slots
section ALLOC
variable {g : GX} {μ : MT} {θ : TH} {h : AH} {k n : Nat} {L L' : List (Nat × Value)} {pc q tgt : Nat} {S : List Value}
theorem V_new {idx ci N : Nat} (dv : DV ci) (hN : (vwCl[ci]?).map (fun r => r.2.2) = some N) (hcl : ∀ r : vw_C, vwCl[ci]? = some r → Cond.classLink μ.1.cls idx r.1 ∈ gt) (hf : fitA θ.1 k n N = true) (hd : decode μ.2.1 pc = .ok (.new idx, 3)) (hq : pc + 3 = q)
    (kk : V g μ θ (nw h (ci, N)) (k + 1) (n + N) L q (.ref h.1.length :: S)) : V g μ θ h k n L pc S := by
  subst hq
  intro p e s m args below meth c H locs ls B R hS hl
  obtain ⟨C, T, ty, N', hc, hci, hin, hty, hdv, hinst, hini⟩ := dv
  have e1 : N' = N := by rw [hc] at hN; exact Option.some.inj hN
  subst e1
  simp only [fitA, Bool.and_eq_true] at hf
  have hts := B.2.2.2.2.2.1
  have hKn := B.2.2.2.2.2.2.2.2.1.1.1 ci _ hc
  refine W.newcK B.1 B.2.1 B.2.2.2.2.1 (hts _ (hcl _ hc)) (hts _ hinst) (hts _ hini) rfl hd (Nat.le_of_ble_eq_true hf.1) (Nat.le_of_ble_eq_true hf.2) hKn.2.1 rfl fun H1 kC hkC x1 z1 o1 => ?_
  have hR' : Rep g (nw h (ci, N')) H1 := by
    refine R.push z1 o1 ?_
    unfold cellOk
    rw [if_pos hci]
    refine ⟨_, hc, rfl, ?_⟩
    rw [← R.1]
    exact (u_born ty hts hin hKn hkC x1 hty).to (fun j hj => by rw [cv_nw0]; exact hdv j hj)
  have hS' : va_S (gA g) s.heap H1 locs := ⟨Nat.le_trans hS.1 (by omega), fun x h1 h2 => (o1 x (Nat.lt_of_lt_of_le h1 hS.1)).trans (hS.2.1 x h1 h2), hS.2.2⟩
  have := kk p e s m args below meth c H1 locs ls B hR' hS' hl
  refine W.eq ?_ this
  show F0 m (pc + 3) ls (.ref H.size :: S.map (tv g)) = _
  rw [R.1]
  rfl
theorem V_newI {N : Nat} (hf : fitA θ.1 k n N = true) (hb : Nat.ble (N * 4) 536870912 = true) (hd : decode μ.2.1 pc = .ok (.newarray .int, 2)) (hq : pc + 2 = q) (kk : V g μ θ (nw h (9, N)) (k + 1) (n + N) L q (.ref h.1.length :: S)) : V g μ θ h k n L pc (.int (nI N) :: S) := by
  subst hq
  intro p e s m args below meth c H locs ls B R hS hl
  simp only [fitA, Bool.and_eq_true] at hf
  have hts := B.2.2.2.2.2.1
  have hbn := Nat.le_of_ble_eq_true hb
  refine va_newaK B.1 B.2.1 (atype := .int) (hts _ ac_int) rfl hd rfl (nI_pos (by omega)) (nI_clamp (by omega)) hbn (Nat.le_of_ble_eq_true hf.1) (Nat.le_of_ble_eq_true hf.2) rfl fun H1 cA x1 z1 o1 hAr hNm => ?_
  have hcA : cA = gC g 9 := Option.some.inj (hNm.symm.trans (B.2.2.2.2.2.2.2.2.1.1.2 0 _ rfl).2)
  have hR' : Rep g (nw h (9, N)) H1 := by
    refine R.push z1 o1 ?_
    unfold cellOk
    rw [if_neg (by simp), ← R.1, x1, hcA]
    congr 2
    funext j
    rw [cv_nw0]
    rfl
  have hS' : va_S (gA g) s.heap H1 locs := ⟨Nat.le_trans hS.1 (by omega), fun x h1 h2 => (o1 x (Nat.lt_of_lt_of_le h1 hS.1)).trans (hS.2.1 x h1 h2), hS.2.2⟩
  have := kk p e s m args below meth c H1 locs ls B hR' hS' hl
  refine W.eq ?_ this
  show F0 m (pc + 2) ls (.ref H.size :: S.map (tv g)) = _
  rw [R.1]
  rfl
theorem V_newZ {N : Nat} (hf : fitA θ.1 k n N = true) (hb : Nat.ble (N * 4) 536870912 = true) (hd : decode μ.2.1 pc = .ok (.newarray .boolean, 2)) (hq : pc + 2 = q) (kk : V g μ θ (nw h (10, N)) (k + 1) (n + N) L q (.ref h.1.length :: S)) : V g μ θ h k n L pc (.int (nI N) :: S) := by
  subst hq
  intro p e s m args below meth c H locs ls B R hS hl
  simp only [fitA, Bool.and_eq_true] at hf
  have hts := B.2.2.2.2.2.1
  have hbn := Nat.le_of_ble_eq_true hb
  refine va_newaK B.1 B.2.1 (atype := .boolean) (hts _ ac_boolean) rfl hd rfl (nI_pos (by omega)) (nI_clamp (by omega)) (show N * 1 ≤ 536870912 by omega) (Nat.le_of_ble_eq_true hf.1) (Nat.le_of_ble_eq_true hf.2) rfl fun H1 cA x1 z1 o1 hAr hNm => ?_
  have hcA : cA = gC g 10 := Option.some.inj (hNm.symm.trans (B.2.2.2.2.2.2.2.2.1.1.2 1 _ rfl).2)
  have hR' : Rep g (nw h (10, N)) H1 := by
    refine R.push z1 o1 ?_
    unfold cellOk
    rw [if_neg (by simp), ← R.1, x1, hcA]
    congr 2
    funext j
    rw [cv_nw0]
    rfl
  have hS' : va_S (gA g) s.heap H1 locs := ⟨Nat.le_trans hS.1 (by omega), fun x h1 h2 => (o1 x (Nat.lt_of_lt_of_le h1 hS.1)).trans (hS.2.1 x h1 h2), hS.2.2⟩
  have := kk p e s m args below meth c H1 locs ls B hR' hS' hl
  refine W.eq ?_ this
  show F0 m (pc + 2) ls (.ref H.size :: S.map (tv g)) = _
  rw [R.1]
  rfl
theorem V_newJ {N : Nat} (hf : fitA θ.1 k n N = true) (hb : Nat.ble (N * 8) 536870912 = true) (hd : decode μ.2.1 pc = .ok (.newarray .long, 2)) (hq : pc + 2 = q) (kk : V g μ θ (nw h (11, N)) (k + 1) (n + N) L q (.ref h.1.length :: S)) : V g μ θ h k n L pc (.int (nI N) :: S) := by
  subst hq
  intro p e s m args below meth c H locs ls B R hS hl
  simp only [fitA, Bool.and_eq_true] at hf
  have hts := B.2.2.2.2.2.1
  have hbn := Nat.le_of_ble_eq_true hb
  refine va_newaK B.1 B.2.1 (atype := .long) (hts _ ac_long) rfl hd rfl (nI_pos (by omega)) (nI_clamp (by omega)) hbn (Nat.le_of_ble_eq_true hf.1) (Nat.le_of_ble_eq_true hf.2) rfl fun H1 cA x1 z1 o1 hAr hNm => ?_
  have hcA : cA = gC g 11 := Option.some.inj (hNm.symm.trans (B.2.2.2.2.2.2.2.2.1.1.2 2 _ rfl).2)
  have hR' : Rep g (nw h (11, N)) H1 := by
    refine R.push z1 o1 ?_
    unfold cellOk
    rw [if_neg (by simp), ← R.1, x1, hcA]
    congr 2
    funext j
    rw [cv_nw0]
    rfl
  have hS' : va_S (gA g) s.heap H1 locs := ⟨Nat.le_trans hS.1 (by omega), fun x h1 h2 => (o1 x (Nat.lt_of_lt_of_le h1 hS.1)).trans (hS.2.1 x h1 h2), hS.2.2⟩
  have := kk p e s m args below meth c H1 locs ls B hR' hS' hl
  refine W.eq ?_ this
  show F0 m (pc + 2) ls (.ref H.size :: S.map (tv g)) = _
  rw [R.1]
  rfl
theorem V_anew {idx c N : Nat} {C : String} (hc : (c = 12 ∧ C = "AggregateSplitter$Instruction") ∨ (c = 13 ∧ C = "AggregateSplitter$Partition") ∨ (c = 14 ∧ C = "AggregateSplitter$Layout")) (hcl : Cond.classLink μ.1.cls idx C ∈ gt) (hf : fitA θ.1 k n N = true) (hb : Nat.ble (N * 4) 536870912 = true) (hd : decode μ.2.1 pc = .ok (.anewarray idx, 3)) (hq : pc + 3 = q) (kk : V g μ θ (nw h (c, N)) (k + 1) (n + N) L q (.ref h.1.length :: S)) : V g μ θ h k n L pc (.int (nI N) :: S) := by
  subst hq
  intro p e s m args below meth cc H locs ls B R hS hl
  simp only [fitA, Bool.and_eq_true] at hf
  have hts := B.2.2.2.2.2.1
  have hbn := Nat.le_of_ble_eq_true hb
  have hcl2 : (nI N).toNatClampNeg = N := nI_clamp (by omega)
  have hover : (Cond.arrayOver (.object C)).before args s = true := by
    have h3 := B.2.2.2.2.2.2.2.2.1.2.1
    rcases hc with ⟨rfl, rfl⟩ | ⟨rfl, rfl⟩ | ⟨rfl, rfl⟩
    · exact va_AO.use h3.1
    · exact va_AO.use h3.2.1
    · exact va_AO.use h3.2.2.1
  refine W.anew B.1 B.2.1 B.2.2.2.2.1 (hts _ hcl) hover rfl hd rfl (nI_pos (by omega)) (by rw [hcl2]; exact hbn) (Nat.le_of_ble_eq_true hf.1) (by rw [hcl2]; exact Nat.le_of_ble_eq_true hf.2) fun cA kA comp f1 f2 f3 f4 => ?_
  rw [hcl2]
  generalize hH1 : H.push ({ cls := cA, slots := Array.replicate N .null, vm := .none } : Cell) = H1
  have z1 : H1.size = H.size + 1 := by rw [← hH1, Array.size_push]
  have x1 : H1[H.size]? = some (arrV cA N (fun _ => .null)) := by rw [← hH1, Array.getElem?_push_size, ← arrV_new]
  have o1 : ∀ x : Nat, x < H.size → H1[x]? = H[x]? := fun x hx => by rw [← hH1, Array.getElem?_push, if_neg (Nat.ne_of_lt hx)]
  have hcA : cA = gC g c := by
    rcases hc with ⟨rfl, rfl⟩ | ⟨rfl, rfl⟩ | ⟨rfl, rfl⟩
    · obtain ⟨_, _, _, _, _, q4⟩ := (B.2.2.2.2.2.2.2.2.1.1.2 3 _ rfl).2
      exact Option.some.inj (f1.symm.trans q4)
    · obtain ⟨_, _, _, _, _, q4⟩ := (B.2.2.2.2.2.2.2.2.1.1.2 4 _ rfl).2
      exact Option.some.inj (f1.symm.trans q4)
    · obtain ⟨_, _, _, _, _, q4⟩ := (B.2.2.2.2.2.2.2.2.1.1.2 5 _ rfl).2
      exact Option.some.inj (f1.symm.trans q4)
  have hsy : ∀ j, sty c j = 2 := fun j => by rcases hc with ⟨rfl, -⟩ | ⟨rfl, -⟩ | ⟨rfl, -⟩ <;> rfl
  have hR' : Rep g (nw h (c, N)) H1 := by
    refine R.push z1 o1 ?_
    unfold cellOk
    rw [if_neg (by show ¬ c < 9; omega), ← R.1, x1, hcA]
    congr 2
    funext j
    rw [cv_nw0]
    show Value.null = if sty c j = 0 then _ else _
    rw [hsy]
    rfl
  have hS' : va_S (gA g) s.heap H1 locs := ⟨Nat.le_trans hS.1 (by omega), fun x h1 h2 => (o1 x (Nat.lt_of_lt_of_le h1 hS.1)).trans (hS.2.1 x h1 h2), hS.2.2⟩
  have := kk p e s m args below meth cc H1 locs ls B hR' hS' hl
  refine W.eq ?_ this
  show F0 m (pc + 3) ls (.ref H.size :: S.map (tv g)) = _
  rw [R.1]
  rfl
theorem V_objInit {a idx : Nat} (hk : Cond.methodLink μ.1.cls idx objectInit ∈ gt) (hf : Nat.ble 1 θ.1.frames = true) (hf2 : Nat.ble 40 θ.1.locals = true) (hf3 : Nat.ble ((S.map fun v => v.category).sum) 8 = true) (hd : decode μ.2.1 pc = .ok (.invokespecial idx, 3)) (hq : pc + 3 = q) (kk : V g μ θ h k n L q S) : V g μ θ h k n L pc (.ref a :: S) := by
  subst hq
  intro p e s m args below meth c H locs ls B R hS hl
  have hts := B.2.2.2.2.2.1
  have h1 := Nat.le_of_ble_eq_true hf
  have h2 := Nat.le_of_ble_eq_true hf2
  have h3 := Nat.le_of_ble_eq_true hf3
  refine W.objInit B.1 B.2.1 B.2.2.2.2.1 (hts _ hk) (hts _ im_obj) (hts _ co_obj) rfl (by rw [B.2.2.2.1]; exact hl.1) rfl hd h1 ?_ (kk p e s m args below meth c H locs ls B R hS hl)
  have : ((S.map (tv g)).map fun v => v.category).sum ≤ 8 := by rw [cat_map]; exact h3
  show 2 * 0 + ((S.map (tv g)).map fun v => v.category).sum + 12 ≤ θ.1.locals
  omega
theorem V_mmin {idx : Nat} {x y : Int32} (hk : Cond.methodLink μ.1.cls idx Lib.Math.min.name ∈ gt) (hf : fitR θ.1 0 0 0 k n S = true) (hd : decode μ.2.1 pc = .ok (.invokestatic idx, 3)) (hq : pc + 3 = q) (kk : V g μ θ h k n L q (.int (if y < x then y else x) :: S)) : V g μ θ h k n L pc (.int y :: .int x :: S) := by
  subst hq
  intro p e s m args below meth c H locs ls B R hS hl
  obtain ⟨f1, f2, f3, f4, f5⟩ := fitR_spec hf
  have hts := B.2.2.2.2.2.1
  exact va_mmin B.1 B.2.1 (by rw [B.2.2.2.1]; exact hl.1.symm) B.2.2.2.2.1 (hts _ hk) (hts _ st_min) (hts _ in_math) (hts _ co_min) (by omega) (by rw [cat_map]; omega) (by omega) (by omega) hd (kk p e s m args below meth c H locs ls B R hS hl)
theorem V_mabs {idx : Nat} {x : Int32} (hk : Cond.methodLink μ.1.cls idx Lib.Math.abs.name ∈ gt) (hf : fitR θ.1 0 0 0 k n S = true) (hd : decode μ.2.1 pc = .ok (.invokestatic idx, 3)) (hq : pc + 3 = q) (kk : V g μ θ h k n L q (.int (if 0 ≤ x then x else 0 - x) :: S)) : V g μ θ h k n L pc (.int x :: S) := by
  subst hq
  intro p e s m args below meth c H locs ls B R hS hl
  obtain ⟨f1, f2, f3, f4, f5⟩ := fitR_spec hf
  have hts := B.2.2.2.2.2.1
  exact va_mabs B.1 B.2.1 (by rw [B.2.2.2.1]; exact hl.1.symm) B.2.2.2.2.1 (hts _ hk) (hts _ st_abs) (hts _ in_math) (hts _ co_abs) (by omega) (by rw [cat_map]; omega) (by omega) (by omega) hd (kk p e s m args below meth c H locs ls B R hS hl)
end ALLOC

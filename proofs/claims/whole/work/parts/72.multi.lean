/-! AN ARRAY OF ROWS OF INTS (multianewarray of two dimensions), over the machine -/
/-- the outer array of N rows at a, the first i rows made -/
def mr_o (cA : ClassId) (N a i : Nat) : Cell := arrV cA N (fun j => if j < i then .ref (a + 1 + j) else .null)
def mr_r (cR : ClassId) (M : Nat) : Cell := arrV cR M (fun _ => .int 0)
theorem mr_set (cA : ClassId) (N a i : Nat) : (mr_o cA N a i).setSlot i (.ref (a + 1 + i)) = mr_o cA N a (i + 1) := by
  unfold mr_o
  rw [arrV_store]
  congr 1
  funext j
  unfold updV
  by_cases z : j = i
  · rw [if_pos z, if_pos (by omega), z]
  · rw [if_neg z]
    show (if j < i then Value.ref (a + 1 + j) else Value.null) = _
    by_cases y : j < i
    · rw [if_pos y, if_pos (by omega)]
    · rw [if_neg y, if_neg (by omega)]
/-- the machine's state behind the first i rows -/
def mr_S (T : State) (cA cR : ClassId) (N M : Nat) : Nat → State
  | 0 => T.pushCell (mr_o cA N T.heap.size 0)
  | i + 1 => ((mr_S T cA cR N M i).pushCell (mr_r cR M)).setCell T.heap.size ((mr_o cA N T.heap.size i).setSlot i (.ref (T.heap.size + 1 + i)))
theorem mr_f (T : State) (cA cR : ClassId) (N M : Nat) : ∀ i, (mr_S T cA cR N M i).heap.size = T.heap.size + 1 + i ∧ (mr_S T cA cR N M i).heap[T.heap.size]? = some (mr_o cA N T.heap.size i) ∧ (mr_S T cA cR N M i).vm = T.vm ∧ (mr_S T cA cR N M i).slotsUsed = T.slotsUsed + N + i * M ∧ (∀ x, x < T.heap.size → (mr_S T cA cR N M i).heap[x]? = T.heap[x]?) ∧ ∀ j, j < i → (mr_S T cA cR N M i).heap[T.heap.size + 1 + j]? = some (mr_r cR M) := by
  intro i
  induction i with
  | zero =>
    refine ⟨by simp [mr_S], by simp [mr_S], rfl, ?_, fun x hx => State.heap_pushCell_of_lt _ _ hx, fun j hj => absurd hj (Nat.not_lt_zero _)⟩
    show T.slotsUsed + (mr_o cA N T.heap.size 0).slots.size = _
    unfold mr_o
    rw [arrV_size]; omega
  | succ i ih =>
    obtain ⟨a, b, d, u, o, r⟩ := ih
    have hlt : T.heap.size < (mr_S T cA cR N M i).heap.size := by omega
    have hb' : ((mr_S T cA cR N M i).pushCell (mr_r cR M)).heap[T.heap.size]? = some (mr_o cA N T.heap.size i) := by rw [State.heap_pushCell_of_lt (h := hlt)]; exact b
    refine ⟨?_, ?_, d, ?_, fun x hx => ?_, fun j hj => ?_⟩
    · simp [mr_S, State.setCell, a]; omega
    · rw [← mr_set]; exact State.heap_setCell_self hb'
    · show (mr_S T cA cR N M i).slotsUsed + (mr_r cR M).slots.size = _
      unfold mr_r
      rw [arrV_size, u, Nat.succ_mul]; omega
    · show (((mr_S T cA cR N M i).pushCell (mr_r cR M)).setCell T.heap.size _).heap[x]? = _
      rw [State.heap_setCell_other (Nat.ne_of_gt hx), State.heap_pushCell_of_lt (h := Nat.lt_trans hx hlt)]
      exact o x hx
    · show (((mr_S T cA cR N M i).pushCell (mr_r cR M)).setCell T.heap.size _).heap[T.heap.size + 1 + j]? = _
      rw [State.heap_setCell_other (show T.heap.size ≠ T.heap.size + 1 + j by omega)]
      by_cases z : j < i
      · have hj2 : T.heap.size + 1 + j < (mr_S T cA cR N M i).heap.size := by omega
        rw [State.heap_pushCell_of_lt (h := hj2)]; exact r j z
      · rw [show T.heap.size + 1 + j = (mr_S T cA cR N M i).heap.size by rw [a]; omega]
        exact State.heap_pushCell_size _ _
theorem mr_top (T : State) (f : JFrame) (cA cR : ClassId) (N M : Nat) : ∀ i, mr_S (T.setTop f) cA cR N M i = (mr_S T cA cR N M i).setTop f
  | 0 => rfl
  | i + 1 => by simp only [mr_S, mr_top T f cA cR N M i, State.heap_setTop, State.pushCell_setTop, State.setCell_setTop]
theorem mr_stand {p : Program} {l : Launch} {e : Env} {R : Room} {s : State} {m : MethodId} {args : Array Value} {below : List Frame} {meth : Method} {c : Code} {T : State} {locs : List Loc} {cells slots : Nat} (X : Stand p l e R s m args below meth c T locs cells slots) (cA cR : ClassId) (N M : Nat) : ∀ i, Stand p l e R s m args below meth c (mr_S T cA cR N M i) (locs ++ (List.range i).map fun j => ⟨T.heap.size, j⟩) (cells + 1 + i) (slots + N + i * M) := by
  intro i
  induction i with
  | zero =>
    have h := X.pushed (mr_o cA N T.heap.size 0)
    rw [show (mr_o cA N T.heap.size 0).slots.size = N from arrV_size _ _ _] at h
    simpa [mr_S] using h
  | succ i ih =>
    obtain ⟨a, b, d, u, o, r⟩ := mr_f T cA cR N M i
    have hlt : T.heap.size < (mr_S T cA cR N M i).heap.size := by omega
    have hb' : ((mr_S T cA cR N M i).pushCell (mr_r cR M)).heap[T.heap.size]? = some (mr_o cA N T.heap.size i) := by rw [State.heap_pushCell_of_lt (h := hlt)]; exact b
    have h := (ih.pushed (mr_r cR M)).stored hb' i (.ref (T.heap.size + 1 + i))
    rw [show (mr_r cR M).slots.size = M from arrV_size _ _ _] at h
    have e2 : (locs ++ (List.range (i + 1)).map fun j => (⟨T.heap.size, j⟩ : Loc)) = (locs ++ (List.range i).map fun j => (⟨T.heap.size, j⟩ : Loc)) ++ [⟨T.heap.size, i⟩] := by simp [List.range_succ, List.append_assoc]
    have e3 : slots + N + (i + 1) * M = slots + N + i * M + M := by rw [Nat.succ_mul]; omega
    rw [e2, e3]
    exact h
section MAKE
variable {E : CtlPost} {e : Env} {d : Bool} {acts : List Action} {s : State}
theorem mr_row {cR cI : ClassId} {kR : Class} {M : Int32} (hk : s.vm.classes[cR]? = some kR) (hkind : kR.kind = .array cI .int) (hM : ¬ M < 0) (h1 : ¬ M.toNatClampNeg > e.platform.arrayLengthLimit) (h2 : ¬ M.toNatClampNeg * 4 > e.platform.maxHeapBytes) (h3 : s.heap.size < e.platform.maxCells) (h4 : s.slotsUsed + M.toNatClampNeg ≤ e.platform.maxSlots) {Q : Addr → Pre} (hq : ∀ acts', Q s.heap.size d acts' (s.pushCell (mr_r cR M.toNatClampNeg))) : wp (multianewarray.make cR [M]) Q E e d acts s := by
  rw [multianewarray.make]
  simp only [wp_bind', W.ite, hM, if_false, wp_pure', W.theClass, hk, hkind, Option.some.injEq, exists_eq_left']
  refine W.newArray_of hk hkind h1 h2 h3 h4 rfl (fun acts' => ?_)
  rw [show ({ cls := cR, slots := Array.replicate M.toNatClampNeg (defaultValue .int) } : Cell) = mr_r cR M.toNatClampNeg from arrV_new _ _ _]
  exact hq acts'
theorem mr_make {cA cR cI : ClassId} {kA kR : Class} {N M : Int32} (hkA : s.vm.classes[cA]? = some kA) (hkindA : kA.kind = .array cR (.array .int)) (hkR : s.vm.classes[cR]? = some kR) (hkindR : kR.kind = .array cI .int) (hN : ¬ N < 0) (hM : ¬ M < 0)
    (h1 : ¬ N.toNatClampNeg > e.platform.arrayLengthLimit) (h2 : ¬ N.toNatClampNeg * 4 > e.platform.maxHeapBytes) (h3 : ¬ M.toNatClampNeg > e.platform.arrayLengthLimit) (h4 : ¬ M.toNatClampNeg * 4 > e.platform.maxHeapBytes)
    (h5 : s.heap.size + 1 + N.toNatClampNeg ≤ e.platform.maxCells) (h6 : s.slotsUsed + N.toNatClampNeg + N.toNatClampNeg * M.toNatClampNeg ≤ e.platform.maxSlots)
    {Q : Addr → Pre} (hq : ∀ d' acts', Q s.heap.size d' acts' (mr_S s cA cR N.toNatClampNeg M.toNatClampNeg N.toNatClampNeg)) : wp (multianewarray.make cA [N, M]) Q E e d acts s := by
  generalize hn : N.toNatClampNeg = n at *
  generalize hm : M.toNatClampNeg = k at *
  have hfind : ([M].find? (· < 0)) = none := by simp [hM]
  rw [multianewarray.make]
  simp only [wp_bind', W.ite, hN, if_false, wp_pure', W.theClass, hkA, hkindA, Option.some.injEq, exists_eq_left', hn]
  refine W.newArray_of hkA hkindA h1 h2 (by omega) (by have := Nat.zero_le (n * k); omega) rfl (fun acts1 => ?_)
  rw [show ({ cls := cA, slots := Array.replicate n .null } : Cell) = mr_o cA n s.heap.size 0 from (arrV_new _ _ _).trans (by unfold mr_o; simp)]
  simp only [hfind]
  rw [ite_self, wp_bind', Std.Legacy.Range.forIn_eq_forIn_range']
  have hsz : ([:n] : Std.Legacy.Range).size = n := by simp [Std.Legacy.Range.size]
  rw [hsz]
  show wp (forIn (List.range' 0 n 1) PUnit.unit _) _ E e d acts1 _
  refine wp_forIn_inv (fun rest s' => ∃ i, i + rest.length = n ∧ rest = List.range' i rest.length ∧ s' = mr_S s cA cR n k i) _ _ ⟨0, by simp, by simp, rfl⟩ ?_ ?_
  · rintro x rest s' d' acts' Q' ⟨i, hi, hl, rfl⟩ hnext
    rw [List.length_cons, List.range'_succ] at hl
    obtain ⟨e1, e2⟩ := List.cons.inj hl
    subst e1
    rw [List.length_cons] at hi
    obtain ⟨f1, f2, f3, f4, -, -⟩ := mr_f s cA cR n k x
    have hmul : x * k + k ≤ n * k := by
      have := Nat.mul_le_mul_right k (show x + 1 ≤ n by omega)
      rw [Nat.succ_mul] at this; exact this
    simp only [wp_bind']
    refine mr_row (cI := cI) (kR := kR) (by rw [f3]; exact hkR) hkindR hM (by rw [hm]; exact h3) (by rw [hm]; exact h4) (by rw [f1]; omega) (by rw [f4, hm]; omega) (fun acts2 => ?_)
    rw [hm]
    have hlt : s.heap.size < (mr_S s cA cR n k x).heap.size := by omega
    simp only [wp_bind', W.writeLoc, wp_pure']
    refine ⟨mr_o cA n s.heap.size x, by rw [State.heap_pushCell_of_lt (h := hlt)]; exact f2, (fun z => by cases z), (by unfold mr_o; rw [arrV_size]; omega), ?_, hnext _ _ _ ⟨x + 1, by omega, e2, ?_⟩⟩
    · show ((mr_S s cA cR n k x).pushCell (mr_r cR k)).fitsSlot cA .none x _ = true
      simp [State.fitsSlot, State.slotType?, f3, hkA, hkindA]
      rfl
    · rw [f1]; rfl
  · rintro s' d' acts' ⟨i, hi, -, rfl⟩
    have : i = n := by simpa using hi
    subst this
    simp only [wp_pure']
    exact hq _ _
end MAKE
/-- the row over the walk's judgement -/
theorem mr_W {p : Program} {l : Launch} {e : Env} {R : Room} {s : State} {m : MethodId} {args : Array Value} {below : List Frame} {meth : Method} {c : Code} {H : Heap} {locs : List Loc} {cells slots : Nat} {Q : State → Prop} {cc : ByteArray} (hexec : p.tables.exec = Jvm.exec) (hb : c.code = cc) {own : String} {index : Nat} (hown : s.vm.findClass own = some m.cls) (hclink : (Cond.classLink own index ("[" ++ (FieldType.array .int).toString)).before args s = true) (hover : (Cond.arrayOver (.array .int)).before args s = true) (harr : (Cond.arrayClass .int).before args s = true)
    {g : JFrame} (hg : g.method = m) (hdg : decode cc g.pc = .ok (.multianewarray index 2, 4)) {N M : Nat} (hN : N ≤ 1000) (hM : M ≤ 1000) {rest : List Value} (hstack : g.stack = .int (nI M) :: .int (nI N) :: rest) (hcells : cells + (1 + N) ≤ R.cells) (hslots : slots + (N + N * M) ≤ R.slots)
    (kk : ∀ (cA cR : ClassId) (H' : Heap), s.vm.findClass ("[" ++ (FieldType.array .int).toString) = some cA → s.vm.findClass (FieldType.array .int).toString = some cR → H'.size = H.size + 1 + N → (∀ x, x < H.size → H'[x]? = H[x]?) → H'[H.size]? = some (mr_o cA N H.size N) → (∀ j, j < N → H'[H.size + 1 + j]? = some (mr_r cR M)) →
      W p l e R s m args below meth c H' (locs ++ (List.range N).map fun j => ⟨H.size, j⟩) (cells + (1 + N)) (slots + (N + N * M)) Q { g with pc := g.pc + 4, stack := .ref H.size :: rest }) : W p l e R s m args below meth c H locs cells slots Q g := by
  intro T hT X
  subst hT; subst hb; subst hg
  have hpl : e.platform.magicAccessors = ({} : Platform).magicAccessors := by rw [X.admits.platform]
  obtain ⟨cR, cA, kA, hcR, -, hkA, hkindA, hnameA⟩ := aoa_spec hover
  obtain ⟨cR', kR, cI, hcR', hkR, hkindR⟩ := Cond.arrayClass_spec harr
  have ec : cR' = cR := Option.some.inj (hcR'.symm.trans hcR)
  subst ec
  obtain ⟨c0, hfc0, hcl⟩ := Cond.classLink_spec hown hclink e.platform hpl
  cases hnameA.symm.trans hfc0
  obtain ⟨hg₁, hwarm₁, hready₁⟩ := State.classEntry (e := e) X.warmed hcl
  generalize T.vm.noted g.method.cls index (.cls cA) = vm₁ at hg₁ hwarm₁ hready₁
  have hal : s.vm.Alike vm₁ := hwarm₁.alike
  obtain ⟨kA₁, hkA₁, heA⟩ := hal.2.2 _ _ hkA
  obtain ⟨kR₁, hkR₁, heR⟩ := hal.2.2 _ _ hkR
  have hkindA₁ : kA₁.kind = .array cR' (.array .int) := by rw [heA]; exact hkindA
  have hkindR₁ : kR₁.kind = .array cI .int := by rw [heR]; exact hkindR
  have X₁ := X.noted hwarm₁
  obtain ⟨hr1, hr2⟩ := X.roomAbove hcells hslots
  have cN : (nI N).toNatClampNeg = N := nI_clamp (by omega)
  have cM : (nI M).toNatClampNeg = M := nI_clamp (by omega)
  have XF := mr_stand X₁ cA cR' N M N
  obtain ⟨f1, f2, f3, f4, f5, f6⟩ := mr_f (T.setVm vm₁) cA cR' N M N
  obtain ⟨t, a1, b1⟩ := kk cA cR' _ hnameA hcR f1 f5 f2 f6 (mr_S (T.setVm vm₁) cA cR' N M N) rfl (by rw [show cells + (1 + N) = cells + 1 + N by omega, show slots + (N + N * M) = slots + N + N * M by omega]; exact XF)
  refine ⟨t, ?_, b1⟩
  have hl1 : ¬ (nI N).toNatClampNeg > e.platform.arrayLengthLimit := by rw [Launch.admits_arrayLengthLimit X.admits, cN]; omega
  have hh1 : ¬ (nI N).toNatClampNeg * 4 > e.platform.maxHeapBytes := by rw [Launch.admits_maxHeapBytes X.admits, cN]; omega
  have hl2 : ¬ (nI M).toNatClampNeg > e.platform.arrayLengthLimit := by rw [Launch.admits_arrayLengthLimit X.admits, cM]; omega
  have hh2 : ¬ (nI M).toNatClampNeg * 4 > e.platform.maxHeapBytes := by rw [Launch.admits_maxHeapBytes X.admits, cM]; omega
  jvm_step X.here [hexec, hdg]
  simp only [multianewarray.sem, wp_bind', W.resolveClassAt_links (State.method?_setTop g X.here.top) hg₁]
  rw [W.popN, if_neg (by decide)]
  refine ⟨g, State.topJava?_setTop' (s := T.setVm vm₁) g X.here.top, [.int (nI N), .int (nI M)], rest, rfl, hstack, ?_⟩
  simp only [List.mapM_cons, List.mapM_nil, wp_bind', wp_pure']
  refine mr_make (kA := kA₁) (kR := kR₁) (cR := cR') (cI := cI) hkA₁ hkindA₁ hkR₁ hkindR₁ (nI_pos (by omega)) (nI_pos (by omega)) hl1 hh1 hl2 hh2 (by rw [cN]; show T.heap.size + 1 + _ ≤ _; omega) (by rw [cN, cM]; show T.slotsUsed + _ + _ ≤ _; omega) (fun d' acts' => ?_)
  rw [cN, cM]
  have eS : ((T.setTop g).setVm vm₁).setTop { g with stack := rest } = (T.setVm vm₁).setTop { g with stack := rest } := by
    show ((T.setVm vm₁).setTop g).setTop _ = _
    rw [State.setTop_setTop]
  rw [eS, mr_top]
  simp only [wp_bind', W.mark, W.pushRef, State.topJava?_setTop' _ XF.here.top, Option.some.injEq, exists_eq_left', State.setTop_setTop, State.heap_setTop]
  intro acts
  simp [jvm, XF.here.top]
  exact a1

/-- of a method: its code stands in the tables, its class is initialised; it takes 'na' arguments beside the receiver -/
def MO (μ : MT) (na : Nat) : Prop := Cond.code μ.1 μ.2.1 μ.2.2.1 μ.2.2.2 ∈ gt ∧ Cond.initialized μ.1.cls ∈ gt ∧ (μ.1.cls ≠ "java/lang/invoke/MethodHandle" ∧ μ.1.cls ≠ "java/lang/invoke/VarHandle" ∧ (parseMethodDescriptor μ.1.desc).map (fun d => d.parameters.length) = some na) ∧ plainName μ.1.cls = true ∧ Nat.ble μ.2.2.1 21 = true
theorem wsM_good {μ : MT} {na : Nat} (h : MO μ na) : GoodIn gt (wsM μ) := fun w hw => by
  rcases List.mem_cons.mp hw with rfl | hw
  · exact gt_good _ h.1
  · exact gt_good _ hw
/-- an instance method under its number in the pool of 'own', of class number ci -/
def KV (own : String) (idx ci : Nat) (μ : MT) (na : Nat) : Prop := MO μ na ∧ Cond.methodLink own idx μ.1 ∈ gt ∧ Cond.instanceMethod μ.1 ∈ gt ∧ Cond.selects μ.1.cls μ.1 μ.1 ∈ gt ∧ ci < 9 ∧ ∀ r : vw_C, vwCl[ci]? = some r → r.1 = μ.1.cls
def KS (own : String) (idx : Nat) (μ : MT) (na : Nat) : Prop := MO μ na ∧ Cond.methodLink own idx μ.1 ∈ gt ∧ Cond.static μ.1 ∈ gt
def KSN (own : String) (idx : Nat) (μ : MT) (na : Nat) : Prop := MO μ na ∧ (∃ host, Cond.methodLinkNest own idx μ.1 host ∈ nws) ∧ Cond.static μ.1 ∈ gt
def KI (own : String) (idx : Nat) (μ : MT) (na : Nat) : Prop := MO μ na ∧ Cond.methodLink own idx μ.1 ∈ gt ∧ Cond.instanceMethod μ.1 ∈ gt ∧ μ.1.name = "<init>" ∧ μ.2.2.2 = none
def KIN (own : String) (idx : Nat) (μ : MT) (na : Nat) : Prop := MO μ na ∧ (∃ host, Cond.methodLinkNest own idx μ.1 host ∈ nws) ∧ Cond.instanceMethod μ.1 ∈ gt ∧ μ.1.name = "<init>" ∧ μ.2.2.2 = none
theorem aoa_spec {args : Array Value} {first s : State} {o : Option Outcome} {ix : List Nat} {t : FieldType} (h : (Cond.arrayOver (.array t)).holds args first o s ix = true) :
    ∃ comp c k, s.vm.findClass (FieldType.array t).toString = some comp ∧ (s.vm.classes.findIdx? fun x => match x.kind with | .array component _ => component == comp | _ => false) = some c ∧ s.vm.classes[c]? = some k ∧ k.kind = .array comp (.array t) ∧ s.vm.findClass ("[" ++ (FieldType.array t).toString) = some c := by
  simp only [Cond.holds, Cond.value, beq_iff_eq] at h
  cases hc : s.vm.findClass (FieldType.array t).toString with
  | none => simp [hc] at h
  | some comp =>
    simp only [hc, Option.bind_some, Option.bind_eq_some_iff, Option.map_eq_some_iff] at h
    obtain ⟨c, hi, k, hk, hb⟩ := h
    obtain ⟨hlt, hp, -⟩ := Array.findIdx?_eq_some_iff_getElem.mp hi
    have hkk : s.vm.classes[c] = k := (Array.getElem?_eq_some_iff.mp hk).2
    rw [hkk] at hp
    cases hkind : k.kind with
    | array component ty =>
      rw [hkind] at hb hp
      simp at hb hp
      exact ⟨comp, c, k, rfl, hi, hk, by rw [hkind, hp, hb.1], hb.2⟩
    | _ => rw [hkind] at hb; simp at hb
theorem aoa_moved {args args' : Array Value} {s U : State} {t : FieldType} (hal : s.vm.Alike U.vm) (h : (Cond.arrayOver (.array t)).before args s = true) : (Cond.arrayOver (.array t)).before args' U = true := by
  obtain ⟨comp, c, k, hcomp, hidx, hk, hkind, hname⟩ := aoa_spec h
  obtain ⟨k', hk', hek'⟩ := hal.2.2 _ _ hk
  have hkind' : k'.kind = .array comp (.array t) := by rw [hek']; exact hkind
  have hidx' : (U.vm.classes.findIdx? fun x => match x.kind with | .array component _ => component == comp | _ => false) = some c := by
    have e1 := va_idx_bare U.vm comp
    have e2 := va_idx_bare s.vm comp
    have e3 : U.vm.bare = s.vm.bare := by first | exact hal.bare_eq | exact hal.bare_eq.symm
    rw [e3] at e1
    exact (e1.symm.trans e2).trans hidx
  have hname' : U.vm.findClass ("[" ++ (FieldType.array t).toString) = some c := by rw [hal.findClass]; exact hname
  have hcomp' : U.vm.findClass (FieldType.array t).toString = some comp := by rw [hal.findClass]; exact hcomp
  show (Cond.arrayOver (.array t)).holds _ _ _ _ _ = true
  simp only [Cond.holds, Cond.value, hcomp', Option.bind_some, beq_iff_eq]
  rw [Option.bind_eq_some_iff]
  refine ⟨c, hidx', ?_⟩
  simp [hk', hkind', hname']
theorem gK.warm {g : GX} {s U : State} (hW : s.WarmedH U.vm) (h : gK g s) : gK g U := by
  obtain ⟨h1, ⟨a1, a2, a3, a4⟩, h3⟩ := h
  refine ⟨va_K.moved hW.alike h1, ⟨va_AO.moved hW.alike a1, va_AO.moved hW.alike a2, va_AO.moved hW.alike a3, aoa_moved hW.alike a4⟩, fun w hw => ?_⟩
  have h5 := h3 w hw
  simp only [nws, List.mem_cons, List.not_mem_nil, or_false] at hw
  rcases hw with rfl | rfl | rfl | rfl | rfl <;> exact va_Nw.warmM hW h5
theorem gK.call {g : GX} {U : State} {f : JFrame} {mk : MethodId} {a : Array Value} (h : gK g U) : gK g (U.calling f mk a) := by
  obtain ⟨h1, ⟨a1, a2, a3, a4⟩, h3⟩ := h
  refine ⟨va_K.moved (u := U) (Vm.Alike.refl U.vm) h1, ⟨va_AO.moved (u := U) (Vm.Alike.refl U.vm) a1, va_AO.moved (u := U) (Vm.Alike.refl U.vm) a2, va_AO.moved (u := U) (Vm.Alike.refl U.vm) a3, aoa_moved (s := U) (Vm.Alike.refl U.vm) a4⟩, fun w hw => ?_⟩
  have h5 := h3 w hw
  simp only [nws, List.mem_cons, List.not_mem_nil, or_false] at hw
  rcases hw with rfl | rfl | rfl | rfl | rfl <;> exact va_Nw.same rfl (u := U) rfl h5
theorem pc_blind {g : GX} {h : AH} {av : List Value} : FrameBlind (va_Pc (av.map (tv g)) (fun U => Rep g h U.heap ∧ gK g U)) := fun _ _ _ _ q => ⟨q.1, q.2.1, q.2.2.call⟩
theorem pre_S {g : GX} {h : AH} {av : List Value} {s : State} {H : Heap} (R : Rep g h H) (K : gK g s) : PreS s H (va_Pc (av.map (tv g)) (fun U => Rep g h U.heap ∧ gK g U)) (av.map (tv g)) :=
  ⟨pc_blind, fun U hU hW => ⟨rfl, by rw [hU]; exact R, K.warm hW⟩⟩
theorem rev_map {g : GX} (av S : List Value) : (av.reverse ++ S).map (tv g) = (av.map (tv g)).reverse ++ S.map (tv g) := by rw [List.map_append, List.map_reverse]
theorem cat_map {g : GX} : ∀ S : List Value, (S.map (tv g)).map (fun v => v.category) = S.map (fun v => v.category)
  | [] => rfl
  | a :: S => by rw [List.map_cons, List.map_cons, List.map_cons, tv_cat, cat_map S]
def fitR (R : Room) (d mc ms k n : Nat) (S : List Value) : Bool := Nat.ble (d + 1) R.frames && (Nat.ble (40 * (d + 1)) R.locals && (Nat.ble (k + mc) R.cells && (Nat.ble (n + ms) R.slots && Nat.ble ((S.map fun v => v.category).sum) 8)))
theorem fitR_spec {R : Room} {d mc ms k n : Nat} {S : List Value} (h : fitR R d mc ms k n S = true) : d + 1 ≤ R.frames ∧ 40 * (d + 1) ≤ R.locals ∧ k + mc ≤ R.cells ∧ n + ms ≤ R.slots ∧ (S.map fun v => v.category).sum ≤ 8 := by
  simp only [fitR, Bool.and_eq_true] at h
  exact ⟨Nat.le_of_ble_eq_true h.1, Nat.le_of_ble_eq_true h.2.1, Nat.le_of_ble_eq_true h.2.2.1, Nat.le_of_ble_eq_true h.2.2.2.1, Nat.le_of_ble_eq_true h.2.2.2.2⟩
section CALLS
variable {g : GX} {μ μ' : MT} {θ : TH} {h : AH} {k n d mc ms na idx : Nat} {L : List (Nat × Value)} {pc q : Nat} {S S' : List Value} {av : List Value} {post : Option Value → AH → Prop}
/-- behind a call -/
theorem V_after {p : Program} {e : Env} {s : State} {m : MethodId} {args : Array Value} {below : List Frame} {meth : Method} {c : Code} {H : Heap} {locs : List Loc} {ls : Array Slot} {st0 : List Value} {a : Array Value}
    (hr : va_Run p g.1 e θ.1 s m args below meth c H locs k n mc ms (F0 m pc ls st0) (S.map (tv g)) (Qc g post a) (gA g)) (B : Bd g μ θ p e s m args meth c) (hS : va_S (gA g) s.heap H locs) (hl : lv_has ls μ.2.2.1 (L.map fun q => (q.1, tv g q.2)))
    (kk : ∀ (r : Option Value) (h' : AH), post r h' → V g μ θ h' (k + mc) (n + ms) L (pc + 3) (r.toList ++ S)) : W p g.1 e θ.1 s m args below meth c H locs k n (θ.2.2 args s below) (F0 m pc ls st0) := by
  intro T hT X
  obtain ⟨v, st₀, t, T', L', h0, X', hL, e1, e2, ⟨⟨r, h', hv, hp, hR⟩, hz, hk⟩, st⟩ := hr T hT X
  cases hv
  rw [h0] at hz hk
  have hS' : va_S (gA g) s.heap T'.heap (locs ++ L') := ⟨Nat.le_trans hS.1 (by rw [e1]; exact hz), fun q h1 h2 => by rw [e1, hk q (Nat.lt_of_lt_of_le h1 hS.1) h2]; exact hS.2.1 q h1 h2, fun q hq => by
    rcases List.mem_append.mp hq with h | h
    · exact hS.2.2 q h
    · exact hL q h⟩
  obtain ⟨t2, a1, b1⟩ := kk r h' hp p e s m args below meth c T'.heap (locs ++ L') ls B (by rw [e1]; exact hR) hS' hl T' rfl X'
  refine ⟨t2, st t2 ?_, b1⟩
  have hm : ((r.toList ++ S).map (tv g)) = (r.map (tv g)).toList ++ S.map (tv g) := by cases r <;> simp
  rw [hm] at a1
  exact a1
theorem V_callV {ci N a : Nat} (hk : KV μ.1.cls idx ci μ' na) (hM : Ct g μ' d mc ms (.ref a :: av) h post) (hs : h.1[a]? = some (ci, N)) (hn : av.length = na) (hf : fitR θ.1 d mc ms k n S = true) (hS' : av.reverse ++ .ref a :: S = S') (hd : decode μ.2.1 pc = .ok (.invokevirtual idx, 3)) (hq : pc + 3 = q)
    (kk : ∀ (r : Option Value) (h' : AH), post r h' → V g μ θ h' (k + mc) (n + ms) L q (r.toList ++ S)) : V g μ θ h k n L pc S' := by
  subst hq; subst hS'
  intro p e s m args below meth c H locs ls B R hS hl
  obtain ⟨f1, f2, f3, f4, f5⟩ := fitR_spec hf
  obtain ⟨mo, hlk, hin, hse, hci, hcn⟩ := hk
  have hts := B.2.2.2.2.2.1
  obtain ⟨r, hr1, hr2, cell, g1, g2, g3, -⟩ := R.obj hs hci
  have hm9 : μ'.2.2.1 ≤ 21 := Nat.le_of_ble_eq_true mo.2.2.2.2
  have hgood : GoodIn gt (wsV μ.1.cls idx μ'.1.cls μ'.1 (wsM μ')) := fun w hw => by
    unfold wsV at hw
    rcases List.mem_append.mp hw with h1 | h1
    · simp only [List.mem_cons, List.not_mem_nil, or_false] at h1
      rcases h1 with rfl | rfl | rfl | rfl
      · exact gt_good _ hlk
      · exact gt_good _ hin
      · exact gt_good _ hse
      · exact gt_good _ mo.2.1
    · exact wsM_good mo w h1
  have hcw := cwV (R := θ.1) (s := s) (args := args) (own := μ.1.cls) (C := μ'.1.cls) (index := idx) (y := μ'.1) (bytes := μ'.2.1) (maxL := μ'.2.2.1) (ret := μ'.2.2.2) (ws := wsM μ') (rm := rmd d mc ms) (mc := mc) (ms := ms) na hts hgood rfl rfl rfl ⟨rfl, mo.2.2.1⟩ ⟨f1, by show 8 + (μ'.2.2.1 + 11) + 40 * d ≤ _; omega⟩
  have hrun := va_runV (p := p) (e := e) (below := below) (meth := meth) (locs := locs) (cells := k) (slots := n) (As := av.map (tv g)) (b := gB g + a) (rest := S.map (tv g)) (g := F0 m pc ls ((av.reverse ++ .ref a :: S).map (tv g))) (Ts := gt) ⟨B.1, B.2.1, B.2.2.2.1, B.2.2.2.2.1, hts⟩ hM hcw
    ⟨pc_blind, ⟨cell, g1, by rw [g3]; rfl, by rw [← hcn r hr1, g2]; exact (B.2.2.2.2.2.2.2.2.1.1.1 ci r hr1).2.1⟩, (pre_S (av := .ref a :: av) R B.2.2.2.2.2.2.2.2.1).2⟩ rfl (by rw [List.length_map]; exact hn) hl.1 (by show List.map (tv g) _ = _; rw [List.map_append, List.map_reverse]; rfl) (lv_room (by rw [cat_map]; exact f5)) hd ⟨f3, f4⟩
  exact V_after hrun B hS hl kk
theorem V_callS (hk : KS μ.1.cls idx μ' na) (hM : Ct g μ' d mc ms av h post) (hn : av.length = na) (hf : fitR θ.1 d mc ms k n S = true) (hS' : av.reverse ++ S = S') (hd : decode μ.2.1 pc = .ok (.invokestatic idx, 3)) (hq : pc + 3 = q)
    (kk : ∀ (r : Option Value) (h' : AH), post r h' → V g μ θ h' (k + mc) (n + ms) L q (r.toList ++ S)) : V g μ θ h k n L pc S' := by
  subst hq; subst hS'
  intro p e s m args below meth c H locs ls B R hS hl
  obtain ⟨f1, f2, f3, f4, f5⟩ := fitR_spec hf
  obtain ⟨mo, hlk, hst⟩ := hk
  have hts := B.2.2.2.2.2.1
  have hm9 : μ'.2.2.1 ≤ 21 := Nat.le_of_ble_eq_true mo.2.2.2.2
  have hgood : GoodIn gt (va_wsS μ.1.cls idx μ'.1 (wsM μ')) := fun w hw => by
    unfold va_wsS at hw
    rcases List.mem_append.mp hw with h1 | h1
    · simp only [List.mem_cons, List.not_mem_nil, or_false] at h1
      rcases h1 with rfl | rfl | rfl
      · exact gt_good _ hlk
      · exact gt_good _ hst
      · exact gt_good _ mo.2.1
    · exact wsM_good mo w h1
  have hcw := va_cwS (R := θ.1) (s := s) (args := args) (own := μ.1.cls) (index := idx) (y := μ'.1) (bytes := μ'.2.1) (maxL := μ'.2.2.1) (ret := μ'.2.2.2) (ws := wsM μ') (rm := rmd d mc ms) (mc := mc) (ms := ms) na hts hgood rfl rfl rfl mo.2.2.1 ⟨f1, by show 8 + (μ'.2.2.1 + 11) + 40 * d ≤ _; omega⟩
  have hrun := va_runS (p := p) (e := e) (below := below) (meth := meth) (locs := locs) (cells := k) (slots := n) (As := av.map (tv g)) (rest := S.map (tv g)) (g := F0 m pc ls ((av.reverse ++ S).map (tv g))) (Ts := gt) ⟨B.1, B.2.1, B.2.2.2.1, B.2.2.2.2.1, hts⟩ hM hcw
    (pre_S R B.2.2.2.2.2.2.2.2.1) rfl (by rw [List.length_map]; exact hn) hl.1 (rev_map av S) (lv_room (by rw [cat_map]; exact f5)) hd ⟨f3, f4⟩
  exact V_after hrun B hS hl kk
theorem V_callSN (hk : KSN μ.1.cls idx μ' na) (hM : Ct g μ' d mc ms av h post) (hn : av.length = na) (hf : fitR θ.1 d mc ms k n S = true) (hS' : av.reverse ++ S = S') (hd : decode μ.2.1 pc = .ok (.invokestatic idx, 3)) (hq : pc + 3 = q)
    (kk : ∀ (r : Option Value) (h' : AH), post r h' → V g μ θ h' (k + mc) (n + ms) L q (r.toList ++ S)) : V g μ θ h k n L pc S' := by
  subst hq; subst hS'
  intro p e s m args below meth c H locs ls B R hS hl
  obtain ⟨f1, f2, f3, f4, f5⟩ := fitR_spec hf
  obtain ⟨mo, ⟨host, hlk⟩, hst⟩ := hk
  have hts := B.2.2.2.2.2.1
  have hm9 : μ'.2.2.1 ≤ 21 := Nat.le_of_ble_eq_true mo.2.2.2.2
  have hcw := va_cnB (R := θ.1) (s := s) (args := args) (own := μ.1.cls) (host := host) (index := idx) (y := μ'.1) (bytes := μ'.2.1) (maxL := μ'.2.2.1) (ret := μ'.2.2.2) (ws := wsM μ') (rm := rmd d mc ms) (mc := mc) (ms := ms) na hts (wsM_good mo) rfl rfl rfl (B.2.2.2.2.2.2.2.2.1.2.2 _ hlk) (hts _ mo.2.1) mo.2.2.1 ⟨f1, by show 8 + (μ'.2.2.1 + 11) + 40 * d ≤ _; omega⟩
  have hrun := va_runSN (p := p) (e := e) (below := below) (meth := meth) (locs := locs) (cells := k) (slots := n) (As := av.map (tv g)) (rest := S.map (tv g)) (g := F0 m pc ls ((av.reverse ++ S).map (tv g))) (Ts := gt) ⟨B.1, B.2.1, B.2.2.2.1, B.2.2.2.2.1, hts⟩ hM ⟨hcw, hts _ hst, trivial⟩
    (pre_S R B.2.2.2.2.2.2.2.2.1) rfl (by rw [List.length_map]; exact hn) hl.1 (rev_map av S) (lv_room (by rw [cat_map]; exact f5)) hd ⟨f3, f4⟩
  exact V_after hrun B hS hl kk
theorem V_callI {a : Nat} (hk : KI μ.1.cls idx μ' na) (hM : Ct g μ' d mc ms (.ref a :: av) h post) (hn : av.length = na) (hf : fitR θ.1 d mc ms k n S = true) (hS' : av.reverse ++ .ref a :: S = S') (hd : decode μ.2.1 pc = .ok (.invokespecial idx, 3)) (hq : pc + 3 = q)
    (kk : ∀ (r : Option Value) (h' : AH), post r h' → V g μ θ h' (k + mc) (n + ms) L q (r.toList ++ S)) : V g μ θ h k n L pc S' := by
  subst hq; subst hS'
  intro p e s m args below meth c H locs ls B R hS hl
  obtain ⟨f1, f2, f3, f4, f5⟩ := fitR_spec hf
  obtain ⟨mo, hlk, hin, hnm, hret⟩ := hk
  have hts := B.2.2.2.2.2.1
  have hm9 : μ'.2.2.1 ≤ 21 := Nat.le_of_ble_eq_true mo.2.2.2.2
  have hcw := cwI (R := θ.1) (s := s) (args := args) (own := μ.1.cls) (index := idx) (y := μ'.1) (bytes := μ'.2.1) (maxL := μ'.2.2.1) (ws := wsM μ') (ws' := gt) (rm := rmd d mc ms) (mc := mc) (ms := ms) na hts (wsM_good mo) (by unfold wsM; rw [hret]) rfl rfl (hts _ mo.2.1) (hts _ hlk) (hts _ hin) hnm mo.2.2.1 ⟨f1, by show 8 + (μ'.2.2.1 + 11) + 40 * d ≤ _; omega⟩
  have hrun := va_runI (p := p) (e := e) (below := below) (meth := meth) (locs := locs) (cells := k) (slots := n) (As := av.map (tv g)) (b := gB g + a) (rest := S.map (tv g)) (g := F0 m pc ls ((av.reverse ++ .ref a :: S).map (tv g))) (Ts := gt) ⟨B.1, B.2.1, B.2.2.2.1, B.2.2.2.2.1, hts⟩ hM hcw
    (pre_S (av := .ref a :: av) R B.2.2.2.2.2.2.2.2.1) rfl (by rw [List.length_map]; exact hn) hl.1 (by show List.map (tv g) _ = _; rw [List.map_append, List.map_reverse]; rfl) (lv_room (by rw [cat_map]; exact f5)) hd ⟨f3, f4⟩
  exact V_after hrun B hS hl kk
theorem V_callIN {a : Nat} (hk : KIN μ.1.cls idx μ' na) (hM : Ct g μ' d mc ms (.ref a :: av) h post) (hn : av.length = na) (hf : fitR θ.1 d mc ms k n S = true) (hS' : av.reverse ++ .ref a :: S = S') (hd : decode μ.2.1 pc = .ok (.invokespecial idx, 3)) (hq : pc + 3 = q)
    (kk : ∀ (r : Option Value) (h' : AH), post r h' → V g μ θ h' (k + mc) (n + ms) L q (r.toList ++ S)) : V g μ θ h k n L pc S' := by
  subst hq; subst hS'
  intro p e s m args below meth c H locs ls B R hS hl
  obtain ⟨f1, f2, f3, f4, f5⟩ := fitR_spec hf
  obtain ⟨mo, ⟨host, hlk⟩, hin, hnm, hret⟩ := hk
  have hts := B.2.2.2.2.2.1
  have hm9 : μ'.2.2.1 ≤ 21 := Nat.le_of_ble_eq_true mo.2.2.2.2
  have hcw := va_cnB (R := θ.1) (s := s) (args := args) (own := μ.1.cls) (host := host) (index := idx) (y := μ'.1) (bytes := μ'.2.1) (maxL := μ'.2.2.1) (ret := none) (ws := wsM μ') (ws' := gt) (rm := rmd d mc ms) (mc := mc) (ms := ms) na hts (wsM_good mo) (by unfold wsM; rw [hret]) rfl rfl (B.2.2.2.2.2.2.2.2.1.2.2 _ hlk) (hts _ mo.2.1) mo.2.2.1 ⟨f1, by show 8 + (μ'.2.2.1 + 11) + 40 * d ≤ _; omega⟩
  have hrun := va_runIN (p := p) (e := e) (below := below) (meth := meth) (locs := locs) (cells := k) (slots := n) (As := av.map (tv g)) (b := gB g + a) (rest := S.map (tv g)) (g := F0 m pc ls ((av.reverse ++ .ref a :: S).map (tv g))) (Ts := gt) ⟨B.1, B.2.1, B.2.2.2.1, B.2.2.2.2.1, hts⟩ hM ⟨hcw, hnm, hts _ hin⟩
    (pre_S (av := .ref a :: av) R B.2.2.2.2.2.2.2.2.1) rfl (by rw [List.length_map]; exact hn) hl.1 (by show List.map (tv g) _ = _; rw [List.map_append, List.map_reverse]; rfl) (lv_room (by rw [cat_map]; exact f5)) hd ⟨f3, f4⟩
  exact V_after hrun B hS hl kk
/-- calls that change nothing -/
theorem V_cpV {ci N a : Nat} {v : Value} (hk : KV μ.1.cls idx ci μ' na) (hM : Cp g μ' d (.ref a :: av) h v) (hs : h.1[a]? = some (ci, N)) (hn : av.length = na) (hf : fitR θ.1 d 0 0 k n S = true) (hS' : av.reverse ++ .ref a :: S = S') (hd : decode μ.2.1 pc = .ok (.invokevirtual idx, 3)) (hq : pc + 3 = q)
    (kk : V g μ θ h k n L q (v :: S)) : V g μ θ h k n L pc S' :=
  V_callV hk hM hs hn hf hS' hd hq (fun r h' hp => by obtain ⟨rfl, rfl⟩ := hp; exact kk)
theorem V_cpS {v : Value} (hk : KS μ.1.cls idx μ' na) (hM : Cp g μ' d av h v) (hn : av.length = na) (hf : fitR θ.1 d 0 0 k n S = true) (hS' : av.reverse ++ S = S') (hd : decode μ.2.1 pc = .ok (.invokestatic idx, 3)) (hq : pc + 3 = q)
    (kk : V g μ θ h k n L q (v :: S)) : V g μ θ h k n L pc S' :=
  V_callS hk hM hn hf hS' hd hq (fun r h' hp => by obtain ⟨rfl, rfl⟩ := hp; exact kk)
theorem V_cpSN {v : Value} (hk : KSN μ.1.cls idx μ' na) (hM : Cp g μ' d av h v) (hn : av.length = na) (hf : fitR θ.1 d 0 0 k n S = true) (hS' : av.reverse ++ S = S') (hd : decode μ.2.1 pc = .ok (.invokestatic idx, 3)) (hq : pc + 3 = q)
    (kk : V g μ θ h k n L q (v :: S)) : V g μ θ h k n L pc S' :=
  V_callSN hk hM hn hf hS' hd hq (fun r h' hp => by obtain ⟨rfl, rfl⟩ := hp; exact kk)
end CALLS

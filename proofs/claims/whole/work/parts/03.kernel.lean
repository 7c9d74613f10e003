/-! THE ABSTRACT HEAP. A cell has a kind and a length (its shape); its contents are three functions (ints, longs, references) of the cell's number and the slot's.
    Kinds 0 to 8: objects of the classes of vwCl; 9 int[], 10 boolean[], 11 long[], 12 Instruction[], 13 Partition[], 14 Layout[], 15 int[][].
    The cell of number a lies at the machine's address 'base + a'. -/
abbrev AH : Type := List (Nat × Nat) × (Nat → Nat → Int32) × (Nat → Nat → Int64) × (Nat → Nat → Option Nat)
abbrev hI (h : AH) : Nat → Nat → Int32 := h.2.1
abbrev hJ (h : AH) : Nat → Nat → Int64 := h.2.2.1
abbrev hP (h : AH) : Nat → Nat → Option Nat := h.2.2.2
/-- launch, base, the script's address, the classes, the classes of arrays -/
abbrev GX : Type := Launch × Nat × Nat × va_G × (Nat → ClassId)
abbrev gB (g : GX) : Nat := g.2.1
abbrev gb (g : GX) : Nat := g.2.2.1
abbrev gD (g : GX) : va_G := g.2.2.2.1
abbrev gC (g : GX) : Nat → ClassId := g.2.2.2.2
/-- method: name, bytes, locals, type of the answer -/
abbrev MT : Type := MethodName × ByteArray × Nat × Option FieldType
/-- a walk's frame: room, what else is known at the entry, what is to be reached -/
abbrev TH : Type := Room × (Array Value → State → Prop) × (Array Value → State → List Frame → State → Prop)
/-- 0 int (boolean), 1 long, 2 reference -/
def sty (c k : Nat) : Nat := match c with
  | 0 => if k < 3 then 2 else 0
  | 1 => if k < 3 then 2 else 0
  | 2 => 0
  | 3 => if k < 6 then 2 else 0
  | 4 => 0
  | 5 => if k < 3 then 2 else 0
  | 6 => if k < 5 then 2 else 0
  | 7 => 2
  | 8 => if k = 2 then 0 else if k < 12 then 2 else 0
  | 9 => 0
  | 10 => 0
  | 11 => 1
  | _ => 2
def rv (g : GX) (o : Option Nat) : Value := match o with
  | none => .null
  | some r => .ref (gB g + r)
/-- an abstract value as the machine's; 'float' stands for the script -/
def tv (g : GX) (v : Value) : Value := match v with
  | .ref a => .ref (gB g + a)
  | .float _ => .ref (gb g)
  | v => v
def cv (g : GX) (h : AH) (c a k : Nat) : Value := if sty c k = 0 then .int (hI h a k) else if sty c k = 1 then .long (hJ h a k) else rv g (hP h a k)
def cellOk (g : GX) (h : AH) (a : Nat) (q : Nat × Nat) (H : Heap) : Prop :=
  if q.1 < 9 then ∃ r : vw_C, vwCl[q.1]? = some r ∧ r.2.2 = q.2 ∧ t_OB (gB g + a) ((gD g).1 q.1) q.2 ((gD g).2 q.1) H (cv g h q.1 a)
  else H[gB g + a]? = some (arrV (gC g q.1) q.2 (cv g h q.1 a))
def Rep (g : GX) (h : AH) (H : Heap) : Prop := H.size = gB g + h.1.length ∧ ∀ (a : Nat) (q : Nat × Nat), h.1[a]? = some q → cellOk g h a q H
def tys (g : GX) : List (ClassId × FieldType) := [(gC g 9, .int), (gC g 10, .boolean), (gC g 11, .long), (gC g 12, .object "AggregateSplitter$Instruction"), (gC g 13, .object "AggregateSplitter$Partition"), (gC g 14, .object "AggregateSplitter$Layout"), (gC g 15, .array .int)]
/-- the calls to a nest mate's private members -/
def nws : List Cond := [.methodLinkNest "AggregateSplitter" 18 ⟨"AggregateSplitter$History", "<init>", "()V"⟩ "AggregateSplitter", .methodLinkNest "AggregateSplitter$Layout" 17 ⟨"AggregateSplitter$Partition", "<init>", "()V"⟩ "AggregateSplitter", .methodLinkNest "AggregateSplitter$Partition" 20 ⟨"AggregateSplitter", "isScalarLength", "(I)Z"⟩ "AggregateSplitter", .methodLinkNest "AggregateSplitter$Analysis" 135 ⟨"AggregateSplitter", "oneIf", "(Z)I"⟩ "AggregateSplitter", .methodLinkNest "AggregateSplitter$Layout" 90 ⟨"AggregateSplitter", "oneIf", "(Z)I"⟩ "AggregateSplitter"]
/-- what the tables say of the classes -/
def gK (g : GX) (s : State) : Prop := va_K (gD g) vwCl (tys g) s ∧ (va_AO "AggregateSplitter$Instruction" s ∧ va_AO "AggregateSplitter$Partition" s ∧ va_AO "AggregateSplitter$Layout" s ∧ (Cond.arrayOver (.array .int)).before #[] s = true) ∧ ∀ w ∈ nws, va_Nw w s
/-- the tables' words that a callee may be given -/
def gt : List Cond := lw_tbl.filter goodWord
theorem gt_good : GoodIn gt gt := fun w hw => ⟨hw, good_of_word (List.mem_filter.mp hw).2⟩
theorem gt_mem {i : Nat} {w : Cond} (h : lw_tbl[i]? = some w) (hg : goodWord w = true) : w ∈ gt := List.mem_filter.mpr ⟨List.mem_of_getElem? h, hg⟩
def gA (g : GX) : Nat → Prop := fun q => gB g ≤ q
def Bd (g : GX) (μ : MT) (θ : TH) (p : Program) (e : Env) (s : State) (m : MethodId) (args : Array Value) (meth : Method) (c : Code) : Prop :=
  p.tables.exec = Jvm.exec ∧ c.code = μ.2.1 ∧ meth.sig.returnType = μ.2.2.2 ∧ c.maxLocals = μ.2.2.1 ∧ s.vm.findClass μ.1.cls = some m.cls ∧ (∀ w ∈ gt, w.before args s = true) ∧ meth.locks = false ∧ (μ.1.name = "<init>" → meth.name = "<init>") ∧ gK g s ∧ θ.2.1 args s
/-- THE JUDGEMENT: the method μ, at pc with the abstract heap h, locals L, stack S, comes to what θ wants; k cells of n slots have been made so far -/
def V (g : GX) (μ : MT) (θ : TH) (h : AH) (k n : Nat) (L : List (Nat × Value)) (pc : Nat) (S : List Value) : Prop :=
  ∀ (p : Program) (e : Env) (s : State) (m : MethodId) (args : Array Value) (below : List Frame) (meth : Method) (c : Code) (H : Heap) (locs : List Loc) (ls : Array Slot),
    Bd g μ θ p e s m args meth c → Rep g h H → va_S (gA g) s.heap H locs → lv_has ls μ.2.2.1 (L.map fun q => (q.1, tv g q.2)) →
    W p g.1 e θ.1 s m args below meth c H locs k n (θ.2.2 args s below) (F0 m pc ls (S.map (tv g)))
def Qc (g : GX) (post : Option Value → AH → Prop) : Array Value → State → Outcome → State → Prop := fun _ st o t =>
  (∃ (r : Option Value) (h' : AH), o = .returned (r.map (tv g)) ∧ post r h' ∧ Rep g h' t.heap) ∧ va_F (gA g) st t
def rmd (d mc ms : Nat) : Room := { frames := d, cells := mc, slots := ms, locals := 40 * d }
def thM (g : GX) (d mc ms : Nat) (post : Option Value → AH → Prop) : TH := (rmd d mc ms, fun _ _ => True, fun args s below => MQ below (Qc g post) args s mc ms (gA g))
def wsM (μ : MT) : List Cond := Cond.code μ.1 μ.2.1 μ.2.2.1 μ.2.2.2 :: gt
/-- A CONTRACT: called with av at the abstract heap h, in room for d frames, the method answers and leaves what 'post' says; at most mc cells of ms slots are new -/
def Ct (g : GX) (μ : MT) (d mc ms : Nat) (av : List Value) (h : AH) (post : Option Value → AH → Prop) : Prop :=
  Met g.1 μ.1 (wsM μ) (rmd d mc ms) (va_Pc (av.map (tv g)) (fun U => Rep g h U.heap ∧ gK g U)) (Qc g post) mc ms (gA g)
/-- a contract of a method that changes nothing -/
abbrev Cp (g : GX) (μ : MT) (d : Nat) (av : List Value) (h : AH) (v : Value) : Prop := Ct g μ d 0 0 av h (fun r h' => r = some v ∧ h' = h)
theorem tv_cat (g : GX) (v : Value) : (tv g v).category = v.category := by cases v <;> rfl
theorem lv_args_tv (g : GX) : ∀ (i : Nat) (vs : List Value), lv_args i (vs.map (tv g)) = (lv_args i vs).map fun q => (q.1, tv g q.2)
  | _, [] => rfl
  | i, v :: vs => by
    simp only [List.map_cons, lv_args, tv_cat]
    rw [lv_args_tv g _ vs]
theorem lg_sl_tv (g : GX) : ∀ (vs : List Value), (lg_sl (vs.map (tv g))).length = (lg_sl vs).length
  | [] => rfl
  | v :: vs => by
    have ih := lg_sl_tv g vs
    cases v <;> simp [lg_sl, tv, Value.category] at ih ⊢ <;> omega
set_option maxHeartbeats 4000000 in
theorem Ct_intro {g : GX} {μ : MT} {d mc ms : Nat} {av : List Value} {h : AH} {post : Option Value → AH → Prop} (hy : plainName μ.1.cls = true) (hn : (lg_sl av).length ≤ μ.2.2.1)
    (k : V g μ (thM g d mc ms post) h 0 0 (lv_args 0 av) 0 []) : Ct g μ d mc ms av h post := by
  refine Met.ofW (cc := μ.2.1) (maxL := μ.2.2.1) (ret := μ.2.2.2) hy rfl ?_
  intro p e s m args below meth c s₁ B hml hv
  obtain ⟨rfl, hR, hK⟩ := hv
  have hts := atoms_spec (ws := wsM μ) B.pre
  have hl := lv_entry (av.map (tv g)) (n := μ.2.2.1) (by rw [lg_sl_tv]; exact hn)
  rw [lg_entry_eq]
  generalize (lg_sl (av.map (tv g)) ++ List.replicate (μ.2.2.1 - (lg_sl (av.map (tv g))).length) Slot.unset).toArray = ls at hl ⊢
  rw [lv_args_tv] at hl
  exact k p e s m _ below meth c s.heap [] ls ⟨B.exec, B.bytes, B.returns, hml, findClass_of_methodNamed B.named, fun w h => hts w (List.mem_cons_of_mem _ h), B.notSynchronized, fun hi => (name_of_methodNamed B.named B.method).1.trans hi, hK, trivial⟩ hR va_S.rf hl

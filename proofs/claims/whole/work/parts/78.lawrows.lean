/-! THE LAW: what is known at its entry, its rows for the script, its end -/
abbrev mL_law : MT := (yL_law, cL_law, 4, ret)
def LX (g : GX) (N : Nat) (xs : Nat → Int32) : Array Value → State → Prop := fun args s => args = #[Value.ref (gb g)] ∧ s.heap.size = gB g ∧ va_X (gb g) N xs s s.heap ∧ gb g < s.heap.size
def thL (g : GX) (N : Nat) (xs : Nat → Int32) : TH := (room_1, LX g N xs, fun args s below => lw_Z below args s)
section LAW
variable {g : GX} {μ : MT} {h : AH} {k n : Nat} {L : List (Nat × Value)} {pc q : Nat} {S : List Value} {N : Nat} {xs : Nat → Int32}
theorem V_slen (hd : decode μ.2.1 pc = .ok (.arraylength, 1)) (hq : pc + 1 = q) (kk : V g μ (thL g N xs) h k n L q (.int (nI N) :: S)) : V g μ (thL g N xs) h k n L pc (.float 0 :: S) := by
  subst hq
  intro p e s m args below meth c H locs ls B R hS hl
  obtain ⟨x1, x2, x3, x4⟩ := B.2.2.2.2.2.2.2.2.2
  exact va_slen B.1 B.2.1 x3 x4 (show ¬ gB g ≤ gb g by rw [← x2]; exact Nat.not_le.mpr x4) hS hd (kk p e s m args below meth c H locs ls B R hS hl)
theorem V_sld {i : Nat} (hi : i < N) (hN : N < 2 ^ 31) (hd : decode μ.2.1 pc = .ok (.iaload, 1)) (hq : pc + 1 = q) (kk : V g μ (thL g N xs) h k n L q (.int (xs i) :: S)) : V g μ (thL g N xs) h k n L pc (.int (nI i) :: .float 0 :: S) := by
  subst hq
  intro p e s m args below meth c H locs ls B R hS hl
  obtain ⟨x1, x2, x3, x4⟩ := B.2.2.2.2.2.2.2.2.2
  have hcl := nI_clamp (n := i) (by omega)
  refine va_sld (i := nI i) B.1 B.2.1 x3 x4 (show ¬ gB g ≤ gb g by rw [← x2]; exact Nat.not_le.mpr x4) hS (nI_in hi hN) hd ?_
  rw [hcl]
  exact kk p e s m args below meth c H locs ls B R hS hl
theorem V_lawret (hk : k ≤ 600000) (hn : n ≤ 7302250) : V g mL_law (thL g N xs) h k n L 978 [.int (nI 1)] := by
  intro p e s m args below meth c H locs ls B R hS hl
  obtain ⟨x1, x2, x3, x4⟩ := B.2.2.2.2.2.2.2.2.2
  subst x1
  exact W.widen hk hn (va_forget (fun q hq => by rw [x2]; exact hS.2.2 q hq) (lw_ret B.1 B.2.1 B.2.2.1 B.2.2.2.2.2.2.1 dL_law_978))
end LAW
theorem and31 (x : Int32) : ∃ z, z < 32 ∧ x &&& nI 31 = nI z := by
  refine ⟨(x &&& nI 31).toBitVec.toNat, ?_, ?_⟩
  · have : (x &&& nI 31).toBitVec = x.toBitVec &&& 31#32 := rfl
    rw [this, BitVec.toNat_and]
    have h2 : (31#32).toNat = 31 := rfl
    rw [h2]
    exact Nat.lt_succ_of_le Nat.and_le_right
  · unfold nI
    apply Int32.toBitVec_inj.mp
    simp
/-- the classes and arrays of the tables, at the law's entry -/
theorem gk_start {s : State} {b : Nat} (l : Launch) (hts : ∀ w ∈ lw_tbl, w.before #[Value.ref b] s = true) : ∃ (D : va_G) (Ca : Nat → ClassId), gK (l, s.heap.size, b, D, Ca) s := by
  have hg : ∀ w ∈ gt, w.before #[Value.ref b] s = true := fun w h => hts w (List.mem_filter.mp h).1
  obtain ⟨c0, i0, k0⟩ := u_known (C := RX0) (T := TX0) (N := 4) (n := 4) hg iX0 (hg _ qX0)
  obtain ⟨c1, i1, k1⟩ := u_known (C := RX1) (T := TX1) (N := 5) (n := 5) hg iX1 (hg _ qX1)
  obtain ⟨c2, i2, k2⟩ := u_known (C := RX2) (T := TX2) (N := 10) (n := 10) hg iX2 (hg _ qX2)
  obtain ⟨c3, i3, k3⟩ := u_known (C := RX3) (T := TX3) (N := 9) (n := 9) hg iX3 (hg _ qX3)
  obtain ⟨c4, i4, k4⟩ := u_known (C := RX4) (T := TX4) (N := 4) (n := 4) hg iX4 (hg _ qX4)
  obtain ⟨c5, i5, k5⟩ := u_known (C := RX5) (T := TX5) (N := 5) (n := 5) hg iX5 (hg _ qX5)
  obtain ⟨c6, i6, k6⟩ := u_known (C := RX6) (T := TX6) (N := 11) (n := 11) hg iX6 (hg _ qX6)
  obtain ⟨c7, i7, k7⟩ := u_known (C := RX7) (T := TX7) (N := 4) (n := 4) hg iX7 (hg _ qX7)
  obtain ⟨c8, i8, k8⟩ := u_known (C := RX8) (T := TX8) (N := 16) (n := 16) hg iX8 (hg _ qX8)
  obtain ⟨a9, ka9, ca9, na9, ma9, da9⟩ := Cond.arrayClass_spec (hg _ ac_int)
  obtain ⟨a10, ka10, ca10, na10, ma10, da10⟩ := Cond.arrayClass_spec (hg _ ac_boolean)
  obtain ⟨a11, ka11, ca11, na11, ma11, da11⟩ := Cond.arrayClass_spec (hg _ ac_long)
  have w12 : (Cond.arrayOver (.object "AggregateSplitter$Instruction")).before #[Value.ref b] s = true := hts _ (List.mem_of_getElem? (i := 86) (by decide +kernel))
  obtain ⟨ca12, a12, ka12, fa12, -, ma12, da12, na12⟩ := Cond.arrayOver_spec w12
  have w13 : (Cond.arrayOver (.object "AggregateSplitter$Partition")).before #[Value.ref b] s = true := hts _ (List.mem_of_getElem? (i := 200) (by decide +kernel))
  obtain ⟨ca13, a13, ka13, fa13, -, ma13, da13, na13⟩ := Cond.arrayOver_spec w13
  have w14 : (Cond.arrayOver (.object "AggregateSplitter$Layout")).before #[Value.ref b] s = true := hts _ (List.mem_of_getElem? (i := 193) (by decide +kernel))
  obtain ⟨ca14, a14, ka14, fa14, -, ma14, da14, na14⟩ := Cond.arrayOver_spec w14
  have w15 : (Cond.arrayOver (.array .int)).before #[Value.ref b] s = true := hts _ (List.mem_of_getElem? (i := 264) (by decide +kernel))
  obtain ⟨ca15, a15, ka15, fa15, -, ma15, da15, na15⟩ := aoa_spec w15
  refine ⟨(fun k => if k = 0 then c0 else if k = 1 then c1 else if k = 2 then c2 else if k = 3 then c3 else if k = 4 then c4 else if k = 5 then c5 else if k = 6 then c6 else if k = 7 then c7 else c8, fun k => if k = 0 then i0 else if k = 1 then i1 else if k = 2 then i2 else if k = 3 then i3 else if k = 4 then i4 else if k = 5 then i5 else if k = 6 then i6 else if k = 7 then i7 else i8), fun k => if k = 9 then a9 else if k = 10 then a10 else if k = 11 then a11 else if k = 12 then a12 else if k = 13 then a13 else if k = 14 then a14 else a15, ⟨fun k q hq => ?_, fun k q hq => ?_⟩, ⟨va_AO.of w12, va_AO.of w13, va_AO.of w14, w15⟩, fun w hw => ?_⟩
  · match k, hq with
    | 0, hq => cases hq; exact k0
    | 1, hq => cases hq; exact k1
    | 2, hq => cases hq; exact k2
    | 3, hq => cases hq; exact k3
    | 4, hq => cases hq; exact k4
    | 5, hq => cases hq; exact k5
    | 6, hq => cases hq; exact k6
    | 7, hq => cases hq; exact k7
    | 8, hq => cases hq; exact k8
    | k + 9, hq => simp [vwCl] at hq
  · match k, hq with
    | 0, hq => cases hq; exact ⟨fun n z => ⟨fun x h => (by cases h), ka9, ma9, ca9, da9⟩, na9⟩
    | 1, hq => cases hq; exact ⟨fun n z => ⟨fun x h => (by cases h), ka10, ma10, ca10, da10⟩, na10⟩
    | 2, hq => cases hq; exact ⟨fun n z => ⟨fun x h => (by cases h), ka11, ma11, ca11, da11⟩, na11⟩
    | 3, hq => cases hq; exact ⟨fun n z => ⟨fun x h => (by cases h), ka12, ma12, ca12, da12⟩, ka12, ca12, ma12, da12, fa12, na12⟩
    | 4, hq => cases hq; exact ⟨fun n z => ⟨fun x h => (by cases h), ka13, ma13, ca13, da13⟩, ka13, ca13, ma13, da13, fa13, na13⟩
    | 5, hq => cases hq; exact ⟨fun n z => ⟨fun x h => (by cases h), ka14, ma14, ca14, da14⟩, ka14, ca14, ma14, da14, fa14, na14⟩
    | 6, hq => cases hq; exact ⟨fun n z => ⟨fun x h => (by cases h), ka15, ma15, ca15, da15⟩, na15⟩
    | k + 7, hq => simp [tys] at hq
  · simp only [nws, List.mem_cons, List.not_mem_nil, or_false] at hw
    rcases hw with rfl | rfl | rfl | rfl | rfl
    · exact va_Nw.of rfl (hts _ (List.mem_of_getElem? (i := 164) (by decide +kernel)))
    · exact va_Nw.of rfl (hts _ (List.mem_of_getElem? (i := 202) (by decide +kernel)))
    · exact va_Nw.of rfl (hts _ (List.mem_of_getElem? (i := 542) (by decide +kernel)))
    · exact va_Nw.of rfl (hts _ (List.mem_of_getElem? (i := 629) (by decide +kernel)))
    · exact va_Nw.of rfl (hts _ (List.mem_of_getElem? (i := 646) (by decide +kernel)))


section ROWS
variable {g : GX} {μ : MT} {θ : TH} {h : AH} {k n : Nat} {L L' : List (Nat × Value)} {pc q tgt : Nat} {S : List Value}
theorem V_icmp_eq {x y : Int32} {off : Int} (hd : decode μ.2.1 pc = .ok (.if_icmp .eq off, 3)) (ht : (pc : Int) + off = (tgt : Int)) (hq : pc + 3 = q) (kt : x = y → V g μ θ h k n L tgt S) (kf : ¬ x = y → V g μ θ h k n L q S) : V g μ θ h k n L pc (.int y :: .int x :: S) := by
  subst hq
  exact fun p e s m args below meth c H locs ls B R hS hl => lv_icmp_eq B.1 B.2.1 hd ht (fun z => kt z p e s m args below meth c H locs ls B R hS hl) (fun z => kf z p e s m args below meth c H locs ls B R hS hl)
theorem V_if_eq {x : Int32} {off : Int} (hd : decode μ.2.1 pc = .ok (.ifCond .eq off, 3)) (ht : (pc : Int) + off = (tgt : Int)) (hq : pc + 3 = q) (kt : x = 0 → V g μ θ h k n L tgt S) (kf : ¬ x = 0 → V g μ θ h k n L q S) : V g μ θ h k n L pc (.int x :: S) := by
  subst hq
  exact fun p e s m args below meth c H locs ls B R hS hl => lv_if_eq B.1 B.2.1 hd ht (fun z => kt z p e s m args below meth c H locs ls B R hS hl) (fun z => kf z p e s m args below meth c H locs ls B R hS hl)
theorem V_icmp_ne {x y : Int32} {off : Int} (hd : decode μ.2.1 pc = .ok (.if_icmp .ne off, 3)) (ht : (pc : Int) + off = (tgt : Int)) (hq : pc + 3 = q) (kt : ¬ x = y → V g μ θ h k n L tgt S) (kf : x = y → V g μ θ h k n L q S) : V g μ θ h k n L pc (.int y :: .int x :: S) := by
  subst hq
  exact fun p e s m args below meth c H locs ls B R hS hl => lv_icmp_ne B.1 B.2.1 hd ht (fun z => kt z p e s m args below meth c H locs ls B R hS hl) (fun z => kf z p e s m args below meth c H locs ls B R hS hl)
theorem V_if_ne {x : Int32} {off : Int} (hd : decode μ.2.1 pc = .ok (.ifCond .ne off, 3)) (ht : (pc : Int) + off = (tgt : Int)) (hq : pc + 3 = q) (kt : ¬ x = 0 → V g μ θ h k n L tgt S) (kf : x = 0 → V g μ θ h k n L q S) : V g μ θ h k n L pc (.int x :: S) := by
  subst hq
  exact fun p e s m args below meth c H locs ls B R hS hl => lv_if_ne B.1 B.2.1 hd ht (fun z => kt z p e s m args below meth c H locs ls B R hS hl) (fun z => kf z p e s m args below meth c H locs ls B R hS hl)
theorem V_icmp_lt {x y : Int32} {off : Int} (hd : decode μ.2.1 pc = .ok (.if_icmp .lt off, 3)) (ht : (pc : Int) + off = (tgt : Int)) (hq : pc + 3 = q) (kt : x < y → V g μ θ h k n L tgt S) (kf : ¬ x < y → V g μ θ h k n L q S) : V g μ θ h k n L pc (.int y :: .int x :: S) := by
  subst hq
  exact fun p e s m args below meth c H locs ls B R hS hl => lv_icmp_lt B.1 B.2.1 hd ht (fun z => kt z p e s m args below meth c H locs ls B R hS hl) (fun z => kf z p e s m args below meth c H locs ls B R hS hl)
theorem V_if_lt {x : Int32} {off : Int} (hd : decode μ.2.1 pc = .ok (.ifCond .lt off, 3)) (ht : (pc : Int) + off = (tgt : Int)) (hq : pc + 3 = q) (kt : x < 0 → V g μ θ h k n L tgt S) (kf : ¬ x < 0 → V g μ θ h k n L q S) : V g μ θ h k n L pc (.int x :: S) := by
  subst hq
  exact fun p e s m args below meth c H locs ls B R hS hl => lv_if_lt B.1 B.2.1 hd ht (fun z => kt z p e s m args below meth c H locs ls B R hS hl) (fun z => kf z p e s m args below meth c H locs ls B R hS hl)
theorem V_icmp_ge {x y : Int32} {off : Int} (hd : decode μ.2.1 pc = .ok (.if_icmp .ge off, 3)) (ht : (pc : Int) + off = (tgt : Int)) (hq : pc + 3 = q) (kt : y ≤ x → V g μ θ h k n L tgt S) (kf : ¬ y ≤ x → V g μ θ h k n L q S) : V g μ θ h k n L pc (.int y :: .int x :: S) := by
  subst hq
  exact fun p e s m args below meth c H locs ls B R hS hl => lv_icmp_ge B.1 B.2.1 hd ht (fun z => kt z p e s m args below meth c H locs ls B R hS hl) (fun z => kf z p e s m args below meth c H locs ls B R hS hl)
theorem V_if_ge {x : Int32} {off : Int} (hd : decode μ.2.1 pc = .ok (.ifCond .ge off, 3)) (ht : (pc : Int) + off = (tgt : Int)) (hq : pc + 3 = q) (kt : 0 ≤ x → V g μ θ h k n L tgt S) (kf : ¬ 0 ≤ x → V g μ θ h k n L q S) : V g μ θ h k n L pc (.int x :: S) := by
  subst hq
  exact fun p e s m args below meth c H locs ls B R hS hl => lv_if_ge B.1 B.2.1 hd ht (fun z => kt z p e s m args below meth c H locs ls B R hS hl) (fun z => kf z p e s m args below meth c H locs ls B R hS hl)
theorem V_icmp_gt {x y : Int32} {off : Int} (hd : decode μ.2.1 pc = .ok (.if_icmp .gt off, 3)) (ht : (pc : Int) + off = (tgt : Int)) (hq : pc + 3 = q) (kt : y < x → V g μ θ h k n L tgt S) (kf : ¬ y < x → V g μ θ h k n L q S) : V g μ θ h k n L pc (.int y :: .int x :: S) := by
  subst hq
  exact fun p e s m args below meth c H locs ls B R hS hl => lv_icmp_gt B.1 B.2.1 hd ht (fun z => kt z p e s m args below meth c H locs ls B R hS hl) (fun z => kf z p e s m args below meth c H locs ls B R hS hl)
theorem V_if_gt {x : Int32} {off : Int} (hd : decode μ.2.1 pc = .ok (.ifCond .gt off, 3)) (ht : (pc : Int) + off = (tgt : Int)) (hq : pc + 3 = q) (kt : 0 < x → V g μ θ h k n L tgt S) (kf : ¬ 0 < x → V g μ θ h k n L q S) : V g μ θ h k n L pc (.int x :: S) := by
  subst hq
  exact fun p e s m args below meth c H locs ls B R hS hl => lv_if_gt B.1 B.2.1 hd ht (fun z => kt z p e s m args below meth c H locs ls B R hS hl) (fun z => kf z p e s m args below meth c H locs ls B R hS hl)
theorem V_icmp_le {x y : Int32} {off : Int} (hd : decode μ.2.1 pc = .ok (.if_icmp .le off, 3)) (ht : (pc : Int) + off = (tgt : Int)) (hq : pc + 3 = q) (kt : x ≤ y → V g μ θ h k n L tgt S) (kf : ¬ x ≤ y → V g μ θ h k n L q S) : V g μ θ h k n L pc (.int y :: .int x :: S) := by
  subst hq
  exact fun p e s m args below meth c H locs ls B R hS hl => lv_icmp_le B.1 B.2.1 hd ht (fun z => kt z p e s m args below meth c H locs ls B R hS hl) (fun z => kf z p e s m args below meth c H locs ls B R hS hl)
theorem V_if_le {x : Int32} {off : Int} (hd : decode μ.2.1 pc = .ok (.ifCond .le off, 3)) (ht : (pc : Int) + off = (tgt : Int)) (hq : pc + 3 = q) (kt : x ≤ 0 → V g μ θ h k n L tgt S) (kf : ¬ x ≤ 0 → V g μ θ h k n L q S) : V g μ θ h k n L pc (.int x :: S) := by
  subst hq
  exact fun p e s m args below meth c H locs ls B R hS hl => lv_if_le B.1 B.2.1 hd ht (fun z => kt z p e s m args below meth c H locs ls B R hS hl) (fun z => kf z p e s m args below meth c H locs ls B R hS hl)
theorem V_icmp_eqN {a b : Nat} {off : Int} (hd : decode μ.2.1 pc = .ok (.if_icmp .eq off, 3)) (ht : (pc : Int) + off = (tgt : Int)) (hq : pc + 3 = q) (ha : a < 2 ^ 31) (hb : b < 2 ^ 31) (kt : a = b → V g μ θ h k n L tgt S) (kf : ¬ a = b → V g μ θ h k n L q S) : V g μ θ h k n L pc (.int (nI b) :: .int (nI a) :: S) :=
  V_icmp_eq hd ht hq (fun z => kt ((nI_eq ha hb).mp z)) (fun z => kf (fun w => z ((nI_eq ha hb).mpr w)))
theorem V_if_eqN {a : Nat} {off : Int} (hd : decode μ.2.1 pc = .ok (.ifCond .eq off, 3)) (ht : (pc : Int) + off = (tgt : Int)) (hq : pc + 3 = q) (ha : a < 2 ^ 31) (kt : a = 0 → V g μ θ h k n L tgt S) (kf : 0 < a → V g μ θ h k n L q S) : V g μ θ h k n L pc (.int (nI a) :: S) :=
  V_if_eq hd ht hq (fun z => kt ((nI_eq ha (by decide)).mp (z.trans nI_0.symm))) (fun z => kf (Nat.pos_of_ne_zero (fun w => z (by rw [w]; rfl))))
theorem V_icmp_neN {a b : Nat} {off : Int} (hd : decode μ.2.1 pc = .ok (.if_icmp .ne off, 3)) (ht : (pc : Int) + off = (tgt : Int)) (hq : pc + 3 = q) (ha : a < 2 ^ 31) (hb : b < 2 ^ 31) (kt : ¬ a = b → V g μ θ h k n L tgt S) (kf : a = b → V g μ θ h k n L q S) : V g μ θ h k n L pc (.int (nI b) :: .int (nI a) :: S) :=
  V_icmp_ne hd ht hq (fun z => kt (fun w => z ((nI_eq ha hb).mpr w))) (fun z => kf ((nI_eq ha hb).mp z))
theorem V_if_neN {a : Nat} {off : Int} (hd : decode μ.2.1 pc = .ok (.ifCond .ne off, 3)) (ht : (pc : Int) + off = (tgt : Int)) (hq : pc + 3 = q) (ha : a < 2 ^ 31) (kt : 0 < a → V g μ θ h k n L tgt S) (kf : a = 0 → V g μ θ h k n L q S) : V g μ θ h k n L pc (.int (nI a) :: S) :=
  V_if_ne hd ht hq (fun z => kt (Nat.pos_of_ne_zero (fun w => z (by rw [w]; rfl)))) (fun z => kf ((nI_eq ha (by decide)).mp (z.trans nI_0.symm)))
theorem V_icmp_ltN {a b : Nat} {off : Int} (hd : decode μ.2.1 pc = .ok (.if_icmp .lt off, 3)) (ht : (pc : Int) + off = (tgt : Int)) (hq : pc + 3 = q) (ha : a < 2 ^ 31) (hb : b < 2 ^ 31) (kt : a < b → V g μ θ h k n L tgt S) (kf : b ≤ a → V g μ θ h k n L q S) : V g μ θ h k n L pc (.int (nI b) :: .int (nI a) :: S) :=
  V_icmp_lt hd ht hq (fun z => kt ((nI_ltI ha hb).mp z)) (fun z => kf (Nat.le_of_not_lt (fun w => z ((nI_ltI ha hb).mpr w))))
theorem V_if_ltN {a : Nat} {off : Int} (hd : decode μ.2.1 pc = .ok (.ifCond .lt off, 3)) (ht : (pc : Int) + off = (tgt : Int)) (hq : pc + 3 = q) (ha : a < 2 ^ 31) (kf : True → V g μ θ h k n L q S) : V g μ θ h k n L pc (.int (nI a) :: S) :=
  V_if_lt hd ht hq (fun z => absurd z (nI_pos ha)) (fun _ => kf trivial)
theorem V_icmp_geN {a b : Nat} {off : Int} (hd : decode μ.2.1 pc = .ok (.if_icmp .ge off, 3)) (ht : (pc : Int) + off = (tgt : Int)) (hq : pc + 3 = q) (ha : a < 2 ^ 31) (hb : b < 2 ^ 31) (kt : b ≤ a → V g μ θ h k n L tgt S) (kf : a < b → V g μ θ h k n L q S) : V g μ θ h k n L pc (.int (nI b) :: .int (nI a) :: S) :=
  V_icmp_ge hd ht hq (fun z => kt ((nI_leI hb ha).mp z)) (fun z => kf (Nat.lt_of_not_le (fun w => z ((nI_leI hb ha).mpr w))))
theorem V_if_geN {a : Nat} {off : Int} (hd : decode μ.2.1 pc = .ok (.ifCond .ge off, 3)) (ht : (pc : Int) + off = (tgt : Int)) (hq : pc + 3 = q) (ha : a < 2 ^ 31) (kt : True → V g μ θ h k n L tgt S) : V g μ θ h k n L pc (.int (nI a) :: S) :=
  V_if_ge hd ht hq (fun _ => kt trivial) (fun z => absurd (nI_pos' ha) z)
theorem V_icmp_gtN {a b : Nat} {off : Int} (hd : decode μ.2.1 pc = .ok (.if_icmp .gt off, 3)) (ht : (pc : Int) + off = (tgt : Int)) (hq : pc + 3 = q) (ha : a < 2 ^ 31) (hb : b < 2 ^ 31) (kt : b < a → V g μ θ h k n L tgt S) (kf : a ≤ b → V g μ θ h k n L q S) : V g μ θ h k n L pc (.int (nI b) :: .int (nI a) :: S) :=
  V_icmp_gt hd ht hq (fun z => kt ((nI_ltI hb ha).mp z)) (fun z => kf (Nat.le_of_not_lt (fun w => z ((nI_ltI hb ha).mpr w))))
theorem V_if_gtN {a : Nat} {off : Int} (hd : decode μ.2.1 pc = .ok (.ifCond .gt off, 3)) (ht : (pc : Int) + off = (tgt : Int)) (hq : pc + 3 = q) (ha : a < 2 ^ 31) (kt : 0 < a → V g μ θ h k n L tgt S) (kf : a = 0 → V g μ θ h k n L q S) : V g μ θ h k n L pc (.int (nI a) :: S) :=
  V_if_gt hd ht hq (fun z => kt ((nI_ltI (by decide) ha).mp (show nI 0 < nI a from z))) (fun z => kf (Nat.eq_zero_of_not_pos (fun w => z (show nI 0 < nI a from (nI_ltI (by decide) ha).mpr w))))
theorem V_icmp_leN {a b : Nat} {off : Int} (hd : decode μ.2.1 pc = .ok (.if_icmp .le off, 3)) (ht : (pc : Int) + off = (tgt : Int)) (hq : pc + 3 = q) (ha : a < 2 ^ 31) (hb : b < 2 ^ 31) (kt : a ≤ b → V g μ θ h k n L tgt S) (kf : b < a → V g μ θ h k n L q S) : V g μ θ h k n L pc (.int (nI b) :: .int (nI a) :: S) :=
  V_icmp_le hd ht hq (fun z => kt ((nI_leI ha hb).mp z)) (fun z => kf (Nat.lt_of_not_le (fun w => z ((nI_leI ha hb).mpr w))))
theorem V_if_leN {a : Nat} {off : Int} (hd : decode μ.2.1 pc = .ok (.ifCond .le off, 3)) (ht : (pc : Int) + off = (tgt : Int)) (hq : pc + 3 = q) (ha : a < 2 ^ 31) (kt : a = 0 → V g μ θ h k n L tgt S) (kf : 0 < a → V g μ θ h k n L q S) : V g μ θ h k n L pc (.int (nI a) :: S) :=
  V_if_le hd ht hq (fun z => kt (Nat.le_zero.mp ((nI_leI ha (by decide)).mp (show nI a ≤ nI 0 from z)))) (fun z => kf (Nat.pos_of_ne_zero (fun w => z (by rw [w]; decide))))
theorem V_if_eqB {b : Bool} {off : Int} (hd : decode μ.2.1 pc = .ok (.ifCond .eq off, 3)) (ht : (pc : Int) + off = (tgt : Int)) (hq : pc + 3 = q) (kt : b = false → V g μ θ h k n L tgt S) (kf : b = true → V g μ θ h k n L q S) : V g μ θ h k n L pc (.int (bi b) :: S) :=
  V_if_eq hd ht hq (fun z => kt (bi_eq0.mp z)) (fun z => kf (bi_ne0.mp z))
theorem V_if_neB {b : Bool} {off : Int} (hd : decode μ.2.1 pc = .ok (.ifCond .ne off, 3)) (ht : (pc : Int) + off = (tgt : Int)) (hq : pc + 3 = q) (kt : b = true → V g μ θ h k n L tgt S) (kf : b = false → V g μ θ h k n L q S) : V g μ θ h k n L pc (.int (bi b) :: S) :=
  V_if_ne hd ht hq (fun z => kt (bi_ne0.mp z)) (fun z => kf (bi_eq0.mp z))
theorem bi_inj {a b : Bool} (z : bi a = bi b) : a = b := by cases a <;> cases b <;> first | rfl | exact absurd z (by decide)
theorem V_icmp_neB {a b : Bool} {off : Int} (hd : decode μ.2.1 pc = .ok (.if_icmp .ne off, 3)) (ht : (pc : Int) + off = (tgt : Int)) (hq : pc + 3 = q) (kt : ¬ a = b → V g μ θ h k n L tgt S) (kf : a = b → V g μ θ h k n L q S) : V g μ θ h k n L pc (.int (bi b) :: .int (bi a) :: S) :=
  V_icmp_ne hd ht hq (fun z => kt (fun w => z (by rw [w]))) (fun z => kf (bi_inj z))
/-- arithmetic of small numbers -/
theorem V_iaddN {a b : Nat} (hd : decode μ.2.1 pc = .ok (.iadd, 1)) (hq : pc + 1 = q) (kk : V g μ θ h k n L q (.int (nI (a + b)) :: S)) : V g μ θ h k n L pc (.int (nI b) :: .int (nI a) :: S) := V_iadd hd hq (by rw [nI_add]; exact kk)
theorem V_imulN {a b : Nat} (hd : decode μ.2.1 pc = .ok (.imul, 1)) (hq : pc + 1 = q) (kk : V g μ θ h k n L q (.int (nI (a * b)) :: S)) : V g μ θ h k n L pc (.int (nI b) :: .int (nI a) :: S) := V_imul hd hq (by rw [pk_mul]; exact kk)
theorem V_isubN {a b : Nat} (hd : decode μ.2.1 pc = .ok (.isub, 1)) (hq : pc + 1 = q) (hab : b ≤ a) (kk : V g μ θ h k n L q (.int (nI (a - b)) :: S)) : V g μ θ h k n L pc (.int (nI b) :: .int (nI a) :: S) := V_isub hd hq (by rw [pk_sub hab]; exact kk)
theorem V_iremN {a b : Nat} (hd : decode μ.2.1 pc = .ok (.irem, 1)) (hq : pc + 1 = q) (ha : a < 2 ^ 31) (h0 : 0 < b) (hb : b < 2 ^ 31) (kk : V g μ θ h k n L q (.int (nI (a % b)) :: S)) : V g μ θ h k n L pc (.int (nI b) :: .int (nI a) :: S) := V_irem hd hq (nI_ne0 h0 hb) (by rw [pk_rem ha h0 hb]; exact kk)
theorem V_iincN {j i : Nat} {a : Nat} (hd : decode μ.2.1 pc = .ok (.iinc i 1, 3)) (hq : pc + 3 = q) (hj : L[j]? = some (i, .int (nI a))) (hi : Nat.blt i μ.2.2.1 = true) (hL : (i, Value.int (nI (a + 1))) :: lfi i L = L') (kk : V g μ θ h k n L' q S) : V g μ θ h k n L pc S := V_iinc hd hq hj (by rw [nI_succ]; rfl) hi hL kk
/-- the top of the stack under another name -/
theorem V_rw {x y : Int32} (e : x = y) (kk : V g μ θ h k n L pc (.int y :: S)) : V g μ θ h k n L pc (.int x :: S) := by rw [e]; exact kk
theorem V_st {S' : List Value} (e : S = S') (kk : V g μ θ h k n L pc S') : V g μ θ h k n L pc S := by rw [e]; exact kk
theorem V_lc (e : L = L') (kk : V g μ θ h k n L' pc S) : V g μ θ h k n L pc S := by rw [e]; exact kk
theorem V_hp {h' : AH} (e : h = h') (kk : V g μ θ h' k n L pc S) : V g μ θ h k n L pc S := by rw [e]; exact kk
theorem V_sub (ks : List Nat) (hl : ks.filterMap (fun i => L[i]?) = L') (kk : V g μ θ h k n L' pc S) : V g μ θ h k n L pc S :=
  fun p e s m args below meth c H locs ls B R hS hl' => kk p e s m args below meth c H locs ls B R hS (by
    refine ⟨hl'.1, hl'.2.1, fun q hq => ?_⟩
    obtain ⟨w, hw, rfl⟩ := List.mem_map.mp hq
    rw [← hl] at hw
    obtain ⟨i, -, hi⟩ := List.mem_filterMap.mp hw
    exact hl'.2.2 _ (List.mem_map.mpr ⟨w, List.mem_of_getElem? hi, rfl⟩))
/-- longs -/
theorem V_i2l {x : Int32} (hd : decode μ.2.1 pc = .ok (.i2l, 1)) (hq : pc + 1 = q) (kk : V g μ θ h k n L q (.long x.toInt64 :: S)) : V g μ θ h k n L pc (.int x :: S) := by
  subst hq
  exact fun p e s m args below meth c H locs ls B R hS hl => lv_i2l B.1 B.2.1 hd rfl (kk p e s m args below meth c H locs ls B R hS hl)
theorem V_l2i {x : Int64} (hd : decode μ.2.1 pc = .ok (.l2i, 1)) (hq : pc + 1 = q) (kk : V g μ θ h k n L q (.int x.toInt32 :: S)) : V g μ θ h k n L pc (.long x :: S) := by
  subst hq
  exact fun p e s m args below meth c H locs ls B R hS hl => lv_l2i B.1 B.2.1 hd rfl (kk p e s m args below meth c H locs ls B R hS hl)
theorem V_lconst {c : Fin 2} {v : Int64} (hd : decode μ.2.1 pc = .ok (.lconst c, 1)) (hq : pc + 1 = q) (hv : Int64.ofNat (c : Nat) = v) (kk : V g μ θ h k n L q (.long v :: S)) : V g μ θ h k n L pc S := by
  subst hq
  exact fun p e s m args below meth c H locs ls B R hS hl => lv_lconst B.1 B.2.1 hd hv (kk p e s m args below meth c H locs ls B R hS hl)
theorem V_lshl {x : Int64} {y : Int32} (hd : decode μ.2.1 pc = .ok (.lshl, 1)) (hq : pc + 1 = q) (kk : V g μ θ h k n L q (.long (x <<< (y.toInt64 &&& 63)) :: S)) : V g μ θ h k n L pc (.int y :: .long x :: S) := by
  subst hq
  exact fun p e s m args below meth c H locs ls B R hS hl => lv_lshl B.1 B.2.1 hd rfl (kk p e s m args below meth c H locs ls B R hS hl)
theorem V_lor {x y : Int64} (hd : decode μ.2.1 pc = .ok (.lor, 1)) (hq : pc + 1 = q) (kk : V g μ θ h k n L q (.long (x ||| y) :: S)) : V g μ θ h k n L pc (.long y :: .long x :: S) := by
  subst hq
  exact fun p e s m args below meth c H locs ls B R hS hl => lv_lor B.1 B.2.1 hd (kk p e s m args below meth c H locs ls B R hS hl)
theorem V_ladd {x y : Int64} (hd : decode μ.2.1 pc = .ok (.ladd, 1)) (hq : pc + 1 = q) (kk : V g μ θ h k n L q (.long (x + y) :: S)) : V g μ θ h k n L pc (.long y :: .long x :: S) := by
  subst hq
  exact fun p e s m args below meth c H locs ls B R hS hl => lv_ladd B.1 B.2.1 hd (kk p e s m args below meth c H locs ls B R hS hl)
theorem V_lcmp {x y : Int64} (hd : decode μ.2.1 pc = .ok (.lcmp, 1)) (hq : pc + 1 = q) (kk : V g μ θ h k n L q (.int (lg_cmp x y) :: S)) : V g μ θ h k n L pc (.long y :: .long x :: S) := by
  subst hq
  exact fun p e s m args below meth c H locs ls B R hS hl => W.lcmp B.1 B.2.1 hd (kk p e s m args below meth c H locs ls B R hS hl)
/-- switches -/
theorem V_tableIn {dflt lo hi : Int} {offs : Array Int} {len : Nat} {x : Int32} {off : Int} (hd : decode μ.2.1 pc = .ok (.tableswitch dflt lo hi offs, len)) (h1 : ¬ x.toInt < lo) (h2 : ¬ hi < x.toInt) (ho : offs[(x.toInt - lo).toNat]? = some off) (ht : (pc : Int) + off = (tgt : Int)) (kk : V g μ θ h k n L tgt S) : V g μ θ h k n L pc (.int x :: S) :=
  fun p e s m args below meth c H locs ls B R hS hl => lv_tableIn B.1 B.2.1 hd h1 h2 ho ht (kk p e s m args below meth c H locs ls B R hS hl)
theorem V_tableOut {dflt lo hi : Int} {offs : Array Int} {len : Nat} {x : Int32} (hd : decode μ.2.1 pc = .ok (.tableswitch dflt lo hi offs, len)) (h1 : x.toInt < lo ∨ hi < x.toInt) (ht : (pc : Int) + dflt = (tgt : Int)) (kk : V g μ θ h k n L tgt S) : V g μ θ h k n L pc (.int x :: S) :=
  fun p e s m args below meth c H locs ls B R hS hl => lv_tableOut B.1 B.2.1 hd h1 ht (kk p e s m args below meth c H locs ls B R hS hl)
end ROWS
section RETS
variable {g : GX} {μ : MT} {d mc ms : Nat} {post : Option Value → AH → Prop} {h : AH} {k n : Nat} {L : List (Nat × Value)} {pc : Nat}
theorem V_iret {v : Int32} (hr : μ.2.2.2 = some .int) (hd : decode μ.2.1 pc = .ok (.ireturn, 1)) (hk : Nat.ble k mc = true) (hn : Nat.ble n ms = true) (hp : post (some (.int v)) h) : V g μ (thM g d mc ms post) h k n L pc [.int v] :=
  fun p e s m args below meth c H locs ls B R hS hl => W.widen (Nat.le_of_ble_eq_true hk) (Nat.le_of_ble_eq_true hn) (W.iret (v := v) B.1 B.2.1 (B.2.2.1.trans hr) (fun t ht hW => ⟨⟨_, h, rfl, hp, by rw [ht]; exact R⟩, hS.F ht⟩) hS.2.2 hd B.2.2.2.2.2.2.1)
theorem V_zret {b : Bool} (hr : μ.2.2.2 = some .boolean) (hd : decode μ.2.1 pc = .ok (.ireturn, 1)) (hk : Nat.ble k mc = true) (hn : Nat.ble n ms = true) (hp : post (some (.int (bi b))) h) : V g μ (thM g d mc ms post) h k n L pc [.int (bi b)] :=
  fun p e s m args below meth c H locs ls B R hS hl => W.widen (Nat.le_of_ble_eq_true hk) (Nat.le_of_ble_eq_true hn) (W.zret (v := bi b) B.1 B.2.1 (B.2.2.1.trans hr) (bi_nar b) (fun t ht hW => ⟨⟨_, h, rfl, hp, by rw [ht]; exact R⟩, hS.F ht⟩) hS.2.2 hd B.2.2.2.2.2.2.1)
theorem V_vret (hr : μ.2.2.2 = none) (hd : decode μ.2.1 pc = .ok (.return_, 1)) (hk : Nat.ble k mc = true) (hn : Nat.ble n ms = true) (hp : post none h) : V g μ (thM g d mc ms post) h k n L pc [] :=
  fun p e s m args below meth c H locs ls B R hS hl => W.widen (Nat.le_of_ble_eq_true hk) (Nat.le_of_ble_eq_true hn) (W.vret B.1 B.2.1 (B.2.2.1.trans hr) (fun t ht hW => ⟨⟨_, h, rfl, hp, by rw [ht]; exact R⟩, hS.F ht⟩) hS.2.2 hd B.2.2.2.2.2.2.1)
theorem V_aret {a : Nat} {C : String} (hr : μ.2.2.2 = some (.object C)) (hd : decode μ.2.1 pc = .ok (.areturn, 1)) (hk : Nat.ble k mc = true) (hn : Nat.ble n ms = true) (hp : post (some (.ref a)) h) : V g μ (thM g d mc ms post) h k n L pc [.ref a] :=
  fun p e s m args below meth c H locs ls B R hS hl => W.widen (Nat.le_of_ble_eq_true hk) (Nat.le_of_ble_eq_true hn) (W.aret (v := tv g (.ref a)) B.1 B.2.1 (B.2.2.1.trans hr) (Or.inl ⟨C, rfl⟩) (Or.inr ⟨_, rfl⟩) (fun t ht hW => ⟨⟨some (.ref a), h, rfl, hp, by rw [ht]; exact R⟩, hS.F ht⟩) hS.2.2 hd B.2.2.2.2.2.2.1)
end RETS

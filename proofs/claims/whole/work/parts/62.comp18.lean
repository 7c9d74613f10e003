set_option maxHeartbeats 4000000 in
set_option maxRecDepth 100000 in
theorem lq_clr3 {g : GX} {h : AH} (X : CS h.1 (hP h)) {tr : Bool} {r : Nat} (hr : r < 4) (kk : ∀ e, FRn h e → (∀ x, x < 8 → hI e 152 x = nI 0) → (∀ q, q < r + 1 → ∀ j, j < 16 → hI e (154 + q) j = nI 0) → V g mX6_clear (thM g 0 0 0 (fun ρ η => ρ = none ∧ FRn h η ∧ CR η tr 0 rs0)) e 0 0 [(0, .ref 151), (1, .int (bi tr)), (2, .int (nI r))] 51 []) : ∀ (t : Nat) (j : Nat) (e : AH), (j ≤ 16) → (FRn h e) → (∀ x, x < 8 → hI e 152 x = nI 0) → (∀ q, q < r → ∀ i, i < 16 → hI e (154 + q) i = nI 0) → (∀ i, i < j → hI e (154 + r) i = nI 0) → 16 - j < t → V g mX6_clear (thM g 0 0 0 (fun ρ η => ρ = none ∧ FRn h η ∧ CR η tr 0 rs0)) e 0 0 [(0, .ref 151), (1, .int (bi tr)), (2, .int (nI r)), (3, .int (nI j))] 30 [] := by
  intro t
  induction t with
  | zero =>
    intro j e hj F G Z Y hfu
    exact absurd hfu (Nat.not_lt_zero _)
  | succ t ih =>
    intro j e hj F G Z Y hfu
    have hC : CS e.1 (hP e) := by rw [F.1.1, F.1.2.2]; exact X
    refine V_iload_n (j := 3) (q := 31) dX6_clear_30 rfl rfl ?_
    refine V_bipush (q := 33) (v := nI 16) dX6_clear_31 rfl (by decide) ?_
    refine V_icmp_geN (tgt := 51) (q := 36) dX6_clear_33 rfl rfl (by omega) (by omega) (fun c1 => ?_) (fun c1 => ?_)
    · skip
      refine V_sub (L' := [(0, .ref 151), (1, .int (bi tr)), (2, .int (nI r))]) [0, 1, 2] rfl ?_
      refine kk e F G (fun q hq i hi => ?_)
      by_cases z : q = r
      · rw [z]; exact Y i (by omega)
      · exact Z q (by omega) i hi
    · skip
      refine V_aload_n (j := 0) (q := 37) dX6_clear_36 rfl rfl ?_
      refine V_getP (q := 40) (r := 153) fX6_17 (hC.1 151 _ s_151) rfl (hC.2.1 151 3 _ rfl) dX6_clear_37 rfl ?_
      refine V_iload_n (j := 2) (q := 41) dX6_clear_40 rfl rfl ?_
      refine V_aald (q := 42) (c := 15) (r := (154 + r)) (by decide) (hC.1 153 _ s_153) (by omega) (by decide) (hC.2.2.2.2.1 _ (by omega)) dX6_clear_41 rfl ?_
      refine V_iload_n (j := 3) (q := 43) dX6_clear_42 rfl rfl ?_
      refine V_iconst (q := 44) (v := nI 0) dX6_clear_43 rfl rfl ?_
      refine V_iast (q := 45) (hC.1 _ _ (s_brow _ (by omega))) (by omega) (by decide) dX6_clear_44 rfl ?_
      refine V_iincN (j := 3) (q := 48) (L' := [(3, .int (nI (j + 1))), (0, .ref 151), (1, .int (bi tr)), (2, .int (nI r))]) dX6_clear_45 rfl rfl rfl rfl ?_
      refine V_goto (q := 30) dX6_clear_48 rfl ?_
      refine V_sub (L' := [(0, .ref 151), (1, .int (bi tr)), (2, .int (nI r)), (3, .int (nI (j + 1)))]) [1, 2, 3, 0] rfl ?_
      refine ih (j + 1) (sI e (154 + r) j (nI 0)) ?_ ?_ ?_ ?_ ?_ ?_
      · omega
      · exact F.set (by omega)
      · intro x hx; rw [hI_n (by omega)]; exact G x hx
      · intro q hq i hi; rw [hI_n (by omega)]; exact Z q hq i hi
      · intro i hi; rw [hI_s]; by_cases z : i = j; (rw [if_pos ⟨rfl, z⟩]); (rw [if_neg (fun w => z w.2)]; exact Y i (by omega))
      · omega

set_option maxHeartbeats 4000000 in
set_option maxRecDepth 100000 in
theorem lq_clr2 {g : GX} {h : AH} (X : CS h.1 (hP h)) {tr : Bool} : ∀ (t : Nat) (r : Nat) (e : AH), (r ≤ 4) → (FRn h e) → (∀ x, x < 8 → hI e 152 x = nI 0) → (∀ q, q < r → ∀ i, i < 16 → hI e (154 + q) i = nI 0) → 4 - r < t → V g mX6_clear (thM g 0 0 0 (fun ρ η => ρ = none ∧ FRn h η ∧ CR η tr 0 rs0)) e 0 0 [(0, .ref 151), (1, .int (bi tr)), (2, .int (nI r))] 23 [] := by
  intro t
  induction t with
  | zero =>
    intro r e hr F G Z hfu
    exact absurd hfu (Nat.not_lt_zero _)
  | succ t ih =>
    intro r e hr F G Z hfu
    have hC : CS e.1 (hP e) := by rw [F.1.1, F.1.2.2]; exact X
    refine V_iload_n (j := 2) (q := 24) dX6_clear_23 rfl rfl ?_
    refine V_iconst (q := 25) (v := nI 4) dX6_clear_24 rfl rfl ?_
    refine V_icmp_geN (tgt := 57) (q := 28) dX6_clear_25 rfl rfl (by omega) (by omega) (fun c1 => ?_) (fun c1 => ?_)
    · skip
      refine V_aload_n (j := 0) (q := 58) dX6_clear_57 rfl rfl ?_
      refine V_iload_n (j := 1) (q := 59) dX6_clear_58 rfl rfl ?_
      refine V_putZ (b := tr) (q := 62) wX6_58 (hC.1 151 _ s_151) rfl dX6_clear_59 rfl ?_
      refine V_aload_n (j := 0) (q := 63) dX6_clear_62 rfl rfl ?_
      refine V_iconst (q := 64) (v := nI 0) dX6_clear_63 rfl rfl ?_
      refine V_putI (q := 67) wX6_55 (hC.1 151 _ s_151) rfl dX6_clear_64 rfl ?_
      refine V_aload_n (j := 0) (q := 68) dX6_clear_67 rfl rfl ?_
      refine V_iconst (q := 69) (v := nI 0) dX6_clear_68 rfl rfl ?_
      refine V_putI (q := 72) wX6_62 (hC.1 151 _ s_151) rfl dX6_clear_69 rfl ?_
      refine V_aload_n (j := 0) (q := 73) dX6_clear_72 rfl rfl ?_
      refine V_iconst (q := 74) (v := nI 0) dX6_clear_73 rfl rfl ?_
      refine V_putI (q := 77) wX6_65 (hC.1 151 _ s_151) rfl dX6_clear_74 rfl ?_
      refine V_aload_n (j := 0) (q := 78) dX6_clear_77 rfl rfl ?_
      refine V_bipush (q := 80) (v := (-9)) dX6_clear_78 rfl (by decide) ?_
      refine V_putI (q := 83) wX6_41 (hC.1 151 _ s_151) rfl dX6_clear_80 rfl ?_
      refine V_aload_n (j := 0) (q := 84) dX6_clear_83 rfl rfl ?_
      refine V_iconst (q := 85) (v := nI 0) dX6_clear_84 rfl rfl ?_
      refine V_putI (q := 88) wX6_44 (hC.1 151 _ s_151) rfl dX6_clear_85 rfl ?_
      refine V_vret rfl dX6_clear_88 rfl rfl ?_
      have hr4 : r = 4 := by omega
      subst hr4
      refine ⟨rfl, (((((F.set (by decide)).set (by decide)).set (by decide)).set (by decide)).set (by decide)).set (by decide), fun q hq i hi => ?_, fun x hx => ?_, fun x hx => absurd hx (Nat.not_lt_zero _), ?_, ?_, ?_, ?_, ?_, ?_⟩
      · rw [hI_n (by omega), hI_n (by omega), hI_n (by omega), hI_n (by omega), hI_n (by omega), hI_n (by omega)]; exact Z q hq i hi
      · rw [hI_n (by decide), hI_n (by decide), hI_n (by decide), hI_n (by decide), hI_n (by decide), hI_n (by decide)]; exact G x hx
      all_goals simp [hI_s, rs0]
      all_goals rfl
    · skip
      refine V_iconst (q := 29) (v := nI 0) dX6_clear_28 rfl rfl ?_
      refine V_istore_n (q := 30) (L' := [(3, .int (nI 0)), (0, .ref 151), (1, .int (bi tr)), (2, .int (nI r))]) dX6_clear_29 rfl rfl rfl ?_
      refine V_sub (L' := [(0, .ref 151), (1, .int (bi tr)), (2, .int (nI r)), (3, .int (nI 0))]) [1, 2, 3, 0] rfl ?_
      refine lq_clr3 X (r := r) (by omega) (fun e2 F2 G2 Z2 => ?_) 17 0 e (by decide) F G Z (fun i hi => absurd hi (Nat.not_lt_zero _)) (by decide)
      refine V_iincN (j := 2) (q := 54) (L' := [(2, .int (nI (r + 1))), (0, .ref 151), (1, .int (bi tr))]) dX6_clear_51 rfl rfl rfl rfl ?_
      refine V_goto (q := 23) dX6_clear_54 rfl ?_
      refine V_sub (L' := [(0, .ref 151), (1, .int (bi tr)), (2, .int (nI (r + 1)))]) [1, 2, 0] rfl ?_
      refine ih (r + 1) e2 ?_ ?_ ?_ ?_ ?_
      · omega
      · exact F2
      · exact G2
      · exact Z2
      · omega

set_option maxHeartbeats 4000000 in
set_option maxRecDepth 100000 in
theorem lq_clr1 {g : GX} {h : AH} (X : CS h.1 (hP h)) {tr : Bool} : ∀ (t : Nat) (r : Nat) (e : AH), (r ≤ 8) → (FRn h e) → (∀ x, x < r → hI e 152 x = nI 0) → 8 - r < t → V g mX6_clear (thM g 0 0 0 (fun ρ η => ρ = none ∧ FRn h η ∧ CR η tr 0 rs0)) e 0 0 [(0, .ref 151), (1, .int (bi tr)), (2, .int (nI r))] 2 [] := by
  intro t
  induction t with
  | zero =>
    intro r e hr F G hfu
    exact absurd hfu (Nat.not_lt_zero _)
  | succ t ih =>
    intro r e hr F G hfu
    have hC : CS e.1 (hP e) := by rw [F.1.1, F.1.2.2]; exact X
    refine V_iload_n (j := 2) (q := 3) dX6_clear_2 rfl rfl ?_
    refine V_bipush (q := 5) (v := nI 8) dX6_clear_3 rfl (by decide) ?_
    refine V_icmp_geN (tgt := 21) (q := 8) dX6_clear_5 rfl rfl (by omega) (by omega) (fun c1 => ?_) (fun c1 => ?_)
    · skip
      refine V_iconst (q := 22) (v := nI 0) dX6_clear_21 rfl rfl ?_
      refine V_istore_n (q := 23) (L' := [(2, .int (nI 0)), (0, .ref 151), (1, .int (bi tr))]) dX6_clear_22 rfl rfl rfl ?_
      refine V_sub (L' := [(0, .ref 151), (1, .int (bi tr)), (2, .int (nI 0))]) [1, 2, 0] rfl ?_
      exact lq_clr2 X 5 0 e (Nat.zero_le _) F (fun x hx => G x (by omega)) (fun q hq => absurd hq (Nat.not_lt_zero _)) (by decide)
    · skip
      refine V_aload_n (j := 0) (q := 9) dX6_clear_8 rfl rfl ?_
      refine V_getP (q := 12) (r := 152) fX6_9 (hC.1 151 _ s_151) rfl (hC.2.1 151 2 _ rfl) dX6_clear_9 rfl ?_
      refine V_iload_n (j := 2) (q := 13) dX6_clear_12 rfl rfl ?_
      refine V_iconst (q := 14) (v := nI 0) dX6_clear_13 rfl rfl ?_
      refine V_iast (q := 15) (hC.1 152 _ s_152) (by omega) (by decide) dX6_clear_14 rfl ?_
      refine V_iincN (j := 2) (q := 18) (L' := [(2, .int (nI (r + 1))), (0, .ref 151), (1, .int (bi tr))]) dX6_clear_15 rfl rfl rfl rfl ?_
      refine V_goto (q := 2) dX6_clear_18 rfl ?_
      refine V_sub (L' := [(0, .ref 151), (1, .int (bi tr)), (2, .int (nI (r + 1)))]) [1, 2, 0] rfl ?_
      refine ih (r + 1) (sI e 152 r (nI 0)) ?_ ?_ ?_ ?_
      · omega
      · exact F.set (by decide)
      · intro i hi; rw [hI_s]; by_cases z : i = r; (rw [if_pos ⟨rfl, z⟩]); (rw [if_neg (fun w => z w.2)]; exact G i (by omega))
      · omega

set_option maxHeartbeats 4000000 in
set_option maxRecDepth 100000 in
theorem d_rclear {g : GX} {h : AH} (X : CS h.1 (hP h)) {tr : Bool} : Ct g mX6_clear 0 0 0 [.ref 151, .int (bi tr)] h (fun ρ η => ρ = none ∧ FRn h η ∧ CR η tr 0 rs0) := by
  refine Ct_intro (by decide +kernel) (Nat.le_of_ble_eq_true rfl) ?_
  show V g mX6_clear _ h 0 0 [(0, .ref 151), (1, .int (bi tr))] 0 []
  refine V_iconst (q := 1) (v := nI 0) dX6_clear_0 rfl rfl ?_
  refine V_istore_n (q := 2) (L' := [(2, .int (nI 0)), (0, .ref 151), (1, .int (bi tr))]) dX6_clear_1 rfl rfl rfl ?_
  refine V_sub (L' := [(0, .ref 151), (1, .int (bi tr)), (2, .int (nI 0))]) [1, 2, 0] rfl ?_
  refine lq_clr1 X (8 - 0 + 1) 0 h ?_ ?_ ?_ ?_
  · omega
  · exact FRn.rf h
  · exact fun x hx => absurd hx (Nat.not_lt_zero _)
  · exact Nat.lt_succ_self _


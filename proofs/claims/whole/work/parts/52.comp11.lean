set_option maxHeartbeats 4000000 in
set_option maxRecDepth 100000 in
theorem lq_cpc {g : GX} {h : AH} {P : PG} {U : Nat → Nat} (X : CX h P U) (A : AC P h) {n : Nat} (hn : n < pNi P) (hk : pFd P n 0 = 3) : ∀ (t : Nat) (s : Nat) (c : Nat), (s ≤ 16) → (c = cnN (mn5 P n s) (pst P n)) → 16 - s < t → V g mX0_countPieces (thM g 1 0 0 (fun ρ η => ρ = some (.int (nI (pcs P n))) ∧ η = h)) h 0 0 [(0, .ref 9), (1, .int (nI n)), (2, .int (nI c)), (3, .int (nI s))] 4 [] := by
  intro t
  induction t with
  | zero =>
    intro s c hs hc hfu
    exact absurd hfu (Nat.not_lt_zero _)
  | succ t ih =>
    intro s c hs hc hfu
    have hN := X.2.2.2.2.1
    have hpl := pcx_le X.2.2 (s := s) hn
    refine V_iload_n (j := 3) (q := 5) dX0_countPieces_4 rfl rfl ?_
    refine V_bipush (q := 7) (v := nI 16) dX0_countPieces_5 rfl (by decide) ?_
    refine V_icmp_geN (tgt := 38) (q := 10) dX0_countPieces_7 rfl rfl (by omega) (by omega) (fun c1 => ?_) (fun c1 => ?_)
    · skip
      refine V_iload_n (j := 2) (q := 39) dX0_countPieces_38 rfl rfl ?_
      refine V_iret rfl dX0_countPieces_39 rfl rfl ?_
      exact ⟨pv (by obtain ⟨o1, o2, o3, o4, o5, o6, o7⟩ := ok_cp X.2.2 hn hk; rw [hc]; unfold pcs mn5; rw [show s = 16 by omega]; congr 2; split <;> omega), rfl⟩
    · skip
      refine V_iload_n (j := 2) (q := 11) dX0_countPieces_10 rfl rfl ?_
      refine V_aload_n (j := 0) (q := 12) dX0_countPieces_11 rfl rfl ?_
      refine V_getP (q := 15) (r := 34) fX0_24 (X.1.1 9 _ s_9) rfl (X.1.2.1 9 2 _ rfl) dX0_countPieces_12 rfl ?_
      refine V_iload_n (j := 1) (q := 16) dX0_countPieces_15 rfl rfl ?_
      refine V_aald (q := 17) (c := 15) (r := (35 + n)) (by decide) (X.1.1 34 _ s_34) (by omega) (by decide) (X.1.2.2.2.1 _ (by omega)) dX0_countPieces_16 rfl ?_
      refine V_iload_n (j := 3) (q := 18) dX0_countPieces_17 rfl rfl ?_
      refine V_iald (q := 19) (X.1.1 _ _ (s_row _ (by omega))) (by omega) (by decide) dX0_countPieces_18 rfl ?_
      refine V_rw (y := nI (pcx P n s)) (A.2 n hn s (by omega)) ?_
      refine V_if_leN (tgt := 26) (q := 22) dX0_countPieces_19 rfl rfl (by omega) (fun c2 => ?_) (fun c2 => ?_)
      · skip
        refine V_iconst (q := 27) (v := nI 0) dX0_countPieces_26 rfl rfl ?_
        refine V_cpSN (q := 30) (S := [.int (nI c)]) (v := .int (nI 0)) kX0_135 (d_oneIf (b := false)) rfl rfl rfl dX0_countPieces_27 rfl ?_
        refine V_iaddN (q := 31) dX0_countPieces_30 rfl ?_
        refine V_istore_n (q := 32) (L' := [(2, .int (nI (c + 0))), (0, .ref 9), (1, .int (nI n)), (3, .int (nI s))]) dX0_countPieces_31 rfl rfl rfl ?_
        refine V_iincN (j := 3) (q := 35) (L' := [(3, .int (nI (s + 1))), (2, .int (nI (c + 0))), (0, .ref 9), (1, .int (nI n))]) dX0_countPieces_32 rfl rfl rfl rfl ?_
        refine V_goto (q := 4) dX0_countPieces_35 rfl ?_
        refine V_sub (L' := [(0, .ref 9), (1, .int (nI n)), (2, .int (nI (c + 0))), (3, .int (nI (s + 1)))]) [2, 3, 1, 0] rfl ?_
        refine ih (s + 1) (c + 0) ?_ ?_ ?_
        · omega
        · rw [hc]; exact (pcs_0 hk c2).symm
        · omega
      · skip
        refine V_iconst (q := 23) (v := nI 1) dX0_countPieces_22 rfl rfl ?_
        refine V_goto (q := 27) dX0_countPieces_23 rfl ?_
        refine V_cpSN (q := 30) (S := [.int (nI c)]) (v := .int (nI 1)) kX0_135 (d_oneIf (b := true)) rfl rfl rfl dX0_countPieces_27 rfl ?_
        refine V_iaddN (q := 31) dX0_countPieces_30 rfl ?_
        refine V_istore_n (q := 32) (L' := [(2, .int (nI (c + 1))), (0, .ref 9), (1, .int (nI n)), (3, .int (nI s))]) dX0_countPieces_31 rfl rfl rfl ?_
        refine V_iincN (j := 3) (q := 35) (L' := [(3, .int (nI (s + 1))), (2, .int (nI (c + 1))), (0, .ref 9), (1, .int (nI n))]) dX0_countPieces_32 rfl rfl rfl rfl ?_
        refine V_goto (q := 4) dX0_countPieces_35 rfl ?_
        refine V_sub (L' := [(0, .ref 9), (1, .int (nI n)), (2, .int (nI (c + 1))), (3, .int (nI (s + 1)))]) [2, 3, 1, 0] rfl ?_
        refine ih (s + 1) (c + 1) ?_ ?_ ?_
        · omega
        · rw [hc]; exact (pcs_1 c2).symm
        · omega

set_option maxHeartbeats 4000000 in
set_option maxRecDepth 100000 in
theorem d_countPieces {g : GX} {h : AH} {P : PG} {U : Nat → Nat} (X : CX h P U) (A : AC P h) {n : Nat} (hn : n < pNi P) (hk : pFd P n 0 = 3) : Ct g mX0_countPieces 1 0 0 [.ref 9, .int (nI n)] h (fun ρ η => ρ = some (.int (nI (pcs P n))) ∧ η = h) := by
  refine Ct_intro (by decide +kernel) (Nat.le_of_ble_eq_true rfl) ?_
  show V g mX0_countPieces _ h 0 0 [(0, .ref 9), (1, .int (nI n))] 0 []
  refine V_iconst (q := 1) (v := nI 0) dX0_countPieces_0 rfl rfl ?_
  refine V_istore_n (q := 2) (L' := [(2, .int (nI 0)), (0, .ref 9), (1, .int (nI n))]) dX0_countPieces_1 rfl rfl rfl ?_
  refine V_iconst (q := 3) (v := nI 0) dX0_countPieces_2 rfl rfl ?_
  refine V_istore_n (q := 4) (L' := [(3, .int (nI 0)), (2, .int (nI 0)), (0, .ref 9), (1, .int (nI n))]) dX0_countPieces_3 rfl rfl rfl ?_
  refine V_sub (L' := [(0, .ref 9), (1, .int (nI n)), (2, .int (nI 0)), (3, .int (nI 0))]) [2, 3, 1, 0] rfl ?_
  refine lq_cpc X A hn hk (16 - 0 + 1) 0 0 ?_ ?_ ?_
  · omega
  · unfold mn5; rw [if_pos (by have := (ok_cp X.2.2 hn hk).2.2.1; omega)]; rfl
  · exact Nat.lt_succ_self _

set_option maxHeartbeats 4000000 in
set_option maxRecDepth 100000 in
theorem lq_lpc {g : GX} {h : AH} {P : PG} {U : Nat → Nat} (X : CX h P U) (A : AC P h) {n : Nat} (hn : n < pNi P) (hk : pFd P n 0 = 3) {y : Int32} : ∀ (t : Nat) (s : Nat) (c : Nat), (s ≤ 16) → (c ≤ s) → (0 ≤ y.toInt → (c : Int) ≤ y.toInt ∧ pth P n (pFd P n 5 - s) s (nt y - c) = pth P n (pFd P n 5) 0 (nt y)) → 16 - s < t → V g mX0_lengthOfPiece (thM g 0 0 0 (fun ρ η => ρ = some (.int (nI (lpc P n y))) ∧ η = h)) h 0 0 [(0, .ref 9), (1, .int (nI n)), (2, .int y), (3, .int (nI c)), (4, .int (nI s))] 5 [] := by
  intro t
  induction t with
  | zero =>
    intro s c hs hc hy hfu
    exact absurd hfu (Nat.not_lt_zero _)
  | succ t ih =>
    intro s c hs hc hy hfu
    have hN := X.2.2.2.2.1
    have hpl := pcx_le X.2.2 (s := s) hn
    refine V_iload (j := 4) (q := 7) dX0_lengthOfPiece_5 rfl rfl ?_
    refine V_bipush (q := 9) (v := nI 16) dX0_lengthOfPiece_7 rfl (by decide) ?_
    refine V_icmp_geN (tgt := 45) (q := 12) dX0_lengthOfPiece_9 rfl rfl (by omega) (by omega) (fun c1 => ?_) (fun c1 => ?_)
    · skip
      refine V_iconst (q := 46) (v := nI 0) dX0_lengthOfPiece_45 rfl rfl ?_
      refine V_iret rfl dX0_lengthOfPiece_46 rfl rfl ?_
      refine ⟨pv ?_, rfl⟩
      obtain ⟨o1, o2, o3, o4, o5, o6, o7⟩ := ok_cp X.2.2 hn hk
      unfold lpc
      by_cases z : 0 ≤ y.toInt
      · rw [if_pos z, ← (hy z).2, show pFd P n 5 - s = 0 by omega]; rfl
      · rw [if_neg z]
    · skip
      refine V_aload_n (j := 0) (q := 13) dX0_lengthOfPiece_12 rfl rfl ?_
      refine V_getP (q := 16) (r := 34) fX0_24 (X.1.1 9 _ s_9) rfl (X.1.2.1 9 2 _ rfl) dX0_lengthOfPiece_13 rfl ?_
      refine V_iload_n (j := 1) (q := 17) dX0_lengthOfPiece_16 rfl rfl ?_
      refine V_aald (q := 18) (c := 15) (r := (35 + n)) (by decide) (X.1.1 34 _ s_34) (by omega) (by decide) (X.1.2.2.2.1 _ (by omega)) dX0_lengthOfPiece_17 rfl ?_
      refine V_iload (j := 4) (q := 20) dX0_lengthOfPiece_18 rfl rfl ?_
      refine V_iald (q := 21) (X.1.1 _ _ (s_row _ (by omega))) (by omega) (by decide) dX0_lengthOfPiece_20 rfl ?_
      refine V_rw (y := nI (pcx P n s)) (A.2 n hn s (by omega)) ?_
      refine V_istore (q := 23) (L' := [(5, .int (nI (pcx P n s))), (0, .ref 9), (1, .int (nI n)), (2, .int y), (3, .int (nI c)), (4, .int (nI s))]) dX0_lengthOfPiece_21 rfl rfl rfl ?_
      refine V_iload (j := 0) (q := 25) dX0_lengthOfPiece_23 rfl rfl ?_
      refine V_if_leN (tgt := 39) (q := 28) dX0_lengthOfPiece_25 rfl rfl (by omega) (fun c2 => ?_) (fun c2 => ?_)
      · skip
        refine V_iincN (j := 5) (q := 42) (L' := [(4, .int (nI (s + 1))), (5, .int (nI (pcx P n s))), (0, .ref 9), (1, .int (nI n)), (2, .int y), (3, .int (nI c))]) dX0_lengthOfPiece_39 rfl rfl rfl rfl ?_
        refine V_goto (q := 5) dX0_lengthOfPiece_42 rfl ?_
        refine V_sub (L' := [(0, .ref 9), (1, .int (nI n)), (2, .int y), (3, .int (nI c)), (4, .int (nI (s + 1)))]) [2, 3, 4, 5, 0] rfl ?_
        refine ih (s + 1) c ?_ ?_ ?_ ?_
        · omega
        · omega
        · intro z; obtain ⟨y1, y2⟩ := hy z; exact ⟨y1, by rw [pth_n0 hk c2]; exact y2⟩
        · omega
      · skip
        refine V_iload_n (j := 4) (q := 29) dX0_lengthOfPiece_28 rfl rfl ?_
        refine V_iload_n (j := 3) (q := 30) dX0_lengthOfPiece_29 rfl rfl ?_
        refine V_icmp_ne (tgt := 36) (q := 33) dX0_lengthOfPiece_30 rfl rfl (fun c3 => ?_) (fun c3 => ?_)
        · skip
          refine V_iincN (j := 4) (q := 39) (L' := [(3, .int (nI (c + 1))), (5, .int (nI (pcx P n s))), (0, .ref 9), (1, .int (nI n)), (2, .int y), (4, .int (nI s))]) dX0_lengthOfPiece_36 rfl rfl rfl rfl ?_
          refine V_iincN (j := 5) (q := 42) (L' := [(4, .int (nI (s + 1))), (3, .int (nI (c + 1))), (5, .int (nI (pcx P n s))), (0, .ref 9), (1, .int (nI n)), (2, .int y)]) dX0_lengthOfPiece_39 rfl rfl rfl rfl ?_
          refine V_goto (q := 5) dX0_lengthOfPiece_42 rfl ?_
          refine V_sub (L' := [(0, .ref 9), (1, .int (nI n)), (2, .int y), (3, .int (nI (c + 1))), (4, .int (nI (s + 1)))]) [3, 4, 5, 1, 0] rfl ?_
          refine ih (s + 1) (c + 1) ?_ ?_ ?_ ?_
          · omega
          · omega
          · intro z; obtain ⟨y1, y2⟩ := hy z; have hc9 := i_n (n := c) (by omega); have hyn : (nt y : Int) = y.toInt := Int.toNat_of_nonneg z; have hne : ¬ (c : Int) = y.toInt := fun w => c3 (i_eq.mpr (by rw [hc9]; exact w)); rw [pth_n1 c2, if_neg (by omega)] at y2; exact ⟨by omega, by rw [Nat.sub_add_eq]; exact y2⟩
          · omega
        · skip
          refine V_iload (j := 0) (q := 35) dX0_lengthOfPiece_33 rfl rfl ?_
          refine V_iret rfl dX0_lengthOfPiece_35 rfl rfl ?_
          have hc9 := i_n (n := c) (by omega)
          have ey : (c : Int) = y.toInt := by rw [← hc9]; exact i_eq.mp c3
          have z : 0 ≤ y.toInt := by omega
          obtain ⟨y1, y2⟩ := hy z
          have hyn : (nt y : Int) = y.toInt := Int.toNat_of_nonneg z
          rw [pth_n1 c2, if_pos (by omega)] at y2
          exact ⟨pv (by unfold lpc; rw [if_pos z, ← y2]), rfl⟩

set_option maxHeartbeats 4000000 in
set_option maxRecDepth 100000 in
theorem d_lengthOfPiece {g : GX} {h : AH} {P : PG} {U : Nat → Nat} (X : CX h P U) (A : AC P h) {n : Nat} (hn : n < pNi P) (hk : pFd P n 0 = 3) {y : Int32} : Ct g mX0_lengthOfPiece 0 0 0 [.ref 9, .int (nI n), .int y] h (fun ρ η => ρ = some (.int (nI (lpc P n y))) ∧ η = h) := by
  refine Ct_intro (by decide +kernel) (Nat.le_of_ble_eq_true rfl) ?_
  show V g mX0_lengthOfPiece _ h 0 0 [(0, .ref 9), (1, .int (nI n)), (2, .int y)] 0 []
  refine V_iconst (q := 1) (v := nI 0) dX0_lengthOfPiece_0 rfl rfl ?_
  refine V_istore_n (q := 2) (L' := [(3, .int (nI 0)), (0, .ref 9), (1, .int (nI n)), (2, .int y)]) dX0_lengthOfPiece_1 rfl rfl rfl ?_
  refine V_iconst (q := 3) (v := nI 0) dX0_lengthOfPiece_2 rfl rfl ?_
  refine V_istore (q := 5) (L' := [(4, .int (nI 0)), (3, .int (nI 0)), (0, .ref 9), (1, .int (nI n)), (2, .int y)]) dX0_lengthOfPiece_3 rfl rfl rfl ?_
  refine V_sub (L' := [(0, .ref 9), (1, .int (nI n)), (2, .int y), (3, .int (nI 0)), (4, .int (nI 0))]) [2, 3, 4, 1, 0] rfl ?_
  refine lq_lpc X A hn hk (16 - 0 + 1) 0 0 ?_ ?_ ?_ ?_
  · omega
  · omega
  · intro z; exact ⟨z, rfl⟩
  · exact Nat.lt_succ_self _


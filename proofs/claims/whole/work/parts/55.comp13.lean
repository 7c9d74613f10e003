set_option maxHeartbeats 4000000 in
set_option maxRecDepth 100000 in
theorem lq_move {g : GX} {h : AH} {P : PG} {U : Nat → Nat} (X : CX h P U) {n : Nat} (hn : n < pNi P) (hk : pFd P n 0 = 3) {s l : Nat} (hs : s + l ≤ pFd P n 5) {φ : Nat → Int32} (B : BY h φ) : ∀ (t : Nat) (j : Nat) (e : AH), (s ≤ j ∧ j ≤ s + l) → (FBy h e) → (BY e (cpB (16 * pFd P n 1 + pFd P n 2 + s) (16 * pFd P n 3 + pFd P n 4 + s) (j - s) φ)) → s + l - j < t → V g mX6_moveBytes (thM g 0 0 0 (fun ρ η => ρ = none ∧ FBy h η ∧ BY η (cpB (16 * pFd P n 1 + pFd P n 2 + s) (16 * pFd P n 3 + pFd P n 4 + s) l φ))) e 0 0 [(0, .ref 151), (1, .ref (U n)), (2, .int (nI s)), (3, .int (nI l)), (4, .int (nI j))] 3 [] := by
  intro t
  induction t with
  | zero =>
    intro j e hj F Be hfu
    exact absurd hfu (Nat.not_lt_zero _)
  | succ t ih =>
    intro j e hj F Be hfu
    have hN := X.2.2.2.2.1
    have hR := X.2.2.1
    have hk8 := ok_kd X.2.2 hn
    have N := (X.2.1.2.2.2.1 n (by omega)).2
    rw [xfd_lt hn] at N
    obtain ⟨o1, o2, o3, o4, o5, o6, o7⟩ := ok_cp X.2.2 hn hk
    have hr1 : pFd P n 1 < 4 := by omega
    have hr2 : pFd P n 3 < 4 := by omega
    have ez := szx_lt o1
    have ez2 := szx_lt o2
    have hC := F.cs X.1
    have N1 := F.in N
    refine V_iload (j := 4) (q := 5) dX6_moveBytes_3 rfl rfl ?_
    refine V_iload_n (j := 2) (q := 6) dX6_moveBytes_5 rfl rfl ?_
    refine V_iload_n (j := 3) (q := 7) dX6_moveBytes_6 rfl rfl ?_
    refine V_iaddN (q := 8) dX6_moveBytes_7 rfl ?_
    refine V_icmp_geN (tgt := 51) (q := 11) dX6_moveBytes_8 rfl rfl (by omega) (by omega) (fun c1 => ?_) (fun c1 => ?_)
    · skip
      refine V_vret rfl dX6_moveBytes_51 rfl rfl ?_
      have : j - s = l := by omega
      rw [this] at Be
      exact ⟨rfl, F, Be⟩
    · skip
      refine V_aload_n (j := 0) (q := 12) dX6_moveBytes_11 rfl rfl ?_
      refine V_getP (q := 15) (r := 153) fX6_17 (hC.1 151 _ s_151) rfl (hC.2.1 151 3 _ rfl) dX6_moveBytes_12 rfl ?_
      refine V_aload_n (j := 1) (q := 16) dX6_moveBytes_15 rfl rfl ?_
      refine V_getI (q := 19) fX6_92 N1.2.1 rfl dX6_moveBytes_16 rfl ?_
      refine V_rw (y := nI (pFd P n 1)) ((N1.2.2 2 (by decide)).trans (congrArg nI ((if_cp hk).1))) ?_
      refine V_aald (q := 20) (c := 15) (r := (154 + (pFd P n 1))) (by decide) (hC.1 153 _ s_153) (by omega) (by decide) (hC.2.2.2.2.1 _ (by omega)) dX6_moveBytes_19 rfl ?_
      refine V_aload_n (j := 1) (q := 21) dX6_moveBytes_20 rfl rfl ?_
      refine V_getI (q := 24) fX6_123 N1.2.1 rfl dX6_moveBytes_21 rfl ?_
      refine V_rw (y := nI (pFd P n 2)) ((N1.2.2 3 (by decide)).trans (congrArg nI ((if_cp hk).2.1))) ?_
      refine V_iload (j := 4) (q := 26) dX6_moveBytes_24 rfl rfl ?_
      refine V_iaddN (q := 27) dX6_moveBytes_26 rfl ?_
      refine V_aload_n (j := 0) (q := 28) dX6_moveBytes_27 rfl rfl ?_
      refine V_getP (q := 31) (r := 153) fX6_17 (hC.1 151 _ s_151) rfl (hC.2.1 151 3 _ rfl) dX6_moveBytes_28 rfl ?_
      refine V_aload_n (j := 1) (q := 32) dX6_moveBytes_31 rfl rfl ?_
      refine V_getI (q := 35) fX6_144 N1.2.1 rfl dX6_moveBytes_32 rfl ?_
      refine V_rw (y := nI (pFd P n 3)) ((N1.2.2 5 (by decide)).trans (congrArg nI ((if_cp hk).2.2.2.1))) ?_
      refine V_aald (q := 36) (c := 15) (r := (154 + (pFd P n 3))) (by decide) (hC.1 153 _ s_153) (by omega) (by decide) (hC.2.2.2.2.1 _ (by omega)) dX6_moveBytes_35 rfl ?_
      refine V_aload_n (j := 1) (q := 37) dX6_moveBytes_36 rfl rfl ?_
      refine V_getI (q := 40) fX6_147 N1.2.1 rfl dX6_moveBytes_37 rfl ?_
      refine V_rw (y := nI (pFd P n 4)) ((N1.2.2 6 (by decide)).trans (congrArg nI ((if_cp hk).2.2.2.2))) ?_
      refine V_iload (j := 4) (q := 42) dX6_moveBytes_40 rfl rfl ?_
      refine V_iaddN (q := 43) dX6_moveBytes_42 rfl ?_
      refine V_iald (q := 44) (hC.1 _ _ (s_brow _ (by omega))) (by omega) (by decide) dX6_moveBytes_43 rfl ?_
      refine V_iast (q := 45) (hC.1 _ _ (s_brow _ (by omega))) (by omega) (by decide) dX6_moveBytes_44 rfl ?_
      refine V_iincN (j := 4) (q := 48) (L' := [(4, .int (nI (j + 1))), (0, .ref 151), (1, .ref (U n)), (2, .int (nI s)), (3, .int (nI l))]) dX6_moveBytes_45 rfl rfl rfl rfl ?_
      refine V_goto (q := 3) dX6_moveBytes_48 rfl ?_
      refine V_sub (L' := [(0, .ref 151), (1, .ref (U n)), (2, .int (nI s)), (3, .int (nI l)), (4, .int (nI (j + 1)))]) [1, 2, 3, 4, 0] rfl ?_
      refine ih (j + 1) (sI e (154 + (pFd P n 1)) (pFd P n 2 + j) (hI e (154 + (pFd P n 3)) (pFd P n 4 + j))) ?_ ?_ ?_ ?_
      · omega
      · exact F.set hr1
      · have e1 : j + 1 - s = (j - s) + 1 := by omega
        rw [e1]
        show BY _ (upd _ _ _)
        have e2 : 16 * pFd P n 1 + pFd P n 2 + s + (j - s) = 16 * pFd P n 1 + (pFd P n 2 + j) := by omega
        have e3 : 16 * pFd P n 3 + pFd P n 4 + s + (j - s) = 16 * pFd P n 3 + (pFd P n 4 + j) := by omega
        rw [e2, e3, ← Be _ hr2 _ (by omega)]
        exact BY_set Be hr1 (by omega)
      · omega

set_option maxHeartbeats 4000000 in
set_option maxRecDepth 100000 in
theorem d_moveBytes {g : GX} {h : AH} {P : PG} {U : Nat → Nat} (X : CX h P U) {n : Nat} (hn : n < pNi P) (hk : pFd P n 0 = 3) {s l : Nat} (hs : s + l ≤ pFd P n 5) {φ : Nat → Int32} (B : BY h φ) : Ct g mX6_moveBytes 0 0 0 [.ref 151, .ref (U n), .int (nI s), .int (nI l)] h (fun ρ η => ρ = none ∧ FBy h η ∧ BY η (cpB (16 * pFd P n 1 + pFd P n 2 + s) (16 * pFd P n 3 + pFd P n 4 + s) l φ)) := by
  refine Ct_intro (by decide +kernel) (Nat.le_of_ble_eq_true rfl) ?_
  show V g mX6_moveBytes _ h 0 0 [(0, .ref 151), (1, .ref (U n)), (2, .int (nI s)), (3, .int (nI l))] 0 []
  refine V_iload_n (j := 2) (q := 1) dX6_moveBytes_0 rfl rfl ?_
  refine V_istore (q := 3) (L' := [(4, .int (nI s)), (0, .ref 151), (1, .ref (U n)), (2, .int (nI s)), (3, .int (nI l))]) dX6_moveBytes_1 rfl rfl rfl ?_
  refine V_sub (L' := [(0, .ref 151), (1, .ref (U n)), (2, .int (nI s)), (3, .int (nI l)), (4, .int (nI s))]) [1, 2, 3, 4, 0] rfl ?_
  refine lq_move X hn hk hs B (s + l - s + 1) s h ?_ ?_ ?_ ?_
  · omega
  · exact FBy.rf h
  · rw [Nat.sub_self]; exact B
  · exact Nat.lt_succ_self _

set_option maxHeartbeats 4000000 in
set_option maxRecDepth 100000 in
theorem d_priceOfAccess {g : GX} {h : AH} (X : CS h.1 (hP h)) {b : Nat} (hs : h.1[b]? = some (4, 4)) {tr f : Bool} (ht : hI h 151 5 = bi tr) (hf : hI h b 2 = bi f) : Ct g mX6_priceOfAccess 0 0 0 [.ref 151, .ref b] h (fun ρ η => ρ = some (.int (nI (if tr = true ∧ f = true then 0 else 1))) ∧ η = h) := by
  refine Ct_intro (by decide +kernel) (Nat.le_of_ble_eq_true rfl) ?_
  show V g mX6_priceOfAccess _ h 0 0 [(0, .ref 151), (1, .ref b)] 0 []
  refine V_aload_n (j := 0) (q := 1) dX6_priceOfAccess_0 rfl rfl ?_
  refine V_getI (q := 4) fX6_58 (X.1 151 _ s_151) rfl dX6_priceOfAccess_1 rfl ?_
  refine V_rw (y := bi tr) ht ?_
  refine V_if_eqB (tgt := 18) (q := 7) dX6_priceOfAccess_4 rfl rfl (fun c1 => ?_) (fun c1 => ?_)
  · skip
    refine V_iconst (q := 19) (v := nI 1) dX6_priceOfAccess_18 rfl rfl ?_
    refine V_iret rfl dX6_priceOfAccess_19 rfl rfl ?_
    exact ⟨pv (by simp [c1]), rfl⟩
  · skip
    refine V_aload_n (j := 1) (q := 8) dX6_priceOfAccess_7 rfl rfl ?_
    refine V_getI (q := 11) fX6_130 hs rfl dX6_priceOfAccess_8 rfl ?_
    refine V_rw (y := bi f) hf ?_
    refine V_if_eqB (tgt := 18) (q := 14) dX6_priceOfAccess_11 rfl rfl (fun c2 => ?_) (fun c2 => ?_)
    · skip
      refine V_iconst (q := 19) (v := nI 1) dX6_priceOfAccess_18 rfl rfl ?_
      refine V_iret rfl dX6_priceOfAccess_19 rfl rfl ?_
      exact ⟨pv (by simp [c1, c2]), rfl⟩
    · skip
      refine V_iconst (q := 15) (v := nI 0) dX6_priceOfAccess_14 rfl rfl ?_
      refine V_goto (q := 19) dX6_priceOfAccess_15 rfl ?_
      refine V_iret rfl dX6_priceOfAccess_19 rfl rfl ?_
      exact ⟨pv (by simp [c1, c2]), rfl⟩

set_option maxHeartbeats 4000000 in
set_option maxRecDepth 100000 in
theorem d_priceOfPiece {g : GX} {h : AH} {b b2 : Nat} (hs : h.1[b]? = some (4, 4)) (hs2 : h.1[b2]? = some (4, 4)) {f f2 : Bool} (hf : hI h b 2 = bi f) (hf2 : hI h b2 2 = bi f2) {l : Nat} : Ct g mX6_priceOfPiece 0 0 0 [.ref b, .ref b2, .int (nI l)] h (fun ρ η => ρ = some (.int (nI (if f = true ∧ f2 = true then 0 else if f = true ∨ f2 = true then 1 else l))) ∧ η = h) := by
  refine Ct_intro (by decide +kernel) (Nat.le_of_ble_eq_true rfl) ?_
  show V g mX6_priceOfPiece _ h 0 0 [(0, .ref b), (1, .ref b2), (2, .int (nI l))] 0 []
  refine V_aload_n (j := 0) (q := 1) dX6_priceOfPiece_0 rfl rfl ?_
  refine V_getI (q := 4) fX6_130 hs rfl dX6_priceOfPiece_1 rfl ?_
  refine V_rw (y := bi f) hf ?_
  refine V_if_eqB (tgt := 16) (q := 7) dX6_priceOfPiece_4 rfl rfl (fun c1 => ?_) (fun c1 => ?_)
  · skip
    refine V_aload_n (j := 0) (q := 17) dX6_priceOfPiece_16 rfl rfl ?_
    refine V_getI (q := 20) fX6_130 hs rfl dX6_priceOfPiece_17 rfl ?_
    refine V_rw (y := bi f) hf ?_
    refine V_if_neB (tgt := 30) (q := 23) dX6_priceOfPiece_20 rfl rfl (fun z => absurd (z.symm.trans c1) (by decide)) (fun _ => ?_)
    refine V_aload_n (j := 1) (q := 24) dX6_priceOfPiece_23 rfl rfl ?_
    refine V_getI (q := 27) fX6_130 hs2 rfl dX6_priceOfPiece_24 rfl ?_
    refine V_rw (y := bi f2) hf2 ?_
    refine V_if_eqB (tgt := 34) (q := 30) dX6_priceOfPiece_27 rfl rfl (fun c3 => ?_) (fun c3 => ?_)
    · skip
      refine V_iload_n (j := 2) (q := 35) dX6_priceOfPiece_34 rfl rfl ?_
      refine V_iret rfl dX6_priceOfPiece_35 rfl rfl ?_
      exact ⟨pv (by simp [c1, c3]), rfl⟩
    · skip
      refine V_iconst (q := 31) (v := nI 1) dX6_priceOfPiece_30 rfl rfl ?_
      refine V_goto (q := 35) dX6_priceOfPiece_31 rfl ?_
      refine V_iret rfl dX6_priceOfPiece_35 rfl rfl ?_
      exact ⟨pv (by simp [c1, c3]), rfl⟩
  · skip
    refine V_aload_n (j := 1) (q := 8) dX6_priceOfPiece_7 rfl rfl ?_
    refine V_getI (q := 11) fX6_130 hs2 rfl dX6_priceOfPiece_8 rfl ?_
    refine V_rw (y := bi f2) hf2 ?_
    refine V_if_eqB (tgt := 16) (q := 14) dX6_priceOfPiece_11 rfl rfl (fun c4 => ?_) (fun c4 => ?_)
    · skip
      refine V_aload_n (j := 0) (q := 17) dX6_priceOfPiece_16 rfl rfl ?_
      refine V_getI (q := 20) fX6_130 hs rfl dX6_priceOfPiece_17 rfl ?_
      refine V_rw (y := bi f) hf ?_
      refine V_if_neB (tgt := 30) (q := 23) dX6_priceOfPiece_20 rfl rfl (fun _ => ?_) (fun z => absurd (z.symm.trans c1) (by decide))
      refine V_iconst (q := 31) (v := nI 1) dX6_priceOfPiece_30 rfl rfl ?_
      refine V_goto (q := 35) dX6_priceOfPiece_31 rfl ?_
      refine V_iret rfl dX6_priceOfPiece_35 rfl rfl ?_
      exact ⟨pv (by simp [c1, c4]), rfl⟩
    · skip
      refine V_iconst (q := 15) (v := nI 0) dX6_priceOfPiece_14 rfl rfl ?_
      refine V_iret rfl dX6_priceOfPiece_15 rfl rfl ?_
      exact ⟨pv (by simp [c1, c4]), rfl⟩


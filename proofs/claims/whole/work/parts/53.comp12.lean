theorem AC_r {P : PG} {h : AH} (ok : OkP P) (A : AC P h) {r : Nat} (hr : r < pNr P) : hI h (59 + 23 * r) 6 = nI (pSz P r) ∧ hI h (59 + 23 * r) 8 = bi (esc P r) ∧ hI h (59 + 23 * r) 7 = nI (npt P r) ∧ npt P r ≤ 16 ∧ pSz P r ≤ 16 ∧ ∀ p, p < npt P r → PT h (59 + 23 * r + 7 + p) (bgp P r p) (lnp P r p) (prm P (16 * r + p)) (liv P (16 * r + p)) := by
  have h4 := ok.1
  have h16 := (ok.2.1 r hr).2
  have hn := npt_le P r
  obtain ⟨l1, l2, l3, l4, l5⟩ := A.1 r (by omega)
  rw [szx_lt hr] at l1 l3 l4
  exact ⟨l1, l2, l3, by omega, h16, l4⟩
set_option maxHeartbeats 4000000 in
set_option maxRecDepth 100000 in
theorem lq_countPadding {g : GX} {h : AH} {P : PG} {U : Nat → Nat} (X : CX h P U) (A : AC P h) {r : Nat} (hr : r < pNr P) : ∀ (t : Nat) (p : Nat) (c : Nat), (p ≤ npt P r) → (c + smN p (lnp P r) = pSz P r) → npt P r - p < t → V g mX3_countPadding (thM g 0 0 0 (fun ρ η => ρ = some (.int (nI (pad P r))) ∧ η = h)) h 0 0 [(0, .ref (59 + 23 * r)), (1, .int (nI c)), (2, .int (nI p))] 7 [] := by
  intro t
  induction t with
  | zero =>
    intro p c hp hc hfu
    exact absurd hfu (Nat.not_lt_zero _)
  | succ t ih =>
    intro p c hp hc hfu
    have hR := X.2.2.1
    have B := AC_r X.2.2 A hr
    have B4 := B.2.2.2.1
    have B5 := B.2.2.2.2.1
    have hpd := pad_ln P r
    have hsm := smN_mono (lnp P r) (n := p + 1) (m := if p < npt P r then npt P r else p + 1) (by split <;> omega)
    have hs1 := smN_s p (lnp P r)
    have hge : p < npt P r → lnp P r p ≤ c := by
      intro z
      rw [if_pos z] at hsm
      omega
    refine V_iload_n (j := 2) (q := 8) dX3_countPadding_7 rfl rfl ?_
    refine V_aload_n (j := 0) (q := 9) dX3_countPadding_8 rfl rfl ?_
    refine V_getI (q := 12) fX3_46 ((X.1.2.2.2.2.2.2 r (by omega)).1 0 _ rfl) rfl dX3_countPadding_9 rfl ?_
    refine V_rw (y := nI (npt P r)) B.2.2.1 ?_
    refine V_icmp_geN (tgt := 33) (q := 15) dX3_countPadding_12 rfl rfl (by omega) (by omega) (fun c1 => ?_) (fun c1 => ?_)
    · skip
      refine V_iload_n (j := 1) (q := 34) dX3_countPadding_33 rfl rfl ?_
      refine V_iret rfl dX3_countPadding_34 rfl rfl ?_
      have hpp : p = npt P r := by omega
      subst hpp
      exact ⟨pv (congrArg nI (by omega)), rfl⟩
    · skip
      refine V_iload_n (j := 1) (q := 16) dX3_countPadding_15 rfl rfl ?_
      refine V_aload_n (j := 0) (q := 17) dX3_countPadding_16 rfl rfl ?_
      refine V_getP (q := 20) (r := (59 + 23 * r + 1)) fX3_11 ((X.1.2.2.2.2.2.2 r (by omega)).1 0 _ rfl) rfl ((X.1.2.2.2.2.2.2 r (by omega)).2.1 0 _ rfl) dX3_countPadding_17 rfl ?_
      refine V_iload_n (j := 2) (q := 21) dX3_countPadding_20 rfl rfl ?_
      refine V_aald (q := 22) (c := 13) (r := (59 + 23 * r + 7 + p)) (by decide) ((X.1.2.2.2.2.2.2 r (by omega)).1 1 _ rfl) (by omega) (by decide) ((X.1.2.2.2.2.2.2 r (by omega)).2.2 _ (by omega)) dX3_countPadding_21 rfl ?_
      refine V_getI (q := 25) fX3_78 (LA_pt (X.1.2.2.2.2.2.2 r (by omega)) (by omega)) rfl dX3_countPadding_22 rfl ?_
      refine V_rw (y := nI (lnp P r p)) ((B.2.2.2.2.2 p (by omega)).2.1) ?_
      refine V_isubN (q := 26) dX3_countPadding_25 rfl (by omega) ?_
      refine V_istore_n (q := 27) (L' := [(1, .int (nI (c - (lnp P r p)))), (0, .ref (59 + 23 * r)), (2, .int (nI p))]) dX3_countPadding_26 rfl rfl rfl ?_
      refine V_iincN (j := 2) (q := 30) (L' := [(2, .int (nI (p + 1))), (1, .int (nI (c - (lnp P r p)))), (0, .ref (59 + 23 * r))]) dX3_countPadding_27 rfl rfl rfl rfl ?_
      refine V_goto (q := 7) dX3_countPadding_30 rfl ?_
      refine V_sub (L' := [(0, .ref (59 + 23 * r)), (1, .int (nI (c - (lnp P r p)))), (2, .int (nI (p + 1)))]) [2, 1, 0] rfl ?_
      refine ih (p + 1) (c - (lnp P r p)) ?_ ?_ ?_
      · omega
      · rw [smN_s]; omega
      · omega

set_option maxHeartbeats 4000000 in
set_option maxRecDepth 100000 in
theorem d_countPadding {g : GX} {h : AH} {P : PG} {U : Nat → Nat} (X : CX h P U) (A : AC P h) {r : Nat} (hr : r < pNr P) : Ct g mX3_countPadding 0 0 0 [.ref (59 + 23 * r)] h (fun ρ η => ρ = some (.int (nI (pad P r))) ∧ η = h) := by
  refine Ct_intro (by decide +kernel) (Nat.le_of_ble_eq_true rfl) ?_
  show V g mX3_countPadding _ h 0 0 [(0, .ref (59 + 23 * r))] 0 []
  have hR := X.2.2.1
  have B := AC_r X.2.2 A hr
  have B4 := B.2.2.2.1
  have B5 := B.2.2.2.2.1
  refine V_aload_n (j := 0) (q := 1) dX3_countPadding_0 rfl rfl ?_
  refine V_getI (q := 4) fX3_42 ((X.1.2.2.2.2.2.2 r (by omega)).1 0 _ rfl) rfl dX3_countPadding_1 rfl ?_
  refine V_rw (y := nI (pSz P r)) B.1 ?_
  refine V_istore_n (q := 5) (L' := [(1, .int (nI (pSz P r))), (0, .ref (59 + 23 * r))]) dX3_countPadding_4 rfl rfl rfl ?_
  refine V_iconst (q := 6) (v := nI 0) dX3_countPadding_5 rfl rfl ?_
  refine V_istore_n (q := 7) (L' := [(2, .int (nI 0)), (1, .int (nI (pSz P r))), (0, .ref (59 + 23 * r))]) dX3_countPadding_6 rfl rfl rfl ?_
  refine V_sub (L' := [(0, .ref (59 + 23 * r)), (1, .int (nI (pSz P r))), (2, .int (nI 0))]) [2, 1, 0] rfl ?_
  refine lq_countPadding X A hr (npt P r - 0 + 1) 0 (pSz P r) ?_ ?_ ?_
  · omega
  · exact Nat.add_zero _
  · exact Nat.lt_succ_self _

set_option maxHeartbeats 4000000 in
set_option maxRecDepth 100000 in
theorem lq_countScalars {g : GX} {h : AH} {P : PG} {U : Nat → Nat} (X : CX h P U) (A : AC P h) {r : Nat} (hr : r < pNr P) : ∀ (t : Nat) (p : Nat) (c : Nat), (p ≤ npt P r) → (c = cnN p (fun p => liv P (16 * r + p) && prm P (16 * r + p))) → npt P r - p < t → V g mX3_countScalars (thM g 1 0 0 (fun ρ η => ρ = some (.int (nI (cnN (npt P r) (fun p => liv P (16 * r + p) && prm P (16 * r + p))))) ∧ η = h)) h 0 0 [(0, .ref (59 + 23 * r)), (1, .int (nI c)), (2, .int (nI p))] 4 [] := by
  intro t
  induction t with
  | zero =>
    intro p c hp hc hfu
    exact absurd hfu (Nat.not_lt_zero _)
  | succ t ih =>
    intro p c hp hc hfu
    have hR := X.2.2.1
    have B := AC_r X.2.2 A hr
    have B4 := B.2.2.2.1
    have B5 := B.2.2.2.2.1
    have hcl := cnN_le (fun p => liv P (16 * r + p) && prm P (16 * r + p)) p
    refine V_iload_n (j := 2) (q := 5) dX3_countScalars_4 rfl rfl ?_
    refine V_aload_n (j := 0) (q := 6) dX3_countScalars_5 rfl rfl ?_
    refine V_getI (q := 9) fX3_46 ((X.1.2.2.2.2.2.2 r (by omega)).1 0 _ rfl) rfl dX3_countScalars_6 rfl ?_
    refine V_rw (y := nI (npt P r)) B.2.2.1 ?_
    refine V_icmp_geN (tgt := 53) (q := 12) dX3_countScalars_9 rfl rfl (by omega) (by omega) (fun c1 => ?_) (fun c1 => ?_)
    · skip
      refine V_iload_n (j := 1) (q := 54) dX3_countScalars_53 rfl rfl ?_
      refine V_iret rfl dX3_countScalars_54 rfl rfl ?_
      exact ⟨pv (by rw [hc, show p = npt P r by omega]), rfl⟩
    · skip
      refine V_iload_n (j := 1) (q := 13) dX3_countScalars_12 rfl rfl ?_
      refine V_aload_n (j := 0) (q := 14) dX3_countScalars_13 rfl rfl ?_
      refine V_getP (q := 17) (r := (59 + 23 * r + 1)) fX3_11 ((X.1.2.2.2.2.2.2 r (by omega)).1 0 _ rfl) rfl ((X.1.2.2.2.2.2.2 r (by omega)).2.1 0 _ rfl) dX3_countScalars_14 rfl ?_
      refine V_iload_n (j := 2) (q := 18) dX3_countScalars_17 rfl rfl ?_
      refine V_aald (q := 19) (c := 13) (r := (59 + 23 * r + 7 + p)) (by decide) ((X.1.2.2.2.2.2.2 r (by omega)).1 1 _ rfl) (by omega) (by decide) ((X.1.2.2.2.2.2.2 r (by omega)).2.2 _ (by omega)) dX3_countScalars_18 rfl ?_
      refine V_getI (q := 22) fX3_84 (LA_pt (X.1.2.2.2.2.2.2 r (by omega)) (by omega)) rfl dX3_countScalars_19 rfl ?_
      refine V_rw (y := bi (liv P (16 * r + p))) ((B.2.2.2.2.2 p (by omega)).2.2.2) ?_
      refine V_if_eqB (tgt := 41) (q := 25) dX3_countScalars_22 rfl rfl (fun c2 => ?_) (fun c2 => ?_)
      · skip
        refine V_iconst (q := 42) (v := nI 0) dX3_countScalars_41 rfl rfl ?_
        refine V_cpSN (q := 45) (S := [.int (nI c)]) (v := .int (nI 0)) kX3_90 (d_oneIf (b := false)) rfl rfl rfl dX3_countScalars_42 rfl ?_
        refine V_iaddN (q := 46) dX3_countScalars_45 rfl ?_
        refine V_istore_n (q := 47) (L' := [(1, .int (nI (c + 0))), (0, .ref (59 + 23 * r)), (2, .int (nI p))]) dX3_countScalars_46 rfl rfl rfl ?_
        refine V_iincN (j := 2) (q := 50) (L' := [(2, .int (nI (p + 1))), (1, .int (nI (c + 0))), (0, .ref (59 + 23 * r))]) dX3_countScalars_47 rfl rfl rfl rfl ?_
        refine V_goto (q := 4) dX3_countScalars_50 rfl ?_
        refine V_sub (L' := [(0, .ref (59 + 23 * r)), (1, .int (nI (c + 0))), (2, .int (nI (p + 1)))]) [2, 1, 0] rfl ?_
        refine ih (p + 1) (c + 0) ?_ ?_ ?_
        · omega
        · rw [cnN_s, if_neg (by simp [c2])]; exact hc
        · omega
      · skip
        refine V_aload_n (j := 0) (q := 26) dX3_countScalars_25 rfl rfl ?_
        refine V_getP (q := 29) (r := (59 + 23 * r + 1)) fX3_11 ((X.1.2.2.2.2.2.2 r (by omega)).1 0 _ rfl) rfl ((X.1.2.2.2.2.2.2 r (by omega)).2.1 0 _ rfl) dX3_countScalars_26 rfl ?_
        refine V_iload_n (j := 2) (q := 30) dX3_countScalars_29 rfl rfl ?_
        refine V_aald (q := 31) (c := 13) (r := (59 + 23 * r + 7 + p)) (by decide) ((X.1.2.2.2.2.2.2 r (by omega)).1 1 _ rfl) (by omega) (by decide) ((X.1.2.2.2.2.2.2 r (by omega)).2.2 _ (by omega)) dX3_countScalars_30 rfl ?_
        refine V_getI (q := 34) fX3_87 (LA_pt (X.1.2.2.2.2.2.2 r (by omega)) (by omega)) rfl dX3_countScalars_31 rfl ?_
        refine V_rw (y := bi (prm P (16 * r + p))) ((B.2.2.2.2.2 p (by omega)).2.2.1) ?_
        refine V_if_eqB (tgt := 41) (q := 37) dX3_countScalars_34 rfl rfl (fun c3 => ?_) (fun c3 => ?_)
        · skip
          refine V_iconst (q := 42) (v := nI 0) dX3_countScalars_41 rfl rfl ?_
          refine V_cpSN (q := 45) (S := [.int (nI c)]) (v := .int (nI 0)) kX3_90 (d_oneIf (b := false)) rfl rfl rfl dX3_countScalars_42 rfl ?_
          refine V_iaddN (q := 46) dX3_countScalars_45 rfl ?_
          refine V_istore_n (q := 47) (L' := [(1, .int (nI (c + 0))), (0, .ref (59 + 23 * r)), (2, .int (nI p))]) dX3_countScalars_46 rfl rfl rfl ?_
          refine V_iincN (j := 2) (q := 50) (L' := [(2, .int (nI (p + 1))), (1, .int (nI (c + 0))), (0, .ref (59 + 23 * r))]) dX3_countScalars_47 rfl rfl rfl rfl ?_
          refine V_goto (q := 4) dX3_countScalars_50 rfl ?_
          refine V_sub (L' := [(0, .ref (59 + 23 * r)), (1, .int (nI (c + 0))), (2, .int (nI (p + 1)))]) [2, 1, 0] rfl ?_
          refine ih (p + 1) (c + 0) ?_ ?_ ?_
          · omega
          · rw [cnN_s, if_neg (by simp [c3])]; exact hc
          · omega
        · skip
          refine V_iconst (q := 38) (v := nI 1) dX3_countScalars_37 rfl rfl ?_
          refine V_goto (q := 42) dX3_countScalars_38 rfl ?_
          refine V_cpSN (q := 45) (S := [.int (nI c)]) (v := .int (nI 1)) kX3_90 (d_oneIf (b := true)) rfl rfl rfl dX3_countScalars_42 rfl ?_
          refine V_iaddN (q := 46) dX3_countScalars_45 rfl ?_
          refine V_istore_n (q := 47) (L' := [(1, .int (nI (c + 1))), (0, .ref (59 + 23 * r)), (2, .int (nI p))]) dX3_countScalars_46 rfl rfl rfl ?_
          refine V_iincN (j := 2) (q := 50) (L' := [(2, .int (nI (p + 1))), (1, .int (nI (c + 1))), (0, .ref (59 + 23 * r))]) dX3_countScalars_47 rfl rfl rfl rfl ?_
          refine V_goto (q := 4) dX3_countScalars_50 rfl ?_
          refine V_sub (L' := [(0, .ref (59 + 23 * r)), (1, .int (nI (c + 1))), (2, .int (nI (p + 1)))]) [2, 1, 0] rfl ?_
          refine ih (p + 1) (c + 1) ?_ ?_ ?_
          · omega
          · rw [cnN_s, if_pos (by simp [c2, c3]), ← hc]
          · omega

set_option maxHeartbeats 4000000 in
set_option maxRecDepth 100000 in
theorem d_countScalars {g : GX} {h : AH} {P : PG} {U : Nat → Nat} (X : CX h P U) (A : AC P h) {r : Nat} (hr : r < pNr P) : Ct g mX3_countScalars 1 0 0 [.ref (59 + 23 * r)] h (fun ρ η => ρ = some (.int (nI (cnN (npt P r) (fun p => liv P (16 * r + p) && prm P (16 * r + p))))) ∧ η = h) := by
  refine Ct_intro (by decide +kernel) (Nat.le_of_ble_eq_true rfl) ?_
  show V g mX3_countScalars _ h 0 0 [(0, .ref (59 + 23 * r))] 0 []
  have hR := X.2.2.1
  have B := AC_r X.2.2 A hr
  have B4 := B.2.2.2.1
  have B5 := B.2.2.2.2.1
  refine V_iconst (q := 1) (v := nI 0) dX3_countScalars_0 rfl rfl ?_
  refine V_istore_n (q := 2) (L' := [(1, .int (nI 0)), (0, .ref (59 + 23 * r))]) dX3_countScalars_1 rfl rfl rfl ?_
  refine V_iconst (q := 3) (v := nI 0) dX3_countScalars_2 rfl rfl ?_
  refine V_istore_n (q := 4) (L' := [(2, .int (nI 0)), (1, .int (nI 0)), (0, .ref (59 + 23 * r))]) dX3_countScalars_3 rfl rfl rfl ?_
  refine V_sub (L' := [(0, .ref (59 + 23 * r)), (1, .int (nI 0)), (2, .int (nI 0))]) [2, 1, 0] rfl ?_
  refine lq_countScalars X A hr (npt P r - 0 + 1) 0 0 ?_ ?_ ?_
  · omega
  · rfl
  · exact Nat.lt_succ_self _

set_option maxHeartbeats 4000000 in
set_option maxRecDepth 100000 in
theorem lq_countLiveBytes {g : GX} {h : AH} {P : PG} {U : Nat → Nat} (X : CX h P U) (A : AC P h) {r : Nat} (hr : r < pNr P) : ∀ (t : Nat) (p : Nat) (c : Nat), (p ≤ npt P r) → (c = smN p (fun p => if liv P (16 * r + p) = true then lnp P r p else 0)) → npt P r - p < t → V g mX3_countLiveBytes (thM g 0 0 0 (fun ρ η => ρ = some (.int (nI (smN (npt P r) (fun p => if liv P (16 * r + p) = true then lnp P r p else 0)))) ∧ η = h)) h 0 0 [(0, .ref (59 + 23 * r)), (1, .int (nI c)), (2, .int (nI p))] 4 [] := by
  intro t
  induction t with
  | zero =>
    intro p c hp hc hfu
    exact absurd hfu (Nat.not_lt_zero _)
  | succ t ih =>
    intro p c hp hc hfu
    have hR := X.2.2.1
    have B := AC_r X.2.2 A hr
    have B4 := B.2.2.2.1
    have B5 := B.2.2.2.2.1
    have hll := lnp_le P r p
    refine V_iload_n (j := 2) (q := 5) dX3_countLiveBytes_4 rfl rfl ?_
    refine V_aload_n (j := 0) (q := 6) dX3_countLiveBytes_5 rfl rfl ?_
    refine V_getI (q := 9) fX3_46 ((X.1.2.2.2.2.2.2 r (by omega)).1 0 _ rfl) rfl dX3_countLiveBytes_6 rfl ?_
    refine V_rw (y := nI (npt P r)) B.2.2.1 ?_
    refine V_icmp_geN (tgt := 46) (q := 12) dX3_countLiveBytes_9 rfl rfl (by omega) (by omega) (fun c1 => ?_) (fun c1 => ?_)
    · skip
      refine V_iload_n (j := 1) (q := 47) dX3_countLiveBytes_46 rfl rfl ?_
      refine V_iret rfl dX3_countLiveBytes_47 rfl rfl ?_
      exact ⟨pv (by rw [hc, show p = npt P r by omega]), rfl⟩
    · skip
      refine V_iload_n (j := 1) (q := 13) dX3_countLiveBytes_12 rfl rfl ?_
      refine V_aload_n (j := 0) (q := 14) dX3_countLiveBytes_13 rfl rfl ?_
      refine V_getP (q := 17) (r := (59 + 23 * r + 1)) fX3_11 ((X.1.2.2.2.2.2.2 r (by omega)).1 0 _ rfl) rfl ((X.1.2.2.2.2.2.2 r (by omega)).2.1 0 _ rfl) dX3_countLiveBytes_14 rfl ?_
      refine V_iload_n (j := 2) (q := 18) dX3_countLiveBytes_17 rfl rfl ?_
      refine V_aald (q := 19) (c := 13) (r := (59 + 23 * r + 7 + p)) (by decide) ((X.1.2.2.2.2.2.2 r (by omega)).1 1 _ rfl) (by omega) (by decide) ((X.1.2.2.2.2.2.2 r (by omega)).2.2 _ (by omega)) dX3_countLiveBytes_18 rfl ?_
      refine V_getI (q := 22) fX3_84 (LA_pt (X.1.2.2.2.2.2.2 r (by omega)) (by omega)) rfl dX3_countLiveBytes_19 rfl ?_
      refine V_rw (y := bi (liv P (16 * r + p))) ((B.2.2.2.2.2 p (by omega)).2.2.2) ?_
      refine V_if_eqB (tgt := 37) (q := 25) dX3_countLiveBytes_22 rfl rfl (fun c2 => ?_) (fun c2 => ?_)
      · skip
        refine V_iconst (q := 38) (v := nI 0) dX3_countLiveBytes_37 rfl rfl ?_
        refine V_iaddN (q := 39) dX3_countLiveBytes_38 rfl ?_
        refine V_istore_n (q := 40) (L' := [(1, .int (nI (c + 0))), (0, .ref (59 + 23 * r)), (2, .int (nI p))]) dX3_countLiveBytes_39 rfl rfl rfl ?_
        refine V_iincN (j := 2) (q := 43) (L' := [(2, .int (nI (p + 1))), (1, .int (nI (c + 0))), (0, .ref (59 + 23 * r))]) dX3_countLiveBytes_40 rfl rfl rfl rfl ?_
        refine V_goto (q := 4) dX3_countLiveBytes_43 rfl ?_
        refine V_sub (L' := [(0, .ref (59 + 23 * r)), (1, .int (nI (c + 0))), (2, .int (nI (p + 1)))]) [2, 1, 0] rfl ?_
        refine ih (p + 1) (c + 0) ?_ ?_ ?_
        · omega
        · rw [smN_s, if_neg (by simp [c2]), ← hc]
        · omega
      · skip
        refine V_aload_n (j := 0) (q := 26) dX3_countLiveBytes_25 rfl rfl ?_
        refine V_getP (q := 29) (r := (59 + 23 * r + 1)) fX3_11 ((X.1.2.2.2.2.2.2 r (by omega)).1 0 _ rfl) rfl ((X.1.2.2.2.2.2.2 r (by omega)).2.1 0 _ rfl) dX3_countLiveBytes_26 rfl ?_
        refine V_iload_n (j := 2) (q := 30) dX3_countLiveBytes_29 rfl rfl ?_
        refine V_aald (q := 31) (c := 13) (r := (59 + 23 * r + 7 + p)) (by decide) ((X.1.2.2.2.2.2.2 r (by omega)).1 1 _ rfl) (by omega) (by decide) ((X.1.2.2.2.2.2.2 r (by omega)).2.2 _ (by omega)) dX3_countLiveBytes_30 rfl ?_
        refine V_getI (q := 34) fX3_78 (LA_pt (X.1.2.2.2.2.2.2 r (by omega)) (by omega)) rfl dX3_countLiveBytes_31 rfl ?_
        refine V_rw (y := nI (lnp P r p)) ((B.2.2.2.2.2 p (by omega)).2.1) ?_
        refine V_goto (q := 38) dX3_countLiveBytes_34 rfl ?_
        refine V_iaddN (q := 39) dX3_countLiveBytes_38 rfl ?_
        refine V_istore_n (q := 40) (L' := [(1, .int (nI (c + (lnp P r p)))), (0, .ref (59 + 23 * r)), (2, .int (nI p))]) dX3_countLiveBytes_39 rfl rfl rfl ?_
        refine V_iincN (j := 2) (q := 43) (L' := [(2, .int (nI (p + 1))), (1, .int (nI (c + (lnp P r p)))), (0, .ref (59 + 23 * r))]) dX3_countLiveBytes_40 rfl rfl rfl rfl ?_
        refine V_goto (q := 4) dX3_countLiveBytes_43 rfl ?_
        refine V_sub (L' := [(0, .ref (59 + 23 * r)), (1, .int (nI (c + (lnp P r p)))), (2, .int (nI (p + 1)))]) [2, 1, 0] rfl ?_
        refine ih (p + 1) (c + (lnp P r p)) ?_ ?_ ?_
        · omega
        · rw [smN_s, if_pos c2, ← hc]
        · omega

set_option maxHeartbeats 4000000 in
set_option maxRecDepth 100000 in
theorem d_countLiveBytes {g : GX} {h : AH} {P : PG} {U : Nat → Nat} (X : CX h P U) (A : AC P h) {r : Nat} (hr : r < pNr P) : Ct g mX3_countLiveBytes 0 0 0 [.ref (59 + 23 * r)] h (fun ρ η => ρ = some (.int (nI (smN (npt P r) (fun p => if liv P (16 * r + p) = true then lnp P r p else 0)))) ∧ η = h) := by
  refine Ct_intro (by decide +kernel) (Nat.le_of_ble_eq_true rfl) ?_
  show V g mX3_countLiveBytes _ h 0 0 [(0, .ref (59 + 23 * r))] 0 []
  have hR := X.2.2.1
  have B := AC_r X.2.2 A hr
  have B4 := B.2.2.2.1
  have B5 := B.2.2.2.2.1
  refine V_iconst (q := 1) (v := nI 0) dX3_countLiveBytes_0 rfl rfl ?_
  refine V_istore_n (q := 2) (L' := [(1, .int (nI 0)), (0, .ref (59 + 23 * r))]) dX3_countLiveBytes_1 rfl rfl rfl ?_
  refine V_iconst (q := 3) (v := nI 0) dX3_countLiveBytes_2 rfl rfl ?_
  refine V_istore_n (q := 4) (L' := [(2, .int (nI 0)), (1, .int (nI 0)), (0, .ref (59 + 23 * r))]) dX3_countLiveBytes_3 rfl rfl rfl ?_
  refine V_sub (L' := [(0, .ref (59 + 23 * r)), (1, .int (nI 0)), (2, .int (nI 0))]) [2, 1, 0] rfl ?_
  refine lq_countLiveBytes X A hr (npt P r - 0 + 1) 0 0 ?_ ?_ ?_
  · omega
  · rfl
  · exact Nat.lt_succ_self _


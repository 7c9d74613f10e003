set_option maxHeartbeats 4000000 in
set_option maxRecDepth 100000 in
theorem lp_pieceAt {g : GX} {h : AH} {m : Nat} {P : PG} (W : RF h m P) (A : PA h m P (pNr P)) {i k : Nat} (hi : i < pNi P) (hc : pFd P i 0 = 3) (hk : k < pFd P i 5) : ∀ (t : Nat) (n : Nat), (1 ≤ n ∧ k + n ≤ pFd P i 5) → (plF P i k (pFd P i 5 - (k + n)) n = pln P i k) → pFd P i 5 - (k + n) < t → V g mX8_pieceAt (thM g 2 0 0 (fun ρ η => ρ = some (.int (nI (pln P i k))) ∧ η = h)) h 0 0 [(0, .ref m), (1, .int (nI i)), (2, .int (nI k)), (3, .int (nI n))] 2 [] := by
  intro t
  induction t with
  | zero =>
    intro n h1 hn hfu
    exact absurd hfu (Nat.not_lt_zero _)
  | succ t ih =>
    intro n h1 hn hfu
    have hN := W.2.2.2.2.1
    have hR := W.2.2.1
    have hcp := ok_cp W.2.2 hi hc
    refine V_iload_n (j := 2) (q := 3) dX8_pieceAt_2 rfl rfl ?_
    refine V_iload_n (j := 3) (q := 4) dX8_pieceAt_3 rfl rfl ?_
    refine V_iaddN (q := 5) dX8_pieceAt_4 rfl ?_
    refine V_aload_n (j := 0) (q := 6) dX8_pieceAt_5 rfl rfl ?_
    refine V_iload_n (j := 1) (q := 7) dX8_pieceAt_6 rfl rfl ?_
    refine V_iconst (q := 8) (v := nI 5) dX8_pieceAt_7 rfl rfl ?_
    refine V_cpV (q := 11) (S := [.int (nI (k + n))]) (v := .int (nI (pFd P i 5))) kX8_72 (c_of (i := i) W (by omega) (by omega)) (W.1.1 0 _ rfl) rfl rfl rfl dX8_pieceAt_8 rfl ?_
    refine V_icmp_geN (tgt := 66) (q := 14) dX8_pieceAt_11 rfl rfl (by omega) (by omega) (fun c1 => ?_) (fun c1 => ?_)
    · skip
      refine V_iload_n (j := 3) (q := 67) dX8_pieceAt_66 rfl rfl ?_
      refine V_iret rfl dX8_pieceAt_67 rfl rfl ?_
      exact ⟨pv (by rw [← hn, show pFd P i 5 - (k + n) = 0 by omega]; rfl), rfl⟩
    · skip
      refine V_aload_n (j := 0) (q := 15) dX8_pieceAt_14 rfl rfl ?_
      refine V_aload_n (j := 0) (q := 16) dX8_pieceAt_15 rfl rfl ?_
      refine V_iload_n (j := 1) (q := 17) dX8_pieceAt_16 rfl rfl ?_
      refine V_iconst (q := 18) (v := nI 1) dX8_pieceAt_17 rfl rfl ?_
      refine V_cpV (q := 21) (S := [.ref m]) (v := .int (nI (pFd P i 1))) kX8_72 (c_of (i := i) W (by omega) (by omega)) (W.1.1 0 _ rfl) rfl rfl rfl dX8_pieceAt_18 rfl ?_
      refine V_aload_n (j := 0) (q := 22) dX8_pieceAt_21 rfl rfl ?_
      refine V_iload_n (j := 1) (q := 23) dX8_pieceAt_22 rfl rfl ?_
      refine V_iconst (q := 24) (v := nI 2) dX8_pieceAt_23 rfl rfl ?_
      refine V_cpV (q := 27) (S := [.int (nI (pFd P i 1)), .ref m]) (v := .int (nI (pFd P i 2))) kX8_72 (c_of (i := i) W (by omega) (by omega)) (W.1.1 0 _ rfl) rfl rfl rfl dX8_pieceAt_24 rfl ?_
      refine V_iload_n (j := 2) (q := 28) dX8_pieceAt_27 rfl rfl ?_
      refine V_iaddN (q := 29) dX8_pieceAt_28 rfl ?_
      refine V_iload_n (j := 3) (q := 30) dX8_pieceAt_29 rfl rfl ?_
      refine V_iaddN (q := 31) dX8_pieceAt_30 rfl ?_
      refine V_cpV (q := 34) (S := []) (v := .int (bi (bgn P (pFd P i 1) (pFd P i 2 + k + n)))) kX8_113 (c_beginsAt (r := pFd P i 1) (k := pFd P i 2 + k + n) W A (by omega) (by omega) (ptd_d hi hc (j := k + n) (by omega) (by omega))) (W.1.1 0 _ rfl) rfl rfl rfl dX8_pieceAt_31 rfl ?_
      refine V_if_neB (tgt := 66) (q := 37) dX8_pieceAt_34 rfl rfl (fun c2 => ?_) (fun c2 => ?_)
      · skip
        refine V_iload_n (j := 3) (q := 67) dX8_pieceAt_66 rfl rfl ?_
        refine V_iret rfl dX8_pieceAt_67 rfl rfl ?_
        exact ⟨pv (by rw [← hn, show pFd P i 5 - (k + n) = pFd P i 5 - (k + n) - 1 + 1 by omega, plF, if_pos (by simp [pcut, ← Nat.add_assoc, c1, c2])]), rfl⟩
      · skip
        refine V_aload_n (j := 0) (q := 38) dX8_pieceAt_37 rfl rfl ?_
        refine V_aload_n (j := 0) (q := 39) dX8_pieceAt_38 rfl rfl ?_
        refine V_iload_n (j := 1) (q := 40) dX8_pieceAt_39 rfl rfl ?_
        refine V_iconst (q := 41) (v := nI 3) dX8_pieceAt_40 rfl rfl ?_
        refine V_cpV (q := 44) (S := [.ref m]) (v := .int (nI (pFd P i 3))) kX8_72 (c_of (i := i) W (by omega) (by omega)) (W.1.1 0 _ rfl) rfl rfl rfl dX8_pieceAt_41 rfl ?_
        refine V_aload_n (j := 0) (q := 45) dX8_pieceAt_44 rfl rfl ?_
        refine V_iload_n (j := 1) (q := 46) dX8_pieceAt_45 rfl rfl ?_
        refine V_iconst (q := 47) (v := nI 4) dX8_pieceAt_46 rfl rfl ?_
        refine V_cpV (q := 50) (S := [.int (nI (pFd P i 3)), .ref m]) (v := .int (nI (pFd P i 4))) kX8_72 (c_of (i := i) W (by omega) (by omega)) (W.1.1 0 _ rfl) rfl rfl rfl dX8_pieceAt_47 rfl ?_
        refine V_iload_n (j := 2) (q := 51) dX8_pieceAt_50 rfl rfl ?_
        refine V_iaddN (q := 52) dX8_pieceAt_51 rfl ?_
        refine V_iload_n (j := 3) (q := 53) dX8_pieceAt_52 rfl rfl ?_
        refine V_iaddN (q := 54) dX8_pieceAt_53 rfl ?_
        refine V_cpV (q := 57) (S := []) (v := .int (bi (bgn P (pFd P i 3) (pFd P i 4 + k + n)))) kX8_113 (c_beginsAt (r := pFd P i 3) (k := pFd P i 4 + k + n) W A (by omega) (by omega) (ptd_s hi hc (j := k + n) (by omega) (by omega))) (W.1.1 0 _ rfl) rfl rfl rfl dX8_pieceAt_54 rfl ?_
        refine V_if_neB (tgt := 66) (q := 60) dX8_pieceAt_57 rfl rfl (fun c3 => ?_) (fun c3 => ?_)
        · skip
          refine V_iload_n (j := 3) (q := 67) dX8_pieceAt_66 rfl rfl ?_
          refine V_iret rfl dX8_pieceAt_67 rfl rfl ?_
          exact ⟨pv (by rw [← hn, show pFd P i 5 - (k + n) = pFd P i 5 - (k + n) - 1 + 1 by omega, plF, if_pos (by simp [pcut, ← Nat.add_assoc, c1, c2, c3])]), rfl⟩
        · skip
          refine V_iincN (j := 3) (q := 63) (L' := [(3, .int (nI (n + 1))), (0, .ref m), (1, .int (nI i)), (2, .int (nI k))]) dX8_pieceAt_60 rfl rfl rfl rfl ?_
          refine V_goto (q := 2) dX8_pieceAt_63 rfl ?_
          refine V_sub (L' := [(0, .ref m), (1, .int (nI i)), (2, .int (nI k)), (3, .int (nI (n + 1)))]) [1, 2, 3, 0] rfl ?_
          refine ih (n + 1) ?_ ?_ ?_
          · omega
          · rw [← hn, show pFd P i 5 - (k + n) = pFd P i 5 - (k + (n + 1)) + 1 by omega, plF, if_neg (by simp [pcut, ← Nat.add_assoc, c1, c2, c3])]
          · omega

set_option maxHeartbeats 4000000 in
set_option maxRecDepth 100000 in
theorem c_pieceAt {g : GX} {h : AH} {m : Nat} {P : PG} (W : RF h m P) (A : PA h m P (pNr P)) {i k : Nat} (hi : i < pNi P) (hc : pFd P i 0 = 3) (hk : k < pFd P i 5) : Ct g mX8_pieceAt 2 0 0 [.ref m, .int (nI i), .int (nI k)] h (fun ρ η => ρ = some (.int (nI (pln P i k))) ∧ η = h) := by
  refine Ct_intro (by decide +kernel) (Nat.le_of_ble_eq_true rfl) ?_
  show V g mX8_pieceAt _ h 0 0 [(0, .ref m), (1, .int (nI i)), (2, .int (nI k))] 0 []
  have hN := W.2.2.2.2.1
  have hR := W.2.2.1
  have hcp := ok_cp W.2.2 hi hc
  refine V_iconst (q := 1) (v := nI 1) dX8_pieceAt_0 rfl rfl ?_
  refine V_istore_n (q := 2) (L' := [(3, .int (nI 1)), (0, .ref m), (1, .int (nI i)), (2, .int (nI k))]) dX8_pieceAt_1 rfl rfl rfl ?_
  refine V_sub (L' := [(0, .ref m), (1, .int (nI i)), (2, .int (nI k)), (3, .int (nI 1))]) [1, 2, 3, 0] rfl ?_
  refine lp_pieceAt W A hi hc hk (pFd P i 5 - (k + 1) + 1) 1 ?_ ?_ ?_
  · omega
  · rfl
  · exact Nat.lt_succ_self _

set_option maxHeartbeats 4000000 in
set_option maxRecDepth 100000 in
theorem lp_restrict {g : GX} {h : AH} {m : Nat} {P : PG} (W : RF h m P) (A : PA h m P (pNr P)) {r o l : Nat} {f : Nat → Bool} (B : BR h (m + 7) f) (hr : r < pNr P) (hl : 1 ≤ l) (ho : o + l ≤ pSz P r) (hpt : ∀ x, o ≤ x → x < o + l → ptd P r x = true) (hsm : ∀ x, o ≤ x → x < o + l → pof P r x = pof P r o) : ∀ (t : Nat) (k : Nat) (e : AH) (fk : Nat → Bool), (o ≤ k ∧ k ≤ o + l) → (FB h e (m + 7)) → (BR e (m + 7) fk) → ((k = o ∧ fk = f) ∨ (o < k ∧ fk = fun x => f x && rcx P r o l x)) → o + l - k < t → V g mX8_restrict (thM g 1 0 0 (fun ρ η => ρ = none ∧ FB h η (m + 7) ∧ BR η (m + 7) (fun x => f x && rcx P r o l x))) e 0 0 [(0, .ref m), (1, .int (nI r)), (2, .int (nI o)), (3, .int (nI l)), (4, .int (nI k))] 3 [] := by
  intro t
  induction t with
  | zero =>
    intro k e fk hk F B2 hq hfu
    exact absurd hfu (Nat.not_lt_zero _)
  | succ t ih =>
    intro k e fk hk F B2 hq hfu
    have hR := W.2.2.1
    have hS := W.2.2.2.1 r hr
    have hlt := pof_lt (hpt o (by omega) (by omega)) (by omega)
    have hnp := npt_le P r
    have hbl := bgp_lt hlt
    have hll := lnp_le P r (pof P r o)
    have W := F.RF W (by omega)
    have A := F.PA A (by decide)
    refine V_iload (j := 4) (q := 5) dX8_restrict_3 rfl rfl ?_
    refine V_iload_n (j := 2) (q := 6) dX8_restrict_5 rfl rfl ?_
    refine V_iload_n (j := 3) (q := 7) dX8_restrict_6 rfl rfl ?_
    refine V_iaddN (q := 8) dX8_restrict_7 rfl ?_
    refine V_icmp_geN (tgt := 70) (q := 11) dX8_restrict_8 rfl rfl (by omega) (by omega) (fun c1 => ?_) (fun c1 => ?_)
    · skip
      refine V_vret rfl dX8_restrict_70 rfl rfl ?_
      exact ⟨rfl, F, by rcases hq with z | z; (exact absurd z.1 (by omega)); rw [← z.2]; exact B2⟩
    · skip
      refine V_aload_n (j := 0) (q := 12) dX8_restrict_11 rfl rfl ?_
      refine V_iload_n (j := 1) (q := 13) dX8_restrict_12 rfl rfl ?_
      refine V_iload (j := 4) (q := 15) dX8_restrict_13 rfl rfl ?_
      refine V_cpV (q := 18) (S := []) (v := .int (nI (16 * r + pof P r k))) kX8_110 (c_placeOf (r := r) (k := k) W A hr (by omega) (hpt k (by omega) (by omega))) (W.1.1 0 _ rfl) rfl rfl rfl dX8_restrict_15 rfl ?_
      refine V_rw (y := nI (16 * r + pof P r o)) (by rw [hsm k (by omega) (by omega)]) ?_
      refine V_istore (q := 20) (L' := [(5, .int (nI (16 * r + pof P r o))), (0, .ref m), (1, .int (nI r)), (2, .int (nI o)), (3, .int (nI l)), (4, .int (nI k))]) dX8_restrict_18 rfl rfl rfl ?_
      refine V_aload_n (j := 1) (q := 21) dX8_restrict_20 rfl rfl ?_
      refine V_getP (q := 24) (r := (m + 7)) fX8_28 (W.1.1 0 _ rfl) rfl (W.1.2 7 _ rfl) dX8_restrict_21 rfl ?_
      refine V_iload (j := 0) (q := 26) dX8_restrict_24 rfl rfl ?_
      refine V_aload_n (j := 1) (q := 27) dX8_restrict_26 rfl rfl ?_
      refine V_getP (q := 30) (r := (m + 7)) fX8_28 (W.1.1 0 _ rfl) rfl (W.1.2 7 _ rfl) dX8_restrict_27 rfl ?_
      refine V_iload (j := 0) (q := 32) dX8_restrict_30 rfl rfl ?_
      refine V_zald (q := 33) (W.1.1 7 _ rfl) (by omega) (by decide) dX8_restrict_32 rfl ?_
      refine V_rw (y := bi (fk (16 * r + pof P r o))) (B2 _ (by omega)) ?_
      refine V_if_eqB (tgt := 62) (q := 36) dX8_restrict_33 rfl rfl (fun c2 => ?_) (fun c2 => ?_)
      · skip
        refine V_iconst (q := 63) (v := nI 0) dX8_restrict_62 rfl rfl ?_
        refine V_rw (y := bi false) rfl ?_
        refine V_zast (b := false) (q := 64) (W.1.1 7 _ rfl) (by omega) (by decide) dX8_restrict_63 rfl ?_
        have W : RF (sI e (m + 7) (16 * r + pof P r o) (bi false)) m P := RF_sI W (by omega)
        refine V_iincN (j := 5) (q := 67) (L' := [(4, .int (nI (k + 1))), (5, .int (nI (16 * r + pof P r o))), (0, .ref m), (1, .int (nI r)), (2, .int (nI o)), (3, .int (nI l))]) dX8_restrict_64 rfl rfl rfl rfl ?_
        refine V_goto (q := 3) dX8_restrict_67 rfl ?_
        refine V_sub (L' := [(0, .ref m), (1, .int (nI r)), (2, .int (nI o)), (3, .int (nI l)), (4, .int (nI (k + 1)))]) [2, 3, 4, 5, 0] rfl ?_
        refine ih (k + 1) (sI e (m + 7) (16 * r + pof P r o) (bi false)) (fun x => f x && rcx P r o l x) ?_ ?_ ?_ ?_ ?_
        · omega
        · exact F.set
        · exact rst_set B2 (hq.imp (fun z => z.2) (fun z => z.2)) rfl (by simp [c1, c2])
        · exact Or.inr ⟨by omega, rfl⟩
        · omega
      · skip
        refine V_aload_n (j := 1) (q := 37) dX8_restrict_36 rfl rfl ?_
        refine V_getP (q := 40) (r := (m + 4)) fX8_19 (W.1.1 0 _ rfl) rfl (W.1.2 4 _ rfl) dX8_restrict_37 rfl ?_
        refine V_iload (j := 0) (q := 42) dX8_restrict_40 rfl rfl ?_
        refine V_iald (q := 43) (W.1.1 4 _ rfl) (by omega) (by decide) dX8_restrict_42 rfl ?_
        refine V_rw (y := nI (bgp P r (pof P r o))) (((A r (by omega)).2.2 _ (by omega)).1) ?_
        refine V_iload_n (j := 3) (q := 44) dX8_restrict_43 rfl rfl ?_
        refine V_icmp_neN (tgt := 62) (q := 47) dX8_restrict_44 rfl rfl (by omega) (by omega) (fun c3 => ?_) (fun c3 => ?_)
        · skip
          refine V_iconst (q := 63) (v := nI 0) dX8_restrict_62 rfl rfl ?_
          refine V_rw (y := bi false) rfl ?_
          refine V_zast (b := false) (q := 64) (W.1.1 7 _ rfl) (by omega) (by decide) dX8_restrict_63 rfl ?_
          have W : RF (sI e (m + 7) (16 * r + pof P r o) (bi false)) m P := RF_sI W (by omega)
          refine V_iincN (j := 5) (q := 67) (L' := [(4, .int (nI (k + 1))), (5, .int (nI (16 * r + pof P r o))), (0, .ref m), (1, .int (nI r)), (2, .int (nI o)), (3, .int (nI l))]) dX8_restrict_64 rfl rfl rfl rfl ?_
          refine V_goto (q := 3) dX8_restrict_67 rfl ?_
          refine V_sub (L' := [(0, .ref m), (1, .int (nI r)), (2, .int (nI o)), (3, .int (nI l)), (4, .int (nI (k + 1)))]) [2, 3, 4, 5, 0] rfl ?_
          refine ih (k + 1) (sI e (m + 7) (16 * r + pof P r o) (bi false)) (fun x => f x && rcx P r o l x) ?_ ?_ ?_ ?_ ?_
          · omega
          · exact F.set
          · exact rst_set B2 (hq.imp (fun z => z.2) (fun z => z.2)) rfl (by simp [c1, c2, c3])
          · exact Or.inr ⟨by omega, rfl⟩
          · omega
        · skip
          refine V_aload_n (j := 1) (q := 48) dX8_restrict_47 rfl rfl ?_
          refine V_getP (q := 51) (r := (m + 5)) fX8_22 (W.1.1 0 _ rfl) rfl (W.1.2 5 _ rfl) dX8_restrict_48 rfl ?_
          refine V_iload (j := 0) (q := 53) dX8_restrict_51 rfl rfl ?_
          refine V_iald (q := 54) (W.1.1 5 _ rfl) (by omega) (by decide) dX8_restrict_53 rfl ?_
          refine V_rw (y := nI (lnp P r (pof P r o))) (((A r (by omega)).2.2 _ (by omega)).2) ?_
          refine V_iload_n (j := 4) (q := 55) dX8_restrict_54 rfl rfl ?_
          refine V_icmp_neN (tgt := 62) (q := 58) dX8_restrict_55 rfl rfl (by omega) (by omega) (fun c4 => ?_) (fun c4 => ?_)
          · skip
            refine V_iconst (q := 63) (v := nI 0) dX8_restrict_62 rfl rfl ?_
            refine V_rw (y := bi false) rfl ?_
            refine V_zast (b := false) (q := 64) (W.1.1 7 _ rfl) (by omega) (by decide) dX8_restrict_63 rfl ?_
            have W : RF (sI e (m + 7) (16 * r + pof P r o) (bi false)) m P := RF_sI W (by omega)
            refine V_iincN (j := 5) (q := 67) (L' := [(4, .int (nI (k + 1))), (5, .int (nI (16 * r + pof P r o))), (0, .ref m), (1, .int (nI r)), (2, .int (nI o)), (3, .int (nI l))]) dX8_restrict_64 rfl rfl rfl rfl ?_
            refine V_goto (q := 3) dX8_restrict_67 rfl ?_
            refine V_sub (L' := [(0, .ref m), (1, .int (nI r)), (2, .int (nI o)), (3, .int (nI l)), (4, .int (nI (k + 1)))]) [2, 3, 4, 5, 0] rfl ?_
            refine ih (k + 1) (sI e (m + 7) (16 * r + pof P r o) (bi false)) (fun x => f x && rcx P r o l x) ?_ ?_ ?_ ?_ ?_
            · omega
            · exact F.set
            · exact rst_set B2 (hq.imp (fun z => z.2) (fun z => z.2)) rfl (by simp [c1, c2, c3, c4])
            · exact Or.inr ⟨by omega, rfl⟩
            · omega
          · skip
            refine V_iconst (q := 59) (v := nI 1) dX8_restrict_58 rfl rfl ?_
            refine V_goto (q := 63) dX8_restrict_59 rfl ?_
            refine V_rw (y := bi true) rfl ?_
            refine V_zast (b := true) (q := 64) (W.1.1 7 _ rfl) (by omega) (by decide) dX8_restrict_63 rfl ?_
            have W : RF (sI e (m + 7) (16 * r + pof P r o) (bi true)) m P := RF_sI W (by omega)
            refine V_iincN (j := 5) (q := 67) (L' := [(4, .int (nI (k + 1))), (5, .int (nI (16 * r + pof P r o))), (0, .ref m), (1, .int (nI r)), (2, .int (nI o)), (3, .int (nI l))]) dX8_restrict_64 rfl rfl rfl rfl ?_
            refine V_goto (q := 3) dX8_restrict_67 rfl ?_
            refine V_sub (L' := [(0, .ref m), (1, .int (nI r)), (2, .int (nI o)), (3, .int (nI l)), (4, .int (nI (k + 1)))]) [2, 3, 4, 5, 0] rfl ?_
            refine ih (k + 1) (sI e (m + 7) (16 * r + pof P r o) (bi true)) (fun x => f x && rcx P r o l x) ?_ ?_ ?_ ?_ ?_
            · omega
            · exact F.set
            · exact rst_set B2 (hq.imp (fun z => z.2) (fun z => z.2)) rfl (by simp [c1, c2, c3, c4])
            · exact Or.inr ⟨by omega, rfl⟩
            · omega

set_option maxHeartbeats 4000000 in
set_option maxRecDepth 100000 in
theorem c_restrict {g : GX} {h : AH} {m : Nat} {P : PG} (W : RF h m P) (A : PA h m P (pNr P)) {r o l : Nat} {f : Nat → Bool} (B : BR h (m + 7) f) (hr : r < pNr P) (hl : 1 ≤ l) (ho : o + l ≤ pSz P r) (hpt : ∀ x, o ≤ x → x < o + l → ptd P r x = true) (hsm : ∀ x, o ≤ x → x < o + l → pof P r x = pof P r o) : Ct g mX8_restrict 1 0 0 [.ref m, .int (nI r), .int (nI o), .int (nI l)] h (fun ρ η => ρ = none ∧ FB h η (m + 7) ∧ BR η (m + 7) (fun x => f x && rcx P r o l x)) := by
  refine Ct_intro (by decide +kernel) (Nat.le_of_ble_eq_true rfl) ?_
  show V g mX8_restrict _ h 0 0 [(0, .ref m), (1, .int (nI r)), (2, .int (nI o)), (3, .int (nI l))] 0 []
  have hR := W.2.2.1
  have hS := W.2.2.2.1 r hr
  have hlt := pof_lt (hpt o (by omega) (by omega)) (by omega)
  have hnp := npt_le P r
  have hbl := bgp_lt hlt
  have hll := lnp_le P r (pof P r o)
  refine V_iload_n (j := 2) (q := 1) dX8_restrict_0 rfl rfl ?_
  refine V_istore (q := 3) (L' := [(4, .int (nI o)), (0, .ref m), (1, .int (nI r)), (2, .int (nI o)), (3, .int (nI l))]) dX8_restrict_1 rfl rfl rfl ?_
  refine V_sub (L' := [(0, .ref m), (1, .int (nI r)), (2, .int (nI o)), (3, .int (nI l)), (4, .int (nI o))]) [1, 2, 3, 4, 0] rfl ?_
  refine lp_restrict W A B hr hl ho hpt hsm (o + l - o + 1) o h f ?_ ?_ ?_ ?_ ?_
  · omega
  · exact FB.rf _
  · exact B
  · exact Or.inl ⟨rfl, rfl⟩
  · exact Nat.lt_succ_self _

set_option maxHeartbeats 4000000 in
set_option maxRecDepth 100000 in
theorem lp_restrictPieces {g : GX} {h : AH} {m : Nat} {P : PG} (W : RF h m P) (A : PA h m P (pNr P)) {i : Nat} {f : Nat → Bool} (B : BR h (m + 7) f) (hi : i < pNi P) (hc : pFd P i 0 = 3) : ∀ (t : Nat) (k : Nat) (e : AH), (k ≤ pFd P i 5) → (k < pFd P i 5 → k = 0 ∨ pcut P i k = true) → (FB h e (m + 7)) → (BR e (m + 7) (fun x => f x && allN k (cpC P i x))) → pFd P i 5 - k < t → V g mX8_restrictPieces (thM g 3 0 0 (fun ρ η => ρ = none ∧ FB h η (m + 7) ∧ BR η (m + 7) (fun x => f x && allN (pFd P i 5) (cpC P i x)))) e 0 0 [(0, .ref m), (1, .int (nI i)), (2, .int (nI k))] 2 [] := by
  intro t
  induction t with
  | zero =>
    intro k e hk hs F B2 hfu
    exact absurd hfu (Nat.not_lt_zero _)
  | succ t ih =>
    intro k e hk hs F B2 hfu
    have hN := W.2.2.2.2.1
    have hR := W.2.2.1
    have hcp := ok_cp W.2.2 hi hc
    have W := F.RF W (by omega)
    have A := F.PA A (by decide)
    refine V_iload_n (j := 2) (q := 3) dX8_restrictPieces_2 rfl rfl ?_
    refine V_aload_n (j := 0) (q := 4) dX8_restrictPieces_3 rfl rfl ?_
    refine V_iload_n (j := 1) (q := 5) dX8_restrictPieces_4 rfl rfl ?_
    refine V_iconst (q := 6) (v := nI 5) dX8_restrictPieces_5 rfl rfl ?_
    refine V_cpV (q := 9) (S := [.int (nI k)]) (v := .int (nI (pFd P i 5))) kX8_72 (c_of (i := i) W (by omega) (by omega)) (W.1.1 0 _ rfl) rfl rfl rfl dX8_restrictPieces_6 rfl ?_
    refine V_icmp_geN (tgt := 64) (q := 12) dX8_restrictPieces_9 rfl rfl (by omega) (by omega) (fun c1 => ?_) (fun c1 => ?_)
    · skip
      refine V_vret rfl dX8_restrictPieces_64 rfl rfl ?_
      exact ⟨rfl, F, by rw [show k = pFd P i 5 by omega] at B2; exact B2⟩
    · skip
      have hpl := pln_spec c1
      refine V_aload_n (j := 0) (q := 13) dX8_restrictPieces_12 rfl rfl ?_
      refine V_iload_n (j := 1) (q := 14) dX8_restrictPieces_13 rfl rfl ?_
      refine V_iload_n (j := 2) (q := 15) dX8_restrictPieces_14 rfl rfl ?_
      refine V_cpV (q := 18) (S := []) (v := .int (nI (pln P i k))) kX8_116 (c_pieceAt (i := i) (k := k) W A hi hc (by omega)) (W.1.1 0 _ rfl) rfl rfl rfl dX8_restrictPieces_15 rfl ?_
      refine V_istore_n (q := 19) (L' := [(3, .int (nI (pln P i k))), (0, .ref m), (1, .int (nI i)), (2, .int (nI k))]) dX8_restrictPieces_18 rfl rfl rfl ?_
      refine V_aload_n (j := 1) (q := 20) dX8_restrictPieces_19 rfl rfl ?_
      refine V_aload_n (j := 1) (q := 21) dX8_restrictPieces_20 rfl rfl ?_
      refine V_iload_n (j := 2) (q := 22) dX8_restrictPieces_21 rfl rfl ?_
      refine V_iconst (q := 23) (v := nI 1) dX8_restrictPieces_22 rfl rfl ?_
      refine V_cpV (q := 26) (S := [.ref m]) (v := .int (nI (pFd P i 1))) kX8_72 (c_of (i := i) W (by omega) (by omega)) (W.1.1 0 _ rfl) rfl rfl rfl dX8_restrictPieces_23 rfl ?_
      refine V_aload_n (j := 1) (q := 27) dX8_restrictPieces_26 rfl rfl ?_
      refine V_iload_n (j := 2) (q := 28) dX8_restrictPieces_27 rfl rfl ?_
      refine V_iconst (q := 29) (v := nI 2) dX8_restrictPieces_28 rfl rfl ?_
      refine V_cpV (q := 32) (S := [.int (nI (pFd P i 1)), .ref m]) (v := .int (nI (pFd P i 2))) kX8_72 (c_of (i := i) W (by omega) (by omega)) (W.1.1 0 _ rfl) rfl rfl rfl dX8_restrictPieces_29 rfl ?_
      refine V_iload_n (j := 3) (q := 33) dX8_restrictPieces_32 rfl rfl ?_
      refine V_iaddN (q := 34) dX8_restrictPieces_33 rfl ?_
      refine V_iload_n (j := 0) (q := 35) dX8_restrictPieces_34 rfl rfl ?_
      refine V_callV (q := 38) (S := []) kX8_119 (c_restrict (r := pFd P i 1) (o := pFd P i 2 + k) (l := pln P i k) W A B2 (by omega) (by omega) (by omega) (fun x z1 z2 => ptd_d hi hc (j := x - pFd P i 2) (by omega) (by omega)) (fun x z1 z2 => by rw [show x = pFd P i 2 + k + (x - (pFd P i 2 + k)) by omega]; exact pof_pd (by omega) (by omega))) (W.1.1 0 _ rfl) rfl rfl rfl dX8_restrictPieces_35 rfl (fun r2 h3 p4 => ?_)
      obtain ⟨rfl, Fh3, Bh3⟩ := p4
      have W := Fh3.RF W (by omega)
      have A := Fh3.PA A (by decide)
      refine V_aload_n (j := 1) (q := 39) dX8_restrictPieces_38 rfl rfl ?_
      refine V_aload_n (j := 1) (q := 40) dX8_restrictPieces_39 rfl rfl ?_
      refine V_iload_n (j := 2) (q := 41) dX8_restrictPieces_40 rfl rfl ?_
      refine V_iconst (q := 42) (v := nI 3) dX8_restrictPieces_41 rfl rfl ?_
      refine V_cpV (q := 45) (S := [.ref m]) (v := .int (nI (pFd P i 3))) kX8_72 (c_of (i := i) W (by omega) (by omega)) (W.1.1 0 _ rfl) rfl rfl rfl dX8_restrictPieces_42 rfl ?_
      refine V_aload_n (j := 1) (q := 46) dX8_restrictPieces_45 rfl rfl ?_
      refine V_iload_n (j := 2) (q := 47) dX8_restrictPieces_46 rfl rfl ?_
      refine V_iconst (q := 48) (v := nI 4) dX8_restrictPieces_47 rfl rfl ?_
      refine V_cpV (q := 51) (S := [.int (nI (pFd P i 3)), .ref m]) (v := .int (nI (pFd P i 4))) kX8_72 (c_of (i := i) W (by omega) (by omega)) (W.1.1 0 _ rfl) rfl rfl rfl dX8_restrictPieces_48 rfl ?_
      refine V_iload_n (j := 3) (q := 52) dX8_restrictPieces_51 rfl rfl ?_
      refine V_iaddN (q := 53) dX8_restrictPieces_52 rfl ?_
      refine V_iload_n (j := 0) (q := 54) dX8_restrictPieces_53 rfl rfl ?_
      refine V_callV (q := 57) (S := []) kX8_119 (c_restrict (r := pFd P i 3) (o := pFd P i 4 + k) (l := pln P i k) W A Bh3 (by omega) (by omega) (by omega) (fun x z1 z2 => ptd_s hi hc (j := x - pFd P i 4) (by omega) (by omega)) (fun x z1 z2 => by rw [show x = pFd P i 4 + k + (x - (pFd P i 4 + k)) by omega]; exact pof_ps (by omega) (by omega))) (W.1.1 0 _ rfl) rfl rfl rfl dX8_restrictPieces_54 rfl (fun r5 h6 p7 => ?_)
      obtain ⟨rfl, Fh6, Bh6⟩ := p7
      have W := Fh6.RF W (by omega)
      have A := Fh6.PA A (by decide)
      refine V_iload_n (j := 3) (q := 58) dX8_restrictPieces_57 rfl rfl ?_
      refine V_iload_n (j := 0) (q := 59) dX8_restrictPieces_58 rfl rfl ?_
      refine V_iaddN (q := 60) dX8_restrictPieces_59 rfl ?_
      refine V_istore_n (q := 61) (L' := [(2, .int (nI (k + (pln P i k)))), (3, .int (nI (pln P i k))), (0, .ref m), (1, .int (nI i))]) dX8_restrictPieces_60 rfl rfl rfl ?_
      refine V_goto (q := 2) dX8_restrictPieces_61 rfl ?_
      refine V_sub (L' := [(0, .ref m), (1, .int (nI i)), (2, .int (nI (k + (pln P i k))))]) [2, 3, 0] rfl ?_
      refine ih (k + (pln P i k)) h6 ?_ ?_ ?_ ?_ ?_
      · omega
      · exact fun z => Or.inr (hpl.2.2.2 z)
      · exact (F.tr Fh3).tr Fh6
      · intro x hx; rw [Bh6 x hx]; dsimp only; rw [cpC_step (by omega) (hs (by omega)), ← Bool.and_assoc, ← Bool.and_assoc]
      · omega

set_option maxHeartbeats 4000000 in
set_option maxRecDepth 100000 in
theorem c_restrictPieces {g : GX} {h : AH} {m : Nat} {P : PG} (W : RF h m P) (A : PA h m P (pNr P)) {i : Nat} {f : Nat → Bool} (B : BR h (m + 7) f) (hi : i < pNi P) (hc : pFd P i 0 = 3) : Ct g mX8_restrictPieces 3 0 0 [.ref m, .int (nI i)] h (fun ρ η => ρ = none ∧ FB h η (m + 7) ∧ BR η (m + 7) (fun x => f x && allN (pFd P i 5) (cpC P i x))) := by
  refine Ct_intro (by decide +kernel) (Nat.le_of_ble_eq_true rfl) ?_
  show V g mX8_restrictPieces _ h 0 0 [(0, .ref m), (1, .int (nI i))] 0 []
  have hN := W.2.2.2.2.1
  have hR := W.2.2.1
  have hcp := ok_cp W.2.2 hi hc
  refine V_iconst (q := 1) (v := nI 0) dX8_restrictPieces_0 rfl rfl ?_
  refine V_istore_n (q := 2) (L' := [(2, .int (nI 0)), (0, .ref m), (1, .int (nI i))]) dX8_restrictPieces_1 rfl rfl rfl ?_
  refine V_sub (L' := [(0, .ref m), (1, .int (nI i)), (2, .int (nI 0))]) [1, 2, 0] rfl ?_
  refine lp_restrictPieces W A B hi hc (pFd P i 5 - 0 + 1) 0 h ?_ ?_ ?_ ?_ ?_
  · omega
  · exact fun _ => Or.inl rfl
  · exact FB.rf _
  · intro x hx; rw [B x hx]; simp [allN]
  · exact Nat.lt_succ_self _

set_option maxHeartbeats 4000000 in
set_option maxRecDepth 100000 in
theorem lp_prom3 {g : GX} {h : AH} {m : Nat} {P : PG} (W : RF h m P) (A : PA h m P (pNr P)) {f : Nat → Bool} (hf : ∀ r, r < pNr P → ∀ p, p < npt P r → f (16 * r + p) = prI P (16 * r + p)) : ∀ (t : Nat) (i : Nat) (e : AH), (i ≤ pNi P) → (FB h e (m + 7)) → (BR e (m + 7) (fun x => f x && allN i (prC P x))) → pNi P - i < t → V g mX8_findPromotable (thM g 4 0 0 (fun ρ η => ρ = none ∧ FB h η (m + 7) ∧ ∃ f, BR η (m + 7) f ∧ ∀ r, r < pNr P → ∀ p, p < npt P r → f (16 * r + p) = prm P (16 * r + p))) e 0 0 [(0, .ref m), (1, .int (nI i))] 76 [] := by
  intro t
  induction t with
  | zero =>
    intro i e hi F B2 hfu
    exact absurd hfu (Nat.not_lt_zero _)
  | succ t ih =>
    intro i e hi F B2 hfu
    have hN := W.2.2.2.2.1
    have hR := W.2.2.1
    have W := F.RF W (by omega)
    have A := F.PA A (by decide)
    refine V_iload_n (j := 1) (q := 77) dX8_findPromotable_76 rfl rfl ?_
    refine V_aload_n (j := 0) (q := 78) dX8_findPromotable_77 rfl rfl ?_
    refine V_getP (q := 81) (r := (m + 1)) fX8_7 (W.1.1 0 _ rfl) rfl (W.1.2 0 _ rfl) dX8_findPromotable_78 rfl ?_
    refine V_iconst (q := 82) (v := nI 5) dX8_findPromotable_81 rfl rfl ?_
    refine V_iald (q := 83) (W.1.1 1 _ rfl) (by omega) (by decide) dX8_findPromotable_82 rfl ?_
    refine V_rw (y := nI (pNi P)) W.2.1.2.2.1 ?_
    refine V_icmp_geN (tgt := 140) (q := 86) dX8_findPromotable_83 rfl rfl (by omega) (by omega) (fun c1 => ?_) (fun c1 => ?_)
    · skip
      refine V_vret rfl dX8_findPromotable_140 rfl rfl ?_
      exact ⟨rfl, F, _, B2, fun r hr p hp => by rw [hf r hr p hp, show i = pNi P by omega]; rfl⟩
    · skip
      refine V_aload_n (j := 0) (q := 87) dX8_findPromotable_86 rfl rfl ?_
      refine V_iload_n (j := 1) (q := 88) dX8_findPromotable_87 rfl rfl ?_
      refine V_cpV (q := 91) (S := []) (v := .int (bi (isAc P i))) kX8_76 (c_isAccess (i := i) W (by omega)) (W.1.1 0 _ rfl) rfl rfl rfl dX8_findPromotable_88 rfl ?_
      refine V_if_eqB (tgt := 119) (q := 94) dX8_findPromotable_91 rfl rfl (fun c2 => ?_) (fun c2 => ?_)
      · skip
        have hk9 := ok_kd W.2.2 (i := i) (by omega)
        refine V_aload_n (j := 0) (q := 120) dX8_findPromotable_119 rfl rfl ?_
        refine V_iload_n (j := 1) (q := 121) dX8_findPromotable_120 rfl rfl ?_
        refine V_iconst (q := 122) (v := nI 0) dX8_findPromotable_121 rfl rfl ?_
        refine V_cpV (q := 125) (S := []) (v := .int (nI (pFd P i 0))) kX8_72 (c_of (i := i) W (by omega) (by omega)) (W.1.1 0 _ rfl) rfl rfl rfl dX8_findPromotable_122 rfl ?_
        refine V_iconst (q := 126) (v := nI 3) dX8_findPromotable_125 rfl rfl ?_
        refine V_icmp_neN (tgt := 134) (q := 129) dX8_findPromotable_126 rfl rfl (by omega) (by omega) (fun c3 => ?_) (fun c3 => ?_)
        · skip
          refine V_iincN (j := 1) (q := 137) (L' := [(1, .int (nI (i + 1))), (0, .ref m)]) dX8_findPromotable_134 rfl rfl rfl rfl ?_
          refine V_goto (q := 76) dX8_findPromotable_137 rfl ?_
          refine V_sub (L' := [(0, .ref m), (1, .int (nI (i + 1)))]) [1, 0] rfl ?_
          refine ih (i + 1) e ?_ ?_ ?_ ?_
          · omega
          · exact F
          · intro x hx; rw [B2 x hx]; dsimp only; rw [allN_s, ← Bool.and_assoc]; simp [prC, c1, c2, c3]
          · omega
        · skip
          have ac3 := ok_cp W.2.2 (i := i) (by omega) c3
          refine V_aload_n (j := 0) (q := 130) dX8_findPromotable_129 rfl rfl ?_
          refine V_iload_n (j := 1) (q := 131) dX8_findPromotable_130 rfl rfl ?_
          refine V_callV (q := 134) (S := []) kX8_123 (c_restrictPieces (i := i) W A B2 (by omega) c3) (W.1.1 0 _ rfl) rfl rfl rfl dX8_findPromotable_131 rfl (fun r4 h5 p6 => ?_)
          obtain ⟨rfl, Fh5, Bh5⟩ := p6
          have W := Fh5.RF W (by omega)
          have A := Fh5.PA A (by decide)
          refine V_iincN (j := 1) (q := 137) (L' := [(1, .int (nI (i + 1))), (0, .ref m)]) dX8_findPromotable_134 rfl rfl rfl rfl ?_
          refine V_goto (q := 76) dX8_findPromotable_137 rfl ?_
          refine V_sub (L' := [(0, .ref m), (1, .int (nI (i + 1)))]) [1, 0] rfl ?_
          refine ih (i + 1) h5 ?_ ?_ ?_ ?_
          · omega
          · exact F.tr Fh5
          · intro x hx; rw [Bh5 x hx]; dsimp only; rw [allN_s, ← Bool.and_assoc]; simp [prC, c1, c2, c3]
          · omega
      · skip
        have ac2 := ok_ac W.2.2 (i := i) (by omega) c2
        refine V_aload_n (j := 0) (q := 95) dX8_findPromotable_94 rfl rfl ?_
        refine V_aload_n (j := 0) (q := 96) dX8_findPromotable_95 rfl rfl ?_
        refine V_iload_n (j := 1) (q := 97) dX8_findPromotable_96 rfl rfl ?_
        refine V_iconst (q := 98) (v := nI 1) dX8_findPromotable_97 rfl rfl ?_
        refine V_cpV (q := 101) (S := [.ref m]) (v := .int (nI (pFd P i 1))) kX8_72 (c_of (i := i) W (by omega) (by omega)) (W.1.1 0 _ rfl) rfl rfl rfl dX8_findPromotable_98 rfl ?_
        refine V_aload_n (j := 0) (q := 102) dX8_findPromotable_101 rfl rfl ?_
        refine V_iload_n (j := 1) (q := 103) dX8_findPromotable_102 rfl rfl ?_
        refine V_iconst (q := 104) (v := nI 2) dX8_findPromotable_103 rfl rfl ?_
        refine V_cpV (q := 107) (S := [.int (nI (pFd P i 1)), .ref m]) (v := .int (nI (pFd P i 2))) kX8_72 (c_of (i := i) W (by omega) (by omega)) (W.1.1 0 _ rfl) rfl rfl rfl dX8_findPromotable_104 rfl ?_
        refine V_aload_n (j := 0) (q := 108) dX8_findPromotable_107 rfl rfl ?_
        refine V_iload_n (j := 1) (q := 109) dX8_findPromotable_108 rfl rfl ?_
        refine V_iconst (q := 110) (v := nI 3) dX8_findPromotable_109 rfl rfl ?_
        refine V_cpV (q := 113) (S := [.int (nI (pFd P i 2)), .int (nI (pFd P i 1)), .ref m]) (v := .int (nI (pFd P i 3))) kX8_72 (c_of (i := i) W (by omega) (by omega)) (W.1.1 0 _ rfl) rfl rfl rfl dX8_findPromotable_110 rfl ?_
        refine V_callV (q := 116) (S := []) kX8_119 (c_restrict (r := pFd P i 1) (o := pFd P i 2) (l := pFd P i 3) W A B2 (by omega) (by omega) (by omega) (fun x z1 z2 => ptd_a (by omega) c2 (j := x - pFd P i 2) (by omega) (by omega)) (fun x z1 z2 => by rw [show x = pFd P i 2 + (x - pFd P i 2) by omega]; exact pof_ac (by omega) c2 (by omega))) (W.1.1 0 _ rfl) rfl rfl rfl dX8_findPromotable_113 rfl (fun r7 h8 p9 => ?_)
        obtain ⟨rfl, Fh8, Bh8⟩ := p9
        have W := Fh8.RF W (by omega)
        have A := Fh8.PA A (by decide)
        refine V_goto (q := 134) dX8_findPromotable_116 rfl ?_
        refine V_iincN (j := 1) (q := 137) (L' := [(1, .int (nI (i + 1))), (0, .ref m)]) dX8_findPromotable_134 rfl rfl rfl rfl ?_
        refine V_goto (q := 76) dX8_findPromotable_137 rfl ?_
        refine V_sub (L' := [(0, .ref m), (1, .int (nI (i + 1)))]) [1, 0] rfl ?_
        refine ih (i + 1) h8 ?_ ?_ ?_ ?_
        · omega
        · exact F.tr Fh8
        · intro x hx; rw [Bh8 x hx]; dsimp only; rw [allN_s, ← Bool.and_assoc]; simp [prC, c1, c2]
        · omega

set_option maxHeartbeats 4000000 in
set_option maxRecDepth 100000 in
theorem lp_prom2 {g : GX} {h : AH} {m : Nat} {P : PG} (W : RF h m P) (A : PA h m P (pNr P)) {r : Nat} (hr : r < pNr P) (kk : ∀ (e : AH) (f : Nat → Bool), FB h e (m + 7) → BR e (m + 7) f → (∀ q, q < r + 1 → ∀ p, p < npt P q → f (16 * q + p) = prI P (16 * q + p)) → V g mX8_findPromotable (thM g 4 0 0 (fun ρ η => ρ = none ∧ FB h η (m + 7) ∧ ∃ f, BR η (m + 7) f ∧ ∀ r, r < pNr P → ∀ p, p < npt P r → f (16 * r + p) = prm P (16 * r + p))) e 0 0 [(0, .ref m), (1, .int (nI r))] 68 []) : ∀ (t : Nat) (p : Nat) (e : AH) (f : Nat → Bool), (p ≤ npt P r) → (FB h e (m + 7)) → (BR e (m + 7) f) → ((∀ q, q < r → ∀ p, p < npt P q → f (16 * q + p) = prI P (16 * q + p))) → (∀ q, q < p → f (16 * r + q) = prI P (16 * r + q)) → npt P r - p < t → V g mX8_findPromotable (thM g 4 0 0 (fun ρ η => ρ = none ∧ FB h η (m + 7) ∧ ∃ f, BR η (m + 7) f ∧ ∀ r, r < pNr P → ∀ p, p < npt P r → f (16 * r + p) = prm P (16 * r + p))) e 0 0 [(0, .ref m), (1, .int (nI r)), (2, .int (nI p))] 14 [] := by
  intro t
  induction t with
  | zero =>
    intro p e f hp F B2 d1 d2 hfu
    exact absurd hfu (Nat.not_lt_zero _)
  | succ t ih =>
    intro p e f hp F B2 d1 d2 hfu
    have hR := W.2.2.1
    have hS := W.2.2.2.1 r hr
    have hnp := npt_le P r
    have W := F.RF W (by omega)
    have A := F.PA A (by decide)
    refine V_iload_n (j := 2) (q := 15) dX8_findPromotable_14 rfl rfl ?_
    refine V_aload_n (j := 0) (q := 16) dX8_findPromotable_15 rfl rfl ?_
    refine V_getP (q := 19) (r := (m + 6)) fX8_25 (W.1.1 0 _ rfl) rfl (W.1.2 6 _ rfl) dX8_findPromotable_16 rfl ?_
    refine V_iload_n (j := 1) (q := 20) dX8_findPromotable_19 rfl rfl ?_
    refine V_iald (q := 21) (W.1.1 6 _ rfl) (by omega) (by decide) dX8_findPromotable_20 rfl ?_
    refine V_rw (y := nI (npt P r)) ((A r (by omega)).1) ?_
    refine V_icmp_geN (tgt := 68) (q := 24) dX8_findPromotable_21 rfl rfl (by omega) (by omega) (fun c1 => ?_) (fun c1 => ?_)
    · skip
      refine V_sub (L' := [(0, .ref m), (1, .int (nI r))]) [0, 1] rfl ?_
      refine kk e f F B2 (fun q hq p hp => ?_)
      by_cases z : q = r
      · subst z; exact d2 p (by omega)
      · exact d1 q (by omega) p hp
    · skip
      refine V_bipush (q := 26) (v := nI 16) dX8_findPromotable_24 rfl (by decide) ?_
      refine V_iload_n (j := 1) (q := 27) dX8_findPromotable_26 rfl rfl ?_
      refine V_imulN (q := 28) dX8_findPromotable_27 rfl ?_
      refine V_iload_n (j := 2) (q := 29) dX8_findPromotable_28 rfl rfl ?_
      refine V_iaddN (q := 30) dX8_findPromotable_29 rfl ?_
      refine V_istore_n (q := 31) (L' := [(3, .int (nI (16 * r + p))), (0, .ref m), (1, .int (nI r)), (2, .int (nI p))]) dX8_findPromotable_30 rfl rfl rfl ?_
      refine V_aload_n (j := 1) (q := 32) dX8_findPromotable_31 rfl rfl ?_
      refine V_getP (q := 35) (r := (m + 7)) fX8_28 (W.1.1 0 _ rfl) rfl (W.1.2 7 _ rfl) dX8_findPromotable_32 rfl ?_
      refine V_iload_n (j := 0) (q := 36) dX8_findPromotable_35 rfl rfl ?_
      refine V_aload_n (j := 1) (q := 37) dX8_findPromotable_36 rfl rfl ?_
      refine V_iload_n (j := 2) (q := 38) dX8_findPromotable_37 rfl rfl ?_
      refine V_cpV (q := 41) (S := [.int (nI (16 * r + p)), .ref (m + 7)]) (v := .int (bi (esc P r))) kX8_90 (c_doesEscape (r := r) W (by omega)) (W.1.1 0 _ rfl) rfl rfl rfl dX8_findPromotable_38 rfl ?_
      refine V_if_neB (tgt := 60) (q := 44) dX8_findPromotable_41 rfl rfl (fun c2 => ?_) (fun c2 => ?_)
      · skip
        refine V_iconst (q := 61) (v := nI 0) dX8_findPromotable_60 rfl rfl ?_
        refine V_rw (y := bi false) rfl ?_
        refine V_zast (b := false) (q := 62) (W.1.1 7 _ rfl) (by omega) (by decide) dX8_findPromotable_61 rfl ?_
        have W : RF (sI e (m + 7) (16 * r + p) (bi false)) m P := RF_sI W (by omega)
        refine V_iincN (j := 3) (q := 65) (L' := [(2, .int (nI (p + 1))), (3, .int (nI (16 * r + p))), (0, .ref m), (1, .int (nI r))]) dX8_findPromotable_62 rfl rfl rfl rfl ?_
        refine V_goto (q := 14) dX8_findPromotable_65 rfl ?_
        refine V_sub (L' := [(0, .ref m), (1, .int (nI r)), (2, .int (nI (p + 1)))]) [2, 3, 0] rfl ?_
        refine ih (p + 1) (sI e (m + 7) (16 * r + p) (bi false)) (fun y => if y = 16 * r + p then false else f y) ?_ ?_ ?_ ?_ ?_ ?_
        · omega
        · exact F.set
        · exact BR_set B2 (if_pos rfl) (fun y hy => if_neg hy)
        · intro q hq s hs; have := W.2.2.2.1 q (by omega); have := npt_le P q; show (if _ then _ else _) = _; rw [if_neg (by omega)]; exact d1 q hq s hs
        · intro q hq; show (if _ then _ else _) = _; by_cases z : q = p; (rw [if_pos (by omega), z, prI_at P (by omega)]; simp [c1, c2]); rw [if_neg (by omega)]; exact d2 q (by omega)
        · omega
      · skip
        refine V_aload_n (j := 1) (q := 45) dX8_findPromotable_44 rfl rfl ?_
        refine V_getP (q := 48) (r := (m + 5)) fX8_22 (W.1.1 0 _ rfl) rfl (W.1.2 5 _ rfl) dX8_findPromotable_45 rfl ?_
        refine V_iload_n (j := 0) (q := 49) dX8_findPromotable_48 rfl rfl ?_
        refine V_iald (q := 50) (W.1.1 5 _ rfl) (by omega) (by decide) dX8_findPromotable_49 rfl ?_
        refine V_rw (y := nI (lnp P r p)) (((A r (by omega)).2.2 _ (by omega)).2) ?_
        refine V_cpS (q := 53) (S := [.int (nI (16 * r + p)), .ref (m + 7)]) (v := .int (bi (isW (nI (lnp P r p))))) kX8_59 c_isWidth rfl rfl rfl dX8_findPromotable_50 rfl ?_
        refine V_rw (y := bi (isWn (lnp P r p))) (by rw [isW_n (by have := lnp_le P r p; omega)]) ?_
        refine V_if_eqB (tgt := 60) (q := 56) dX8_findPromotable_53 rfl rfl (fun c3 => ?_) (fun c3 => ?_)
        · skip
          refine V_iconst (q := 61) (v := nI 0) dX8_findPromotable_60 rfl rfl ?_
          refine V_rw (y := bi false) rfl ?_
          refine V_zast (b := false) (q := 62) (W.1.1 7 _ rfl) (by omega) (by decide) dX8_findPromotable_61 rfl ?_
          have W : RF (sI e (m + 7) (16 * r + p) (bi false)) m P := RF_sI W (by omega)
          refine V_iincN (j := 3) (q := 65) (L' := [(2, .int (nI (p + 1))), (3, .int (nI (16 * r + p))), (0, .ref m), (1, .int (nI r))]) dX8_findPromotable_62 rfl rfl rfl rfl ?_
          refine V_goto (q := 14) dX8_findPromotable_65 rfl ?_
          refine V_sub (L' := [(0, .ref m), (1, .int (nI r)), (2, .int (nI (p + 1)))]) [2, 3, 0] rfl ?_
          refine ih (p + 1) (sI e (m + 7) (16 * r + p) (bi false)) (fun y => if y = 16 * r + p then false else f y) ?_ ?_ ?_ ?_ ?_ ?_
          · omega
          · exact F.set
          · exact BR_set B2 (if_pos rfl) (fun y hy => if_neg hy)
          · intro q hq s hs; have := W.2.2.2.1 q (by omega); have := npt_le P q; show (if _ then _ else _) = _; rw [if_neg (by omega)]; exact d1 q hq s hs
          · intro q hq; show (if _ then _ else _) = _; by_cases z : q = p; (rw [if_pos (by omega), z, prI_at P (by omega)]; simp [c1, c2, c3]); rw [if_neg (by omega)]; exact d2 q (by omega)
          · omega
        · skip
          refine V_iconst (q := 57) (v := nI 1) dX8_findPromotable_56 rfl rfl ?_
          refine V_goto (q := 61) dX8_findPromotable_57 rfl ?_
          refine V_rw (y := bi true) rfl ?_
          refine V_zast (b := true) (q := 62) (W.1.1 7 _ rfl) (by omega) (by decide) dX8_findPromotable_61 rfl ?_
          have W : RF (sI e (m + 7) (16 * r + p) (bi true)) m P := RF_sI W (by omega)
          refine V_iincN (j := 3) (q := 65) (L' := [(2, .int (nI (p + 1))), (3, .int (nI (16 * r + p))), (0, .ref m), (1, .int (nI r))]) dX8_findPromotable_62 rfl rfl rfl rfl ?_
          refine V_goto (q := 14) dX8_findPromotable_65 rfl ?_
          refine V_sub (L' := [(0, .ref m), (1, .int (nI r)), (2, .int (nI (p + 1)))]) [2, 3, 0] rfl ?_
          refine ih (p + 1) (sI e (m + 7) (16 * r + p) (bi true)) (fun y => if y = 16 * r + p then true else f y) ?_ ?_ ?_ ?_ ?_ ?_
          · omega
          · exact F.set
          · exact BR_set B2 (if_pos rfl) (fun y hy => if_neg hy)
          · intro q hq s hs; have := W.2.2.2.1 q (by omega); have := npt_le P q; show (if _ then _ else _) = _; rw [if_neg (by omega)]; exact d1 q hq s hs
          · intro q hq; show (if _ then _ else _) = _; by_cases z : q = p; (rw [if_pos (by omega), z, prI_at P (by omega)]; simp [c1, c2, c3]); rw [if_neg (by omega)]; exact d2 q (by omega)
          · omega

set_option maxHeartbeats 4000000 in
set_option maxRecDepth 100000 in
theorem lp_prom1 {g : GX} {h : AH} {m : Nat} {P : PG} (W : RF h m P) (A : PA h m P (pNr P)) : ∀ (t : Nat) (r : Nat) (e : AH) (f : Nat → Bool), (r ≤ pNr P) → (FB h e (m + 7)) → (BR e (m + 7) f) → ((∀ q, q < r → ∀ p, p < npt P q → f (16 * q + p) = prI P (16 * q + p))) → pNr P - r < t → V g mX8_findPromotable (thM g 4 0 0 (fun ρ η => ρ = none ∧ FB h η (m + 7) ∧ ∃ f, BR η (m + 7) f ∧ ∀ r, r < pNr P → ∀ p, p < npt P r → f (16 * r + p) = prm P (16 * r + p))) e 0 0 [(0, .ref m), (1, .int (nI r))] 2 [] := by
  intro t
  induction t with
  | zero =>
    intro r e f hr F B2 d1 hfu
    exact absurd hfu (Nat.not_lt_zero _)
  | succ t ih =>
    intro r e f hr F B2 d1 hfu
    have hR := W.2.2.1
    have W0 := W
    have A0 := A
    have W := F.RF W (by omega)
    have A := F.PA A (by decide)
    refine V_iload_n (j := 1) (q := 3) dX8_findPromotable_2 rfl rfl ?_
    refine V_aload_n (j := 0) (q := 4) dX8_findPromotable_3 rfl rfl ?_
    refine V_getP (q := 7) (r := (m + 1)) fX8_7 (W.1.1 0 _ rfl) rfl (W.1.2 0 _ rfl) dX8_findPromotable_4 rfl ?_
    refine V_iconst (q := 8) (v := nI 0) dX8_findPromotable_7 rfl rfl ?_
    refine V_iald (q := 9) (W.1.1 1 _ rfl) (by omega) (by decide) dX8_findPromotable_8 rfl ?_
    refine V_rw (y := nI (pNr P)) W.2.1.1 ?_
    refine V_icmp_geN (tgt := 74) (q := 12) dX8_findPromotable_9 rfl rfl (by omega) (by omega) (fun c1 => ?_) (fun c1 => ?_)
    · skip
      refine V_iconst (q := 75) (v := nI 0) dX8_findPromotable_74 rfl rfl ?_
      refine V_istore_n (q := 76) (L' := [(1, .int (nI 0)), (0, .ref m)]) dX8_findPromotable_75 rfl rfl rfl ?_
      refine V_sub (L' := [(0, .ref m), (1, .int (nI 0))]) [1, 0] rfl ?_
      refine lp_prom3 W0 A0 (f := f) (fun q hq p hp => d1 q (by omega) p hp) (pNi P - 0 + 1) 0 e (Nat.zero_le _) F (fun x hx => by rw [B2 x hx]; simp [allN]) (Nat.lt_succ_self _)
    · skip
      refine V_iconst (q := 13) (v := nI 0) dX8_findPromotable_12 rfl rfl ?_
      refine V_istore_n (q := 14) (L' := [(2, .int (nI 0)), (0, .ref m), (1, .int (nI r))]) dX8_findPromotable_13 rfl rfl rfl ?_
      refine V_sub (L' := [(0, .ref m), (1, .int (nI r)), (2, .int (nI 0))]) [1, 2, 0] rfl ?_
      refine lp_prom2 W0 A0 (by omega) (fun e2 f2 F2 B3 d3 => ?_) (npt P r - 0 + 1) 0 e f (Nat.zero_le _) F B2 d1 (fun q hq => absurd hq (Nat.not_lt_zero _)) (Nat.lt_succ_self _)
      refine V_iincN (j := 1) (q := 71) (L' := [(1, .int (nI (r + 1))), (0, .ref m)]) dX8_findPromotable_68 rfl rfl rfl rfl ?_
      refine V_goto (q := 2) dX8_findPromotable_71 rfl ?_
      refine V_sub (L' := [(0, .ref m), (1, .int (nI (r + 1)))]) [1, 0] rfl ?_
      refine ih (r + 1) e2 f2 ?_ ?_ ?_ ?_ ?_
      · omega
      · exact F2
      · exact B3
      · exact d3
      · omega

set_option maxHeartbeats 4000000 in
set_option maxRecDepth 100000 in
theorem c_findPromotable {g : GX} {h : AH} {m : Nat} {P : PG} (W : RF h m P) (A : PA h m P (pNr P)) {f : Nat → Bool} (B : BR h (m + 7) f) : Ct g mX8_findPromotable 4 0 0 [.ref m] h (fun ρ η => ρ = none ∧ FB h η (m + 7) ∧ ∃ f, BR η (m + 7) f ∧ ∀ r, r < pNr P → ∀ p, p < npt P r → f (16 * r + p) = prm P (16 * r + p)) := by
  refine Ct_intro (by decide +kernel) (Nat.le_of_ble_eq_true rfl) ?_
  show V g mX8_findPromotable _ h 0 0 [(0, .ref m)] 0 []
  refine V_iconst (q := 1) (v := nI 0) dX8_findPromotable_0 rfl rfl ?_
  refine V_istore_n (q := 2) (L' := [(1, .int (nI 0)), (0, .ref m)]) dX8_findPromotable_1 rfl rfl rfl ?_
  refine V_sub (L' := [(0, .ref m), (1, .int (nI 0))]) [1, 0] rfl ?_
  exact lp_prom1 W A (pNr P - 0 + 1) 0 h f (Nat.zero_le _) (FB.rf _) B (fun q hq => absurd hq (Nat.not_lt_zero _)) (Nat.lt_succ_self _)


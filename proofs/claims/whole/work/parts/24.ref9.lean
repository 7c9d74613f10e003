set_option maxHeartbeats 4000000 in
set_option maxRecDepth 100000 in
theorem lp_store {g : GX} {h : AH} {m : Nat} {P : PG} (W : RF h m P) {i : Nat} (hi : i < pNi P) (ha : isAc P i = true) : ∀ (t : Nat) (k : Nat) (e : AH), (k ≤ pFd P i 3) → (FB h e (m + 9)) → (hI e (m + 9) = stoB (16 * pFd P i 1 + pFd P i 2) (hI h (m + 10) (pFd P i 4)) k (hI h (m + 9))) → pFd P i 3 - k < t → V g mX8_store (thM g 1 0 0 (fun ρ η => ρ = none ∧ FB h η (m + 9) ∧ hI η (m + 9) = stoB (16 * pFd P i 1 + pFd P i 2) (hI h (m + 10) (pFd P i 4)) (pFd P i 3) (hI h (m + 9)))) e 0 0 [(0, .ref m), (1, .int (nI i)), (2, .int (nI k))] 2 [] := by
  intro t
  induction t with
  | zero =>
    intro k e hk F B hfu
    exact absurd hfu (Nat.not_lt_zero _)
  | succ t ih =>
    intro k e hk F B hfu
    have hN := W.2.2.2.2.1
    have hR := W.2.2.1
    have hac := ok_ac W.2.2 hi ha
    have W := F.RF W (by omega)
    refine V_iload_n (j := 2) (q := 3) dX8_store_2 rfl rfl ?_
    refine V_aload_n (j := 0) (q := 4) dX8_store_3 rfl rfl ?_
    refine V_iload_n (j := 1) (q := 5) dX8_store_4 rfl rfl ?_
    refine V_iconst (q := 6) (v := nI 3) dX8_store_5 rfl rfl ?_
    refine V_cpV (q := 9) (S := [.int (nI k)]) (v := .int (nI (pFd P i 3))) kX8_72 (c_of (i := i) W (by omega) (by omega)) (W.1.1 0 _ rfl) rfl rfl rfl dX8_store_6 rfl ?_
    refine V_icmp_geN (tgt := 61) (q := 12) dX8_store_9 rfl rfl (by omega) (by omega) (fun c1 => ?_) (fun c1 => ?_)
    · skip
      refine V_vret rfl dX8_store_61 rfl rfl ?_
      exact ⟨rfl, F, by rw [B, show k = pFd P i 3 by omega]⟩
    · skip
      refine V_aload_n (j := 0) (q := 13) dX8_store_12 rfl rfl ?_
      refine V_getP (q := 16) (r := (m + 9)) fX8_35 (W.1.1 0 _ rfl) rfl (W.1.2 9 _ rfl) dX8_store_13 rfl ?_
      refine V_bipush (q := 18) (v := nI 16) dX8_store_16 rfl (by decide) ?_
      refine V_aload_n (j := 0) (q := 19) dX8_store_18 rfl rfl ?_
      refine V_iload_n (j := 1) (q := 20) dX8_store_19 rfl rfl ?_
      refine V_iconst (q := 21) (v := nI 1) dX8_store_20 rfl rfl ?_
      refine V_cpV (q := 24) (S := [.int (nI 16), .ref (m + 9)]) (v := .int (nI (pFd P i 1))) kX8_72 (c_of (i := i) W (by omega) (by omega)) (W.1.1 0 _ rfl) rfl rfl rfl dX8_store_21 rfl ?_
      refine V_imulN (q := 25) dX8_store_24 rfl ?_
      refine V_aload_n (j := 0) (q := 26) dX8_store_25 rfl rfl ?_
      refine V_iload_n (j := 1) (q := 27) dX8_store_26 rfl rfl ?_
      refine V_iconst (q := 28) (v := nI 2) dX8_store_27 rfl rfl ?_
      refine V_cpV (q := 31) (S := [.int (nI (16 * (pFd P i 1))), .ref (m + 9)]) (v := .int (nI (pFd P i 2))) kX8_72 (c_of (i := i) W (by omega) (by omega)) (W.1.1 0 _ rfl) rfl rfl rfl dX8_store_28 rfl ?_
      refine V_iaddN (q := 32) dX8_store_31 rfl ?_
      refine V_iload_n (j := 2) (q := 33) dX8_store_32 rfl rfl ?_
      refine V_iaddN (q := 34) dX8_store_33 rfl ?_
      refine V_aload_n (j := 0) (q := 35) dX8_store_34 rfl rfl ?_
      refine V_getP (q := 38) (r := (m + 10)) fX8_38 (W.1.1 0 _ rfl) rfl (W.1.2 10 _ rfl) dX8_store_35 rfl ?_
      refine V_aload_n (j := 0) (q := 39) dX8_store_38 rfl rfl ?_
      refine V_iload_n (j := 1) (q := 40) dX8_store_39 rfl rfl ?_
      refine V_iconst (q := 41) (v := nI 4) dX8_store_40 rfl rfl ?_
      refine V_cpV (q := 44) (S := [.ref (m + 10), .int (nI (16 * (pFd P i 1) + (pFd P i 2) + k)), .ref (m + 9)]) (v := .int (nI (pFd P i 4))) kX8_72 (c_of (i := i) W (by omega) (by omega)) (W.1.1 0 _ rfl) rfl rfl rfl dX8_store_41 rfl ?_
      refine V_iald (q := 45) (W.1.1 10 _ rfl) (by omega) (by decide) dX8_store_44 rfl ?_
      refine V_rw (y := hI h (m + 10) (pFd P i 4)) (by rw [F.2 _ (by omega)]) ?_
      refine V_bipush (q := 47) (v := nI 8) dX8_store_45 rfl (by decide) ?_
      refine V_iload_n (j := 2) (q := 48) dX8_store_47 rfl rfl ?_
      refine V_imulN (q := 49) dX8_store_48 rfl ?_
      refine V_ishr (q := 50) dX8_store_49 rfl ?_
      refine V_sipush (q := 53) (v := nI 255) dX8_store_50 rfl (by decide) ?_
      refine V_iand (q := 54) dX8_store_53 rfl ?_
      refine V_iast (q := 55) (W.1.1 9 _ rfl) (by omega) (by decide) dX8_store_54 rfl ?_
      have W : RF (sI e (m + 9) (16 * (pFd P i 1) + (pFd P i 2) + k) (((hI h (m + 10) (pFd P i 4)) >>> ((nI (8 * k)) &&& 31)) &&& (nI 255))) m P := RF_sI W (by omega)
      refine V_iincN (j := 2) (q := 58) (L' := [(2, .int (nI (k + 1))), (0, .ref m), (1, .int (nI i))]) dX8_store_55 rfl rfl rfl rfl ?_
      refine V_goto (q := 2) dX8_store_58 rfl ?_
      refine V_sub (L' := [(0, .ref m), (1, .int (nI i)), (2, .int (nI (k + 1)))]) [1, 2, 0] rfl ?_
      refine ih (k + 1) (sI e (m + 9) (16 * (pFd P i 1) + (pFd P i 2) + k) (((hI h (m + 10) (pFd P i 4)) >>> ((nI (8 * k)) &&& 31)) &&& (nI 255))) ?_ ?_ ?_ ?_
      · omega
      · exact F.set
      · exact sto_s B
      · omega

set_option maxHeartbeats 4000000 in
set_option maxRecDepth 100000 in
theorem c_store {g : GX} {h : AH} {m : Nat} {P : PG} (W : RF h m P) {i : Nat} (hi : i < pNi P) (ha : isAc P i = true) : Ct g mX8_store 1 0 0 [.ref m, .int (nI i)] h (fun ρ η => ρ = none ∧ FB h η (m + 9) ∧ hI η (m + 9) = stoB (16 * pFd P i 1 + pFd P i 2) (hI h (m + 10) (pFd P i 4)) (pFd P i 3) (hI h (m + 9))) := by
  refine Ct_intro (by decide +kernel) (Nat.le_of_ble_eq_true rfl) ?_
  show V g mX8_store _ h 0 0 [(0, .ref m), (1, .int (nI i))] 0 []
  have hN := W.2.2.2.2.1
  have hR := W.2.2.1
  have hac := ok_ac W.2.2 hi ha
  refine V_iconst (q := 1) (v := nI 0) dX8_store_0 rfl rfl ?_
  refine V_istore_n (q := 2) (L' := [(2, .int (nI 0)), (0, .ref m), (1, .int (nI i))]) dX8_store_1 rfl rfl rfl ?_
  refine V_sub (L' := [(0, .ref m), (1, .int (nI i)), (2, .int (nI 0))]) [1, 2, 0] rfl ?_
  refine lp_store W hi ha (pFd P i 3 - 0 + 1) 0 h ?_ ?_ ?_ ?_
  · omega
  · exact FB.rf _
  · rw [sto_0]
  · exact Nat.lt_succ_self _

set_option maxHeartbeats 4000000 in
set_option maxRecDepth 100000 in
theorem lp_load {g : GX} {h : AH} {m : Nat} {P : PG} (W : RF h m P) {i : Nat} (hi : i < pNi P) (ha : isAc P i = true) : ∀ (t : Nat) (k : Nat) (v : Int32), (k ≤ pFd P i 3) → (v = ldV (hI h (m + 9)) (16 * pFd P i 1 + pFd P i 2) k) → pFd P i 3 - k < t → V g mX8_load (thM g 1 0 0 (fun ρ η => ρ = none ∧ η = sI h (m + 10) (pFd P i 4) (ldV (hI h (m + 9)) (16 * pFd P i 1 + pFd P i 2) (pFd P i 3)))) h 0 0 [(0, .ref m), (1, .int (nI i)), (2, .int v), (3, .int (nI k))] 4 [] := by
  intro t
  induction t with
  | zero =>
    intro k v hk hv hfu
    exact absurd hfu (Nat.not_lt_zero _)
  | succ t ih =>
    intro k v hk hv hfu
    have hN := W.2.2.2.2.1
    have hR := W.2.2.1
    have hac := ok_ac W.2.2 hi ha
    refine V_iload_n (j := 3) (q := 5) dX8_load_4 rfl rfl ?_
    refine V_aload_n (j := 0) (q := 6) dX8_load_5 rfl rfl ?_
    refine V_iload_n (j := 1) (q := 7) dX8_load_6 rfl rfl ?_
    refine V_iconst (q := 8) (v := nI 3) dX8_load_7 rfl rfl ?_
    refine V_cpV (q := 11) (S := [.int (nI k)]) (v := .int (nI (pFd P i 3))) kX8_72 (c_of (i := i) W (by omega) (by omega)) (W.1.1 0 _ rfl) rfl rfl rfl dX8_load_8 rfl ?_
    refine V_icmp_geN (tgt := 51) (q := 14) dX8_load_11 rfl rfl (by omega) (by omega) (fun c1 => ?_) (fun c1 => ?_)
    · skip
      refine V_aload_n (j := 0) (q := 52) dX8_load_51 rfl rfl ?_
      refine V_getP (q := 55) (r := (m + 10)) fX8_38 (W.1.1 0 _ rfl) rfl (W.1.2 10 _ rfl) dX8_load_52 rfl ?_
      refine V_aload_n (j := 0) (q := 56) dX8_load_55 rfl rfl ?_
      refine V_iload_n (j := 1) (q := 57) dX8_load_56 rfl rfl ?_
      refine V_iconst (q := 58) (v := nI 4) dX8_load_57 rfl rfl ?_
      refine V_cpV (q := 61) (S := [.ref (m + 10)]) (v := .int (nI (pFd P i 4))) kX8_72 (c_of (i := i) W (by omega) (by omega)) (W.1.1 0 _ rfl) rfl rfl rfl dX8_load_58 rfl ?_
      refine V_iload_n (j := 2) (q := 62) dX8_load_61 rfl rfl ?_
      refine V_iast (q := 63) (W.1.1 10 _ rfl) (by omega) (by decide) dX8_load_62 rfl ?_
      have W : RF (sI h (m + 10) (pFd P i 4) v) m P := RF_sI W (by omega)
      refine V_vret rfl dX8_load_63 rfl rfl ?_
      exact ⟨rfl, by rw [hv, show k = pFd P i 3 by omega]⟩
    · skip
      refine V_iload_n (j := 2) (q := 15) dX8_load_14 rfl rfl ?_
      refine V_aload_n (j := 0) (q := 16) dX8_load_15 rfl rfl ?_
      refine V_getP (q := 19) (r := (m + 9)) fX8_35 (W.1.1 0 _ rfl) rfl (W.1.2 9 _ rfl) dX8_load_16 rfl ?_
      refine V_bipush (q := 21) (v := nI 16) dX8_load_19 rfl (by decide) ?_
      refine V_aload_n (j := 0) (q := 22) dX8_load_21 rfl rfl ?_
      refine V_iload_n (j := 1) (q := 23) dX8_load_22 rfl rfl ?_
      refine V_iconst (q := 24) (v := nI 1) dX8_load_23 rfl rfl ?_
      refine V_cpV (q := 27) (S := [.int (nI 16), .ref (m + 9), .int v]) (v := .int (nI (pFd P i 1))) kX8_72 (c_of (i := i) W (by omega) (by omega)) (W.1.1 0 _ rfl) rfl rfl rfl dX8_load_24 rfl ?_
      refine V_imulN (q := 28) dX8_load_27 rfl ?_
      refine V_aload_n (j := 0) (q := 29) dX8_load_28 rfl rfl ?_
      refine V_iload_n (j := 1) (q := 30) dX8_load_29 rfl rfl ?_
      refine V_iconst (q := 31) (v := nI 2) dX8_load_30 rfl rfl ?_
      refine V_cpV (q := 34) (S := [.int (nI (16 * (pFd P i 1))), .ref (m + 9), .int v]) (v := .int (nI (pFd P i 2))) kX8_72 (c_of (i := i) W (by omega) (by omega)) (W.1.1 0 _ rfl) rfl rfl rfl dX8_load_31 rfl ?_
      refine V_iaddN (q := 35) dX8_load_34 rfl ?_
      refine V_iload_n (j := 3) (q := 36) dX8_load_35 rfl rfl ?_
      refine V_iaddN (q := 37) dX8_load_36 rfl ?_
      refine V_iald (q := 38) (W.1.1 9 _ rfl) (by omega) (by decide) dX8_load_37 rfl ?_
      refine V_bipush (q := 40) (v := nI 8) dX8_load_38 rfl (by decide) ?_
      refine V_iload_n (j := 3) (q := 41) dX8_load_40 rfl rfl ?_
      refine V_imulN (q := 42) dX8_load_41 rfl ?_
      refine V_ishl (q := 43) dX8_load_42 rfl ?_
      refine V_ior (q := 44) dX8_load_43 rfl ?_
      refine V_istore_n (q := 45) (L' := [(2, .int (v ||| ((hI h (m + 9) (16 * (pFd P i 1) + (pFd P i 2) + k)) <<< ((nI (8 * k)) &&& 31)))), (0, .ref m), (1, .int (nI i)), (3, .int (nI k))]) dX8_load_44 rfl rfl rfl ?_
      refine V_iincN (j := 3) (q := 48) (L' := [(3, .int (nI (k + 1))), (2, .int (v ||| ((hI h (m + 9) (16 * (pFd P i 1) + (pFd P i 2) + k)) <<< ((nI (8 * k)) &&& 31)))), (0, .ref m), (1, .int (nI i))]) dX8_load_45 rfl rfl rfl rfl ?_
      refine V_goto (q := 4) dX8_load_48 rfl ?_
      refine V_sub (L' := [(0, .ref m), (1, .int (nI i)), (2, .int (v ||| ((hI h (m + 9) (16 * (pFd P i 1) + (pFd P i 2) + k)) <<< ((nI (8 * k)) &&& 31)))), (3, .int (nI (k + 1)))]) [2, 3, 1, 0] rfl ?_
      refine ih (k + 1) (v ||| ((hI h (m + 9) (16 * (pFd P i 1) + (pFd P i 2) + k)) <<< ((nI (8 * k)) &&& 31))) ?_ ?_ ?_
      · omega
      · rw [ldV, ← hv]
      · omega

set_option maxHeartbeats 4000000 in
set_option maxRecDepth 100000 in
theorem c_load {g : GX} {h : AH} {m : Nat} {P : PG} (W : RF h m P) {i : Nat} (hi : i < pNi P) (ha : isAc P i = true) : Ct g mX8_load 1 0 0 [.ref m, .int (nI i)] h (fun ρ η => ρ = none ∧ η = sI h (m + 10) (pFd P i 4) (ldV (hI h (m + 9)) (16 * pFd P i 1 + pFd P i 2) (pFd P i 3))) := by
  refine Ct_intro (by decide +kernel) (Nat.le_of_ble_eq_true rfl) ?_
  show V g mX8_load _ h 0 0 [(0, .ref m), (1, .int (nI i))] 0 []
  have hN := W.2.2.2.2.1
  have hR := W.2.2.1
  have hac := ok_ac W.2.2 hi ha
  refine V_iconst (q := 1) (v := nI 0) dX8_load_0 rfl rfl ?_
  refine V_istore_n (q := 2) (L' := [(2, .int (nI 0)), (0, .ref m), (1, .int (nI i))]) dX8_load_1 rfl rfl rfl ?_
  refine V_iconst (q := 3) (v := nI 0) dX8_load_2 rfl rfl ?_
  refine V_istore_n (q := 4) (L' := [(3, .int (nI 0)), (2, .int (nI 0)), (0, .ref m), (1, .int (nI i))]) dX8_load_3 rfl rfl rfl ?_
  refine V_sub (L' := [(0, .ref m), (1, .int (nI i)), (2, .int (nI 0)), (3, .int (nI 0))]) [2, 3, 1, 0] rfl ?_
  refine lp_load W hi ha (pFd P i 3 - 0 + 1) 0 (nI 0) ?_ ?_ ?_
  · omega
  · rfl
  · exact Nat.lt_succ_self _

set_option maxHeartbeats 4000000 in
set_option maxRecDepth 100000 in
theorem lp_copyBytes {g : GX} {h : AH} {m : Nat} {P : PG} (W : RF h m P) {i k n : Nat} (hi : i < pNi P) (hc : pFd P i 0 = 3) (hk : k + n ≤ pFd P i 5) : ∀ (t : Nat) (j : Nat) (e : AH), (k ≤ j ∧ j ≤ k + n) → (FB h e (m + 9)) → (hI e (m + 9) = cpB (16 * pFd P i 1 + pFd P i 2 + k) (16 * pFd P i 3 + pFd P i 4 + k) (j - k) (hI h (m + 9))) → k + n - j < t → V g mX8_copyBytes (thM g 1 0 0 (fun ρ η => ρ = none ∧ FB h η (m + 9) ∧ hI η (m + 9) = cpB (16 * pFd P i 1 + pFd P i 2 + k) (16 * pFd P i 3 + pFd P i 4 + k) n (hI h (m + 9)))) e 0 0 [(0, .ref m), (1, .int (nI i)), (2, .int (nI k)), (3, .int (nI n)), (4, .int (nI j))] 3 [] := by
  intro t
  induction t with
  | zero =>
    intro j e hj F B hfu
    exact absurd hfu (Nat.not_lt_zero _)
  | succ t ih =>
    intro j e hj F B hfu
    have hN := W.2.2.2.2.1
    have hR := W.2.2.1
    have hcp := ok_cp W.2.2 hi hc
    have W := F.RF W (by omega)
    refine V_iload (j := 4) (q := 5) dX8_copyBytes_3 rfl rfl ?_
    refine V_iload_n (j := 2) (q := 6) dX8_copyBytes_5 rfl rfl ?_
    refine V_iload_n (j := 3) (q := 7) dX8_copyBytes_6 rfl rfl ?_
    refine V_iaddN (q := 8) dX8_copyBytes_7 rfl ?_
    refine V_icmp_geN (tgt := 65) (q := 11) dX8_copyBytes_8 rfl rfl (by omega) (by omega) (fun c1 => ?_) (fun c1 => ?_)
    · skip
      refine V_vret rfl dX8_copyBytes_65 rfl rfl ?_
      exact ⟨rfl, F, by rw [B, show j - k = n by omega]⟩
    · skip
      refine V_aload_n (j := 0) (q := 12) dX8_copyBytes_11 rfl rfl ?_
      refine V_getP (q := 15) (r := (m + 9)) fX8_35 (W.1.1 0 _ rfl) rfl (W.1.2 9 _ rfl) dX8_copyBytes_12 rfl ?_
      refine V_bipush (q := 17) (v := nI 16) dX8_copyBytes_15 rfl (by decide) ?_
      refine V_aload_n (j := 0) (q := 18) dX8_copyBytes_17 rfl rfl ?_
      refine V_iload_n (j := 1) (q := 19) dX8_copyBytes_18 rfl rfl ?_
      refine V_iconst (q := 20) (v := nI 1) dX8_copyBytes_19 rfl rfl ?_
      refine V_cpV (q := 23) (S := [.int (nI 16), .ref (m + 9)]) (v := .int (nI (pFd P i 1))) kX8_72 (c_of (i := i) W (by omega) (by omega)) (W.1.1 0 _ rfl) rfl rfl rfl dX8_copyBytes_20 rfl ?_
      refine V_imulN (q := 24) dX8_copyBytes_23 rfl ?_
      refine V_aload_n (j := 0) (q := 25) dX8_copyBytes_24 rfl rfl ?_
      refine V_iload_n (j := 1) (q := 26) dX8_copyBytes_25 rfl rfl ?_
      refine V_iconst (q := 27) (v := nI 2) dX8_copyBytes_26 rfl rfl ?_
      refine V_cpV (q := 30) (S := [.int (nI (16 * (pFd P i 1))), .ref (m + 9)]) (v := .int (nI (pFd P i 2))) kX8_72 (c_of (i := i) W (by omega) (by omega)) (W.1.1 0 _ rfl) rfl rfl rfl dX8_copyBytes_27 rfl ?_
      refine V_iaddN (q := 31) dX8_copyBytes_30 rfl ?_
      refine V_iload (j := 4) (q := 33) dX8_copyBytes_31 rfl rfl ?_
      refine V_iaddN (q := 34) dX8_copyBytes_33 rfl ?_
      refine V_aload_n (j := 0) (q := 35) dX8_copyBytes_34 rfl rfl ?_
      refine V_getP (q := 38) (r := (m + 9)) fX8_35 (W.1.1 0 _ rfl) rfl (W.1.2 9 _ rfl) dX8_copyBytes_35 rfl ?_
      refine V_bipush (q := 40) (v := nI 16) dX8_copyBytes_38 rfl (by decide) ?_
      refine V_aload_n (j := 0) (q := 41) dX8_copyBytes_40 rfl rfl ?_
      refine V_iload_n (j := 1) (q := 42) dX8_copyBytes_41 rfl rfl ?_
      refine V_iconst (q := 43) (v := nI 3) dX8_copyBytes_42 rfl rfl ?_
      refine V_cpV (q := 46) (S := [.int (nI 16), .ref (m + 9), .int (nI (16 * (pFd P i 1) + (pFd P i 2) + j)), .ref (m + 9)]) (v := .int (nI (pFd P i 3))) kX8_72 (c_of (i := i) W (by omega) (by omega)) (W.1.1 0 _ rfl) rfl rfl rfl dX8_copyBytes_43 rfl ?_
      refine V_imulN (q := 47) dX8_copyBytes_46 rfl ?_
      refine V_aload_n (j := 0) (q := 48) dX8_copyBytes_47 rfl rfl ?_
      refine V_iload_n (j := 1) (q := 49) dX8_copyBytes_48 rfl rfl ?_
      refine V_iconst (q := 50) (v := nI 4) dX8_copyBytes_49 rfl rfl ?_
      refine V_cpV (q := 53) (S := [.int (nI (16 * (pFd P i 3))), .ref (m + 9), .int (nI (16 * (pFd P i 1) + (pFd P i 2) + j)), .ref (m + 9)]) (v := .int (nI (pFd P i 4))) kX8_72 (c_of (i := i) W (by omega) (by omega)) (W.1.1 0 _ rfl) rfl rfl rfl dX8_copyBytes_50 rfl ?_
      refine V_iaddN (q := 54) dX8_copyBytes_53 rfl ?_
      refine V_iload (j := 4) (q := 56) dX8_copyBytes_54 rfl rfl ?_
      refine V_iaddN (q := 57) dX8_copyBytes_56 rfl ?_
      refine V_iald (q := 58) (W.1.1 9 _ rfl) (by omega) (by decide) dX8_copyBytes_57 rfl ?_
      refine V_iast (q := 59) (W.1.1 9 _ rfl) (by omega) (by decide) dX8_copyBytes_58 rfl ?_
      have W : RF (sI e (m + 9) (16 * (pFd P i 1) + (pFd P i 2) + j) (hI e (m + 9) (16 * (pFd P i 3) + (pFd P i 4) + j))) m P := RF_sI W (by omega)
      refine V_iincN (j := 4) (q := 62) (L' := [(4, .int (nI (j + 1))), (0, .ref m), (1, .int (nI i)), (2, .int (nI k)), (3, .int (nI n))]) dX8_copyBytes_59 rfl rfl rfl rfl ?_
      refine V_goto (q := 3) dX8_copyBytes_62 rfl ?_
      refine V_sub (L' := [(0, .ref m), (1, .int (nI i)), (2, .int (nI k)), (3, .int (nI n)), (4, .int (nI (j + 1)))]) [1, 2, 3, 4, 0] rfl ?_
      refine ih (j + 1) (sI e (m + 9) (16 * (pFd P i 1) + (pFd P i 2) + j) (hI e (m + 9) (16 * (pFd P i 3) + (pFd P i 4) + j))) ?_ ?_ ?_ ?_
      · omega
      · exact F.set
      · rw [show j + 1 - k = j - k + 1 by omega]; exact cp_s B (by omega) (by omega)
      · omega

set_option maxHeartbeats 4000000 in
set_option maxRecDepth 100000 in
theorem c_copyBytes {g : GX} {h : AH} {m : Nat} {P : PG} (W : RF h m P) {i k n : Nat} (hi : i < pNi P) (hc : pFd P i 0 = 3) (hk : k + n ≤ pFd P i 5) : Ct g mX8_copyBytes 1 0 0 [.ref m, .int (nI i), .int (nI k), .int (nI n)] h (fun ρ η => ρ = none ∧ FB h η (m + 9) ∧ hI η (m + 9) = cpB (16 * pFd P i 1 + pFd P i 2 + k) (16 * pFd P i 3 + pFd P i 4 + k) n (hI h (m + 9))) := by
  refine Ct_intro (by decide +kernel) (Nat.le_of_ble_eq_true rfl) ?_
  show V g mX8_copyBytes _ h 0 0 [(0, .ref m), (1, .int (nI i)), (2, .int (nI k)), (3, .int (nI n))] 0 []
  have hN := W.2.2.2.2.1
  have hR := W.2.2.1
  have hcp := ok_cp W.2.2 hi hc
  refine V_iload_n (j := 2) (q := 1) dX8_copyBytes_0 rfl rfl ?_
  refine V_istore (q := 3) (L' := [(4, .int (nI k)), (0, .ref m), (1, .int (nI i)), (2, .int (nI k)), (3, .int (nI n))]) dX8_copyBytes_1 rfl rfl rfl ?_
  refine V_sub (L' := [(0, .ref m), (1, .int (nI i)), (2, .int (nI k)), (3, .int (nI n)), (4, .int (nI k))]) [1, 2, 3, 4, 0] rfl ?_
  refine lp_copyBytes W hi hc hk (k + n - k + 1) k h ?_ ?_ ?_ ?_
  · omega
  · exact FB.rf _
  · rw [Nat.sub_self]; rfl
  · exact Nat.lt_succ_self _

set_option maxHeartbeats 4000000 in
set_option maxRecDepth 100000 in
theorem lp_escape {g : GX} {h : AH} {m : Nat} {P : PG} (W : RF h m P) {r : Nat} (hr : r < pNr P) : ∀ (t : Nat) (k : Nat) (e : AH), (k ≤ pSz P r) → (FB h e m) → (hI e m 13 = esS (hI h (m + 9)) (16 * r) (hI h m 13) k) → (∀ j, j ≠ 13 → hI e m j = hI h m j) → pSz P r - k < t → V g mX8_escape (thM g 0 0 0 (fun ρ η => ρ = none ∧ FX h η m ∧ hI η (m + 9) = upd (hI h (m + 9)) (16 * r) ((hI h (m + 9) (16 * r) + nI 1) &&& nI 255) ∧ hI η (m + 10) = hI h (m + 10) ∧ hI η (m + 11) = hI h (m + 11) ∧ hI η m 13 = esS (hI h (m + 9)) (16 * r) (hI h m 13) (pSz P r) ∧ ∀ j, j ≠ 13 → hI η m j = hI h m j)) e 0 0 [(0, .ref m), (1, .int (nI r)), (2, .int (nI k))] 2 [] := by
  intro t
  induction t with
  | zero =>
    intro k e hk F E1 E2 hfu
    exact absurd hfu (Nat.not_lt_zero _)
  | succ t ih =>
    intro k e hk F E1 E2 hfu
    have hN := W.2.2.2.2.1
    have hR := W.2.2.1
    have hS := W.2.2.2.1 r hr
    have W := F.RF W (by omega)
    refine V_iload_n (j := 2) (q := 3) dX8_escape_2 rfl rfl ?_
    refine V_aload_n (j := 0) (q := 4) dX8_escape_3 rfl rfl ?_
    refine V_getP (q := 7) (r := (m + 1)) fX8_7 (W.1.1 0 _ rfl) rfl (W.1.2 0 _ rfl) dX8_escape_4 rfl ?_
    refine V_iconst (q := 8) (v := nI 1) dX8_escape_7 rfl rfl ?_
    refine V_iload_n (j := 1) (q := 9) dX8_escape_8 rfl rfl ?_
    refine V_iaddN (q := 10) dX8_escape_9 rfl ?_
    refine V_iald (q := 11) (W.1.1 1 _ rfl) (by omega) (by decide) dX8_escape_10 rfl ?_
    refine V_rw (y := nI (pSz P r)) (W.2.1.2.1 _ (by omega)) ?_
    refine V_icmp_geN (tgt := 43) (q := 14) dX8_escape_11 rfl rfl (by omega) (by omega) (fun c1 => ?_) (fun c1 => ?_)
    · skip
      refine V_aload_n (j := 0) (q := 44) dX8_escape_43 rfl rfl ?_
      refine V_getP (q := 47) (r := (m + 9)) fX8_35 (W.1.1 0 _ rfl) rfl (W.1.2 9 _ rfl) dX8_escape_44 rfl ?_
      refine V_bipush (q := 49) (v := nI 16) dX8_escape_47 rfl (by decide) ?_
      refine V_iload_n (j := 1) (q := 50) dX8_escape_49 rfl rfl ?_
      refine V_imulN (q := 51) dX8_escape_50 rfl ?_
      refine V_aload_n (j := 0) (q := 52) dX8_escape_51 rfl rfl ?_
      refine V_getP (q := 55) (r := (m + 9)) fX8_35 (W.1.1 0 _ rfl) rfl (W.1.2 9 _ rfl) dX8_escape_52 rfl ?_
      refine V_bipush (q := 57) (v := nI 16) dX8_escape_55 rfl (by decide) ?_
      refine V_iload_n (j := 1) (q := 58) dX8_escape_57 rfl rfl ?_
      refine V_imulN (q := 59) dX8_escape_58 rfl ?_
      refine V_iald (q := 60) (W.1.1 9 _ rfl) (by omega) (by decide) dX8_escape_59 rfl ?_
      refine V_rw (y := hI h (m + 9) (16 * r)) (by rw [F.2 _ (by omega)]) ?_
      refine V_iconst (q := 61) (v := nI 1) dX8_escape_60 rfl rfl ?_
      refine V_iadd (q := 62) dX8_escape_61 rfl ?_
      refine V_sipush (q := 65) (v := nI 255) dX8_escape_62 rfl (by decide) ?_
      refine V_iand (q := 66) dX8_escape_65 rfl ?_
      refine V_iast (q := 67) (W.1.1 9 _ rfl) (by omega) (by decide) dX8_escape_66 rfl ?_
      have W : RF (sI e (m + 9) (16 * r) (((hI h (m + 9) (16 * r)) + (nI 1)) &&& (nI 255))) m P := RF_sI W (by omega)
      refine V_vret rfl dX8_escape_67 rfl rfl ?_
      refine ⟨rfl, ⟨F.1, fun a a1 a2 a3 a4 => by rw [hI_n a2]; exact F.2 a a1, fun k hk => by rw [hI_s, if_neg (by omega)]; exact E2 k (by omega)⟩, ?_, by rw [hI_n (by omega)]; exact F.2 _ (by omega), by rw [hI_n (by omega)]; exact F.2 _ (by omega), by rw [hI_n (by omega), E1, show k = pSz P r by omega], fun j hj => by rw [hI_n (by omega)]; exact E2 j hj⟩
      funext x
      rw [hI_s]
      show _ = upd _ _ _ _
      unfold upd
      by_cases z : x = 16 * r
      · rw [if_pos ⟨rfl, z⟩, if_pos z]
      · rw [if_neg (fun w => z w.2), if_neg z]; rw [F.2 _ (by omega)]
    · skip
      refine V_aload_n (j := 0) (q := 15) dX8_escape_14 rfl rfl ?_
      refine V_bipush (q := 17) (v := nI 31) dX8_escape_15 rfl (by decide) ?_
      refine V_aload_n (j := 0) (q := 18) dX8_escape_17 rfl rfl ?_
      refine V_getI (q := 21) fX8_147 (W.1.1 0 _ rfl) rfl dX8_escape_18 rfl ?_
      refine V_rw (y := esS (hI h (m + 9)) (16 * r) (hI h m 13) k) E1 ?_
      refine V_imul (q := 22) dX8_escape_21 rfl ?_
      refine V_aload_n (j := 0) (q := 23) dX8_escape_22 rfl rfl ?_
      refine V_getP (q := 26) (r := (m + 9)) fX8_35 (W.1.1 0 _ rfl) rfl (W.1.2 9 _ rfl) dX8_escape_23 rfl ?_
      refine V_bipush (q := 28) (v := nI 16) dX8_escape_26 rfl (by decide) ?_
      refine V_iload_n (j := 1) (q := 29) dX8_escape_28 rfl rfl ?_
      refine V_imulN (q := 30) dX8_escape_29 rfl ?_
      refine V_iload_n (j := 2) (q := 31) dX8_escape_30 rfl rfl ?_
      refine V_iaddN (q := 32) dX8_escape_31 rfl ?_
      refine V_iald (q := 33) (W.1.1 9 _ rfl) (by omega) (by decide) dX8_escape_32 rfl ?_
      refine V_rw (y := hI h (m + 9) (16 * r + k)) (by rw [F.2 _ (by omega)]) ?_
      refine V_iadd (q := 34) dX8_escape_33 rfl ?_
      refine V_putI (q := 37) wX8_147 (W.1.1 0 _ rfl) rfl dX8_escape_34 rfl ?_
      have W : RF (sI e m 13 (((nI 31) * (esS (hI h (m + 9)) (16 * r) (hI h m 13) k)) + (hI h (m + 9) (16 * r + k)))) m P := RF_sI W (by omega)
      refine V_iincN (j := 2) (q := 40) (L' := [(2, .int (nI (k + 1))), (0, .ref m), (1, .int (nI r))]) dX8_escape_37 rfl rfl rfl rfl ?_
      refine V_goto (q := 2) dX8_escape_40 rfl ?_
      refine V_sub (L' := [(0, .ref m), (1, .int (nI r)), (2, .int (nI (k + 1)))]) [1, 2, 0] rfl ?_
      refine ih (k + 1) (sI e m 13 (((nI 31) * (esS (hI h (m + 9)) (16 * r) (hI h m 13) k)) + (hI h (m + 9) (16 * r + k)))) ?_ ?_ ?_ ?_ ?_
      · omega
      · exact F.set
      · rw [hI_s, if_pos ⟨rfl, rfl⟩]; rfl
      · intro j hj; rw [hI_s, if_neg (fun w => hj w.2)]; exact E2 j hj
      · omega

set_option maxHeartbeats 4000000 in
set_option maxRecDepth 100000 in
theorem c_escape {g : GX} {h : AH} {m : Nat} {P : PG} (W : RF h m P) {r : Nat} (hr : r < pNr P) : Ct g mX8_escape 0 0 0 [.ref m, .int (nI r)] h (fun ρ η => ρ = none ∧ FX h η m ∧ hI η (m + 9) = upd (hI h (m + 9)) (16 * r) ((hI h (m + 9) (16 * r) + nI 1) &&& nI 255) ∧ hI η (m + 10) = hI h (m + 10) ∧ hI η (m + 11) = hI h (m + 11) ∧ hI η m 13 = esS (hI h (m + 9)) (16 * r) (hI h m 13) (pSz P r) ∧ ∀ j, j ≠ 13 → hI η m j = hI h m j) := by
  refine Ct_intro (by decide +kernel) (Nat.le_of_ble_eq_true rfl) ?_
  show V g mX8_escape _ h 0 0 [(0, .ref m), (1, .int (nI r))] 0 []
  have hN := W.2.2.2.2.1
  have hR := W.2.2.1
  have hS := W.2.2.2.1 r hr
  refine V_iconst (q := 1) (v := nI 0) dX8_escape_0 rfl rfl ?_
  refine V_istore_n (q := 2) (L' := [(2, .int (nI 0)), (0, .ref m), (1, .int (nI r))]) dX8_escape_1 rfl rfl rfl ?_
  refine V_sub (L' := [(0, .ref m), (1, .int (nI r)), (2, .int (nI 0))]) [1, 2, 0] rfl ?_
  refine lp_escape W hr (pSz P r - 0 + 1) 0 h ?_ ?_ ?_ ?_ ?_
  · omega
  · exact FB.rf _
  · rfl
  · exact fun _ _ => rfl
  · exact Nat.lt_succ_self _

set_option maxHeartbeats 4000000 in
set_option maxRecDepth 100000 in
theorem c_adds {g : GX} {h : AH} {m : Nat} {P : PG} (W : RF h m P) {i : Nat} (hi : i < pNi P) (hc : pFd P i 0 = 6) : Ct g mX8_adds 1 0 0 [.ref m, .int (nI i)] h (fun ρ η => ρ = some (.int (bi (ovf (hI h (m + 10) (pFd P i 2)) (hI h (m + 10) (pFd P i 3))))) ∧ η = if ovf (hI h (m + 10) (pFd P i 2)) (hI h (m + 10) (pFd P i 3)) = true then h else sI h (m + 10) (pFd P i 1) ((hI h (m + 10) (pFd P i 2)).toInt64 + (hI h (m + 10) (pFd P i 3)).toInt64).toInt32) := by
  refine Ct_intro (by decide +kernel) (Nat.le_of_ble_eq_true rfl) ?_
  show V g mX8_adds _ h 0 0 [(0, .ref m), (1, .int (nI i))] 0 []
  have hN := W.2.2.2.2.1
  have hR := W.2.2.1
  have h6 := (W.2.2.2.2.2 i hi).2.2.2.2.2.1 hc
  refine V_aload_n (j := 0) (q := 1) dX8_adds_0 rfl rfl ?_
  refine V_getP (q := 4) (r := (m + 10)) fX8_38 (W.1.1 0 _ rfl) rfl (W.1.2 10 _ rfl) dX8_adds_1 rfl ?_
  refine V_aload_n (j := 0) (q := 5) dX8_adds_4 rfl rfl ?_
  refine V_iload_n (j := 1) (q := 6) dX8_adds_5 rfl rfl ?_
  refine V_iconst (q := 7) (v := nI 2) dX8_adds_6 rfl rfl ?_
  refine V_cpV (q := 10) (S := [.ref (m + 10)]) (v := .int (nI (pFd P i 2))) kX8_72 (c_of (i := i) W (by omega) (by omega)) (W.1.1 0 _ rfl) rfl rfl rfl dX8_adds_7 rfl ?_
  refine V_iald (q := 11) (W.1.1 10 _ rfl) (by omega) (by decide) dX8_adds_10 rfl ?_
  refine V_i2l (q := 12) dX8_adds_11 rfl ?_
  refine V_aload_n (j := 0) (q := 13) dX8_adds_12 rfl rfl ?_
  refine V_getP (q := 16) (r := (m + 10)) fX8_38 (W.1.1 0 _ rfl) rfl (W.1.2 10 _ rfl) dX8_adds_13 rfl ?_
  refine V_aload_n (j := 0) (q := 17) dX8_adds_16 rfl rfl ?_
  refine V_iload_n (j := 1) (q := 18) dX8_adds_17 rfl rfl ?_
  refine V_iconst (q := 19) (v := nI 3) dX8_adds_18 rfl rfl ?_
  refine V_cpV (q := 22) (S := [.ref (m + 10), .long (Int32.toInt64 (hI h (m + 10) (pFd P i 2)))]) (v := .int (nI (pFd P i 3))) kX8_72 (c_of (i := i) W (by omega) (by omega)) (W.1.1 0 _ rfl) rfl rfl rfl dX8_adds_19 rfl ?_
  refine V_iald (q := 23) (W.1.1 10 _ rfl) (by omega) (by decide) dX8_adds_22 rfl ?_
  refine V_i2l (q := 24) dX8_adds_23 rfl ?_
  refine V_ladd (q := 25) dX8_adds_24 rfl ?_
  refine V_lstore_n (q := 26) (L' := [(2, .long ((Int32.toInt64 (hI h (m + 10) (pFd P i 2))) + (Int32.toInt64 (hI h (m + 10) (pFd P i 3))))), (0, .ref m), (1, .int (nI i))]) dX8_adds_25 rfl rfl rfl ?_
  refine V_lload_n (j := 0) (q := 27) dX8_adds_26 rfl rfl ?_
  refine V_l2i (q := 28) dX8_adds_27 rfl ?_
  refine V_istore (q := 30) (L' := [(4, .int (Int64.toInt32 ((Int32.toInt64 (hI h (m + 10) (pFd P i 2))) + (Int32.toInt64 (hI h (m + 10) (pFd P i 3)))))), (2, .long ((Int32.toInt64 (hI h (m + 10) (pFd P i 2))) + (Int32.toInt64 (hI h (m + 10) (pFd P i 3))))), (0, .ref m), (1, .int (nI i))]) dX8_adds_28 rfl rfl rfl ?_
  refine V_iload (j := 0) (q := 32) dX8_adds_30 rfl rfl ?_
  refine V_i2l (q := 33) dX8_adds_32 rfl ?_
  refine V_lload_n (j := 1) (q := 34) dX8_adds_33 rfl rfl ?_
  refine V_lcmp (q := 35) dX8_adds_34 rfl ?_
  refine V_if_eq (tgt := 40) (q := 38) dX8_adds_35 rfl rfl (fun c1 => ?_) (fun c1 => ?_)
  · skip
    refine V_aload_n (j := 2) (q := 41) dX8_adds_40 rfl rfl ?_
    refine V_getP (q := 44) (r := (m + 10)) fX8_38 (W.1.1 0 _ rfl) rfl (W.1.2 10 _ rfl) dX8_adds_41 rfl ?_
    refine V_aload_n (j := 2) (q := 45) dX8_adds_44 rfl rfl ?_
    refine V_iload_n (j := 3) (q := 46) dX8_adds_45 rfl rfl ?_
    refine V_iconst (q := 47) (v := nI 1) dX8_adds_46 rfl rfl ?_
    refine V_cpV (q := 50) (S := [.ref (m + 10)]) (v := .int (nI (pFd P i 1))) kX8_72 (c_of (i := i) W (by omega) (by omega)) (W.1.1 0 _ rfl) rfl rfl rfl dX8_adds_47 rfl ?_
    refine V_iload (j := 0) (q := 52) dX8_adds_50 rfl rfl ?_
    refine V_iast (q := 53) (W.1.1 10 _ rfl) (by omega) (by decide) dX8_adds_52 rfl ?_
    have W : RF (sI h (m + 10) (pFd P i 1) (Int64.toInt32 ((Int32.toInt64 (hI h (m + 10) (pFd P i 2))) + (Int32.toInt64 (hI h (m + 10) (pFd P i 3)))))) m P := RF_sI W (by omega)
    refine V_iconst (q := 54) (v := nI 0) dX8_adds_53 rfl rfl ?_
    refine V_rw (y := bi false) rfl ?_
    refine V_zret (b := false) rfl dX8_adds_54 rfl rfl ?_
    rw [lgc0] at c1
    exact ⟨pvb (show false = ovf _ _ from (decide_eq_false (fun w => w c1)).symm), by rw [if_neg (by rw [show ovf _ _ = false from decide_eq_false (fun w => w c1)]; decide)]⟩
  · skip
    refine V_iconst (q := 39) (v := nI 1) dX8_adds_38 rfl rfl ?_
    refine V_rw (y := bi true) rfl ?_
    refine V_zret (b := true) rfl dX8_adds_39 rfl rfl ?_
    rw [lgc0] at c1
    exact ⟨pvb (show true = ovf _ _ from (decide_eq_true c1).symm), by rw [if_pos (show ovf _ _ = true from decide_eq_true c1)]⟩


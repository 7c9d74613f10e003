set_option maxHeartbeats 4000000 in
set_option maxRecDepth 100000 in
theorem c_isAccess {g : GX} {h : AH} {m : Nat} {P : PG} (W : RF h m P) {i : Nat} (hi : i < pNi P) : Ct g mX8_isAccess 1 0 0 [.ref m, .int (nI i)] h (fun ρ η => ρ = some (.int (bi (isAc P i))) ∧ η = h) := by
  refine Ct_intro (by decide +kernel) (Nat.le_of_ble_eq_true rfl) ?_
  show V g mX8_isAccess _ h 0 0 [(0, .ref m), (1, .int (nI i))] 0 []
  have hk := (W.2.2.2.2.2 i hi).1
  refine V_aload_n (j := 0) (q := 1) dX8_isAccess_0 rfl rfl ?_
  refine V_iload_n (j := 1) (q := 2) dX8_isAccess_1 rfl rfl ?_
  refine V_iconst (q := 3) (v := nI 0) dX8_isAccess_2 rfl rfl ?_
  refine V_cpV (q := 6) (S := []) (v := .int (nI (pFd P i 0))) kX8_72 (c_of (i := i) W (by omega) (by decide)) (W.1.1 0 _ rfl) rfl rfl rfl dX8_isAccess_3 rfl ?_
  refine V_iconst (q := 7) (v := nI 1) dX8_isAccess_6 rfl rfl ?_
  refine V_icmp_eqN (tgt := 20) (q := 10) dX8_isAccess_7 rfl rfl (by omega) (by omega) (fun c1 => ?_) (fun c1 => ?_)
  · skip
    refine V_iconst (q := 21) (v := nI 1) dX8_isAccess_20 rfl rfl ?_
    refine V_goto (q := 25) dX8_isAccess_21 rfl ?_
    refine V_rw (y := bi true) rfl ?_
    refine V_zret (b := true) rfl dX8_isAccess_25 rfl rfl ?_
    exact ⟨pvb (by simp [isAc, c1]), rfl⟩
  · skip
    refine V_aload_n (j := 0) (q := 11) dX8_isAccess_10 rfl rfl ?_
    refine V_iload_n (j := 1) (q := 12) dX8_isAccess_11 rfl rfl ?_
    refine V_iconst (q := 13) (v := nI 0) dX8_isAccess_12 rfl rfl ?_
    refine V_cpV (q := 16) (S := []) (v := .int (nI (pFd P i 0))) kX8_72 (c_of (i := i) W (by omega) (by decide)) (W.1.1 0 _ rfl) rfl rfl rfl dX8_isAccess_13 rfl ?_
    refine V_iconst (q := 17) (v := nI 2) dX8_isAccess_16 rfl rfl ?_
    refine V_icmp_neN (tgt := 24) (q := 20) dX8_isAccess_17 rfl rfl (by omega) (by omega) (fun c2 => ?_) (fun c2 => ?_)
    · skip
      refine V_iconst (q := 25) (v := nI 0) dX8_isAccess_24 rfl rfl ?_
      refine V_rw (y := bi false) rfl ?_
      refine V_zret (b := false) rfl dX8_isAccess_25 rfl rfl ?_
      exact ⟨pvb (by simp [isAc, c1, c2]), rfl⟩
    · skip
      refine V_iconst (q := 21) (v := nI 1) dX8_isAccess_20 rfl rfl ?_
      refine V_goto (q := 25) dX8_isAccess_21 rfl ?_
      refine V_rw (y := bi true) rfl ?_
      refine V_zret (b := true) rfl dX8_isAccess_25 rfl rfl ?_
      exact ⟨pvb (by simp [isAc, c1, c2]), rfl⟩

set_option maxHeartbeats 4000000 in
set_option maxRecDepth 100000 in
theorem c_holds {g : GX} {h : AH} {a b c : Nat} (h1 : a + b < 2 ^ 31) (h2 : c < 2 ^ 31) : Ct g mX8_holds 0 0 0 [.int (nI a), .int (nI b), .int (nI c)] h (fun ρ η => ρ = some (.int (bi (hld a b c))) ∧ η = h) := by
  refine Ct_intro (by decide +kernel) (Nat.le_of_ble_eq_true rfl) ?_
  show V g mX8_holds _ h 0 0 [(0, .int (nI a)), (1, .int (nI b)), (2, .int (nI c))] 0 []
  refine V_iload_n (j := 2) (q := 1) dX8_holds_0 rfl rfl ?_
  refine V_iload_n (j := 0) (q := 2) dX8_holds_1 rfl rfl ?_
  refine V_icmp_ltN (tgt := 16) (q := 5) dX8_holds_2 rfl rfl (by omega) (by omega) (fun c1 => ?_) (fun c1 => ?_)
  · skip
    refine V_iconst (q := 17) (v := nI 0) dX8_holds_16 rfl rfl ?_
    refine V_rw (y := bi false) rfl ?_
    refine V_zret (b := false) rfl dX8_holds_17 rfl rfl ?_
    exact ⟨pvb (by simp [hld]; omega), rfl⟩
  · skip
    refine V_iload_n (j := 2) (q := 6) dX8_holds_5 rfl rfl ?_
    refine V_iload_n (j := 0) (q := 7) dX8_holds_6 rfl rfl ?_
    refine V_iload_n (j := 1) (q := 8) dX8_holds_7 rfl rfl ?_
    refine V_iaddN (q := 9) dX8_holds_8 rfl ?_
    refine V_icmp_geN (tgt := 16) (q := 12) dX8_holds_9 rfl rfl (by omega) (by omega) (fun c2 => ?_) (fun c2 => ?_)
    · skip
      refine V_iconst (q := 17) (v := nI 0) dX8_holds_16 rfl rfl ?_
      refine V_rw (y := bi false) rfl ?_
      refine V_zret (b := false) rfl dX8_holds_17 rfl rfl ?_
      exact ⟨pvb (by simp [hld]; omega), rfl⟩
    · skip
      refine V_iconst (q := 13) (v := nI 1) dX8_holds_12 rfl rfl ?_
      refine V_goto (q := 17) dX8_holds_13 rfl ?_
      refine V_rw (y := bi true) rfl ?_
      refine V_zret (b := true) rfl dX8_holds_17 rfl rfl ?_
      exact ⟨pvb (by simp [hld]; omega), rfl⟩

set_option maxHeartbeats 4000000 in
set_option maxRecDepth 100000 in
theorem lp_doesEscape {g : GX} {h : AH} {m : Nat} {P : PG} (W : RF h m P) {r : Nat} (hr : r < 2 ^ 31) : ∀ (t : Nat) (i : Nat) (b : Bool), (i ≤ pNi P) → (b = anyN i (esI P r)) → pNi P - i < t → V g mX8_doesEscape (thM g 1 0 0 (fun ρ η => ρ = some (.int (bi (esc P r))) ∧ η = h)) h 0 0 [(0, .ref m), (1, .int (nI r)), (2, .int (bi b)), (3, .int (nI i))] 4 [] := by
  intro t
  induction t with
  | zero =>
    intro i b hi hb hfu
    exact absurd hfu (Nat.not_lt_zero _)
  | succ t ih =>
    intro i b hi hb hfu
    have hN := W.2.2.2.2.1
    have hR := W.2.2.1
    refine V_iload_n (j := 3) (q := 5) dX8_doesEscape_4 rfl rfl ?_
    refine V_aload_n (j := 0) (q := 6) dX8_doesEscape_5 rfl rfl ?_
    refine V_getP (q := 9) (r := (m + 1)) fX8_7 (W.1.1 0 _ rfl) rfl (W.1.2 0 _ rfl) dX8_doesEscape_6 rfl ?_
    refine V_iconst (q := 10) (v := nI 5) dX8_doesEscape_9 rfl rfl ?_
    refine V_iald (q := 11) (W.1.1 1 _ rfl) (by omega) (by decide) dX8_doesEscape_10 rfl ?_
    refine V_rw (y := nI (pNi P)) W.2.1.2.2.1 ?_
    refine V_icmp_geN (tgt := 50) (q := 14) dX8_doesEscape_11 rfl rfl (by omega) (by omega) (fun c1 => ?_) (fun c1 => ?_)
    · skip
      refine V_iload_n (j := 2) (q := 51) dX8_doesEscape_50 rfl rfl ?_
      refine V_zret (b := b) rfl dX8_doesEscape_51 rfl rfl ?_
      exact ⟨pvb (by rw [hb, show i = pNi P by omega]; rfl), rfl⟩
    · skip
      have hk := ok_kd W.2.2 c1
      refine V_iload_n (j := 2) (q := 15) dX8_doesEscape_14 rfl rfl ?_
      refine V_if_neB (tgt := 38) (q := 18) dX8_doesEscape_15 rfl rfl (fun c2 => ?_) (fun c2 => ?_)
      · skip
        refine V_iconst (q := 39) (v := nI 1) dX8_doesEscape_38 rfl rfl ?_
        refine V_goto (q := 43) dX8_doesEscape_39 rfl ?_
        refine V_rw (y := bi true) rfl ?_
        refine V_istore_n (q := 44) (L' := [(2, .int (bi true)), (0, .ref m), (1, .int (nI r)), (3, .int (nI i))]) dX8_doesEscape_43 rfl rfl rfl ?_
        refine V_iincN (j := 3) (q := 47) (L' := [(3, .int (nI (i + 1))), (2, .int (bi true)), (0, .ref m), (1, .int (nI r))]) dX8_doesEscape_44 rfl rfl rfl rfl ?_
        refine V_goto (q := 4) dX8_doesEscape_47 rfl ?_
        refine V_sub (L' := [(0, .ref m), (1, .int (nI r)), (2, .int (bi true)), (3, .int (nI (i + 1)))]) [2, 3, 1, 0] rfl ?_
        refine ih (i + 1) true ?_ ?_ ?_
        · omega
        · rw [anyN_s, ← hb]; simp [esI, c1, c2]
        · omega
      · skip
        refine V_aload_n (j := 0) (q := 19) dX8_doesEscape_18 rfl rfl ?_
        refine V_iload_n (j := 3) (q := 20) dX8_doesEscape_19 rfl rfl ?_
        refine V_iconst (q := 21) (v := nI 0) dX8_doesEscape_20 rfl rfl ?_
        refine V_cpV (q := 24) (S := []) (v := .int (nI (pFd P i 0))) kX8_72 (c_of (i := i) W (by omega) (by decide)) (W.1.1 0 _ rfl) rfl rfl rfl dX8_doesEscape_21 rfl ?_
        refine V_iconst (q := 25) (v := nI 4) dX8_doesEscape_24 rfl rfl ?_
        refine V_icmp_neN (tgt := 42) (q := 28) dX8_doesEscape_25 rfl rfl (by omega) (by omega) (fun c3 => ?_) (fun c3 => ?_)
        · skip
          refine V_iconst (q := 43) (v := nI 0) dX8_doesEscape_42 rfl rfl ?_
          refine V_rw (y := bi false) rfl ?_
          refine V_istore_n (q := 44) (L' := [(2, .int (bi false)), (0, .ref m), (1, .int (nI r)), (3, .int (nI i))]) dX8_doesEscape_43 rfl rfl rfl ?_
          refine V_iincN (j := 3) (q := 47) (L' := [(3, .int (nI (i + 1))), (2, .int (bi false)), (0, .ref m), (1, .int (nI r))]) dX8_doesEscape_44 rfl rfl rfl rfl ?_
          refine V_goto (q := 4) dX8_doesEscape_47 rfl ?_
          refine V_sub (L' := [(0, .ref m), (1, .int (nI r)), (2, .int (bi false)), (3, .int (nI (i + 1)))]) [2, 3, 1, 0] rfl ?_
          refine ih (i + 1) false ?_ ?_ ?_
          · omega
          · rw [anyN_s, ← hb]; simp [esI, c1, c2, c3]
          · omega
        · skip
          have hk2 := ok_es W.2.2 (by omega) c3
          refine V_aload_n (j := 0) (q := 29) dX8_doesEscape_28 rfl rfl ?_
          refine V_iload_n (j := 3) (q := 30) dX8_doesEscape_29 rfl rfl ?_
          refine V_iconst (q := 31) (v := nI 1) dX8_doesEscape_30 rfl rfl ?_
          refine V_cpV (q := 34) (S := []) (v := .int (nI (pFd P i 1))) kX8_72 (c_of (i := i) W (by omega) (by decide)) (W.1.1 0 _ rfl) rfl rfl rfl dX8_doesEscape_31 rfl ?_
          refine V_iload_n (j := 1) (q := 35) dX8_doesEscape_34 rfl rfl ?_
          refine V_icmp_neN (tgt := 42) (q := 38) dX8_doesEscape_35 rfl rfl (by omega) (by omega) (fun c4 => ?_) (fun c4 => ?_)
          · skip
            refine V_iconst (q := 43) (v := nI 0) dX8_doesEscape_42 rfl rfl ?_
            refine V_rw (y := bi false) rfl ?_
            refine V_istore_n (q := 44) (L' := [(2, .int (bi false)), (0, .ref m), (1, .int (nI r)), (3, .int (nI i))]) dX8_doesEscape_43 rfl rfl rfl ?_
            refine V_iincN (j := 3) (q := 47) (L' := [(3, .int (nI (i + 1))), (2, .int (bi false)), (0, .ref m), (1, .int (nI r))]) dX8_doesEscape_44 rfl rfl rfl rfl ?_
            refine V_goto (q := 4) dX8_doesEscape_47 rfl ?_
            refine V_sub (L' := [(0, .ref m), (1, .int (nI r)), (2, .int (bi false)), (3, .int (nI (i + 1)))]) [2, 3, 1, 0] rfl ?_
            refine ih (i + 1) false ?_ ?_ ?_
            · omega
            · rw [anyN_s, ← hb]; simp [esI, c1, c2, c3, c4]
            · omega
          · skip
            refine V_iconst (q := 39) (v := nI 1) dX8_doesEscape_38 rfl rfl ?_
            refine V_goto (q := 43) dX8_doesEscape_39 rfl ?_
            refine V_rw (y := bi true) rfl ?_
            refine V_istore_n (q := 44) (L' := [(2, .int (bi true)), (0, .ref m), (1, .int (nI r)), (3, .int (nI i))]) dX8_doesEscape_43 rfl rfl rfl ?_
            refine V_iincN (j := 3) (q := 47) (L' := [(3, .int (nI (i + 1))), (2, .int (bi true)), (0, .ref m), (1, .int (nI r))]) dX8_doesEscape_44 rfl rfl rfl rfl ?_
            refine V_goto (q := 4) dX8_doesEscape_47 rfl ?_
            refine V_sub (L' := [(0, .ref m), (1, .int (nI r)), (2, .int (bi true)), (3, .int (nI (i + 1)))]) [2, 3, 1, 0] rfl ?_
            refine ih (i + 1) true ?_ ?_ ?_
            · omega
            · rw [anyN_s, ← hb]; simp [esI, c1, c2, c3, c4]
            · omega

set_option maxHeartbeats 4000000 in
set_option maxRecDepth 100000 in
theorem c_doesEscape {g : GX} {h : AH} {m : Nat} {P : PG} (W : RF h m P) {r : Nat} (hr : r < 2 ^ 31) : Ct g mX8_doesEscape 1 0 0 [.ref m, .int (nI r)] h (fun ρ η => ρ = some (.int (bi (esc P r))) ∧ η = h) := by
  refine Ct_intro (by decide +kernel) (Nat.le_of_ble_eq_true rfl) ?_
  show V g mX8_doesEscape _ h 0 0 [(0, .ref m), (1, .int (nI r))] 0 []
  have hN := W.2.2.2.2.1
  have hR := W.2.2.1
  refine V_iconst (q := 1) (v := nI 0) dX8_doesEscape_0 rfl rfl ?_
  refine V_rw (y := bi false) rfl ?_
  refine V_istore_n (q := 2) (L' := [(2, .int (bi false)), (0, .ref m), (1, .int (nI r))]) dX8_doesEscape_1 rfl rfl rfl ?_
  refine V_iconst (q := 3) (v := nI 0) dX8_doesEscape_2 rfl rfl ?_
  refine V_istore_n (q := 4) (L' := [(3, .int (nI 0)), (2, .int (bi false)), (0, .ref m), (1, .int (nI r))]) dX8_doesEscape_3 rfl rfl rfl ?_
  refine V_sub (L' := [(0, .ref m), (1, .int (nI r)), (2, .int (bi false)), (3, .int (nI 0))]) [2, 3, 1, 0] rfl ?_
  refine lp_doesEscape W hr (pNi P - 0 + 1) 0 false ?_ ?_ ?_
  · omega
  · rfl
  · exact Nat.lt_succ_self _

set_option maxHeartbeats 4000000 in
set_option maxRecDepth 100000 in
theorem lp_isAccessed {g : GX} {h : AH} {m : Nat} {P : PG} (W : RF h m P) {r k : Nat} {wn : Bool} (hr : r < 2 ^ 30) (hk : k < 2 ^ 30) : ∀ (t : Nat) (i : Nat) (b : Bool), (i ≤ pNi P) → (b = anyN i (acW P r k wn)) → pNi P - i < t → V g mX8_isAccessed (thM g 2 0 0 (fun ρ η => ρ = some (.int (bi (anyN (pNi P) (acW P r k wn)))) ∧ η = h)) h 0 0 [(0, .ref m), (1, .int (nI r)), (2, .int (nI k)), (3, .int (bi wn)), (4, .int (bi b)), (5, .int (nI i))] 6 [] := by
  intro t
  induction t with
  | zero =>
    intro i b hi hb hfu
    exact absurd hfu (Nat.not_lt_zero _)
  | succ t ih =>
    intro i b hi hb hfu
    have hN := W.2.2.2.2.1
    have hR := W.2.2.1
    refine V_iload (j := 5) (q := 8) dX8_isAccessed_6 rfl rfl ?_
    refine V_aload_n (j := 0) (q := 9) dX8_isAccessed_8 rfl rfl ?_
    refine V_getP (q := 12) (r := (m + 1)) fX8_7 (W.1.1 0 _ rfl) rfl (W.1.2 0 _ rfl) dX8_isAccessed_9 rfl ?_
    refine V_iconst (q := 13) (v := nI 5) dX8_isAccessed_12 rfl rfl ?_
    refine V_iald (q := 14) (W.1.1 1 _ rfl) (by omega) (by decide) dX8_isAccessed_13 rfl ?_
    refine V_rw (y := nI (pNi P)) W.2.1.2.2.1 ?_
    refine V_icmp_geN (tgt := 115) (q := 17) dX8_isAccessed_14 rfl rfl (by omega) (by omega) (fun c1 => ?_) (fun c1 => ?_)
    · skip
      refine V_iload (j := 4) (q := 117) dX8_isAccessed_115 rfl rfl ?_
      refine V_zret (b := b) rfl dX8_isAccessed_117 rfl rfl ?_
      exact ⟨pvb (by rw [hb, show i = pNi P by omega]), rfl⟩
    · skip
      refine V_aload_n (j := 0) (q := 18) dX8_isAccessed_17 rfl rfl ?_
      refine V_iload (j := 5) (q := 20) dX8_isAccessed_18 rfl rfl ?_
      refine V_cpV (q := 23) (S := []) (v := .int (bi (isAc P i))) kX8_76 (c_isAccess (i := i) W (by omega)) (W.1.1 0 _ rfl) rfl rfl rfl dX8_isAccessed_20 rfl ?_
      refine V_if_eqB (tgt := 62) (q := 26) dX8_isAccessed_23 rfl rfl (fun c2 => ?_) (fun c2 => ?_)
      · skip
        refine V_iconst (q := 63) (v := nI 0) dX8_isAccessed_62 rfl rfl ?_
        refine V_rw (y := bi false) rfl ?_
        refine V_istore (q := 65) (L' := [(6, .int (bi false)), (0, .ref m), (1, .int (nI r)), (2, .int (nI k)), (3, .int (bi wn)), (4, .int (bi b)), (5, .int (nI i))]) dX8_isAccessed_63 rfl rfl rfl ?_
        refine V_iload (j := 5) (q := 67) dX8_isAccessed_65 rfl rfl ?_
        refine V_if_neB (tgt := 102) (q := 70) dX8_isAccessed_67 rfl rfl (fun c3 => ?_) (fun c3 => ?_)
        · skip
          refine V_iconst (q := 103) (v := nI 1) dX8_isAccessed_102 rfl rfl ?_
          refine V_goto (q := 107) dX8_isAccessed_103 rfl ?_
          refine V_rw (y := bi true) rfl ?_
          refine V_istore (q := 109) (L' := [(4, .int (bi true)), (6, .int (bi false)), (0, .ref m), (1, .int (nI r)), (2, .int (nI k)), (3, .int (bi wn)), (5, .int (nI i))]) dX8_isAccessed_107 rfl rfl rfl ?_
          refine V_iincN (j := 6) (q := 112) (L' := [(5, .int (nI (i + 1))), (4, .int (bi true)), (6, .int (bi false)), (0, .ref m), (1, .int (nI r)), (2, .int (nI k)), (3, .int (bi wn))]) dX8_isAccessed_109 rfl rfl rfl rfl ?_
          refine V_goto (q := 6) dX8_isAccessed_112 rfl ?_
          refine V_sub (L' := [(0, .ref m), (1, .int (nI r)), (2, .int (nI k)), (3, .int (bi wn)), (4, .int (bi true)), (5, .int (nI (i + 1)))]) [3, 4, 5, 6, 1, 0] rfl ?_
          refine ih (i + 1) true ?_ ?_ ?_
          · omega
          · rw [anyN_s, ← hb]; simp [acW, acI, c1, c2, c3]
          · omega
        · skip
          refine V_iload (j := 0) (q := 72) dX8_isAccessed_70 rfl rfl ?_
          refine V_if_eqB (tgt := 106) (q := 75) dX8_isAccessed_72 rfl rfl (fun _ => ?_) (fun z => absurd z (by decide))
          refine V_iconst (q := 107) (v := nI 0) dX8_isAccessed_106 rfl rfl ?_
          refine V_rw (y := bi false) rfl ?_
          refine V_istore (q := 109) (L' := [(4, .int (bi false)), (6, .int (bi false)), (0, .ref m), (1, .int (nI r)), (2, .int (nI k)), (3, .int (bi wn)), (5, .int (nI i))]) dX8_isAccessed_107 rfl rfl rfl ?_
          refine V_iincN (j := 6) (q := 112) (L' := [(5, .int (nI (i + 1))), (4, .int (bi false)), (6, .int (bi false)), (0, .ref m), (1, .int (nI r)), (2, .int (nI k)), (3, .int (bi wn))]) dX8_isAccessed_109 rfl rfl rfl rfl ?_
          refine V_goto (q := 6) dX8_isAccessed_112 rfl ?_
          refine V_sub (L' := [(0, .ref m), (1, .int (nI r)), (2, .int (nI k)), (3, .int (bi wn)), (4, .int (bi false)), (5, .int (nI (i + 1)))]) [3, 4, 5, 6, 1, 0] rfl ?_
          refine ih (i + 1) false ?_ ?_ ?_
          · omega
          · rw [anyN_s, ← hb]; simp [acW, acI, c1, c2, c3]
          · omega
      · skip
        have hac := ok_ac W.2.2 (by omega) c2
        refine V_aload_n (j := 0) (q := 27) dX8_isAccessed_26 rfl rfl ?_
        refine V_iload (j := 5) (q := 29) dX8_isAccessed_27 rfl rfl ?_
        refine V_iconst (q := 30) (v := nI 1) dX8_isAccessed_29 rfl rfl ?_
        refine V_cpV (q := 33) (S := []) (v := .int (nI (pFd P i 1))) kX8_72 (c_of (i := i) W (by omega) (by decide)) (W.1.1 0 _ rfl) rfl rfl rfl dX8_isAccessed_30 rfl ?_
        refine V_iload_n (j := 1) (q := 34) dX8_isAccessed_33 rfl rfl ?_
        refine V_icmp_neN (tgt := 62) (q := 37) dX8_isAccessed_34 rfl rfl (by omega) (by omega) (fun c5 => ?_) (fun c5 => ?_)
        · skip
          refine V_iconst (q := 63) (v := nI 0) dX8_isAccessed_62 rfl rfl ?_
          refine V_rw (y := bi false) rfl ?_
          refine V_istore (q := 65) (L' := [(6, .int (bi false)), (0, .ref m), (1, .int (nI r)), (2, .int (nI k)), (3, .int (bi wn)), (4, .int (bi b)), (5, .int (nI i))]) dX8_isAccessed_63 rfl rfl rfl ?_
          refine V_iload (j := 5) (q := 67) dX8_isAccessed_65 rfl rfl ?_
          refine V_if_neB (tgt := 102) (q := 70) dX8_isAccessed_67 rfl rfl (fun c6 => ?_) (fun c6 => ?_)
          · skip
            refine V_iconst (q := 103) (v := nI 1) dX8_isAccessed_102 rfl rfl ?_
            refine V_goto (q := 107) dX8_isAccessed_103 rfl ?_
            refine V_rw (y := bi true) rfl ?_
            refine V_istore (q := 109) (L' := [(4, .int (bi true)), (6, .int (bi false)), (0, .ref m), (1, .int (nI r)), (2, .int (nI k)), (3, .int (bi wn)), (5, .int (nI i))]) dX8_isAccessed_107 rfl rfl rfl ?_
            refine V_iincN (j := 6) (q := 112) (L' := [(5, .int (nI (i + 1))), (4, .int (bi true)), (6, .int (bi false)), (0, .ref m), (1, .int (nI r)), (2, .int (nI k)), (3, .int (bi wn))]) dX8_isAccessed_109 rfl rfl rfl rfl ?_
            refine V_goto (q := 6) dX8_isAccessed_112 rfl ?_
            refine V_sub (L' := [(0, .ref m), (1, .int (nI r)), (2, .int (nI k)), (3, .int (bi wn)), (4, .int (bi true)), (5, .int (nI (i + 1)))]) [3, 4, 5, 6, 1, 0] rfl ?_
            refine ih (i + 1) true ?_ ?_ ?_
            · omega
            · rw [anyN_s, ← hb]; simp [acW, acI, c1, c2, c5, c6]
            · omega
          · skip
            refine V_iload (j := 0) (q := 72) dX8_isAccessed_70 rfl rfl ?_
            refine V_if_eqB (tgt := 106) (q := 75) dX8_isAccessed_72 rfl rfl (fun _ => ?_) (fun z => absurd z (by decide))
            refine V_iconst (q := 107) (v := nI 0) dX8_isAccessed_106 rfl rfl ?_
            refine V_rw (y := bi false) rfl ?_
            refine V_istore (q := 109) (L' := [(4, .int (bi false)), (6, .int (bi false)), (0, .ref m), (1, .int (nI r)), (2, .int (nI k)), (3, .int (bi wn)), (5, .int (nI i))]) dX8_isAccessed_107 rfl rfl rfl ?_
            refine V_iincN (j := 6) (q := 112) (L' := [(5, .int (nI (i + 1))), (4, .int (bi false)), (6, .int (bi false)), (0, .ref m), (1, .int (nI r)), (2, .int (nI k)), (3, .int (bi wn))]) dX8_isAccessed_109 rfl rfl rfl rfl ?_
            refine V_goto (q := 6) dX8_isAccessed_112 rfl ?_
            refine V_sub (L' := [(0, .ref m), (1, .int (nI r)), (2, .int (nI k)), (3, .int (bi wn)), (4, .int (bi false)), (5, .int (nI (i + 1)))]) [3, 4, 5, 6, 1, 0] rfl ?_
            refine ih (i + 1) false ?_ ?_ ?_
            · omega
            · rw [anyN_s, ← hb]; simp [acW, acI, c1, c2, c5, c6]
            · omega
        · skip
          refine V_aload_n (j := 0) (q := 38) dX8_isAccessed_37 rfl rfl ?_
          refine V_iload (j := 5) (q := 40) dX8_isAccessed_38 rfl rfl ?_
          refine V_iconst (q := 41) (v := nI 2) dX8_isAccessed_40 rfl rfl ?_
          refine V_cpV (q := 44) (S := []) (v := .int (nI (pFd P i 2))) kX8_72 (c_of (i := i) W (by omega) (by decide)) (W.1.1 0 _ rfl) rfl rfl rfl dX8_isAccessed_41 rfl ?_
          refine V_aload_n (j := 0) (q := 45) dX8_isAccessed_44 rfl rfl ?_
          refine V_iload (j := 5) (q := 47) dX8_isAccessed_45 rfl rfl ?_
          refine V_iconst (q := 48) (v := nI 3) dX8_isAccessed_47 rfl rfl ?_
          refine V_cpV (q := 51) (S := [.int (nI (pFd P i 2))]) (v := .int (nI (pFd P i 3))) kX8_72 (c_of (i := i) W (by omega) (by decide)) (W.1.1 0 _ rfl) rfl rfl rfl dX8_isAccessed_48 rfl ?_
          refine V_iload_n (j := 2) (q := 52) dX8_isAccessed_51 rfl rfl ?_
          refine V_cpS (q := 55) (S := []) (v := .int (bi (hld (pFd P i 2) (pFd P i 3) k))) kX8_79 (c_holds (a := pFd P i 2) (b := pFd P i 3) (c := k) (by omega) (by omega)) rfl rfl rfl dX8_isAccessed_52 rfl ?_
          refine V_if_eqB (tgt := 62) (q := 58) dX8_isAccessed_55 rfl rfl (fun c8 => ?_) (fun c8 => ?_)
          · skip
            refine V_iconst (q := 63) (v := nI 0) dX8_isAccessed_62 rfl rfl ?_
            refine V_rw (y := bi false) rfl ?_
            refine V_istore (q := 65) (L' := [(6, .int (bi false)), (0, .ref m), (1, .int (nI r)), (2, .int (nI k)), (3, .int (bi wn)), (4, .int (bi b)), (5, .int (nI i))]) dX8_isAccessed_63 rfl rfl rfl ?_
            refine V_iload (j := 5) (q := 67) dX8_isAccessed_65 rfl rfl ?_
            refine V_if_neB (tgt := 102) (q := 70) dX8_isAccessed_67 rfl rfl (fun c9 => ?_) (fun c9 => ?_)
            · skip
              refine V_iconst (q := 103) (v := nI 1) dX8_isAccessed_102 rfl rfl ?_
              refine V_goto (q := 107) dX8_isAccessed_103 rfl ?_
              refine V_rw (y := bi true) rfl ?_
              refine V_istore (q := 109) (L' := [(4, .int (bi true)), (6, .int (bi false)), (0, .ref m), (1, .int (nI r)), (2, .int (nI k)), (3, .int (bi wn)), (5, .int (nI i))]) dX8_isAccessed_107 rfl rfl rfl ?_
              refine V_iincN (j := 6) (q := 112) (L' := [(5, .int (nI (i + 1))), (4, .int (bi true)), (6, .int (bi false)), (0, .ref m), (1, .int (nI r)), (2, .int (nI k)), (3, .int (bi wn))]) dX8_isAccessed_109 rfl rfl rfl rfl ?_
              refine V_goto (q := 6) dX8_isAccessed_112 rfl ?_
              refine V_sub (L' := [(0, .ref m), (1, .int (nI r)), (2, .int (nI k)), (3, .int (bi wn)), (4, .int (bi true)), (5, .int (nI (i + 1)))]) [3, 4, 5, 6, 1, 0] rfl ?_
              refine ih (i + 1) true ?_ ?_ ?_
              · omega
              · rw [anyN_s, ← hb]; simp [acW, acI, c1, c2, c5, c8, c9]
              · omega
            · skip
              refine V_iload (j := 0) (q := 72) dX8_isAccessed_70 rfl rfl ?_
              refine V_if_eqB (tgt := 106) (q := 75) dX8_isAccessed_72 rfl rfl (fun _ => ?_) (fun z => absurd z (by decide))
              refine V_iconst (q := 107) (v := nI 0) dX8_isAccessed_106 rfl rfl ?_
              refine V_rw (y := bi false) rfl ?_
              refine V_istore (q := 109) (L' := [(4, .int (bi false)), (6, .int (bi false)), (0, .ref m), (1, .int (nI r)), (2, .int (nI k)), (3, .int (bi wn)), (5, .int (nI i))]) dX8_isAccessed_107 rfl rfl rfl ?_
              refine V_iincN (j := 6) (q := 112) (L' := [(5, .int (nI (i + 1))), (4, .int (bi false)), (6, .int (bi false)), (0, .ref m), (1, .int (nI r)), (2, .int (nI k)), (3, .int (bi wn))]) dX8_isAccessed_109 rfl rfl rfl rfl ?_
              refine V_goto (q := 6) dX8_isAccessed_112 rfl ?_
              refine V_sub (L' := [(0, .ref m), (1, .int (nI r)), (2, .int (nI k)), (3, .int (bi wn)), (4, .int (bi false)), (5, .int (nI (i + 1)))]) [3, 4, 5, 6, 1, 0] rfl ?_
              refine ih (i + 1) false ?_ ?_ ?_
              · omega
              · rw [anyN_s, ← hb]; simp [acW, acI, c1, c2, c5, c8, c9]
              · omega
          · skip
            refine V_iconst (q := 59) (v := nI 1) dX8_isAccessed_58 rfl rfl ?_
            refine V_goto (q := 63) dX8_isAccessed_59 rfl ?_
            refine V_rw (y := bi true) rfl ?_
            refine V_istore (q := 65) (L' := [(6, .int (bi true)), (0, .ref m), (1, .int (nI r)), (2, .int (nI k)), (3, .int (bi wn)), (4, .int (bi b)), (5, .int (nI i))]) dX8_isAccessed_63 rfl rfl rfl ?_
            refine V_iload (j := 5) (q := 67) dX8_isAccessed_65 rfl rfl ?_
            refine V_if_neB (tgt := 102) (q := 70) dX8_isAccessed_67 rfl rfl (fun c11 => ?_) (fun c11 => ?_)
            · skip
              refine V_iconst (q := 103) (v := nI 1) dX8_isAccessed_102 rfl rfl ?_
              refine V_goto (q := 107) dX8_isAccessed_103 rfl ?_
              refine V_rw (y := bi true) rfl ?_
              refine V_istore (q := 109) (L' := [(4, .int (bi true)), (6, .int (bi true)), (0, .ref m), (1, .int (nI r)), (2, .int (nI k)), (3, .int (bi wn)), (5, .int (nI i))]) dX8_isAccessed_107 rfl rfl rfl ?_
              refine V_iincN (j := 6) (q := 112) (L' := [(5, .int (nI (i + 1))), (4, .int (bi true)), (6, .int (bi true)), (0, .ref m), (1, .int (nI r)), (2, .int (nI k)), (3, .int (bi wn))]) dX8_isAccessed_109 rfl rfl rfl rfl ?_
              refine V_goto (q := 6) dX8_isAccessed_112 rfl ?_
              refine V_sub (L' := [(0, .ref m), (1, .int (nI r)), (2, .int (nI k)), (3, .int (bi wn)), (4, .int (bi true)), (5, .int (nI (i + 1)))]) [3, 4, 5, 6, 1, 0] rfl ?_
              refine ih (i + 1) true ?_ ?_ ?_
              · omega
              · rw [anyN_s, ← hb]; simp [acW, acI, c1, c2, c5, c8, c11]
              · omega
            · skip
              refine V_iload (j := 0) (q := 72) dX8_isAccessed_70 rfl rfl ?_
              refine V_if_eqB (tgt := 106) (q := 75) dX8_isAccessed_72 rfl rfl (fun z => absurd z (by decide)) (fun _ => ?_)
              refine V_iload_n (j := 4) (q := 76) dX8_isAccessed_75 rfl rfl ?_
              refine V_if_eqB (tgt := 102) (q := 79) dX8_isAccessed_76 rfl rfl (fun c13 => ?_) (fun c13 => ?_)
              · skip
                refine V_iconst (q := 103) (v := nI 1) dX8_isAccessed_102 rfl rfl ?_
                refine V_goto (q := 107) dX8_isAccessed_103 rfl ?_
                refine V_rw (y := bi true) rfl ?_
                refine V_istore (q := 109) (L' := [(4, .int (bi true)), (6, .int (bi true)), (0, .ref m), (1, .int (nI r)), (2, .int (nI k)), (3, .int (bi wn)), (5, .int (nI i))]) dX8_isAccessed_107 rfl rfl rfl ?_
                refine V_iincN (j := 6) (q := 112) (L' := [(5, .int (nI (i + 1))), (4, .int (bi true)), (6, .int (bi true)), (0, .ref m), (1, .int (nI r)), (2, .int (nI k)), (3, .int (bi wn))]) dX8_isAccessed_109 rfl rfl rfl rfl ?_
                refine V_goto (q := 6) dX8_isAccessed_112 rfl ?_
                refine V_sub (L' := [(0, .ref m), (1, .int (nI r)), (2, .int (nI k)), (3, .int (bi wn)), (4, .int (bi true)), (5, .int (nI (i + 1)))]) [3, 4, 5, 6, 1, 0] rfl ?_
                refine ih (i + 1) true ?_ ?_ ?_
                · omega
                · rw [anyN_s, ← hb]; simp [acW, acI, c1, c2, c5, c8, c11, c13]
                · omega
              · skip
                refine V_aload_n (j := 1) (q := 80) dX8_isAccessed_79 rfl rfl ?_
                refine V_iload (j := 6) (q := 82) dX8_isAccessed_80 rfl rfl ?_
                refine V_iconst (q := 83) (v := nI 2) dX8_isAccessed_82 rfl rfl ?_
                refine V_cpV (q := 86) (S := []) (v := .int (nI (pFd P i 2))) kX8_72 (c_of (i := i) W (by omega) (by decide)) (W.1.1 0 _ rfl) rfl rfl rfl dX8_isAccessed_83 rfl ?_
                refine V_aload_n (j := 1) (q := 87) dX8_isAccessed_86 rfl rfl ?_
                refine V_iload (j := 6) (q := 89) dX8_isAccessed_87 rfl rfl ?_
                refine V_iconst (q := 90) (v := nI 3) dX8_isAccessed_89 rfl rfl ?_
                refine V_cpV (q := 93) (S := [.int (nI (pFd P i 2))]) (v := .int (nI (pFd P i 3))) kX8_72 (c_of (i := i) W (by omega) (by decide)) (W.1.1 0 _ rfl) rfl rfl rfl dX8_isAccessed_90 rfl ?_
                refine V_iload_n (j := 3) (q := 94) dX8_isAccessed_93 rfl rfl ?_
                refine V_iconst (q := 95) (v := nI 1) dX8_isAccessed_94 rfl rfl ?_
                refine V_iaddN (q := 96) dX8_isAccessed_95 rfl ?_
                refine V_cpS (q := 99) (S := []) (v := .int (bi (hld (pFd P i 2) (pFd P i 3) (k + 1)))) kX8_79 (c_holds (a := pFd P i 2) (b := pFd P i 3) (c := k + 1) (by omega) (by omega)) rfl rfl rfl dX8_isAccessed_96 rfl ?_
                refine V_if_eqB (tgt := 106) (q := 102) dX8_isAccessed_99 rfl rfl (fun c14 => ?_) (fun c14 => ?_)
                · skip
                  refine V_iconst (q := 107) (v := nI 0) dX8_isAccessed_106 rfl rfl ?_
                  refine V_rw (y := bi false) rfl ?_
                  refine V_istore (q := 109) (L' := [(4, .int (bi false)), (6, .int (bi true)), (0, .ref m), (1, .int (nI r)), (2, .int (nI k)), (3, .int (bi wn)), (5, .int (nI i))]) dX8_isAccessed_107 rfl rfl rfl ?_
                  refine V_iincN (j := 6) (q := 112) (L' := [(5, .int (nI (i + 1))), (4, .int (bi false)), (6, .int (bi true)), (0, .ref m), (1, .int (nI r)), (2, .int (nI k)), (3, .int (bi wn))]) dX8_isAccessed_109 rfl rfl rfl rfl ?_
                  refine V_goto (q := 6) dX8_isAccessed_112 rfl ?_
                  refine V_sub (L' := [(0, .ref m), (1, .int (nI r)), (2, .int (nI k)), (3, .int (bi wn)), (4, .int (bi false)), (5, .int (nI (i + 1)))]) [3, 4, 5, 6, 1, 0] rfl ?_
                  refine ih (i + 1) false ?_ ?_ ?_
                  · omega
                  · rw [anyN_s, ← hb]; simp [acW, acI, c1, c2, c5, c8, c11, c13, c14]
                  · omega
                · skip
                  refine V_iconst (q := 103) (v := nI 1) dX8_isAccessed_102 rfl rfl ?_
                  refine V_goto (q := 107) dX8_isAccessed_103 rfl ?_
                  refine V_rw (y := bi true) rfl ?_
                  refine V_istore (q := 109) (L' := [(4, .int (bi true)), (6, .int (bi true)), (0, .ref m), (1, .int (nI r)), (2, .int (nI k)), (3, .int (bi wn)), (5, .int (nI i))]) dX8_isAccessed_107 rfl rfl rfl ?_
                  refine V_iincN (j := 6) (q := 112) (L' := [(5, .int (nI (i + 1))), (4, .int (bi true)), (6, .int (bi true)), (0, .ref m), (1, .int (nI r)), (2, .int (nI k)), (3, .int (bi wn))]) dX8_isAccessed_109 rfl rfl rfl rfl ?_
                  refine V_goto (q := 6) dX8_isAccessed_112 rfl ?_
                  refine V_sub (L' := [(0, .ref m), (1, .int (nI r)), (2, .int (nI k)), (3, .int (bi wn)), (4, .int (bi true)), (5, .int (nI (i + 1)))]) [3, 4, 5, 6, 1, 0] rfl ?_
                  refine ih (i + 1) true ?_ ?_ ?_
                  · omega
                  · rw [anyN_s, ← hb]; simp [acW, acI, c1, c2, c5, c8, c11, c13, c14]
                  · omega

set_option maxHeartbeats 4000000 in
set_option maxRecDepth 100000 in
theorem c_isAccessed {g : GX} {h : AH} {m : Nat} {P : PG} (W : RF h m P) {r k : Nat} {wn : Bool} (hr : r < 2 ^ 30) (hk : k < 2 ^ 30) : Ct g mX8_isAccessed 2 0 0 [.ref m, .int (nI r), .int (nI k), .int (bi wn)] h (fun ρ η => ρ = some (.int (bi (anyN (pNi P) (acW P r k wn)))) ∧ η = h) := by
  refine Ct_intro (by decide +kernel) (Nat.le_of_ble_eq_true rfl) ?_
  show V g mX8_isAccessed _ h 0 0 [(0, .ref m), (1, .int (nI r)), (2, .int (nI k)), (3, .int (bi wn))] 0 []
  have hN := W.2.2.2.2.1
  have hR := W.2.2.1
  refine V_iconst (q := 1) (v := nI 0) dX8_isAccessed_0 rfl rfl ?_
  refine V_rw (y := bi false) rfl ?_
  refine V_istore (q := 3) (L' := [(4, .int (bi false)), (0, .ref m), (1, .int (nI r)), (2, .int (nI k)), (3, .int (bi wn))]) dX8_isAccessed_1 rfl rfl rfl ?_
  refine V_iconst (q := 4) (v := nI 0) dX8_isAccessed_3 rfl rfl ?_
  refine V_istore (q := 6) (L' := [(5, .int (nI 0)), (4, .int (bi false)), (0, .ref m), (1, .int (nI r)), (2, .int (nI k)), (3, .int (bi wn))]) dX8_isAccessed_4 rfl rfl rfl ?_
  refine V_sub (L' := [(0, .ref m), (1, .int (nI r)), (2, .int (nI k)), (3, .int (bi wn)), (4, .int (bi false)), (5, .int (nI 0))]) [2, 3, 4, 5, 1, 0] rfl ?_
  refine lp_isAccessed W hr hk (pNi P - 0 + 1) 0 false ?_ ?_ ?_
  · omega
  · rfl
  · exact Nat.lt_succ_self _


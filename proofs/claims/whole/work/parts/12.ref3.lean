theorem c_isAccF {g : GX} {h : AH} {m : Nat} {P : PG} (W : RF h m P) {r k : Nat} (hr : r < 2 ^ 30) (hk : k < 2 ^ 30) : Cp g mX8_isAccessed 2 [.ref m, .int (nI r), .int (nI k), .int (bi false)] h (.int (bi (acc P r k))) := by
  have := c_isAccessed (g := g) (wn := false) W hr hk
  rw [acW_f] at this
  exact this
theorem c_isAccT {g : GX} {h : AH} {m : Nat} {P : PG} (W : RF h m P) {r k : Nat} (hr : r < 2 ^ 30) (hk : k < 2 ^ 30) : Cp g mX8_isAccessed 2 [.ref m, .int (nI r), .int (nI k), .int (bi true)] h (.int (bi (jnd P r k))) := by
  have := c_isAccessed (g := g) (wn := true) W hr hk
  rw [acW_t] at this
  exact this

set_option maxHeartbeats 4000000 in
set_option maxRecDepth 100000 in
theorem c_isCopied {g : GX} {h : AH} {m : Nat} {P : PG} (W : RF h m P) {i side r k : Nat} (hi : i < pNi P) (hs : side < 2) (hr : r < 2 ^ 30) (hk : k < 2 ^ 30) : Ct g mX8_isCopied 1 0 0 [.ref m, .int (nI i), .int (nI side), .int (nI r), .int (nI k)] h (fun ρ η => ρ = some (.int (bi (cpd P i side r k))) ∧ η = h) := by
  refine Ct_intro (by decide +kernel) (Nat.le_of_ble_eq_true rfl) ?_
  show V g mX8_isCopied _ h 0 0 [(0, .ref m), (1, .int (nI i)), (2, .int (nI side)), (3, .int (nI r)), (4, .int (nI k))] 0 []
  have hN := W.2.2.2.2.1
  have hR := W.2.2.1
  have hk0 := ok_kd W.2.2 hi
  refine V_aload_n (j := 0) (q := 1) dX8_isCopied_0 rfl rfl ?_
  refine V_iload_n (j := 1) (q := 2) dX8_isCopied_1 rfl rfl ?_
  refine V_iconst (q := 3) (v := nI 0) dX8_isCopied_2 rfl rfl ?_
  refine V_cpV (q := 6) (S := []) (v := .int (nI (pFd P i 0))) kX8_72 (c_of (i := i) W (by omega) (by omega)) (W.1.1 0 _ rfl) rfl rfl rfl dX8_isCopied_3 rfl ?_
  refine V_iconst (q := 7) (v := nI 3) dX8_isCopied_6 rfl rfl ?_
  refine V_icmp_neN (tgt := 52) (q := 10) dX8_isCopied_7 rfl rfl (by omega) (by omega) (fun c1 => ?_) (fun c1 => ?_)
  · skip
    refine V_iconst (q := 53) (v := nI 0) dX8_isCopied_52 rfl rfl ?_
    refine V_rw (y := bi false) rfl ?_
    refine V_zret (b := false) rfl dX8_isCopied_53 rfl rfl ?_
    exact ⟨pvb (by simp [cpd, c1]), rfl⟩
  · skip
    have ac1 := ok_cp W.2.2 (i := i) (by omega) c1
    have bc1 := ok_cs W.2.2 hi hs c1
    refine V_aload_n (j := 0) (q := 11) dX8_isCopied_10 rfl rfl ?_
    refine V_iload_n (j := 1) (q := 12) dX8_isCopied_11 rfl rfl ?_
    refine V_iconst (q := 13) (v := nI 1) dX8_isCopied_12 rfl rfl ?_
    refine V_iconst (q := 14) (v := nI 2) dX8_isCopied_13 rfl rfl ?_
    refine V_iload_n (j := 2) (q := 15) dX8_isCopied_14 rfl rfl ?_
    refine V_imulN (q := 16) dX8_isCopied_15 rfl ?_
    refine V_iaddN (q := 17) dX8_isCopied_16 rfl ?_
    refine V_cpV (q := 20) (S := []) (v := .int (nI (pFd P i (1 + (2 * side))))) kX8_72 (c_of (i := i) W (by omega) (by omega)) (W.1.1 0 _ rfl) rfl rfl rfl dX8_isCopied_17 rfl ?_
    refine V_iload_n (j := 3) (q := 21) dX8_isCopied_20 rfl rfl ?_
    refine V_icmp_neN (tgt := 52) (q := 24) dX8_isCopied_21 rfl rfl (by omega) (by omega) (fun c2 => ?_) (fun c2 => ?_)
    · skip
      refine V_iconst (q := 53) (v := nI 0) dX8_isCopied_52 rfl rfl ?_
      refine V_rw (y := bi false) rfl ?_
      refine V_zret (b := false) rfl dX8_isCopied_53 rfl rfl ?_
      exact ⟨pvb (by simp [cpd, c1, c2]), rfl⟩
    · skip
      refine V_aload_n (j := 0) (q := 25) dX8_isCopied_24 rfl rfl ?_
      refine V_iload_n (j := 1) (q := 26) dX8_isCopied_25 rfl rfl ?_
      refine V_iconst (q := 27) (v := nI 2) dX8_isCopied_26 rfl rfl ?_
      refine V_iconst (q := 28) (v := nI 2) dX8_isCopied_27 rfl rfl ?_
      refine V_iload_n (j := 2) (q := 29) dX8_isCopied_28 rfl rfl ?_
      refine V_imulN (q := 30) dX8_isCopied_29 rfl ?_
      refine V_iaddN (q := 31) dX8_isCopied_30 rfl ?_
      refine V_cpV (q := 34) (S := []) (v := .int (nI (pFd P i (2 + (2 * side))))) kX8_72 (c_of (i := i) W (by omega) (by omega)) (W.1.1 0 _ rfl) rfl rfl rfl dX8_isCopied_31 rfl ?_
      refine V_aload_n (j := 0) (q := 35) dX8_isCopied_34 rfl rfl ?_
      refine V_iload_n (j := 1) (q := 36) dX8_isCopied_35 rfl rfl ?_
      refine V_iconst (q := 37) (v := nI 5) dX8_isCopied_36 rfl rfl ?_
      refine V_cpV (q := 40) (S := [.int (nI (pFd P i (2 + (2 * side))))]) (v := .int (nI (pFd P i 5))) kX8_72 (c_of (i := i) W (by omega) (by omega)) (W.1.1 0 _ rfl) rfl rfl rfl dX8_isCopied_37 rfl ?_
      refine V_iload (j := 4) (q := 42) dX8_isCopied_40 rfl rfl ?_
      refine V_cpS (q := 45) (S := []) (v := .int (bi (hld (pFd P i (2 + (2 * side))) (pFd P i 5) k))) kX8_79 (c_holds (a := pFd P i (2 + (2 * side))) (b := pFd P i 5) (c := k) (by omega) (by omega)) rfl rfl rfl dX8_isCopied_42 rfl ?_
      refine V_if_eqB (tgt := 52) (q := 48) dX8_isCopied_45 rfl rfl (fun c3 => ?_) (fun c3 => ?_)
      · skip
        refine V_iconst (q := 53) (v := nI 0) dX8_isCopied_52 rfl rfl ?_
        refine V_rw (y := bi false) rfl ?_
        refine V_zret (b := false) rfl dX8_isCopied_53 rfl rfl ?_
        exact ⟨pvb (by simp [cpd, c1, c2, c3]), rfl⟩
      · skip
        refine V_iconst (q := 49) (v := nI 1) dX8_isCopied_48 rfl rfl ?_
        refine V_goto (q := 53) dX8_isCopied_49 rfl ?_
        refine V_rw (y := bi true) rfl ?_
        refine V_zret (b := true) rfl dX8_isCopied_53 rfl rfl ?_
        exact ⟨pvb (by simp [cpd, c1, c2, c3]), rfl⟩

set_option maxHeartbeats 4000000 in
set_option maxRecDepth 100000 in
theorem lp_isSoft {g : GX} {h : AH} {m : Nat} {P : PG} (W : RF h m P) {r k : Nat} (hr : r < 2 ^ 30) (hk : k < 2 ^ 30) : ∀ (t : Nat) (i : Nat) (b : Bool), (i ≤ pNi P) → (b = anyN i (cpE P r k)) → pNi P - i < t → V g mX8_isSoft (thM g 3 0 0 (fun ρ η => ρ = some (.int (bi (sft P r k))) ∧ η = h)) h 0 0 [(0, .ref m), (1, .int (nI r)), (2, .int (nI k)), (3, .int (bi b)), (4, .int (nI i))] 5 [] := by
  intro t
  induction t with
  | zero =>
    intro i b hi hb hfu
    exact absurd hfu (Nat.not_lt_zero _)
  | succ t ih =>
    intro i b hi hb hfu
    have hN := W.2.2.2.2.1
    have hR := W.2.2.1
    refine V_iload (j := 4) (q := 7) dX8_isSoft_5 rfl rfl ?_
    refine V_aload_n (j := 0) (q := 8) dX8_isSoft_7 rfl rfl ?_
    refine V_getP (q := 11) (r := (m + 1)) fX8_7 (W.1.1 0 _ rfl) rfl (W.1.2 0 _ rfl) dX8_isSoft_8 rfl ?_
    refine V_iconst (q := 12) (v := nI 5) dX8_isSoft_11 rfl rfl ?_
    refine V_iald (q := 13) (W.1.1 1 _ rfl) (by omega) (by decide) dX8_isSoft_12 rfl ?_
    refine V_rw (y := nI (pNi P)) W.2.1.2.2.1 ?_
    refine V_icmp_geN (tgt := 56) (q := 16) dX8_isSoft_13 rfl rfl (by omega) (by omega) (fun c1 => ?_) (fun c1 => ?_)
    · skip
      refine V_iload_n (j := 3) (q := 57) dX8_isSoft_56 rfl rfl ?_
      refine V_if_eqB (tgt := 74) (q := 60) dX8_isSoft_57 rfl rfl (fun c2 => ?_) (fun c2 => ?_)
      · skip
        refine V_iconst (q := 75) (v := nI 0) dX8_isSoft_74 rfl rfl ?_
        refine V_rw (y := bi false) rfl ?_
        refine V_zret (b := false) rfl dX8_isSoft_75 rfl rfl ?_
        exact ⟨pvb (by have hx : inC P r k = b := (by rw [hb, show i = pNi P by omega]; rfl); simp [sft, hx, c1, c2]), rfl⟩
      · skip
        refine V_aload_n (j := 0) (q := 61) dX8_isSoft_60 rfl rfl ?_
        refine V_iload_n (j := 1) (q := 62) dX8_isSoft_61 rfl rfl ?_
        refine V_iload_n (j := 2) (q := 63) dX8_isSoft_62 rfl rfl ?_
        refine V_iconst (q := 64) (v := nI 0) dX8_isSoft_63 rfl rfl ?_
        refine V_cpV (q := 67) (S := []) (v := .int (bi (acc P r k))) kX8_86 (c_isAccF (r := r) (k := k) W (by omega) (by omega)) (W.1.1 0 _ rfl) rfl rfl rfl dX8_isSoft_64 rfl ?_
        refine V_if_neB (tgt := 74) (q := 70) dX8_isSoft_67 rfl rfl (fun c3 => ?_) (fun c3 => ?_)
        · skip
          refine V_iconst (q := 75) (v := nI 0) dX8_isSoft_74 rfl rfl ?_
          refine V_rw (y := bi false) rfl ?_
          refine V_zret (b := false) rfl dX8_isSoft_75 rfl rfl ?_
          exact ⟨pvb (by have hx : inC P r k = b := (by rw [hb, show i = pNi P by omega]; rfl); simp [sft, hx, c1, c2, c3]), rfl⟩
        · skip
          refine V_iconst (q := 71) (v := nI 1) dX8_isSoft_70 rfl rfl ?_
          refine V_goto (q := 75) dX8_isSoft_71 rfl ?_
          refine V_rw (y := bi true) rfl ?_
          refine V_zret (b := true) rfl dX8_isSoft_75 rfl rfl ?_
          exact ⟨pvb (by have hx : inC P r k = b := (by rw [hb, show i = pNi P by omega]; rfl); simp [sft, hx, c1, c2, c3]), rfl⟩
    · skip
      refine V_iload_n (j := 3) (q := 17) dX8_isSoft_16 rfl rfl ?_
      refine V_if_neB (tgt := 44) (q := 20) dX8_isSoft_17 rfl rfl (fun c4 => ?_) (fun c4 => ?_)
      · skip
        refine V_iconst (q := 45) (v := nI 1) dX8_isSoft_44 rfl rfl ?_
        refine V_goto (q := 49) dX8_isSoft_45 rfl ?_
        refine V_rw (y := bi true) rfl ?_
        refine V_istore_n (q := 50) (L' := [(3, .int (bi true)), (0, .ref m), (1, .int (nI r)), (2, .int (nI k)), (4, .int (nI i))]) dX8_isSoft_49 rfl rfl rfl ?_
        refine V_iincN (j := 4) (q := 53) (L' := [(4, .int (nI (i + 1))), (3, .int (bi true)), (0, .ref m), (1, .int (nI r)), (2, .int (nI k))]) dX8_isSoft_50 rfl rfl rfl rfl ?_
        refine V_goto (q := 5) dX8_isSoft_53 rfl ?_
        refine V_sub (L' := [(0, .ref m), (1, .int (nI r)), (2, .int (nI k)), (3, .int (bi true)), (4, .int (nI (i + 1)))]) [2, 3, 4, 1, 0] rfl ?_
        refine ih (i + 1) true ?_ ?_ ?_
        · omega
        · rw [anyN_s, ← hb]; simp [cpE, c1, c4]
        · omega
      · skip
        refine V_aload_n (j := 0) (q := 21) dX8_isSoft_20 rfl rfl ?_
        refine V_iload (j := 4) (q := 23) dX8_isSoft_21 rfl rfl ?_
        refine V_iconst (q := 24) (v := nI 0) dX8_isSoft_23 rfl rfl ?_
        refine V_iload_n (j := 1) (q := 25) dX8_isSoft_24 rfl rfl ?_
        refine V_iload_n (j := 2) (q := 26) dX8_isSoft_25 rfl rfl ?_
        refine V_cpV (q := 29) (S := []) (v := .int (bi (cpd P i 0 r k))) kX8_82 (c_isCopied (i := i) (side := 0) (r := r) (k := k) W (by omega) (by omega) (by omega) (by omega)) (W.1.1 0 _ rfl) rfl rfl rfl dX8_isSoft_26 rfl ?_
        refine V_if_neB (tgt := 44) (q := 32) dX8_isSoft_29 rfl rfl (fun c5 => ?_) (fun c5 => ?_)
        · skip
          refine V_iconst (q := 45) (v := nI 1) dX8_isSoft_44 rfl rfl ?_
          refine V_goto (q := 49) dX8_isSoft_45 rfl ?_
          refine V_rw (y := bi true) rfl ?_
          refine V_istore_n (q := 50) (L' := [(3, .int (bi true)), (0, .ref m), (1, .int (nI r)), (2, .int (nI k)), (4, .int (nI i))]) dX8_isSoft_49 rfl rfl rfl ?_
          refine V_iincN (j := 4) (q := 53) (L' := [(4, .int (nI (i + 1))), (3, .int (bi true)), (0, .ref m), (1, .int (nI r)), (2, .int (nI k))]) dX8_isSoft_50 rfl rfl rfl rfl ?_
          refine V_goto (q := 5) dX8_isSoft_53 rfl ?_
          refine V_sub (L' := [(0, .ref m), (1, .int (nI r)), (2, .int (nI k)), (3, .int (bi true)), (4, .int (nI (i + 1)))]) [2, 3, 4, 1, 0] rfl ?_
          refine ih (i + 1) true ?_ ?_ ?_
          · omega
          · rw [anyN_s, ← hb]; simp [cpE, c1, c4, c5]
          · omega
        · skip
          refine V_aload_n (j := 0) (q := 33) dX8_isSoft_32 rfl rfl ?_
          refine V_iload (j := 4) (q := 35) dX8_isSoft_33 rfl rfl ?_
          refine V_iconst (q := 36) (v := nI 1) dX8_isSoft_35 rfl rfl ?_
          refine V_iload_n (j := 1) (q := 37) dX8_isSoft_36 rfl rfl ?_
          refine V_iload_n (j := 2) (q := 38) dX8_isSoft_37 rfl rfl ?_
          refine V_cpV (q := 41) (S := []) (v := .int (bi (cpd P i 1 r k))) kX8_82 (c_isCopied (i := i) (side := 1) (r := r) (k := k) W (by omega) (by omega) (by omega) (by omega)) (W.1.1 0 _ rfl) rfl rfl rfl dX8_isSoft_38 rfl ?_
          refine V_if_eqB (tgt := 48) (q := 44) dX8_isSoft_41 rfl rfl (fun c6 => ?_) (fun c6 => ?_)
          · skip
            refine V_iconst (q := 49) (v := nI 0) dX8_isSoft_48 rfl rfl ?_
            refine V_rw (y := bi false) rfl ?_
            refine V_istore_n (q := 50) (L' := [(3, .int (bi false)), (0, .ref m), (1, .int (nI r)), (2, .int (nI k)), (4, .int (nI i))]) dX8_isSoft_49 rfl rfl rfl ?_
            refine V_iincN (j := 4) (q := 53) (L' := [(4, .int (nI (i + 1))), (3, .int (bi false)), (0, .ref m), (1, .int (nI r)), (2, .int (nI k))]) dX8_isSoft_50 rfl rfl rfl rfl ?_
            refine V_goto (q := 5) dX8_isSoft_53 rfl ?_
            refine V_sub (L' := [(0, .ref m), (1, .int (nI r)), (2, .int (nI k)), (3, .int (bi false)), (4, .int (nI (i + 1)))]) [2, 3, 4, 1, 0] rfl ?_
            refine ih (i + 1) false ?_ ?_ ?_
            · omega
            · rw [anyN_s, ← hb]; simp [cpE, c1, c4, c5, c6]
            · omega
          · skip
            refine V_iconst (q := 45) (v := nI 1) dX8_isSoft_44 rfl rfl ?_
            refine V_goto (q := 49) dX8_isSoft_45 rfl ?_
            refine V_rw (y := bi true) rfl ?_
            refine V_istore_n (q := 50) (L' := [(3, .int (bi true)), (0, .ref m), (1, .int (nI r)), (2, .int (nI k)), (4, .int (nI i))]) dX8_isSoft_49 rfl rfl rfl ?_
            refine V_iincN (j := 4) (q := 53) (L' := [(4, .int (nI (i + 1))), (3, .int (bi true)), (0, .ref m), (1, .int (nI r)), (2, .int (nI k))]) dX8_isSoft_50 rfl rfl rfl rfl ?_
            refine V_goto (q := 5) dX8_isSoft_53 rfl ?_
            refine V_sub (L' := [(0, .ref m), (1, .int (nI r)), (2, .int (nI k)), (3, .int (bi true)), (4, .int (nI (i + 1)))]) [2, 3, 4, 1, 0] rfl ?_
            refine ih (i + 1) true ?_ ?_ ?_
            · omega
            · rw [anyN_s, ← hb]; simp [cpE, c1, c4, c5, c6]
            · omega

set_option maxHeartbeats 4000000 in
set_option maxRecDepth 100000 in
theorem c_isSoft {g : GX} {h : AH} {m : Nat} {P : PG} (W : RF h m P) {r k : Nat} (hr : r < 2 ^ 30) (hk : k < 2 ^ 30) : Ct g mX8_isSoft 3 0 0 [.ref m, .int (nI r), .int (nI k)] h (fun ρ η => ρ = some (.int (bi (sft P r k))) ∧ η = h) := by
  refine Ct_intro (by decide +kernel) (Nat.le_of_ble_eq_true rfl) ?_
  show V g mX8_isSoft _ h 0 0 [(0, .ref m), (1, .int (nI r)), (2, .int (nI k))] 0 []
  have hN := W.2.2.2.2.1
  have hR := W.2.2.1
  refine V_iconst (q := 1) (v := nI 0) dX8_isSoft_0 rfl rfl ?_
  refine V_rw (y := bi false) rfl ?_
  refine V_istore_n (q := 2) (L' := [(3, .int (bi false)), (0, .ref m), (1, .int (nI r)), (2, .int (nI k))]) dX8_isSoft_1 rfl rfl rfl ?_
  refine V_iconst (q := 3) (v := nI 0) dX8_isSoft_2 rfl rfl ?_
  refine V_istore (q := 5) (L' := [(4, .int (nI 0)), (3, .int (bi false)), (0, .ref m), (1, .int (nI r)), (2, .int (nI k))]) dX8_isSoft_3 rfl rfl rfl ?_
  refine V_sub (L' := [(0, .ref m), (1, .int (nI r)), (2, .int (nI k)), (3, .int (bi false)), (4, .int (nI 0))]) [2, 3, 4, 1, 0] rfl ?_
  refine lp_isSoft W hr hk (pNi P - 0 + 1) 0 false ?_ ?_ ?_
  · omega
  · rfl
  · exact Nat.lt_succ_self _

set_option maxHeartbeats 4000000 in
set_option maxRecDepth 100000 in
theorem lp_alikeI {g : GX} {h : AH} {m : Nat} {P : PG} (W : RF h m P) {r k : Nat} (hr : r < 2 ^ 29) (hk : k < 2 ^ 29) {i : Nat} (hi : i < pNi P) (b0 : Bool) (kk : ∀ b : Bool, b = (b0 && alI P r k i) → V g mX8_areCopiedAlike (thM g 2 0 0 (fun ρ η => ρ = some (.int (bi (alk P r k))) ∧ η = h)) h 0 0 [(0, .ref m), (1, .int (nI r)), (2, .int (nI k)), (3, .int (bi b)), (4, .int (nI i))] 66 []) : ∀ (t : Nat) (s : Nat) (b : Bool), (s ≤ 2) → (b = (b0 && alS P r k i s)) → 2 - s < t → V g mX8_areCopiedAlike (thM g 2 0 0 (fun ρ η => ρ = some (.int (bi (alk P r k))) ∧ η = h)) h 0 0 [(0, .ref m), (1, .int (nI r)), (2, .int (nI k)), (3, .int (bi b)), (4, .int (nI i)), (5, .int (nI s))] 19 [] := by
  intro t
  induction t with
  | zero =>
    intro s b hs hb hfu
    exact absurd hfu (Nat.not_lt_zero _)
  | succ t ih =>
    intro s b hs hb hfu
    have hN := W.2.2.2.2.1
    have hR := W.2.2.1
    refine V_iload (j := 5) (q := 21) dX8_areCopiedAlike_19 rfl rfl ?_
    refine V_iconst (q := 22) (v := nI 2) dX8_areCopiedAlike_21 rfl rfl ?_
    refine V_icmp_geN (tgt := 66) (q := 25) dX8_areCopiedAlike_22 rfl rfl (by omega) (by omega) (fun c1 => ?_) (fun c1 => ?_)
    · skip
      refine V_sub (L' := [(0, .ref m), (1, .int (nI r)), (2, .int (nI k)), (3, .int (bi b)), (4, .int (nI i))]) [0, 1, 2, 3, 4] rfl ?_
      exact kk b (by rw [hb, show s = 2 by omega, alS_2])
    · skip
      refine V_iload_n (j := 3) (q := 26) dX8_areCopiedAlike_25 rfl rfl ?_
      refine V_if_eqB (tgt := 58) (q := 29) dX8_areCopiedAlike_26 rfl rfl (fun c2 => ?_) (fun c2 => ?_)
      · skip
        refine V_iconst (q := 59) (v := nI 0) dX8_areCopiedAlike_58 rfl rfl ?_
        refine V_rw (y := bi false) rfl ?_
        refine V_istore_n (q := 60) (L' := [(3, .int (bi false)), (0, .ref m), (1, .int (nI r)), (2, .int (nI k)), (4, .int (nI i)), (5, .int (nI s))]) dX8_areCopiedAlike_59 rfl rfl rfl ?_
        refine V_iincN (j := 5) (q := 63) (L' := [(5, .int (nI (s + 1))), (3, .int (bi false)), (0, .ref m), (1, .int (nI r)), (2, .int (nI k)), (4, .int (nI i))]) dX8_areCopiedAlike_60 rfl rfl rfl rfl ?_
        refine V_goto (q := 19) dX8_areCopiedAlike_63 rfl ?_
        refine V_sub (L' := [(0, .ref m), (1, .int (nI r)), (2, .int (nI k)), (3, .int (bi false)), (4, .int (nI i)), (5, .int (nI (s + 1)))]) [2, 3, 4, 1, 5, 0] rfl ?_
        refine ih (s + 1) false ?_ ?_ ?_
        · omega
        · rw [show alS P r k i (s + 1) = (alS P r k i s && (cpd P i s r k == cpd P i s r (k + 1))) from rfl, ← Bool.and_assoc, ← hb]; simp [c1, c2]
        · omega
      · skip
        refine V_aload_n (j := 0) (q := 30) dX8_areCopiedAlike_29 rfl rfl ?_
        refine V_iload (j := 4) (q := 32) dX8_areCopiedAlike_30 rfl rfl ?_
        refine V_iload (j := 5) (q := 34) dX8_areCopiedAlike_32 rfl rfl ?_
        refine V_iload_n (j := 1) (q := 35) dX8_areCopiedAlike_34 rfl rfl ?_
        refine V_iload_n (j := 2) (q := 36) dX8_areCopiedAlike_35 rfl rfl ?_
        refine V_cpV (q := 39) (S := []) (v := .int (bi (cpd P i s r k))) kX8_82 (c_isCopied (i := i) (side := s) (r := r) (k := k) W (by omega) (by omega) (by omega) (by omega)) (W.1.1 0 _ rfl) rfl rfl rfl dX8_areCopiedAlike_36 rfl ?_
        refine V_aload_n (j := 0) (q := 40) dX8_areCopiedAlike_39 rfl rfl ?_
        refine V_iload (j := 4) (q := 42) dX8_areCopiedAlike_40 rfl rfl ?_
        refine V_iload (j := 5) (q := 44) dX8_areCopiedAlike_42 rfl rfl ?_
        refine V_iload_n (j := 1) (q := 45) dX8_areCopiedAlike_44 rfl rfl ?_
        refine V_iload_n (j := 2) (q := 46) dX8_areCopiedAlike_45 rfl rfl ?_
        refine V_iconst (q := 47) (v := nI 1) dX8_areCopiedAlike_46 rfl rfl ?_
        refine V_iaddN (q := 48) dX8_areCopiedAlike_47 rfl ?_
        refine V_cpV (q := 51) (S := [.int (bi (cpd P i s r k))]) (v := .int (bi (cpd P i s r (k + 1)))) kX8_82 (c_isCopied (i := i) (side := s) (r := r) (k := k + 1) W (by omega) (by omega) (by omega) (by omega)) (W.1.1 0 _ rfl) rfl rfl rfl dX8_areCopiedAlike_48 rfl ?_
        refine V_icmp_neB (tgt := 58) (q := 54) dX8_areCopiedAlike_51 rfl rfl (fun c3 => ?_) (fun c3 => ?_)
        · skip
          refine V_iconst (q := 59) (v := nI 0) dX8_areCopiedAlike_58 rfl rfl ?_
          refine V_rw (y := bi false) rfl ?_
          refine V_istore_n (q := 60) (L' := [(3, .int (bi false)), (0, .ref m), (1, .int (nI r)), (2, .int (nI k)), (4, .int (nI i)), (5, .int (nI s))]) dX8_areCopiedAlike_59 rfl rfl rfl ?_
          refine V_iincN (j := 5) (q := 63) (L' := [(5, .int (nI (s + 1))), (3, .int (bi false)), (0, .ref m), (1, .int (nI r)), (2, .int (nI k)), (4, .int (nI i))]) dX8_areCopiedAlike_60 rfl rfl rfl rfl ?_
          refine V_goto (q := 19) dX8_areCopiedAlike_63 rfl ?_
          refine V_sub (L' := [(0, .ref m), (1, .int (nI r)), (2, .int (nI k)), (3, .int (bi false)), (4, .int (nI i)), (5, .int (nI (s + 1)))]) [2, 3, 4, 1, 5, 0] rfl ?_
          refine ih (s + 1) false ?_ ?_ ?_
          · omega
          · rw [show alS P r k i (s + 1) = (alS P r k i s && (cpd P i s r k == cpd P i s r (k + 1))) from rfl, ← Bool.and_assoc, ← hb]; simp [c1, c2, c3]
          · omega
        · skip
          refine V_iconst (q := 55) (v := nI 1) dX8_areCopiedAlike_54 rfl rfl ?_
          refine V_goto (q := 59) dX8_areCopiedAlike_55 rfl ?_
          refine V_rw (y := bi true) rfl ?_
          refine V_istore_n (q := 60) (L' := [(3, .int (bi true)), (0, .ref m), (1, .int (nI r)), (2, .int (nI k)), (4, .int (nI i)), (5, .int (nI s))]) dX8_areCopiedAlike_59 rfl rfl rfl ?_
          refine V_iincN (j := 5) (q := 63) (L' := [(5, .int (nI (s + 1))), (3, .int (bi true)), (0, .ref m), (1, .int (nI r)), (2, .int (nI k)), (4, .int (nI i))]) dX8_areCopiedAlike_60 rfl rfl rfl rfl ?_
          refine V_goto (q := 19) dX8_areCopiedAlike_63 rfl ?_
          refine V_sub (L' := [(0, .ref m), (1, .int (nI r)), (2, .int (nI k)), (3, .int (bi true)), (4, .int (nI i)), (5, .int (nI (s + 1)))]) [2, 3, 4, 1, 5, 0] rfl ?_
          refine ih (s + 1) true ?_ ?_ ?_
          · omega
          · rw [show alS P r k i (s + 1) = (alS P r k i s && (cpd P i s r k == cpd P i s r (k + 1))) from rfl, ← Bool.and_assoc, ← hb]; simp [c1, c2, c3]
          · omega

set_option maxHeartbeats 4000000 in
set_option maxRecDepth 100000 in
theorem lp_alikeO {g : GX} {h : AH} {m : Nat} {P : PG} (W : RF h m P) {r k : Nat} (hr : r < 2 ^ 29) (hk : k < 2 ^ 29) : ∀ (t : Nat) (i : Nat) (b : Bool), (i ≤ pNi P) → (b = allN i (alI P r k)) → pNi P - i < t → V g mX8_areCopiedAlike (thM g 2 0 0 (fun ρ η => ρ = some (.int (bi (alk P r k))) ∧ η = h)) h 0 0 [(0, .ref m), (1, .int (nI r)), (2, .int (nI k)), (3, .int (bi b)), (4, .int (nI i))] 5 [] := by
  intro t
  induction t with
  | zero =>
    intro i b hi hb hfu
    exact absurd hfu (Nat.not_lt_zero _)
  | succ t ih =>
    intro i b hi hb hfu
    have hN := W.2.2.2.2.1
    have hR := W.2.2.1
    refine V_iload (j := 4) (q := 7) dX8_areCopiedAlike_5 rfl rfl ?_
    refine V_aload_n (j := 0) (q := 8) dX8_areCopiedAlike_7 rfl rfl ?_
    refine V_getP (q := 11) (r := (m + 1)) fX8_7 (W.1.1 0 _ rfl) rfl (W.1.2 0 _ rfl) dX8_areCopiedAlike_8 rfl ?_
    refine V_iconst (q := 12) (v := nI 5) dX8_areCopiedAlike_11 rfl rfl ?_
    refine V_iald (q := 13) (W.1.1 1 _ rfl) (by omega) (by decide) dX8_areCopiedAlike_12 rfl ?_
    refine V_rw (y := nI (pNi P)) W.2.1.2.2.1 ?_
    refine V_icmp_geN (tgt := 72) (q := 16) dX8_areCopiedAlike_13 rfl rfl (by omega) (by omega) (fun c1 => ?_) (fun c1 => ?_)
    · skip
      refine V_iload_n (j := 3) (q := 73) dX8_areCopiedAlike_72 rfl rfl ?_
      refine V_zret (b := b) rfl dX8_areCopiedAlike_73 rfl rfl ?_
      exact ⟨pvb (by rw [hb, show i = pNi P by omega]; rfl), rfl⟩
    · skip
      refine V_iconst (q := 17) (v := nI 0) dX8_areCopiedAlike_16 rfl rfl ?_
      refine V_istore (q := 19) (L' := [(5, .int (nI 0)), (0, .ref m), (1, .int (nI r)), (2, .int (nI k)), (3, .int (bi b)), (4, .int (nI i))]) dX8_areCopiedAlike_17 rfl rfl rfl ?_
      refine V_sub (L' := [(0, .ref m), (1, .int (nI r)), (2, .int (nI k)), (3, .int (bi b)), (4, .int (nI i)), (5, .int (nI 0))]) [1, 2, 3, 4, 5, 0] rfl ?_
      refine lp_alikeI W hr hk (i := i) (by omega) b (fun b2 hb2 => ?_) (2 - 0 + 1) 0 b (by omega) (by simp [alS]) (Nat.lt_succ_self _)
      refine V_iincN (j := 4) (q := 69) (L' := [(4, .int (nI (i + 1))), (0, .ref m), (1, .int (nI r)), (2, .int (nI k)), (3, .int (bi b2))]) dX8_areCopiedAlike_66 rfl rfl rfl rfl ?_
      refine V_goto (q := 5) dX8_areCopiedAlike_69 rfl ?_
      refine V_sub (L' := [(0, .ref m), (1, .int (nI r)), (2, .int (nI k)), (3, .int (bi b2)), (4, .int (nI (i + 1)))]) [1, 2, 3, 4, 0] rfl ?_
      refine ih (i + 1) b2 ?_ ?_ ?_
      · omega
      · rw [allN_s, ← hb]; exact hb2
      · omega

set_option maxHeartbeats 4000000 in
set_option maxRecDepth 100000 in
theorem c_areCopiedAlike {g : GX} {h : AH} {m : Nat} {P : PG} (W : RF h m P) {r k : Nat} (hr : r < 2 ^ 29) (hk : k < 2 ^ 29) : Ct g mX8_areCopiedAlike 2 0 0 [.ref m, .int (nI r), .int (nI k)] h (fun ρ η => ρ = some (.int (bi (alk P r k))) ∧ η = h) := by
  refine Ct_intro (by decide +kernel) (Nat.le_of_ble_eq_true rfl) ?_
  show V g mX8_areCopiedAlike _ h 0 0 [(0, .ref m), (1, .int (nI r)), (2, .int (nI k))] 0 []
  have hN := W.2.2.2.2.1
  have hR := W.2.2.1
  refine V_iconst (q := 1) (v := nI 1) dX8_areCopiedAlike_0 rfl rfl ?_
  refine V_rw (y := bi true) rfl ?_
  refine V_istore_n (q := 2) (L' := [(3, .int (bi true)), (0, .ref m), (1, .int (nI r)), (2, .int (nI k))]) dX8_areCopiedAlike_1 rfl rfl rfl ?_
  refine V_iconst (q := 3) (v := nI 0) dX8_areCopiedAlike_2 rfl rfl ?_
  refine V_istore (q := 5) (L' := [(4, .int (nI 0)), (3, .int (bi true)), (0, .ref m), (1, .int (nI r)), (2, .int (nI k))]) dX8_areCopiedAlike_3 rfl rfl rfl ?_
  refine V_sub (L' := [(0, .ref m), (1, .int (nI r)), (2, .int (nI k)), (3, .int (bi true)), (4, .int (nI 0))]) [2, 3, 4, 1, 0] rfl ?_
  refine lp_alikeO W hr hk (pNi P - 0 + 1) 0 true ?_ ?_ ?_
  · omega
  · rfl
  · exact Nat.lt_succ_self _

set_option maxHeartbeats 4000000 in
set_option maxRecDepth 100000 in
theorem c_goesOn {g : GX} {h : AH} {m : Nat} {P : PG} (W : RF h m P) {r k : Nat} (hr : r < 2 ^ 28) (hk : k < 2 ^ 28) : Ct g mX8_goesOn 4 0 0 [.ref m, .int (nI r), .int (nI k)] h (fun ρ η => ρ = some (.int (bi (gon P r k))) ∧ η = h) := by
  refine Ct_intro (by decide +kernel) (Nat.le_of_ble_eq_true rfl) ?_
  show V g mX8_goesOn _ h 0 0 [(0, .ref m), (1, .int (nI r)), (2, .int (nI k))] 0 []
  have hN := W.2.2.2.2.1
  have hR := W.2.2.1
  refine V_aload_n (j := 0) (q := 1) dX8_goesOn_0 rfl rfl ?_
  refine V_iload_n (j := 1) (q := 2) dX8_goesOn_1 rfl rfl ?_
  refine V_cpV (q := 5) (S := []) (v := .int (bi (esc P r))) kX8_90 (c_doesEscape (r := r) W (by omega)) (W.1.1 0 _ rfl) rfl rfl rfl dX8_goesOn_2 rfl ?_
  refine V_if_eqB (tgt := 18) (q := 8) dX8_goesOn_5 rfl rfl (fun c1 => ?_) (fun c1 => ?_)
  · skip
    refine V_iload_n (j := 2) (q := 19) dX8_goesOn_18 rfl rfl ?_
    refine V_if_neN (tgt := 24) (q := 22) dX8_goesOn_19 rfl rfl (by omega) (fun c2 => ?_) (fun c2 => ?_)
    · skip
      refine V_aload_n (j := 0) (q := 25) dX8_goesOn_24 rfl rfl ?_
      refine V_iload_n (j := 1) (q := 26) dX8_goesOn_25 rfl rfl ?_
      refine V_iload_n (j := 2) (q := 27) dX8_goesOn_26 rfl rfl ?_
      refine V_iconst (q := 28) (v := nI 1) dX8_goesOn_27 rfl rfl ?_
      refine V_isubN (q := 29) dX8_goesOn_28 rfl (by omega) ?_
      refine V_iconst (q := 30) (v := nI 1) dX8_goesOn_29 rfl rfl ?_
      refine V_cpV (q := 33) (S := []) (v := .int (bi (jnd P r (k - 1)))) kX8_86 (c_isAccT (r := r) (k := k - 1) W (by omega) (by omega)) (W.1.1 0 _ rfl) rfl rfl rfl dX8_goesOn_30 rfl ?_
      refine V_if_neB (tgt := 67) (q := 36) dX8_goesOn_33 rfl rfl (fun c3 => ?_) (fun c3 => ?_)
      · skip
        refine V_iconst (q := 68) (v := nI 1) dX8_goesOn_67 rfl rfl ?_
        refine V_goto (q := 72) dX8_goesOn_68 rfl ?_
        refine V_rw (y := bi true) rfl ?_
        refine V_zret (b := true) rfl dX8_goesOn_72 rfl rfl ?_
        exact ⟨pvb (by simp [gon, c1, c2, c3] <;> omega), rfl⟩
      · skip
        refine V_aload_n (j := 0) (q := 37) dX8_goesOn_36 rfl rfl ?_
        refine V_iload_n (j := 1) (q := 38) dX8_goesOn_37 rfl rfl ?_
        refine V_iload_n (j := 2) (q := 39) dX8_goesOn_38 rfl rfl ?_
        refine V_iconst (q := 40) (v := nI 1) dX8_goesOn_39 rfl rfl ?_
        refine V_isubN (q := 41) dX8_goesOn_40 rfl (by omega) ?_
        refine V_cpV (q := 44) (S := []) (v := .int (bi (sft P r (k - 1)))) kX8_93 (c_isSoft (r := r) (k := k - 1) W (by omega) (by omega)) (W.1.1 0 _ rfl) rfl rfl rfl dX8_goesOn_41 rfl ?_
        refine V_if_eqB (tgt := 71) (q := 47) dX8_goesOn_44 rfl rfl (fun c4 => ?_) (fun c4 => ?_)
        · skip
          refine V_iconst (q := 72) (v := nI 0) dX8_goesOn_71 rfl rfl ?_
          refine V_rw (y := bi false) rfl ?_
          refine V_zret (b := false) rfl dX8_goesOn_72 rfl rfl ?_
          exact ⟨pvb (by simp [gon, c1, c2, c3, c4] <;> omega), rfl⟩
        · skip
          refine V_aload_n (j := 0) (q := 48) dX8_goesOn_47 rfl rfl ?_
          refine V_iload_n (j := 1) (q := 49) dX8_goesOn_48 rfl rfl ?_
          refine V_iload_n (j := 2) (q := 50) dX8_goesOn_49 rfl rfl ?_
          refine V_cpV (q := 53) (S := []) (v := .int (bi (sft P r k))) kX8_93 (c_isSoft (r := r) (k := k) W (by omega) (by omega)) (W.1.1 0 _ rfl) rfl rfl rfl dX8_goesOn_50 rfl ?_
          refine V_if_eqB (tgt := 71) (q := 56) dX8_goesOn_53 rfl rfl (fun c5 => ?_) (fun c5 => ?_)
          · skip
            refine V_iconst (q := 72) (v := nI 0) dX8_goesOn_71 rfl rfl ?_
            refine V_rw (y := bi false) rfl ?_
            refine V_zret (b := false) rfl dX8_goesOn_72 rfl rfl ?_
            exact ⟨pvb (by simp [gon, c1, c2, c3, c4, c5] <;> omega), rfl⟩
          · skip
            refine V_aload_n (j := 0) (q := 57) dX8_goesOn_56 rfl rfl ?_
            refine V_iload_n (j := 1) (q := 58) dX8_goesOn_57 rfl rfl ?_
            refine V_iload_n (j := 2) (q := 59) dX8_goesOn_58 rfl rfl ?_
            refine V_iconst (q := 60) (v := nI 1) dX8_goesOn_59 rfl rfl ?_
            refine V_isubN (q := 61) dX8_goesOn_60 rfl (by omega) ?_
            refine V_cpV (q := 64) (S := []) (v := .int (bi (alk P r (k - 1)))) kX8_97 (c_areCopiedAlike (r := r) (k := k - 1) W (by omega) (by omega)) (W.1.1 0 _ rfl) rfl rfl rfl dX8_goesOn_61 rfl ?_
            refine V_if_eqB (tgt := 71) (q := 67) dX8_goesOn_64 rfl rfl (fun c6 => ?_) (fun c6 => ?_)
            · skip
              refine V_iconst (q := 72) (v := nI 0) dX8_goesOn_71 rfl rfl ?_
              refine V_rw (y := bi false) rfl ?_
              refine V_zret (b := false) rfl dX8_goesOn_72 rfl rfl ?_
              exact ⟨pvb (by simp [gon, c1, c2, c3, c4, c5, c6] <;> omega), rfl⟩
            · skip
              refine V_iconst (q := 68) (v := nI 1) dX8_goesOn_67 rfl rfl ?_
              refine V_goto (q := 72) dX8_goesOn_68 rfl ?_
              refine V_rw (y := bi true) rfl ?_
              refine V_zret (b := true) rfl dX8_goesOn_72 rfl rfl ?_
              exact ⟨pvb (by simp [gon, c1, c2, c3, c4, c5, c6] <;> omega), rfl⟩
    · skip
      refine V_iconst (q := 23) (v := nI 0) dX8_goesOn_22 rfl rfl ?_
      refine V_rw (y := bi false) rfl ?_
      refine V_zret (b := false) rfl dX8_goesOn_23 rfl rfl ?_
      exact ⟨pvb (by simp [gon, c1, c2] <;> omega), rfl⟩
  · skip
    refine V_iload_n (j := 2) (q := 9) dX8_goesOn_8 rfl rfl ?_
    refine V_if_leN (tgt := 16) (q := 12) dX8_goesOn_9 rfl rfl (by omega) (fun c7 => ?_) (fun c7 => ?_)
    · skip
      refine V_iconst (q := 17) (v := nI 0) dX8_goesOn_16 rfl rfl ?_
      refine V_rw (y := bi false) rfl ?_
      refine V_zret (b := false) rfl dX8_goesOn_17 rfl rfl ?_
      exact ⟨pvb (by simp [gon, c1, c7] <;> omega), rfl⟩
    · skip
      refine V_iconst (q := 13) (v := nI 1) dX8_goesOn_12 rfl rfl ?_
      refine V_goto (q := 17) dX8_goesOn_13 rfl ?_
      refine V_rw (y := bi true) rfl ?_
      refine V_zret (b := true) rfl dX8_goesOn_17 rfl rfl ?_
      exact ⟨pvb (by simp [gon, c1, c7] <;> omega), rfl⟩

set_option maxHeartbeats 4000000 in
set_option maxRecDepth 100000 in
theorem c_isParted {g : GX} {h : AH} {m : Nat} {P : PG} (W : RF h m P) {r k : Nat} (hr : r < 2 ^ 28) (hk : k < 2 ^ 28) : Ct g mX8_isParted 4 0 0 [.ref m, .int (nI r), .int (nI k)] h (fun ρ η => ρ = some (.int (bi (ptd P r k))) ∧ η = h) := by
  refine Ct_intro (by decide +kernel) (Nat.le_of_ble_eq_true rfl) ?_
  show V g mX8_isParted _ h 0 0 [(0, .ref m), (1, .int (nI r)), (2, .int (nI k))] 0 []
  have hN := W.2.2.2.2.1
  have hR := W.2.2.1
  refine V_aload_n (j := 0) (q := 1) dX8_isParted_0 rfl rfl ?_
  refine V_iload_n (j := 1) (q := 2) dX8_isParted_1 rfl rfl ?_
  refine V_cpV (q := 5) (S := []) (v := .int (bi (esc P r))) kX8_90 (c_doesEscape (r := r) W (by omega)) (W.1.1 0 _ rfl) rfl rfl rfl dX8_isParted_2 rfl ?_
  refine V_if_neB (tgt := 27) (q := 8) dX8_isParted_5 rfl rfl (fun c1 => ?_) (fun c1 => ?_)
  · skip
    refine V_iconst (q := 28) (v := nI 1) dX8_isParted_27 rfl rfl ?_
    refine V_goto (q := 32) dX8_isParted_28 rfl ?_
    refine V_rw (y := bi true) rfl ?_
    refine V_zret (b := true) rfl dX8_isParted_32 rfl rfl ?_
    exact ⟨pvb (by simp [ptd, c1]), rfl⟩
  · skip
    refine V_aload_n (j := 0) (q := 9) dX8_isParted_8 rfl rfl ?_
    refine V_iload_n (j := 1) (q := 10) dX8_isParted_9 rfl rfl ?_
    refine V_iload_n (j := 2) (q := 11) dX8_isParted_10 rfl rfl ?_
    refine V_iconst (q := 12) (v := nI 0) dX8_isParted_11 rfl rfl ?_
    refine V_cpV (q := 15) (S := []) (v := .int (bi (acc P r k))) kX8_86 (c_isAccF (r := r) (k := k) W (by omega) (by omega)) (W.1.1 0 _ rfl) rfl rfl rfl dX8_isParted_12 rfl ?_
    refine V_if_neB (tgt := 27) (q := 18) dX8_isParted_15 rfl rfl (fun c2 => ?_) (fun c2 => ?_)
    · skip
      refine V_iconst (q := 28) (v := nI 1) dX8_isParted_27 rfl rfl ?_
      refine V_goto (q := 32) dX8_isParted_28 rfl ?_
      refine V_rw (y := bi true) rfl ?_
      refine V_zret (b := true) rfl dX8_isParted_32 rfl rfl ?_
      exact ⟨pvb (by simp [ptd, c1, c2]), rfl⟩
    · skip
      refine V_aload_n (j := 0) (q := 19) dX8_isParted_18 rfl rfl ?_
      refine V_iload_n (j := 1) (q := 20) dX8_isParted_19 rfl rfl ?_
      refine V_iload_n (j := 2) (q := 21) dX8_isParted_20 rfl rfl ?_
      refine V_cpV (q := 24) (S := []) (v := .int (bi (sft P r k))) kX8_93 (c_isSoft (r := r) (k := k) W (by omega) (by omega)) (W.1.1 0 _ rfl) rfl rfl rfl dX8_isParted_21 rfl ?_
      refine V_if_eqB (tgt := 31) (q := 27) dX8_isParted_24 rfl rfl (fun c3 => ?_) (fun c3 => ?_)
      · skip
        refine V_iconst (q := 32) (v := nI 0) dX8_isParted_31 rfl rfl ?_
        refine V_rw (y := bi false) rfl ?_
        refine V_zret (b := false) rfl dX8_isParted_32 rfl rfl ?_
        exact ⟨pvb (by simp [ptd, c1, c2, c3]), rfl⟩
      · skip
        refine V_iconst (q := 28) (v := nI 1) dX8_isParted_27 rfl rfl ?_
        refine V_goto (q := 32) dX8_isParted_28 rfl ?_
        refine V_rw (y := bi true) rfl ?_
        refine V_zret (b := true) rfl dX8_isParted_32 rfl rfl ?_
        exact ⟨pvb (by simp [ptd, c1, c2, c3]), rfl⟩


set_option maxHeartbeats 4000000 in
set_option maxRecDepth 100000 in
theorem lp_padding {g : GX} {h : AH} {m : Nat} {P : PG} (G : RG h m P) {r : Nat} (hr : r < pNr P) : ∀ (t : Nat) (k : Nat) (n : Nat), (k ≤ pSz P r) → (n = cnN k (fun k => !ptd P r k)) → pSz P r - k < t → V g mX8_paddingBytes (thM g 5 0 0 (fun ρ η => ρ = some (.int (aPd P (nI r))) ∧ FQ h η m)) h 0 0 [(0, .ref m), (1, .int (nI r)), (2, .int (nI n)), (3, .int (nI k))] 14 [] := by
  intro t
  induction t with
  | zero =>
    intro k n hk hn hfu
    exact absurd hfu (Nat.not_lt_zero _)
  | succ t ih =>
    intro k n hk hn hfu
    have W := G.1
    have hN := W.2.2.2.2.1
    have hR := W.2.2.1
    have hS := W.2.2.2.1 r hr
    have nx := nt_n (n := r) (by omega)
    refine V_iload_n (j := 3) (q := 15) dX8_paddingBytes_14 rfl rfl ?_
    refine V_aload_n (j := 0) (q := 16) dX8_paddingBytes_15 rfl rfl ?_
    refine V_getP (q := 19) (r := (m + 1)) fX8_7 (W.1.1 0 _ rfl) rfl (W.1.2 0 _ rfl) dX8_paddingBytes_16 rfl ?_
    refine V_iconst (q := 20) (v := nI 1) dX8_paddingBytes_19 rfl rfl ?_
    refine V_iload_n (j := 1) (q := 21) dX8_paddingBytes_20 rfl rfl ?_
    refine V_iaddN (q := 22) dX8_paddingBytes_21 rfl ?_
    refine V_iald (q := 23) (W.1.1 1 _ rfl) (by omega) (by decide) dX8_paddingBytes_22 rfl ?_
    refine V_rw (y := nI (pSz P r)) (W.2.1.2.1 _ (by omega)) ?_
    refine V_icmp_geN (tgt := 49) (q := 26) dX8_paddingBytes_23 rfl rfl (by omega) (by omega) (fun c1 => ?_) (fun c1 => ?_)
    · skip
      refine V_iload_n (j := 2) (q := 50) dX8_paddingBytes_49 rfl rfl ?_
      refine V_iret rfl dX8_paddingBytes_50 rfl rfl ?_
      exact ⟨pv (by simp [aPd, isR_n W.2.2 hr, nx, pad, hn, show pSz P r = k by omega]), G.q⟩
    · skip
      refine V_iload_n (j := 2) (q := 27) dX8_paddingBytes_26 rfl rfl ?_
      refine V_aload_n (j := 0) (q := 28) dX8_paddingBytes_27 rfl rfl ?_
      refine V_iload_n (j := 1) (q := 29) dX8_paddingBytes_28 rfl rfl ?_
      refine V_iload_n (j := 3) (q := 30) dX8_paddingBytes_29 rfl rfl ?_
      refine V_cpV (q := 33) (S := [.int (nI n)]) (v := .int (bi (ptd P r k))) kX8_100 (c_isParted (r := r) (k := k) W (by omega) (by omega)) (W.1.1 0 _ rfl) rfl rfl rfl dX8_paddingBytes_30 rfl ?_
      refine V_if_eqB (tgt := 40) (q := 36) dX8_paddingBytes_33 rfl rfl (fun c2 => ?_) (fun c2 => ?_)
      · skip
        refine V_iconst (q := 41) (v := nI 1) dX8_paddingBytes_40 rfl rfl ?_
        refine V_iaddN (q := 42) dX8_paddingBytes_41 rfl ?_
        refine V_istore_n (q := 43) (L' := [(2, .int (nI (n + 1))), (0, .ref m), (1, .int (nI r)), (3, .int (nI k))]) dX8_paddingBytes_42 rfl rfl rfl ?_
        refine V_iincN (j := 3) (q := 46) (L' := [(3, .int (nI (k + 1))), (2, .int (nI (n + 1))), (0, .ref m), (1, .int (nI r))]) dX8_paddingBytes_43 rfl rfl rfl rfl ?_
        refine V_goto (q := 14) dX8_paddingBytes_46 rfl ?_
        refine V_sub (L' := [(0, .ref m), (1, .int (nI r)), (2, .int (nI (n + 1))), (3, .int (nI (k + 1)))]) [2, 3, 1, 0] rfl ?_
        refine ih (k + 1) (n + 1) ?_ ?_ ?_
        · omega
        · rw [cnN_s, hn]; simp [c1, c2]
        · omega
      · skip
        refine V_iconst (q := 37) (v := nI 0) dX8_paddingBytes_36 rfl rfl ?_
        refine V_goto (q := 41) dX8_paddingBytes_37 rfl ?_
        refine V_iaddN (q := 42) dX8_paddingBytes_41 rfl ?_
        refine V_istore_n (q := 43) (L' := [(2, .int (nI (n + 0))), (0, .ref m), (1, .int (nI r)), (3, .int (nI k))]) dX8_paddingBytes_42 rfl rfl rfl ?_
        refine V_iincN (j := 3) (q := 46) (L' := [(3, .int (nI (k + 1))), (2, .int (nI (n + 0))), (0, .ref m), (1, .int (nI r))]) dX8_paddingBytes_43 rfl rfl rfl rfl ?_
        refine V_goto (q := 14) dX8_paddingBytes_46 rfl ?_
        refine V_sub (L' := [(0, .ref m), (1, .int (nI r)), (2, .int (nI (n + 0))), (3, .int (nI (k + 1)))]) [2, 3, 1, 0] rfl ?_
        refine ih (k + 1) (n + 0) ?_ ?_ ?_
        · omega
        · rw [cnN_s, hn]; simp [c1, c2]
        · omega

set_option maxHeartbeats 4000000 in
set_option maxRecDepth 100000 in
theorem c_paddingBytes {g : GX} {h : AH} {m : Nat} {P : PG} (G : RG h m P) {x : Int32} : Ct g mX8_paddingBytes 5 0 0 [.ref m, .int x] h (fun ρ η => ρ = some (.int (aPd P x)) ∧ FQ h η m) := by
  refine Ct_intro (by decide +kernel) (Nat.le_of_ble_eq_true rfl) ?_
  show V g mX8_paddingBytes _ h 0 0 [(0, .ref m), (1, .int x)] 0 []
  have W := G.1
  have hN := W.2.2.2.2.1
  have hR := W.2.2.1
  refine V_aload_n (j := 0) (q := 1) dX8_paddingBytes_0 rfl rfl ?_
  refine V_iload_n (j := 1) (q := 2) dX8_paddingBytes_1 rfl rfl ?_
  refine V_cpV (q := 5) (S := []) (v := .int (bi (isR P x))) kX8_52 (c_isRecord W) (W.1.1 0 _ rfl) rfl rfl rfl dX8_paddingBytes_2 rfl ?_
  refine V_if_neB (tgt := 10) (q := 8) dX8_paddingBytes_5 rfl rfl (fun c1 => ?_) (fun c1 => ?_)
  · skip
    obtain ⟨r, hr, rfl⟩ := isR_of c1
    have hS := W.2.2.2.1 r hr
    have hnp := npt_le P r
    have nx := nt_n (n := r) (by omega)
    refine V_iconst (q := 11) (v := nI 0) dX8_paddingBytes_10 rfl rfl ?_
    refine V_istore_n (q := 12) (L' := [(2, .int (nI 0)), (0, .ref m), (1, .int (nI r))]) dX8_paddingBytes_11 rfl rfl rfl ?_
    refine V_iconst (q := 13) (v := nI 0) dX8_paddingBytes_12 rfl rfl ?_
    refine V_istore_n (q := 14) (L' := [(3, .int (nI 0)), (2, .int (nI 0)), (0, .ref m), (1, .int (nI r))]) dX8_paddingBytes_13 rfl rfl rfl ?_
    refine V_sub (L' := [(0, .ref m), (1, .int (nI r)), (2, .int (nI 0)), (3, .int (nI 0))]) [2, 3, 1, 0] rfl ?_
    refine lp_padding G hr (pSz P r - 0 + 1) 0 0 ?_ ?_ ?_
    · omega
    · rfl
    · exact Nat.lt_succ_self _
  · skip
    refine V_iconst (q := 9) (v := (-1)) dX8_paddingBytes_8 rfl rfl ?_
    refine V_iret rfl dX8_paddingBytes_9 rfl rfl ?_
    exact ⟨pv (by simp [aPd, c1]), G.q⟩

set_option maxHeartbeats 4000000 in
set_option maxRecDepth 100000 in
theorem c_isCopy {g : GX} {h : AH} {m : Nat} {P : PG} (W : RF h m P) {x : Int32} : Ct g mX8_isCopy 1 0 0 [.ref m, .int x] h (fun ρ η => ρ = some (.int (bi (isCy P x))) ∧ η = h) := by
  refine Ct_intro (by decide +kernel) (Nat.le_of_ble_eq_true rfl) ?_
  show V g mX8_isCopy _ h 0 0 [(0, .ref m), (1, .int x)] 0 []
  have hN := W.2.2.2.2.1
  have hR := W.2.2.1
  refine V_iload_n (j := 1) (q := 1) dX8_isCopy_0 rfl rfl ?_
  refine V_iconst (q := 2) (v := nI 0) dX8_isCopy_1 rfl rfl ?_
  refine V_aload_n (j := 0) (q := 3) dX8_isCopy_2 rfl rfl ?_
  refine V_getP (q := 6) (r := (m + 1)) fX8_7 (W.1.1 0 _ rfl) rfl (W.1.2 0 _ rfl) dX8_isCopy_3 rfl ?_
  refine V_iconst (q := 7) (v := nI 5) dX8_isCopy_6 rfl rfl ?_
  refine V_iald (q := 8) (W.1.1 1 _ rfl) (by omega) (by decide) dX8_isCopy_7 rfl ?_
  refine V_rw (y := nI (pNi P)) W.2.1.2.2.1 ?_
  refine V_iconst (q := 9) (v := nI 1) dX8_isCopy_8 rfl rfl ?_
  refine V_isub (q := 10) dX8_isCopy_9 rfl ?_
  refine V_cpS (q := 13) (S := []) (v := .int (bi (inB x (nI 0) ((nI (pNi P)) - (nI 1))))) kX8_48 c_in rfl rfl rfl dX8_isCopy_10 rfl ?_
  refine V_if_eqB (tgt := 30) (q := 16) dX8_isCopy_13 rfl rfl (fun c1 => ?_) (fun c1 => ?_)
  · skip
    rw [inB_ni (by omega)] at c1
    refine V_iconst (q := 31) (v := nI 0) dX8_isCopy_30 rfl rfl ?_
    refine V_rw (y := bi false) rfl ?_
    refine V_zret (b := false) rfl dX8_isCopy_31 rfl rfl ?_
    exact ⟨pvb (by first | (simp only [isCy, c1, Bool.false_and]; done) | (simp only [isCy, c1]; simp [nx, c1])), rfl⟩
  · skip
    rw [inB_ni (by omega)] at c1
    obtain ⟨i, hi, rfl⟩ := i_of (of_decide_eq_true c1).1 (of_decide_eq_true c1).2
    have nx := nt_n (n := i) (by omega)
    have hk9 := ok_kd W.2.2 hi
    refine V_aload_n (j := 0) (q := 17) dX8_isCopy_16 rfl rfl ?_
    refine V_iload_n (j := 1) (q := 18) dX8_isCopy_17 rfl rfl ?_
    refine V_iconst (q := 19) (v := nI 0) dX8_isCopy_18 rfl rfl ?_
    refine V_cpV (q := 22) (S := []) (v := .int (nI (pFd P i 0))) kX8_72 (c_of (i := i) W (by omega) (by omega)) (W.1.1 0 _ rfl) rfl rfl rfl dX8_isCopy_19 rfl ?_
    refine V_iconst (q := 23) (v := nI 3) dX8_isCopy_22 rfl rfl ?_
    refine V_icmp_neN (tgt := 30) (q := 26) dX8_isCopy_23 rfl rfl (by omega) (by omega) (fun c2 => ?_) (fun c2 => ?_)
    · skip
      refine V_iconst (q := 31) (v := nI 0) dX8_isCopy_30 rfl rfl ?_
      refine V_rw (y := bi false) rfl ?_
      refine V_zret (b := false) rfl dX8_isCopy_31 rfl rfl ?_
      exact ⟨pvb (by first | (simp only [isCy, c1, c2, Bool.false_and]; done) | (simp only [isCy, c1, c2]; simp [nx, c1, c2])), rfl⟩
    · skip
      have ac2 := ok_cp W.2.2 (i := i) (by omega) c2
      refine V_iconst (q := 27) (v := nI 1) dX8_isCopy_26 rfl rfl ?_
      refine V_goto (q := 31) dX8_isCopy_27 rfl ?_
      refine V_rw (y := bi true) rfl ?_
      refine V_zret (b := true) rfl dX8_isCopy_31 rfl rfl ?_
      exact ⟨pvb (by first | (simp only [isCy, c1, c2, Bool.false_and]; done) | (simp only [isCy, c1, c2]; simp [nx, c1, c2])), rfl⟩

set_option maxHeartbeats 4000000 in
set_option maxRecDepth 100000 in
theorem lp_pieceCount {g : GX} {h : AH} {m : Nat} {P : PG} (G : RG h m P) {i : Nat} (hi : i < pNi P) (hc : pFd P i 0 = 3) {e : AH} (Q : FQ h e m) (A : PA e m P (pNr P)) : ∀ (t : Nat) (k : Nat) (n : Nat), (k ≤ pFd P i 5) → (k < pFd P i 5 → pst P i k = true) → (n = cnN k (pst P i)) → pFd P i 5 - k < t → V g mX8_pieceCount (thM g 7 0 0 (fun ρ η => ρ = some (.int (aCc P (nI i))) ∧ FQ h η m)) e 0 0 [(0, .ref m), (1, .int (nI i)), (2, .int (nI n)), (3, .int (nI k))] 18 [] := by
  intro t
  induction t with
  | zero =>
    intro k n hk hs hn hfu
    exact absurd hfu (Nat.not_lt_zero _)
  | succ t ih =>
    intro k n hk hs hn hfu
    have W := (FQ.rg G Q).1
    have hN := W.2.2.2.2.1
    have hR := W.2.2.1
    have hcp := ok_cp W.2.2 hi hc
    have nx := nt_n (n := i) (by omega)
    have hcy : isCy P (nI i) = true := by simp [isCy, nx, hc, i_n (show i < 2 ^ 31 by omega), hi]
    refine V_iload_n (j := 3) (q := 19) dX8_pieceCount_18 rfl rfl ?_
    refine V_aload_n (j := 0) (q := 20) dX8_pieceCount_19 rfl rfl ?_
    refine V_iload_n (j := 1) (q := 21) dX8_pieceCount_20 rfl rfl ?_
    refine V_iconst (q := 22) (v := nI 5) dX8_pieceCount_21 rfl rfl ?_
    refine V_cpV (q := 25) (S := [.int (nI k)]) (v := .int (nI (pFd P i 5))) kX8_72 (c_of (i := i) W (by omega) (by omega)) (W.1.1 0 _ rfl) rfl rfl rfl dX8_pieceCount_22 rfl ?_
    refine V_icmp_geN (tgt := 43) (q := 28) dX8_pieceCount_25 rfl rfl (by omega) (by omega) (fun c1 => ?_) (fun c1 => ?_)
    · skip
      refine V_iload_n (j := 2) (q := 44) dX8_pieceCount_43 rfl rfl ?_
      refine V_iret rfl dX8_pieceCount_44 rfl rfl ?_
      exact ⟨pv (by rw [aCc, if_pos hcy, nx, hn, show k = pFd P i 5 by omega]; rfl), Q⟩
    · skip
      have hpl := pln_spec c1
      refine V_iload_n (j := 3) (q := 29) dX8_pieceCount_28 rfl rfl ?_
      refine V_aload_n (j := 0) (q := 30) dX8_pieceCount_29 rfl rfl ?_
      refine V_iload_n (j := 1) (q := 31) dX8_pieceCount_30 rfl rfl ?_
      refine V_iload_n (j := 3) (q := 32) dX8_pieceCount_31 rfl rfl ?_
      refine V_cpV (q := 35) (S := [.int (nI k)]) (v := .int (nI (pln P i k))) kX8_116 (c_pieceAt (i := i) (k := k) W A hi hc (by omega)) (W.1.1 0 _ rfl) rfl rfl rfl dX8_pieceCount_32 rfl ?_
      refine V_iaddN (q := 36) dX8_pieceCount_35 rfl ?_
      refine V_istore_n (q := 37) (L' := [(3, .int (nI (k + (pln P i k)))), (0, .ref m), (1, .int (nI i)), (2, .int (nI n))]) dX8_pieceCount_36 rfl rfl rfl ?_
      refine V_iincN (j := 3) (q := 40) (L' := [(2, .int (nI (n + 1))), (3, .int (nI (k + (pln P i k)))), (0, .ref m), (1, .int (nI i))]) dX8_pieceCount_37 rfl rfl rfl rfl ?_
      refine V_goto (q := 18) dX8_pieceCount_40 rfl ?_
      refine V_sub (L' := [(0, .ref m), (1, .int (nI i)), (2, .int (nI (n + 1))), (3, .int (nI (k + (pln P i k))))]) [2, 3, 0, 1] rfl ?_
      refine ih (k + (pln P i k)) (n + 1) ?_ ?_ ?_ ?_
      · omega
      · exact fun z => by simp [pst, hpl.2.2.2 z]
      · rw [cnN_add (fun j h1 h2 => by simp [pst, hpl.2.2.1 j h1 h2]; omega) hpl.1 (hs (by omega)), hn]
      · omega

set_option maxHeartbeats 4000000 in
set_option maxRecDepth 100000 in
theorem c_pieceCount {g : GX} {h : AH} {m : Nat} {P : PG} (G : RG h m P) {x : Int32} : Ct g mX8_pieceCount 7 0 0 [.ref m, .int x] h (fun ρ η => ρ = some (.int (aCc P x)) ∧ FQ h η m) := by
  refine Ct_intro (by decide +kernel) (Nat.le_of_ble_eq_true rfl) ?_
  show V g mX8_pieceCount _ h 0 0 [(0, .ref m), (1, .int x)] 0 []
  have W := G.1
  have hN := W.2.2.2.2.1
  have hR := W.2.2.1
  refine V_aload_n (j := 0) (q := 1) dX8_pieceCount_0 rfl rfl ?_
  refine V_iload_n (j := 1) (q := 2) dX8_pieceCount_1 rfl rfl ?_
  refine V_cpV (q := 5) (S := []) (v := .int (bi (isCy P x))) kX8_144 (c_isCopy (x := x) W) (W.1.1 0 _ rfl) rfl rfl rfl dX8_pieceCount_2 rfl ?_
  refine V_if_neB (tgt := 10) (q := 8) dX8_pieceCount_5 rfl rfl (fun c1 => ?_) (fun c1 => ?_)
  · skip
    obtain ⟨i, hi, hc, rfl⟩ := isCy_of W.2.2 c1
    have nx := nt_n (n := i) (by omega)
    have hcp := ok_cp W.2.2 hi hc
    refine V_aload_n (j := 0) (q := 11) dX8_pieceCount_10 rfl rfl ?_
    refine V_callV (q := 14) (S := []) kX8_129 (c_findAllParts W) (W.1.1 0 _ rfl) rfl rfl rfl dX8_pieceCount_11 rfl (fun r2 h3 p4 => ?_)
    obtain ⟨rfl, F1, A⟩ := p4
    have W := F1.rf W
    have Q := F1.q G
    refine V_iconst (q := 15) (v := nI 0) dX8_pieceCount_14 rfl rfl ?_
    refine V_istore_n (q := 16) (L' := [(2, .int (nI 0)), (0, .ref m), (1, .int (nI i))]) dX8_pieceCount_15 rfl rfl rfl ?_
    refine V_iconst (q := 17) (v := nI 0) dX8_pieceCount_16 rfl rfl ?_
    refine V_istore_n (q := 18) (L' := [(3, .int (nI 0)), (2, .int (nI 0)), (0, .ref m), (1, .int (nI i))]) dX8_pieceCount_17 rfl rfl rfl ?_
    refine V_sub (L' := [(0, .ref m), (1, .int (nI i)), (2, .int (nI 0)), (3, .int (nI 0))]) [2, 3, 1, 0] rfl ?_
    refine lp_pieceCount G hi hc Q A (pFd P i 5 - 0 + 1) 0 0 ?_ ?_ ?_ ?_
    · omega
    · exact fun _ => rfl
    · rfl
    · exact Nat.lt_succ_self _
  · skip
    refine V_iconst (q := 9) (v := (-1)) dX8_pieceCount_8 rfl rfl ?_
    refine V_iret rfl dX8_pieceCount_9 rfl rfl ?_
    exact ⟨pv (by simp [aCc, c1]), G.q⟩

set_option maxHeartbeats 4000000 in
set_option maxRecDepth 100000 in
theorem lp_pieceLength {g : GX} {h : AH} {m : Nat} {P : PG} (G : RG h m P) {i : Nat} (hi : i < pNi P) (hc : pFd P i 0 = 3) {e : AH} (Q : FQ h e m) (A : PA e m P (pNr P)) {j : Nat} (hj : j < 2 ^ 31) : ∀ (t : Nat) (k : Nat) (y : Nat), (k ≤ pFd P i 5) → (y < 2 ^ 31) → (k < pFd P i 5 → pst P i k = true) → (pth P i (pFd P i 5 - k) k y = pth P i (pFd P i 5) 0 j) → pFd P i 5 - k < t → V g mX8_pieceLength (thM g 7 0 0 (fun ρ η => ρ = some (.int (aCl P (nI i) (nI j))) ∧ FQ h η m)) e 0 0 [(0, .ref m), (1, .int (nI i)), (2, .int (nI j)), (3, .int (nI y)), (4, .int (nI k))] 23 [] := by
  intro t
  induction t with
  | zero =>
    intro k y hk hy hs hn hfu
    exact absurd hfu (Nat.not_lt_zero _)
  | succ t ih =>
    intro k y hk hy hs hn hfu
    have W := (FQ.rg G Q).1
    have hN := W.2.2.2.2.1
    have hR := W.2.2.1
    have hcp := ok_cp W.2.2 hi hc
    have nx := nt_n (n := i) (by omega)
    have hcy : isCy P (nI i) = true := by simp [isCy, nx, hc, i_n (show i < 2 ^ 31 by omega), hi]
    have ny := nt_n hj
    have hj0 : 0 ≤ (nI j).toInt := by rw [i_n hj]; omega
    refine V_iload (j := 4) (q := 25) dX8_pieceLength_23 rfl rfl ?_
    refine V_aload_n (j := 0) (q := 26) dX8_pieceLength_25 rfl rfl ?_
    refine V_iload_n (j := 1) (q := 27) dX8_pieceLength_26 rfl rfl ?_
    refine V_iconst (q := 28) (v := nI 5) dX8_pieceLength_27 rfl rfl ?_
    refine V_cpV (q := 31) (S := [.int (nI k)]) (v := .int (nI (pFd P i 5))) kX8_72 (c_of (i := i) W (by omega) (by omega)) (W.1.1 0 _ rfl) rfl rfl rfl dX8_pieceLength_28 rfl ?_
    refine V_icmp_geN (tgt := 63) (q := 34) dX8_pieceLength_31 rfl rfl (by omega) (by omega) (fun c1 => ?_) (fun c1 => ?_)
    · skip
      refine V_iconst (q := 64) (v := (-1)) dX8_pieceLength_63 rfl rfl ?_
      refine V_iret rfl dX8_pieceLength_64 rfl rfl ?_
      exact ⟨pv (by rw [aCl, if_pos ⟨hcy, hj0⟩, nx, ny, ← hn, show pFd P i 5 - k = 0 by omega, pth, if_pos rfl]), Q⟩
    · skip
      have hpl := pln_spec c1
      refine V_aload_n (j := 0) (q := 35) dX8_pieceLength_34 rfl rfl ?_
      refine V_iload_n (j := 1) (q := 36) dX8_pieceLength_35 rfl rfl ?_
      refine V_iload (j := 4) (q := 38) dX8_pieceLength_36 rfl rfl ?_
      refine V_cpV (q := 41) (S := []) (v := .int (nI (pln P i k))) kX8_116 (c_pieceAt (i := i) (k := k) W A hi hc (by omega)) (W.1.1 0 _ rfl) rfl rfl rfl dX8_pieceLength_38 rfl ?_
      refine V_istore (q := 43) (L' := [(5, .int (nI (pln P i k))), (0, .ref m), (1, .int (nI i)), (2, .int (nI j)), (3, .int (nI y)), (4, .int (nI k))]) dX8_pieceLength_41 rfl rfl rfl ?_
      refine V_iload_n (j := 4) (q := 44) dX8_pieceLength_43 rfl rfl ?_
      refine V_if_neN (tgt := 50) (q := 47) dX8_pieceLength_44 rfl rfl (by omega) (fun c2 => ?_) (fun c2 => ?_)
      · skip
        refine V_iincM (j := 4) (q := 53) (L' := [(3, .int (nI (y - 1))), (5, .int (nI (pln P i k))), (0, .ref m), (1, .int (nI i)), (2, .int (nI j)), (4, .int (nI k))]) dX8_pieceLength_50 rfl rfl (by omega) rfl rfl ?_
        refine V_iload (j := 5) (q := 55) dX8_pieceLength_53 rfl rfl ?_
        refine V_iload (j := 1) (q := 57) dX8_pieceLength_55 rfl rfl ?_
        refine V_iaddN (q := 58) dX8_pieceLength_57 rfl ?_
        refine V_istore (q := 60) (L' := [(4, .int (nI (k + (pln P i k)))), (3, .int (nI (y - 1))), (5, .int (nI (pln P i k))), (0, .ref m), (1, .int (nI i)), (2, .int (nI j))]) dX8_pieceLength_58 rfl rfl rfl ?_
        refine V_goto (q := 23) dX8_pieceLength_60 rfl ?_
        refine V_sub (L' := [(0, .ref m), (1, .int (nI i)), (2, .int (nI j)), (3, .int (nI (y - 1))), (4, .int (nI (k + (pln P i k))))]) [3, 4, 5, 1, 0] rfl ?_
        refine ih (k + (pln P i k)) (y - 1) ?_ ?_ ?_ ?_ ?_
        · omega
        · omega
        · exact fun z => by simp [pst, hpl.2.2.2 z]
        · rw [← hn, pth_nx (by omega) (hs (by omega)) (by omega)]
        · omega
      · skip
        refine V_iload (j := 0) (q := 49) dX8_pieceLength_47 rfl rfl ?_
        refine V_iret rfl dX8_pieceLength_49 rfl rfl ?_
        have h0 := pth_0 (P := P) (i := i) (k := k) (by omega) (hs (by omega))
        rw [c2] at hn
        exact ⟨pv (by rw [aCl, if_pos ⟨hcy, hj0⟩, nx, ny, ← hn, h0, if_neg (by omega)]), Q⟩

set_option maxHeartbeats 4000000 in
set_option maxRecDepth 100000 in
theorem c_pieceLength {g : GX} {h : AH} {m : Nat} {P : PG} (G : RG h m P) {x y : Int32} : Ct g mX8_pieceLength 7 0 0 [.ref m, .int x, .int y] h (fun ρ η => ρ = some (.int (aCl P x y)) ∧ FQ h η m) := by
  refine Ct_intro (by decide +kernel) (Nat.le_of_ble_eq_true rfl) ?_
  show V g mX8_pieceLength _ h 0 0 [(0, .ref m), (1, .int x), (2, .int y)] 0 []
  have W := G.1
  have hN := W.2.2.2.2.1
  have hR := W.2.2.1
  refine V_aload_n (j := 0) (q := 1) dX8_pieceLength_0 rfl rfl ?_
  refine V_iload_n (j := 1) (q := 2) dX8_pieceLength_1 rfl rfl ?_
  refine V_cpV (q := 5) (S := []) (v := .int (bi (isCy P x))) kX8_144 (c_isCopy (x := x) W) (W.1.1 0 _ rfl) rfl rfl rfl dX8_pieceLength_2 rfl ?_
  refine V_if_eqB (tgt := 12) (q := 8) dX8_pieceLength_5 rfl rfl (fun c1 => ?_) (fun c1 => ?_)
  · skip
    refine V_iconst (q := 13) (v := (-1)) dX8_pieceLength_12 rfl rfl ?_
    refine V_iret rfl dX8_pieceLength_13 rfl rfl ?_
    exact ⟨pv (by rw [aCl, if_neg (by simp [c1])]), G.q⟩
  · skip
    obtain ⟨i, hi, hc, rfl⟩ := isCy_of W.2.2 c1
    have nx := nt_n (n := i) (by omega)
    have hcp := ok_cp W.2.2 hi hc
    refine V_iload_n (j := 2) (q := 9) dX8_pieceLength_8 rfl rfl ?_
    refine V_if_ge (tgt := 14) (q := 12) dX8_pieceLength_9 rfl rfl (fun c2 => ?_) (fun c2 => ?_)
    · skip
      rw [i_le, i_0] at c2
      obtain ⟨j, hj, rfl⟩ := i_of (n := 2147483648) c2 (i_rng y).2
      refine V_aload_n (j := 0) (q := 15) dX8_pieceLength_14 rfl rfl ?_
      refine V_callV (q := 18) (S := []) kX8_129 (c_findAllParts W) (W.1.1 0 _ rfl) rfl rfl rfl dX8_pieceLength_15 rfl (fun r3 h4 p5 => ?_)
      obtain ⟨rfl, F1, A⟩ := p5
      have W := F1.rf W
      have Q := F1.q G
      refine V_iload_n (j := 2) (q := 19) dX8_pieceLength_18 rfl rfl ?_
      refine V_istore_n (q := 20) (L' := [(3, .int (nI j)), (0, .ref m), (1, .int (nI i)), (2, .int (nI j))]) dX8_pieceLength_19 rfl rfl rfl ?_
      refine V_iconst (q := 21) (v := nI 0) dX8_pieceLength_20 rfl rfl ?_
      refine V_istore (q := 23) (L' := [(4, .int (nI 0)), (3, .int (nI j)), (0, .ref m), (1, .int (nI i)), (2, .int (nI j))]) dX8_pieceLength_21 rfl rfl rfl ?_
      refine V_sub (L' := [(0, .ref m), (1, .int (nI i)), (2, .int (nI j)), (3, .int (nI j)), (4, .int (nI 0))]) [2, 3, 4, 1, 0] rfl ?_
      refine lp_pieceLength G hi hc Q A hj (pFd P i 5 - 0 + 1) 0 j ?_ ?_ ?_ ?_ ?_
      · omega
      · omega
      · exact fun _ => rfl
      · rfl
      · exact Nat.lt_succ_self _
    · skip
      rw [i_le, i_0] at c2
      refine V_iconst (q := 13) (v := (-1)) dX8_pieceLength_12 rfl rfl ?_
      refine V_iret rfl dX8_pieceLength_13 rfl rfl ?_
      exact ⟨pv (by rw [aCl, if_neg (by simp [c1, c2])]), G.q⟩

set_option maxHeartbeats 4000000 in
set_option maxRecDepth 100000 in
theorem lp_scalarCount2 {g : GX} {h : AH} {m : Nat} {P : PG} (G : RG h m P) {e : AH} (Q : FQ h e m) (N : AN e m P) {r : Nat} (hr : r < pNr P) {n0 : Nat} (kk : ∀ n : Nat, n = n0 + (cnN (npt P r) fun p => liv P (16 * r + p) && prm P (16 * r + p)) → V g mX8_scalarCount (thM g 8 0 0 (fun ρ η => ρ = some (.int (aSc P)) ∧ FQ h η m)) e 0 0 [(0, .ref m), (1, .int (nI n)), (2, .int (nI r))] 72 []) : ∀ (t : Nat) (p : Nat) (n : Nat), (p ≤ npt P r) → (n = n0 + cnN p (fun p => liv P (16 * r + p) && prm P (16 * r + p))) → npt P r - p < t → V g mX8_scalarCount (thM g 8 0 0 (fun ρ η => ρ = some (.int (aSc P)) ∧ FQ h η m)) e 0 0 [(0, .ref m), (1, .int (nI n)), (2, .int (nI r)), (3, .int (nI p))] 20 [] := by
  intro t
  induction t with
  | zero =>
    intro p n hp hn hfu
    exact absurd hfu (Nat.not_lt_zero _)
  | succ t ih =>
    intro p n hp hn hfu
    have W := (FQ.rg G Q).1
    have A := N.1
    have hN := W.2.2.2.2.1
    have hR := W.2.2.1
    have hS := W.2.2.2.1 r hr
    have hnp := npt_le P r
    refine V_iload_n (j := 3) (q := 21) dX8_scalarCount_20 rfl rfl ?_
    refine V_aload_n (j := 0) (q := 22) dX8_scalarCount_21 rfl rfl ?_
    refine V_getP (q := 25) (r := (m + 6)) fX8_25 (W.1.1 0 _ rfl) rfl (W.1.2 6 _ rfl) dX8_scalarCount_22 rfl ?_
    refine V_iload_n (j := 2) (q := 26) dX8_scalarCount_25 rfl rfl ?_
    refine V_iald (q := 27) (W.1.1 6 _ rfl) (by omega) (by decide) dX8_scalarCount_26 rfl ?_
    refine V_rw (y := nI (npt P r)) ((A r (by omega)).1) ?_
    refine V_icmp_geN (tgt := 72) (q := 30) dX8_scalarCount_27 rfl rfl (by omega) (by omega) (fun c1 => ?_) (fun c1 => ?_)
    · skip
      refine V_sub (L' := [(0, .ref m), (1, .int (nI n)), (2, .int (nI r))]) [0, 1, 2] rfl ?_
      exact kk n (by rw [hn, show p = npt P r by omega])
    · skip
      refine V_iload_n (j := 1) (q := 31) dX8_scalarCount_30 rfl rfl ?_
      refine V_aload_n (j := 0) (q := 32) dX8_scalarCount_31 rfl rfl ?_
      refine V_getP (q := 35) (r := (m + 8)) fX8_32 (W.1.1 0 _ rfl) rfl (W.1.2 8 _ rfl) dX8_scalarCount_32 rfl ?_
      refine V_bipush (q := 37) (v := nI 16) dX8_scalarCount_35 rfl (by decide) ?_
      refine V_iload_n (j := 2) (q := 38) dX8_scalarCount_37 rfl rfl ?_
      refine V_imulN (q := 39) dX8_scalarCount_38 rfl ?_
      refine V_iload_n (j := 3) (q := 40) dX8_scalarCount_39 rfl rfl ?_
      refine V_iaddN (q := 41) dX8_scalarCount_40 rfl ?_
      refine V_zald (q := 42) (W.1.1 8 _ rfl) (by omega) (by decide) dX8_scalarCount_41 rfl ?_
      refine V_rw (y := bi (liv P (16 * r + p))) ((N.2 r (by omega) p (by omega)).2) ?_
      refine V_if_eqB (tgt := 63) (q := 45) dX8_scalarCount_42 rfl rfl (fun c2 => ?_) (fun c2 => ?_)
      · skip
        refine V_iconst (q := 64) (v := nI 0) dX8_scalarCount_63 rfl rfl ?_
        refine V_iaddN (q := 65) dX8_scalarCount_64 rfl ?_
        refine V_istore_n (q := 66) (L' := [(1, .int (nI (n + 0))), (0, .ref m), (2, .int (nI r)), (3, .int (nI p))]) dX8_scalarCount_65 rfl rfl rfl ?_
        refine V_iincN (j := 3) (q := 69) (L' := [(3, .int (nI (p + 1))), (1, .int (nI (n + 0))), (0, .ref m), (2, .int (nI r))]) dX8_scalarCount_66 rfl rfl rfl rfl ?_
        refine V_goto (q := 20) dX8_scalarCount_69 rfl ?_
        refine V_sub (L' := [(0, .ref m), (1, .int (nI (n + 0))), (2, .int (nI r)), (3, .int (nI (p + 1)))]) [2, 1, 3, 0] rfl ?_
        refine ih (p + 1) (n + 0) ?_ ?_ ?_
        · omega
        · rw [cnN_s, hn]; simp [c1, c2, Nat.add_assoc]
        · omega
      · skip
        refine V_aload_n (j := 0) (q := 46) dX8_scalarCount_45 rfl rfl ?_
        refine V_getP (q := 49) (r := (m + 7)) fX8_28 (W.1.1 0 _ rfl) rfl (W.1.2 7 _ rfl) dX8_scalarCount_46 rfl ?_
        refine V_bipush (q := 51) (v := nI 16) dX8_scalarCount_49 rfl (by decide) ?_
        refine V_iload_n (j := 2) (q := 52) dX8_scalarCount_51 rfl rfl ?_
        refine V_imulN (q := 53) dX8_scalarCount_52 rfl ?_
        refine V_iload_n (j := 3) (q := 54) dX8_scalarCount_53 rfl rfl ?_
        refine V_iaddN (q := 55) dX8_scalarCount_54 rfl ?_
        refine V_zald (q := 56) (W.1.1 7 _ rfl) (by omega) (by decide) dX8_scalarCount_55 rfl ?_
        refine V_rw (y := bi (prm P (16 * r + p))) ((N.2 r (by omega) p (by omega)).1) ?_
        refine V_if_eqB (tgt := 63) (q := 59) dX8_scalarCount_56 rfl rfl (fun c3 => ?_) (fun c3 => ?_)
        · skip
          refine V_iconst (q := 64) (v := nI 0) dX8_scalarCount_63 rfl rfl ?_
          refine V_iaddN (q := 65) dX8_scalarCount_64 rfl ?_
          refine V_istore_n (q := 66) (L' := [(1, .int (nI (n + 0))), (0, .ref m), (2, .int (nI r)), (3, .int (nI p))]) dX8_scalarCount_65 rfl rfl rfl ?_
          refine V_iincN (j := 3) (q := 69) (L' := [(3, .int (nI (p + 1))), (1, .int (nI (n + 0))), (0, .ref m), (2, .int (nI r))]) dX8_scalarCount_66 rfl rfl rfl rfl ?_
          refine V_goto (q := 20) dX8_scalarCount_69 rfl ?_
          refine V_sub (L' := [(0, .ref m), (1, .int (nI (n + 0))), (2, .int (nI r)), (3, .int (nI (p + 1)))]) [2, 1, 3, 0] rfl ?_
          refine ih (p + 1) (n + 0) ?_ ?_ ?_
          · omega
          · rw [cnN_s, hn]; simp [c1, c2, c3, Nat.add_assoc]
          · omega
        · skip
          refine V_iconst (q := 60) (v := nI 1) dX8_scalarCount_59 rfl rfl ?_
          refine V_goto (q := 64) dX8_scalarCount_60 rfl ?_
          refine V_iaddN (q := 65) dX8_scalarCount_64 rfl ?_
          refine V_istore_n (q := 66) (L' := [(1, .int (nI (n + 1))), (0, .ref m), (2, .int (nI r)), (3, .int (nI p))]) dX8_scalarCount_65 rfl rfl rfl ?_
          refine V_iincN (j := 3) (q := 69) (L' := [(3, .int (nI (p + 1))), (1, .int (nI (n + 1))), (0, .ref m), (2, .int (nI r))]) dX8_scalarCount_66 rfl rfl rfl rfl ?_
          refine V_goto (q := 20) dX8_scalarCount_69 rfl ?_
          refine V_sub (L' := [(0, .ref m), (1, .int (nI (n + 1))), (2, .int (nI r)), (3, .int (nI (p + 1)))]) [2, 1, 3, 0] rfl ?_
          refine ih (p + 1) (n + 1) ?_ ?_ ?_
          · omega
          · rw [cnN_s, hn]; simp [c1, c2, c3, Nat.add_assoc]
          · omega

set_option maxHeartbeats 4000000 in
set_option maxRecDepth 100000 in
theorem lp_scalarCount1 {g : GX} {h : AH} {m : Nat} {P : PG} (G : RG h m P) {e : AH} (Q : FQ h e m) (N : AN e m P) : ∀ (t : Nat) (r : Nat) (n : Nat), (r ≤ pNr P) → (n = smN r (fun r => cnN (npt P r) fun p => liv P (16 * r + p) && prm P (16 * r + p))) → pNr P - r < t → V g mX8_scalarCount (thM g 8 0 0 (fun ρ η => ρ = some (.int (aSc P)) ∧ FQ h η m)) e 0 0 [(0, .ref m), (1, .int (nI n)), (2, .int (nI r))] 8 [] := by
  intro t
  induction t with
  | zero =>
    intro r n hr hn hfu
    exact absurd hfu (Nat.not_lt_zero _)
  | succ t ih =>
    intro r n hr hn hfu
    have W := (FQ.rg G Q).1
    have A := N.1
    have hN := W.2.2.2.2.1
    have hR := W.2.2.1
    refine V_iload_n (j := 2) (q := 9) dX8_scalarCount_8 rfl rfl ?_
    refine V_aload_n (j := 0) (q := 10) dX8_scalarCount_9 rfl rfl ?_
    refine V_getP (q := 13) (r := (m + 1)) fX8_7 (W.1.1 0 _ rfl) rfl (W.1.2 0 _ rfl) dX8_scalarCount_10 rfl ?_
    refine V_iconst (q := 14) (v := nI 0) dX8_scalarCount_13 rfl rfl ?_
    refine V_iald (q := 15) (W.1.1 1 _ rfl) (by omega) (by decide) dX8_scalarCount_14 rfl ?_
    refine V_rw (y := nI (pNr P)) W.2.1.1 ?_
    refine V_icmp_geN (tgt := 78) (q := 18) dX8_scalarCount_15 rfl rfl (by omega) (by omega) (fun c1 => ?_) (fun c1 => ?_)
    · skip
      refine V_iload_n (j := 1) (q := 79) dX8_scalarCount_78 rfl rfl ?_
      refine V_iret rfl dX8_scalarCount_79 rfl rfl ?_
      exact ⟨pv (by rw [hn, show r = pNr P by omega]; rfl), Q⟩
    · skip
      refine V_iconst (q := 19) (v := nI 0) dX8_scalarCount_18 rfl rfl ?_
      refine V_istore_n (q := 20) (L' := [(3, .int (nI 0)), (0, .ref m), (1, .int (nI n)), (2, .int (nI r))]) dX8_scalarCount_19 rfl rfl rfl ?_
      refine V_sub (L' := [(0, .ref m), (1, .int (nI n)), (2, .int (nI r)), (3, .int (nI 0))]) [1, 2, 3, 0] rfl ?_
      refine lp_scalarCount2 G Q N (by omega) (n0 := n) (fun n2 hn2 => ?_) (npt P r - 0 + 1) 0 n (Nat.zero_le _) rfl (Nat.lt_succ_self _)
      refine V_iincN (j := 2) (q := 75) (L' := [(2, .int (nI (r + 1))), (0, .ref m), (1, .int (nI n2))]) dX8_scalarCount_72 rfl rfl rfl rfl ?_
      refine V_goto (q := 8) dX8_scalarCount_75 rfl ?_
      refine V_sub (L' := [(0, .ref m), (1, .int (nI n2)), (2, .int (nI (r + 1)))]) [1, 2, 0] rfl ?_
      refine ih (r + 1) n2 ?_ ?_ ?_
      · omega
      · rw [smN_s, hn2, hn]
      · omega

set_option maxHeartbeats 4000000 in
set_option maxRecDepth 100000 in
theorem c_scalarCount {g : GX} {h : AH} {m : Nat} {P : PG} (G : RG h m P) : Ct g mX8_scalarCount 8 0 0 [.ref m] h (fun ρ η => ρ = some (.int (aSc P)) ∧ FQ h η m) := by
  refine Ct_intro (by decide +kernel) (Nat.le_of_ble_eq_true rfl) ?_
  show V g mX8_scalarCount _ h 0 0 [(0, .ref m)] 0 []
  have W := G.1
  have hN := W.2.2.2.2.1
  have hR := W.2.2.1
  refine V_aload_n (j := 0) (q := 1) dX8_scalarCount_0 rfl rfl ?_
  refine V_callV (q := 4) (S := []) kX8_138 (c_analyse G) (W.1.1 0 _ rfl) rfl rfl rfl dX8_scalarCount_1 rfl (fun r1 h2 p3 => ?_)
  obtain ⟨rfl, Q, N⟩ := p3
  have W := (FQ.rg G Q).1
  have A := N.1
  refine V_iconst (q := 5) (v := nI 0) dX8_scalarCount_4 rfl rfl ?_
  refine V_istore_n (q := 6) (L' := [(1, .int (nI 0)), (0, .ref m)]) dX8_scalarCount_5 rfl rfl rfl ?_
  refine V_iconst (q := 7) (v := nI 0) dX8_scalarCount_6 rfl rfl ?_
  refine V_istore_n (q := 8) (L' := [(2, .int (nI 0)), (1, .int (nI 0)), (0, .ref m)]) dX8_scalarCount_7 rfl rfl rfl ?_
  refine V_sub (L' := [(0, .ref m), (1, .int (nI 0)), (2, .int (nI 0))]) [2, 1, 0] rfl ?_
  refine lp_scalarCount1 G Q N (pNr P - 0 + 1) 0 0 ?_ ?_ ?_
  · omega
  · rfl
  · exact Nat.lt_succ_self _

set_option maxHeartbeats 4000000 in
set_option maxRecDepth 100000 in
theorem lp_liveBytes2 {g : GX} {h : AH} {m : Nat} {P : PG} (G : RG h m P) {e : AH} (Q : FQ h e m) (N : AN e m P) {r : Nat} (hr : r < pNr P) {n0 : Nat} (kk : ∀ n : Nat, n = n0 + (smN (npt P r) fun p => if liv P (16 * r + p) = true then lnp P r p else 0) → V g mX8_liveBytes (thM g 8 0 0 (fun ρ η => ρ = some (.int (aLb P)) ∧ FQ h η m)) e 0 0 [(0, .ref m), (1, .int (nI n)), (2, .int (nI r))] 68 []) : ∀ (t : Nat) (p : Nat) (n : Nat), (p ≤ npt P r) → (n = n0 + smN p (fun p => if liv P (16 * r + p) = true then lnp P r p else 0)) → npt P r - p < t → V g mX8_liveBytes (thM g 8 0 0 (fun ρ η => ρ = some (.int (aLb P)) ∧ FQ h η m)) e 0 0 [(0, .ref m), (1, .int (nI n)), (2, .int (nI r)), (3, .int (nI p))] 20 [] := by
  intro t
  induction t with
  | zero =>
    intro p n hp hn hfu
    exact absurd hfu (Nat.not_lt_zero _)
  | succ t ih =>
    intro p n hp hn hfu
    have W := (FQ.rg G Q).1
    have A := N.1
    have hN := W.2.2.2.2.1
    have hR := W.2.2.1
    have hS := W.2.2.2.1 r hr
    have hnp := npt_le P r
    refine V_iload_n (j := 3) (q := 21) dX8_liveBytes_20 rfl rfl ?_
    refine V_aload_n (j := 0) (q := 22) dX8_liveBytes_21 rfl rfl ?_
    refine V_getP (q := 25) (r := (m + 6)) fX8_25 (W.1.1 0 _ rfl) rfl (W.1.2 6 _ rfl) dX8_liveBytes_22 rfl ?_
    refine V_iload_n (j := 2) (q := 26) dX8_liveBytes_25 rfl rfl ?_
    refine V_iald (q := 27) (W.1.1 6 _ rfl) (by omega) (by decide) dX8_liveBytes_26 rfl ?_
    refine V_rw (y := nI (npt P r)) ((A r (by omega)).1) ?_
    refine V_icmp_geN (tgt := 68) (q := 30) dX8_liveBytes_27 rfl rfl (by omega) (by omega) (fun c1 => ?_) (fun c1 => ?_)
    · skip
      refine V_sub (L' := [(0, .ref m), (1, .int (nI n)), (2, .int (nI r))]) [0, 1, 2] rfl ?_
      exact kk n (by rw [hn, show p = npt P r by omega])
    · skip
      refine V_iload_n (j := 1) (q := 31) dX8_liveBytes_30 rfl rfl ?_
      refine V_aload_n (j := 0) (q := 32) dX8_liveBytes_31 rfl rfl ?_
      refine V_getP (q := 35) (r := (m + 8)) fX8_32 (W.1.1 0 _ rfl) rfl (W.1.2 8 _ rfl) dX8_liveBytes_32 rfl ?_
      refine V_bipush (q := 37) (v := nI 16) dX8_liveBytes_35 rfl (by decide) ?_
      refine V_iload_n (j := 2) (q := 38) dX8_liveBytes_37 rfl rfl ?_
      refine V_imulN (q := 39) dX8_liveBytes_38 rfl ?_
      refine V_iload_n (j := 3) (q := 40) dX8_liveBytes_39 rfl rfl ?_
      refine V_iaddN (q := 41) dX8_liveBytes_40 rfl ?_
      refine V_zald (q := 42) (W.1.1 8 _ rfl) (by omega) (by decide) dX8_liveBytes_41 rfl ?_
      refine V_rw (y := bi (liv P (16 * r + p))) ((N.2 r (by omega) p (by omega)).2) ?_
      refine V_if_eqB (tgt := 59) (q := 45) dX8_liveBytes_42 rfl rfl (fun c2 => ?_) (fun c2 => ?_)
      · skip
        refine V_iconst (q := 60) (v := nI 0) dX8_liveBytes_59 rfl rfl ?_
        refine V_iaddN (q := 61) dX8_liveBytes_60 rfl ?_
        refine V_istore_n (q := 62) (L' := [(1, .int (nI (n + 0))), (0, .ref m), (2, .int (nI r)), (3, .int (nI p))]) dX8_liveBytes_61 rfl rfl rfl ?_
        refine V_iincN (j := 3) (q := 65) (L' := [(3, .int (nI (p + 1))), (1, .int (nI (n + 0))), (0, .ref m), (2, .int (nI r))]) dX8_liveBytes_62 rfl rfl rfl rfl ?_
        refine V_goto (q := 20) dX8_liveBytes_65 rfl ?_
        refine V_sub (L' := [(0, .ref m), (1, .int (nI (n + 0))), (2, .int (nI r)), (3, .int (nI (p + 1)))]) [2, 1, 3, 0] rfl ?_
        refine ih (p + 1) (n + 0) ?_ ?_ ?_
        · omega
        · rw [smN_s, hn]; simp [c1, c2, Nat.add_assoc]
        · omega
      · skip
        refine V_aload_n (j := 0) (q := 46) dX8_liveBytes_45 rfl rfl ?_
        refine V_getP (q := 49) (r := (m + 5)) fX8_22 (W.1.1 0 _ rfl) rfl (W.1.2 5 _ rfl) dX8_liveBytes_46 rfl ?_
        refine V_bipush (q := 51) (v := nI 16) dX8_liveBytes_49 rfl (by decide) ?_
        refine V_iload_n (j := 2) (q := 52) dX8_liveBytes_51 rfl rfl ?_
        refine V_imulN (q := 53) dX8_liveBytes_52 rfl ?_
        refine V_iload_n (j := 3) (q := 54) dX8_liveBytes_53 rfl rfl ?_
        refine V_iaddN (q := 55) dX8_liveBytes_54 rfl ?_
        refine V_iald (q := 56) (W.1.1 5 _ rfl) (by omega) (by decide) dX8_liveBytes_55 rfl ?_
        refine V_rw (y := nI (lnp P r p)) (((A r (by omega)).2.2 _ (by omega)).2) ?_
        refine V_goto (q := 60) dX8_liveBytes_56 rfl ?_
        refine V_iaddN (q := 61) dX8_liveBytes_60 rfl ?_
        refine V_istore_n (q := 62) (L' := [(1, .int (nI (n + (lnp P r p)))), (0, .ref m), (2, .int (nI r)), (3, .int (nI p))]) dX8_liveBytes_61 rfl rfl rfl ?_
        refine V_iincN (j := 3) (q := 65) (L' := [(3, .int (nI (p + 1))), (1, .int (nI (n + (lnp P r p)))), (0, .ref m), (2, .int (nI r))]) dX8_liveBytes_62 rfl rfl rfl rfl ?_
        refine V_goto (q := 20) dX8_liveBytes_65 rfl ?_
        refine V_sub (L' := [(0, .ref m), (1, .int (nI (n + (lnp P r p)))), (2, .int (nI r)), (3, .int (nI (p + 1)))]) [2, 1, 3, 0] rfl ?_
        refine ih (p + 1) (n + (lnp P r p)) ?_ ?_ ?_
        · omega
        · rw [smN_s, hn]; simp [c1, c2, Nat.add_assoc]
        · omega

set_option maxHeartbeats 4000000 in
set_option maxRecDepth 100000 in
theorem lp_liveBytes1 {g : GX} {h : AH} {m : Nat} {P : PG} (G : RG h m P) {e : AH} (Q : FQ h e m) (N : AN e m P) : ∀ (t : Nat) (r : Nat) (n : Nat), (r ≤ pNr P) → (n = smN r (fun r => smN (npt P r) fun p => if liv P (16 * r + p) = true then lnp P r p else 0)) → pNr P - r < t → V g mX8_liveBytes (thM g 8 0 0 (fun ρ η => ρ = some (.int (aLb P)) ∧ FQ h η m)) e 0 0 [(0, .ref m), (1, .int (nI n)), (2, .int (nI r))] 8 [] := by
  intro t
  induction t with
  | zero =>
    intro r n hr hn hfu
    exact absurd hfu (Nat.not_lt_zero _)
  | succ t ih =>
    intro r n hr hn hfu
    have W := (FQ.rg G Q).1
    have A := N.1
    have hN := W.2.2.2.2.1
    have hR := W.2.2.1
    refine V_iload_n (j := 2) (q := 9) dX8_liveBytes_8 rfl rfl ?_
    refine V_aload_n (j := 0) (q := 10) dX8_liveBytes_9 rfl rfl ?_
    refine V_getP (q := 13) (r := (m + 1)) fX8_7 (W.1.1 0 _ rfl) rfl (W.1.2 0 _ rfl) dX8_liveBytes_10 rfl ?_
    refine V_iconst (q := 14) (v := nI 0) dX8_liveBytes_13 rfl rfl ?_
    refine V_iald (q := 15) (W.1.1 1 _ rfl) (by omega) (by decide) dX8_liveBytes_14 rfl ?_
    refine V_rw (y := nI (pNr P)) W.2.1.1 ?_
    refine V_icmp_geN (tgt := 74) (q := 18) dX8_liveBytes_15 rfl rfl (by omega) (by omega) (fun c1 => ?_) (fun c1 => ?_)
    · skip
      refine V_iload_n (j := 1) (q := 75) dX8_liveBytes_74 rfl rfl ?_
      refine V_iret rfl dX8_liveBytes_75 rfl rfl ?_
      exact ⟨pv (by rw [hn, show r = pNr P by omega]; rfl), Q⟩
    · skip
      refine V_iconst (q := 19) (v := nI 0) dX8_liveBytes_18 rfl rfl ?_
      refine V_istore_n (q := 20) (L' := [(3, .int (nI 0)), (0, .ref m), (1, .int (nI n)), (2, .int (nI r))]) dX8_liveBytes_19 rfl rfl rfl ?_
      refine V_sub (L' := [(0, .ref m), (1, .int (nI n)), (2, .int (nI r)), (3, .int (nI 0))]) [1, 2, 3, 0] rfl ?_
      refine lp_liveBytes2 G Q N (by omega) (n0 := n) (fun n2 hn2 => ?_) (npt P r - 0 + 1) 0 n (Nat.zero_le _) rfl (Nat.lt_succ_self _)
      refine V_iincN (j := 2) (q := 71) (L' := [(2, .int (nI (r + 1))), (0, .ref m), (1, .int (nI n2))]) dX8_liveBytes_68 rfl rfl rfl rfl ?_
      refine V_goto (q := 8) dX8_liveBytes_71 rfl ?_
      refine V_sub (L' := [(0, .ref m), (1, .int (nI n2)), (2, .int (nI (r + 1)))]) [1, 2, 0] rfl ?_
      refine ih (r + 1) n2 ?_ ?_ ?_
      · omega
      · rw [smN_s, hn2, hn]
      · omega

set_option maxHeartbeats 4000000 in
set_option maxRecDepth 100000 in
theorem c_liveBytes {g : GX} {h : AH} {m : Nat} {P : PG} (G : RG h m P) : Ct g mX8_liveBytes 8 0 0 [.ref m] h (fun ρ η => ρ = some (.int (aLb P)) ∧ FQ h η m) := by
  refine Ct_intro (by decide +kernel) (Nat.le_of_ble_eq_true rfl) ?_
  show V g mX8_liveBytes _ h 0 0 [(0, .ref m)] 0 []
  have W := G.1
  have hN := W.2.2.2.2.1
  have hR := W.2.2.1
  refine V_aload_n (j := 0) (q := 1) dX8_liveBytes_0 rfl rfl ?_
  refine V_callV (q := 4) (S := []) kX8_138 (c_analyse G) (W.1.1 0 _ rfl) rfl rfl rfl dX8_liveBytes_1 rfl (fun r1 h2 p3 => ?_)
  obtain ⟨rfl, Q, N⟩ := p3
  have W := (FQ.rg G Q).1
  have A := N.1
  refine V_iconst (q := 5) (v := nI 0) dX8_liveBytes_4 rfl rfl ?_
  refine V_istore_n (q := 6) (L' := [(1, .int (nI 0)), (0, .ref m)]) dX8_liveBytes_5 rfl rfl rfl ?_
  refine V_iconst (q := 7) (v := nI 0) dX8_liveBytes_6 rfl rfl ?_
  refine V_istore_n (q := 8) (L' := [(2, .int (nI 0)), (1, .int (nI 0)), (0, .ref m)]) dX8_liveBytes_7 rfl rfl rfl ?_
  refine V_sub (L' := [(0, .ref m), (1, .int (nI 0)), (2, .int (nI 0))]) [2, 1, 0] rfl ?_
  refine lp_liveBytes1 G Q N (pNr P - 0 + 1) 0 0 ?_ ?_ ?_
  · omega
  · rfl
  · exact Nat.lt_succ_self _


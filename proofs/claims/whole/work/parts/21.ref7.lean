theorem an_end {h0 h1 h2 h3 : AH} {m : Nat} {P : PG} {f f8 : Nat → Bool} (ok : OkP P) (G : RG h0 m P) (F1 : FA h0 h1 m) (A1 : PA h1 m P (pNr P)) (F2 : FB h1 h2 (m + 7)) (B2 : BR h2 (m + 7) f) (hf : ∀ r, r < pNr P → ∀ p, p < npt P r → f (16 * r + p) = prm P (16 * r + p)) (F3 : FB h2 h3 (m + 8)) (B3 : BR h3 (m + 8) f8) (s1 : lsd P f8) (s2 : lbs P f8) (s3 : cls P f8) : FQ h0 h3 m ∧ AN h3 m P := by
  have b7 : BR h3 (m + 7) f := fun x hx => by rw [F3.2 _ (by omega)]; exact B2 x hx
  refine ⟨⟨⟨F3.1.1.trans (F2.1.1.trans F1.1.1), F3.1.2.1.trans (F2.1.2.1.trans F1.1.2.1), F3.1.2.2.trans (F2.1.2.2.trans F1.1.2.2)⟩, fun a ha => ?_, ?_, ⟨f, b7⟩, ⟨f8, B3⟩⟩, F3.PA (F2.PA A1 (by decide)) (by decide), fun r hr p hp => ?_⟩
  · rw [F3.2 a (by omega), F2.2 a (by omega), F1.2 a (by omega) (by omega) (by omega) (by omega)]
  · rw [F3.2 m (by omega), F2.2 m (by omega), F1.2 m (by omega) (by omega) (by omega) (by omega)]
  · have hx := vpl_lt ok ⟨r, p, hr, hp, rfl⟩
    rw [b7 _ hx, B3 _ hx, hf r hr p hp, liv_of s1 s2 s3 ⟨r, p, hr, hp, rfl⟩]
    exact ⟨rfl, rfl⟩

set_option maxHeartbeats 4000000 in
set_option maxRecDepth 100000 in
theorem c_analyse {g : GX} {h : AH} {m : Nat} {P : PG} (G : RG h m P) : Ct g mX8_analyse 7 0 0 [.ref m] h (fun ρ η => ρ = none ∧ FQ h η m ∧ AN η m P) := by
  refine Ct_intro (by decide +kernel) (Nat.le_of_ble_eq_true rfl) ?_
  show V g mX8_analyse _ h 0 0 [(0, .ref m)] 0 []
  have W := G.1
  refine V_aload_n (j := 0) (q := 1) dX8_analyse_0 rfl rfl ?_
  refine V_callV (q := 4) (S := []) kX8_129 (c_findAllParts W) (W.1.1 0 _ rfl) rfl rfl rfl dX8_analyse_1 rfl (fun r1 h2 p3 => ?_)
  obtain ⟨rfl, F1, A⟩ := p3
  have W := F1.rf W
  obtain ⟨⟨f7, B7⟩, f8, B8⟩ := (F1.q G).2.2.2
  refine V_aload_n (j := 0) (q := 5) dX8_analyse_4 rfl rfl ?_
  refine V_callV (q := 8) (S := []) kX8_132 (c_findPromotable W A B7) (W.1.1 0 _ rfl) rfl rfl rfl dX8_analyse_5 rfl (fun r4 h5 p6 => ?_)
  obtain ⟨rfl, F2, f, B2, hf⟩ := p6
  have W := F2.RF W (by omega)
  have A2 := F2.PA A (by decide)
  have B82 : BR h5 (m + 8) f8 := fun x hx => by rw [F2.2 _ (by omega)]; exact B8 x hx
  refine V_aload_n (j := 0) (q := 9) dX8_analyse_8 rfl rfl ?_
  refine V_callV (q := 12) (S := []) kX8_135 (c_findLive W A2 B82) (W.1.1 0 _ rfl) rfl rfl rfl dX8_analyse_9 rfl (fun r7 h8 p9 => ?_)
  obtain ⟨rfl, F3, f3, B3, s1, s2, s3⟩ := p9
  refine V_vret rfl dX8_analyse_12 rfl rfl ?_
  exact ⟨rfl, an_end W.2.2 G F1 A F2 B2 hf F3 B3 s1 s2 s3⟩

set_option maxHeartbeats 4000000 in
set_option maxRecDepth 100000 in
theorem c_escapes {g : GX} {h : AH} {m : Nat} {P : PG} (G : RG h m P) {x : Int32} : Ct g mX8_escapes 2 0 0 [.ref m, .int x] h (fun ρ η => ρ = some (.int (aEs P x)) ∧ FQ h η m) := by
  refine Ct_intro (by decide +kernel) (Nat.le_of_ble_eq_true rfl) ?_
  show V g mX8_escapes _ h 0 0 [(0, .ref m), (1, .int x)] 0 []
  have W := G.1
  have hN := W.2.2.2.2.1
  have hR := W.2.2.1
  refine V_aload_n (j := 0) (q := 1) dX8_escapes_0 rfl rfl ?_
  refine V_iload_n (j := 1) (q := 2) dX8_escapes_1 rfl rfl ?_
  refine V_cpV (q := 5) (S := []) (v := .int (bi (isR P x))) kX8_52 (c_isRecord W) (W.1.1 0 _ rfl) rfl rfl rfl dX8_escapes_2 rfl ?_
  refine V_if_neB (tgt := 12) (q := 8) dX8_escapes_5 rfl rfl (fun c1 => ?_) (fun c1 => ?_)
  · skip
    obtain ⟨r, hr, rfl⟩ := isR_of c1
    have hS := W.2.2.2.1 r hr
    have hnp := npt_le P r
    have nx := nt_n (n := r) (by omega)
    refine V_aload_n (j := 0) (q := 13) dX8_escapes_12 rfl rfl ?_
    refine V_iload_n (j := 1) (q := 14) dX8_escapes_13 rfl rfl ?_
    refine V_cpV (q := 17) (S := []) (v := .int (bi (esc P r))) kX8_90 (c_doesEscape (r := r) W (by omega)) (W.1.1 0 _ rfl) rfl rfl rfl dX8_escapes_14 rfl ?_
    refine V_if_eqB (tgt := 24) (q := 20) dX8_escapes_17 rfl rfl (fun c2 => ?_) (fun c2 => ?_)
    · skip
      refine V_iconst (q := 25) (v := nI 0) dX8_escapes_24 rfl rfl ?_
      refine V_iret rfl dX8_escapes_25 rfl rfl ?_
      exact ⟨pv (by simp [aEs, c1, c2]; try simp [nx, c1, c2, bi_t, bi_f]; try rfl), G.q⟩
    · skip
      refine V_iconst (q := 21) (v := nI 1) dX8_escapes_20 rfl rfl ?_
      refine V_goto (q := 25) dX8_escapes_21 rfl ?_
      refine V_iret rfl dX8_escapes_25 rfl rfl ?_
      exact ⟨pv (by simp [aEs, c1, c2]; try simp [nx, c1, c2, bi_t, bi_f]; try rfl), G.q⟩
  · skip
    refine V_iconst (q := 9) (v := (-1)) dX8_escapes_8 rfl rfl ?_
    refine V_goto (q := 25) dX8_escapes_9 rfl ?_
    refine V_iret rfl dX8_escapes_25 rfl rfl ?_
    exact ⟨pv (by simp [aEs, c1]; try simp [nx, c1, bi_t, bi_f]; try rfl), G.q⟩

set_option maxHeartbeats 4000000 in
set_option maxRecDepth 100000 in
theorem c_partitionCount {g : GX} {h : AH} {m : Nat} {P : PG} (G : RG h m P) {x : Int32} : Ct g mX8_partitionCount 6 0 0 [.ref m, .int x] h (fun ρ η => ρ = some (.int (aPc P x)) ∧ FQ h η m) := by
  refine Ct_intro (by decide +kernel) (Nat.le_of_ble_eq_true rfl) ?_
  show V g mX8_partitionCount _ h 0 0 [(0, .ref m), (1, .int x)] 0 []
  have W := G.1
  have hN := W.2.2.2.2.1
  have hR := W.2.2.1
  refine V_aload_n (j := 0) (q := 1) dX8_partitionCount_0 rfl rfl ?_
  refine V_iload_n (j := 1) (q := 2) dX8_partitionCount_1 rfl rfl ?_
  refine V_cpV (q := 5) (S := []) (v := .int (bi (isR P x))) kX8_52 (c_isRecord W) (W.1.1 0 _ rfl) rfl rfl rfl dX8_partitionCount_2 rfl ?_
  refine V_if_neB (tgt := 10) (q := 8) dX8_partitionCount_5 rfl rfl (fun c1 => ?_) (fun c1 => ?_)
  · skip
    obtain ⟨r, hr, rfl⟩ := isR_of c1
    have hS := W.2.2.2.1 r hr
    have hnp := npt_le P r
    have nx := nt_n (n := r) (by omega)
    refine V_aload_n (j := 0) (q := 11) dX8_partitionCount_10 rfl rfl ?_
    refine V_iload_n (j := 1) (q := 12) dX8_partitionCount_11 rfl rfl ?_
    refine V_callV (q := 15) (S := []) kX8_106 (c_findParts W hr) (W.1.1 0 _ rfl) rfl rfl rfl dX8_partitionCount_12 rfl (fun r2 h3 p4 => ?_)
    obtain ⟨rfl, Q0⟩ := p4
    have Q := FA.q ⟨Q0.1, Q0.2.1⟩ G
    have W := (FQ.rg G Q).1
    refine V_aload_n (j := 0) (q := 16) dX8_partitionCount_15 rfl rfl ?_
    refine V_getP (q := 19) (r := (m + 6)) fX8_25 (W.1.1 0 _ rfl) rfl (W.1.2 6 _ rfl) dX8_partitionCount_16 rfl ?_
    refine V_iload_n (j := 1) (q := 20) dX8_partitionCount_19 rfl rfl ?_
    refine V_iald (q := 21) (W.1.1 6 _ rfl) (by omega) (by decide) dX8_partitionCount_20 rfl ?_
    refine V_rw (y := nI (npt P r)) Q0.2.2.2.2.1 ?_
    refine V_iret rfl dX8_partitionCount_21 rfl rfl ?_
    exact ⟨pv (by simp [aPc, c1]; try simp [nx]), Q⟩
  · skip
    refine V_iconst (q := 9) (v := (-1)) dX8_partitionCount_8 rfl rfl ?_
    refine V_iret rfl dX8_partitionCount_9 rfl rfl ?_
    exact ⟨pv (by simp [aPc, c1]; try simp [nx]), G.q⟩

theorem inB_np {n : Nat} (h : n ≤ 16) (y : Int32) : inB y (nI 0) (nI n - nI 1) = decide (0 ≤ y.toInt ∧ y.toInt < n) := by
  have e : (nI n - nI 1).toInt = n - 1 := by
    rw [i_sub, i_n (by omega), i_n (by omega)]
    · rfl
    · rw [i_n (by omega), i_n (by omega)]; omega
  unfold inB
  rw [e, i_n (by omega), ← Bool.decide_and]
  congr 1
  apply propext
  omega
theorem inB_ni {n : Nat} (h : n ≤ 24) (y : Int32) : inB y (nI 0) (nI n - nI 1) = decide (0 ≤ y.toInt ∧ y.toInt < n) := by
  have e : (nI n - nI 1).toInt = n - 1 := by
    rw [i_sub, i_n (by omega), i_n (by omega)]
    · rfl
    · rw [i_n (by omega), i_n (by omega)]; omega
  unfold inB
  rw [e, i_n (by omega), ← Bool.decide_and]
  congr 1
  apply propext
  omega
set_option maxHeartbeats 4000000 in
set_option maxRecDepth 100000 in
theorem c_isPart {g : GX} {h : AH} {m : Nat} {P : PG} (G : RG h m P) {x y : Int32} : Ct g mX8_isPart 8 0 0 [.ref m, .int x, .int y] h (fun ρ η => ρ = some (.int (bi (isPt P x y))) ∧ FQ h η m ∧ (isR P x = true → AN η m P)) := by
  refine Ct_intro (by decide +kernel) (Nat.le_of_ble_eq_true rfl) ?_
  show V g mX8_isPart _ h 0 0 [(0, .ref m), (1, .int x), (2, .int y)] 0 []
  have W := G.1
  have hN := W.2.2.2.2.1
  have hR := W.2.2.1
  refine V_aload_n (j := 0) (q := 1) dX8_isPart_0 rfl rfl ?_
  refine V_iload_n (j := 1) (q := 2) dX8_isPart_1 rfl rfl ?_
  refine V_cpV (q := 5) (S := []) (v := .int (bi (isR P x))) kX8_52 (c_isRecord W) (W.1.1 0 _ rfl) rfl rfl rfl dX8_isPart_2 rfl ?_
  refine V_if_neB (tgt := 10) (q := 8) dX8_isPart_5 rfl rfl (fun c1 => ?_) (fun c1 => ?_)
  · skip
    obtain ⟨r, hr, rfl⟩ := isR_of c1
    have hS := W.2.2.2.1 r hr
    have hnp := npt_le P r
    have nx := nt_n (n := r) (by omega)
    refine V_aload_n (j := 0) (q := 11) dX8_isPart_10 rfl rfl ?_
    refine V_callV (q := 14) (S := []) kX8_138 (c_analyse G) (W.1.1 0 _ rfl) rfl rfl rfl dX8_isPart_11 rfl (fun r2 h3 p4 => ?_)
    obtain ⟨rfl, Q, N⟩ := p4
    have W := (FQ.rg G Q).1
    have A := N.1
    refine V_iload_n (j := 2) (q := 15) dX8_isPart_14 rfl rfl ?_
    refine V_iconst (q := 16) (v := nI 0) dX8_isPart_15 rfl rfl ?_
    refine V_aload_n (j := 0) (q := 17) dX8_isPart_16 rfl rfl ?_
    refine V_getP (q := 20) (r := (m + 6)) fX8_25 (W.1.1 0 _ rfl) rfl (W.1.2 6 _ rfl) dX8_isPart_17 rfl ?_
    refine V_iload_n (j := 1) (q := 21) dX8_isPart_20 rfl rfl ?_
    refine V_iald (q := 22) (W.1.1 6 _ rfl) (by omega) (by decide) dX8_isPart_21 rfl ?_
    refine V_rw (y := nI (npt P r)) ((A r (by omega)).1) ?_
    refine V_iconst (q := 23) (v := nI 1) dX8_isPart_22 rfl rfl ?_
    refine V_isub (q := 24) dX8_isPart_23 rfl ?_
    refine V_cpS (q := 27) (S := []) (v := .int (bi (inB y (nI 0) ((nI (npt P r)) - (nI 1))))) kX8_48 c_in rfl rfl rfl dX8_isPart_24 rfl ?_
    refine V_zret (b := (inB y (nI 0) ((nI (npt P r)) - (nI 1)))) rfl dX8_isPart_27 rfl rfl ?_
    exact ⟨pvb (by rw [inB_np (by omega)]; simp [isPt, isR_n W.2.2 hr, nx]), Q, fun _ => N⟩
  · skip
    refine V_iconst (q := 9) (v := nI 0) dX8_isPart_8 rfl rfl ?_
    refine V_rw (y := bi false) rfl ?_
    refine V_zret (b := false) rfl dX8_isPart_9 rfl rfl ?_
    exact ⟨pvb (by simp [isPt, c1]), G.q, fun z => by rw [c1] at z; cases z⟩

set_option maxHeartbeats 4000000 in
set_option maxRecDepth 100000 in
theorem c_partitionStart {g : GX} {h : AH} {m : Nat} {P : PG} (G : RG h m P) {x y : Int32} : Ct g mX8_partitionStart 9 0 0 [.ref m, .int x, .int y] h (fun ρ η => ρ = some (.int (aPs P x y)) ∧ FQ h η m) := by
  refine Ct_intro (by decide +kernel) (Nat.le_of_ble_eq_true rfl) ?_
  show V g mX8_partitionStart _ h 0 0 [(0, .ref m), (1, .int x), (2, .int y)] 0 []
  have W := G.1
  have hN := W.2.2.2.2.1
  have hR := W.2.2.1
  refine V_aload_n (j := 0) (q := 1) dX8_partitionStart_0 rfl rfl ?_
  refine V_iload_n (j := 1) (q := 2) dX8_partitionStart_1 rfl rfl ?_
  refine V_iload_n (j := 2) (q := 3) dX8_partitionStart_2 rfl rfl ?_
  refine V_callV (q := 6) (S := []) kX8_141 (c_isPart (x := x) (y := y) G) (W.1.1 0 _ rfl) rfl rfl rfl dX8_partitionStart_3 rfl (fun r1 h2 p3 => ?_)
  obtain ⟨rfl, Q, N9⟩ := p3
  have W := (FQ.rg G Q).1
  refine V_if_eqB (tgt := 23) (q := 9) dX8_partitionStart_6 rfl rfl (fun c4 => ?_) (fun c4 => ?_)
  · skip
    refine V_iconst (q := 24) (v := (-1)) dX8_partitionStart_23 rfl rfl ?_
    refine V_iret rfl dX8_partitionStart_24 rfl rfl ?_
    exact ⟨pv (by simp [aPs, c4]; try simp [nx, ny]), Q⟩
  · skip
    obtain ⟨r, p, hr, hp, rfl, rfl⟩ := isPt_of W.2.2 c4
    have hS := W.2.2.2.1 r hr
    have hnp := npt_le P r
    have nx := nt_n (n := r) (by omega)
    have ny := nt_n (n := p) (by omega)
    have N := N9 (isR_n W.2.2 hr)
    have A := N.1
    refine V_aload_n (j := 0) (q := 10) dX8_partitionStart_9 rfl rfl ?_
    refine V_getP (q := 13) (r := (m + 4)) fX8_19 (W.1.1 0 _ rfl) rfl (W.1.2 4 _ rfl) dX8_partitionStart_10 rfl ?_
    refine V_bipush (q := 15) (v := nI 16) dX8_partitionStart_13 rfl (by decide) ?_
    refine V_iload_n (j := 1) (q := 16) dX8_partitionStart_15 rfl rfl ?_
    refine V_imulN (q := 17) dX8_partitionStart_16 rfl ?_
    refine V_iload_n (j := 2) (q := 18) dX8_partitionStart_17 rfl rfl ?_
    refine V_iaddN (q := 19) dX8_partitionStart_18 rfl ?_
    refine V_iald (q := 20) (W.1.1 4 _ rfl) (by omega) (by decide) dX8_partitionStart_19 rfl ?_
    refine V_rw (y := nI (bgp P r p)) (((A r (by omega)).2.2 _ (by omega)).1) ?_
    refine V_goto (q := 24) dX8_partitionStart_20 rfl ?_
    refine V_iret rfl dX8_partitionStart_24 rfl rfl ?_
    exact ⟨pv (by simp [aPs, c4]; try simp [nx, ny]), Q⟩

set_option maxHeartbeats 4000000 in
set_option maxRecDepth 100000 in
theorem c_partitionLength {g : GX} {h : AH} {m : Nat} {P : PG} (G : RG h m P) {x y : Int32} : Ct g mX8_partitionLength 9 0 0 [.ref m, .int x, .int y] h (fun ρ η => ρ = some (.int (aPl P x y)) ∧ FQ h η m) := by
  refine Ct_intro (by decide +kernel) (Nat.le_of_ble_eq_true rfl) ?_
  show V g mX8_partitionLength _ h 0 0 [(0, .ref m), (1, .int x), (2, .int y)] 0 []
  have W := G.1
  have hN := W.2.2.2.2.1
  have hR := W.2.2.1
  refine V_aload_n (j := 0) (q := 1) dX8_partitionLength_0 rfl rfl ?_
  refine V_iload_n (j := 1) (q := 2) dX8_partitionLength_1 rfl rfl ?_
  refine V_iload_n (j := 2) (q := 3) dX8_partitionLength_2 rfl rfl ?_
  refine V_callV (q := 6) (S := []) kX8_141 (c_isPart (x := x) (y := y) G) (W.1.1 0 _ rfl) rfl rfl rfl dX8_partitionLength_3 rfl (fun r1 h2 p3 => ?_)
  obtain ⟨rfl, Q, N9⟩ := p3
  have W := (FQ.rg G Q).1
  refine V_if_eqB (tgt := 23) (q := 9) dX8_partitionLength_6 rfl rfl (fun c4 => ?_) (fun c4 => ?_)
  · skip
    refine V_iconst (q := 24) (v := (-1)) dX8_partitionLength_23 rfl rfl ?_
    refine V_iret rfl dX8_partitionLength_24 rfl rfl ?_
    exact ⟨pv (by simp [aPl, c4]; try simp [nx, ny]), Q⟩
  · skip
    obtain ⟨r, p, hr, hp, rfl, rfl⟩ := isPt_of W.2.2 c4
    have hS := W.2.2.2.1 r hr
    have hnp := npt_le P r
    have nx := nt_n (n := r) (by omega)
    have ny := nt_n (n := p) (by omega)
    have N := N9 (isR_n W.2.2 hr)
    have A := N.1
    refine V_aload_n (j := 0) (q := 10) dX8_partitionLength_9 rfl rfl ?_
    refine V_getP (q := 13) (r := (m + 5)) fX8_22 (W.1.1 0 _ rfl) rfl (W.1.2 5 _ rfl) dX8_partitionLength_10 rfl ?_
    refine V_bipush (q := 15) (v := nI 16) dX8_partitionLength_13 rfl (by decide) ?_
    refine V_iload_n (j := 1) (q := 16) dX8_partitionLength_15 rfl rfl ?_
    refine V_imulN (q := 17) dX8_partitionLength_16 rfl ?_
    refine V_iload_n (j := 2) (q := 18) dX8_partitionLength_17 rfl rfl ?_
    refine V_iaddN (q := 19) dX8_partitionLength_18 rfl ?_
    refine V_iald (q := 20) (W.1.1 5 _ rfl) (by omega) (by decide) dX8_partitionLength_19 rfl ?_
    refine V_rw (y := nI (lnp P r p)) (((A r (by omega)).2.2 _ (by omega)).2) ?_
    refine V_goto (q := 24) dX8_partitionLength_20 rfl ?_
    refine V_iret rfl dX8_partitionLength_24 rfl rfl ?_
    exact ⟨pv (by simp [aPl, c4]; try simp [nx, ny]), Q⟩

set_option maxHeartbeats 4000000 in
set_option maxRecDepth 100000 in
theorem c_isPromotable {g : GX} {h : AH} {m : Nat} {P : PG} (G : RG h m P) {x y : Int32} : Ct g mX8_isPromotable 9 0 0 [.ref m, .int x, .int y] h (fun ρ η => ρ = some (.int (aPp P x y)) ∧ FQ h η m) := by
  refine Ct_intro (by decide +kernel) (Nat.le_of_ble_eq_true rfl) ?_
  show V g mX8_isPromotable _ h 0 0 [(0, .ref m), (1, .int x), (2, .int y)] 0 []
  have W := G.1
  have hN := W.2.2.2.2.1
  have hR := W.2.2.1
  refine V_aload_n (j := 0) (q := 1) dX8_isPromotable_0 rfl rfl ?_
  refine V_iload_n (j := 1) (q := 2) dX8_isPromotable_1 rfl rfl ?_
  refine V_iload_n (j := 2) (q := 3) dX8_isPromotable_2 rfl rfl ?_
  refine V_callV (q := 6) (S := []) kX8_141 (c_isPart (x := x) (y := y) G) (W.1.1 0 _ rfl) rfl rfl rfl dX8_isPromotable_3 rfl (fun r1 h2 p3 => ?_)
  obtain ⟨rfl, Q, N9⟩ := p3
  have W := (FQ.rg G Q).1
  refine V_if_neB (tgt := 13) (q := 9) dX8_isPromotable_6 rfl rfl (fun c4 => ?_) (fun c4 => ?_)
  · skip
    obtain ⟨r, p, hr, hp, rfl, rfl⟩ := isPt_of W.2.2 c4
    have hS := W.2.2.2.1 r hr
    have hnp := npt_le P r
    have nx := nt_n (n := r) (by omega)
    have ny := nt_n (n := p) (by omega)
    have N := N9 (isR_n W.2.2 hr)
    have A := N.1
    refine V_aload_n (j := 0) (q := 14) dX8_isPromotable_13 rfl rfl ?_
    refine V_getP (q := 17) (r := (m + 7)) fX8_28 (W.1.1 0 _ rfl) rfl (W.1.2 7 _ rfl) dX8_isPromotable_14 rfl ?_
    refine V_bipush (q := 19) (v := nI 16) dX8_isPromotable_17 rfl (by decide) ?_
    refine V_iload_n (j := 1) (q := 20) dX8_isPromotable_19 rfl rfl ?_
    refine V_imulN (q := 21) dX8_isPromotable_20 rfl ?_
    refine V_iload_n (j := 2) (q := 22) dX8_isPromotable_21 rfl rfl ?_
    refine V_iaddN (q := 23) dX8_isPromotable_22 rfl ?_
    refine V_zald (q := 24) (W.1.1 7 _ rfl) (by omega) (by decide) dX8_isPromotable_23 rfl ?_
    refine V_rw (y := bi (prm P (16 * r + p))) ((N.2 r (by omega) p (by omega)).1) ?_
    refine V_if_eqB (tgt := 31) (q := 27) dX8_isPromotable_24 rfl rfl (fun c5 => ?_) (fun c5 => ?_)
    · skip
      refine V_iconst (q := 32) (v := nI 0) dX8_isPromotable_31 rfl rfl ?_
      refine V_iret rfl dX8_isPromotable_32 rfl rfl ?_
      exact ⟨pv (by simp [aPp, c4, c5]; try simp [nx, ny, c4, c5, bi_t, bi_f]; try rfl), Q⟩
    · skip
      refine V_iconst (q := 28) (v := nI 1) dX8_isPromotable_27 rfl rfl ?_
      refine V_goto (q := 32) dX8_isPromotable_28 rfl ?_
      refine V_iret rfl dX8_isPromotable_32 rfl rfl ?_
      exact ⟨pv (by simp [aPp, c4, c5]; try simp [nx, ny, c4, c5, bi_t, bi_f]; try rfl), Q⟩
  · skip
    refine V_iconst (q := 10) (v := (-1)) dX8_isPromotable_9 rfl rfl ?_
    refine V_goto (q := 32) dX8_isPromotable_10 rfl ?_
    refine V_iret rfl dX8_isPromotable_32 rfl rfl ?_
    exact ⟨pv (by simp [aPp, c4]; try simp [nx, ny, c4, bi_t, bi_f]; try rfl), Q⟩

set_option maxHeartbeats 4000000 in
set_option maxRecDepth 100000 in
theorem c_isLive {g : GX} {h : AH} {m : Nat} {P : PG} (G : RG h m P) {x y : Int32} : Ct g mX8_isLive 9 0 0 [.ref m, .int x, .int y] h (fun ρ η => ρ = some (.int (aLv P x y)) ∧ FQ h η m) := by
  refine Ct_intro (by decide +kernel) (Nat.le_of_ble_eq_true rfl) ?_
  show V g mX8_isLive _ h 0 0 [(0, .ref m), (1, .int x), (2, .int y)] 0 []
  have W := G.1
  have hN := W.2.2.2.2.1
  have hR := W.2.2.1
  refine V_aload_n (j := 0) (q := 1) dX8_isLive_0 rfl rfl ?_
  refine V_iload_n (j := 1) (q := 2) dX8_isLive_1 rfl rfl ?_
  refine V_iload_n (j := 2) (q := 3) dX8_isLive_2 rfl rfl ?_
  refine V_callV (q := 6) (S := []) kX8_141 (c_isPart (x := x) (y := y) G) (W.1.1 0 _ rfl) rfl rfl rfl dX8_isLive_3 rfl (fun r1 h2 p3 => ?_)
  obtain ⟨rfl, Q, N9⟩ := p3
  have W := (FQ.rg G Q).1
  refine V_if_neB (tgt := 13) (q := 9) dX8_isLive_6 rfl rfl (fun c4 => ?_) (fun c4 => ?_)
  · skip
    obtain ⟨r, p, hr, hp, rfl, rfl⟩ := isPt_of W.2.2 c4
    have hS := W.2.2.2.1 r hr
    have hnp := npt_le P r
    have nx := nt_n (n := r) (by omega)
    have ny := nt_n (n := p) (by omega)
    have N := N9 (isR_n W.2.2 hr)
    have A := N.1
    refine V_aload_n (j := 0) (q := 14) dX8_isLive_13 rfl rfl ?_
    refine V_getP (q := 17) (r := (m + 8)) fX8_32 (W.1.1 0 _ rfl) rfl (W.1.2 8 _ rfl) dX8_isLive_14 rfl ?_
    refine V_bipush (q := 19) (v := nI 16) dX8_isLive_17 rfl (by decide) ?_
    refine V_iload_n (j := 1) (q := 20) dX8_isLive_19 rfl rfl ?_
    refine V_imulN (q := 21) dX8_isLive_20 rfl ?_
    refine V_iload_n (j := 2) (q := 22) dX8_isLive_21 rfl rfl ?_
    refine V_iaddN (q := 23) dX8_isLive_22 rfl ?_
    refine V_zald (q := 24) (W.1.1 8 _ rfl) (by omega) (by decide) dX8_isLive_23 rfl ?_
    refine V_rw (y := bi (liv P (16 * r + p))) ((N.2 r (by omega) p (by omega)).2) ?_
    refine V_if_eqB (tgt := 31) (q := 27) dX8_isLive_24 rfl rfl (fun c5 => ?_) (fun c5 => ?_)
    · skip
      refine V_iconst (q := 32) (v := nI 0) dX8_isLive_31 rfl rfl ?_
      refine V_iret rfl dX8_isLive_32 rfl rfl ?_
      exact ⟨pv (by simp [aLv, c4, c5]; try simp [nx, ny, c4, c5, bi_t, bi_f]; try rfl), Q⟩
    · skip
      refine V_iconst (q := 28) (v := nI 1) dX8_isLive_27 rfl rfl ?_
      refine V_goto (q := 32) dX8_isLive_28 rfl ?_
      refine V_iret rfl dX8_isLive_32 rfl rfl ?_
      exact ⟨pv (by simp [aLv, c4, c5]; try simp [nx, ny, c4, c5, bi_t, bi_f]; try rfl), Q⟩
  · skip
    refine V_iconst (q := 10) (v := (-1)) dX8_isLive_9 rfl rfl ?_
    refine V_goto (q := 32) dX8_isLive_10 rfl ?_
    refine V_iret rfl dX8_isLive_32 rfl rfl ?_
    exact ⟨pv (by simp [aLv, c4]; try simp [nx, ny, c4, bi_t, bi_f]; try rfl), Q⟩


set_option maxHeartbeats 4000000 in
set_option maxRecDepth 100000 in
theorem d_layoutNow {g : GX} {h : AH} {P : PG} {U : Nat → Nat} (X : CX h P U) {st : Bool} (hst : hI h 9 3 = bi st) (hac : st = false → AC P h) {x : Int32} : Ct g mX7_layoutNow 5 0 0 [.ref 0, .int x] h (fun ρ η => ρ = some (.ref (lay x)) ∧ FRs h η ∧ hI η 9 3 = bi false ∧ AC P η) := by
  refine Ct_intro (by decide +kernel) (Nat.le_of_ble_eq_true rfl) ?_
  show V g mX7_layoutNow _ h 0 0 [(0, .ref 0), (1, .int x)] 0 []
  refine V_aload_n (j := 0) (q := 1) dX7_layoutNow_0 rfl rfl ?_
  refine V_getP (q := 4) (r := 9) fX7_26 (X.1.1 0 _ s_0) rfl (X.1.2.1 0 2 _ rfl) dX7_layoutNow_1 rfl ?_
  refine V_aload_n (j := 0) (q := 5) dX7_layoutNow_4 rfl rfl ?_
  refine V_getP (q := 8) (r := 1) fX7_10 (X.1.1 0 _ s_0) rfl (X.1.2.1 0 0 _ rfl) dX7_layoutNow_5 rfl ?_
  refine V_callV (q := 11) (S := []) kX7_163 (d_refresh X hst hac) (X.1.1 9 _ s_9) rfl rfl rfl dX7_layoutNow_8 rfl (fun r1 h2 p3 => ?_)
  obtain ⟨rfl, F1, e9, A1⟩ := p3
  have X1 := F1.cx X
  have hC1 := X1.1
  refine V_aload_n (j := 0) (q := 12) dX7_layoutNow_11 rfl rfl ?_
  refine V_getP (q := 15) (r := 9) fX7_26 (hC1.1 0 _ s_0) rfl (hC1.2.1 0 2 _ rfl) dX7_layoutNow_12 rfl ?_
  refine V_iload_n (j := 1) (q := 16) dX7_layoutNow_15 rfl rfl ?_
  refine V_cpV (q := 19) (S := []) (v := .ref (lay x)) kX7_208 (d_layoutOf (x := x) hC1) (hC1.1 9 _ s_9) rfl rfl rfl dX7_layoutNow_16 rfl ?_
  refine V_aret rfl dX7_layoutNow_19 rfl rfl ?_
  exact ⟨rfl, F1, e9, A1⟩

set_option maxHeartbeats 4000000 in
set_option maxRecDepth 100000 in
theorem d_partitionNow {g : GX} {h : AH} {P : PG} {U : Nat → Nat} (X : CX h P U) {st : Bool} (hst : hI h 9 3 = bi st) (hac : st = false → AC P h) (Z : ZP h) {x y : Int32} : Ct g mX7_partitionNow 5 0 0 [.ref 0, .int x, .int y] h (fun ρ η => FRs h η ∧ hI η 9 3 = bi false ∧ AC P η ∧ ∃ b, ρ = some (.ref b) ∧ η.1[b]? = some (4, 4) ∧ PQ P x y η b) := by
  refine Ct_intro (by decide +kernel) (Nat.le_of_ble_eq_true rfl) ?_
  show V g mX7_partitionNow _ h 0 0 [(0, .ref 0), (1, .int x), (2, .int y)] 0 []
  refine V_aload_n (j := 0) (q := 1) dX7_partitionNow_0 rfl rfl ?_
  refine V_getP (q := 4) (r := 9) fX7_26 (X.1.1 0 _ s_0) rfl (X.1.2.1 0 2 _ rfl) dX7_partitionNow_1 rfl ?_
  refine V_aload_n (j := 0) (q := 5) dX7_partitionNow_4 rfl rfl ?_
  refine V_getP (q := 8) (r := 1) fX7_10 (X.1.1 0 _ s_0) rfl (X.1.2.1 0 0 _ rfl) dX7_partitionNow_5 rfl ?_
  refine V_callV (q := 11) (S := []) kX7_163 (d_refresh X hst hac) (X.1.1 9 _ s_9) rfl rfl rfl dX7_partitionNow_8 rfl (fun r1 h2 p3 => ?_)
  obtain ⟨rfl, F1, e9, A1⟩ := p3
  have X1 := F1.cx X
  have hC1 := X1.1
  refine V_aload_n (j := 0) (q := 12) dX7_partitionNow_11 rfl rfl ?_
  refine V_getP (q := 15) (r := 9) fX7_26 (hC1.1 0 _ s_0) rfl (hC1.2.1 0 2 _ rfl) dX7_partitionNow_12 rfl ?_
  refine V_iload_n (j := 1) (q := 16) dX7_partitionNow_15 rfl rfl ?_
  refine V_cpV (q := 19) (S := []) (v := .ref (lay x)) kX7_208 (d_layoutOf (x := x) hC1) (hC1.1 9 _ s_9) rfl rfl rfl dX7_partitionNow_16 rfl ?_
  refine V_iload_n (j := 2) (q := 20) dX7_partitionNow_19 rfl rfl ?_
  obtain ⟨cn, Y, l7, l16, lq⟩ := lay_at hC1 A1 (F1.zp Z) X.2.2 x
  refine V_cpV (q := 23) (S := []) (v := .ref (nbr (lay x) cn y)) kX7_211 (d_numbered (x := y) Y l7 l16) (Y.1 0 _ rfl) rfl rfl rfl dX7_partitionNow_20 rfl ?_
  refine V_aret rfl dX7_partitionNow_23 rfl rfl ?_
  exact ⟨F1, e9, A1, _, rfl, lq y⟩

set_option maxHeartbeats 4000000 in
set_option maxRecDepth 100000 in
theorem d_runOf {g : GX} {h : AH} {σ : GS} (G : CG h σ) {x : Int32} : Ct g mX7_runOf 5 0 0 [.ref 0, .int x] h (fun ρ η => ρ = some (.ref 151) ∧ FK h η ∧ CG η σ ∧ (∃ rs, CR η (tof x) rs (run σ.1 (tof x))) ∧ sN (run σ.1 (tof x)) ≤ 24) := by
  refine Ct_intro (by decide +kernel) (Nat.le_of_ble_eq_true rfl) ?_
  show V g mX7_runOf _ h 0 0 [(0, .ref 0), (1, .int x)] 0 []
  obtain ⟨P, K, c⟩ := σ
  obtain ⟨⟨U, X⟩, ⟨tq, H⟩, ⟨st, hst, hac⟩, Z, hl⟩ := id G
  have X : CX h P U := X
  have H : CH h P K c tq := H
  have hac : st = false → AC P h := hac
  have hN := X.2.2.2.2.1
  have hR := X.2.2.1
  have hC := X.1
  refine V_aload_n (j := 0) (q := 1) dX7_runOf_0 rfl rfl ?_
  refine V_getP (q := 4) (r := 9) fX7_26 (hC.1 0 _ s_0) rfl (hC.2.1 0 2 _ rfl) dX7_runOf_1 rfl ?_
  refine V_aload_n (j := 0) (q := 5) dX7_runOf_4 rfl rfl ?_
  refine V_getP (q := 8) (r := 1) fX7_10 (hC.1 0 _ s_0) rfl (hC.2.1 0 0 _ rfl) dX7_runOf_5 rfl ?_
  refine V_callV (q := 11) (S := []) kX7_163 (d_refresh X hst hac) (hC.1 9 _ s_9) rfl rfl rfl dX7_runOf_8 rfl (fun r1 h2 p3 => ?_)
  obtain ⟨rfl, F1, e9, A1⟩ := p3
  have X1 := F1.cx X
  have hC1 := X1.1
  refine V_aload_n (j := 0) (q := 12) dX7_runOf_11 rfl rfl ?_
  refine V_getP (q := 15) (r := 151) fX7_35 (hC1.1 0 _ s_0) rfl (hC1.2.1 0 3 _ rfl) dX7_runOf_12 rfl ?_
  refine V_iload_n (j := 1) (q := 16) dX7_runOf_15 rfl rfl ?_
  refine V_iconst (q := 17) (v := nI 1) dX7_runOf_16 rfl rfl ?_
  refine V_icmp_ne (tgt := 24) (q := 20) dX7_runOf_17 rfl rfl (fun c4 => ?_) (fun c4 => ?_)
  · skip
    refine V_iconst (q := 25) (v := nI 0) dX7_runOf_24 rfl rfl ?_
    refine V_callV (q := 28) (S := []) kX7_215 (d_execute (tr := false) X1 A1) (hC1.1 151 _ s_151) rfl rfl rfl dX7_runOf_25 rfl (fun r5 h6 p7 => ?_)
    obtain ⟨rfl, F2, R2, n2⟩ := p7
    have hC2 := (F2.cx X1).1
    refine V_aload_n (j := 0) (q := 29) dX7_runOf_28 rfl rfl ?_
    refine V_getP (q := 32) (r := 151) fX7_35 (hC2.1 0 _ s_0) rfl (hC2.2.1 0 3 _ rfl) dX7_runOf_29 rfl ?_
    refine V_aret rfl dX7_runOf_32 rfl rfl ?_
    rw [tof_f c4]
    exact ⟨rfl, F1.fk.tr F2.fk, F2.cg (F1.cg G e9 A1), R2, n2⟩
  · skip
    refine V_iconst (q := 21) (v := nI 1) dX7_runOf_20 rfl rfl ?_
    refine V_goto (q := 25) dX7_runOf_21 rfl ?_
    refine V_callV (q := 28) (S := []) kX7_215 (d_execute (tr := true) X1 A1) (hC1.1 151 _ s_151) rfl rfl rfl dX7_runOf_25 rfl (fun r8 h9 p10 => ?_)
    obtain ⟨rfl, F2, R2, n2⟩ := p10
    have hC2 := (F2.cx X1).1
    refine V_aload_n (j := 0) (q := 29) dX7_runOf_28 rfl rfl ?_
    refine V_getP (q := 32) (r := 151) fX7_35 (hC2.1 0 _ s_0) rfl (hC2.2.1 0 3 _ rfl) dX7_runOf_29 rfl ?_
    refine V_aret rfl dX7_runOf_32 rfl rfl ?_
    rw [tof_t c4]
    exact ⟨rfl, F1.fk.tr F2.fk, F2.cg (F1.cg G e9 A1), R2, n2⟩

set_option maxHeartbeats 4000000 in
set_option maxRecDepth 100000 in
theorem d_escapes {g : GX} {h : AH} {σ : GS} (G : CG h σ) {x : Int32} : Ct g mX7_escapes 6 0 0 [.ref 0, .int x] h (fun ρ η => ρ = some (.int (aEs σ.1 x)) ∧ FK h η ∧ CG η σ) := by
  refine Ct_intro (by decide +kernel) (Nat.le_of_ble_eq_true rfl) ?_
  show V g mX7_escapes _ h 0 0 [(0, .ref 0), (1, .int x)] 0 []
  obtain ⟨P, K, c⟩ := σ
  obtain ⟨⟨U, X⟩, ⟨tq, H⟩, ⟨st, hst, hac⟩, Z, hl⟩ := id G
  have X : CX h P U := X
  have H : CH h P K c tq := H
  have hac : st = false → AC P h := hac
  have hN := X.2.2.2.2.1
  have hR := X.2.2.1
  have hC := X.1
  refine V_aload_n (j := 0) (q := 1) dX7_escapes_0 rfl rfl ?_
  refine V_getP (q := 4) (r := 1) fX7_10 (hC.1 0 _ s_0) rfl (hC.2.1 0 0 _ rfl) dX7_escapes_1 rfl ?_
  refine V_iload_n (j := 1) (q := 5) dX7_escapes_4 rfl rfl ?_
  refine V_cpV (q := 8) (S := []) (v := .int (bi (isR P x))) kX7_89 (d_hasRecord (x := x) X) (hC.1 1 _ s_1) rfl rfl rfl dX7_escapes_5 rfl ?_
  refine V_if_neB (tgt := 13) (q := 11) dX7_escapes_8 rfl rfl (fun c1 => ?_) (fun c1 => ?_)
  · skip
    obtain ⟨r, hr, rfl⟩ := isR_of c1
    have nx := nt_n (n := r) (by omega)
    refine V_aload_n (j := 0) (q := 14) dX7_escapes_13 rfl rfl ?_
    refine V_iload_n (j := 1) (q := 15) dX7_escapes_14 rfl rfl ?_
    refine V_callV (q := 18) (S := []) kX7_122 (by have := d_layoutNow (g := g) (x := nI r) X hst hac; rw [lay_n (by omega)] at this; exact this) (hC.1 0 _ s_0) rfl rfl rfl dX7_escapes_15 rfl (fun r2 h3 p4 => ?_)
    obtain ⟨rfl, F1, e9, A1⟩ := p4
    have X1 := F1.cx X
    have hC1 := X1.1
    have B := AC_r X.2.2 A1 hr
    have G1 : CG h3 (P, K, c) := F1.cg G e9 A1
    refine V_getI (q := 21) fX7_126 ((hC1.2.2.2.2.2.2 r (by omega)).1 0 _ rfl) rfl dX7_escapes_18 rfl ?_
    refine V_rw (y := bi (esc P r)) B.2.1 ?_
    refine V_cpS (q := 24) (S := []) (v := .int (bi (esc P r))) kX7_131 (d_oneIf (b := esc P r)) rfl rfl rfl dX7_escapes_21 rfl ?_
    refine V_iret rfl dX7_escapes_24 rfl rfl ?_
    exact ⟨pv (by rw [aEs, if_pos c1, nx]), F1.fk, G1⟩
  · skip
    refine V_iconst (q := 12) (v := (-1)) dX7_escapes_11 rfl rfl ?_
    refine V_iret rfl dX7_escapes_12 rfl rfl ?_
    exact ⟨pv (by rw [aEs, if_neg (by rw [c1]; decide)]), FK.rf h, G⟩

set_option maxHeartbeats 4000000 in
set_option maxRecDepth 100000 in
theorem d_partitionCount {g : GX} {h : AH} {σ : GS} (G : CG h σ) {x : Int32} : Ct g mX7_partitionCount 6 0 0 [.ref 0, .int x] h (fun ρ η => ρ = some (.int (aPc σ.1 x)) ∧ FK h η ∧ CG η σ) := by
  refine Ct_intro (by decide +kernel) (Nat.le_of_ble_eq_true rfl) ?_
  show V g mX7_partitionCount _ h 0 0 [(0, .ref 0), (1, .int x)] 0 []
  obtain ⟨P, K, c⟩ := σ
  obtain ⟨⟨U, X⟩, ⟨tq, H⟩, ⟨st, hst, hac⟩, Z, hl⟩ := id G
  have X : CX h P U := X
  have H : CH h P K c tq := H
  have hac : st = false → AC P h := hac
  have hN := X.2.2.2.2.1
  have hR := X.2.2.1
  have hC := X.1
  refine V_aload_n (j := 0) (q := 1) dX7_partitionCount_0 rfl rfl ?_
  refine V_getP (q := 4) (r := 1) fX7_10 (hC.1 0 _ s_0) rfl (hC.2.1 0 0 _ rfl) dX7_partitionCount_1 rfl ?_
  refine V_iload_n (j := 1) (q := 5) dX7_partitionCount_4 rfl rfl ?_
  refine V_cpV (q := 8) (S := []) (v := .int (bi (isR P x))) kX7_89 (d_hasRecord (x := x) X) (hC.1 1 _ s_1) rfl rfl rfl dX7_partitionCount_5 rfl ?_
  refine V_if_neB (tgt := 13) (q := 11) dX7_partitionCount_8 rfl rfl (fun c1 => ?_) (fun c1 => ?_)
  · skip
    obtain ⟨r, hr, rfl⟩ := isR_of c1
    have nx := nt_n (n := r) (by omega)
    refine V_aload_n (j := 0) (q := 14) dX7_partitionCount_13 rfl rfl ?_
    refine V_iload_n (j := 1) (q := 15) dX7_partitionCount_14 rfl rfl ?_
    refine V_callV (q := 18) (S := []) kX7_122 (by have := d_layoutNow (g := g) (x := nI r) X hst hac; rw [lay_n (by omega)] at this; exact this) (hC.1 0 _ s_0) rfl rfl rfl dX7_partitionCount_15 rfl (fun r2 h3 p4 => ?_)
    obtain ⟨rfl, F1, e9, A1⟩ := p4
    have X1 := F1.cx X
    have hC1 := X1.1
    have B := AC_r X.2.2 A1 hr
    have G1 : CG h3 (P, K, c) := F1.cg G e9 A1
    refine V_getI (q := 21) fX7_135 ((hC1.2.2.2.2.2.2 r (by omega)).1 0 _ rfl) rfl dX7_partitionCount_18 rfl ?_
    refine V_rw (y := nI (npt P r)) B.2.2.1 ?_
    refine V_iret rfl dX7_partitionCount_21 rfl rfl ?_
    exact ⟨pv (by rw [aPc, if_pos c1, nx]), F1.fk, G1⟩
  · skip
    refine V_iconst (q := 12) (v := (-1)) dX7_partitionCount_11 rfl rfl ?_
    refine V_iret rfl dX7_partitionCount_12 rfl rfl ?_
    exact ⟨pv (by rw [aPc, if_neg (by rw [c1]; decide)]), FK.rf h, G⟩

set_option maxHeartbeats 4000000 in
set_option maxRecDepth 100000 in
theorem d_paddingBytes {g : GX} {h : AH} {σ : GS} (G : CG h σ) {x : Int32} : Ct g mX7_paddingBytes 6 0 0 [.ref 0, .int x] h (fun ρ η => ρ = some (.int (aPd σ.1 x)) ∧ FK h η ∧ CG η σ) := by
  refine Ct_intro (by decide +kernel) (Nat.le_of_ble_eq_true rfl) ?_
  show V g mX7_paddingBytes _ h 0 0 [(0, .ref 0), (1, .int x)] 0 []
  obtain ⟨P, K, c⟩ := σ
  obtain ⟨⟨U, X⟩, ⟨tq, H⟩, ⟨st, hst, hac⟩, Z, hl⟩ := id G
  have X : CX h P U := X
  have H : CH h P K c tq := H
  have hac : st = false → AC P h := hac
  have hN := X.2.2.2.2.1
  have hR := X.2.2.1
  have hC := X.1
  refine V_aload_n (j := 0) (q := 1) dX7_paddingBytes_0 rfl rfl ?_
  refine V_getP (q := 4) (r := 1) fX7_10 (hC.1 0 _ s_0) rfl (hC.2.1 0 0 _ rfl) dX7_paddingBytes_1 rfl ?_
  refine V_iload_n (j := 1) (q := 5) dX7_paddingBytes_4 rfl rfl ?_
  refine V_cpV (q := 8) (S := []) (v := .int (bi (isR P x))) kX7_89 (d_hasRecord (x := x) X) (hC.1 1 _ s_1) rfl rfl rfl dX7_paddingBytes_5 rfl ?_
  refine V_if_neB (tgt := 13) (q := 11) dX7_paddingBytes_8 rfl rfl (fun c1 => ?_) (fun c1 => ?_)
  · skip
    obtain ⟨r, hr, rfl⟩ := isR_of c1
    have nx := nt_n (n := r) (by omega)
    refine V_aload_n (j := 0) (q := 14) dX7_paddingBytes_13 rfl rfl ?_
    refine V_iload_n (j := 1) (q := 15) dX7_paddingBytes_14 rfl rfl ?_
    refine V_callV (q := 18) (S := []) kX7_122 (by have := d_layoutNow (g := g) (x := nI r) X hst hac; rw [lay_n (by omega)] at this; exact this) (hC.1 0 _ s_0) rfl rfl rfl dX7_paddingBytes_15 rfl (fun r2 h3 p4 => ?_)
    obtain ⟨rfl, F1, e9, A1⟩ := p4
    have X1 := F1.cx X
    have hC1 := X1.1
    have B := AC_r X.2.2 A1 hr
    have G1 : CG h3 (P, K, c) := F1.cg G e9 A1
    refine V_cpV (q := 21) (S := []) (v := .int (nI (pad P r))) kX7_156 (d_countPadding X1 A1 hr) ((hC1.2.2.2.2.2.2 r (by omega)).1 0 _ rfl) rfl rfl rfl dX7_paddingBytes_18 rfl ?_
    refine V_iret rfl dX7_paddingBytes_21 rfl rfl ?_
    exact ⟨pv (by rw [aPd, if_pos c1, nx]), F1.fk, G1⟩
  · skip
    refine V_iconst (q := 12) (v := (-1)) dX7_paddingBytes_11 rfl rfl ?_
    refine V_iret rfl dX7_paddingBytes_12 rfl rfl ?_
    exact ⟨pv (by rw [aPd, if_neg (by rw [c1]; decide)]), FK.rf h, G⟩

set_option maxHeartbeats 4000000 in
set_option maxRecDepth 100000 in
theorem d_partitionStart {g : GX} {h : AH} {σ : GS} (G : CG h σ) {x y : Int32} : Ct g mX7_partitionStart 6 0 0 [.ref 0, .int x, .int y] h (fun ρ η => ρ = some (.int (aPs σ.1 x y)) ∧ FK h η ∧ CG η σ) := by
  refine Ct_intro (by decide +kernel) (Nat.le_of_ble_eq_true rfl) ?_
  show V g mX7_partitionStart _ h 0 0 [(0, .ref 0), (1, .int x), (2, .int y)] 0 []
  obtain ⟨P, K, c⟩ := σ
  obtain ⟨⟨U, X⟩, ⟨tq, H⟩, ⟨st, hst, hac⟩, Z, hl⟩ := id G
  have X : CX h P U := X
  have H : CH h P K c tq := H
  have hac : st = false → AC P h := hac
  have hN := X.2.2.2.2.1
  have hR := X.2.2.1
  have hC := X.1
  refine V_aload_n (j := 0) (q := 1) dX7_partitionStart_0 rfl rfl ?_
  refine V_iload_n (j := 1) (q := 2) dX7_partitionStart_1 rfl rfl ?_
  refine V_iload_n (j := 2) (q := 3) dX7_partitionStart_2 rfl rfl ?_
  refine V_callV (q := 6) (S := []) kX7_138 (d_partitionNow (x := x) (y := y) X hst hac Z) (hC.1 0 _ s_0) rfl rfl rfl dX7_partitionStart_3 rfl (fun r1 h2 p3 => ?_)
  obtain ⟨F1, e9, A1, b, rfl, hb, q⟩ := p3
  have G1 : CG h2 (P, K, c) := F1.cg G e9 A1
  refine V_astore_n (q := 7) (L' := [(3, .ref b), (0, .ref 0), (1, .int x), (2, .int y)]) dX7_partitionStart_6 rfl rfl rfl ?_
  rcases q with ⟨q1, q2, q3, q4⟩ | ⟨q1, q2⟩
  · skip
    refine V_aload_n (j := 0) (q := 8) dX7_partitionStart_7 rfl rfl ?_
    refine V_getI (q := 11) fX7_142 hb rfl dX7_partitionStart_8 rfl ?_
    refine V_rw (y := nI (lnp P (nt x) (nt y))) q2.2.1 ?_
    refine V_if_neN (tgt := 18) (q := 14) dX7_partitionStart_11 rfl rfl (by omega) (fun c4 => ?_) (fun c4 => ?_)
    · skip
      refine V_aload_n (j := 0) (q := 19) dX7_partitionStart_18 rfl rfl ?_
      refine V_getI (q := 22) fX7_147 hb rfl dX7_partitionStart_19 rfl ?_
      refine V_rw (y := nI (bgp P (nt x) (nt y))) q2.1 ?_
      refine V_iret rfl dX7_partitionStart_22 rfl rfl ?_
      exact ⟨pv (by rw [aPs, if_pos q1]), F1.fk, G1⟩
    · skip
      exact absurd c4 (by omega)
  · skip
    refine V_aload_n (j := 0) (q := 8) dX7_partitionStart_7 rfl rfl ?_
    refine V_getI (q := 11) fX7_142 hb rfl dX7_partitionStart_8 rfl ?_
    refine V_rw (y := nI 0) q2 ?_
    refine V_rw (y := bi false) rfl ?_
    refine V_if_neB (tgt := 18) (q := 14) dX7_partitionStart_11 rfl rfl (fun z => absurd z (by decide)) (fun _ => ?_)
    refine V_iconst (q := 15) (v := (-1)) dX7_partitionStart_14 rfl rfl ?_
    refine V_goto (q := 22) dX7_partitionStart_15 rfl ?_
    refine V_iret rfl dX7_partitionStart_22 rfl rfl ?_
    exact ⟨pv (by rw [aPs, if_neg (by rw [q1]; decide)]), F1.fk, G1⟩

set_option maxHeartbeats 4000000 in
set_option maxRecDepth 100000 in
theorem d_partitionLength {g : GX} {h : AH} {σ : GS} (G : CG h σ) {x y : Int32} : Ct g mX7_partitionLength 6 0 0 [.ref 0, .int x, .int y] h (fun ρ η => ρ = some (.int (aPl σ.1 x y)) ∧ FK h η ∧ CG η σ) := by
  refine Ct_intro (by decide +kernel) (Nat.le_of_ble_eq_true rfl) ?_
  show V g mX7_partitionLength _ h 0 0 [(0, .ref 0), (1, .int x), (2, .int y)] 0 []
  obtain ⟨P, K, c⟩ := σ
  obtain ⟨⟨U, X⟩, ⟨tq, H⟩, ⟨st, hst, hac⟩, Z, hl⟩ := id G
  have X : CX h P U := X
  have H : CH h P K c tq := H
  have hac : st = false → AC P h := hac
  have hN := X.2.2.2.2.1
  have hR := X.2.2.1
  have hC := X.1
  refine V_aload_n (j := 0) (q := 1) dX7_partitionLength_0 rfl rfl ?_
  refine V_iload_n (j := 1) (q := 2) dX7_partitionLength_1 rfl rfl ?_
  refine V_iload_n (j := 2) (q := 3) dX7_partitionLength_2 rfl rfl ?_
  refine V_callV (q := 6) (S := []) kX7_138 (d_partitionNow (x := x) (y := y) X hst hac Z) (hC.1 0 _ s_0) rfl rfl rfl dX7_partitionLength_3 rfl (fun r1 h2 p3 => ?_)
  obtain ⟨F1, e9, A1, b, rfl, hb, q⟩ := p3
  have G1 : CG h2 (P, K, c) := F1.cg G e9 A1
  refine V_astore_n (q := 7) (L' := [(3, .ref b), (0, .ref 0), (1, .int x), (2, .int y)]) dX7_partitionLength_6 rfl rfl rfl ?_
  rcases q with ⟨q1, q2, q3, q4⟩ | ⟨q1, q2⟩
  · skip
    refine V_aload_n (j := 0) (q := 8) dX7_partitionLength_7 rfl rfl ?_
    refine V_getI (q := 11) fX7_142 hb rfl dX7_partitionLength_8 rfl ?_
    refine V_rw (y := nI (lnp P (nt x) (nt y))) q2.2.1 ?_
    refine V_if_neN (tgt := 18) (q := 14) dX7_partitionLength_11 rfl rfl (by omega) (fun c4 => ?_) (fun c4 => ?_)
    · skip
      refine V_aload_n (j := 0) (q := 19) dX7_partitionLength_18 rfl rfl ?_
      refine V_getI (q := 22) fX7_142 hb rfl dX7_partitionLength_19 rfl ?_
      refine V_rw (y := nI (lnp P (nt x) (nt y))) q2.2.1 ?_
      refine V_iret rfl dX7_partitionLength_22 rfl rfl ?_
      exact ⟨pv (by rw [aPl, if_pos q1]), F1.fk, G1⟩
    · skip
      exact absurd c4 (by omega)
  · skip
    refine V_aload_n (j := 0) (q := 8) dX7_partitionLength_7 rfl rfl ?_
    refine V_getI (q := 11) fX7_142 hb rfl dX7_partitionLength_8 rfl ?_
    refine V_rw (y := nI 0) q2 ?_
    refine V_rw (y := bi false) rfl ?_
    refine V_if_neB (tgt := 18) (q := 14) dX7_partitionLength_11 rfl rfl (fun z => absurd z (by decide)) (fun _ => ?_)
    refine V_iconst (q := 15) (v := (-1)) dX7_partitionLength_14 rfl rfl ?_
    refine V_goto (q := 22) dX7_partitionLength_15 rfl ?_
    refine V_iret rfl dX7_partitionLength_22 rfl rfl ?_
    exact ⟨pv (by rw [aPl, if_neg (by rw [q1]; decide)]), F1.fk, G1⟩

set_option maxHeartbeats 4000000 in
set_option maxRecDepth 100000 in
theorem d_isPromotable {g : GX} {h : AH} {σ : GS} (G : CG h σ) {x y : Int32} : Ct g mX7_isPromotable 6 0 0 [.ref 0, .int x, .int y] h (fun ρ η => ρ = some (.int (aPp σ.1 x y)) ∧ FK h η ∧ CG η σ) := by
  refine Ct_intro (by decide +kernel) (Nat.le_of_ble_eq_true rfl) ?_
  show V g mX7_isPromotable _ h 0 0 [(0, .ref 0), (1, .int x), (2, .int y)] 0 []
  obtain ⟨P, K, c⟩ := σ
  obtain ⟨⟨U, X⟩, ⟨tq, H⟩, ⟨st, hst, hac⟩, Z, hl⟩ := id G
  have X : CX h P U := X
  have H : CH h P K c tq := H
  have hac : st = false → AC P h := hac
  have hN := X.2.2.2.2.1
  have hR := X.2.2.1
  have hC := X.1
  refine V_aload_n (j := 0) (q := 1) dX7_isPromotable_0 rfl rfl ?_
  refine V_iload_n (j := 1) (q := 2) dX7_isPromotable_1 rfl rfl ?_
  refine V_iload_n (j := 2) (q := 3) dX7_isPromotable_2 rfl rfl ?_
  refine V_callV (q := 6) (S := []) kX7_138 (d_partitionNow (x := x) (y := y) X hst hac Z) (hC.1 0 _ s_0) rfl rfl rfl dX7_isPromotable_3 rfl (fun r1 h2 p3 => ?_)
  obtain ⟨F1, e9, A1, b, rfl, hb, q⟩ := p3
  have G1 : CG h2 (P, K, c) := F1.cg G e9 A1
  refine V_astore_n (q := 7) (L' := [(3, .ref b), (0, .ref 0), (1, .int x), (2, .int y)]) dX7_isPromotable_6 rfl rfl rfl ?_
  rcases q with ⟨q1, q2, q3, q4⟩ | ⟨q1, q2⟩
  · skip
    refine V_aload_n (j := 0) (q := 8) dX7_isPromotable_7 rfl rfl ?_
    refine V_getI (q := 11) fX7_142 hb rfl dX7_isPromotable_8 rfl ?_
    refine V_rw (y := nI (lnp P (nt x) (nt y))) q2.2.1 ?_
    refine V_if_neN (tgt := 18) (q := 14) dX7_isPromotable_11 rfl rfl (by omega) (fun c4 => ?_) (fun c4 => ?_)
    · skip
      refine V_aload_n (j := 0) (q := 19) dX7_isPromotable_18 rfl rfl ?_
      refine V_getI (q := 22) fX7_150 hb rfl dX7_isPromotable_19 rfl ?_
      refine V_rw (y := bi (prm P (16 * nt x + nt y))) q2.2.2.1 ?_
      refine V_cpS (q := 25) (S := []) (v := .int (bi (prm P (16 * nt x + nt y)))) kX7_131 (d_oneIf (b := prm P (16 * nt x + nt y))) rfl rfl rfl dX7_isPromotable_22 rfl ?_
      refine V_iret rfl dX7_isPromotable_25 rfl rfl ?_
      exact ⟨pv (by rw [aPp, if_pos q1]), F1.fk, G1⟩
    · skip
      exact absurd c4 (by omega)
  · skip
    refine V_aload_n (j := 0) (q := 8) dX7_isPromotable_7 rfl rfl ?_
    refine V_getI (q := 11) fX7_142 hb rfl dX7_isPromotable_8 rfl ?_
    refine V_rw (y := nI 0) q2 ?_
    refine V_rw (y := bi false) rfl ?_
    refine V_if_neB (tgt := 18) (q := 14) dX7_isPromotable_11 rfl rfl (fun z => absurd z (by decide)) (fun _ => ?_)
    refine V_iconst (q := 15) (v := (-1)) dX7_isPromotable_14 rfl rfl ?_
    refine V_goto (q := 25) dX7_isPromotable_15 rfl ?_
    refine V_iret rfl dX7_isPromotable_25 rfl rfl ?_
    exact ⟨pv (by rw [aPp, if_neg (by rw [q1]; decide)]), F1.fk, G1⟩

set_option maxHeartbeats 4000000 in
set_option maxRecDepth 100000 in
theorem d_isLive {g : GX} {h : AH} {σ : GS} (G : CG h σ) {x y : Int32} : Ct g mX7_isLive 6 0 0 [.ref 0, .int x, .int y] h (fun ρ η => ρ = some (.int (aLv σ.1 x y)) ∧ FK h η ∧ CG η σ) := by
  refine Ct_intro (by decide +kernel) (Nat.le_of_ble_eq_true rfl) ?_
  show V g mX7_isLive _ h 0 0 [(0, .ref 0), (1, .int x), (2, .int y)] 0 []
  obtain ⟨P, K, c⟩ := σ
  obtain ⟨⟨U, X⟩, ⟨tq, H⟩, ⟨st, hst, hac⟩, Z, hl⟩ := id G
  have X : CX h P U := X
  have H : CH h P K c tq := H
  have hac : st = false → AC P h := hac
  have hN := X.2.2.2.2.1
  have hR := X.2.2.1
  have hC := X.1
  refine V_aload_n (j := 0) (q := 1) dX7_isLive_0 rfl rfl ?_
  refine V_iload_n (j := 1) (q := 2) dX7_isLive_1 rfl rfl ?_
  refine V_iload_n (j := 2) (q := 3) dX7_isLive_2 rfl rfl ?_
  refine V_callV (q := 6) (S := []) kX7_138 (d_partitionNow (x := x) (y := y) X hst hac Z) (hC.1 0 _ s_0) rfl rfl rfl dX7_isLive_3 rfl (fun r1 h2 p3 => ?_)
  obtain ⟨F1, e9, A1, b, rfl, hb, q⟩ := p3
  have G1 : CG h2 (P, K, c) := F1.cg G e9 A1
  refine V_astore_n (q := 7) (L' := [(3, .ref b), (0, .ref 0), (1, .int x), (2, .int y)]) dX7_isLive_6 rfl rfl rfl ?_
  rcases q with ⟨q1, q2, q3, q4⟩ | ⟨q1, q2⟩
  · skip
    refine V_aload_n (j := 0) (q := 8) dX7_isLive_7 rfl rfl ?_
    refine V_getI (q := 11) fX7_142 hb rfl dX7_isLive_8 rfl ?_
    refine V_rw (y := nI (lnp P (nt x) (nt y))) q2.2.1 ?_
    refine V_if_neN (tgt := 18) (q := 14) dX7_isLive_11 rfl rfl (by omega) (fun c4 => ?_) (fun c4 => ?_)
    · skip
      refine V_aload_n (j := 0) (q := 19) dX7_isLive_18 rfl rfl ?_
      refine V_getI (q := 22) fX7_153 hb rfl dX7_isLive_19 rfl ?_
      refine V_rw (y := bi (liv P (16 * nt x + nt y))) q2.2.2.2 ?_
      refine V_cpS (q := 25) (S := []) (v := .int (bi (liv P (16 * nt x + nt y)))) kX7_131 (d_oneIf (b := liv P (16 * nt x + nt y))) rfl rfl rfl dX7_isLive_22 rfl ?_
      refine V_iret rfl dX7_isLive_25 rfl rfl ?_
      exact ⟨pv (by rw [aLv, if_pos q1]), F1.fk, G1⟩
    · skip
      exact absurd c4 (by omega)
  · skip
    refine V_aload_n (j := 0) (q := 8) dX7_isLive_7 rfl rfl ?_
    refine V_getI (q := 11) fX7_142 hb rfl dX7_isLive_8 rfl ?_
    refine V_rw (y := nI 0) q2 ?_
    refine V_rw (y := bi false) rfl ?_
    refine V_if_neB (tgt := 18) (q := 14) dX7_isLive_11 rfl rfl (fun z => absurd z (by decide)) (fun _ => ?_)
    refine V_iconst (q := 15) (v := (-1)) dX7_isLive_14 rfl rfl ?_
    refine V_goto (q := 25) dX7_isLive_15 rfl ?_
    refine V_iret rfl dX7_isLive_25 rfl rfl ?_
    exact ⟨pv (by rw [aLv, if_neg (by rw [q1]; decide)]), F1.fk, G1⟩

set_option maxHeartbeats 4000000 in
set_option maxRecDepth 100000 in
theorem d_pieceCount {g : GX} {h : AH} {σ : GS} (G : CG h σ) {x : Int32} : Ct g mX7_pieceCount 5 0 0 [.ref 0, .int x] h (fun ρ η => ρ = some (.int (aCc σ.1 x)) ∧ FK h η ∧ CG η σ) := by
  refine Ct_intro (by decide +kernel) (Nat.le_of_ble_eq_true rfl) ?_
  show V g mX7_pieceCount _ h 0 0 [(0, .ref 0), (1, .int x)] 0 []
  obtain ⟨P, K, c⟩ := σ
  obtain ⟨⟨U, X⟩, ⟨tq, H⟩, ⟨st, hst, hac⟩, Z, hl⟩ := id G
  have X : CX h P U := X
  have H : CH h P K c tq := H
  have hac : st = false → AC P h := hac
  have hN := X.2.2.2.2.1
  have hR := X.2.2.1
  have hC := X.1
  refine V_aload_n (j := 0) (q := 1) dX7_pieceCount_0 rfl rfl ?_
  refine V_getP (q := 4) (r := 1) fX7_10 (hC.1 0 _ s_0) rfl (hC.2.1 0 0 _ rfl) dX7_pieceCount_1 rfl ?_
  refine V_iload_n (j := 1) (q := 5) dX7_pieceCount_4 rfl rfl ?_
  have hu := uat_f X x
  have ha8 := akd_le X.2.2 x
  refine V_cpV (q := 8) (S := []) (v := .ref (uat P U x)) kX7_106 (d_at (x := x) X) (hC.1 1 _ s_1) rfl rfl rfl dX7_pieceCount_5 rfl ?_
  refine V_getI (q := 11) fX7_160 hu.1 rfl dX7_pieceCount_8 rfl ?_
  refine V_rw (y := nI (akd P x)) hu.2 ?_
  refine V_iconst (q := 12) (v := nI 3) dX7_pieceCount_11 rfl rfl ?_
  refine V_icmp_eqN (tgt := 17) (q := 15) dX7_pieceCount_12 rfl rfl (by omega) (by omega) (fun c1 => ?_) (fun c1 => ?_)
  · skip
    have hcy := (akd_3 x).mp c1
    obtain ⟨i, hi, hk, rfl⟩ := isCy_of X.2.2 hcy
    have nx := nt_n (n := i) (by omega)
    skip
    refine V_aload_n (j := 0) (q := 18) dX7_pieceCount_17 rfl rfl ?_
    refine V_getP (q := 21) (r := 9) fX7_26 (hC.1 0 _ s_0) rfl (hC.2.1 0 2 _ rfl) dX7_pieceCount_18 rfl ?_
    refine V_aload_n (j := 0) (q := 22) dX7_pieceCount_21 rfl rfl ?_
    refine V_getP (q := 25) (r := 1) fX7_10 (hC.1 0 _ s_0) rfl (hC.2.1 0 0 _ rfl) dX7_pieceCount_22 rfl ?_
    refine V_callV (q := 28) (S := []) kX7_163 (d_refresh X hst hac) (hC.1 9 _ s_9) rfl rfl rfl dX7_pieceCount_25 rfl (fun r2 h3 p4 => ?_)
    obtain ⟨rfl, F1, e9, A1⟩ := p4
    have X1 := F1.cx X
    have hC1 := X1.1
    have G1 : CG h3 (P, K, c) := F1.cg G e9 A1
    refine V_aload_n (j := 0) (q := 29) dX7_pieceCount_28 rfl rfl ?_
    refine V_getP (q := 32) (r := 9) fX7_26 (hC1.1 0 _ s_0) rfl (hC1.2.1 0 2 _ rfl) dX7_pieceCount_29 rfl ?_
    refine V_iload_n (j := 1) (q := 33) dX7_pieceCount_32 rfl rfl ?_
    refine V_cpV (q := 36) (S := []) (v := .int (nI (pcs P i))) kX7_166 (d_countPieces X1 A1 hi hk) (hC1.1 9 _ s_9) rfl rfl rfl dX7_pieceCount_33 rfl ?_
    refine V_iret rfl dX7_pieceCount_36 rfl rfl ?_
    exact ⟨pv (by rw [aCc, if_pos hcy, nx]), F1.fk, G1⟩
  · skip
    refine V_iconst (q := 16) (v := (-1)) dX7_pieceCount_15 rfl rfl ?_
    refine V_iret rfl dX7_pieceCount_16 rfl rfl ?_
    exact ⟨pv (by rw [aCc, if_neg (by rw [akd_n c1]; decide)]), FK.rf h, G⟩

theorem aCl_l {P : PG} {i : Nat} {y : Int32} (hcy : isCy P (nI i) = true) (nx : nt (nI i) = i) : aCl P (nI i) y = if lpc P i y = 0 then -1 else nI (lpc P i y) := by
  unfold aCl lpc
  rw [nx]
  by_cases z : 0 ≤ y.toInt
  · rw [if_pos ⟨hcy, z⟩, if_pos z]
  · rw [if_neg (fun w => z w.2), if_neg z, if_pos rfl]
theorem pth_le {P : PG} {i : Nat} : ∀ (f s y : Nat), s + f = pFd P i 5 → pth P i f s y ≤ pFd P i 5
  | 0, s, y, _ => Nat.zero_le _
  | f + 1, s, y, h => by
    rw [pth_s]
    have h1 := (pln_spec (P := P) (i := i) (k := s) (by omega)).2.1
    have h2 := pth_le (P := P) (i := i) f (s + 1) (y - 1) (by omega)
    have h3 := pth_le (P := P) (i := i) f (s + 1) y (by omega)
    split
    · split
      · omega
      · exact h2
    · exact h3
theorem lpc_le {P : PG} (ok : OkP P) {i : Nat} (hi : i < pNi P) (hk : pFd P i 0 = 3) (y : Int32) : lpc P i y ≤ 16 := by
  obtain ⟨o1, o2, o3, o4, o5, o6, o7⟩ := ok_cp ok hi hk
  have h2 := pth_le (P := P) (i := i) (pFd P i 5) 0 (nt y) (Nat.zero_add _)
  unfold lpc
  split <;> omega
set_option maxHeartbeats 4000000 in
set_option maxRecDepth 100000 in
theorem d_pieceLength {g : GX} {h : AH} {σ : GS} (G : CG h σ) {x y : Int32} : Ct g mX7_pieceLength 5 0 0 [.ref 0, .int x, .int y] h (fun ρ η => ρ = some (.int (aCl σ.1 x y)) ∧ FK h η ∧ CG η σ) := by
  refine Ct_intro (by decide +kernel) (Nat.le_of_ble_eq_true rfl) ?_
  show V g mX7_pieceLength _ h 0 0 [(0, .ref 0), (1, .int x), (2, .int y)] 0 []
  obtain ⟨P, K, c⟩ := σ
  obtain ⟨⟨U, X⟩, ⟨tq, H⟩, ⟨st, hst, hac⟩, Z, hl⟩ := id G
  have X : CX h P U := X
  have H : CH h P K c tq := H
  have hac : st = false → AC P h := hac
  have hN := X.2.2.2.2.1
  have hR := X.2.2.1
  have hC := X.1
  refine V_aload_n (j := 0) (q := 1) dX7_pieceLength_0 rfl rfl ?_
  refine V_getP (q := 4) (r := 1) fX7_10 (hC.1 0 _ s_0) rfl (hC.2.1 0 0 _ rfl) dX7_pieceLength_1 rfl ?_
  refine V_iload_n (j := 1) (q := 5) dX7_pieceLength_4 rfl rfl ?_
  have hu := uat_f X x
  have ha8 := akd_le X.2.2 x
  refine V_cpV (q := 8) (S := []) (v := .ref (uat P U x)) kX7_106 (d_at (x := x) X) (hC.1 1 _ s_1) rfl rfl rfl dX7_pieceLength_5 rfl ?_
  refine V_getI (q := 11) fX7_160 hu.1 rfl dX7_pieceLength_8 rfl ?_
  refine V_rw (y := nI (akd P x)) hu.2 ?_
  refine V_iconst (q := 12) (v := nI 3) dX7_pieceLength_11 rfl rfl ?_
  refine V_icmp_eqN (tgt := 17) (q := 15) dX7_pieceLength_12 rfl rfl (by omega) (by omega) (fun c1 => ?_) (fun c1 => ?_)
  · skip
    have hcy := (akd_3 x).mp c1
    obtain ⟨i, hi, hk, rfl⟩ := isCy_of X.2.2 hcy
    have nx := nt_n (n := i) (by omega)
    have hlp := lpc_le X.2.2 hi hk y
    refine V_aload_n (j := 0) (q := 18) dX7_pieceLength_17 rfl rfl ?_
    refine V_getP (q := 21) (r := 9) fX7_26 (hC.1 0 _ s_0) rfl (hC.2.1 0 2 _ rfl) dX7_pieceLength_18 rfl ?_
    refine V_aload_n (j := 0) (q := 22) dX7_pieceLength_21 rfl rfl ?_
    refine V_getP (q := 25) (r := 1) fX7_10 (hC.1 0 _ s_0) rfl (hC.2.1 0 0 _ rfl) dX7_pieceLength_22 rfl ?_
    refine V_callV (q := 28) (S := []) kX7_163 (d_refresh X hst hac) (hC.1 9 _ s_9) rfl rfl rfl dX7_pieceLength_25 rfl (fun r2 h3 p4 => ?_)
    obtain ⟨rfl, F1, e9, A1⟩ := p4
    have X1 := F1.cx X
    have hC1 := X1.1
    have G1 : CG h3 (P, K, c) := F1.cg G e9 A1
    refine V_aload_n (j := 0) (q := 29) dX7_pieceLength_28 rfl rfl ?_
    refine V_getP (q := 32) (r := 9) fX7_26 (hC1.1 0 _ s_0) rfl (hC1.2.1 0 2 _ rfl) dX7_pieceLength_29 rfl ?_
    refine V_iload_n (j := 1) (q := 33) dX7_pieceLength_32 rfl rfl ?_
    refine V_iload_n (j := 2) (q := 34) dX7_pieceLength_33 rfl rfl ?_
    refine V_cpV (q := 37) (S := []) (v := .int (nI (lpc P i y))) kX7_169 (d_lengthOfPiece (y := y) X1 A1 hi hk) (hC1.1 9 _ s_9) rfl rfl rfl dX7_pieceLength_34 rfl ?_
    refine V_istore_n (q := 38) (L' := [(3, .int (nI (lpc P i y))), (0, .ref 0), (1, .int (nI i)), (2, .int y)]) dX7_pieceLength_37 rfl rfl rfl ?_
    refine V_iload_n (j := 0) (q := 39) dX7_pieceLength_38 rfl rfl ?_
    refine V_if_neN (tgt := 46) (q := 42) dX7_pieceLength_39 rfl rfl (by omega) (fun c5 => ?_) (fun c5 => ?_)
    · skip
      refine V_iload_n (j := 0) (q := 47) dX7_pieceLength_46 rfl rfl ?_
      refine V_iret rfl dX7_pieceLength_47 rfl rfl ?_
      exact ⟨pv (by rw [aCl_l hcy nx, if_neg (Nat.ne_of_gt c5)]), F1.fk, G1⟩
    · skip
      refine V_iconst (q := 43) (v := (-1)) dX7_pieceLength_42 rfl rfl ?_
      refine V_goto (q := 47) dX7_pieceLength_43 rfl ?_
      refine V_iret rfl dX7_pieceLength_47 rfl rfl ?_
      exact ⟨pv (by rw [aCl_l hcy nx, if_pos c5]), F1.fk, G1⟩
  · skip
    refine V_iconst (q := 16) (v := (-1)) dX7_pieceLength_15 rfl rfl ?_
    refine V_iret rfl dX7_pieceLength_16 rfl rfl ?_
    exact ⟨pv (by rw [aCl, if_neg (fun z => by rw [akd_n c1] at z; cases z.1)]), FK.rf h, G⟩

set_option maxHeartbeats 4000000 in
set_option maxRecDepth 100000 in
theorem lq_scalarCount {g : GX} {h : AH} {σ : GS} (G : CG h σ) : ∀ (t : Nat) (r : Nat) (s : Nat) (e : AH), (r ≤ pNr σ.1) → (CG e σ) → (FK h e) → (s = smN r (fun r => cnN (npt σ.1 r) fun p => liv σ.1 (16 * r + p) && prm σ.1 (16 * r + p))) → pNr σ.1 - r < t → V g mX7_scalarCount (thM g 6 0 0 (fun ρ η => ρ = some (.int (aSc σ.1)) ∧ FK h η ∧ CG η σ)) e 0 0 [(0, .ref 0), (1, .int (nI s)), (2, .int (nI r))] 4 [] := by
  intro t
  induction t with
  | zero =>
    intro r s e hr Ge Fe hs hfu
    exact absurd hfu (Nat.not_lt_zero _)
  | succ t ih =>
    intro r s e hr Ge Fe hs hfu
    obtain ⟨P, K, c⟩ := σ
    obtain ⟨⟨U, X⟩, ⟨tq, H⟩, ⟨st, hst, hac⟩, Z, hl⟩ := id Ge
    have X : CX e P U := X
    have hac : st = false → AC P e := hac
    have hN := X.2.2.2.2.1
    have hR := X.2.2.1
    have hC := X.1
    have hr : r ≤ pNr P := hr
    refine V_iload_n (j := 2) (q := 5) dX7_scalarCount_4 rfl rfl ?_
    refine V_aload_n (j := 0) (q := 6) dX7_scalarCount_5 rfl rfl ?_
    refine V_getP (q := 9) (r := 1) fX7_10 (hC.1 0 _ s_0) rfl (hC.2.1 0 0 _ rfl) dX7_scalarCount_6 rfl ?_
    refine V_getI (q := 12) fX7_39 (hC.1 1 _ s_1) rfl dX7_scalarCount_9 rfl ?_
    refine V_rw (y := nI (pNr P)) X.2.1.1 ?_
    refine V_icmp_geN (tgt := 32) (q := 15) dX7_scalarCount_12 rfl rfl (by omega) (by omega) (fun c1 => ?_) (fun c1 => ?_)
    · skip
      refine V_iload_n (j := 1) (q := 33) dX7_scalarCount_32 rfl rfl ?_
      refine V_iret rfl dX7_scalarCount_33 rfl rfl ?_
      exact ⟨pv (by rw [hs, show r = pNr P by omega]; rfl), Fe, Ge⟩
    · skip
      refine V_iload_n (j := 1) (q := 16) dX7_scalarCount_15 rfl rfl ?_
      refine V_aload_n (j := 0) (q := 17) dX7_scalarCount_16 rfl rfl ?_
      refine V_iload_n (j := 2) (q := 18) dX7_scalarCount_17 rfl rfl ?_
      have hr : r < pNr P := by omega
      refine V_callV (q := 21) (S := [.int (nI s)]) kX7_122 (by have := d_layoutNow (g := g) (x := nI r) X hst hac; rw [lay_n (by omega)] at this; exact this) (hC.1 0 _ s_0) rfl rfl rfl dX7_scalarCount_18 rfl (fun r2 h3 p4 => ?_)
      obtain ⟨rfl, F1, e9, A1⟩ := p4
      have X1 := F1.cx X
      have hC1 := X1.1
      have G1 : CG h3 (P, K, c) := F1.cg Ge e9 A1
      refine V_cpV (q := 24) (S := [.int (nI s)]) (v := .int (nI (cnN (npt P r) (fun p => liv P (16 * r + p) && prm P (16 * r + p))))) kX7_173 (d_countScalars X1 A1 hr) ((hC1.2.2.2.2.2.2 r (by omega)).1 0 _ rfl) rfl rfl rfl dX7_scalarCount_21 rfl ?_
      refine V_iaddN (q := 25) dX7_scalarCount_24 rfl ?_
      refine V_istore_n (q := 26) (L' := [(1, .int (nI (s + (cnN (npt P r) (fun p => liv P (16 * r + p) && prm P (16 * r + p)))))), (0, .ref 0), (2, .int (nI r))]) dX7_scalarCount_25 rfl rfl rfl ?_
      refine V_iincN (j := 2) (q := 29) (L' := [(2, .int (nI (r + 1))), (1, .int (nI (s + (cnN (npt P r) (fun p => liv P (16 * r + p) && prm P (16 * r + p)))))), (0, .ref 0)]) dX7_scalarCount_26 rfl rfl rfl rfl ?_
      refine V_goto (q := 4) dX7_scalarCount_29 rfl ?_
      refine V_sub (L' := [(0, .ref 0), (1, .int (nI (s + (cnN (npt P r) (fun p => liv P (16 * r + p) && prm P (16 * r + p)))))), (2, .int (nI (r + 1)))]) [2, 1, 0] rfl ?_
      refine ih (r + 1) (s + (cnN (npt P r) (fun p => liv P (16 * r + p) && prm P (16 * r + p)))) h3 ?_ ?_ ?_ ?_ ?_
      · exact hr
      · exact G1
      · exact Fe.tr F1.fk
      · rw [smN_s, ← hs]
      · show pNr P - (r + 1) < t; have hfu : pNr P - r < t + 1 := hfu; omega

set_option maxHeartbeats 4000000 in
set_option maxRecDepth 100000 in
theorem d_scalarCount {g : GX} {h : AH} {σ : GS} (G : CG h σ) : Ct g mX7_scalarCount 6 0 0 [.ref 0] h (fun ρ η => ρ = some (.int (aSc σ.1)) ∧ FK h η ∧ CG η σ) := by
  refine Ct_intro (by decide +kernel) (Nat.le_of_ble_eq_true rfl) ?_
  show V g mX7_scalarCount _ h 0 0 [(0, .ref 0)] 0 []
  refine V_iconst (q := 1) (v := nI 0) dX7_scalarCount_0 rfl rfl ?_
  refine V_istore_n (q := 2) (L' := [(1, .int (nI 0)), (0, .ref 0)]) dX7_scalarCount_1 rfl rfl rfl ?_
  refine V_iconst (q := 3) (v := nI 0) dX7_scalarCount_2 rfl rfl ?_
  refine V_istore_n (q := 4) (L' := [(2, .int (nI 0)), (1, .int (nI 0)), (0, .ref 0)]) dX7_scalarCount_3 rfl rfl rfl ?_
  refine V_sub (L' := [(0, .ref 0), (1, .int (nI 0)), (2, .int (nI 0))]) [2, 1, 0] rfl ?_
  refine lq_scalarCount G (pNr σ.1 - 0 + 1) 0 0 h ?_ ?_ ?_ ?_ ?_
  · exact Nat.zero_le _
  · exact G
  · exact FK.rf h
  · rfl
  · exact Nat.lt_succ_self _

set_option maxHeartbeats 4000000 in
set_option maxRecDepth 100000 in
theorem lq_liveBytes {g : GX} {h : AH} {σ : GS} (G : CG h σ) : ∀ (t : Nat) (r : Nat) (s : Nat) (e : AH), (r ≤ pNr σ.1) → (CG e σ) → (FK h e) → (s = smN r (fun r => smN (npt σ.1 r) fun p => if liv σ.1 (16 * r + p) = true then lnp σ.1 r p else 0)) → pNr σ.1 - r < t → V g mX7_liveBytes (thM g 6 0 0 (fun ρ η => ρ = some (.int (aLb σ.1)) ∧ FK h η ∧ CG η σ)) e 0 0 [(0, .ref 0), (1, .int (nI s)), (2, .int (nI r))] 4 [] := by
  intro t
  induction t with
  | zero =>
    intro r s e hr Ge Fe hs hfu
    exact absurd hfu (Nat.not_lt_zero _)
  | succ t ih =>
    intro r s e hr Ge Fe hs hfu
    obtain ⟨P, K, c⟩ := σ
    obtain ⟨⟨U, X⟩, ⟨tq, H⟩, ⟨st, hst, hac⟩, Z, hl⟩ := id Ge
    have X : CX e P U := X
    have hac : st = false → AC P e := hac
    have hN := X.2.2.2.2.1
    have hR := X.2.2.1
    have hC := X.1
    have hr : r ≤ pNr P := hr
    refine V_iload_n (j := 2) (q := 5) dX7_liveBytes_4 rfl rfl ?_
    refine V_aload_n (j := 0) (q := 6) dX7_liveBytes_5 rfl rfl ?_
    refine V_getP (q := 9) (r := 1) fX7_10 (hC.1 0 _ s_0) rfl (hC.2.1 0 0 _ rfl) dX7_liveBytes_6 rfl ?_
    refine V_getI (q := 12) fX7_39 (hC.1 1 _ s_1) rfl dX7_liveBytes_9 rfl ?_
    refine V_rw (y := nI (pNr P)) X.2.1.1 ?_
    refine V_icmp_geN (tgt := 32) (q := 15) dX7_liveBytes_12 rfl rfl (by omega) (by omega) (fun c1 => ?_) (fun c1 => ?_)
    · skip
      refine V_iload_n (j := 1) (q := 33) dX7_liveBytes_32 rfl rfl ?_
      refine V_iret rfl dX7_liveBytes_33 rfl rfl ?_
      exact ⟨pv (by rw [hs, show r = pNr P by omega]; rfl), Fe, Ge⟩
    · skip
      refine V_iload_n (j := 1) (q := 16) dX7_liveBytes_15 rfl rfl ?_
      refine V_aload_n (j := 0) (q := 17) dX7_liveBytes_16 rfl rfl ?_
      refine V_iload_n (j := 2) (q := 18) dX7_liveBytes_17 rfl rfl ?_
      have hr : r < pNr P := by omega
      refine V_callV (q := 21) (S := [.int (nI s)]) kX7_122 (by have := d_layoutNow (g := g) (x := nI r) X hst hac; rw [lay_n (by omega)] at this; exact this) (hC.1 0 _ s_0) rfl rfl rfl dX7_liveBytes_18 rfl (fun r2 h3 p4 => ?_)
      obtain ⟨rfl, F1, e9, A1⟩ := p4
      have X1 := F1.cx X
      have hC1 := X1.1
      have G1 : CG h3 (P, K, c) := F1.cg Ge e9 A1
      refine V_cpV (q := 24) (S := [.int (nI s)]) (v := .int (nI (smN (npt P r) (fun p => if liv P (16 * r + p) = true then lnp P r p else 0)))) kX7_176 (d_countLiveBytes X1 A1 hr) ((hC1.2.2.2.2.2.2 r (by omega)).1 0 _ rfl) rfl rfl rfl dX7_liveBytes_21 rfl ?_
      refine V_iaddN (q := 25) dX7_liveBytes_24 rfl ?_
      refine V_istore_n (q := 26) (L' := [(1, .int (nI (s + (smN (npt P r) (fun p => if liv P (16 * r + p) = true then lnp P r p else 0))))), (0, .ref 0), (2, .int (nI r))]) dX7_liveBytes_25 rfl rfl rfl ?_
      refine V_iincN (j := 2) (q := 29) (L' := [(2, .int (nI (r + 1))), (1, .int (nI (s + (smN (npt P r) (fun p => if liv P (16 * r + p) = true then lnp P r p else 0))))), (0, .ref 0)]) dX7_liveBytes_26 rfl rfl rfl rfl ?_
      refine V_goto (q := 4) dX7_liveBytes_29 rfl ?_
      refine V_sub (L' := [(0, .ref 0), (1, .int (nI (s + (smN (npt P r) (fun p => if liv P (16 * r + p) = true then lnp P r p else 0))))), (2, .int (nI (r + 1)))]) [2, 1, 0] rfl ?_
      refine ih (r + 1) (s + (smN (npt P r) (fun p => if liv P (16 * r + p) = true then lnp P r p else 0))) h3 ?_ ?_ ?_ ?_ ?_
      · exact hr
      · exact G1
      · exact Fe.tr F1.fk
      · rw [smN_s, ← hs]
      · show pNr P - (r + 1) < t; have hfu : pNr P - r < t + 1 := hfu; omega

set_option maxHeartbeats 4000000 in
set_option maxRecDepth 100000 in
theorem d_liveBytes {g : GX} {h : AH} {σ : GS} (G : CG h σ) : Ct g mX7_liveBytes 6 0 0 [.ref 0] h (fun ρ η => ρ = some (.int (aLb σ.1)) ∧ FK h η ∧ CG η σ) := by
  refine Ct_intro (by decide +kernel) (Nat.le_of_ble_eq_true rfl) ?_
  show V g mX7_liveBytes _ h 0 0 [(0, .ref 0)] 0 []
  refine V_iconst (q := 1) (v := nI 0) dX7_liveBytes_0 rfl rfl ?_
  refine V_istore_n (q := 2) (L' := [(1, .int (nI 0)), (0, .ref 0)]) dX7_liveBytes_1 rfl rfl rfl ?_
  refine V_iconst (q := 3) (v := nI 0) dX7_liveBytes_2 rfl rfl ?_
  refine V_istore_n (q := 4) (L' := [(2, .int (nI 0)), (1, .int (nI 0)), (0, .ref 0)]) dX7_liveBytes_3 rfl rfl rfl ?_
  refine V_sub (L' := [(0, .ref 0), (1, .int (nI 0)), (2, .int (nI 0))]) [2, 1, 0] rfl ?_
  refine lq_liveBytes G (pNr σ.1 - 0 + 1) 0 0 h ?_ ?_ ?_ ?_ ?_
  · exact Nat.zero_le _
  · exact G
  · exact FK.rf h
  · rfl
  · exact Nat.lt_succ_self _

set_option maxHeartbeats 4000000 in
set_option maxRecDepth 100000 in
theorem d_trapPosition {g : GX} {h : AH} {σ : GS} (G : CG h σ) : Ct g mX7_trapPosition 6 0 0 [.ref 0] h (fun ρ η => ρ = some (.int (aTp σ.1 )) ∧ FK h η ∧ CG η σ) := by
  refine Ct_intro (by decide +kernel) (Nat.le_of_ble_eq_true rfl) ?_
  show V g mX7_trapPosition _ h 0 0 [(0, .ref 0)] 0 []
  obtain ⟨P, K, c⟩ := σ
  obtain ⟨⟨U, X⟩, ⟨tq, H⟩, ⟨st, hst, hac⟩, Z, hl⟩ := id G
  have X : CX h P U := X
  have H : CH h P K c tq := H
  have hac : st = false → AC P h := hac
  have hN := X.2.2.2.2.1
  have hR := X.2.2.1
  have hC := X.1
  refine V_aload_n (j := 0) (q := 1) dX7_trapPosition_0 rfl rfl ?_
  refine V_iconst (q := 2) (v := nI 0) dX7_trapPosition_1 rfl rfl ?_
  refine V_callV (q := 5) (S := []) kX7_179 (d_runOf (x := nI 0) G) (hC.1 0 _ s_0) rfl rfl rfl dX7_trapPosition_2 rfl (fun r1 h2 p3 => ?_)
  obtain ⟨rfl, F1, G1, ⟨rs, R1⟩, n1⟩ := p3
  have hC1 : CS h2.1 (hP h2) := by obtain ⟨U1, X1⟩ := G1.1; exact X1.1
  refine V_getI (q := 8) fX7_183 (hC1.1 151 _ s_151) rfl dX7_trapPosition_5 rfl ?_
  refine V_rw (y := sT (run P (tof (nI 0)))) R1.2.2.2.2.2.2.1 ?_
  refine V_iret rfl dX7_trapPosition_8 rfl rfl ?_
  exact ⟨pv rfl, F1, G1⟩

set_option maxHeartbeats 4000000 in
set_option maxRecDepth 100000 in
theorem d_outputCount {g : GX} {h : AH} {σ : GS} (G : CG h σ) {x : Int32} : Ct g mX7_outputCount 6 0 0 [.ref 0, .int x] h (fun ρ η => ρ = some (.int (aOc σ.1 x)) ∧ FK h η ∧ CG η σ) := by
  refine Ct_intro (by decide +kernel) (Nat.le_of_ble_eq_true rfl) ?_
  show V g mX7_outputCount _ h 0 0 [(0, .ref 0), (1, .int x)] 0 []
  obtain ⟨P, K, c⟩ := σ
  obtain ⟨⟨U, X⟩, ⟨tq, H⟩, ⟨st, hst, hac⟩, Z, hl⟩ := id G
  have X : CX h P U := X
  have H : CH h P K c tq := H
  have hac : st = false → AC P h := hac
  have hN := X.2.2.2.2.1
  have hR := X.2.2.1
  have hC := X.1
  refine V_iload_n (j := 1) (q := 1) dX7_outputCount_0 rfl rfl ?_
  refine V_cpS (q := 4) (S := []) (v := .int (bi (isT x))) kX7_186 d_isForm rfl rfl rfl dX7_outputCount_1 rfl ?_
  refine V_if_eqB (tgt := 18) (q := 7) dX7_outputCount_4 rfl rfl (fun c1 => ?_) (fun c1 => ?_)
  · skip
    refine V_iconst (q := 19) (v := (-1)) dX7_outputCount_18 rfl rfl ?_
    refine V_iret rfl dX7_outputCount_19 rfl rfl ?_
    exact ⟨pv (by rw [aOc, if_neg (by rw [c1]; decide)]), FK.rf h, G⟩
  · skip
    refine V_aload_n (j := 0) (q := 8) dX7_outputCount_7 rfl rfl ?_
    refine V_iload_n (j := 1) (q := 9) dX7_outputCount_8 rfl rfl ?_
    refine V_callV (q := 12) (S := []) kX7_179 (d_runOf (x := x) G) (hC.1 0 _ s_0) rfl rfl rfl dX7_outputCount_9 rfl (fun r2 h3 p4 => ?_)
    obtain ⟨rfl, F1, G1, ⟨rs, R1⟩, n1⟩ := p4
    have hC1 : CS h3.1 (hP h3) := by obtain ⟨U1, X1⟩ := G1.1; exact X1.1
    refine V_getI (q := 15) fX7_189 (hC1.1 151 _ s_151) rfl dX7_outputCount_12 rfl ?_
    refine V_rw (y := nI (sN (run P (tof x)))) R1.2.2.2.1 ?_
    refine V_goto (q := 19) dX7_outputCount_15 rfl ?_
    refine V_iret rfl dX7_outputCount_19 rfl rfl ?_
    exact ⟨pv (by rw [aOc, if_pos c1]), F1, G1⟩

set_option maxHeartbeats 4000000 in
set_option maxRecDepth 100000 in
theorem d_outputAt {g : GX} {h : AH} {σ : GS} (G : CG h σ) {x y : Int32} : Ct g mX7_outputAt 6 0 0 [.ref 0, .int x, .int y] h (fun ρ η => ρ = some (.int (aOa σ.1 x y)) ∧ FK h η ∧ CG η σ) := by
  refine Ct_intro (by decide +kernel) (Nat.le_of_ble_eq_true rfl) ?_
  show V g mX7_outputAt _ h 0 0 [(0, .ref 0), (1, .int x), (2, .int y)] 0 []
  obtain ⟨P, K, c⟩ := σ
  obtain ⟨⟨U, X⟩, ⟨tq, H⟩, ⟨st, hst, hac⟩, Z, hl⟩ := id G
  have X : CX h P U := X
  have H : CH h P K c tq := H
  have hac : st = false → AC P h := hac
  have hN := X.2.2.2.2.1
  have hR := X.2.2.1
  have hC := X.1
  refine V_iload_n (j := 1) (q := 1) dX7_outputAt_0 rfl rfl ?_
  refine V_cpS (q := 4) (S := []) (v := .int (bi (isT x))) kX7_186 d_isForm rfl rfl rfl dX7_outputAt_1 rfl ?_
  refine V_if_eqB (tgt := 19) (q := 7) dX7_outputAt_4 rfl rfl (fun c1 => ?_) (fun c1 => ?_)
  · skip
    refine V_iconst (q := 20) (v := nI 0) dX7_outputAt_19 rfl rfl ?_
    refine V_iret rfl dX7_outputAt_20 rfl rfl ?_
    exact ⟨pv (by rw [aOa, if_neg (by rw [c1]; decide)]; rfl), FK.rf h, G⟩
  · skip
    refine V_aload_n (j := 0) (q := 8) dX7_outputAt_7 rfl rfl ?_
    refine V_iload_n (j := 1) (q := 9) dX7_outputAt_8 rfl rfl ?_
    refine V_callV (q := 12) (S := []) kX7_179 (d_runOf (x := x) G) (hC.1 0 _ s_0) rfl rfl rfl dX7_outputAt_9 rfl (fun r2 h3 p4 => ?_)
    obtain ⟨rfl, F1, G1, ⟨rs, R1⟩, n1⟩ := p4
    have hC1 : CS h3.1 (hP h3) := by obtain ⟨U1, X1⟩ := G1.1; exact X1.1
    refine V_iload_n (j := 2) (q := 13) dX7_outputAt_12 rfl rfl ?_
    refine V_cpV (q := 16) (S := []) (v := .int (if 0 ≤ y.toInt ∧ y.toInt < sN (run P (tof x)) then sO (run P (tof x)) (nt y) else 0)) kX7_192 (d_outputOf (x := y) hC1 R1.2.2.2.1 n1 R1.2.2.1) (hC1.1 151 _ s_151) rfl rfl rfl dX7_outputAt_13 rfl ?_
    refine V_goto (q := 20) dX7_outputAt_16 rfl ?_
    refine V_iret rfl dX7_outputAt_20 rfl rfl ?_
    exact ⟨pv (by rw [aOa, if_pos c1]), F1, G1⟩

set_option maxHeartbeats 4000000 in
set_option maxRecDepth 100000 in
theorem d_checksum {g : GX} {h : AH} {σ : GS} (G : CG h σ) {x : Int32} : Ct g mX7_checksum 6 0 0 [.ref 0, .int x] h (fun ρ η => ρ = some (.int (aCk σ.1 x)) ∧ FK h η ∧ CG η σ) := by
  refine Ct_intro (by decide +kernel) (Nat.le_of_ble_eq_true rfl) ?_
  show V g mX7_checksum _ h 0 0 [(0, .ref 0), (1, .int x)] 0 []
  obtain ⟨P, K, c⟩ := σ
  obtain ⟨⟨U, X⟩, ⟨tq, H⟩, ⟨st, hst, hac⟩, Z, hl⟩ := id G
  have X : CX h P U := X
  have H : CH h P K c tq := H
  have hac : st = false → AC P h := hac
  have hN := X.2.2.2.2.1
  have hR := X.2.2.1
  have hC := X.1
  refine V_iload_n (j := 1) (q := 1) dX7_checksum_0 rfl rfl ?_
  refine V_cpS (q := 4) (S := []) (v := .int (bi (isT x))) kX7_186 d_isForm rfl rfl rfl dX7_checksum_1 rfl ?_
  refine V_if_eqB (tgt := 18) (q := 7) dX7_checksum_4 rfl rfl (fun c1 => ?_) (fun c1 => ?_)
  · skip
    refine V_iconst (q := 19) (v := nI 0) dX7_checksum_18 rfl rfl ?_
    refine V_iret rfl dX7_checksum_19 rfl rfl ?_
    exact ⟨pv (by rw [aCk, if_neg (by rw [c1]; decide)]; rfl), FK.rf h, G⟩
  · skip
    refine V_aload_n (j := 0) (q := 8) dX7_checksum_7 rfl rfl ?_
    refine V_iload_n (j := 1) (q := 9) dX7_checksum_8 rfl rfl ?_
    refine V_callV (q := 12) (S := []) kX7_179 (d_runOf (x := x) G) (hC.1 0 _ s_0) rfl rfl rfl dX7_checksum_9 rfl (fun r2 h3 p4 => ?_)
    obtain ⟨rfl, F1, G1, ⟨rs, R1⟩, n1⟩ := p4
    have hC1 : CS h3.1 (hP h3) := by obtain ⟨U1, X1⟩ := G1.1; exact X1.1
    refine V_getI (q := 15) fX7_195 (hC1.1 151 _ s_151) rfl dX7_checksum_12 rfl ?_
    refine V_rw (y := sS (run P (tof x))) R1.2.2.2.2.1 ?_
    refine V_goto (q := 19) dX7_checksum_15 rfl ?_
    refine V_iret rfl dX7_checksum_19 rfl rfl ?_
    exact ⟨pv (by rw [aCk, if_pos c1]), F1, G1⟩

set_option maxHeartbeats 4000000 in
set_option maxRecDepth 100000 in
theorem d_cost {g : GX} {h : AH} {σ : GS} (G : CG h σ) {x : Int32} : Ct g mX7_cost 6 0 0 [.ref 0, .int x] h (fun ρ η => ρ = some (.int (aCs σ.1 x)) ∧ FK h η ∧ CG η σ) := by
  refine Ct_intro (by decide +kernel) (Nat.le_of_ble_eq_true rfl) ?_
  show V g mX7_cost _ h 0 0 [(0, .ref 0), (1, .int x)] 0 []
  obtain ⟨P, K, c⟩ := σ
  obtain ⟨⟨U, X⟩, ⟨tq, H⟩, ⟨st, hst, hac⟩, Z, hl⟩ := id G
  have X : CX h P U := X
  have H : CH h P K c tq := H
  have hac : st = false → AC P h := hac
  have hN := X.2.2.2.2.1
  have hR := X.2.2.1
  have hC := X.1
  refine V_iload_n (j := 1) (q := 1) dX7_cost_0 rfl rfl ?_
  refine V_cpS (q := 4) (S := []) (v := .int (bi (isT x))) kX7_186 d_isForm rfl rfl rfl dX7_cost_1 rfl ?_
  refine V_if_eqB (tgt := 18) (q := 7) dX7_cost_4 rfl rfl (fun c1 => ?_) (fun c1 => ?_)
  · skip
    refine V_iconst (q := 19) (v := (-1)) dX7_cost_18 rfl rfl ?_
    refine V_iret rfl dX7_cost_19 rfl rfl ?_
    exact ⟨pv (by rw [aCs, if_neg (by rw [c1]; decide)]), FK.rf h, G⟩
  · skip
    refine V_aload_n (j := 0) (q := 8) dX7_cost_7 rfl rfl ?_
    refine V_iload_n (j := 1) (q := 9) dX7_cost_8 rfl rfl ?_
    refine V_callV (q := 12) (S := []) kX7_179 (d_runOf (x := x) G) (hC.1 0 _ s_0) rfl rfl rfl dX7_cost_9 rfl (fun r2 h3 p4 => ?_)
    obtain ⟨rfl, F1, G1, ⟨rs, R1⟩, n1⟩ := p4
    have hC1 : CS h3.1 (hP h3) := by obtain ⟨U1, X1⟩ := G1.1; exact X1.1
    refine V_getI (q := 15) fX7_198 (hC1.1 151 _ s_151) rfl dX7_cost_12 rfl ?_
    refine V_rw (y := sC (run P (tof x))) R1.2.2.2.2.2.1 ?_
    refine V_goto (q := 19) dX7_cost_15 rfl ?_
    refine V_iret rfl dX7_cost_19 rfl rfl ?_
    exact ⟨pv (by rw [aCs, if_pos c1]), F1, G1⟩


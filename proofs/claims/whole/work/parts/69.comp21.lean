set_option maxHeartbeats 4000000 in
set_option maxRecDepth 100000 in
theorem d_isAccess {g : GX} {h : AH} {P : PG} {U : Nat → Nat} (X : CX h P U) {x y z : Int32} : Ct g mX7_isAccess 3 0 0 [.ref 0, .int x, .int y, .int z] h (fun ρ η => ρ = some (.int (bi (isW z && rngB P x y z))) ∧ η = h) := by
  refine Ct_intro (by decide +kernel) (Nat.le_of_ble_eq_true rfl) ?_
  show V g mX7_isAccess _ h 0 0 [(0, .ref 0), (1, .int x), (2, .int y), (3, .int z)] 0 []
  refine V_iload_n (j := 3) (q := 1) dX7_isAccess_0 rfl rfl ?_
  refine V_cpS (q := 4) (S := []) (v := .int (bi (isW z))) kX7_205 d_isScalarLength rfl rfl rfl dX7_isAccess_1 rfl ?_
  refine V_if_eqB (tgt := 24) (q := 7) dX7_isAccess_4 rfl rfl (fun c1 => ?_) (fun c1 => ?_)
  · skip
    refine V_iconst (q := 25) (v := nI 0) dX7_isAccess_24 rfl rfl ?_
    refine V_rw (y := bi false) rfl ?_
    refine V_zret (b := false) rfl dX7_isAccess_25 rfl rfl ?_
    exact ⟨pvb (by simp [c1]), rfl⟩
  · skip
    refine V_aload_n (j := 0) (q := 8) dX7_isAccess_7 rfl rfl ?_
    refine V_getP (q := 11) (r := 1) fX7_10 (X.1.1 0 _ s_0) rfl (X.1.2.1 0 0 _ rfl) dX7_isAccess_8 rfl ?_
    refine V_iload_n (j := 1) (q := 12) dX7_isAccess_11 rfl rfl ?_
    refine V_iload_n (j := 2) (q := 13) dX7_isAccess_12 rfl rfl ?_
    refine V_iload_n (j := 3) (q := 14) dX7_isAccess_13 rfl rfl ?_
    refine V_cpV (q := 17) (S := []) (v := .int (bi (rngB P x y z))) kX7_77 (d_holdsRange (x := x) (y := y) (z := z) X) (X.1.1 1 _ s_1) rfl rfl rfl dX7_isAccess_14 rfl ?_
    refine V_if_eqB (tgt := 24) (q := 20) dX7_isAccess_17 rfl rfl (fun c2 => ?_) (fun c2 => ?_)
    · skip
      refine V_iconst (q := 25) (v := nI 0) dX7_isAccess_24 rfl rfl ?_
      refine V_rw (y := bi false) rfl ?_
      refine V_zret (b := false) rfl dX7_isAccess_25 rfl rfl ?_
      exact ⟨pvb (by simp [c1, c2]), rfl⟩
    · skip
      refine V_iconst (q := 21) (v := nI 1) dX7_isAccess_20 rfl rfl ?_
      refine V_goto (q := 25) dX7_isAccess_21 rfl ?_
      refine V_rw (y := bi true) rfl ?_
      refine V_zret (b := true) rfl dX7_isAccess_25 rfl rfl ?_
      exact ⟨pvb (by simp [c1, c2]), rfl⟩

set_option maxHeartbeats 4000000 in
set_option maxRecDepth 100000 in
theorem d_append {g : GX} {h : AH} {σ : GS} (G : CG h σ) {u : Nat} {f : Nat → Nat} (N : IN h u f) (hf : OkF σ.1 f) : Ct g mX7_append 2 0 0 [.ref 0, .ref u] h (fun ρ η => ρ = some (.int (apR σ true f).1) ∧ FK h η ∧ CG η (apR σ true f).2) := by
  refine Ct_intro (by decide +kernel) (Nat.le_of_ble_eq_true rfl) ?_
  show V g mX7_append _ h 0 0 [(0, .ref 0), (1, .ref u)] 0 []
  obtain ⟨P, K, c⟩ := σ
  obtain ⟨⟨U, X⟩, ⟨tq, H⟩, ⟨st, hst, hac⟩, Z, hl⟩ := id G
  have X : CX h P U := X
  have H : CH h P K c tq := H
  have hac : st = false → AC P h := hac
  have hN := X.2.2.2.2.1
  have hR := X.2.2.1
  have hC := X.1
  refine V_aload_n (j := 0) (q := 1) dX7_append_0 rfl rfl ?_
  refine V_getP (q := 4) (r := 1) fX7_10 (hC.1 0 _ s_0) rfl (hC.2.1 0 0 _ rfl) dX7_append_1 rfl ?_
  refine V_getI (q := 7) fX7_112 (hC.1 1 _ s_1) rfl dX7_append_4 rfl ?_
  refine V_rw (y := nI (pNi P)) X.2.1.2.1 ?_
  refine V_istore_n (q := 8) (L' := [(2, .int (nI (pNi P))), (0, .ref 0), (1, .ref u)]) dX7_append_7 rfl rfl rfl ?_
  refine V_iload_n (j := 0) (q := 9) dX7_append_8 rfl rfl ?_
  refine V_bipush (q := 11) (v := nI 24) dX7_append_9 rfl (by decide) ?_
  refine V_icmp_ltN (tgt := 17) (q := 14) dX7_append_11 rfl rfl (by omega) (by omega) (fun c1 => ?_) (fun c1 => ?_)
  · skip
    refine V_aload_n (j := 1) (q := 18) dX7_append_17 rfl rfl ?_
    refine V_getP (q := 21) (r := 1) fX7_10 (hC.1 0 _ s_0) rfl (hC.2.1 0 0 _ rfl) dX7_append_18 rfl ?_
    refine V_iload_n (j := 0) (q := 22) dX7_append_21 rfl rfl ?_
    refine V_aload_n (j := 2) (q := 23) dX7_append_22 rfl rfl ?_
    refine V_callV (q := 26) (S := []) kX7_201 (d_insert (x := pNi P) (u := u) X (Nat.le_refl _) (by omega) N) (hC.1 1 _ s_1) rfl rfl rfl dX7_append_23 rfl (fun r2 h3 p4 => ?_)
    obtain ⟨rfl, FI⟩ := p4
    have hC1 := FI.cs hC
    have HI : CH h3 P K c tq := CH_of H (FI.2.1 5 (by decide)) (FI.2.1 6 (by decide)) (FI.2.1 7 (by decide)) (FI.2.2.2.2.2.1 8 (by decide)) FI.in
    refine V_aload_n (j := 1) (q := 27) dX7_append_26 rfl rfl ?_
    refine V_getP (q := 30) (r := 5) fX7_19 (hC1.1 0 _ s_0) rfl (hC1.2.1 0 1 _ rfl) dX7_append_27 rfl ?_
    refine V_iconst (q := 31) (v := nI 2) dX7_append_30 rfl rfl ?_
    refine V_iload_n (j := 0) (q := 32) dX7_append_31 rfl rfl ?_
    refine V_aload_n (j := 2) (q := 33) dX7_append_32 rfl rfl ?_
    refine V_callV (q := 36) (S := []) kX7_51 (d_note hC1 (f := f) HI (FI.in _ _ N).2.1) (hC1.1 5 _ s_5) rfl rfl rfl dX7_append_33 rfl (fun r5 h6 p7 => ?_)
    obtain ⟨rfl, hη⟩ := p7
    have hC2 : CS h6.1 (hP h6) := by rw [hη]; exact note_fm.cs hC1
    refine V_aload_n (j := 1) (q := 37) dX7_append_36 rfl rfl ?_
    refine V_getP (q := 40) (r := 9) fX7_26 (hC2.1 0 _ s_0) rfl (hC2.2.1 0 2 _ rfl) dX7_append_37 rfl ?_
    refine V_iconst (q := 41) (v := nI 1) dX7_append_40 rfl rfl ?_
    refine V_rw (y := bi true) rfl ?_
    refine V_putZ (b := true) (q := 44) wX7_55 (hC2.1 9 _ s_9) rfl dX7_append_41 rfl ?_
    refine V_iload_n (j := 0) (q := 45) dX7_append_44 rfl rfl ?_
    refine V_iret rfl dX7_append_45 rfl rfl ?_
    rw [show apR (P, K, c) true f = (nI (pNi P), pAp P f, psh K c P) from by rw [apR, if_pos rfl, if_neg (show ¬ pNi P = 24 by omega)]]
    exact ⟨rfl, ed_Ap G X H (by omega) N hf FI hη⟩
  · skip
    refine V_bipush (q := 16) (v := (-3)) dX7_append_14 rfl (by decide) ?_
    refine V_iret rfl dX7_append_16 rfl rfl ?_
    rw [show apR (P, K, c) true f = (-3, P, K, c) from by rw [apR, if_pos rfl, if_pos (show pNi P = 24 by omega)]]
    exact ⟨rfl, FK.rf h, G⟩

set_option maxHeartbeats 4000000 in
set_option maxRecDepth 100000 in
theorem d_declareRecord {g : GX} {h : AH} {σ : GS} (G : CG h σ) {x : Int32} : Ct g mX7_declareRecord 2 0 0 [.ref 0, .int x] h (fun ρ η => ρ = some (.int (deR σ x).1) ∧ FK h η ∧ CG η (deR σ x).2) := by
  refine Ct_intro (by decide +kernel) (Nat.le_of_ble_eq_true rfl) ?_
  show V g mX7_declareRecord _ h 0 0 [(0, .ref 0), (1, .int x)] 0 []
  obtain ⟨P, K, c⟩ := σ
  obtain ⟨⟨U, X⟩, ⟨tq, H⟩, ⟨st, hst, hac⟩, Z, hl⟩ := id G
  have X : CX h P U := X
  have H : CH h P K c tq := H
  have hac : st = false → AC P h := hac
  have hN := X.2.2.2.2.1
  have hR := X.2.2.1
  have hC := X.1
  refine V_iload_n (j := 1) (q := 1) dX7_declareRecord_0 rfl rfl ?_
  refine V_iconst (q := 2) (v := nI 1) dX7_declareRecord_1 rfl rfl ?_
  refine V_icmp_lt (tgt := 11) (q := 5) dX7_declareRecord_2 rfl rfl (fun c1 => ?_) (fun c1 => ?_)
  · skip
    rw [i_lt, i_n (show 1 < 2 ^ 31 by decide)] at c1
    refine V_iconst (q := 12) (v := (-1)) dX7_declareRecord_11 rfl rfl ?_
    refine V_iret rfl dX7_declareRecord_12 rfl rfl ?_
    rw [show deR (P, K, c) x = (-1, P, K, c) from if_neg (by omega)]
    exact ⟨rfl, FK.rf h, G⟩
  · skip
    rw [i_lt, i_n (show 1 < 2 ^ 31 by decide)] at c1
    refine V_iload_n (j := 1) (q := 6) dX7_declareRecord_5 rfl rfl ?_
    refine V_bipush (q := 8) (v := nI 16) dX7_declareRecord_6 rfl (by decide) ?_
    refine V_icmp_le (tgt := 13) (q := 11) dX7_declareRecord_8 rfl rfl (fun c2 => ?_) (fun c2 => ?_)
    · skip
      rw [i_le, i_n (show 16 < 2 ^ 31 by decide)] at c2
      obtain ⟨z, hz, rfl⟩ := i_of (x := x) (n := 17) (by omega) (by omega)
      have iz := i_n (n := z) (by omega)
      have nz := nt_n (n := z) (by omega)
      rw [iz] at c1
      have hz1 : 1 ≤ z := by omega
      refine V_aload_n (j := 0) (q := 14) dX7_declareRecord_13 rfl rfl ?_
      refine V_getP (q := 17) (r := 1) fX7_10 (hC.1 0 _ s_0) rfl (hC.2.1 0 0 _ rfl) dX7_declareRecord_14 rfl ?_
      refine V_getI (q := 20) fX7_39 (hC.1 1 _ s_1) rfl dX7_declareRecord_17 rfl ?_
      refine V_rw (y := nI (pNr P)) X.2.1.1 ?_
      refine V_istore_n (q := 21) (L' := [(2, .int (nI (pNr P))), (0, .ref 0), (1, .int (nI z))]) dX7_declareRecord_20 rfl rfl rfl ?_
      refine V_iload_n (j := 0) (q := 22) dX7_declareRecord_21 rfl rfl ?_
      refine V_iconst (q := 23) (v := nI 4) dX7_declareRecord_22 rfl rfl ?_
      refine V_icmp_ltN (tgt := 29) (q := 26) dX7_declareRecord_23 rfl rfl (by omega) (by omega) (fun c3 => ?_) (fun c3 => ?_)
      · skip
        refine V_aload_n (j := 1) (q := 30) dX7_declareRecord_29 rfl rfl ?_
        refine V_getP (q := 33) (r := 1) fX7_10 (hC.1 0 _ s_0) rfl (hC.2.1 0 0 _ rfl) dX7_declareRecord_30 rfl ?_
        refine V_iload_n (j := 2) (q := 34) dX7_declareRecord_33 rfl rfl ?_
        refine V_callV (q := 37) (S := []) kX7_43 (d_addRecord (z := z) X (by omega)) (hC.1 1 _ s_1) rfl rfl rfl dX7_declareRecord_34 rfl (fun r4 h5 p6 => ?_)
        obtain ⟨rfl, he⟩ := p6
        have FD : FEd h h5 := by rw [he]; exact ((FEd.rf h).sI (by decide)).sI (by decide)
        have hC1 := FD.cs hC
        have HD : CH h5 P K c tq := CH_of H (by rw [he, hI_n (by decide), hI_n (by decide)]) (by rw [he, hI_n (by decide), hI_n (by decide)]) (by rw [he, hI_n (by decide), hI_n (by decide)]) (by rw [he]; rfl) FD.in
        refine V_aload_n (j := 1) (q := 38) dX7_declareRecord_37 rfl rfl ?_
        refine V_getP (q := 41) (r := 5) fX7_19 (hC1.1 0 _ s_0) rfl (hC1.2.1 0 1 _ rfl) dX7_declareRecord_38 rfl ?_
        refine V_iconst (q := 42) (v := nI 1) dX7_declareRecord_41 rfl rfl ?_
        refine V_iload_n (j := 0) (q := 43) dX7_declareRecord_42 rfl rfl ?_
        refine V_aload_n (j := 1) (q := 44) dX7_declareRecord_43 rfl rfl ?_
        refine V_getP (q := 47) (r := 1) fX7_10 (hC1.1 0 _ s_0) rfl (hC1.2.1 0 0 _ rfl) dX7_declareRecord_44 rfl ?_
        refine V_getP (q := 50) (r := 4) fX7_47 (hC1.1 1 _ s_1) rfl (hC1.2.1 1 2 _ rfl) dX7_declareRecord_47 rfl ?_
        refine V_callV (q := 53) (S := []) kX7_51 (d_note hC1 (f := fun _ => 0) HD (hC1.1 4 _ s_4)) (hC1.1 5 _ s_5) rfl rfl rfl dX7_declareRecord_50 rfl (fun r7 h8 p9 => ?_)
        obtain ⟨rfl, hη⟩ := p9
        have hC2 : CS h8.1 (hP h8) := by rw [hη]; exact note_fm.cs hC1
        refine V_aload_n (j := 1) (q := 54) dX7_declareRecord_53 rfl rfl ?_
        refine V_getP (q := 57) (r := 9) fX7_26 (hC2.1 0 _ s_0) rfl (hC2.2.1 0 2 _ rfl) dX7_declareRecord_54 rfl ?_
        refine V_iconst (q := 58) (v := nI 1) dX7_declareRecord_57 rfl rfl ?_
        refine V_rw (y := bi true) rfl ?_
        refine V_putZ (b := true) (q := 61) wX7_55 (hC2.1 9 _ s_9) rfl dX7_declareRecord_58 rfl ?_
        refine V_iload_n (j := 0) (q := 62) dX7_declareRecord_61 rfl rfl ?_
        refine V_iret rfl dX7_declareRecord_62 rfl rfl ?_
        rw [show deR (P, K, c) (nI z) = (nI (pNr P), pDe P z, psh K c P) from by rw [deR, if_pos (by rw [iz]; omega), if_neg (show ¬ pNr P = 4 by omega), nz]]
        rw [he] at hη
        exact ⟨rfl, ed_De G X H (by omega) hz1 (by omega) hη⟩
      · skip
        refine V_bipush (q := 28) (v := (-3)) dX7_declareRecord_26 rfl (by decide) ?_
        refine V_iret rfl dX7_declareRecord_28 rfl rfl ?_
        rw [show deR (P, K, c) (nI z) = (-3, P, K, c) from by rw [deR, if_pos (by rw [iz]; omega), if_pos (show pNr P = 4 by omega)]]
        exact ⟨rfl, FK.rf h, G⟩
    · skip
      rw [i_le, i_n (show 16 < 2 ^ 31 by decide)] at c2
      refine V_iconst (q := 12) (v := (-1)) dX7_declareRecord_11 rfl rfl ?_
      refine V_iret rfl dX7_declareRecord_12 rfl rfl ?_
      rw [show deR (P, K, c) x = (-1, P, K, c) from if_neg (by omega)]
      exact ⟨rfl, FK.rf h, G⟩

set_option maxHeartbeats 4000000 in
set_option maxRecDepth 100000 in
theorem d_removeInstruction {g : GX} {h : AH} {σ : GS} (G : CG h σ) {x : Int32} : Ct g mX7_removeInstruction 2 0 0 [.ref 0, .int x] h (fun ρ η => ρ = some (.int (rmR σ x).1) ∧ FK h η ∧ CG η (rmR σ x).2) := by
  refine Ct_intro (by decide +kernel) (Nat.le_of_ble_eq_true rfl) ?_
  show V g mX7_removeInstruction _ h 0 0 [(0, .ref 0), (1, .int x)] 0 []
  obtain ⟨P, K, c⟩ := σ
  obtain ⟨⟨U, X⟩, ⟨tq, H⟩, ⟨st, hst, hac⟩, Z, hl⟩ := id G
  have X : CX h P U := X
  have H : CH h P K c tq := H
  have hac : st = false → AC P h := hac
  have hN := X.2.2.2.2.1
  have hR := X.2.2.1
  have hC := X.1
  refine V_aload_n (j := 0) (q := 1) dX7_removeInstruction_0 rfl rfl ?_
  refine V_getP (q := 4) (r := 1) fX7_10 (hC.1 0 _ s_0) rfl (hC.2.1 0 0 _ rfl) dX7_removeInstruction_1 rfl ?_
  refine V_iload_n (j := 1) (q := 5) dX7_removeInstruction_4 rfl rfl ?_
  refine V_cpV (q := 8) (S := []) (v := .int (bi (isI P x))) kX7_103 (d_hasInstruction (x := x) X) (hC.1 1 _ s_1) rfl rfl rfl dX7_removeInstruction_5 rfl ?_
  refine V_if_neB (tgt := 13) (q := 11) dX7_removeInstruction_8 rfl rfl (fun c1 => ?_) (fun c1 => ?_)
  · skip
    obtain ⟨i, hi, rfl⟩ := i_of (of_decide_eq_true c1).1 (of_decide_eq_true c1).2
    have nx := nt_n (n := i) (by omega)
    have ix := i_n (n := i) (by omega)
    refine V_aload_n (j := 0) (q := 14) dX7_removeInstruction_13 rfl rfl ?_
    refine V_getP (q := 17) (r := 5) fX7_19 (hC.1 0 _ s_0) rfl (hC.2.1 0 1 _ rfl) dX7_removeInstruction_14 rfl ?_
    refine V_iconst (q := 18) (v := nI 3) dX7_removeInstruction_17 rfl rfl ?_
    refine V_iload_n (j := 1) (q := 19) dX7_removeInstruction_18 rfl rfl ?_
    refine V_aload_n (j := 0) (q := 20) dX7_removeInstruction_19 rfl rfl ?_
    refine V_getP (q := 23) (r := 1) fX7_10 (hC.1 0 _ s_0) rfl (hC.2.1 0 0 _ rfl) dX7_removeInstruction_20 rfl ?_
    refine V_iload_n (j := 1) (q := 24) dX7_removeInstruction_23 rfl rfl ?_
    refine V_cpV (q := 27) (S := [.int (nI i), .int (nI 3), .ref 5]) (v := .ref (U i)) kX7_106 (by have := d_at (g := g) (x := nI i) X; rw [uat_n hi (by omega)] at this; exact this) (hC.1 1 _ s_1) rfl rfl rfl dX7_removeInstruction_24 rfl ?_
    refine V_callV (q := 30) (S := []) kX7_51 (d_note hC (f := pFd P i) H (X.2.1.2.2.2.1 i (by omega)).2.2.1) (hC.1 5 _ s_5) rfl rfl rfl dX7_removeInstruction_27 rfl (fun r2 h3 p4 => ?_)
    obtain ⟨rfl, hη⟩ := p4
    have hC2 : CS h3.1 (hP h3) := by rw [hη]; exact note_fm.cs hC
    refine V_aload_n (j := 0) (q := 31) dX7_removeInstruction_30 rfl rfl ?_
    refine V_getP (q := 34) (r := 1) fX7_10 (hC2.1 0 _ s_0) rfl (hC2.2.1 0 0 _ rfl) dX7_removeInstruction_31 rfl ?_
    refine V_iload_n (j := 1) (q := 35) dX7_removeInstruction_34 rfl rfl ?_
    have X2 : CX h3 P U := by rw [hη]; exact note_fm.cx X (by decide) (by decide)
    refine V_callV (q := 38) (S := []) kX7_109 (d_delete (x := i) X2 hi) (hC2.1 1 _ s_1) rfl rfl rfl dX7_removeInstruction_35 rfl (fun r5 h6 p7 => ?_)
    obtain ⟨rfl, FD⟩ := p7
    have hC3 := FD.cs hC2
    refine V_aload_n (j := 0) (q := 39) dX7_removeInstruction_38 rfl rfl ?_
    refine V_getP (q := 42) (r := 9) fX7_26 (hC3.1 0 _ s_0) rfl (hC3.2.1 0 2 _ rfl) dX7_removeInstruction_39 rfl ?_
    refine V_iconst (q := 43) (v := nI 1) dX7_removeInstruction_42 rfl rfl ?_
    refine V_rw (y := bi true) rfl ?_
    refine V_putZ (b := true) (q := 46) wX7_55 (hC3.1 9 _ s_9) rfl dX7_removeInstruction_43 rfl ?_
    refine V_aload_n (j := 0) (q := 47) dX7_removeInstruction_46 rfl rfl ?_
    refine V_getP (q := 50) (r := 1) fX7_10 (hC3.1 0 _ s_0) rfl (hC3.2.1 0 0 _ rfl) dX7_removeInstruction_47 rfl ?_
    refine V_getI (q := 53) fX7_112 (hC3.1 1 _ s_1) rfl dX7_removeInstruction_50 rfl ?_
    refine V_rw (y := nI (pNi P - 1)) (by rw [hI_n (by decide)]; exact FD.2.2.2.1) ?_
    refine V_iret rfl dX7_removeInstruction_53 rfl rfl ?_
    rw [show rmR (P, K, c) (nI i) = (nI (pNi P - 1), pRm P i, psh K c P) from by rw [rmR, if_pos (show 0 ≤ (nI i).toInt ∧ (nI i).toInt < (pNi P : Int) by rw [ix]; omega), nx]]
    exact ⟨rfl, ed_Rm G X H hi hη FD⟩
  · skip
    refine V_iconst (q := 12) (v := (-1)) dX7_removeInstruction_11 rfl rfl ?_
    refine V_iret rfl dX7_removeInstruction_12 rfl rfl ?_
    rw [show rmR (P, K, c) x = (-1, P, K, c) from if_neg (of_decide_eq_false c1)]
    exact ⟨rfl, FK.rf h, G⟩

set_option maxHeartbeats 4000000 in
set_option maxRecDepth 100000 in
theorem d_undo {g : GX} {h : AH} {σ : GS} (G : CG h σ) : Ct g mX7_undo 4 0 0 [.ref 0] h (fun ρ η => ρ = some (.int (unR σ).1) ∧ FK h η ∧ CG η (unR σ).2) := by
  refine Ct_intro (by decide +kernel) (Nat.le_of_ble_eq_true rfl) ?_
  show V g mX7_undo _ h 0 0 [(0, .ref 0)] 0 []
  obtain ⟨P, K, c⟩ := σ
  obtain ⟨⟨U, X⟩, ⟨tq, H⟩, ⟨st, hst, hac⟩, Z, hl⟩ := id G
  have X : CX h P U := X
  have H : CH h P K c tq := H
  have hac : st = false → AC P h := hac
  have hN := X.2.2.2.2.1
  have hR := X.2.2.1
  have hC := X.1
  have hc8 := H.2.2.2.1
  refine V_aload_n (j := 0) (q := 1) dX7_undo_0 rfl rfl ?_
  refine V_getP (q := 4) (r := 5) fX7_19 (hC.1 0 _ s_0) rfl (hC.2.1 0 1 _ rfl) dX7_undo_1 rfl ?_
  refine V_getI (q := 7) fX7_115 (hC.1 5 _ s_5) rfl dX7_undo_4 rfl ?_
  refine V_rw (y := nI c) H.2.2.1 ?_
  refine V_if_neN (tgt := 13) (q := 10) dX7_undo_7 rfl rfl (by omega) (fun c1 => ?_) (fun c1 => ?_)
  · skip
    refine V_aload_n (j := 0) (q := 14) dX7_undo_13 rfl rfl ?_
    refine V_getP (q := 17) (r := 5) fX7_19 (hC.1 0 _ s_0) rfl (hC.2.1 0 1 _ rfl) dX7_undo_14 rfl ?_
    refine V_aload_n (j := 0) (q := 18) dX7_undo_17 rfl rfl ?_
    refine V_getP (q := 21) (r := 1) fX7_10 (hC.1 0 _ s_0) rfl (hC.2.1 0 0 _ rfl) dX7_undo_18 rfl ?_
    obtain ⟨cc, rfl⟩ : ∃ cc, c = cc + 1 := ⟨c - 1, by omega⟩
    refine V_callV (q := 24) (S := []) kX7_118 (d_takeBack X H) (hC.1 5 _ s_5) rfl rfl rfl dX7_undo_21 rfl (fun r2 h3 p4 => ?_)
    obtain ⟨rfl, ⟨U2, XT⟩, HT, FT⟩ := p4
    refine V_aload_n (j := 0) (q := 25) dX7_undo_24 rfl rfl ?_
    refine V_getP (q := 28) (r := 9) fX7_26 (XT.1.1 0 _ s_0) rfl (XT.1.2.1 0 2 _ rfl) dX7_undo_25 rfl ?_
    refine V_iconst (q := 29) (v := nI 1) dX7_undo_28 rfl rfl ?_
    refine V_rw (y := bi true) rfl ?_
    refine V_putZ (b := true) (q := 32) wX7_55 (XT.1.1 9 _ s_9) rfl dX7_undo_29 rfl ?_
    refine V_aload_n (j := 0) (q := 33) dX7_undo_32 rfl rfl ?_
    refine V_getP (q := 36) (r := 5) fX7_19 (XT.1.1 0 _ s_0) rfl (XT.1.2.1 0 1 _ rfl) dX7_undo_33 rfl ?_
    refine V_getI (q := 39) fX7_115 (XT.1.1 5 _ s_5) rfl dX7_undo_36 rfl ?_
    refine V_rw (y := nI cc) (by rw [hI_n (by decide)]; exact HT.2.2.1) ?_
    refine V_iret rfl dX7_undo_39 rfl rfl ?_
    rw [show unR (P, K, cc + 1) = (nI cc, K cc, K, cc) from if_neg (Nat.succ_ne_zero cc)]
    exact ⟨rfl, Ed_fin FT G (σ' := (K cc, K, cc)) XT HT⟩
  · skip
    refine V_bipush (q := 12) (v := (-2)) dX7_undo_10 rfl (by decide) ?_
    refine V_iret rfl dX7_undo_12 rfl rfl ?_
    rw [show unR (P, K, c) = (-2, P, K, c) from if_pos c1]
    exact ⟨rfl, FK.rf h, G⟩

set_option maxHeartbeats 4000000 in
set_option maxRecDepth 100000 in
theorem d_recordCount {g : GX} {h : AH} {σ : GS} (G : CG h σ) : Ct g mX7_recordCount 0 0 0 [.ref 0] h (fun ρ η => ρ = some (.int (nI (pNr σ.1))) ∧ FK h η ∧ CG η σ) := by
  refine Ct_intro (by decide +kernel) (Nat.le_of_ble_eq_true rfl) ?_
  show V g mX7_recordCount _ h 0 0 [(0, .ref 0)] 0 []
  obtain ⟨P, K, c⟩ := σ
  obtain ⟨⟨U, X⟩, ⟨tq, H⟩, ⟨st, hst, hac⟩, Z, hl⟩ := id G
  have X : CX h P U := X
  have H : CH h P K c tq := H
  have hac : st = false → AC P h := hac
  have hN := X.2.2.2.2.1
  have hR := X.2.2.1
  have hC := X.1
  refine V_aload_n (j := 0) (q := 1) dX7_recordCount_0 rfl rfl ?_
  refine V_getP (q := 4) (r := 1) fX7_10 (hC.1 0 _ s_0) rfl (hC.2.1 0 0 _ rfl) dX7_recordCount_1 rfl ?_
  refine V_getI (q := 7) fX7_39 (hC.1 1 _ s_1) rfl dX7_recordCount_4 rfl ?_
  refine V_rw (y := nI (pNr P)) X.2.1.1 ?_
  refine V_iret rfl dX7_recordCount_7 rfl rfl ?_
  exact ⟨rfl, FK.rf h, G⟩

set_option maxHeartbeats 4000000 in
set_option maxRecDepth 100000 in
theorem d_instructionCount {g : GX} {h : AH} {σ : GS} (G : CG h σ) : Ct g mX7_instructionCount 0 0 0 [.ref 0] h (fun ρ η => ρ = some (.int (nI (pNi σ.1))) ∧ FK h η ∧ CG η σ) := by
  refine Ct_intro (by decide +kernel) (Nat.le_of_ble_eq_true rfl) ?_
  show V g mX7_instructionCount _ h 0 0 [(0, .ref 0)] 0 []
  obtain ⟨P, K, c⟩ := σ
  obtain ⟨⟨U, X⟩, ⟨tq, H⟩, ⟨st, hst, hac⟩, Z, hl⟩ := id G
  have X : CX h P U := X
  have H : CH h P K c tq := H
  have hac : st = false → AC P h := hac
  have hN := X.2.2.2.2.1
  have hR := X.2.2.1
  have hC := X.1
  refine V_aload_n (j := 0) (q := 1) dX7_instructionCount_0 rfl rfl ?_
  refine V_getP (q := 4) (r := 1) fX7_10 (hC.1 0 _ s_0) rfl (hC.2.1 0 0 _ rfl) dX7_instructionCount_1 rfl ?_
  refine V_getI (q := 7) fX7_112 (hC.1 1 _ s_1) rfl dX7_instructionCount_4 rfl ?_
  refine V_rw (y := nI (pNi P)) X.2.1.2.1 ?_
  refine V_iret rfl dX7_instructionCount_7 rfl rfl ?_
  exact ⟨rfl, FK.rf h, G⟩


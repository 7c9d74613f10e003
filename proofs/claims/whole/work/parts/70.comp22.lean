set_option maxHeartbeats 4000000 in
set_option maxRecDepth 100000 in
theorem d_appendStore {g : GX} {h : AH} {σ : GS} (G : CG h σ) {x0 x1 x2 x3 : Int32} : Ct g mX7_appendStore 4 1 10 [.ref 0, .int x0, .int x1, .int x2, .int x3] h (fun ρ η => ρ = some (.int (apR σ (vSt σ.1 x0 x1 x2 x3) (f6 1 (nt x0) (nt x1) (nt x2) (nt x3) 0)).1) ∧ FK h η ∧ CG η (apR σ (vSt σ.1 x0 x1 x2 x3) (f6 1 (nt x0) (nt x1) (nt x2) (nt x3) 0)).2) := by
  refine Ct_intro (by decide +kernel) (Nat.le_of_ble_eq_true rfl) ?_
  show V g mX7_appendStore _ h 0 0 [(0, .ref 0), (1, .int x0), (2, .int x1), (3, .int x2), (4, .int x3)] 0 []
  obtain ⟨P, K, c⟩ := σ
  obtain ⟨⟨U, X⟩, ⟨tq, H⟩, ⟨st, hst, hac⟩, Z, hl⟩ := id G
  have X : CX h P U := X
  have H : CH h P K c tq := H
  have hac : st = false → AC P h := hac
  have hN := X.2.2.2.2.1
  have hR := X.2.2.1
  have hC := X.1
  refine V_aload_n (j := 0) (q := 1) dX7_appendStore_0 rfl rfl ?_
  refine V_iload_n (j := 1) (q := 2) dX7_appendStore_1 rfl rfl ?_
  refine V_iload_n (j := 2) (q := 3) dX7_appendStore_2 rfl rfl ?_
  refine V_iload_n (j := 3) (q := 4) dX7_appendStore_3 rfl rfl ?_
  refine V_cpV (q := 7) (S := []) (v := .int (bi (isW x2 && rngB P x0 x1 x2))) kX7_59 (d_isAccess (x := x0) (y := x1) (z := x2) X) (hC.1 0 _ s_0) rfl rfl rfl dX7_appendStore_4 rfl ?_
  refine V_if_eqB (tgt := 18) (q := 10) dX7_appendStore_7 rfl rfl (fun c1 => ?_) (fun c1 => ?_)
  · skip
    refine V_iconst (q := 19) (v := (-1)) dX7_appendStore_18 rfl rfl ?_
    refine V_iret rfl dX7_appendStore_19 rfl rfl ?_
    rw [show apR (P, K, c) (vSt P x0 x1 x2 x3) (f6 1 (nt x0) (nt x1) (nt x2) (nt x3) 0) = (-1, P, K, c) from by rw [apR, if_neg (by rw [vSt, ← Bool.and_assoc]; simp [c1])]]
    exact ⟨rfl, FK.rf h, G⟩
  · skip
    have c1q := Bool.and_eq_true_iff.mp c1
    obtain ⟨r0, o0, l0, hr0, hl0, ho0, hz0, rfl, rfl, rfl, nx0, ny0, nz0⟩ := rngB_of X.2.2 c1q.2
    refine V_iload (j := 4) (q := 12) dX7_appendStore_10 rfl rfl ?_
    refine V_cpS (q := 15) (S := []) (v := .int (bi (isG x3))) kX7_63 d_isRegister rfl rfl rfl dX7_appendStore_12 rfl ?_
    refine V_if_neB (tgt := 20) (q := 18) dX7_appendStore_15 rfl rfl (fun c2 => ?_) (fun c2 => ?_)
    · skip
      obtain ⟨t3, ht3, rfl, nt3⟩ := isG_of c2
      refine V_aload_n (j := 0) (q := 21) dX7_appendStore_20 rfl rfl ?_
      refine V_iconst (q := 22) (v := nI 1) dX7_appendStore_21 rfl rfl ?_
      refine V_iload_n (j := 1) (q := 23) dX7_appendStore_22 rfl rfl ?_
      refine V_iload_n (j := 2) (q := 24) dX7_appendStore_23 rfl rfl ?_
      refine V_iload_n (j := 3) (q := 25) dX7_appendStore_24 rfl rfl ?_
      refine V_iload (j := 4) (q := 27) dX7_appendStore_25 rfl rfl ?_
      refine V_callS (q := 30) (S := [.ref 0]) kX7_67 (d_ofAccess1 (h := h) hl) rfl rfl rfl dX7_appendStore_27 rfl (fun r3 h4 p5 => ?_)
      obtain ⟨rfl, FN1, N1⟩ := p5
      have G1 : CG h4 (P, K, c) := FN1.cg G
      have hC9 : CS h4.1 (hP h4) := FN1.cs (by omega) hC
      refine V_callV (q := 33) (S := []) kX7_73 (d_append (f := f6 1 r0 o0 l0 t3 0) G1 N1 (OkF_ac (Or.inl rfl) hr0 (isW_of (by omega) c1q.1) ho0 ht3)) (hC9.1 0 _ s_0) rfl rfl rfl dX7_appendStore_30 rfl (fun r6 h7 p8 => ?_)
      obtain ⟨rfl, E1, E2⟩ := p8
      refine V_iret rfl dX7_appendStore_33 rfl rfl ?_
      have hE : apR (P, K, c) (vSt P (nI r0) (nI o0) (nI l0) (nI t3)) (f6 1 (nt (nI r0)) (nt (nI o0)) (nt (nI l0)) (nt (nI t3)) 0) = apR (P, K, c) true (f6 1 r0 o0 l0 t3 0) := by
        rw [show (vSt P (nI r0) (nI o0) (nI l0) (nI t3)) = true from by simp [vSt, c1, c2, c1q]]
        rw [nx0, ny0, nz0, nt3]
      rw [hE]
      exact ⟨rfl, (FN1.fk hl).tr E1, E2⟩
    · skip
      refine V_iconst (q := 19) (v := (-1)) dX7_appendStore_18 rfl rfl ?_
      refine V_iret rfl dX7_appendStore_19 rfl rfl ?_
      rw [show apR (P, K, c) (vSt P (nI r0) (nI o0) (nI l0) x3) (f6 1 (nt (nI r0)) (nt (nI o0)) (nt (nI l0)) (nt x3) 0) = (-1, P, K, c) from by rw [apR, if_neg (by rw [vSt, ← Bool.and_assoc]; simp [c1, c2])]]
      exact ⟨rfl, FK.rf h, G⟩

set_option maxHeartbeats 4000000 in
set_option maxRecDepth 100000 in
theorem d_appendLoad {g : GX} {h : AH} {σ : GS} (G : CG h σ) {x0 x1 x2 x3 : Int32} : Ct g mX7_appendLoad 4 1 10 [.ref 0, .int x0, .int x1, .int x2, .int x3] h (fun ρ η => ρ = some (.int (apR σ (vSt σ.1 x1 x2 x3 x0) (f6 2 (nt x1) (nt x2) (nt x3) (nt x0) 0)).1) ∧ FK h η ∧ CG η (apR σ (vSt σ.1 x1 x2 x3 x0) (f6 2 (nt x1) (nt x2) (nt x3) (nt x0) 0)).2) := by
  refine Ct_intro (by decide +kernel) (Nat.le_of_ble_eq_true rfl) ?_
  show V g mX7_appendLoad _ h 0 0 [(0, .ref 0), (1, .int x0), (2, .int x1), (3, .int x2), (4, .int x3)] 0 []
  obtain ⟨P, K, c⟩ := σ
  obtain ⟨⟨U, X⟩, ⟨tq, H⟩, ⟨st, hst, hac⟩, Z, hl⟩ := id G
  have X : CX h P U := X
  have H : CH h P K c tq := H
  have hac : st = false → AC P h := hac
  have hN := X.2.2.2.2.1
  have hR := X.2.2.1
  have hC := X.1
  refine V_aload_n (j := 0) (q := 1) dX7_appendLoad_0 rfl rfl ?_
  refine V_iload_n (j := 2) (q := 2) dX7_appendLoad_1 rfl rfl ?_
  refine V_iload_n (j := 3) (q := 3) dX7_appendLoad_2 rfl rfl ?_
  refine V_iload (j := 4) (q := 5) dX7_appendLoad_3 rfl rfl ?_
  refine V_cpV (q := 8) (S := []) (v := .int (bi (isW x3 && rngB P x1 x2 x3))) kX7_59 (d_isAccess (x := x1) (y := x2) (z := x3) X) (hC.1 0 _ s_0) rfl rfl rfl dX7_appendLoad_5 rfl ?_
  refine V_if_eqB (tgt := 18) (q := 11) dX7_appendLoad_8 rfl rfl (fun c1 => ?_) (fun c1 => ?_)
  · skip
    refine V_iconst (q := 19) (v := (-1)) dX7_appendLoad_18 rfl rfl ?_
    refine V_iret rfl dX7_appendLoad_19 rfl rfl ?_
    rw [show apR (P, K, c) (vSt P x1 x2 x3 x0) (f6 2 (nt x1) (nt x2) (nt x3) (nt x0) 0) = (-1, P, K, c) from by rw [apR, if_neg (by rw [vSt, ← Bool.and_assoc]; simp [c1])]]
    exact ⟨rfl, FK.rf h, G⟩
  · skip
    have c1q := Bool.and_eq_true_iff.mp c1
    obtain ⟨r1, o1, l1, hr1, hl1, ho1, hz1, rfl, rfl, rfl, nx1, ny1, nz1⟩ := rngB_of X.2.2 c1q.2
    refine V_iload_n (j := 1) (q := 12) dX7_appendLoad_11 rfl rfl ?_
    refine V_cpS (q := 15) (S := []) (v := .int (bi (isG x0))) kX7_63 d_isRegister rfl rfl rfl dX7_appendLoad_12 rfl ?_
    refine V_if_neB (tgt := 20) (q := 18) dX7_appendLoad_15 rfl rfl (fun c2 => ?_) (fun c2 => ?_)
    · skip
      obtain ⟨t0, ht0, rfl, nt0⟩ := isG_of c2
      refine V_aload_n (j := 0) (q := 21) dX7_appendLoad_20 rfl rfl ?_
      refine V_iconst (q := 22) (v := nI 2) dX7_appendLoad_21 rfl rfl ?_
      refine V_iload_n (j := 2) (q := 23) dX7_appendLoad_22 rfl rfl ?_
      refine V_iload_n (j := 3) (q := 24) dX7_appendLoad_23 rfl rfl ?_
      refine V_iload (j := 4) (q := 26) dX7_appendLoad_24 rfl rfl ?_
      refine V_iload_n (j := 1) (q := 27) dX7_appendLoad_26 rfl rfl ?_
      refine V_callS (q := 30) (S := [.ref 0]) kX7_67 (d_ofAccess2 (h := h) hl) rfl rfl rfl dX7_appendLoad_27 rfl (fun r3 h4 p5 => ?_)
      obtain ⟨rfl, FN1, N1⟩ := p5
      have G1 : CG h4 (P, K, c) := FN1.cg G
      have hC9 : CS h4.1 (hP h4) := FN1.cs (by omega) hC
      refine V_callV (q := 33) (S := []) kX7_73 (d_append (f := f6 2 r1 o1 l1 t0 0) G1 N1 (OkF_ac (Or.inr rfl) hr1 (isW_of (by omega) c1q.1) ho1 ht0)) (hC9.1 0 _ s_0) rfl rfl rfl dX7_appendLoad_30 rfl (fun r6 h7 p8 => ?_)
      obtain ⟨rfl, E1, E2⟩ := p8
      refine V_iret rfl dX7_appendLoad_33 rfl rfl ?_
      have hE : apR (P, K, c) (vSt P (nI r1) (nI o1) (nI l1) (nI t0)) (f6 2 (nt (nI r1)) (nt (nI o1)) (nt (nI l1)) (nt (nI t0)) 0) = apR (P, K, c) true (f6 2 r1 o1 l1 t0 0) := by
        rw [show (vSt P (nI r1) (nI o1) (nI l1) (nI t0)) = true from by simp [vSt, c1, c2, c1q]]
        rw [nx1, ny1, nz1, nt0]
      rw [hE]
      exact ⟨rfl, (FN1.fk hl).tr E1, E2⟩
    · skip
      refine V_iconst (q := 19) (v := (-1)) dX7_appendLoad_18 rfl rfl ?_
      refine V_iret rfl dX7_appendLoad_19 rfl rfl ?_
      rw [show apR (P, K, c) (vSt P (nI r1) (nI o1) (nI l1) x0) (f6 2 (nt (nI r1)) (nt (nI o1)) (nt (nI l1)) (nt x0) 0) = (-1, P, K, c) from by rw [apR, if_neg (by rw [vSt, ← Bool.and_assoc]; simp [c1, c2])]]
      exact ⟨rfl, FK.rf h, G⟩

set_option maxHeartbeats 4000000 in
set_option maxRecDepth 100000 in
theorem d_appendEscape {g : GX} {h : AH} {σ : GS} (G : CG h σ) {x0 : Int32} : Ct g mX7_appendEscape 4 1 10 [.ref 0, .int x0] h (fun ρ η => ρ = some (.int (apR σ (isR σ.1 x0) (f6 4 (nt x0) 0 0 0 0)).1) ∧ FK h η ∧ CG η (apR σ (isR σ.1 x0) (f6 4 (nt x0) 0 0 0 0)).2) := by
  refine Ct_intro (by decide +kernel) (Nat.le_of_ble_eq_true rfl) ?_
  show V g mX7_appendEscape _ h 0 0 [(0, .ref 0), (1, .int x0)] 0 []
  obtain ⟨P, K, c⟩ := σ
  obtain ⟨⟨U, X⟩, ⟨tq, H⟩, ⟨st, hst, hac⟩, Z, hl⟩ := id G
  have X : CX h P U := X
  have H : CH h P K c tq := H
  have hac : st = false → AC P h := hac
  have hN := X.2.2.2.2.1
  have hR := X.2.2.1
  have hC := X.1
  refine V_aload_n (j := 0) (q := 1) dX7_appendEscape_0 rfl rfl ?_
  refine V_getP (q := 4) (r := 1) fX7_10 (hC.1 0 _ s_0) rfl (hC.2.1 0 0 _ rfl) dX7_appendEscape_1 rfl ?_
  refine V_iload_n (j := 1) (q := 5) dX7_appendEscape_4 rfl rfl ?_
  refine V_cpV (q := 8) (S := []) (v := .int (bi (isR P x0))) kX7_89 (d_hasRecord (x := x0) X) (hC.1 1 _ s_1) rfl rfl rfl dX7_appendEscape_5 rfl ?_
  refine V_if_neB (tgt := 13) (q := 11) dX7_appendEscape_8 rfl rfl (fun c1 => ?_) (fun c1 => ?_)
  · skip
    obtain ⟨r0, hr0, rfl⟩ := isR_of c1
    have nx0 := nt_n (n := r0) (by omega)
    refine V_aload_n (j := 0) (q := 14) dX7_appendEscape_13 rfl rfl ?_
    refine V_iload_n (j := 1) (q := 15) dX7_appendEscape_14 rfl rfl ?_
    refine V_callS (q := 18) (S := [.ref 0]) kX7_92 (d_ofEscape (h := h) hl) rfl rfl rfl dX7_appendEscape_15 rfl (fun r2 h3 p4 => ?_)
    obtain ⟨rfl, FN1, N1⟩ := p4
    have G1 : CG h3 (P, K, c) := FN1.cg G
    have hC9 : CS h3.1 (hP h3) := FN1.cs (by omega) hC
    refine V_callV (q := 21) (S := []) kX7_73 (d_append (f := f6 4 r0 0 0 0 0) G1 N1 (OkF_es hr0)) (hC9.1 0 _ s_0) rfl rfl rfl dX7_appendEscape_18 rfl (fun r5 h6 p7 => ?_)
    obtain ⟨rfl, E1, E2⟩ := p7
    refine V_iret rfl dX7_appendEscape_21 rfl rfl ?_
    have hE : apR (P, K, c) (isR P (nI r0)) (f6 4 (nt (nI r0)) 0 0 0 0) = apR (P, K, c) true (f6 4 r0 0 0 0 0) := by
      rw [show (isR P (nI r0)) = true from by simp [c1]]
      rw [nx0]
    rw [hE]
    exact ⟨rfl, (FN1.fk hl).tr E1, E2⟩
  · skip
    refine V_iconst (q := 12) (v := (-1)) dX7_appendEscape_11 rfl rfl ?_
    refine V_iret rfl dX7_appendEscape_12 rfl rfl ?_
    rw [show apR (P, K, c) (isR P x0) (f6 4 (nt x0) 0 0 0 0) = (-1, P, K, c) from by rw [apR, if_neg (by simp [c1])]]
    exact ⟨rfl, FK.rf h, G⟩

set_option maxHeartbeats 4000000 in
set_option maxRecDepth 100000 in
theorem d_appendConstant {g : GX} {h : AH} {σ : GS} (G : CG h σ) {x0 x1 : Int32} : Ct g mX7_appendConstant 4 1 10 [.ref 0, .int x0, .int x1] h (fun ρ η => ρ = some (.int (apR σ (isG x0) (f6 5 (nt x0) (vN x1) 0 0 0)).1) ∧ FK h η ∧ CG η (apR σ (isG x0) (f6 5 (nt x0) (vN x1) 0 0 0)).2) := by
  refine Ct_intro (by decide +kernel) (Nat.le_of_ble_eq_true rfl) ?_
  show V g mX7_appendConstant _ h 0 0 [(0, .ref 0), (1, .int x0), (2, .int x1)] 0 []
  obtain ⟨P, K, c⟩ := σ
  obtain ⟨⟨U, X⟩, ⟨tq, H⟩, ⟨st, hst, hac⟩, Z, hl⟩ := id G
  have X : CX h P U := X
  have H : CH h P K c tq := H
  have hac : st = false → AC P h := hac
  have hN := X.2.2.2.2.1
  have hR := X.2.2.1
  have hC := X.1
  refine V_iload_n (j := 1) (q := 1) dX7_appendConstant_0 rfl rfl ?_
  refine V_cpS (q := 4) (S := []) (v := .int (bi (isG x0))) kX7_63 d_isRegister rfl rfl rfl dX7_appendConstant_1 rfl ?_
  refine V_if_neB (tgt := 9) (q := 7) dX7_appendConstant_4 rfl rfl (fun c1 => ?_) (fun c1 => ?_)
  · skip
    obtain ⟨t0, ht0, rfl, nt0⟩ := isG_of c1
    refine V_aload_n (j := 0) (q := 10) dX7_appendConstant_9 rfl rfl ?_
    refine V_iconst (q := 11) (v := nI 5) dX7_appendConstant_10 rfl rfl ?_
    refine V_iload_n (j := 1) (q := 12) dX7_appendConstant_11 rfl rfl ?_
    refine V_iload_n (j := 2) (q := 13) dX7_appendConstant_12 rfl rfl ?_
    refine V_rw (y := nI (vN x1)) ((nI_vN x1).symm) ?_
    refine V_callS (q := 16) (S := [.ref 0]) kX7_96 (d_ofNumber5 (h := h) hl) rfl rfl rfl dX7_appendConstant_13 rfl (fun r2 h3 p4 => ?_)
    obtain ⟨rfl, FN1, N1⟩ := p4
    have G1 : CG h3 (P, K, c) := FN1.cg G
    have hC9 : CS h3.1 (hP h3) := FN1.cs (by omega) hC
    refine V_callV (q := 19) (S := []) kX7_73 (d_append (f := f6 5 t0 (vN x1) 0 0 0) G1 N1 (OkF_ct ht0)) (hC9.1 0 _ s_0) rfl rfl rfl dX7_appendConstant_16 rfl (fun r5 h6 p7 => ?_)
    obtain ⟨rfl, E1, E2⟩ := p7
    refine V_iret rfl dX7_appendConstant_19 rfl rfl ?_
    have hE : apR (P, K, c) (isG (nI t0)) (f6 5 (nt (nI t0)) (vN x1) 0 0 0) = apR (P, K, c) true (f6 5 t0 (vN x1) 0 0 0) := by
      rw [show (isG (nI t0)) = true from by simp [c1]]
      rw [nt0]
    rw [hE]
    exact ⟨rfl, (FN1.fk hl).tr E1, E2⟩
  · skip
    refine V_iconst (q := 8) (v := (-1)) dX7_appendConstant_7 rfl rfl ?_
    refine V_iret rfl dX7_appendConstant_8 rfl rfl ?_
    rw [show apR (P, K, c) (isG x0) (f6 5 (nt x0) (vN x1) 0 0 0) = (-1, P, K, c) from by rw [apR, if_neg (by simp [c1])]]
    exact ⟨rfl, FK.rf h, G⟩

set_option maxHeartbeats 4000000 in
set_option maxRecDepth 100000 in
theorem d_appendAdd {g : GX} {h : AH} {σ : GS} (G : CG h σ) {x0 x1 x2 : Int32} : Ct g mX7_appendAdd 4 1 10 [.ref 0, .int x0, .int x1, .int x2] h (fun ρ η => ρ = some (.int (apR σ (vAd x0 x1 x2) (f6 6 (nt x0) (nt x1) (nt x2) 0 0)).1) ∧ FK h η ∧ CG η (apR σ (vAd x0 x1 x2) (f6 6 (nt x0) (nt x1) (nt x2) 0 0)).2) := by
  refine Ct_intro (by decide +kernel) (Nat.le_of_ble_eq_true rfl) ?_
  show V g mX7_appendAdd _ h 0 0 [(0, .ref 0), (1, .int x0), (2, .int x1), (3, .int x2)] 0 []
  obtain ⟨P, K, c⟩ := σ
  obtain ⟨⟨U, X⟩, ⟨tq, H⟩, ⟨st, hst, hac⟩, Z, hl⟩ := id G
  have X : CX h P U := X
  have H : CH h P K c tq := H
  have hac : st = false → AC P h := hac
  have hN := X.2.2.2.2.1
  have hR := X.2.2.1
  have hC := X.1
  refine V_iload_n (j := 1) (q := 1) dX7_appendAdd_0 rfl rfl ?_
  refine V_cpS (q := 4) (S := []) (v := .int (bi (isG x0))) kX7_63 d_isRegister rfl rfl rfl dX7_appendAdd_1 rfl ?_
  refine V_if_eqB (tgt := 21) (q := 7) dX7_appendAdd_4 rfl rfl (fun c1 => ?_) (fun c1 => ?_)
  · skip
    refine V_iconst (q := 22) (v := (-1)) dX7_appendAdd_21 rfl rfl ?_
    refine V_iret rfl dX7_appendAdd_22 rfl rfl ?_
    rw [show apR (P, K, c) (vAd x0 x1 x2) (f6 6 (nt x0) (nt x1) (nt x2) 0 0) = (-1, P, K, c) from by rw [apR, if_neg (by simp [vAd, c1])]]
    exact ⟨rfl, FK.rf h, G⟩
  · skip
    obtain ⟨t0, ht0, rfl, nt0⟩ := isG_of c1
    refine V_iload_n (j := 2) (q := 8) dX7_appendAdd_7 rfl rfl ?_
    refine V_cpS (q := 11) (S := []) (v := .int (bi (isG x1))) kX7_63 d_isRegister rfl rfl rfl dX7_appendAdd_8 rfl ?_
    refine V_if_eqB (tgt := 21) (q := 14) dX7_appendAdd_11 rfl rfl (fun c2 => ?_) (fun c2 => ?_)
    · skip
      refine V_iconst (q := 22) (v := (-1)) dX7_appendAdd_21 rfl rfl ?_
      refine V_iret rfl dX7_appendAdd_22 rfl rfl ?_
      rw [show apR (P, K, c) (vAd (nI t0) x1 x2) (f6 6 (nt (nI t0)) (nt x1) (nt x2) 0 0) = (-1, P, K, c) from by rw [apR, if_neg (by simp [vAd, c1, c2])]]
      exact ⟨rfl, FK.rf h, G⟩
    · skip
      obtain ⟨t1, ht1, rfl, nt1⟩ := isG_of c2
      refine V_iload_n (j := 3) (q := 15) dX7_appendAdd_14 rfl rfl ?_
      refine V_cpS (q := 18) (S := []) (v := .int (bi (isG x2))) kX7_63 d_isRegister rfl rfl rfl dX7_appendAdd_15 rfl ?_
      refine V_if_neB (tgt := 23) (q := 21) dX7_appendAdd_18 rfl rfl (fun c3 => ?_) (fun c3 => ?_)
      · skip
        obtain ⟨t2, ht2, rfl, nt2⟩ := isG_of c3
        refine V_aload_n (j := 0) (q := 24) dX7_appendAdd_23 rfl rfl ?_
        refine V_iload_n (j := 1) (q := 25) dX7_appendAdd_24 rfl rfl ?_
        refine V_iload_n (j := 2) (q := 26) dX7_appendAdd_25 rfl rfl ?_
        refine V_iload_n (j := 3) (q := 27) dX7_appendAdd_26 rfl rfl ?_
        refine V_callS (q := 30) (S := [.ref 0]) kX7_100 (d_ofAdd (h := h) hl) rfl rfl rfl dX7_appendAdd_27 rfl (fun r4 h5 p6 => ?_)
        obtain ⟨rfl, FN1, N1⟩ := p6
        have G1 : CG h5 (P, K, c) := FN1.cg G
        have hC9 : CS h5.1 (hP h5) := FN1.cs (by omega) hC
        refine V_callV (q := 33) (S := []) kX7_73 (d_append (f := f6 6 t0 t1 t2 0 0) G1 N1 (OkF_ad ht0 ht1 ht2)) (hC9.1 0 _ s_0) rfl rfl rfl dX7_appendAdd_30 rfl (fun r7 h8 p9 => ?_)
        obtain ⟨rfl, E1, E2⟩ := p9
        refine V_iret rfl dX7_appendAdd_33 rfl rfl ?_
        have hE : apR (P, K, c) (vAd (nI t0) (nI t1) (nI t2)) (f6 6 (nt (nI t0)) (nt (nI t1)) (nt (nI t2)) 0 0) = apR (P, K, c) true (f6 6 t0 t1 t2 0 0) := by
          rw [show (vAd (nI t0) (nI t1) (nI t2)) = true from by simp [vAd, c1, c2, c3]]
          rw [nt0, nt1, nt2]
        rw [hE]
        exact ⟨rfl, (FN1.fk hl).tr E1, E2⟩
      · skip
        refine V_iconst (q := 22) (v := (-1)) dX7_appendAdd_21 rfl rfl ?_
        refine V_iret rfl dX7_appendAdd_22 rfl rfl ?_
        rw [show apR (P, K, c) (vAd (nI t0) (nI t1) x2) (f6 6 (nt (nI t0)) (nt (nI t1)) (nt x2) 0 0) = (-1, P, K, c) from by rw [apR, if_neg (by simp [vAd, c1, c2, c3])]]
        exact ⟨rfl, FK.rf h, G⟩

set_option maxHeartbeats 4000000 in
set_option maxRecDepth 100000 in
theorem d_appendSkip {g : GX} {h : AH} {σ : GS} (G : CG h σ) {x0 x1 : Int32} : Ct g mX7_appendSkip 4 1 10 [.ref 0, .int x0, .int x1] h (fun ρ η => ρ = some (.int (apR σ (vSk x0 x1) (f6 7 (nt x0) (nt x1) 0 0 0)).1) ∧ FK h η ∧ CG η (apR σ (vSk x0 x1) (f6 7 (nt x0) (nt x1) 0 0 0)).2) := by
  refine Ct_intro (by decide +kernel) (Nat.le_of_ble_eq_true rfl) ?_
  show V g mX7_appendSkip _ h 0 0 [(0, .ref 0), (1, .int x0), (2, .int x1)] 0 []
  obtain ⟨P, K, c⟩ := σ
  obtain ⟨⟨U, X⟩, ⟨tq, H⟩, ⟨st, hst, hac⟩, Z, hl⟩ := id G
  have X : CX h P U := X
  have H : CH h P K c tq := H
  have hac : st = false → AC P h := hac
  have hN := X.2.2.2.2.1
  have hR := X.2.2.1
  have hC := X.1
  refine V_iload_n (j := 1) (q := 1) dX7_appendSkip_0 rfl rfl ?_
  refine V_cpS (q := 4) (S := []) (v := .int (bi (isG x0))) kX7_63 d_isRegister rfl rfl rfl dX7_appendSkip_1 rfl ?_
  refine V_if_eqB (tgt := 18) (q := 7) dX7_appendSkip_4 rfl rfl (fun c1 => ?_) (fun c1 => ?_)
  · skip
    refine V_iconst (q := 19) (v := (-1)) dX7_appendSkip_18 rfl rfl ?_
    refine V_iret rfl dX7_appendSkip_19 rfl rfl ?_
    rw [show apR (P, K, c) (vSk x0 x1) (f6 7 (nt x0) (nt x1) 0 0 0) = (-1, P, K, c) from by rw [apR, if_neg (by simp [vSk, c1]; try omega)]]
    exact ⟨rfl, FK.rf h, G⟩
  · skip
    obtain ⟨t0, ht0, rfl, nt0⟩ := isG_of c1
    refine V_iload_n (j := 2) (q := 8) dX7_appendSkip_7 rfl rfl ?_
    refine V_iconst (q := 9) (v := nI 1) dX7_appendSkip_8 rfl rfl ?_
    refine V_icmp_lt (tgt := 18) (q := 12) dX7_appendSkip_9 rfl rfl (fun c2 => ?_) (fun c2 => ?_)
    · skip
      rw [i_lt, i_n (show 1 < 2 ^ 31 by decide)] at c2
      refine V_iconst (q := 19) (v := (-1)) dX7_appendSkip_18 rfl rfl ?_
      refine V_iret rfl dX7_appendSkip_19 rfl rfl ?_
      rw [show apR (P, K, c) (vSk (nI t0) x1) (f6 7 (nt (nI t0)) (nt x1) 0 0 0) = (-1, P, K, c) from by rw [apR, if_neg (by simp [vSk, c1, c2]; try omega)]]
      exact ⟨rfl, FK.rf h, G⟩
    · skip
      rw [i_lt, i_n (show 1 < 2 ^ 31 by decide)] at c2
      refine V_iload_n (j := 2) (q := 13) dX7_appendSkip_12 rfl rfl ?_
      refine V_bipush (q := 15) (v := nI 9) dX7_appendSkip_13 rfl (by decide) ?_
      refine V_icmp_le (tgt := 20) (q := 18) dX7_appendSkip_15 rfl rfl (fun c3 => ?_) (fun c3 => ?_)
      · skip
        rw [i_le, i_n (show 9 < 2 ^ 31 by decide)] at c3
        obtain ⟨z1, hz, rfl⟩ := i_of (x := x1) (n := 10) (by omega) (by omega)
        have iz := i_n (n := z1) (by omega)
        have nz1 := nt_n (n := z1) (by omega)
        rw [iz] at c2 c3
        refine V_aload_n (j := 0) (q := 21) dX7_appendSkip_20 rfl rfl ?_
        refine V_bipush (q := 23) (v := nI 7) dX7_appendSkip_21 rfl (by decide) ?_
        refine V_iload_n (j := 1) (q := 24) dX7_appendSkip_23 rfl rfl ?_
        refine V_iload_n (j := 2) (q := 25) dX7_appendSkip_24 rfl rfl ?_
        refine V_callS (q := 28) (S := [.ref 0]) kX7_96 (d_ofNumber7 (h := h) hl) rfl rfl rfl dX7_appendSkip_25 rfl (fun r4 h5 p6 => ?_)
        obtain ⟨rfl, FN1, N1⟩ := p6
        have G1 : CG h5 (P, K, c) := FN1.cg G
        have hC9 : CS h5.1 (hP h5) := FN1.cs (by omega) hC
        refine V_callV (q := 31) (S := []) kX7_73 (d_append (f := f6 7 t0 z1 0 0 0) G1 N1 (OkF_sk ht0 (by omega) (by omega))) (hC9.1 0 _ s_0) rfl rfl rfl dX7_appendSkip_28 rfl (fun r7 h8 p9 => ?_)
        obtain ⟨rfl, E1, E2⟩ := p9
        refine V_iret rfl dX7_appendSkip_31 rfl rfl ?_
        have hE : apR (P, K, c) (vSk (nI t0) (nI z1)) (f6 7 (nt (nI t0)) (nt (nI z1)) 0 0 0) = apR (P, K, c) true (f6 7 t0 z1 0 0 0) := by
          rw [show (vSk (nI t0) (nI z1)) = true from by simp [vSk, c1, c2, c3]; rw [iz]; omega]
          rw [nt0, nz1]
        rw [hE]
        exact ⟨rfl, (FN1.fk hl).tr E1, E2⟩
      · skip
        rw [i_le, i_n (show 9 < 2 ^ 31 by decide)] at c3
        refine V_iconst (q := 19) (v := (-1)) dX7_appendSkip_18 rfl rfl ?_
        refine V_iret rfl dX7_appendSkip_19 rfl rfl ?_
        rw [show apR (P, K, c) (vSk (nI t0) x1) (f6 7 (nt (nI t0)) (nt x1) 0 0 0) = (-1, P, K, c) from by rw [apR, if_neg (by simp [vSk, c1, c2, c3]; try omega)]]
        exact ⟨rfl, FK.rf h, G⟩

set_option maxHeartbeats 4000000 in
set_option maxRecDepth 100000 in
theorem d_appendOutput {g : GX} {h : AH} {σ : GS} (G : CG h σ) {x0 : Int32} : Ct g mX7_appendOutput 4 1 10 [.ref 0, .int x0] h (fun ρ η => ρ = some (.int (apR σ (isG x0) (f6 8 (nt x0) 0 0 0 0)).1) ∧ FK h η ∧ CG η (apR σ (isG x0) (f6 8 (nt x0) 0 0 0 0)).2) := by
  refine Ct_intro (by decide +kernel) (Nat.le_of_ble_eq_true rfl) ?_
  show V g mX7_appendOutput _ h 0 0 [(0, .ref 0), (1, .int x0)] 0 []
  obtain ⟨P, K, c⟩ := σ
  obtain ⟨⟨U, X⟩, ⟨tq, H⟩, ⟨st, hst, hac⟩, Z, hl⟩ := id G
  have X : CX h P U := X
  have H : CH h P K c tq := H
  have hac : st = false → AC P h := hac
  have hN := X.2.2.2.2.1
  have hR := X.2.2.1
  have hC := X.1
  refine V_iload_n (j := 1) (q := 1) dX7_appendOutput_0 rfl rfl ?_
  refine V_cpS (q := 4) (S := []) (v := .int (bi (isG x0))) kX7_63 d_isRegister rfl rfl rfl dX7_appendOutput_1 rfl ?_
  refine V_if_neB (tgt := 9) (q := 7) dX7_appendOutput_4 rfl rfl (fun c1 => ?_) (fun c1 => ?_)
  · skip
    obtain ⟨t0, ht0, rfl, nt0⟩ := isG_of c1
    refine V_aload_n (j := 0) (q := 10) dX7_appendOutput_9 rfl rfl ?_
    refine V_bipush (q := 12) (v := nI 8) dX7_appendOutput_10 rfl (by decide) ?_
    refine V_iload_n (j := 1) (q := 13) dX7_appendOutput_12 rfl rfl ?_
    refine V_iconst (q := 14) (v := nI 0) dX7_appendOutput_13 rfl rfl ?_
    refine V_callS (q := 17) (S := [.ref 0]) kX7_96 (d_ofNumber8 (h := h) hl) rfl rfl rfl dX7_appendOutput_14 rfl (fun r2 h3 p4 => ?_)
    obtain ⟨rfl, FN1, N1⟩ := p4
    have G1 : CG h3 (P, K, c) := FN1.cg G
    have hC9 : CS h3.1 (hP h3) := FN1.cs (by omega) hC
    refine V_callV (q := 20) (S := []) kX7_73 (d_append (f := f6 8 t0 0 0 0 0) G1 N1 (OkF_ou ht0)) (hC9.1 0 _ s_0) rfl rfl rfl dX7_appendOutput_17 rfl (fun r5 h6 p7 => ?_)
    obtain ⟨rfl, E1, E2⟩ := p7
    refine V_iret rfl dX7_appendOutput_20 rfl rfl ?_
    have hE : apR (P, K, c) (isG (nI t0)) (f6 8 (nt (nI t0)) 0 0 0 0) = apR (P, K, c) true (f6 8 t0 0 0 0 0) := by
      rw [show (isG (nI t0)) = true from by simp [c1]]
      rw [nt0]
    rw [hE]
    exact ⟨rfl, (FN1.fk hl).tr E1, E2⟩
  · skip
    refine V_iconst (q := 8) (v := (-1)) dX7_appendOutput_7 rfl rfl ?_
    refine V_iret rfl dX7_appendOutput_8 rfl rfl ?_
    rw [show apR (P, K, c) (isG x0) (f6 8 (nt x0) 0 0 0 0) = (-1, P, K, c) from by rw [apR, if_neg (by simp [c1])]]
    exact ⟨rfl, FK.rf h, G⟩

def adN (a b : Nat) : Nat := if a < b then b - a else a - b
theorem adN_s (a b : Nat) : (a < b ∧ adN a b = b - a) ∨ (b ≤ a ∧ adN a b = a - b) := by
  unfold adN
  by_cases z : a < b
  · rw [if_pos z]; exact Or.inl ⟨z, rfl⟩
  · rw [if_neg z]; exact Or.inr ⟨by omega, rfl⟩
def adf (a b : Nat) : Int32 := nI (adN a b)
theorem adf_n {a b : Nat} (ha : a ≤ 16) (hb : b ≤ 16) : (if 0 ≤ nI a - nI b then nI a - nI b else 0 - (nI a - nI b)) = adf a b := by
  have e : (nI a - nI b).toInt = (a : Int) - b := by rw [i_sub, i_n (by omega), i_n (by omega)]; rw [i_n (by omega), i_n (by omega)]; omega
  unfold adf adN
  by_cases z : a < b
  · rw [if_pos z, if_neg (by rw [i_le, i_0, e]; omega)]
    refine i_eq.mpr ?_
    rw [i_n (by omega), i_sub, i_0, e]
    · omega
    · rw [i_0, e]; omega
  · rw [if_neg z, if_pos (by rw [i_le, i_0, e]; omega)]
    refine i_eq.mpr ?_
    rw [i_n (by omega), e]; omega
set_option maxHeartbeats 4000000 in
set_option maxRecDepth 100000 in
theorem d_appendCopy {g : GX} {h : AH} {σ : GS} (G : CG h σ) {x0 x1 x2 x3 x4 : Int32} : Ct g mX7_appendCopy 4 1 10 [.ref 0, .int x0, .int x1, .int x2, .int x3, .int x4] h (fun ρ η => ρ = some (.int (apR σ (vCp σ.1 x0 x1 x2 x3 x4) (f6 3 (nt x0) (nt x1) (nt x2) (nt x3) (nt x4))).1) ∧ FK h η ∧ CG η (apR σ (vCp σ.1 x0 x1 x2 x3 x4) (f6 3 (nt x0) (nt x1) (nt x2) (nt x3) (nt x4))).2) := by
  refine Ct_intro (by decide +kernel) (Nat.le_of_ble_eq_true rfl) ?_
  show V g mX7_appendCopy _ h 0 0 [(0, .ref 0), (1, .int x0), (2, .int x1), (3, .int x2), (4, .int x3), (5, .int x4)] 0 []
  obtain ⟨P, K, c⟩ := σ
  obtain ⟨⟨U, X⟩, ⟨tq, H⟩, ⟨st, hst, hac⟩, Z, hl⟩ := id G
  have X : CX h P U := X
  have H : CH h P K c tq := H
  have hac : st = false → AC P h := hac
  have hN := X.2.2.2.2.1
  have hR := X.2.2.1
  have hC := X.1
  refine V_aload_n (j := 0) (q := 1) dX7_appendCopy_0 rfl rfl ?_
  refine V_getP (q := 4) (r := 1) fX7_10 (hC.1 0 _ s_0) rfl (hC.2.1 0 0 _ rfl) dX7_appendCopy_1 rfl ?_
  refine V_iload_n (j := 1) (q := 5) dX7_appendCopy_4 rfl rfl ?_
  refine V_iload_n (j := 2) (q := 6) dX7_appendCopy_5 rfl rfl ?_
  refine V_iload (j := 5) (q := 8) dX7_appendCopy_6 rfl rfl ?_
  refine V_cpV (q := 11) (S := []) (v := .int (bi (rngB P x0 x1 x4))) kX7_77 (d_holdsRange (x := x0) (y := x1) (z := x4) X) (hC.1 1 _ s_1) rfl rfl rfl dX7_appendCopy_8 rfl ?_
  refine V_if_eqB (tgt := 29) (q := 14) dX7_appendCopy_11 rfl rfl (fun c1 => ?_) (fun c1 => ?_)
  · skip
    refine V_iconst (q := 30) (v := (-1)) dX7_appendCopy_29 rfl rfl ?_
    refine V_iret rfl dX7_appendCopy_30 rfl rfl ?_
    rw [show apR (P, K, c) (vCp P x0 x1 x2 x3 x4) (f6 3 (nt x0) (nt x1) (nt x2) (nt x3) (nt x4)) = (-1, P, K, c) from by rw [apR, if_neg (by simp [vCp, c1])]]
    exact ⟨rfl, FK.rf h, G⟩
  · skip
    obtain ⟨r0, o0, l0, hr0, hl0, ho0, hz0, rfl, rfl, rfl, nx0, ny0, nz0⟩ := rngB_of X.2.2 c1
    refine V_aload_n (j := 0) (q := 15) dX7_appendCopy_14 rfl rfl ?_
    refine V_getP (q := 18) (r := 1) fX7_10 (hC.1 0 _ s_0) rfl (hC.2.1 0 0 _ rfl) dX7_appendCopy_15 rfl ?_
    refine V_iload_n (j := 3) (q := 19) dX7_appendCopy_18 rfl rfl ?_
    refine V_iload (j := 4) (q := 21) dX7_appendCopy_19 rfl rfl ?_
    refine V_iload (j := 5) (q := 23) dX7_appendCopy_21 rfl rfl ?_
    refine V_cpV (q := 26) (S := []) (v := .int (bi (rngB P x2 x3 (nI l0)))) kX7_77 (d_holdsRange (x := x2) (y := x3) (z := nI l0) X) (hC.1 1 _ s_1) rfl rfl rfl dX7_appendCopy_23 rfl ?_
    refine V_if_neB (tgt := 31) (q := 29) dX7_appendCopy_26 rfl rfl (fun c2 => ?_) (fun c2 => ?_)
    · skip
      obtain ⟨r2, o2, hr2, ho2, hz2, rfl, rfl, nx2, ny2⟩ := rngB_of2 X.2.2 (by omega) c2
      refine V_iload_n (j := 1) (q := 32) dX7_appendCopy_31 rfl rfl ?_
      refine V_iload_n (j := 3) (q := 33) dX7_appendCopy_32 rfl rfl ?_
      refine V_icmp_neN (tgt := 50) (q := 36) dX7_appendCopy_33 rfl rfl (by omega) (by omega) (fun c3 => ?_) (fun c3 => ?_)
      · skip
        refine V_aload_n (j := 0) (q := 51) dX7_appendCopy_50 rfl rfl ?_
        refine V_iload_n (j := 1) (q := 52) dX7_appendCopy_51 rfl rfl ?_
        refine V_iload_n (j := 2) (q := 53) dX7_appendCopy_52 rfl rfl ?_
        refine V_iload_n (j := 3) (q := 54) dX7_appendCopy_53 rfl rfl ?_
        refine V_iload (j := 4) (q := 56) dX7_appendCopy_54 rfl rfl ?_
        refine V_iload (j := 5) (q := 58) dX7_appendCopy_56 rfl rfl ?_
        refine V_callS (q := 61) (S := [.ref 0]) kX7_86 (d_ofCopy (h := h) hl) rfl rfl rfl dX7_appendCopy_58 rfl (fun r4 h5 p6 => ?_)
        obtain ⟨rfl, FN1, N1⟩ := p6
        have G1 : CG h5 (P, K, c) := FN1.cg G
        have hC9 : CS h5.1 (hP h5) := FN1.cs (by omega) hC
        refine V_callV (q := 64) (S := []) kX7_73 (d_append (f := f6 3 r0 o0 r2 o2 l0) G1 N1 (OkF_cp hr0 hr2 hl0 ho0 ho2 (by omega))) (hC9.1 0 _ s_0) rfl rfl rfl dX7_appendCopy_61 rfl (fun r7 h8 p9 => ?_)
        obtain ⟨rfl, E1, E2⟩ := p9
        refine V_iret rfl dX7_appendCopy_64 rfl rfl ?_
        have hE : apR (P, K, c) (vCp P (nI r0) (nI o0) (nI r2) (nI o2) (nI l0)) (f6 3 (nt (nI r0)) (nt (nI o0)) (nt (nI r2)) (nt (nI o2)) (nt (nI l0))) = apR (P, K, c) true (f6 3 r0 o0 r2 o2 l0) := by
          rw [show (vCp P (nI r0) (nI o0) (nI r2) (nI o2) (nI l0)) = true from by rw [vCp_n c1 c2 (by omega) (by omega) (by omega) (by omega) (by omega)]; simp; omega]
          rw [nx0, ny0, nz0, nx2, ny2]
        rw [hE]
        exact ⟨rfl, (FN1.fk hl).tr E1, E2⟩
      · skip
        refine V_iload_n (j := 2) (q := 37) dX7_appendCopy_36 rfl rfl ?_
        refine V_iload (j := 4) (q := 39) dX7_appendCopy_37 rfl rfl ?_
        refine V_isub (q := 40) dX7_appendCopy_39 rfl ?_
        refine V_mabs (q := 43) kX7_80 rfl dX7_appendCopy_40 rfl ?_
        refine V_rw (y := adf o0 o2) (adf_n (by omega) (by omega)) ?_
        refine V_rw (y := nI (adN o0 o2)) rfl ?_
        have hda := adN_s o0 o2
        refine V_iload (j := 5) (q := 45) dX7_appendCopy_43 rfl rfl ?_
        refine V_icmp_geN (tgt := 50) (q := 48) dX7_appendCopy_45 rfl rfl (by omega) (by omega) (fun c10 => ?_) (fun c10 => ?_)
        · skip
          refine V_aload_n (j := 0) (q := 51) dX7_appendCopy_50 rfl rfl ?_
          refine V_iload_n (j := 1) (q := 52) dX7_appendCopy_51 rfl rfl ?_
          refine V_iload_n (j := 2) (q := 53) dX7_appendCopy_52 rfl rfl ?_
          refine V_iload_n (j := 3) (q := 54) dX7_appendCopy_53 rfl rfl ?_
          refine V_iload (j := 4) (q := 56) dX7_appendCopy_54 rfl rfl ?_
          refine V_iload (j := 5) (q := 58) dX7_appendCopy_56 rfl rfl ?_
          refine V_callS (q := 61) (S := [.ref 0]) kX7_86 (d_ofCopy (h := h) hl) rfl rfl rfl dX7_appendCopy_58 rfl (fun r11 h12 p13 => ?_)
          obtain ⟨rfl, FN1, N1⟩ := p13
          have G1 : CG h12 (P, K, c) := FN1.cg G
          have hC9 : CS h12.1 (hP h12) := FN1.cs (by omega) hC
          refine V_callV (q := 64) (S := []) kX7_73 (d_append (f := f6 3 r0 o0 r2 o2 l0) G1 N1 (OkF_cp hr0 hr2 hl0 ho0 ho2 (by omega))) (hC9.1 0 _ s_0) rfl rfl rfl dX7_appendCopy_61 rfl (fun r14 h15 p16 => ?_)
          obtain ⟨rfl, E1, E2⟩ := p16
          refine V_iret rfl dX7_appendCopy_64 rfl rfl ?_
          have hE : apR (P, K, c) (vCp P (nI r0) (nI o0) (nI r2) (nI o2) (nI l0)) (f6 3 (nt (nI r0)) (nt (nI o0)) (nt (nI r2)) (nt (nI o2)) (nt (nI l0))) = apR (P, K, c) true (f6 3 r0 o0 r2 o2 l0) := by
            rw [show (vCp P (nI r0) (nI o0) (nI r2) (nI o2) (nI l0)) = true from by rw [vCp_n c1 c2 (by omega) (by omega) (by omega) (by omega) (by omega)]; simp; omega]
            rw [nx0, ny0, nz0, nx2, ny2]
          rw [hE]
          exact ⟨rfl, (FN1.fk hl).tr E1, E2⟩
        · skip
          refine V_iconst (q := 49) (v := (-1)) dX7_appendCopy_48 rfl rfl ?_
          refine V_iret rfl dX7_appendCopy_49 rfl rfl ?_
          rw [show apR (P, K, c) (vCp P (nI r0) (nI o0) (nI r2) (nI o2) (nI l0)) (f6 3 (nt (nI r0)) (nt (nI o0)) (nt (nI r2)) (nt (nI o2)) (nt (nI l0))) = (-1, P, K, c) from by rw [apR, if_neg (by rw [vCp_n c1 c2 (by omega) (by omega) (by omega) (by omega) (by omega)]; simp; omega)]]
          exact ⟨rfl, FK.rf h, G⟩
    · skip
      refine V_iconst (q := 30) (v := (-1)) dX7_appendCopy_29 rfl rfl ?_
      refine V_iret rfl dX7_appendCopy_30 rfl rfl ?_
      rw [show apR (P, K, c) (vCp P (nI r0) (nI o0) x2 x3 (nI l0)) (f6 3 (nt (nI r0)) (nt (nI o0)) (nt x2) (nt x3) (nt (nI l0))) = (-1, P, K, c) from by rw [apR, if_neg (by simp [vCp, c1, c2])]]
      exact ⟨rfl, FK.rf h, G⟩


/-- bytes and cost may have changed -/
def FC (h η : AH) : Prop := FRn h η ∧ (∀ k, k ≠ 8 → hI η 151 k = hI h 151 k) ∧ hI η 152 = hI h 152 ∧ hI η 158 = hI h 158
theorem FC.rf (h : AH) : FC h h := ⟨FRn.rf h, fun _ _ => rfl, rfl, rfl⟩
theorem FC.by {h e η : AH} (A : FC h e) (F : FBy e η) : FC h η := ⟨A.1.tr F.rn, fun k hk => by rw [F.2 151 (by decide)]; exact A.2.1 k hk, by rw [F.2 152 (by decide)]; exact A.2.2.1, by rw [F.2 158 (by decide)]; exact A.2.2.2⟩
theorem FC.co {h e : AH} {v : Int32} (A : FC h e) : FC h (sI e 151 8 v) := ⟨A.1.set (by decide), fun k hk => by rw [hI_s, if_neg (fun w => hk w.2)]; exact A.2.1 k hk, by rw [hI_n (by decide)]; exact A.2.2.1, by rw [hI_n (by decide)]; exact A.2.2.2⟩
theorem cpS_n {P : PG} {i s : Nat} {q : (Nat → Int32) × Int32} (h : ¬ (pst P i s = true ∧ liv P (dtP P i s) = true)) : cpS P i (s + 1) q = cpS P i s q := by rw [cpS, if_neg h]
theorem cpS_y {P : PG} {i s : Nat} {q : (Nat → Int32) × Int32} (h : pst P i s = true ∧ liv P (dtP P i s) = true) : cpS P i (s + 1) q = (cpB (16 * pFd P i 1 + pFd P i 2 + s) (16 * pFd P i 3 + pFd P i 4 + s) (pln P i s) (cpS P i s q).1, (cpS P i s q).2 + nI (pcC P (dtP P i s) (srP P i s) (pln P i s))) := by rw [cpS, if_pos h]
set_option maxHeartbeats 4000000 in
set_option maxRecDepth 100000 in
theorem lq_live {g : GX} {h : AH} {P : PG} {U : Nat → Nat} (X : CX h P U) {n : Nat} (hn : n < pNi P) (A : AC P h) (hk : pFd P n 0 = 3) {φ : Nat → Int32} {c : Int32} (B : BY h φ) (hc : hI h 151 8 = c) : ∀ (t : Nat) (s : Nat) (e : AH), (s ≤ pFd P n 5) → (FC h e) → (BY e (cpS P n s (φ, c)).1) → (hI e 151 8 = (cpS P n s (φ, c)).2) → pFd P n 5 - s < t → V g mX6_copyLivePieces (thM g 2 0 0 (fun ρ η => ρ = none ∧ FC h η ∧ BY η (cpS P n (pFd P n 5) (φ, c)).1 ∧ hI η 151 8 = (cpS P n (pFd P n 5) (φ, c)).2)) e 0 0 [(0, .ref 151), (1, .ref (U n)), (2, .ref (35 + n)), (3, .int (nI s))] 2 [] := by
  intro t
  induction t with
  | zero =>
    intro s e hs F Be Ce hfu
    exact absurd hfu (Nat.not_lt_zero _)
  | succ t ih =>
    intro s e hs F Be Ce hfu
    have hN := X.2.2.2.2.1
    have hR := X.2.2.1
    have hk8 := ok_kd X.2.2 hn
    have N := (X.2.1.2.2.2.1 n (by omega)).2
    rw [xfd_lt hn] at N
    obtain ⟨o1, o2, o3, o4, o5, o6, o7⟩ := ok_cp X.2.2 hn hk
    have hr1 : pFd P n 1 < 4 := by omega
    have hr2 : pFd P n 3 < 4 := by omega
    have ez := szx_lt o1
    have ez2 := szx_lt o2
    have X1 := F.1.cx X
    have A1 := F.1.ac X.2.2 A
    have hC := X1.1
    have N1 : IN e (U n) (pFd P n) := IN_of N F.1.1.1 (F.1.2 _ (by have := N.1; omega))
    refine V_iload_n (j := 3) (q := 3) dX6_copyLivePieces_2 rfl rfl ?_
    refine V_aload_n (j := 1) (q := 4) dX6_copyLivePieces_3 rfl rfl ?_
    refine V_getI (q := 7) fX6_120 N1.2.1 rfl dX6_copyLivePieces_4 rfl ?_
    refine V_rw (y := nI (pFd P n 5)) ((N1.2.2 4 (by decide)).trans (congrArg nI ((if_cp hk).2.2.1))) ?_
    refine V_icmp_geN (tgt := 76) (q := 10) dX6_copyLivePieces_7 rfl rfl (by omega) (by omega) (fun c1 => ?_) (fun c1 => ?_)
    · skip
      refine V_vret rfl dX6_copyLivePieces_76 rfl rfl ?_
      have : s = pFd P n 5 := by omega
      subst this
      exact ⟨rfl, F, Be, Ce⟩
    · skip
      have hs5 : s < pFd P n 5 := by omega
      have hpl := pcx_le X.2.2 (s := s) hn
      refine V_aload_n (j := 0) (q := 11) dX6_copyLivePieces_10 rfl rfl ?_
      refine V_getP (q := 14) (r := 9) fX6_27 (hC.1 151 _ s_151) rfl (hC.2.1 151 1 _ rfl) dX6_copyLivePieces_11 rfl ?_
      refine V_aload_n (j := 1) (q := 15) dX6_copyLivePieces_14 rfl rfl ?_
      refine V_iload_n (j := 3) (q := 16) dX6_copyLivePieces_15 rfl rfl ?_
      have K1 := pta_f X.2.2 X1.1 A1.1 o1 (k := pFd P n 2 + s) (by omega) (ptd_d hn hk hs5 rfl)
      have K2 := pta_f X.2.2 X1.1 A1.1 o2 (k := pFd P n 4 + s) (by omega) (ptd_s hn hk hs5 rfl)
      have Kb1 := pta_b X.2.2 o1 (k := pFd P n 2 + s) (by omega) (ptd_d hn hk hs5 rfl)
      have Kb2 := pta_b X.2.2 o2 (k := pFd P n 4 + s) (by omega) (ptd_s hn hk hs5 rfl)
      refine V_cpV (q := 19) (S := []) (v := .ref (pta P (pFd P n 1) (pFd P n 2 + s))) kX6_111 (d_targetC X1 hn A1.1 hk hs5) (hC.1 9 _ s_9) rfl rfl rfl dX6_copyLivePieces_16 rfl ?_
      refine V_astore (q := 21) (L' := [(4, .ref (pta P (pFd P n 1) (pFd P n 2 + s))), (0, .ref 151), (1, .ref (U n)), (2, .ref (35 + n)), (3, .int (nI s))]) dX6_copyLivePieces_19 rfl rfl rfl ?_
      refine V_aload_n (j := 3) (q := 22) dX6_copyLivePieces_21 rfl rfl ?_
      refine V_iload_n (j := 4) (q := 23) dX6_copyLivePieces_22 rfl rfl ?_
      refine V_iald (q := 24) (hC.1 _ _ (s_row _ (by omega))) (by omega) (by decide) dX6_copyLivePieces_23 rfl ?_
      refine V_rw (y := nI (pcx P n s)) (A1.2 n hn s (by omega)) ?_
      refine V_if_leN (tgt := 70) (q := 27) dX6_copyLivePieces_24 rfl rfl (by omega) (fun c2 => ?_) (fun c2 => ?_)
      · skip
        refine V_iincN (j := 4) (q := 73) (L' := [(3, .int (nI (s + 1))), (4, .ref (pta P (pFd P n 1) (pFd P n 2 + s))), (0, .ref 151), (1, .ref (U n)), (2, .ref (35 + n))]) dX6_copyLivePieces_70 rfl rfl rfl rfl ?_
        refine V_goto (q := 2) dX6_copyLivePieces_73 rfl ?_
        refine V_sub (L' := [(0, .ref 151), (1, .ref (U n)), (2, .ref (35 + n)), (3, .int (nI (s + 1)))]) [2, 3, 4, 0] rfl ?_
        refine ih (s + 1) e ?_ ?_ ?_ ?_ ?_
        · omega
        · exact F
        · rw [cpS_n (fun w => by have := (pcx_pos hk hs5).mpr w.1; omega)]; exact Be
        · rw [cpS_n (fun w => by have := (pcx_pos hk hs5).mpr w.1; omega)]; exact Ce
        · omega
      · skip
        obtain ⟨hk0, hs0, hps, epl⟩ := pcx_of c2
        have hp2 := (pln_spec hs5).2.1
        refine V_aload (j := 0) (q := 29) dX6_copyLivePieces_27 rfl rfl ?_
        refine V_getI (q := 32) fX6_115 K1.2.1 rfl dX6_copyLivePieces_29 rfl ?_
        refine V_rw (y := bi (liv P (dtP P n s))) K1.2.2.1.2.2.2 ?_
        refine V_if_eqB (tgt := 70) (q := 35) dX6_copyLivePieces_32 rfl rfl (fun c3 => ?_) (fun c3 => ?_)
        · skip
          refine V_iincN (j := 4) (q := 73) (L' := [(3, .int (nI (s + 1))), (4, .ref (pta P (pFd P n 1) (pFd P n 2 + s))), (0, .ref 151), (1, .ref (U n)), (2, .ref (35 + n))]) dX6_copyLivePieces_70 rfl rfl rfl rfl ?_
          refine V_goto (q := 2) dX6_copyLivePieces_73 rfl ?_
          refine V_sub (L' := [(0, .ref 151), (1, .ref (U n)), (2, .ref (35 + n)), (3, .int (nI (s + 1)))]) [2, 3, 4, 0] rfl ?_
          refine ih (s + 1) e ?_ ?_ ?_ ?_ ?_
          · omega
          · exact F
          · rw [cpS_n (fun w => absurd (c3.symm.trans w.2) (by decide))]; exact Be
          · rw [cpS_n (fun w => absurd (c3.symm.trans w.2) (by decide))]; exact Ce
          · omega
        · skip
          refine V_aload_n (j := 1) (q := 36) dX6_copyLivePieces_35 rfl rfl ?_
          refine V_aload_n (j := 2) (q := 37) dX6_copyLivePieces_36 rfl rfl ?_
          refine V_iload_n (j := 4) (q := 38) dX6_copyLivePieces_37 rfl rfl ?_
          refine V_aload_n (j := 3) (q := 39) dX6_copyLivePieces_38 rfl rfl ?_
          refine V_iload_n (j := 4) (q := 40) dX6_copyLivePieces_39 rfl rfl ?_
          refine V_iald (q := 41) (hC.1 _ _ (s_row _ (by omega))) (by omega) (by decide) dX6_copyLivePieces_40 rfl ?_
          refine V_rw (y := nI (pcx P n s)) (A1.2 n hn s (by omega)) ?_
          refine V_callV (q := 44) (S := []) kX6_133 (d_moveBytes X1 hn hk (s := s) (l := pcx P n s) (by omega) Be) (hC.1 151 _ s_151) rfl rfl rfl dX6_copyLivePieces_41 rfl (fun r4 h5 p6 => ?_)
          obtain ⟨rfl, F2, B2⟩ := p6
          have X2 := F2.rn.cx X1
          have A2 := F2.rn.ac X.2.2 A1
          have N2 := F2.in N1
          have M1 : h5.1[pta P (pFd P n 1) (pFd P n 2 + s)]? = some (4, 4) := by rw [F2.1.1]; exact K1.2.1
          have M2 : h5.1[pta P (pFd P n 3) (pFd P n 4 + s)]? = some (4, 4) := by rw [F2.1.1]; exact K2.2.1
          have M3 : hI h5 (pta P (pFd P n 1) (pFd P n 2 + s)) 2 = bi (prm P (dtP P n s)) := by rw [F2.2 _ (by omega)]; exact K1.2.2.1.2.2.1
          have M4 : hI h5 (pta P (pFd P n 3) (pFd P n 4 + s)) 2 = bi (prm P (srP P n s)) := by rw [F2.2 _ (by omega)]; exact K2.2.2.1.2.2.1
          refine V_aload_n (j := 1) (q := 45) dX6_copyLivePieces_44 rfl rfl ?_
          refine V_dup (q := 46) dX6_copyLivePieces_45 rfl rfl ?_
          refine V_getI (q := 49) fX6_65 (X2.1.1 151 _ s_151) rfl dX6_copyLivePieces_46 rfl ?_
          refine V_rw (y := (cpS P n s (φ, c)).2) (by rw [F2.2 151 (by decide)]; exact Ce) ?_
          refine V_aload (j := 0) (q := 51) dX6_copyLivePieces_49 rfl rfl ?_
          refine V_aload_n (j := 1) (q := 52) dX6_copyLivePieces_51 rfl rfl ?_
          refine V_getP (q := 55) (r := 9) fX6_27 (X2.1.1 151 _ s_151) rfl (X2.1.2.1 151 1 _ rfl) dX6_copyLivePieces_52 rfl ?_
          refine V_aload_n (j := 2) (q := 56) dX6_copyLivePieces_55 rfl rfl ?_
          refine V_iload_n (j := 4) (q := 57) dX6_copyLivePieces_56 rfl rfl ?_
          refine V_cpV (q := 60) (S := [.ref (pta P (pFd P n 1) (pFd P n 2 + s)), .int ((cpS P n s (φ, c)).2), .ref 151]) (v := .ref (pta P (pFd P n 3) (pFd P n 4 + s))) kX6_137 (d_origin X2 hn A2.1 hk hs5) (X2.1.1 9 _ s_9) rfl rfl rfl dX6_copyLivePieces_57 rfl ?_
          refine V_aload_n (j := 3) (q := 61) dX6_copyLivePieces_60 rfl rfl ?_
          refine V_iload_n (j := 4) (q := 62) dX6_copyLivePieces_61 rfl rfl ?_
          refine V_iald (q := 63) (X2.1.1 _ _ (s_row _ (by omega))) (by omega) (by decide) dX6_copyLivePieces_62 rfl ?_
          refine V_rw (y := nI (pcx P n s)) (A2.2 n hn s (by omega)) ?_
          refine V_cpS (q := 66) (S := [.int ((cpS P n s (φ, c)).2), .ref 151]) (v := .int (nI (pcC P (dtP P n s) (srP P n s) (pcx P n s)))) kX6_140 (d_priceOfPiece (f := prm P (dtP P n s)) (f2 := prm P (srP P n s)) (l := pcx P n s) M1 M2 M3 M4) rfl rfl rfl dX6_copyLivePieces_63 rfl ?_
          refine V_iadd (q := 67) dX6_copyLivePieces_66 rfl ?_
          refine V_putI (q := 70) wX6_65 (X2.1.1 151 _ s_151) rfl dX6_copyLivePieces_67 rfl ?_
          refine V_iincN (j := 4) (q := 73) (L' := [(3, .int (nI (s + 1))), (4, .ref (pta P (pFd P n 1) (pFd P n 2 + s))), (0, .ref 151), (1, .ref (U n)), (2, .ref (35 + n))]) dX6_copyLivePieces_70 rfl rfl rfl rfl ?_
          refine V_goto (q := 2) dX6_copyLivePieces_73 rfl ?_
          refine V_sub (L' := [(0, .ref 151), (1, .ref (U n)), (2, .ref (35 + n)), (3, .int (nI (s + 1)))]) [2, 3, 4, 0] rfl ?_
          refine ih (s + 1) (sI h5 151 8 (((cpS P n s (φ, c)).2) + (nI (pcC P (dtP P n s) (srP P n s) (pcx P n s))))) ?_ ?_ ?_ ?_ ?_
          · omega
          · exact (F.by F2).co
          · rw [cpS_y ⟨hps, c3⟩, ← epl]; exact fun q hq j hj => by rw [hI_n (by omega)]; exact B2 q hq j hj
          · rw [cpS_y ⟨hps, c3⟩, ← epl, hI_s, if_pos ⟨rfl, rfl⟩]
          · omega

set_option maxHeartbeats 4000000 in
set_option maxRecDepth 100000 in
theorem d_copyLive {g : GX} {h : AH} {P : PG} {U : Nat → Nat} (X : CX h P U) {n : Nat} (hn : n < pNi P) (A : AC P h) (hk : pFd P n 0 = 3) {φ : Nat → Int32} {c : Int32} (B : BY h φ) (hc : hI h 151 8 = c) : Ct g mX6_copyLivePieces 2 0 0 [.ref 151, .ref (U n), .ref (35 + n)] h (fun ρ η => ρ = none ∧ FC h η ∧ BY η (cpS P n (pFd P n 5) (φ, c)).1 ∧ hI η 151 8 = (cpS P n (pFd P n 5) (φ, c)).2) := by
  refine Ct_intro (by decide +kernel) (Nat.le_of_ble_eq_true rfl) ?_
  show V g mX6_copyLivePieces _ h 0 0 [(0, .ref 151), (1, .ref (U n)), (2, .ref (35 + n))] 0 []
  have hN := X.2.2.2.2.1
  have hR := X.2.2.1
  have hk8 := ok_kd X.2.2 hn
  have N := (X.2.1.2.2.2.1 n (by omega)).2
  rw [xfd_lt hn] at N
  obtain ⟨o1, o2, o3, o4, o5, o6, o7⟩ := ok_cp X.2.2 hn hk
  have hr1 : pFd P n 1 < 4 := by omega
  have hr2 : pFd P n 3 < 4 := by omega
  have ez := szx_lt o1
  have ez2 := szx_lt o2
  refine V_iconst (q := 1) (v := nI 0) dX6_copyLivePieces_0 rfl rfl ?_
  refine V_istore_n (q := 2) (L' := [(3, .int (nI 0)), (0, .ref 151), (1, .ref (U n)), (2, .ref (35 + n))]) dX6_copyLivePieces_1 rfl rfl rfl ?_
  refine V_sub (L' := [(0, .ref 151), (1, .ref (U n)), (2, .ref (35 + n)), (3, .int (nI 0))]) [1, 2, 3, 0] rfl ?_
  refine lq_live X hn A hk B hc (pFd P n 5 - 0 + 1) 0 h ?_ ?_ ?_ ?_ ?_
  · omega
  · exact FC.rf h
  · exact B
  · exact hc
  · exact Nat.lt_succ_self _


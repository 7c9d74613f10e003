theorem anP {h : AH} {m : Nat} {P : PG} (N : AN h m P) {x : Nat} (hx : vpl P x) : hI h (m + 7) x = bi (prm P x) ∧ hI h (m + 8) x = bi (liv P x) := by
  obtain ⟨r, p, hr, hp, rfl⟩ := hx
  exact N.2 r hr p hp
theorem vpl_a {P : PG} (ok : OkP P) {i : Nat} (hi : i < pNi P) (ha : isAc P i = true) : vpl P (acP P i) := by
  have h := ok_ac ok hi ha
  exact ⟨_, _, h.1, pof_lt (ptd_a (j := 0) hi ha (by omega) rfl) (by omega), rfl⟩
theorem AN_s {h : AH} {m j : Nat} {v : Int32} {P : PG} (N : AN h m P) (hj : 12 ≤ j) : AN (sI h m j v) m P := FX.AN ((FX.rf h m).set (Or.inl ⟨rfl, hj⟩)) N
theorem liv_ld {P : PG} {i : Nat} (hi : i < pNi P) (hc : pFd P i 0 = 2) : liv P (acP P i) = true := @decide_eq_true _ (Classical.propDecidable _) (LV_bs (Or.inr ⟨i, hi, hc, rfl⟩))
/-- the end of an access -/
theorem acc_st {P : PG} {tr : Bool} {i : Nat} {s : RSt} {v : Int32} (hk : pFd P i 0 = 1) (hv : v = sC s + nI (acC P tr i)) (hl : ¬ (tr = true ∧ liv P (acP P i) = false)) : stp P tr i s = (stoB (16 * pFd P i 1 + pFd P i 2) (sG s (pFd P i 4)) (pFd P i 3) (sB s), sG s, sO s, sN s, sS s, v, sT s) := by
  unfold stp
  rw [if_pos hk, if_neg hl, hv]
theorem acc_no {P : PG} {tr : Bool} {i : Nat} {s : RSt} {v : Int32} (hk : pFd P i 0 = 1) (hv : v = sC s + nI (acC P tr i)) (hl : tr = true ∧ liv P (acP P i) = false) : stp P tr i s = (sB s, sG s, sO s, sN s, sS s, v, sT s) := by
  unfold stp
  rw [if_pos hk, if_pos hl, hv]
theorem acc_ld {P : PG} {tr : Bool} {i : Nat} {s : RSt} {v : Int32} (hk : pFd P i 0 = 2) (hv : v = sC s + nI (acC P tr i)) : stp P tr i s = (sB s, upd (sG s) (pFd P i 4) (ldV (sB s) (16 * pFd P i 1 + pFd P i 2) (pFd P i 3)), sO s, sN s, sS s, v, sT s) := by
  unfold stp
  rw [if_neg (by omega), if_pos hk, hv]

set_option maxHeartbeats 4000000 in
set_option maxRecDepth 100000 in
theorem c_access {g : GX} {h : AH} {m : Nat} {P : PG} (W : RF h m P) (N : AN h m P) {s : RSt} (R : RR h m s) {i : Nat} {tr : Bool} (hi : i < pNi P) (ha : isAc P i = true) : Ct g mX8_access 2 0 0 [.ref m, .int (nI i), .int (bi tr)] h (fun ρ η => ρ = none ∧ FX h η m ∧ RR η m (stp P tr i s)) := by
  refine Ct_intro (by decide +kernel) (Nat.le_of_ble_eq_true rfl) ?_
  show V g mX8_access _ h 0 0 [(0, .ref m), (1, .int (nI i)), (2, .int (bi tr))] 0 []
  have hN := W.2.2.2.2.1
  have hR := W.2.2.1
  have hac := ok_ac W.2.2 hi ha
  have A := N.1
  have hvp := vpl_a W.2.2 hi ha
  have h64 := vpl_lt W.2.2 hvp
  have hk9 := ok_kd W.2.2 hi
  refine V_aload_n (j := 0) (q := 1) dX8_access_0 rfl rfl ?_
  refine V_aload_n (j := 0) (q := 2) dX8_access_1 rfl rfl ?_
  refine V_iload_n (j := 1) (q := 3) dX8_access_2 rfl rfl ?_
  refine V_iconst (q := 4) (v := nI 1) dX8_access_3 rfl rfl ?_
  refine V_cpV (q := 7) (S := [.ref m]) (v := .int (nI (pFd P i 1))) kX8_72 (c_of (i := i) W (by omega) (by omega)) (W.1.1 0 _ rfl) rfl rfl rfl dX8_access_4 rfl ?_
  refine V_aload_n (j := 0) (q := 8) dX8_access_7 rfl rfl ?_
  refine V_iload_n (j := 1) (q := 9) dX8_access_8 rfl rfl ?_
  refine V_iconst (q := 10) (v := nI 2) dX8_access_9 rfl rfl ?_
  refine V_cpV (q := 13) (S := [.int (nI (pFd P i 1)), .ref m]) (v := .int (nI (pFd P i 2))) kX8_72 (c_of (i := i) W (by omega) (by omega)) (W.1.1 0 _ rfl) rfl rfl rfl dX8_access_10 rfl ?_
  refine V_cpV (q := 16) (S := []) (v := .int (nI (16 * (pFd P i 1) + pof P (pFd P i 1) (pFd P i 2)))) kX8_110 (c_placeOf (r := pFd P i 1) (k := pFd P i 2) W A (by omega) (by omega) (ptd_a (j := 0) hi ha (by omega) rfl)) (W.1.1 0 _ rfl) rfl rfl rfl dX8_access_13 rfl ?_
  refine V_rw (y := nI (acP P i)) rfl ?_
  refine V_istore_n (q := 17) (L' := [(3, .int (nI (acP P i))), (0, .ref m), (1, .int (nI i)), (2, .int (bi tr))]) dX8_access_16 rfl rfl rfl ?_
  refine V_aload_n (j := 1) (q := 18) dX8_access_17 rfl rfl ?_
  refine V_dup (q := 19) dX8_access_18 rfl rfl ?_
  refine V_getI (q := 22) fX8_150 (W.1.1 0 _ rfl) rfl dX8_access_19 rfl ?_
  refine V_rw (y := sC s) R.2.2.2.2.2.1 ?_
  refine V_iload_n (j := 3) (q := 23) dX8_access_22 rfl rfl ?_
  refine V_if_eqB (tgt := 48) (q := 26) dX8_access_23 rfl rfl (fun c1 => ?_) (fun c1 => ?_)
  · skip
    refine V_iconst (q := 49) (v := nI 1) dX8_access_48 rfl rfl ?_
    refine V_iadd (q := 50) dX8_access_49 rfl ?_
    refine V_putI (q := 53) wX8_150 (W.1.1 0 _ rfl) rfl dX8_access_50 rfl ?_
    have W : RF (sI h m 14 ((sC s) + (nI 1))) m P := RF_sI W (by omega)
    have F1 := (FX.rf h m).set (a := m) (x := 14) (v := (sC s) + (nI 1)) (Or.inl ⟨rfl, by decide⟩)
    have R1 := RR_c (v := (sC s) + (nI 1)) R
    have N := AN_s (j := 14) (v := (sC s) + (nI 1)) N (by decide)
    have hv : (sC s) + (nI 1) = sC s + nI (acC P tr i) := by simp [acC, c1]
    refine V_aload_n (j := 1) (q := 54) dX8_access_53 rfl rfl ?_
    refine V_iload_n (j := 2) (q := 55) dX8_access_54 rfl rfl ?_
    refine V_iconst (q := 56) (v := nI 0) dX8_access_55 rfl rfl ?_
    refine V_cpV (q := 59) (S := []) (v := .int (nI (pFd P i 0))) kX8_72 (c_of (i := i) W (by omega) (by omega)) (W.1.1 0 _ rfl) rfl rfl rfl dX8_access_56 rfl ?_
    refine V_iconst (q := 60) (v := nI 2) dX8_access_59 rfl rfl ?_
    refine V_icmp_neN (tgt := 71) (q := 63) dX8_access_60 rfl rfl (by omega) (by omega) (fun c2 => ?_) (fun c2 => ?_)
    · skip
      have hk1 : pFd P i 0 = 1 := by simp [isAc] at ha; omega
      refine V_iload_n (j := 3) (q := 72) dX8_access_71 rfl rfl ?_
      refine V_if_eqB (tgt := 84) (q := 75) dX8_access_72 rfl rfl (fun _ => ?_) (fun z => absurd (z.symm.trans c1) (by decide))
      refine V_aload_n (j := 1) (q := 85) dX8_access_84 rfl rfl ?_
      refine V_iload_n (j := 2) (q := 86) dX8_access_85 rfl rfl ?_
      refine V_callV (q := 89) (S := []) kX8_156 (c_store W hi ha) (W.1.1 0 _ rfl) rfl rfl rfl dX8_access_86 rfl (fun r4 h5 p6 => ?_)
      obtain ⟨rfl, F2, B2⟩ := p6
      refine V_vret rfl dX8_access_89 rfl rfl ?_
      refine ⟨rfl, F1.tr (F2.X (Or.inl rfl)), RR_eq (RR_b (f := stoB (16 * pFd P i 1 + pFd P i 2) (sG s (pFd P i 4)) (pFd P i 3) (sB s)) R1 F2 (fun x hx => ?_)) ?_⟩
      · rw [B2]; unfold stoB; rw [R1.2.1 _ (by omega)]; split
        · rfl
        · exact R1.1 x hx
      · rw [acc_st (by omega) hv (by simp [c1, c2])]
    · skip
      refine V_aload_n (j := 1) (q := 64) dX8_access_63 rfl rfl ?_
      refine V_iload_n (j := 2) (q := 65) dX8_access_64 rfl rfl ?_
      refine V_callV (q := 68) (S := []) kX8_153 (c_load W hi ha) (W.1.1 0 _ rfl) rfl rfl rfl dX8_access_65 rfl (fun r7 h8 p9 => ?_)
      obtain ⟨rfl, rfl⟩ := p9
      refine V_goto (q := 89) dX8_access_68 rfl ?_
      refine V_vret rfl dX8_access_89 rfl rfl ?_
      refine ⟨rfl, F1.set (Or.inr (Or.inr (Or.inl rfl))), RR_eq (RR_g R1) ?_⟩
      rw [acc_ld c2 hv]
      rw [ldV_eq (f := hI _ (m + 9)) (f' := sB s) (fun x hx => R1.1 x hx) (by omega)]
  · skip
    refine V_aload_n (j := 1) (q := 27) dX8_access_26 rfl rfl ?_
    refine V_getP (q := 30) (r := (m + 7)) fX8_28 (W.1.1 0 _ rfl) rfl (W.1.2 7 _ rfl) dX8_access_27 rfl ?_
    refine V_iload_n (j := 0) (q := 31) dX8_access_30 rfl rfl ?_
    refine V_zald (q := 32) (W.1.1 7 _ rfl) (by omega) (by decide) dX8_access_31 rfl ?_
    refine V_rw (y := bi (prm P (acP P i))) ((anP N hvp).1) ?_
    refine V_if_neB (tgt := 44) (q := 35) dX8_access_32 rfl rfl (fun c10 => ?_) (fun c10 => ?_)
    · skip
      refine V_iconst (q := 45) (v := nI 0) dX8_access_44 rfl rfl ?_
      refine V_goto (q := 49) dX8_access_45 rfl ?_
      refine V_iadd (q := 50) dX8_access_49 rfl ?_
      refine V_putI (q := 53) wX8_150 (W.1.1 0 _ rfl) rfl dX8_access_50 rfl ?_
      have W : RF (sI h m 14 ((sC s) + (nI 0))) m P := RF_sI W (by omega)
      have F1 := (FX.rf h m).set (a := m) (x := 14) (v := (sC s) + (nI 0)) (Or.inl ⟨rfl, by decide⟩)
      have R1 := RR_c (v := (sC s) + (nI 0)) R
      have N := AN_s (j := 14) (v := (sC s) + (nI 0)) N (by decide)
      have hv : (sC s) + (nI 0) = sC s + nI (acC P tr i) := by simp [acC, c1, c10]
      refine V_aload_n (j := 1) (q := 54) dX8_access_53 rfl rfl ?_
      refine V_iload_n (j := 2) (q := 55) dX8_access_54 rfl rfl ?_
      refine V_iconst (q := 56) (v := nI 0) dX8_access_55 rfl rfl ?_
      refine V_cpV (q := 59) (S := []) (v := .int (nI (pFd P i 0))) kX8_72 (c_of (i := i) W (by omega) (by omega)) (W.1.1 0 _ rfl) rfl rfl rfl dX8_access_56 rfl ?_
      refine V_iconst (q := 60) (v := nI 2) dX8_access_59 rfl rfl ?_
      refine V_icmp_neN (tgt := 71) (q := 63) dX8_access_60 rfl rfl (by omega) (by omega) (fun c11 => ?_) (fun c11 => ?_)
      · skip
        have hk1 : pFd P i 0 = 1 := by simp [isAc] at ha; omega
        refine V_iload_n (j := 3) (q := 72) dX8_access_71 rfl rfl ?_
        refine V_if_eqB (tgt := 84) (q := 75) dX8_access_72 rfl rfl (fun z => absurd (z.symm.trans c1) (by decide)) (fun _ => ?_)
        refine V_aload_n (j := 1) (q := 76) dX8_access_75 rfl rfl ?_
        refine V_getP (q := 79) (r := (m + 8)) fX8_32 (W.1.1 0 _ rfl) rfl (W.1.2 8 _ rfl) dX8_access_76 rfl ?_
        refine V_iload_n (j := 0) (q := 80) dX8_access_79 rfl rfl ?_
        refine V_zald (q := 81) (W.1.1 8 _ rfl) (by omega) (by decide) dX8_access_80 rfl ?_
        refine V_rw (y := bi (liv P (acP P i))) ((anP N hvp).2) ?_
        refine V_if_eqB (tgt := 89) (q := 84) dX8_access_81 rfl rfl (fun c13 => ?_) (fun c13 => ?_)
        · skip
          refine V_vret rfl dX8_access_89 rfl rfl ?_
          refine ⟨rfl, F1, RR_eq R1 ?_⟩
          rw [acc_no (by omega) hv (by simp [c1, c10, c11, c13])]
        · skip
          refine V_aload_n (j := 1) (q := 85) dX8_access_84 rfl rfl ?_
          refine V_iload_n (j := 2) (q := 86) dX8_access_85 rfl rfl ?_
          refine V_callV (q := 89) (S := []) kX8_156 (c_store W hi ha) (W.1.1 0 _ rfl) rfl rfl rfl dX8_access_86 rfl (fun r14 h15 p16 => ?_)
          obtain ⟨rfl, F2, B2⟩ := p16
          refine V_vret rfl dX8_access_89 rfl rfl ?_
          refine ⟨rfl, F1.tr (F2.X (Or.inl rfl)), RR_eq (RR_b (f := stoB (16 * pFd P i 1 + pFd P i 2) (sG s (pFd P i 4)) (pFd P i 3) (sB s)) R1 F2 (fun x hx => ?_)) ?_⟩
          · rw [B2]; unfold stoB; rw [R1.2.1 _ (by omega)]; split
            · rfl
            · exact R1.1 x hx
          · rw [acc_st (by omega) hv (by simp [c1, c10, c11, c13])]
      · skip
        refine V_aload_n (j := 1) (q := 64) dX8_access_63 rfl rfl ?_
        refine V_iload_n (j := 2) (q := 65) dX8_access_64 rfl rfl ?_
        refine V_callV (q := 68) (S := []) kX8_153 (c_load W hi ha) (W.1.1 0 _ rfl) rfl rfl rfl dX8_access_65 rfl (fun r17 h18 p19 => ?_)
        obtain ⟨rfl, rfl⟩ := p19
        refine V_goto (q := 89) dX8_access_68 rfl ?_
        refine V_vret rfl dX8_access_89 rfl rfl ?_
        refine ⟨rfl, F1.set (Or.inr (Or.inr (Or.inl rfl))), RR_eq (RR_g R1) ?_⟩
        rw [acc_ld c11 hv]
        rw [ldV_eq (f := hI _ (m + 9)) (f' := sB s) (fun x hx => R1.1 x hx) (by omega)]
    · skip
      refine V_aload_n (j := 1) (q := 36) dX8_access_35 rfl rfl ?_
      refine V_getP (q := 39) (r := (m + 8)) fX8_32 (W.1.1 0 _ rfl) rfl (W.1.2 8 _ rfl) dX8_access_36 rfl ?_
      refine V_iload_n (j := 0) (q := 40) dX8_access_39 rfl rfl ?_
      refine V_zald (q := 41) (W.1.1 8 _ rfl) (by omega) (by decide) dX8_access_40 rfl ?_
      refine V_rw (y := bi (liv P (acP P i))) ((anP N hvp).2) ?_
      refine V_if_neB (tgt := 48) (q := 44) dX8_access_41 rfl rfl (fun c20 => ?_) (fun c20 => ?_)
      · skip
        refine V_iconst (q := 49) (v := nI 1) dX8_access_48 rfl rfl ?_
        refine V_iadd (q := 50) dX8_access_49 rfl ?_
        refine V_putI (q := 53) wX8_150 (W.1.1 0 _ rfl) rfl dX8_access_50 rfl ?_
        have W : RF (sI h m 14 ((sC s) + (nI 1))) m P := RF_sI W (by omega)
        have F1 := (FX.rf h m).set (a := m) (x := 14) (v := (sC s) + (nI 1)) (Or.inl ⟨rfl, by decide⟩)
        have R1 := RR_c (v := (sC s) + (nI 1)) R
        have N := AN_s (j := 14) (v := (sC s) + (nI 1)) N (by decide)
        have hv : (sC s) + (nI 1) = sC s + nI (acC P tr i) := by simp [acC, c1, c10, c20]
        refine V_aload_n (j := 1) (q := 54) dX8_access_53 rfl rfl ?_
        refine V_iload_n (j := 2) (q := 55) dX8_access_54 rfl rfl ?_
        refine V_iconst (q := 56) (v := nI 0) dX8_access_55 rfl rfl ?_
        refine V_cpV (q := 59) (S := []) (v := .int (nI (pFd P i 0))) kX8_72 (c_of (i := i) W (by omega) (by omega)) (W.1.1 0 _ rfl) rfl rfl rfl dX8_access_56 rfl ?_
        refine V_iconst (q := 60) (v := nI 2) dX8_access_59 rfl rfl ?_
        refine V_icmp_neN (tgt := 71) (q := 63) dX8_access_60 rfl rfl (by omega) (by omega) (fun c21 => ?_) (fun c21 => ?_)
        · skip
          have hk1 : pFd P i 0 = 1 := by simp [isAc] at ha; omega
          refine V_iload_n (j := 3) (q := 72) dX8_access_71 rfl rfl ?_
          refine V_if_eqB (tgt := 84) (q := 75) dX8_access_72 rfl rfl (fun z => absurd (z.symm.trans c1) (by decide)) (fun _ => ?_)
          refine V_aload_n (j := 1) (q := 76) dX8_access_75 rfl rfl ?_
          refine V_getP (q := 79) (r := (m + 8)) fX8_32 (W.1.1 0 _ rfl) rfl (W.1.2 8 _ rfl) dX8_access_76 rfl ?_
          refine V_iload_n (j := 0) (q := 80) dX8_access_79 rfl rfl ?_
          refine V_zald (q := 81) (W.1.1 8 _ rfl) (by omega) (by decide) dX8_access_80 rfl ?_
          refine V_rw (y := bi (liv P (acP P i))) ((anP N hvp).2) ?_
          refine V_if_eqB (tgt := 89) (q := 84) dX8_access_81 rfl rfl (fun z => absurd (z.symm.trans c20) (by decide)) (fun _ => ?_)
          refine V_aload_n (j := 1) (q := 85) dX8_access_84 rfl rfl ?_
          refine V_iload_n (j := 2) (q := 86) dX8_access_85 rfl rfl ?_
          refine V_callV (q := 89) (S := []) kX8_156 (c_store W hi ha) (W.1.1 0 _ rfl) rfl rfl rfl dX8_access_86 rfl (fun r24 h25 p26 => ?_)
          obtain ⟨rfl, F2, B2⟩ := p26
          refine V_vret rfl dX8_access_89 rfl rfl ?_
          refine ⟨rfl, F1.tr (F2.X (Or.inl rfl)), RR_eq (RR_b (f := stoB (16 * pFd P i 1 + pFd P i 2) (sG s (pFd P i 4)) (pFd P i 3) (sB s)) R1 F2 (fun x hx => ?_)) ?_⟩
          · rw [B2]; unfold stoB; rw [R1.2.1 _ (by omega)]; split
            · rfl
            · exact R1.1 x hx
          · rw [acc_st (by omega) hv (by simp [c1, c10, c20, c21])]
        · skip
          refine V_aload_n (j := 1) (q := 64) dX8_access_63 rfl rfl ?_
          refine V_iload_n (j := 2) (q := 65) dX8_access_64 rfl rfl ?_
          refine V_callV (q := 68) (S := []) kX8_153 (c_load W hi ha) (W.1.1 0 _ rfl) rfl rfl rfl dX8_access_65 rfl (fun r27 h28 p29 => ?_)
          obtain ⟨rfl, rfl⟩ := p29
          refine V_goto (q := 89) dX8_access_68 rfl ?_
          refine V_vret rfl dX8_access_89 rfl rfl ?_
          refine ⟨rfl, F1.set (Or.inr (Or.inr (Or.inl rfl))), RR_eq (RR_g R1) ?_⟩
          rw [acc_ld c21 hv]
          rw [ldV_eq (f := hI _ (m + 9)) (f' := sB s) (fun x hx => R1.1 x hx) (by omega)]
      · skip
        refine V_iconst (q := 45) (v := nI 0) dX8_access_44 rfl rfl ?_
        refine V_goto (q := 49) dX8_access_45 rfl ?_
        refine V_iadd (q := 50) dX8_access_49 rfl ?_
        refine V_putI (q := 53) wX8_150 (W.1.1 0 _ rfl) rfl dX8_access_50 rfl ?_
        have W : RF (sI h m 14 ((sC s) + (nI 0))) m P := RF_sI W (by omega)
        have F1 := (FX.rf h m).set (a := m) (x := 14) (v := (sC s) + (nI 0)) (Or.inl ⟨rfl, by decide⟩)
        have R1 := RR_c (v := (sC s) + (nI 0)) R
        have N := AN_s (j := 14) (v := (sC s) + (nI 0)) N (by decide)
        have hv : (sC s) + (nI 0) = sC s + nI (acC P tr i) := by simp [acC, c1, c10, c20]
        refine V_aload_n (j := 1) (q := 54) dX8_access_53 rfl rfl ?_
        refine V_iload_n (j := 2) (q := 55) dX8_access_54 rfl rfl ?_
        refine V_iconst (q := 56) (v := nI 0) dX8_access_55 rfl rfl ?_
        refine V_cpV (q := 59) (S := []) (v := .int (nI (pFd P i 0))) kX8_72 (c_of (i := i) W (by omega) (by omega)) (W.1.1 0 _ rfl) rfl rfl rfl dX8_access_56 rfl ?_
        refine V_iconst (q := 60) (v := nI 2) dX8_access_59 rfl rfl ?_
        refine V_icmp_neN (tgt := 71) (q := 63) dX8_access_60 rfl rfl (by omega) (by omega) (fun c30 => ?_) (fun c30 => ?_)
        · skip
          have hk1 : pFd P i 0 = 1 := by simp [isAc] at ha; omega
          refine V_iload_n (j := 3) (q := 72) dX8_access_71 rfl rfl ?_
          refine V_if_eqB (tgt := 84) (q := 75) dX8_access_72 rfl rfl (fun z => absurd (z.symm.trans c1) (by decide)) (fun _ => ?_)
          refine V_aload_n (j := 1) (q := 76) dX8_access_75 rfl rfl ?_
          refine V_getP (q := 79) (r := (m + 8)) fX8_32 (W.1.1 0 _ rfl) rfl (W.1.2 8 _ rfl) dX8_access_76 rfl ?_
          refine V_iload_n (j := 0) (q := 80) dX8_access_79 rfl rfl ?_
          refine V_zald (q := 81) (W.1.1 8 _ rfl) (by omega) (by decide) dX8_access_80 rfl ?_
          refine V_rw (y := bi (liv P (acP P i))) ((anP N hvp).2) ?_
          refine V_if_eqB (tgt := 89) (q := 84) dX8_access_81 rfl rfl (fun _ => ?_) (fun z => absurd (z.symm.trans c20) (by decide))
          refine V_vret rfl dX8_access_89 rfl rfl ?_
          refine ⟨rfl, F1, RR_eq R1 ?_⟩
          rw [acc_no (by omega) hv (by simp [c1, c10, c20, c30])]
        · skip
          refine V_aload_n (j := 1) (q := 64) dX8_access_63 rfl rfl ?_
          refine V_iload_n (j := 2) (q := 65) dX8_access_64 rfl rfl ?_
          refine V_callV (q := 68) (S := []) kX8_153 (c_load W hi ha) (W.1.1 0 _ rfl) rfl rfl rfl dX8_access_65 rfl (fun r33 h34 p35 => ?_)
          obtain ⟨rfl, rfl⟩ := p35
          refine V_goto (q := 89) dX8_access_68 rfl ?_
          refine V_vret rfl dX8_access_89 rfl rfl ?_
          refine ⟨rfl, F1.set (Or.inr (Or.inr (Or.inl rfl))), RR_eq (RR_g R1) ?_⟩
          rw [acc_ld c30 hv]
          rw [ldV_eq (f := hI _ (m + 9)) (f' := sB s) (fun x hx => R1.1 x hx) (by omega)]

set_option maxHeartbeats 4000000 in
set_option maxRecDepth 100000 in
theorem lp_copyPieces {g : GX} {h : AH} {m : Nat} {P : PG} (W : RF h m P) (N : AN h m P) {s : RSt} (R : RR h m s) {i : Nat} (hi : i < pNi P) (hc : pFd P i 0 = 3) : ∀ (t : Nat) (k : Nat) (e : AH), (k ≤ pFd P i 5) → (k < pFd P i 5 → pst P i k = true) → (FX h e m) → (RR e m ((cpS P i k (sB s, sC s)).1, sG s, sO s, sN s, sS s, (cpS P i k (sB s, sC s)).2, sT s)) → pFd P i 5 - k < t → V g mX8_copyPieces (thM g 3 0 0 (fun ρ η => ρ = none ∧ FX h η m ∧ RR η m ((cpS P i (pFd P i 5) (sB s, sC s)).1, sG s, sO s, sN s, sS s, (cpS P i (pFd P i 5) (sB s, sC s)).2, sT s))) e 0 0 [(0, .ref m), (1, .int (nI i)), (2, .int (nI k))] 2 [] := by
  intro t
  induction t with
  | zero =>
    intro k e hk hs F R2 hfu
    exact absurd hfu (Nat.not_lt_zero _)
  | succ t ih =>
    intro k e hk hs F R2 hfu
    have hN := W.2.2.2.2.1
    have hR := W.2.2.1
    have hcp := ok_cp W.2.2 hi hc
    have W := F.RF W
    have N := F.AN N
    have A := N.1
    refine V_iload_n (j := 2) (q := 3) dX8_copyPieces_2 rfl rfl ?_
    refine V_aload_n (j := 0) (q := 4) dX8_copyPieces_3 rfl rfl ?_
    refine V_iload_n (j := 1) (q := 5) dX8_copyPieces_4 rfl rfl ?_
    refine V_iconst (q := 6) (v := nI 5) dX8_copyPieces_5 rfl rfl ?_
    refine V_cpV (q := 9) (S := [.int (nI k)]) (v := .int (nI (pFd P i 5))) kX8_72 (c_of (i := i) W (by omega) (by omega)) (W.1.1 0 _ rfl) rfl rfl rfl dX8_copyPieces_6 rfl ?_
    refine V_icmp_geN (tgt := 141) (q := 12) dX8_copyPieces_9 rfl rfl (by omega) (by omega) (fun c1 => ?_) (fun c1 => ?_)
    · skip
      refine V_vret rfl dX8_copyPieces_141 rfl rfl ?_
      exact ⟨rfl, F, by rw [show k = pFd P i 5 by omega] at R2; exact R2⟩
    · skip
      have hpl := pln_spec c1
      have hvd := vpl_d W.2.2 hi hc c1
      have hvs := vpl_s W.2.2 hi hc c1
      have hd64 := vpl_lt W.2.2 hvd
      have hs64 := vpl_lt W.2.2 hvs
      refine V_aload_n (j := 0) (q := 13) dX8_copyPieces_12 rfl rfl ?_
      refine V_iload_n (j := 1) (q := 14) dX8_copyPieces_13 rfl rfl ?_
      refine V_iload_n (j := 2) (q := 15) dX8_copyPieces_14 rfl rfl ?_
      refine V_cpV (q := 18) (S := []) (v := .int (nI (pln P i k))) kX8_116 (c_pieceAt (i := i) (k := k) W A hi hc (by omega)) (W.1.1 0 _ rfl) rfl rfl rfl dX8_copyPieces_15 rfl ?_
      refine V_istore_n (q := 19) (L' := [(3, .int (nI (pln P i k))), (0, .ref m), (1, .int (nI i)), (2, .int (nI k))]) dX8_copyPieces_18 rfl rfl rfl ?_
      refine V_aload_n (j := 1) (q := 20) dX8_copyPieces_19 rfl rfl ?_
      refine V_aload_n (j := 1) (q := 21) dX8_copyPieces_20 rfl rfl ?_
      refine V_iload_n (j := 2) (q := 22) dX8_copyPieces_21 rfl rfl ?_
      refine V_iconst (q := 23) (v := nI 1) dX8_copyPieces_22 rfl rfl ?_
      refine V_cpV (q := 26) (S := [.ref m]) (v := .int (nI (pFd P i 1))) kX8_72 (c_of (i := i) W (by omega) (by omega)) (W.1.1 0 _ rfl) rfl rfl rfl dX8_copyPieces_23 rfl ?_
      refine V_aload_n (j := 1) (q := 27) dX8_copyPieces_26 rfl rfl ?_
      refine V_iload_n (j := 2) (q := 28) dX8_copyPieces_27 rfl rfl ?_
      refine V_iconst (q := 29) (v := nI 2) dX8_copyPieces_28 rfl rfl ?_
      refine V_cpV (q := 32) (S := [.int (nI (pFd P i 1)), .ref m]) (v := .int (nI (pFd P i 2))) kX8_72 (c_of (i := i) W (by omega) (by omega)) (W.1.1 0 _ rfl) rfl rfl rfl dX8_copyPieces_29 rfl ?_
      refine V_iload_n (j := 3) (q := 33) dX8_copyPieces_32 rfl rfl ?_
      refine V_iaddN (q := 34) dX8_copyPieces_33 rfl ?_
      refine V_cpV (q := 37) (S := []) (v := .int (nI (16 * (pFd P i 1) + pof P (pFd P i 1) (pFd P i 2 + k)))) kX8_110 (c_placeOf (r := pFd P i 1) (k := pFd P i 2 + k) W A (by omega) (by omega) (ptd_d hi hc (j := k) (by omega) (by omega))) (W.1.1 0 _ rfl) rfl rfl rfl dX8_copyPieces_34 rfl ?_
      refine V_rw (y := nI (dtP P i k)) rfl ?_
      refine V_istore (q := 39) (L' := [(4, .int (nI (dtP P i k))), (3, .int (nI (pln P i k))), (0, .ref m), (1, .int (nI i)), (2, .int (nI k))]) dX8_copyPieces_37 rfl rfl rfl ?_
      refine V_aload_n (j := 2) (q := 40) dX8_copyPieces_39 rfl rfl ?_
      refine V_aload_n (j := 2) (q := 41) dX8_copyPieces_40 rfl rfl ?_
      refine V_iload_n (j := 3) (q := 42) dX8_copyPieces_41 rfl rfl ?_
      refine V_iconst (q := 43) (v := nI 3) dX8_copyPieces_42 rfl rfl ?_
      refine V_cpV (q := 46) (S := [.ref m]) (v := .int (nI (pFd P i 3))) kX8_72 (c_of (i := i) W (by omega) (by omega)) (W.1.1 0 _ rfl) rfl rfl rfl dX8_copyPieces_43 rfl ?_
      refine V_aload_n (j := 2) (q := 47) dX8_copyPieces_46 rfl rfl ?_
      refine V_iload_n (j := 3) (q := 48) dX8_copyPieces_47 rfl rfl ?_
      refine V_iconst (q := 49) (v := nI 4) dX8_copyPieces_48 rfl rfl ?_
      refine V_cpV (q := 52) (S := [.int (nI (pFd P i 3)), .ref m]) (v := .int (nI (pFd P i 4))) kX8_72 (c_of (i := i) W (by omega) (by omega)) (W.1.1 0 _ rfl) rfl rfl rfl dX8_copyPieces_49 rfl ?_
      refine V_iload_n (j := 4) (q := 53) dX8_copyPieces_52 rfl rfl ?_
      refine V_iaddN (q := 54) dX8_copyPieces_53 rfl ?_
      refine V_cpV (q := 57) (S := []) (v := .int (nI (16 * (pFd P i 3) + pof P (pFd P i 3) (pFd P i 4 + k)))) kX8_110 (c_placeOf (r := pFd P i 3) (k := pFd P i 4 + k) W A (by omega) (by omega) (ptd_s hi hc (j := k) (by omega) (by omega))) (W.1.1 0 _ rfl) rfl rfl rfl dX8_copyPieces_54 rfl ?_
      refine V_rw (y := nI (srP P i k)) rfl ?_
      refine V_istore (q := 59) (L' := [(5, .int (nI (srP P i k))), (4, .int (nI (dtP P i k))), (3, .int (nI (pln P i k))), (0, .ref m), (1, .int (nI i)), (2, .int (nI k))]) dX8_copyPieces_57 rfl rfl rfl ?_
      refine V_aload_n (j := 3) (q := 60) dX8_copyPieces_59 rfl rfl ?_
      refine V_getP (q := 63) (r := (m + 8)) fX8_32 (W.1.1 0 _ rfl) rfl (W.1.2 8 _ rfl) dX8_copyPieces_60 rfl ?_
      refine V_iload (j := 1) (q := 65) dX8_copyPieces_63 rfl rfl ?_
      refine V_zald (q := 66) (W.1.1 8 _ rfl) (by omega) (by decide) dX8_copyPieces_65 rfl ?_
      refine V_rw (y := bi (liv P (dtP P i k))) ((anP N hvd).2) ?_
      refine V_if_eqB (tgt := 134) (q := 69) dX8_copyPieces_66 rfl rfl (fun c2 => ?_) (fun c2 => ?_)
      · skip
        refine V_iload_n (j := 5) (q := 135) dX8_copyPieces_134 rfl rfl ?_
        refine V_iload_n (j := 2) (q := 136) dX8_copyPieces_135 rfl rfl ?_
        refine V_iaddN (q := 137) dX8_copyPieces_136 rfl ?_
        refine V_istore_n (q := 138) (L' := [(2, .int (nI (k + (pln P i k)))), (5, .int (nI (srP P i k))), (4, .int (nI (dtP P i k))), (3, .int (nI (pln P i k))), (0, .ref m), (1, .int (nI i))]) dX8_copyPieces_137 rfl rfl rfl ?_
        refine V_goto (q := 2) dX8_copyPieces_138 rfl ?_
        refine V_sub (L' := [(0, .ref m), (1, .int (nI i)), (2, .int (nI (k + (pln P i k))))]) [4, 5, 0] rfl ?_
        refine ih (k + (pln P i k)) e ?_ ?_ ?_ ?_ ?_
        · omega
        · exact fun z => by simp [pst, hpl.2.2.2 z]
        · exact F
        · rw [cpS_add (fun j h1 h2 => by simp [pst, hpl.2.2.1 j h1 h2]; omega) hpl.1, cpS, if_neg (by simp [c2])]; exact R2
        · omega
      · skip
        refine V_aload_n (j := 3) (q := 70) dX8_copyPieces_69 rfl rfl ?_
        refine V_dup (q := 71) dX8_copyPieces_70 rfl rfl ?_
        refine V_getI (q := 74) fX8_150 (W.1.1 0 _ rfl) rfl dX8_copyPieces_71 rfl ?_
        refine V_rw (y := (cpS P i k (sB s, sC s)).2) R2.2.2.2.2.2.1 ?_
        refine V_aload_n (j := 3) (q := 75) dX8_copyPieces_74 rfl rfl ?_
        refine V_getP (q := 78) (r := (m + 7)) fX8_28 (W.1.1 0 _ rfl) rfl (W.1.2 7 _ rfl) dX8_copyPieces_75 rfl ?_
        refine V_iload (j := 1) (q := 80) dX8_copyPieces_78 rfl rfl ?_
        refine V_zald (q := 81) (W.1.1 7 _ rfl) (by omega) (by decide) dX8_copyPieces_80 rfl ?_
        refine V_rw (y := bi (prm P (dtP P i k))) ((anP N hvd).1) ?_
        refine V_if_eqB (tgt := 98) (q := 84) dX8_copyPieces_81 rfl rfl (fun c3 => ?_) (fun c3 => ?_)
        · skip
          refine V_aload_n (j := 3) (q := 99) dX8_copyPieces_98 rfl rfl ?_
          refine V_getP (q := 102) (r := (m + 7)) fX8_28 (W.1.1 0 _ rfl) rfl (W.1.2 7 _ rfl) dX8_copyPieces_99 rfl ?_
          refine V_iload (j := 1) (q := 104) dX8_copyPieces_102 rfl rfl ?_
          refine V_zald (q := 105) (W.1.1 7 _ rfl) (by omega) (by decide) dX8_copyPieces_104 rfl ?_
          refine V_rw (y := bi (prm P (dtP P i k))) ((anP N hvd).1) ?_
          refine V_if_neB (tgt := 118) (q := 108) dX8_copyPieces_105 rfl rfl (fun z => absurd (z.symm.trans c3) (by decide)) (fun _ => ?_)
          refine V_aload_n (j := 3) (q := 109) dX8_copyPieces_108 rfl rfl ?_
          refine V_getP (q := 112) (r := (m + 7)) fX8_28 (W.1.1 0 _ rfl) rfl (W.1.2 7 _ rfl) dX8_copyPieces_109 rfl ?_
          refine V_iload (j := 0) (q := 114) dX8_copyPieces_112 rfl rfl ?_
          refine V_zald (q := 115) (W.1.1 7 _ rfl) (by omega) (by decide) dX8_copyPieces_114 rfl ?_
          refine V_rw (y := bi (prm P (srP P i k))) ((anP N hvs).1) ?_
          refine V_if_eqB (tgt := 122) (q := 118) dX8_copyPieces_115 rfl rfl (fun c5 => ?_) (fun c5 => ?_)
          · skip
            refine V_iload_n (j := 2) (q := 123) dX8_copyPieces_122 rfl rfl ?_
            refine V_iadd (q := 124) dX8_copyPieces_123 rfl ?_
            refine V_putI (q := 127) wX8_150 (W.1.1 0 _ rfl) rfl dX8_copyPieces_124 rfl ?_
            have W : RF (sI e m 14 (((cpS P i k (sB s, sC s)).2) + (nI (pln P i k)))) m P := RF_sI W (by omega)
            have F1 := F.set (a := m) (x := 14) (v := ((cpS P i k (sB s, sC s)).2) + (nI (pln P i k))) (Or.inl ⟨rfl, by decide⟩)
            have R1 := RR_c (v := ((cpS P i k (sB s, sC s)).2) + (nI (pln P i k))) R2
            have hv : ((cpS P i k (sB s, sC s)).2) + (nI (pln P i k)) = (cpS P i k (sB s, sC s)).2 + nI (pcC P (dtP P i k) (srP P i k) (pln P i k)) := by simp [pcC, c1, c2, c3, c5]
            refine V_aload_n (j := 3) (q := 128) dX8_copyPieces_127 rfl rfl ?_
            refine V_iload_n (j := 4) (q := 129) dX8_copyPieces_128 rfl rfl ?_
            refine V_iload_n (j := 5) (q := 130) dX8_copyPieces_129 rfl rfl ?_
            refine V_iload_n (j := 2) (q := 131) dX8_copyPieces_130 rfl rfl ?_
            refine V_callV (q := 134) (S := []) kX8_159 (c_copyBytes (i := i) (k := k) (n := pln P i k) W hi hc (by omega)) (W.1.1 0 _ rfl) rfl rfl rfl dX8_copyPieces_131 rfl (fun r6 h7 p8 => ?_)
            obtain ⟨rfl, F2, B2⟩ := p8
            refine V_iload_n (j := 5) (q := 135) dX8_copyPieces_134 rfl rfl ?_
            refine V_iload_n (j := 2) (q := 136) dX8_copyPieces_135 rfl rfl ?_
            refine V_iaddN (q := 137) dX8_copyPieces_136 rfl ?_
            refine V_istore_n (q := 138) (L' := [(2, .int (nI (k + (pln P i k)))), (5, .int (nI (srP P i k))), (4, .int (nI (dtP P i k))), (3, .int (nI (pln P i k))), (0, .ref m), (1, .int (nI i))]) dX8_copyPieces_137 rfl rfl rfl ?_
            refine V_goto (q := 2) dX8_copyPieces_138 rfl ?_
            refine V_sub (L' := [(0, .ref m), (1, .int (nI i)), (2, .int (nI (k + (pln P i k))))]) [4, 5, 0] rfl ?_
            refine ih (k + (pln P i k)) h7 ?_ ?_ ?_ ?_ ?_
            · omega
            · exact fun z => by simp [pst, hpl.2.2.2 z]
            · exact F1.tr (F2.X (Or.inl rfl))
            · rw [cpS_add (fun j h1 h2 => by simp [pst, hpl.2.2.1 j h1 h2]; omega) hpl.1, cpS, if_pos ⟨hs (by omega), c2⟩]; dsimp only; rw [← hv]; exact RR_b R1 F2 (fun x hx => by rw [B2]; exact cpB_eq R1.1 (by omega) x hx)
            · omega
          · skip
            refine V_iconst (q := 119) (v := nI 1) dX8_copyPieces_118 rfl rfl ?_
            refine V_goto (q := 123) dX8_copyPieces_119 rfl ?_
            refine V_iadd (q := 124) dX8_copyPieces_123 rfl ?_
            refine V_putI (q := 127) wX8_150 (W.1.1 0 _ rfl) rfl dX8_copyPieces_124 rfl ?_
            have W : RF (sI e m 14 (((cpS P i k (sB s, sC s)).2) + (nI 1))) m P := RF_sI W (by omega)
            have F1 := F.set (a := m) (x := 14) (v := ((cpS P i k (sB s, sC s)).2) + (nI 1)) (Or.inl ⟨rfl, by decide⟩)
            have R1 := RR_c (v := ((cpS P i k (sB s, sC s)).2) + (nI 1)) R2
            have hv : ((cpS P i k (sB s, sC s)).2) + (nI 1) = (cpS P i k (sB s, sC s)).2 + nI (pcC P (dtP P i k) (srP P i k) (pln P i k)) := by simp [pcC, c1, c2, c3, c5]
            refine V_aload_n (j := 3) (q := 128) dX8_copyPieces_127 rfl rfl ?_
            refine V_iload_n (j := 4) (q := 129) dX8_copyPieces_128 rfl rfl ?_
            refine V_iload_n (j := 5) (q := 130) dX8_copyPieces_129 rfl rfl ?_
            refine V_iload_n (j := 2) (q := 131) dX8_copyPieces_130 rfl rfl ?_
            refine V_callV (q := 134) (S := []) kX8_159 (c_copyBytes (i := i) (k := k) (n := pln P i k) W hi hc (by omega)) (W.1.1 0 _ rfl) rfl rfl rfl dX8_copyPieces_131 rfl (fun r9 h10 p11 => ?_)
            obtain ⟨rfl, F2, B2⟩ := p11
            refine V_iload_n (j := 5) (q := 135) dX8_copyPieces_134 rfl rfl ?_
            refine V_iload_n (j := 2) (q := 136) dX8_copyPieces_135 rfl rfl ?_
            refine V_iaddN (q := 137) dX8_copyPieces_136 rfl ?_
            refine V_istore_n (q := 138) (L' := [(2, .int (nI (k + (pln P i k)))), (5, .int (nI (srP P i k))), (4, .int (nI (dtP P i k))), (3, .int (nI (pln P i k))), (0, .ref m), (1, .int (nI i))]) dX8_copyPieces_137 rfl rfl rfl ?_
            refine V_goto (q := 2) dX8_copyPieces_138 rfl ?_
            refine V_sub (L' := [(0, .ref m), (1, .int (nI i)), (2, .int (nI (k + (pln P i k))))]) [4, 5, 0] rfl ?_
            refine ih (k + (pln P i k)) h10 ?_ ?_ ?_ ?_ ?_
            · omega
            · exact fun z => by simp [pst, hpl.2.2.2 z]
            · exact F1.tr (F2.X (Or.inl rfl))
            · rw [cpS_add (fun j h1 h2 => by simp [pst, hpl.2.2.1 j h1 h2]; omega) hpl.1, cpS, if_pos ⟨hs (by omega), c2⟩]; dsimp only; rw [← hv]; exact RR_b R1 F2 (fun x hx => by rw [B2]; exact cpB_eq R1.1 (by omega) x hx)
            · omega
        · skip
          refine V_aload_n (j := 3) (q := 85) dX8_copyPieces_84 rfl rfl ?_
          refine V_getP (q := 88) (r := (m + 7)) fX8_28 (W.1.1 0 _ rfl) rfl (W.1.2 7 _ rfl) dX8_copyPieces_85 rfl ?_
          refine V_iload (j := 0) (q := 90) dX8_copyPieces_88 rfl rfl ?_
          refine V_zald (q := 91) (W.1.1 7 _ rfl) (by omega) (by decide) dX8_copyPieces_90 rfl ?_
          refine V_rw (y := bi (prm P (srP P i k))) ((anP N hvs).1) ?_
          refine V_if_eqB (tgt := 98) (q := 94) dX8_copyPieces_91 rfl rfl (fun c12 => ?_) (fun c12 => ?_)
          · skip
            refine V_aload_n (j := 3) (q := 99) dX8_copyPieces_98 rfl rfl ?_
            refine V_getP (q := 102) (r := (m + 7)) fX8_28 (W.1.1 0 _ rfl) rfl (W.1.2 7 _ rfl) dX8_copyPieces_99 rfl ?_
            refine V_iload (j := 1) (q := 104) dX8_copyPieces_102 rfl rfl ?_
            refine V_zald (q := 105) (W.1.1 7 _ rfl) (by omega) (by decide) dX8_copyPieces_104 rfl ?_
            refine V_rw (y := bi (prm P (dtP P i k))) ((anP N hvd).1) ?_
            refine V_if_neB (tgt := 118) (q := 108) dX8_copyPieces_105 rfl rfl (fun _ => ?_) (fun z => absurd (z.symm.trans c3) (by decide))
            refine V_iconst (q := 119) (v := nI 1) dX8_copyPieces_118 rfl rfl ?_
            refine V_goto (q := 123) dX8_copyPieces_119 rfl ?_
            refine V_iadd (q := 124) dX8_copyPieces_123 rfl ?_
            refine V_putI (q := 127) wX8_150 (W.1.1 0 _ rfl) rfl dX8_copyPieces_124 rfl ?_
            have W : RF (sI e m 14 (((cpS P i k (sB s, sC s)).2) + (nI 1))) m P := RF_sI W (by omega)
            have F1 := F.set (a := m) (x := 14) (v := ((cpS P i k (sB s, sC s)).2) + (nI 1)) (Or.inl ⟨rfl, by decide⟩)
            have R1 := RR_c (v := ((cpS P i k (sB s, sC s)).2) + (nI 1)) R2
            have hv : ((cpS P i k (sB s, sC s)).2) + (nI 1) = (cpS P i k (sB s, sC s)).2 + nI (pcC P (dtP P i k) (srP P i k) (pln P i k)) := by simp [pcC, c1, c2, c3, c12]
            refine V_aload_n (j := 3) (q := 128) dX8_copyPieces_127 rfl rfl ?_
            refine V_iload_n (j := 4) (q := 129) dX8_copyPieces_128 rfl rfl ?_
            refine V_iload_n (j := 5) (q := 130) dX8_copyPieces_129 rfl rfl ?_
            refine V_iload_n (j := 2) (q := 131) dX8_copyPieces_130 rfl rfl ?_
            refine V_callV (q := 134) (S := []) kX8_159 (c_copyBytes (i := i) (k := k) (n := pln P i k) W hi hc (by omega)) (W.1.1 0 _ rfl) rfl rfl rfl dX8_copyPieces_131 rfl (fun r14 h15 p16 => ?_)
            obtain ⟨rfl, F2, B2⟩ := p16
            refine V_iload_n (j := 5) (q := 135) dX8_copyPieces_134 rfl rfl ?_
            refine V_iload_n (j := 2) (q := 136) dX8_copyPieces_135 rfl rfl ?_
            refine V_iaddN (q := 137) dX8_copyPieces_136 rfl ?_
            refine V_istore_n (q := 138) (L' := [(2, .int (nI (k + (pln P i k)))), (5, .int (nI (srP P i k))), (4, .int (nI (dtP P i k))), (3, .int (nI (pln P i k))), (0, .ref m), (1, .int (nI i))]) dX8_copyPieces_137 rfl rfl rfl ?_
            refine V_goto (q := 2) dX8_copyPieces_138 rfl ?_
            refine V_sub (L' := [(0, .ref m), (1, .int (nI i)), (2, .int (nI (k + (pln P i k))))]) [4, 5, 0] rfl ?_
            refine ih (k + (pln P i k)) h15 ?_ ?_ ?_ ?_ ?_
            · omega
            · exact fun z => by simp [pst, hpl.2.2.2 z]
            · exact F1.tr (F2.X (Or.inl rfl))
            · rw [cpS_add (fun j h1 h2 => by simp [pst, hpl.2.2.1 j h1 h2]; omega) hpl.1, cpS, if_pos ⟨hs (by omega), c2⟩]; dsimp only; rw [← hv]; exact RR_b R1 F2 (fun x hx => by rw [B2]; exact cpB_eq R1.1 (by omega) x hx)
            · omega
          · skip
            refine V_iconst (q := 95) (v := nI 0) dX8_copyPieces_94 rfl rfl ?_
            refine V_goto (q := 123) dX8_copyPieces_95 rfl ?_
            refine V_iadd (q := 124) dX8_copyPieces_123 rfl ?_
            refine V_putI (q := 127) wX8_150 (W.1.1 0 _ rfl) rfl dX8_copyPieces_124 rfl ?_
            have W : RF (sI e m 14 (((cpS P i k (sB s, sC s)).2) + (nI 0))) m P := RF_sI W (by omega)
            have F1 := F.set (a := m) (x := 14) (v := ((cpS P i k (sB s, sC s)).2) + (nI 0)) (Or.inl ⟨rfl, by decide⟩)
            have R1 := RR_c (v := ((cpS P i k (sB s, sC s)).2) + (nI 0)) R2
            have hv : ((cpS P i k (sB s, sC s)).2) + (nI 0) = (cpS P i k (sB s, sC s)).2 + nI (pcC P (dtP P i k) (srP P i k) (pln P i k)) := by simp [pcC, c1, c2, c3, c12]
            refine V_aload_n (j := 3) (q := 128) dX8_copyPieces_127 rfl rfl ?_
            refine V_iload_n (j := 4) (q := 129) dX8_copyPieces_128 rfl rfl ?_
            refine V_iload_n (j := 5) (q := 130) dX8_copyPieces_129 rfl rfl ?_
            refine V_iload_n (j := 2) (q := 131) dX8_copyPieces_130 rfl rfl ?_
            refine V_callV (q := 134) (S := []) kX8_159 (c_copyBytes (i := i) (k := k) (n := pln P i k) W hi hc (by omega)) (W.1.1 0 _ rfl) rfl rfl rfl dX8_copyPieces_131 rfl (fun r17 h18 p19 => ?_)
            obtain ⟨rfl, F2, B2⟩ := p19
            refine V_iload_n (j := 5) (q := 135) dX8_copyPieces_134 rfl rfl ?_
            refine V_iload_n (j := 2) (q := 136) dX8_copyPieces_135 rfl rfl ?_
            refine V_iaddN (q := 137) dX8_copyPieces_136 rfl ?_
            refine V_istore_n (q := 138) (L' := [(2, .int (nI (k + (pln P i k)))), (5, .int (nI (srP P i k))), (4, .int (nI (dtP P i k))), (3, .int (nI (pln P i k))), (0, .ref m), (1, .int (nI i))]) dX8_copyPieces_137 rfl rfl rfl ?_
            refine V_goto (q := 2) dX8_copyPieces_138 rfl ?_
            refine V_sub (L' := [(0, .ref m), (1, .int (nI i)), (2, .int (nI (k + (pln P i k))))]) [4, 5, 0] rfl ?_
            refine ih (k + (pln P i k)) h18 ?_ ?_ ?_ ?_ ?_
            · omega
            · exact fun z => by simp [pst, hpl.2.2.2 z]
            · exact F1.tr (F2.X (Or.inl rfl))
            · rw [cpS_add (fun j h1 h2 => by simp [pst, hpl.2.2.1 j h1 h2]; omega) hpl.1, cpS, if_pos ⟨hs (by omega), c2⟩]; dsimp only; rw [← hv]; exact RR_b R1 F2 (fun x hx => by rw [B2]; exact cpB_eq R1.1 (by omega) x hx)
            · omega

set_option maxHeartbeats 4000000 in
set_option maxRecDepth 100000 in
theorem c_copyPieces {g : GX} {h : AH} {m : Nat} {P : PG} (W : RF h m P) (N : AN h m P) {s : RSt} (R : RR h m s) {i : Nat} (hi : i < pNi P) (hc : pFd P i 0 = 3) : Ct g mX8_copyPieces 3 0 0 [.ref m, .int (nI i)] h (fun ρ η => ρ = none ∧ FX h η m ∧ RR η m ((cpS P i (pFd P i 5) (sB s, sC s)).1, sG s, sO s, sN s, sS s, (cpS P i (pFd P i 5) (sB s, sC s)).2, sT s)) := by
  refine Ct_intro (by decide +kernel) (Nat.le_of_ble_eq_true rfl) ?_
  show V g mX8_copyPieces _ h 0 0 [(0, .ref m), (1, .int (nI i))] 0 []
  have hN := W.2.2.2.2.1
  have hR := W.2.2.1
  have hcp := ok_cp W.2.2 hi hc
  refine V_iconst (q := 1) (v := nI 0) dX8_copyPieces_0 rfl rfl ?_
  refine V_istore_n (q := 2) (L' := [(2, .int (nI 0)), (0, .ref m), (1, .int (nI i))]) dX8_copyPieces_1 rfl rfl rfl ?_
  refine V_sub (L' := [(0, .ref m), (1, .int (nI i)), (2, .int (nI 0))]) [1, 2, 0] rfl ?_
  refine lp_copyPieces W N R hi hc (pFd P i 5 - 0 + 1) 0 h ?_ ?_ ?_ ?_ ?_
  · omega
  · exact fun _ => rfl
  · exact FX.rf h m
  · exact R
  · exact Nat.lt_succ_self _


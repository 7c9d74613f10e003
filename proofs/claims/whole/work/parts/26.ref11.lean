theorem RR_e {h e : AH} {m r : Nat} {s : RSt} {n : Nat} (R : RR h m s) (hr : 16 * r + n ≤ 64) (h0 : 1 ≤ n) (e9 : hI e (m + 9) = upd (hI h (m + 9)) (16 * r) ((hI h (m + 9) (16 * r) + nI 1) &&& nI 255)) (e10 : hI e (m + 10) = hI h (m + 10)) (e11 : hI e (m + 11) = hI h (m + 11)) (e13 : hI e m 13 = esS (hI h (m + 9)) (16 * r) (hI h m 13) n) (ej : ∀ j, j ≠ 13 → hI e m j = hI h m j) : RR e m (upd (sB s) (16 * r) ((sB s (16 * r) + nI 1) &&& nI 255), sG s, sO s, sN s, esS (sB s) (16 * r) (sS s) n, sC s, sT s) := by
  obtain ⟨r1, r2, r3, r4, r5, r6, r7⟩ := R
  refine ⟨fun x hx => ?_, fun x hx => by rw [e10]; exact r2 x hx, fun x hx => by rw [e11]; exact r3 x hx, by rw [ej 12 (by decide)]; exact r4, ?_, by rw [ej 14 (by decide)]; exact r6, by rw [ej 15 (by decide)]; exact r7⟩
  · rw [e9]
    show upd _ _ _ _ = upd _ _ _ _
    unfold upd
    split
    · rw [r1 _ (by omega)]
    · exact r1 x hx
  · rw [e13, r5]; exact esS_eq r1 (by omega)
theorem RR_o {h : AH} {m : Nat} {s : RSt} {v : Int32} (R : RR h m s) : RR (sI (sI h (m + 11) (sN s) v) m 12 (nI (sN s + 1))) m (sB s, sG s, upd (sO s) (sN s) v, sN s + 1, sS s, sC s, sT s) := by
  obtain ⟨r1, r2, r3, r4, r5, r6, r7⟩ := R
  refine ⟨fun x hx => ?_, fun x hx => ?_, fun x hx => ?_, ?_, ?_, ?_, ?_⟩
  · rw [hI_n (by omega), hI_n (by omega)]; exact r1 x hx
  · rw [hI_n (by omega), hI_n (by omega)]; exact r2 x hx
  · rw [hI_n (by omega), hI_s]
    show _ = upd _ _ _ _
    unfold upd
    by_cases z : x = sN s
    · rw [if_pos ⟨rfl, z⟩, if_pos z]
    · rw [if_neg (fun w => z w.2), if_neg z]; exact r3 x (by have hx : x < sN s + 1 := hx; omega)
  · rw [hI_s, if_pos ⟨rfl, rfl⟩]
  · rw [hI_s, if_neg (by omega), hI_n (by omega)]; exact r5
  · rw [hI_s, if_neg (by omega), hI_n (by omega)]; exact r6
  · rw [hI_s, if_neg (by omega), hI_n (by omega)]; exact r7

set_option maxHeartbeats 4000000 in
set_option maxRecDepth 100000 in
theorem c_executes {g : GX} {h : AH} {m : Nat} {P : PG} (W : RF h m P) (N : AN h m P) {s : RSt} (R : RR h m s) {i : Nat} {tr : Bool} (hi : i < pNi P) (hn : sN s ≤ i) : Ct g mX8_executes 4 0 0 [.ref m, .int (nI i), .int (bi tr)] h (fun ρ η => ρ = some (.int (nI (skp P i s))) ∧ FX h η m ∧ RR η m (stp P tr i s)) := by
  refine Ct_intro (by decide +kernel) (Nat.le_of_ble_eq_true rfl) ?_
  show V g mX8_executes _ h 0 0 [(0, .ref m), (1, .int (nI i)), (2, .int (bi tr))] 0 []
  have hN := W.2.2.2.2.1
  have hR := W.2.2.1
  refine V_aload_n (j := 0) (q := 1) dX8_executes_0 rfl rfl ?_
  refine V_iload_n (j := 1) (q := 2) dX8_executes_1 rfl rfl ?_
  refine V_iconst (q := 3) (v := nI 0) dX8_executes_2 rfl rfl ?_
  refine V_cpV (q := 6) (S := []) (v := .int (nI (pFd P i 0))) kX8_72 (c_of (i := i) W (by omega) (by omega)) (W.1.1 0 _ rfl) rfl rfl rfl dX8_executes_3 rfl ?_
  have hk9 := ok_kd W.2.2 hi
  rcases (show pFd P i 0 = 1 ∨ pFd P i 0 = 2 ∨ pFd P i 0 = 3 ∨ pFd P i 0 = 4 ∨ pFd P i 0 = 5 ∨ pFd P i 0 = 6 ∨ pFd P i 0 = 7 ∨ pFd P i 0 = 8 by omega) with hk | hk | hk | hk | hk | hk | hk | hk
  · skip
    refine V_rw (y := nI 1) (by rw [hk]) ?_
    refine V_tableIn (tgt := 48) dX8_executes_6 (by decide) (by decide) rfl rfl ?_
    refine V_aload_n (j := 0) (q := 49) dX8_executes_48 rfl rfl ?_
    refine V_iload_n (j := 1) (q := 50) dX8_executes_49 rfl rfl ?_
    refine V_iload_n (j := 2) (q := 51) dX8_executes_50 rfl rfl ?_
    refine V_callV (q := 54) (S := []) kX8_172 (c_access (tr := tr) W N R hi (by simp [isAc, hk])) (W.1.1 0 _ rfl) rfl rfl rfl dX8_executes_51 rfl (fun r1 h2 p3 => ?_)
    obtain ⟨rfl, F2, R2⟩ := p3
    refine V_iconst (q := 55) (v := nI 0) dX8_executes_54 rfl rfl ?_
    refine V_iret rfl dX8_executes_55 rfl rfl ?_
    exact ⟨pv (by simp [skp, hk]), F2, R2⟩
  · skip
    refine V_rw (y := nI 2) (by rw [hk]) ?_
    refine V_tableIn (tgt := 48) dX8_executes_6 (by decide) (by decide) rfl rfl ?_
    refine V_aload_n (j := 0) (q := 49) dX8_executes_48 rfl rfl ?_
    refine V_iload_n (j := 1) (q := 50) dX8_executes_49 rfl rfl ?_
    refine V_iload_n (j := 2) (q := 51) dX8_executes_50 rfl rfl ?_
    refine V_callV (q := 54) (S := []) kX8_172 (c_access (tr := tr) W N R hi (by simp [isAc, hk])) (W.1.1 0 _ rfl) rfl rfl rfl dX8_executes_51 rfl (fun r4 h5 p6 => ?_)
    obtain ⟨rfl, F2, R2⟩ := p6
    refine V_iconst (q := 55) (v := nI 0) dX8_executes_54 rfl rfl ?_
    refine V_iret rfl dX8_executes_55 rfl rfl ?_
    exact ⟨pv (by simp [skp, hk]), F2, R2⟩
  · skip
    have hcp := ok_cp W.2.2 hi hk
    refine V_rw (y := nI 3) (by rw [hk]) ?_
    refine V_tableIn (tgt := 56) dX8_executes_6 (by decide) (by decide) rfl rfl ?_
    refine V_iload_n (j := 2) (q := 57) dX8_executes_56 rfl rfl ?_
    refine V_if_eqB (tgt := 68) (q := 60) dX8_executes_57 rfl rfl (fun c7 => ?_) (fun c7 => ?_)
    · skip
      refine V_aload_n (j := 0) (q := 69) dX8_executes_68 rfl rfl ?_
      refine V_dup (q := 70) dX8_executes_69 rfl rfl ?_
      refine V_getI (q := 73) fX8_150 (W.1.1 0 _ rfl) rfl dX8_executes_70 rfl ?_
      refine V_rw (y := sC s) R.2.2.2.2.2.1 ?_
      refine V_aload_n (j := 0) (q := 74) dX8_executes_73 rfl rfl ?_
      refine V_iload_n (j := 1) (q := 75) dX8_executes_74 rfl rfl ?_
      refine V_iconst (q := 76) (v := nI 5) dX8_executes_75 rfl rfl ?_
      refine V_cpV (q := 79) (S := [.int (sC s), .ref m]) (v := .int (nI (pFd P i 5))) kX8_72 (c_of (i := i) W (by omega) (by omega)) (W.1.1 0 _ rfl) rfl rfl rfl dX8_executes_76 rfl ?_
      refine V_iadd (q := 80) dX8_executes_79 rfl ?_
      refine V_putI (q := 83) wX8_150 (W.1.1 0 _ rfl) rfl dX8_executes_80 rfl ?_
      have W : RF (sI h m 14 ((sC s) + (nI (pFd P i 5)))) m P := RF_sI W (by omega)
      have F1 := (FX.rf h m).set (a := m) (x := 14) (v := (sC s) + (nI (pFd P i 5))) (Or.inl ⟨rfl, by decide⟩)
      have R1 := RR_c (v := (sC s) + (nI (pFd P i 5))) R
      refine V_aload_n (j := 0) (q := 84) dX8_executes_83 rfl rfl ?_
      refine V_iload_n (j := 1) (q := 85) dX8_executes_84 rfl rfl ?_
      refine V_iconst (q := 86) (v := nI 0) dX8_executes_85 rfl rfl ?_
      refine V_aload_n (j := 0) (q := 87) dX8_executes_86 rfl rfl ?_
      refine V_iload_n (j := 1) (q := 88) dX8_executes_87 rfl rfl ?_
      refine V_iconst (q := 89) (v := nI 5) dX8_executes_88 rfl rfl ?_
      refine V_cpV (q := 92) (S := [.int (nI 0), .int (nI i), .ref m]) (v := .int (nI (pFd P i 5))) kX8_72 (c_of (i := i) W (by omega) (by omega)) (W.1.1 0 _ rfl) rfl rfl rfl dX8_executes_89 rfl ?_
      refine V_callV (q := 95) (S := []) kX8_159 (c_copyBytes (i := i) (k := 0) (n := pFd P i 5) W hi hk (by omega)) (W.1.1 0 _ rfl) rfl rfl rfl dX8_executes_92 rfl (fun r8 h9 p10 => ?_)
      obtain ⟨rfl, F2, B2⟩ := p10
      refine V_iconst (q := 96) (v := nI 0) dX8_executes_95 rfl rfl ?_
      refine V_iret rfl dX8_executes_96 rfl rfl ?_
      exact ⟨pv (by simp [skp, hk]), F1.tr (F2.X (Or.inl rfl)), RR_eq (RR_b (f := cpB (16 * pFd P i 1 + pFd P i 2) (16 * pFd P i 3 + pFd P i 4) (pFd P i 5) (sB s)) R1 F2 (fun x hx => by rw [B2]; exact cpB_eq R1.1 (by omega) x hx)) (by simp [stp, hk, c7])⟩
    · skip
      refine V_aload_n (j := 0) (q := 61) dX8_executes_60 rfl rfl ?_
      refine V_iload_n (j := 1) (q := 62) dX8_executes_61 rfl rfl ?_
      refine V_callV (q := 65) (S := []) kX8_176 (c_copyPieces W N R hi hk) (W.1.1 0 _ rfl) rfl rfl rfl dX8_executes_62 rfl (fun r11 h12 p13 => ?_)
      obtain ⟨rfl, F2, R2⟩ := p13
      refine V_goto (q := 95) dX8_executes_65 rfl ?_
      refine V_iconst (q := 96) (v := nI 0) dX8_executes_95 rfl rfl ?_
      refine V_iret rfl dX8_executes_96 rfl rfl ?_
      exact ⟨pv (by simp [skp, hk]), F2, RR_eq R2 (by simp [stp, hk, c7])⟩
  · skip
    have h4 := ok_es W.2.2 hi hk
    have hS := W.2.2.2.1 _ h4
    refine V_rw (y := nI 4) (by rw [hk]) ?_
    refine V_tableIn (tgt := 97) dX8_executes_6 (by decide) (by decide) rfl rfl ?_
    refine V_aload_n (j := 0) (q := 98) dX8_executes_97 rfl rfl ?_
    refine V_dup (q := 99) dX8_executes_98 rfl rfl ?_
    refine V_getI (q := 102) fX8_150 (W.1.1 0 _ rfl) rfl dX8_executes_99 rfl ?_
    refine V_rw (y := sC s) R.2.2.2.2.2.1 ?_
    refine V_aload_n (j := 0) (q := 103) dX8_executes_102 rfl rfl ?_
    refine V_getP (q := 106) (r := (m + 1)) fX8_7 (W.1.1 0 _ rfl) rfl (W.1.2 0 _ rfl) dX8_executes_103 rfl ?_
    refine V_iconst (q := 107) (v := nI 1) dX8_executes_106 rfl rfl ?_
    refine V_aload_n (j := 0) (q := 108) dX8_executes_107 rfl rfl ?_
    refine V_iload_n (j := 1) (q := 109) dX8_executes_108 rfl rfl ?_
    refine V_iconst (q := 110) (v := nI 1) dX8_executes_109 rfl rfl ?_
    refine V_cpV (q := 113) (S := [.int (nI 1), .ref (m + 1), .int (sC s), .ref m]) (v := .int (nI (pFd P i 1))) kX8_72 (c_of (i := i) W (by omega) (by omega)) (W.1.1 0 _ rfl) rfl rfl rfl dX8_executes_110 rfl ?_
    refine V_iaddN (q := 114) dX8_executes_113 rfl ?_
    refine V_iald (q := 115) (W.1.1 1 _ rfl) (by omega) (by decide) dX8_executes_114 rfl ?_
    refine V_rw (y := nI (pSz P (pFd P i 1))) (W.2.1.2.1 _ (by omega)) ?_
    refine V_iadd (q := 116) dX8_executes_115 rfl ?_
    refine V_putI (q := 119) wX8_150 (W.1.1 0 _ rfl) rfl dX8_executes_116 rfl ?_
    have W : RF (sI h m 14 ((sC s) + (nI (pSz P (pFd P i 1))))) m P := RF_sI W (by omega)
    have F1 := (FX.rf h m).set (a := m) (x := 14) (v := (sC s) + (nI (pSz P (pFd P i 1)))) (Or.inl ⟨rfl, by decide⟩)
    have R1 := RR_c (v := (sC s) + (nI (pSz P (pFd P i 1)))) R
    refine V_aload_n (j := 0) (q := 120) dX8_executes_119 rfl rfl ?_
    refine V_aload_n (j := 0) (q := 121) dX8_executes_120 rfl rfl ?_
    refine V_iload_n (j := 1) (q := 122) dX8_executes_121 rfl rfl ?_
    refine V_iconst (q := 123) (v := nI 1) dX8_executes_122 rfl rfl ?_
    refine V_cpV (q := 126) (S := [.ref m]) (v := .int (nI (pFd P i 1))) kX8_72 (c_of (i := i) W (by omega) (by omega)) (W.1.1 0 _ rfl) rfl rfl rfl dX8_executes_123 rfl ?_
    refine V_callV (q := 129) (S := []) kX8_179 (c_escape (r := pFd P i 1) W (by omega)) (W.1.1 0 _ rfl) rfl rfl rfl dX8_executes_126 rfl (fun r14 h15 p16 => ?_)
    obtain ⟨rfl, F2, e9, e10, e11, e13, ej⟩ := p16
    refine V_iconst (q := 130) (v := nI 0) dX8_executes_129 rfl rfl ?_
    refine V_iret rfl dX8_executes_130 rfl rfl ?_
    exact ⟨pv (by simp [skp, hk]), F1.tr F2, RR_eq (RR_e R1 (by omega) (by omega) e9 e10 e11 e13 ej) (by simp [stp, hk])⟩
  · skip
    have h5 := (W.2.2.2.2.2 i hi).2.2.2.2.1 hk
    refine V_rw (y := nI 5) (by rw [hk]) ?_
    refine V_tableIn (tgt := 131) dX8_executes_6 (by decide) (by decide) rfl rfl ?_
    refine V_aload_n (j := 0) (q := 132) dX8_executes_131 rfl rfl ?_
    refine V_getP (q := 135) (r := (m + 10)) fX8_38 (W.1.1 0 _ rfl) rfl (W.1.2 10 _ rfl) dX8_executes_132 rfl ?_
    refine V_aload_n (j := 0) (q := 136) dX8_executes_135 rfl rfl ?_
    refine V_iload_n (j := 1) (q := 137) dX8_executes_136 rfl rfl ?_
    refine V_iconst (q := 138) (v := nI 1) dX8_executes_137 rfl rfl ?_
    refine V_cpV (q := 141) (S := [.ref (m + 10)]) (v := .int (nI (pFd P i 1))) kX8_72 (c_of (i := i) W (by omega) (by omega)) (W.1.1 0 _ rfl) rfl rfl rfl dX8_executes_138 rfl ?_
    refine V_aload_n (j := 0) (q := 142) dX8_executes_141 rfl rfl ?_
    refine V_iload_n (j := 1) (q := 143) dX8_executes_142 rfl rfl ?_
    refine V_iconst (q := 144) (v := nI 2) dX8_executes_143 rfl rfl ?_
    refine V_cpV (q := 147) (S := [.int (nI (pFd P i 1)), .ref (m + 10)]) (v := .int (nI (pFd P i 2))) kX8_72 (c_of (i := i) W (by omega) (by omega)) (W.1.1 0 _ rfl) rfl rfl rfl dX8_executes_144 rfl ?_
    refine V_iast (q := 148) (W.1.1 10 _ rfl) (by omega) (by decide) dX8_executes_147 rfl ?_
    have W : RF (sI h (m + 10) (pFd P i 1) (nI (pFd P i 2))) m P := RF_sI W (by omega)
    refine V_iconst (q := 149) (v := nI 0) dX8_executes_148 rfl rfl ?_
    refine V_iret rfl dX8_executes_149 rfl rfl ?_
    exact ⟨pv (by simp [skp, hk]), (FX.rf h m).set (Or.inr (Or.inr (Or.inl rfl))), RR_eq (RR_g R) (by simp [stp, hk])⟩
  · skip
    have h6 := (W.2.2.2.2.2 i hi).2.2.2.2.2.1 hk
    refine V_rw (y := nI 6) (by rw [hk]) ?_
    refine V_tableIn (tgt := 150) dX8_executes_6 (by decide) (by decide) rfl rfl ?_
    refine V_aload_n (j := 0) (q := 151) dX8_executes_150 rfl rfl ?_
    refine V_aload_n (j := 0) (q := 152) dX8_executes_151 rfl rfl ?_
    refine V_iload_n (j := 1) (q := 153) dX8_executes_152 rfl rfl ?_
    refine V_callV (q := 156) (S := [.ref m]) kX8_182 (c_adds W hi hk) (W.1.1 0 _ rfl) rfl rfl rfl dX8_executes_153 rfl (fun r17 h18 p19 => ?_)
    obtain ⟨rfl, he⟩ := p19
    rw [R.2.1 _ (by omega), R.2.1 _ (by omega)] at he ⊢
    have W : RF h18 m P := by rw [he]; split; (exact W); exact RF_sI W (by omega)
    refine V_if_eqB (tgt := 163) (q := 159) dX8_executes_156 rfl rfl (fun c20 => ?_) (fun c20 => ?_)
    · skip
      refine V_bipush (q := 165) (v := (-9)) dX8_executes_163 rfl (by decide) ?_
      refine V_putI (q := 168) wX8_165 (W.1.1 0 _ rfl) rfl dX8_executes_165 rfl ?_
      have W : RF (sI h18 m 15 (-9)) m P := RF_sI W (by omega)
      refine V_iconst (q := 169) (v := nI 0) dX8_executes_168 rfl rfl ?_
      refine V_iret rfl dX8_executes_169 rfl rfl ?_
      rw [c20] at he
      rw [if_neg (by decide)] at he
      subst he
      exact ⟨pv (by simp [skp, hk]), ((FX.rf h m).set (Or.inr (Or.inr (Or.inl rfl)))).set (Or.inl ⟨rfl, by decide⟩), RR_eq (RR_t (RR_g R)) (by unfold stp; rw [if_neg (by omega), if_neg (by omega), if_neg (by omega), if_neg (by omega), if_neg (by omega), if_pos hk, if_neg (by rw [c20]; decide)])⟩
    · skip
      refine V_iload_n (j := 1) (q := 160) dX8_executes_159 rfl rfl ?_
      refine V_goto (q := 165) dX8_executes_160 rfl ?_
      refine V_putI (q := 168) wX8_165 (W.1.1 0 _ rfl) rfl dX8_executes_165 rfl ?_
      have W : RF (sI h18 m 15 (nI i)) m P := RF_sI W (by omega)
      refine V_iconst (q := 169) (v := nI 0) dX8_executes_168 rfl rfl ?_
      refine V_iret rfl dX8_executes_169 rfl rfl ?_
      rw [c20] at he
      rw [if_pos rfl] at he
      subst he
      exact ⟨pv (by simp [skp, hk]), (FX.rf _ m).set (Or.inl ⟨rfl, by decide⟩), RR_eq (RR_t R) (by simp [stp, hk, c20])⟩
  · skip
    have h7 := (W.2.2.2.2.2 i hi).2.2.2.2.2.2.1 hk
    refine V_rw (y := nI 7) (by rw [hk]) ?_
    refine V_tableIn (tgt := 170) dX8_executes_6 (by decide) (by decide) rfl rfl ?_
    refine V_aload_n (j := 0) (q := 171) dX8_executes_170 rfl rfl ?_
    refine V_getP (q := 174) (r := (m + 10)) fX8_38 (W.1.1 0 _ rfl) rfl (W.1.2 10 _ rfl) dX8_executes_171 rfl ?_
    refine V_aload_n (j := 0) (q := 175) dX8_executes_174 rfl rfl ?_
    refine V_iload_n (j := 1) (q := 176) dX8_executes_175 rfl rfl ?_
    refine V_iconst (q := 177) (v := nI 1) dX8_executes_176 rfl rfl ?_
    refine V_cpV (q := 180) (S := [.ref (m + 10)]) (v := .int (nI (pFd P i 1))) kX8_72 (c_of (i := i) W (by omega) (by omega)) (W.1.1 0 _ rfl) rfl rfl rfl dX8_executes_177 rfl ?_
    refine V_iald (q := 181) (W.1.1 10 _ rfl) (by omega) (by decide) dX8_executes_180 rfl ?_
    refine V_rw (y := sG s (pFd P i 1)) (R.2.1 _ (by omega)) ?_
    refine V_if_ne (tgt := 193) (q := 184) dX8_executes_181 rfl rfl (fun c21 => ?_) (fun c21 => ?_)
    · skip
      refine V_iconst (q := 194) (v := nI 0) dX8_executes_193 rfl rfl ?_
      refine V_iret rfl dX8_executes_194 rfl rfl ?_
      exact ⟨pv (by simp [skp, hk, c21]), FX.rf h m, RR_eq R (by simp [stp, hk])⟩
    · skip
      refine V_aload_n (j := 0) (q := 185) dX8_executes_184 rfl rfl ?_
      refine V_iload_n (j := 1) (q := 186) dX8_executes_185 rfl rfl ?_
      refine V_iconst (q := 187) (v := nI 2) dX8_executes_186 rfl rfl ?_
      refine V_cpV (q := 190) (S := []) (v := .int (nI (pFd P i 2))) kX8_72 (c_of (i := i) W (by omega) (by omega)) (W.1.1 0 _ rfl) rfl rfl rfl dX8_executes_187 rfl ?_
      refine V_goto (q := 194) dX8_executes_190 rfl ?_
      refine V_iret rfl dX8_executes_194 rfl rfl ?_
      exact ⟨pv (by simp [skp, hk, c21]), FX.rf h m, RR_eq R (by simp [stp, hk])⟩
  · skip
    have h8 := (W.2.2.2.2.2 i hi).2.2.2.2.2.2.2 hk
    refine V_rw (y := nI 8) (by rw [hk]) ?_
    refine V_tableOut (tgt := 195) dX8_executes_6 (by decide) rfl ?_
    refine V_aload_n (j := 0) (q := 196) dX8_executes_195 rfl rfl ?_
    refine V_getP (q := 199) (r := (m + 11)) fX8_41 (W.1.1 0 _ rfl) rfl (W.1.2 11 _ rfl) dX8_executes_196 rfl ?_
    refine V_aload_n (j := 0) (q := 200) dX8_executes_199 rfl rfl ?_
    refine V_getI (q := 203) fX8_162 (W.1.1 0 _ rfl) rfl dX8_executes_200 rfl ?_
    refine V_rw (y := nI (sN s)) R.2.2.2.1 ?_
    refine V_aload_n (j := 0) (q := 204) dX8_executes_203 rfl rfl ?_
    refine V_getP (q := 207) (r := (m + 10)) fX8_38 (W.1.1 0 _ rfl) rfl (W.1.2 10 _ rfl) dX8_executes_204 rfl ?_
    refine V_aload_n (j := 0) (q := 208) dX8_executes_207 rfl rfl ?_
    refine V_iload_n (j := 1) (q := 209) dX8_executes_208 rfl rfl ?_
    refine V_iconst (q := 210) (v := nI 1) dX8_executes_209 rfl rfl ?_
    refine V_cpV (q := 213) (S := [.ref (m + 10), .int (nI (sN s)), .ref (m + 11)]) (v := .int (nI (pFd P i 1))) kX8_72 (c_of (i := i) W (by omega) (by omega)) (W.1.1 0 _ rfl) rfl rfl rfl dX8_executes_210 rfl ?_
    refine V_iald (q := 214) (W.1.1 10 _ rfl) (by omega) (by decide) dX8_executes_213 rfl ?_
    refine V_rw (y := sG s (pFd P i 1)) (R.2.1 _ (by omega)) ?_
    refine V_iast (q := 215) (W.1.1 11 _ rfl) (by omega) (by decide) dX8_executes_214 rfl ?_
    have W : RF (sI h (m + 11) (sN s) (sG s (pFd P i 1))) m P := RF_sI W (by omega)
    refine V_aload_n (j := 0) (q := 216) dX8_executes_215 rfl rfl ?_
    refine V_dup (q := 217) dX8_executes_216 rfl rfl ?_
    refine V_getI (q := 220) fX8_162 (W.1.1 0 _ rfl) rfl dX8_executes_217 rfl ?_
    refine V_rw (y := nI (sN s)) (by rw [hI_n (by omega)]; exact R.2.2.2.1) ?_
    refine V_iconst (q := 221) (v := nI 1) dX8_executes_220 rfl rfl ?_
    refine V_iaddN (q := 222) dX8_executes_221 rfl ?_
    refine V_putI (q := 225) wX8_162 (W.1.1 0 _ rfl) rfl dX8_executes_222 rfl ?_
    have W : RF (sI (sI h (m + 11) (sN s) (sG s (pFd P i 1))) m 12 (nI (sN s + 1))) m P := RF_sI W (by omega)
    refine V_iconst (q := 226) (v := nI 0) dX8_executes_225 rfl rfl ?_
    refine V_iret rfl dX8_executes_226 rfl rfl ?_
    exact ⟨pv (by simp [skp, hk]), ((FX.rf h m).set (Or.inr (Or.inr (Or.inr rfl)))).set (Or.inl ⟨rfl, by decide⟩), RR_eq (RR_o R) (by simp [stp, hk])⟩

theorem skp_le {P : PG} (ok : OkP P) {i : Nat} (hi : i < pNi P) (s : RSt) : skp P i s ≤ 9 := by
  unfold skp
  split
  · rename_i h
    exact ((ok.2.2.2 i hi).2.2.2.2.2.2.1 h.1).2.2
  · omega
theorem stp_n {P : PG} {tr : Bool} {i : Nat} {s : RSt} : sN (stp P tr i s) ≤ sN s + 1 := by
  unfold stp
  repeat' split
  all_goals first | exact Nat.le_succ _ | exact Nat.le_refl _

set_option maxHeartbeats 4000000 in
set_option maxRecDepth 100000 in
theorem lp_runs3 {g : GX} {h : AH} {m : Nat} {P : PG} (G : RG h m P) {tr : Bool} {h1 : AH} (Q : FQ h h1 m) (N : AN h1 m P) : ∀ (t : Nat) (i : Nat) (e : AH) (s : RSt), (i ≤ pNi P + 9) → (sN s ≤ i) → (FX h1 e m) → (RR e m s) → (rnF P tr (pNi P - i) i s = run P tr) → pNi P - i < t → V g mX8_runs (thM g 8 0 0 (fun ρ η => ρ = none ∧ FQ h η m ∧ RR η m (run P tr))) e 0 0 [(0, .ref m), (1, .int (bi tr)), (2, .int (nI i))] 69 [] := by
  intro t
  induction t with
  | zero =>
    intro i e s hb hn F R hr hfu
    exact absurd hfu (Nat.not_lt_zero _)
  | succ t ih =>
    intro i e s hb hn F R hr hfu
    have G1 := FQ.rg G Q
    have W := F.RF G1.1
    have N := F.AN N
    have hN := W.2.2.2.2.1
    have hR := W.2.2.1
    refine V_iload_n (j := 2) (q := 70) dX8_runs_69 rfl rfl ?_
    refine V_aload_n (j := 0) (q := 71) dX8_runs_70 rfl rfl ?_
    refine V_getP (q := 74) (r := (m + 1)) fX8_7 (W.1.1 0 _ rfl) rfl (W.1.2 0 _ rfl) dX8_runs_71 rfl ?_
    refine V_iconst (q := 75) (v := nI 5) dX8_runs_74 rfl rfl ?_
    refine V_iald (q := 76) (W.1.1 1 _ rfl) (by omega) (by decide) dX8_runs_75 rfl ?_
    refine V_rw (y := nI (pNi P)) W.2.1.2.2.1 ?_
    refine V_icmp_geN (tgt := 104) (q := 79) dX8_runs_76 rfl rfl (by omega) (by omega) (fun c1 => ?_) (fun c1 => ?_)
    · skip
      refine V_vret rfl dX8_runs_104 rfl rfl ?_
      exact ⟨rfl, Q.tr (F.q G1), RR_eq R (by rw [← hr, rnF_end (fun w => by omega)])⟩
    · skip
      refine V_aload_n (j := 0) (q := 80) dX8_runs_79 rfl rfl ?_
      refine V_getI (q := 83) fX8_165 (W.1.1 0 _ rfl) rfl dX8_runs_80 rfl ?_
      refine V_rw (y := sT s) R.2.2.2.2.2.2 ?_
      refine V_bipush (q := 85) (v := (-9)) dX8_runs_83 rfl (by decide) ?_
      refine V_icmp_ne (tgt := 104) (q := 88) dX8_runs_85 rfl rfl (fun c2 => ?_) (fun c2 => ?_)
      · skip
        refine V_vret rfl dX8_runs_104 rfl rfl ?_
        exact ⟨rfl, Q.tr (F.q G1), RR_eq R (by rw [← hr, rnF_end (fun w => c2 w.2)])⟩
      · skip
        refine V_aload_n (j := 0) (q := 89) dX8_runs_88 rfl rfl ?_
        refine V_iload_n (j := 2) (q := 90) dX8_runs_89 rfl rfl ?_
        refine V_iload_n (j := 1) (q := 91) dX8_runs_90 rfl rfl ?_
        refine V_callV (q := 94) (S := []) kX8_168 (c_executes (tr := tr) W N R (by omega) hn) (W.1.1 0 _ rfl) rfl rfl rfl dX8_runs_91 rfl (fun r3 h4 p5 => ?_)
        obtain ⟨rfl, F2, R2⟩ := p5
        refine V_istore_n (q := 95) (L' := [(3, .int (nI (skp P i s))), (0, .ref m), (1, .int (bi tr)), (2, .int (nI i))]) dX8_runs_94 rfl rfl rfl ?_
        refine V_iload_n (j := 3) (q := 96) dX8_runs_95 rfl rfl ?_
        refine V_iconst (q := 97) (v := nI 1) dX8_runs_96 rfl rfl ?_
        refine V_iload_n (j := 0) (q := 98) dX8_runs_97 rfl rfl ?_
        refine V_iaddN (q := 99) dX8_runs_98 rfl ?_
        refine V_iaddN (q := 100) dX8_runs_99 rfl ?_
        refine V_istore_n (q := 101) (L' := [(2, .int (nI (i + (1 + (skp P i s))))), (3, .int (nI (skp P i s))), (0, .ref m), (1, .int (bi tr))]) dX8_runs_100 rfl rfl rfl ?_
        refine V_goto (q := 69) dX8_runs_101 rfl ?_
        refine V_sub (L' := [(0, .ref m), (1, .int (bi tr)), (2, .int (nI (i + (1 + (skp P i s)))))]) [2, 3, 0] rfl ?_
        refine ih (i + (1 + (skp P i s))) h4 (stp P tr i s) ?_ ?_ ?_ ?_ ?_ ?_
        · have := skp_le W.2.2 (i := i) (by omega) s; omega
        · have := stp_n (P := P) (tr := tr) (i := i) (s := s); omega
        · exact F.tr F2
        · exact R2
        · rw [← hr, show pNi P - i = pNi P - i - 1 + 1 by omega, rnF, if_pos ⟨by omega, c2⟩, ← Nat.add_assoc]; exact rnF_fuel (by omega) (by omega)
        · omega

set_option maxHeartbeats 4000000 in
set_option maxRecDepth 100000 in
theorem lp_runs2 {g : GX} {h : AH} {m : Nat} {P : PG} (G : RG h m P) {tr : Bool} {h1 : AH} (Q : FQ h h1 m) (N : AN h1 m P) : ∀ (t : Nat) (k : Nat) (e : AH), (k ≤ 8) → (FX h1 e m) → (∀ x, x < 64 → hI e (m + 9) x = 0) → (∀ x, x < k → hI e (m + 10) x = 0) → 8 - k < t → V g mX8_runs (thM g 8 0 0 (fun ρ η => ρ = none ∧ FQ h η m ∧ RR η m (run P tr))) e 0 0 [(0, .ref m), (1, .int (bi tr)), (2, .int (nI k))] 27 [] := by
  intro t
  induction t with
  | zero =>
    intro k e hk F z9 z10 hfu
    exact absurd hfu (Nat.not_lt_zero _)
  | succ t ih =>
    intro k e hk F z9 z10 hfu
    have N0 := N
    have G1 := FQ.rg G Q
    have W := F.RF G1.1
    have N := F.AN N
    have hN := W.2.2.2.2.1
    have hR := W.2.2.1
    refine V_iload_n (j := 2) (q := 28) dX8_runs_27 rfl rfl ?_
    refine V_bipush (q := 30) (v := nI 8) dX8_runs_28 rfl (by decide) ?_
    refine V_icmp_geN (tgt := 46) (q := 33) dX8_runs_30 rfl rfl (by omega) (by omega) (fun c1 => ?_) (fun c1 => ?_)
    · skip
      refine V_aload_n (j := 0) (q := 47) dX8_runs_46 rfl rfl ?_
      refine V_iconst (q := 48) (v := nI 0) dX8_runs_47 rfl rfl ?_
      refine V_putI (q := 51) wX8_162 (W.1.1 0 _ rfl) rfl dX8_runs_48 rfl ?_
      have W : RF (sI e m 12 (nI 0)) m P := RF_sI W (by omega)
      refine V_aload_n (j := 0) (q := 52) dX8_runs_51 rfl rfl ?_
      refine V_iconst (q := 53) (v := nI 0) dX8_runs_52 rfl rfl ?_
      refine V_putI (q := 56) wX8_147 (W.1.1 0 _ rfl) rfl dX8_runs_53 rfl ?_
      have W : RF (sI (sI e m 12 (nI 0)) m 13 (nI 0)) m P := RF_sI W (by omega)
      refine V_aload_n (j := 0) (q := 57) dX8_runs_56 rfl rfl ?_
      refine V_iconst (q := 58) (v := nI 0) dX8_runs_57 rfl rfl ?_
      refine V_putI (q := 61) wX8_150 (W.1.1 0 _ rfl) rfl dX8_runs_58 rfl ?_
      have W : RF (sI (sI (sI e m 12 (nI 0)) m 13 (nI 0)) m 14 (nI 0)) m P := RF_sI W (by omega)
      refine V_aload_n (j := 0) (q := 62) dX8_runs_61 rfl rfl ?_
      refine V_bipush (q := 64) (v := (-9)) dX8_runs_62 rfl (by decide) ?_
      refine V_putI (q := 67) wX8_165 (W.1.1 0 _ rfl) rfl dX8_runs_64 rfl ?_
      have W : RF (sI (sI (sI (sI e m 12 (nI 0)) m 13 (nI 0)) m 14 (nI 0)) m 15 (-9)) m P := RF_sI W (by omega)
      refine V_iconst (q := 68) (v := nI 0) dX8_runs_67 rfl rfl ?_
      refine V_istore_n (q := 69) (L' := [(2, .int (nI 0)), (0, .ref m), (1, .int (bi tr))]) dX8_runs_68 rfl rfl rfl ?_
      refine V_sub (L' := [(0, .ref m), (1, .int (bi tr)), (2, .int (nI 0))]) [1, 2, 0] rfl ?_
      refine lp_runs3 G Q N0 (pNi P - 0 + 1) 0 _ rs0 (Nat.zero_le _) (Nat.le_refl _) ((((F.set (Or.inl ⟨rfl, by decide⟩)).set (Or.inl ⟨rfl, by decide⟩)).set (Or.inl ⟨rfl, by decide⟩)).set (Or.inl ⟨rfl, by decide⟩)) ?_ rfl (Nat.lt_succ_self _)
      refine ⟨fun x hx => ?_, fun x hx => ?_, fun x hx => absurd hx (Nat.not_lt_zero _), ?_, ?_, ?_, ?_⟩
      · rw [hI_n (by omega), hI_n (by omega), hI_n (by omega), hI_n (by omega)]; exact z9 x hx
      · rw [hI_n (by omega), hI_n (by omega), hI_n (by omega), hI_n (by omega)]; exact z10 x (by omega)
      · rw [hI_s, if_neg (by omega), hI_s, if_neg (by omega), hI_s, if_neg (by omega), hI_s, if_pos ⟨rfl, rfl⟩]; rfl
      · rw [hI_s, if_neg (by omega), hI_s, if_neg (by omega), hI_s, if_pos ⟨rfl, rfl⟩]; rfl
      · rw [hI_s, if_neg (by omega), hI_s, if_pos ⟨rfl, rfl⟩]; rfl
      · rw [hI_s, if_pos ⟨rfl, rfl⟩]; rfl
    · skip
      refine V_aload_n (j := 0) (q := 34) dX8_runs_33 rfl rfl ?_
      refine V_getP (q := 37) (r := (m + 10)) fX8_38 (W.1.1 0 _ rfl) rfl (W.1.2 10 _ rfl) dX8_runs_34 rfl ?_
      refine V_iload_n (j := 2) (q := 38) dX8_runs_37 rfl rfl ?_
      refine V_iconst (q := 39) (v := nI 0) dX8_runs_38 rfl rfl ?_
      refine V_iast (q := 40) (W.1.1 10 _ rfl) (by omega) (by decide) dX8_runs_39 rfl ?_
      have W : RF (sI e (m + 10) k (nI 0)) m P := RF_sI W (by omega)
      refine V_iincN (j := 2) (q := 43) (L' := [(2, .int (nI (k + 1))), (0, .ref m), (1, .int (bi tr))]) dX8_runs_40 rfl rfl rfl rfl ?_
      refine V_goto (q := 27) dX8_runs_43 rfl ?_
      refine V_sub (L' := [(0, .ref m), (1, .int (bi tr)), (2, .int (nI (k + 1)))]) [1, 2, 0] rfl ?_
      refine ih (k + 1) (sI e (m + 10) k (nI 0)) ?_ ?_ ?_ ?_ ?_
      · omega
      · exact F.set (Or.inr (Or.inr (Or.inl rfl)))
      · intro x hx; rw [hI_n (by omega)]; exact z9 x hx
      · intro x hx; rw [hI_s]; split; (rfl); exact z10 x (by omega)
      · omega

set_option maxHeartbeats 4000000 in
set_option maxRecDepth 100000 in
theorem lp_runs1 {g : GX} {h : AH} {m : Nat} {P : PG} (G : RG h m P) {tr : Bool} {h1 : AH} (Q : FQ h h1 m) (N : AN h1 m P) : ∀ (t : Nat) (k : Nat) (e : AH), (k ≤ 64) → (FX h1 e m) → (∀ x, x < k → hI e (m + 9) x = 0) → 64 - k < t → V g mX8_runs (thM g 8 0 0 (fun ρ η => ρ = none ∧ FQ h η m ∧ RR η m (run P tr))) e 0 0 [(0, .ref m), (1, .int (bi tr)), (2, .int (nI k))] 6 [] := by
  intro t
  induction t with
  | zero =>
    intro k e hk F z9 hfu
    exact absurd hfu (Nat.not_lt_zero _)
  | succ t ih =>
    intro k e hk F z9 hfu
    have N0 := N
    have G1 := FQ.rg G Q
    have W := F.RF G1.1
    have N := F.AN N
    have hN := W.2.2.2.2.1
    have hR := W.2.2.1
    refine V_iload_n (j := 2) (q := 7) dX8_runs_6 rfl rfl ?_
    refine V_bipush (q := 9) (v := nI 64) dX8_runs_7 rfl (by decide) ?_
    refine V_icmp_geN (tgt := 25) (q := 12) dX8_runs_9 rfl rfl (by omega) (by omega) (fun c1 => ?_) (fun c1 => ?_)
    · skip
      refine V_iconst (q := 26) (v := nI 0) dX8_runs_25 rfl rfl ?_
      refine V_istore_n (q := 27) (L' := [(2, .int (nI 0)), (0, .ref m), (1, .int (bi tr))]) dX8_runs_26 rfl rfl rfl ?_
      refine V_sub (L' := [(0, .ref m), (1, .int (bi tr)), (2, .int (nI 0))]) [1, 2, 0] rfl ?_
      exact lp_runs2 G Q N0 (8 - 0 + 1) 0 e (Nat.zero_le _) F (fun x hx => z9 x (by omega)) (fun x hx => absurd hx (Nat.not_lt_zero _)) (Nat.lt_succ_self _)
    · skip
      refine V_aload_n (j := 0) (q := 13) dX8_runs_12 rfl rfl ?_
      refine V_getP (q := 16) (r := (m + 9)) fX8_35 (W.1.1 0 _ rfl) rfl (W.1.2 9 _ rfl) dX8_runs_13 rfl ?_
      refine V_iload_n (j := 2) (q := 17) dX8_runs_16 rfl rfl ?_
      refine V_iconst (q := 18) (v := nI 0) dX8_runs_17 rfl rfl ?_
      refine V_iast (q := 19) (W.1.1 9 _ rfl) (by omega) (by decide) dX8_runs_18 rfl ?_
      have W : RF (sI e (m + 9) k (nI 0)) m P := RF_sI W (by omega)
      refine V_iincN (j := 2) (q := 22) (L' := [(2, .int (nI (k + 1))), (0, .ref m), (1, .int (bi tr))]) dX8_runs_19 rfl rfl rfl rfl ?_
      refine V_goto (q := 6) dX8_runs_22 rfl ?_
      refine V_sub (L' := [(0, .ref m), (1, .int (bi tr)), (2, .int (nI (k + 1)))]) [1, 2, 0] rfl ?_
      refine ih (k + 1) (sI e (m + 9) k (nI 0)) ?_ ?_ ?_ ?_
      · omega
      · exact F.set (Or.inr (Or.inl rfl))
      · intro x hx; rw [hI_s]; split; (rfl); exact z9 x (by omega)
      · omega

set_option maxHeartbeats 4000000 in
set_option maxRecDepth 100000 in
theorem c_runs {g : GX} {h : AH} {m : Nat} {P : PG} (G : RG h m P) {tr : Bool} : Ct g mX8_runs 8 0 0 [.ref m, .int (bi tr)] h (fun ρ η => ρ = none ∧ FQ h η m ∧ RR η m (run P tr)) := by
  refine Ct_intro (by decide +kernel) (Nat.le_of_ble_eq_true rfl) ?_
  show V g mX8_runs _ h 0 0 [(0, .ref m), (1, .int (bi tr))] 0 []
  have W := G.1
  have hN := W.2.2.2.2.1
  have hR := W.2.2.1
  refine V_aload_n (j := 0) (q := 1) dX8_runs_0 rfl rfl ?_
  refine V_callV (q := 4) (S := []) kX8_138 (c_analyse G) (W.1.1 0 _ rfl) rfl rfl rfl dX8_runs_1 rfl (fun r1 h2 p3 => ?_)
  obtain ⟨rfl, Q, N⟩ := p3
  have W := (FQ.rg G Q).1
  have A := N.1
  refine V_iconst (q := 5) (v := nI 0) dX8_runs_4 rfl rfl ?_
  refine V_istore_n (q := 6) (L' := [(2, .int (nI 0)), (0, .ref m), (1, .int (bi tr))]) dX8_runs_5 rfl rfl rfl ?_
  refine V_sub (L' := [(0, .ref m), (1, .int (bi tr)), (2, .int (nI 0))]) [1, 2, 0] rfl ?_
  exact lp_runs1 G Q N (64 - 0 + 1) 0 _ (Nat.zero_le _) (FX.rf _ _) (fun x hx => absurd hx (Nat.not_lt_zero _)) (Nat.lt_succ_self _)

def isT (x : Int32) : Bool := decide (0 ≤ x.toInt ∧ x.toInt ≤ 1)
def tof (x : Int32) : Bool := decide (x.toInt = 1)
noncomputable def aTp (P : PG) : Int32 := sT (run P false)
noncomputable def aOc (P : PG) (x : Int32) : Int32 := if isT x = true then nI (sN (run P (tof x))) else -1
noncomputable def aOa (P : PG) (x y : Int32) : Int32 := if isT x = true then (if 0 ≤ y.toInt ∧ y.toInt < sN (run P (tof x)) then sO (run P (tof x)) (nt y) else 0) else 0
noncomputable def aCk (P : PG) (x : Int32) : Int32 := if isT x = true then sS (run P (tof x)) else 0
noncomputable def aCs (P : PG) (x : Int32) : Int32 := if isT x = true then sC (run P (tof x)) else -1
theorem rnF_n {P : PG} {tr : Bool} : ∀ {f i : Nat} {s : RSt}, sN (rnF P tr f i s) ≤ sN s + f
  | 0, _, _ => Nat.le_refl _
  | f + 1, i, s => by
    rw [rnF]
    split
    · have := rnF_n (P := P) (tr := tr) (f := f) (i := i + 1 + skp P i s) (s := stp P tr i s)
      have := stp_n (P := P) (tr := tr) (i := i) (s := s)
      omega
    · omega
theorem run_n (P : PG) (tr : Bool) : sN (run P tr) ≤ pNi P := by
  have := rnF_n (P := P) (tr := tr) (f := pNi P) (i := 0) (s := rs0)
  have e : sN rs0 = 0 := rfl
  unfold run
  omega
set_option maxHeartbeats 4000000 in
set_option maxRecDepth 100000 in
theorem c_isProgram {g : GX} {h : AH} {x : Int32} : Ct g mX8_isProgram 1 0 0 [.int x] h (fun ρ η => ρ = some (.int (bi (isT x))) ∧ η = h) := by
  refine Ct_intro (by decide +kernel) (Nat.le_of_ble_eq_true rfl) ?_
  show V g mX8_isProgram _ h 0 0 [(0, .int x)] 0 []
  refine V_iload_n (j := 0) (q := 1) dX8_isProgram_0 rfl rfl ?_
  refine V_iconst (q := 2) (v := nI 0) dX8_isProgram_1 rfl rfl ?_
  refine V_iconst (q := 3) (v := nI 1) dX8_isProgram_2 rfl rfl ?_
  refine V_cpS (q := 6) (S := []) (v := .int (bi (inB x (nI 0) (nI 1)))) kX8_48 c_in rfl rfl rfl dX8_isProgram_3 rfl ?_
  refine V_zret (b := (inB x (nI 0) (nI 1))) rfl dX8_isProgram_6 rfl rfl ?_
  exact ⟨pvb (by simp only [inB, isT, i_n (show 0 < 2 ^ 31 by decide), i_n (show 1 < 2 ^ 31 by decide), ← Bool.decide_and]; congr 1), rfl⟩

set_option maxHeartbeats 4000000 in
set_option maxRecDepth 100000 in
theorem c_trapPosition {g : GX} {h : AH} {m : Nat} {P : PG} (G : RG h m P) : Ct g mX8_trapPosition 9 0 0 [.ref m] h (fun ρ η => ρ = some (.int (aTp P)) ∧ FQ h η m) := by
  refine Ct_intro (by decide +kernel) (Nat.le_of_ble_eq_true rfl) ?_
  show V g mX8_trapPosition _ h 0 0 [(0, .ref m)] 0 []
  have W := G.1
  have hN := W.2.2.2.2.1
  have hR := W.2.2.1
  refine V_aload_n (j := 0) (q := 1) dX8_trapPosition_0 rfl rfl ?_
  refine V_iconst (q := 2) (v := nI 0) dX8_trapPosition_1 rfl rfl ?_
  refine V_callV (q := 5) (S := []) kX8_185 (c_runs (tr := false) G) (W.1.1 0 _ rfl) rfl rfl rfl dX8_trapPosition_2 rfl (fun r1 h2 p3 => ?_)
  obtain ⟨rfl, Q, R⟩ := p3
  have W := (FQ.rg G Q).1
  refine V_aload_n (j := 0) (q := 6) dX8_trapPosition_5 rfl rfl ?_
  refine V_getI (q := 9) fX8_165 (W.1.1 0 _ rfl) rfl dX8_trapPosition_6 rfl ?_
  refine V_rw (y := sT (run P false)) R.2.2.2.2.2.2 ?_
  refine V_iret rfl dX8_trapPosition_9 rfl rfl ?_
  exact ⟨pv (by rfl), Q⟩

set_option maxHeartbeats 4000000 in
set_option maxRecDepth 100000 in
theorem c_outputCount {g : GX} {h : AH} {m : Nat} {P : PG} (G : RG h m P) {x : Int32} : Ct g mX8_outputCount 9 0 0 [.ref m, .int x] h (fun ρ η => ρ = some (.int (aOc P x)) ∧ FQ h η m) := by
  refine Ct_intro (by decide +kernel) (Nat.le_of_ble_eq_true rfl) ?_
  show V g mX8_outputCount _ h 0 0 [(0, .ref m), (1, .int x)] 0 []
  have W := G.1
  have hN := W.2.2.2.2.1
  have hR := W.2.2.1
  refine V_iload_n (j := 1) (q := 1) dX8_outputCount_0 rfl rfl ?_
  refine V_cpS (q := 4) (S := []) (v := .int (bi (isT x))) kX8_189 c_isProgram rfl rfl rfl dX8_outputCount_1 rfl ?_
  refine V_if_neB (tgt := 9) (q := 7) dX8_outputCount_4 rfl rfl (fun c1 => ?_) (fun c1 => ?_)
  · skip
    refine V_aload_n (j := 0) (q := 10) dX8_outputCount_9 rfl rfl ?_
    refine V_iload_n (j := 1) (q := 11) dX8_outputCount_10 rfl rfl ?_
    refine V_iconst (q := 12) (v := nI 1) dX8_outputCount_11 rfl rfl ?_
    refine V_icmp_ne (tgt := 19) (q := 15) dX8_outputCount_12 rfl rfl (fun c2 => ?_) (fun c2 => ?_)
    · skip
      rw [i_eq, show (nI 1).toInt = 1 from by decide] at c2
      refine V_iconst (q := 20) (v := nI 0) dX8_outputCount_19 rfl rfl ?_
      refine V_callV (q := 23) (S := []) kX8_185 (c_runs (tr := false) G) (W.1.1 0 _ rfl) rfl rfl rfl dX8_outputCount_20 rfl (fun r3 h4 p5 => ?_)
      obtain ⟨rfl, Q, R⟩ := p5
      have W := (FQ.rg G Q).1
      refine V_aload_n (j := 0) (q := 24) dX8_outputCount_23 rfl rfl ?_
      refine V_getI (q := 27) fX8_162 (W.1.1 0 _ rfl) rfl dX8_outputCount_24 rfl ?_
      refine V_rw (y := nI (sN (run P false))) R.2.2.2.1 ?_
      refine V_iret rfl dX8_outputCount_27 rfl rfl ?_
      exact ⟨pv (by rw [aOc, if_pos c1, show tof x = false from by simp [tof, c1, c2]]), Q⟩
    · skip
      rw [i_eq, show (nI 1).toInt = 1 from by decide] at c2
      refine V_iconst (q := 16) (v := nI 1) dX8_outputCount_15 rfl rfl ?_
      refine V_goto (q := 20) dX8_outputCount_16 rfl ?_
      refine V_callV (q := 23) (S := []) kX8_185 (c_runs (tr := true) G) (W.1.1 0 _ rfl) rfl rfl rfl dX8_outputCount_20 rfl (fun r6 h7 p8 => ?_)
      obtain ⟨rfl, Q, R⟩ := p8
      have W := (FQ.rg G Q).1
      refine V_aload_n (j := 0) (q := 24) dX8_outputCount_23 rfl rfl ?_
      refine V_getI (q := 27) fX8_162 (W.1.1 0 _ rfl) rfl dX8_outputCount_24 rfl ?_
      refine V_rw (y := nI (sN (run P true))) R.2.2.2.1 ?_
      refine V_iret rfl dX8_outputCount_27 rfl rfl ?_
      exact ⟨pv (by rw [aOc, if_pos c1, show tof x = true from by simp [tof, c1, c2]]), Q⟩
  · skip
    refine V_iconst (q := 8) (v := (-1)) dX8_outputCount_7 rfl rfl ?_
    refine V_iret rfl dX8_outputCount_8 rfl rfl ?_
    exact ⟨pv (by rw [aOc, if_neg (by simp [c1])]; try rfl), G.q⟩

set_option maxHeartbeats 4000000 in
set_option maxRecDepth 100000 in
theorem c_checksum {g : GX} {h : AH} {m : Nat} {P : PG} (G : RG h m P) {x : Int32} : Ct g mX8_checksum 9 0 0 [.ref m, .int x] h (fun ρ η => ρ = some (.int (aCk P x)) ∧ FQ h η m) := by
  refine Ct_intro (by decide +kernel) (Nat.le_of_ble_eq_true rfl) ?_
  show V g mX8_checksum _ h 0 0 [(0, .ref m), (1, .int x)] 0 []
  have W := G.1
  have hN := W.2.2.2.2.1
  have hR := W.2.2.1
  refine V_iload_n (j := 1) (q := 1) dX8_checksum_0 rfl rfl ?_
  refine V_cpS (q := 4) (S := []) (v := .int (bi (isT x))) kX8_189 c_isProgram rfl rfl rfl dX8_checksum_1 rfl ?_
  refine V_if_neB (tgt := 9) (q := 7) dX8_checksum_4 rfl rfl (fun c1 => ?_) (fun c1 => ?_)
  · skip
    refine V_aload_n (j := 0) (q := 10) dX8_checksum_9 rfl rfl ?_
    refine V_iload_n (j := 1) (q := 11) dX8_checksum_10 rfl rfl ?_
    refine V_iconst (q := 12) (v := nI 1) dX8_checksum_11 rfl rfl ?_
    refine V_icmp_ne (tgt := 19) (q := 15) dX8_checksum_12 rfl rfl (fun c2 => ?_) (fun c2 => ?_)
    · skip
      rw [i_eq, show (nI 1).toInt = 1 from by decide] at c2
      refine V_iconst (q := 20) (v := nI 0) dX8_checksum_19 rfl rfl ?_
      refine V_callV (q := 23) (S := []) kX8_185 (c_runs (tr := false) G) (W.1.1 0 _ rfl) rfl rfl rfl dX8_checksum_20 rfl (fun r3 h4 p5 => ?_)
      obtain ⟨rfl, Q, R⟩ := p5
      have W := (FQ.rg G Q).1
      refine V_aload_n (j := 0) (q := 24) dX8_checksum_23 rfl rfl ?_
      refine V_getI (q := 27) fX8_147 (W.1.1 0 _ rfl) rfl dX8_checksum_24 rfl ?_
      refine V_rw (y := sS (run P false)) R.2.2.2.2.1 ?_
      refine V_iret rfl dX8_checksum_27 rfl rfl ?_
      exact ⟨pv (by rw [aCk, if_pos c1, show tof x = false from by simp [tof, c1, c2]]), Q⟩
    · skip
      rw [i_eq, show (nI 1).toInt = 1 from by decide] at c2
      refine V_iconst (q := 16) (v := nI 1) dX8_checksum_15 rfl rfl ?_
      refine V_goto (q := 20) dX8_checksum_16 rfl ?_
      refine V_callV (q := 23) (S := []) kX8_185 (c_runs (tr := true) G) (W.1.1 0 _ rfl) rfl rfl rfl dX8_checksum_20 rfl (fun r6 h7 p8 => ?_)
      obtain ⟨rfl, Q, R⟩ := p8
      have W := (FQ.rg G Q).1
      refine V_aload_n (j := 0) (q := 24) dX8_checksum_23 rfl rfl ?_
      refine V_getI (q := 27) fX8_147 (W.1.1 0 _ rfl) rfl dX8_checksum_24 rfl ?_
      refine V_rw (y := sS (run P true)) R.2.2.2.2.1 ?_
      refine V_iret rfl dX8_checksum_27 rfl rfl ?_
      exact ⟨pv (by rw [aCk, if_pos c1, show tof x = true from by simp [tof, c1, c2]]), Q⟩
  · skip
    refine V_iconst (q := 8) (v := nI 0) dX8_checksum_7 rfl rfl ?_
    refine V_iret rfl dX8_checksum_8 rfl rfl ?_
    exact ⟨pv (by rw [aCk, if_neg (by simp [c1])]; try rfl), G.q⟩

set_option maxHeartbeats 4000000 in
set_option maxRecDepth 100000 in
theorem c_cost {g : GX} {h : AH} {m : Nat} {P : PG} (G : RG h m P) {x : Int32} : Ct g mX8_cost 9 0 0 [.ref m, .int x] h (fun ρ η => ρ = some (.int (aCs P x)) ∧ FQ h η m) := by
  refine Ct_intro (by decide +kernel) (Nat.le_of_ble_eq_true rfl) ?_
  show V g mX8_cost _ h 0 0 [(0, .ref m), (1, .int x)] 0 []
  have W := G.1
  have hN := W.2.2.2.2.1
  have hR := W.2.2.1
  refine V_iload_n (j := 1) (q := 1) dX8_cost_0 rfl rfl ?_
  refine V_cpS (q := 4) (S := []) (v := .int (bi (isT x))) kX8_189 c_isProgram rfl rfl rfl dX8_cost_1 rfl ?_
  refine V_if_neB (tgt := 9) (q := 7) dX8_cost_4 rfl rfl (fun c1 => ?_) (fun c1 => ?_)
  · skip
    refine V_aload_n (j := 0) (q := 10) dX8_cost_9 rfl rfl ?_
    refine V_iload_n (j := 1) (q := 11) dX8_cost_10 rfl rfl ?_
    refine V_iconst (q := 12) (v := nI 1) dX8_cost_11 rfl rfl ?_
    refine V_icmp_ne (tgt := 19) (q := 15) dX8_cost_12 rfl rfl (fun c2 => ?_) (fun c2 => ?_)
    · skip
      rw [i_eq, show (nI 1).toInt = 1 from by decide] at c2
      refine V_iconst (q := 20) (v := nI 0) dX8_cost_19 rfl rfl ?_
      refine V_callV (q := 23) (S := []) kX8_185 (c_runs (tr := false) G) (W.1.1 0 _ rfl) rfl rfl rfl dX8_cost_20 rfl (fun r3 h4 p5 => ?_)
      obtain ⟨rfl, Q, R⟩ := p5
      have W := (FQ.rg G Q).1
      refine V_aload_n (j := 0) (q := 24) dX8_cost_23 rfl rfl ?_
      refine V_getI (q := 27) fX8_150 (W.1.1 0 _ rfl) rfl dX8_cost_24 rfl ?_
      refine V_rw (y := sC (run P false)) R.2.2.2.2.2.1 ?_
      refine V_iret rfl dX8_cost_27 rfl rfl ?_
      exact ⟨pv (by rw [aCs, if_pos c1, show tof x = false from by simp [tof, c1, c2]]), Q⟩
    · skip
      rw [i_eq, show (nI 1).toInt = 1 from by decide] at c2
      refine V_iconst (q := 16) (v := nI 1) dX8_cost_15 rfl rfl ?_
      refine V_goto (q := 20) dX8_cost_16 rfl ?_
      refine V_callV (q := 23) (S := []) kX8_185 (c_runs (tr := true) G) (W.1.1 0 _ rfl) rfl rfl rfl dX8_cost_20 rfl (fun r6 h7 p8 => ?_)
      obtain ⟨rfl, Q, R⟩ := p8
      have W := (FQ.rg G Q).1
      refine V_aload_n (j := 0) (q := 24) dX8_cost_23 rfl rfl ?_
      refine V_getI (q := 27) fX8_150 (W.1.1 0 _ rfl) rfl dX8_cost_24 rfl ?_
      refine V_rw (y := sC (run P true)) R.2.2.2.2.2.1 ?_
      refine V_iret rfl dX8_cost_27 rfl rfl ?_
      exact ⟨pv (by rw [aCs, if_pos c1, show tof x = true from by simp [tof, c1, c2]]), Q⟩
  · skip
    refine V_iconst (q := 8) (v := (-1)) dX8_cost_7 rfl rfl ?_
    refine V_iret rfl dX8_cost_8 rfl rfl ?_
    exact ⟨pv (by rw [aCs, if_neg (by simp [c1])]; try rfl), G.q⟩

set_option maxHeartbeats 4000000 in
set_option maxRecDepth 100000 in
theorem c_outputAt {g : GX} {h : AH} {m : Nat} {P : PG} (G : RG h m P) {x y : Int32} : Ct g mX8_outputAt 9 0 0 [.ref m, .int x, .int y] h (fun ρ η => ρ = some (.int (aOa P x y)) ∧ FQ h η m) := by
  refine Ct_intro (by decide +kernel) (Nat.le_of_ble_eq_true rfl) ?_
  show V g mX8_outputAt _ h 0 0 [(0, .ref m), (1, .int x), (2, .int y)] 0 []
  have W := G.1
  have hN := W.2.2.2.2.1
  have hR := W.2.2.1
  refine V_iload_n (j := 1) (q := 1) dX8_outputAt_0 rfl rfl ?_
  refine V_cpS (q := 4) (S := []) (v := .int (bi (isT x))) kX8_189 c_isProgram rfl rfl rfl dX8_outputAt_1 rfl ?_
  refine V_if_neB (tgt := 9) (q := 7) dX8_outputAt_4 rfl rfl (fun c1 => ?_) (fun c1 => ?_)
  · skip
    refine V_aload_n (j := 0) (q := 10) dX8_outputAt_9 rfl rfl ?_
    refine V_iload_n (j := 1) (q := 11) dX8_outputAt_10 rfl rfl ?_
    refine V_iconst (q := 12) (v := nI 1) dX8_outputAt_11 rfl rfl ?_
    refine V_icmp_ne (tgt := 19) (q := 15) dX8_outputAt_12 rfl rfl (fun c2 => ?_) (fun c2 => ?_)
    · skip
      rw [i_eq, show (nI 1).toInt = 1 from by decide] at c2
      refine V_iconst (q := 20) (v := nI 0) dX8_outputAt_19 rfl rfl ?_
      refine V_callV (q := 23) (S := []) kX8_185 (c_runs (tr := false) G) (W.1.1 0 _ rfl) rfl rfl rfl dX8_outputAt_20 rfl (fun r3 h4 p5 => ?_)
      obtain ⟨rfl, Q, R⟩ := p5
      have W := (FQ.rg G Q).1
      refine V_iload_n (j := 2) (q := 24) dX8_outputAt_23 rfl rfl ?_
      refine V_iconst (q := 25) (v := nI 0) dX8_outputAt_24 rfl rfl ?_
      refine V_aload_n (j := 0) (q := 26) dX8_outputAt_25 rfl rfl ?_
      refine V_getI (q := 29) fX8_162 (W.1.1 0 _ rfl) rfl dX8_outputAt_26 rfl ?_
      refine V_rw (y := nI (sN (run P false))) R.2.2.2.1 ?_
      refine V_iconst (q := 30) (v := nI 1) dX8_outputAt_29 rfl rfl ?_
      refine V_isub (q := 31) dX8_outputAt_30 rfl ?_
      refine V_cpS (q := 34) (S := []) (v := .int (bi (inB y (nI 0) ((nI (sN (run P false))) - (nI 1))))) kX8_48 c_in rfl rfl rfl dX8_outputAt_31 rfl ?_
      refine V_if_eqB (tgt := 46) (q := 37) dX8_outputAt_34 rfl rfl (fun c6 => ?_) (fun c6 => ?_)
      · skip
        have hrn := run_n P false
        rw [inB_ni (by omega)] at c6
        refine V_iconst (q := 47) (v := nI 0) dX8_outputAt_46 rfl rfl ?_
        refine V_iret rfl dX8_outputAt_47 rfl rfl ?_
        exact ⟨pv (by rw [aOa, if_pos c1, show tof x = false from by simp [tof, c1, c2], if_neg (of_decide_eq_false c6)]; rfl), Q⟩
      · skip
        have hrn := run_n P false
        rw [inB_ni (by omega)] at c6
        obtain ⟨j, hj, rfl⟩ := i_of (of_decide_eq_true c6).1 (of_decide_eq_true c6).2
        have ny := nt_n (n := j) (by omega)
        refine V_aload_n (j := 0) (q := 38) dX8_outputAt_37 rfl rfl ?_
        refine V_getP (q := 41) (r := (m + 11)) fX8_41 (W.1.1 0 _ rfl) rfl (W.1.2 11 _ rfl) dX8_outputAt_38 rfl ?_
        refine V_iload_n (j := 2) (q := 42) dX8_outputAt_41 rfl rfl ?_
        refine V_iald (q := 43) (W.1.1 11 _ rfl) (by omega) (by decide) dX8_outputAt_42 rfl ?_
        refine V_rw (y := sO (run P false) j) (R.2.2.1 j hj) ?_
        refine V_goto (q := 47) dX8_outputAt_43 rfl ?_
        refine V_iret rfl dX8_outputAt_47 rfl rfl ?_
        exact ⟨pv (by rw [aOa, if_pos c1, show tof x = false from by simp [tof, c1, c2], if_pos (of_decide_eq_true c6), ny]), Q⟩
    · skip
      rw [i_eq, show (nI 1).toInt = 1 from by decide] at c2
      refine V_iconst (q := 16) (v := nI 1) dX8_outputAt_15 rfl rfl ?_
      refine V_goto (q := 20) dX8_outputAt_16 rfl ?_
      refine V_callV (q := 23) (S := []) kX8_185 (c_runs (tr := true) G) (W.1.1 0 _ rfl) rfl rfl rfl dX8_outputAt_20 rfl (fun r7 h8 p9 => ?_)
      obtain ⟨rfl, Q, R⟩ := p9
      have W := (FQ.rg G Q).1
      refine V_iload_n (j := 2) (q := 24) dX8_outputAt_23 rfl rfl ?_
      refine V_iconst (q := 25) (v := nI 0) dX8_outputAt_24 rfl rfl ?_
      refine V_aload_n (j := 0) (q := 26) dX8_outputAt_25 rfl rfl ?_
      refine V_getI (q := 29) fX8_162 (W.1.1 0 _ rfl) rfl dX8_outputAt_26 rfl ?_
      refine V_rw (y := nI (sN (run P true))) R.2.2.2.1 ?_
      refine V_iconst (q := 30) (v := nI 1) dX8_outputAt_29 rfl rfl ?_
      refine V_isub (q := 31) dX8_outputAt_30 rfl ?_
      refine V_cpS (q := 34) (S := []) (v := .int (bi (inB y (nI 0) ((nI (sN (run P true))) - (nI 1))))) kX8_48 c_in rfl rfl rfl dX8_outputAt_31 rfl ?_
      refine V_if_eqB (tgt := 46) (q := 37) dX8_outputAt_34 rfl rfl (fun c10 => ?_) (fun c10 => ?_)
      · skip
        have hrn := run_n P true
        rw [inB_ni (by omega)] at c10
        refine V_iconst (q := 47) (v := nI 0) dX8_outputAt_46 rfl rfl ?_
        refine V_iret rfl dX8_outputAt_47 rfl rfl ?_
        exact ⟨pv (by rw [aOa, if_pos c1, show tof x = true from by simp [tof, c1, c2], if_neg (of_decide_eq_false c10)]; rfl), Q⟩
      · skip
        have hrn := run_n P true
        rw [inB_ni (by omega)] at c10
        obtain ⟨j, hj, rfl⟩ := i_of (of_decide_eq_true c10).1 (of_decide_eq_true c10).2
        have ny := nt_n (n := j) (by omega)
        refine V_aload_n (j := 0) (q := 38) dX8_outputAt_37 rfl rfl ?_
        refine V_getP (q := 41) (r := (m + 11)) fX8_41 (W.1.1 0 _ rfl) rfl (W.1.2 11 _ rfl) dX8_outputAt_38 rfl ?_
        refine V_iload_n (j := 2) (q := 42) dX8_outputAt_41 rfl rfl ?_
        refine V_iald (q := 43) (W.1.1 11 _ rfl) (by omega) (by decide) dX8_outputAt_42 rfl ?_
        refine V_rw (y := sO (run P true) j) (R.2.2.1 j hj) ?_
        refine V_goto (q := 47) dX8_outputAt_43 rfl ?_
        refine V_iret rfl dX8_outputAt_47 rfl rfl ?_
        exact ⟨pv (by rw [aOa, if_pos c1, show tof x = true from by simp [tof, c1, c2], if_pos (of_decide_eq_true c10), ny]), Q⟩
  · skip
    refine V_iconst (q := 8) (v := nI 0) dX8_outputAt_7 rfl rfl ?_
    refine V_iret rfl dX8_outputAt_8 rfl rfl ?_
    exact ⟨pv (by rw [aOa, if_neg (by simp [c1])]; rfl), G.q⟩


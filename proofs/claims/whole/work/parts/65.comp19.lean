set_option maxHeartbeats 4000000 in
set_option maxRecDepth 100000 in
theorem d_perform {g : GX} {h : AH} {P : PG} {U : Nat → Nat} (X : CX h P U) {n : Nat} (hn : n < pNi P) (A : AC P h) {tr : Bool} {rs : Nat} {s : RSt} (R : CR h tr rs s) (hN24 : sN s ≤ n) (hT : sT s = -9) : Ct g mX6_perform 3 0 0 [.ref 151, .ref (U n), .int (nI n)] h (fun ρ η => ρ = none ∧ FRn h η ∧ CR η tr (rsm P n rs s) (stp P tr n s)) := by
  refine Ct_intro (by decide +kernel) (Nat.le_of_ble_eq_true rfl) ?_
  show V g mX6_perform _ h 0 0 [(0, .ref 151), (1, .ref (U n)), (2, .int (nI n))] 0 []
  have hN := X.2.2.2.2.1
  have hR := X.2.2.1
  have hk8 := ok_kd X.2.2 hn
  have N := (X.2.1.2.2.2.1 n (by omega)).2
  rw [xfd_lt hn] at N
  rcases (show pFd P n 0 = 1 ∨ pFd P n 0 = 2 ∨ pFd P n 0 = 3 ∨ pFd P n 0 = 4 ∨ pFd P n 0 = 5 ∨ pFd P n 0 = 6 ∨ pFd P n 0 = 7 ∨ pFd P n 0 = 8 by omega) with hk1 | hk1 | hk1 | hk1 | hk1 | hk1 | hk1 | hk1
  · skip
    have hk : pFd P n 0 = 1 ∨ pFd P n 0 = 2 := Or.inl hk1
    obtain ⟨o1, o2, o3, o4, o5, o6⟩ := ok_ac X.2.2 hn (by simp [isAc, hk])
    have hr1 : pFd P n 1 < 4 := by omega
    have ez := szx_lt o1
    have er : rsm P n rs s = rs := rsm_n (by omega)
    rw [er]
    refine V_aload_n (j := 1) (q := 1) dX6_perform_0 rfl rfl ?_
    refine V_getI (q := 4) fX6_68 N.2.1 rfl dX6_perform_1 rfl ?_
    refine V_rw (y := nI (pFd P n 0)) (N.2.2 0 (by decide)) ?_
    refine V_rw (y := nI 1) (by rw [hk1]) ?_
    refine V_tableIn (tgt := 52) (off := 48) dX6_perform_4 (by decide) (by decide) (by decide) rfl ?_
    refine V_aload_n (j := 0) (q := 53) dX6_perform_52 rfl rfl ?_
    refine V_aload_n (j := 1) (q := 54) dX6_perform_53 rfl rfl ?_
    refine V_callV (q := 57) (S := []) kX6_73 (d_store X hn A hk R.2.2.2.2.2.2.2.1 R.1 R.2.1 R.2.2.2.2.2.1) (X.1.1 151 _ s_151) rfl rfl rfl dX6_perform_54 rfl (fun r1 h2 p3 => ?_)
    obtain ⟨rfl, z⟩ := p3
    refine V_goto (q := 179) dX6_perform_57 rfl ?_
    refine V_vret rfl dX6_perform_179 rfl rfl ?_
    exact ⟨rfl, CR_st R hk1 z⟩
  · skip
    have hk : pFd P n 0 = 1 ∨ pFd P n 0 = 2 := Or.inr hk1
    obtain ⟨o1, o2, o3, o4, o5, o6⟩ := ok_ac X.2.2 hn (by simp [isAc, hk])
    have hr1 : pFd P n 1 < 4 := by omega
    have ez := szx_lt o1
    have er : rsm P n rs s = rs := rsm_n (by omega)
    rw [er]
    refine V_aload_n (j := 1) (q := 1) dX6_perform_0 rfl rfl ?_
    refine V_getI (q := 4) fX6_68 N.2.1 rfl dX6_perform_1 rfl ?_
    refine V_rw (y := nI (pFd P n 0)) (N.2.2 0 (by decide)) ?_
    refine V_rw (y := nI 2) (by rw [hk1]) ?_
    refine V_tableIn (tgt := 60) (off := 56) dX6_perform_4 (by decide) (by decide) (by decide) rfl ?_
    refine V_aload_n (j := 0) (q := 61) dX6_perform_60 rfl rfl ?_
    refine V_aload_n (j := 1) (q := 62) dX6_perform_61 rfl rfl ?_
    refine V_callV (q := 65) (S := []) kX6_77 (d_load X hn A hk R.2.2.2.2.2.2.2.1 R.1 R.2.1 R.2.2.2.2.2.1) (X.1.1 151 _ s_151) rfl rfl rfl dX6_perform_62 rfl (fun r4 h5 p6 => ?_)
    obtain ⟨rfl, rfl⟩ := p6
    refine V_goto (q := 179) dX6_perform_65 rfl ?_
    refine V_vret rfl dX6_perform_179 rfl rfl ?_
    exact ⟨rfl, CR_ld X.2.2 hn R hk1 (by omega)⟩
  · skip
    have hk := hk1
    obtain ⟨o1, o2, o3, o4, o5, o6, o7⟩ := ok_cp X.2.2 hn hk
    have hr1 : pFd P n 1 < 4 := by omega
    have hr2 : pFd P n 3 < 4 := by omega
    have ez := szx_lt o1
    have ez2 := szx_lt o2
    have er : rsm P n rs s = rs := rsm_n (by omega)
    rw [er]
    refine V_aload_n (j := 1) (q := 1) dX6_perform_0 rfl rfl ?_
    refine V_getI (q := 4) fX6_68 N.2.1 rfl dX6_perform_1 rfl ?_
    refine V_rw (y := nI (pFd P n 0)) (N.2.2 0 (by decide)) ?_
    refine V_rw (y := nI 3) (by rw [hk1]) ?_
    refine V_tableIn (tgt := 68) (off := 64) dX6_perform_4 (by decide) (by decide) (by decide) rfl ?_
    refine V_aload_n (j := 0) (q := 69) dX6_perform_68 rfl rfl ?_
    refine V_getI (q := 72) fX6_58 (X.1.1 151 _ s_151) rfl dX6_perform_69 rfl ?_
    refine V_rw (y := bi tr) R.2.2.2.2.2.2.2.1 ?_
    refine V_if_eqB (tgt := 92) (q := 75) dX6_perform_72 rfl rfl (fun c7 => ?_) (fun c7 => ?_)
    · skip
      refine V_aload_n (j := 0) (q := 93) dX6_perform_92 rfl rfl ?_
      refine V_aload_n (j := 1) (q := 94) dX6_perform_93 rfl rfl ?_
      refine V_callV (q := 97) (S := []) kX6_89 (d_copyWhole X hn hk R.1 R.2.2.2.2.2.1) (X.1.1 151 _ s_151) rfl rfl rfl dX6_perform_94 rfl (fun r8 h9 p10 => ?_)
      obtain ⟨rfl, e, F, Be, rfl⟩ := p10
      refine V_goto (q := 179) dX6_perform_97 rfl ?_
      refine V_vret rfl dX6_perform_179 rfl rfl ?_
      exact ⟨rfl, CR_cw R hk c7 F Be⟩
    · skip
      refine V_aload_n (j := 0) (q := 76) dX6_perform_75 rfl rfl ?_
      refine V_aload_n (j := 1) (q := 77) dX6_perform_76 rfl rfl ?_
      refine V_aload_n (j := 0) (q := 78) dX6_perform_77 rfl rfl ?_
      refine V_getP (q := 81) (r := 9) fX6_27 (X.1.1 151 _ s_151) rfl (X.1.2.1 151 1 _ rfl) dX6_perform_78 rfl ?_
      refine V_getP (q := 84) (r := 34) fX6_80 (X.1.1 9 _ s_9) rfl (X.1.2.1 9 2 _ rfl) dX6_perform_81 rfl ?_
      refine V_iload_n (j := 2) (q := 85) dX6_perform_84 rfl rfl ?_
      refine V_aald (q := 86) (c := 15) (r := (35 + n)) (by decide) (X.1.1 34 _ s_34) (by omega) (by decide) (X.1.2.2.2.1 _ (by omega)) dX6_perform_85 rfl ?_
      refine V_callV (q := 89) (S := []) kX6_85 (d_copyLive X hn A hk R.1 R.2.2.2.2.2.1) (X.1.1 151 _ s_151) rfl rfl rfl dX6_perform_86 rfl (fun r11 h12 p13 => ?_)
      obtain ⟨rfl, F, Be, Ce⟩ := p13
      refine V_goto (q := 179) dX6_perform_89 rfl ?_
      refine V_vret rfl dX6_perform_179 rfl rfl ?_
      exact ⟨rfl, CR_cl R hk c7 F Be Ce⟩
  · skip
    have hk := hk1
    have o1 := ok_es X.2.2 hn hk
    have hr1 : pFd P n 1 < 4 := by omega
    have er : rsm P n rs s = rs := rsm_n (by omega)
    rw [er]
    refine V_aload_n (j := 1) (q := 1) dX6_perform_0 rfl rfl ?_
    refine V_getI (q := 4) fX6_68 N.2.1 rfl dX6_perform_1 rfl ?_
    refine V_rw (y := nI (pFd P n 0)) (N.2.2 0 (by decide)) ?_
    refine V_rw (y := nI 4) (by rw [hk1]) ?_
    refine V_tableIn (tgt := 100) (off := 96) dX6_perform_4 (by decide) (by decide) (by decide) rfl ?_
    refine V_aload_n (j := 0) (q := 101) dX6_perform_100 rfl rfl ?_
    refine V_aload_n (j := 1) (q := 102) dX6_perform_101 rfl rfl ?_
    refine V_getI (q := 105) fX6_92 N.2.1 rfl dX6_perform_102 rfl ?_
    refine V_rw (y := nI (pFd P n 1)) ((N.2.2 2 (by decide)).trans (congrArg nI (if_es hk))) ?_
    refine V_callV (q := 108) (S := []) kX6_95 (d_escape X o1 R.1 R.2.2.2.2.1 R.2.2.2.2.2.1) (X.1.1 151 _ s_151) rfl rfl rfl dX6_perform_105 rfl (fun r14 h15 p16 => ?_)
    obtain ⟨rfl, rfl⟩ := p16
    refine V_goto (q := 179) dX6_perform_108 rfl ?_
    refine V_vret rfl dX6_perform_179 rfl rfl ?_
    exact ⟨rfl, CR_es R hk hr1⟩
  · skip
    have hk : pFd P n 0 = 5 ∨ pFd P n 0 = 7 := Or.inl hk1
    have o1 := ok_co X.2.2 hn hk1
    have er : rsm P n rs s = rs := rsm_n (by omega)
    rw [er]
    refine V_aload_n (j := 1) (q := 1) dX6_perform_0 rfl rfl ?_
    refine V_getI (q := 4) fX6_68 N.2.1 rfl dX6_perform_1 rfl ?_
    refine V_rw (y := nI (pFd P n 0)) (N.2.2 0 (by decide)) ?_
    refine V_rw (y := nI 5) (by rw [hk1]) ?_
    refine V_tableIn (tgt := 111) (off := 107) dX6_perform_4 (by decide) (by decide) (by decide) rfl ?_
    refine V_aload_n (j := 0) (q := 112) dX6_perform_111 rfl rfl ?_
    refine V_getP (q := 115) (r := 152) fX6_9 (X.1.1 151 _ s_151) rfl (X.1.2.1 151 2 _ rfl) dX6_perform_112 rfl ?_
    refine V_aload_n (j := 1) (q := 116) dX6_perform_115 rfl rfl ?_
    refine V_getI (q := 119) fX6_99 N.2.1 rfl dX6_perform_116 rfl ?_
    refine V_rw (y := nI (pFd P n 1)) ((N.2.2 1 (by decide)).trans (congrArg nI ((if_nm hk).1))) ?_
    refine V_aload_n (j := 1) (q := 120) dX6_perform_119 rfl rfl ?_
    refine V_getI (q := 123) fX6_102 N.2.1 rfl dX6_perform_120 rfl ?_
    refine V_rw (y := nI (pFd P n 2)) ((N.2.2 9 (by decide)).trans (congrArg nI ((if_nm hk).2))) ?_
    refine V_iast (q := 124) (X.1.1 152 _ s_152) (by omega) (by decide) dX6_perform_123 rfl ?_
    refine V_goto (q := 179) dX6_perform_124 rfl ?_
    refine V_vret rfl dX6_perform_179 rfl rfl ?_
    have e5 : stp P tr n s = (sB s, upd (sG s) (pFd P n 1) (nI (pFd P n 2)), sO s, sN s, sS s, sC s, sT s) := by unfold stp; rw [if_neg (by omega), if_neg (by omega), if_neg (by omega), if_neg (by omega), if_pos hk1]
    exact ⟨rfl, CR_g R e5⟩
  · skip
    have hk := hk1
    obtain ⟨o1, o2, o3⟩ := ok_ad X.2.2 hn hk
    have er : rsm P n rs s = rs := rsm_n (by omega)
    rw [er]
    refine V_aload_n (j := 1) (q := 1) dX6_perform_0 rfl rfl ?_
    refine V_getI (q := 4) fX6_68 N.2.1 rfl dX6_perform_1 rfl ?_
    refine V_rw (y := nI (pFd P n 0)) (N.2.2 0 (by decide)) ?_
    refine V_rw (y := nI 6) (by rw [hk1]) ?_
    refine V_tableIn (tgt := 127) (off := 123) dX6_perform_4 (by decide) (by decide) (by decide) rfl ?_
    refine V_aload_n (j := 0) (q := 128) dX6_perform_127 rfl rfl ?_
    refine V_aload_n (j := 1) (q := 129) dX6_perform_128 rfl rfl ?_
    refine V_iload_n (j := 2) (q := 130) dX6_perform_129 rfl rfl ?_
    refine V_callV (q := 133) (S := []) kX6_105 (d_add X hn hk R.2.1) (X.1.1 151 _ s_151) rfl rfl rfl dX6_perform_130 rfl (fun r17 h18 p19 => ?_)
    obtain ⟨rfl, z⟩ := p19
    refine V_goto (q := 179) dX6_perform_133 rfl ?_
    refine V_vret rfl dX6_perform_179 rfl rfl ?_
    by_cases y : ovf (sG s (pFd P n 2)) (sG s (pFd P n 3)) = true
    · rw [if_pos y] at z
      subst z
      have e6 : stp P tr n s = (sB s, sG s, sO s, sN s, sS s, sC s, nI n) := by unfold stp; rw [if_neg (by omega), if_neg (by omega), if_neg (by omega), if_neg (by omega), if_neg (by omega), if_pos hk1]; rw [if_pos y]
      exact ⟨rfl, CR_tp R e6⟩
    · rw [if_neg y] at z
      subst z
      have e6 : stp P tr n s = (sB s, upd (sG s) (pFd P n 1) ((sG s (pFd P n 2)).toInt64 + (sG s (pFd P n 3)).toInt64).toInt32, sO s, sN s, sS s, sC s, sT s) := by unfold stp; rw [if_neg (by omega), if_neg (by omega), if_neg (by omega), if_neg (by omega), if_neg (by omega), if_pos hk1]; rw [if_neg y, hT]
      exact ⟨rfl, CR_g R e6⟩
  · skip
    have hk : pFd P n 0 = 5 ∨ pFd P n 0 = 7 := Or.inr hk1
    obtain ⟨o1, o2, o3⟩ := ok_sk X.2.2 hn hk1
    refine V_aload_n (j := 1) (q := 1) dX6_perform_0 rfl rfl ?_
    refine V_getI (q := 4) fX6_68 N.2.1 rfl dX6_perform_1 rfl ?_
    refine V_rw (y := nI (pFd P n 0)) (N.2.2 0 (by decide)) ?_
    refine V_rw (y := nI 7) (by rw [hk1]) ?_
    refine V_tableIn (tgt := 136) (off := 132) dX6_perform_4 (by decide) (by decide) (by decide) rfl ?_
    refine V_aload_n (j := 0) (q := 137) dX6_perform_136 rfl rfl ?_
    refine V_getP (q := 140) (r := 152) fX6_9 (X.1.1 151 _ s_151) rfl (X.1.2.1 151 2 _ rfl) dX6_perform_137 rfl ?_
    refine V_aload_n (j := 1) (q := 141) dX6_perform_140 rfl rfl ?_
    refine V_getI (q := 144) fX6_99 N.2.1 rfl dX6_perform_141 rfl ?_
    refine V_rw (y := nI (pFd P n 1)) ((N.2.2 1 (by decide)).trans (congrArg nI ((if_nm hk).1))) ?_
    refine V_iald (q := 145) (X.1.1 152 _ s_152) (by omega) (by decide) dX6_perform_144 rfl ?_
    refine V_rw (y := sG s (pFd P n 1)) (R.2.1 _ (by omega)) ?_
    refine V_if_ne (tgt := 179) (q := 148) dX6_perform_145 rfl rfl (fun c20 => ?_) (fun c20 => ?_)
    · skip
      refine V_vret rfl dX6_perform_179 rfl rfl ?_
      have e7 : stp P tr n s = s := by unfold stp; rw [if_neg (by omega), if_neg (by omega), if_neg (by omega), if_neg (by omega), if_neg (by omega), if_neg (by omega), if_pos hk1]
      rw [e7]
      rw [show rsm P n rs s = rs from if_neg (fun w => c20 w.2)]
      exact ⟨rfl, FRn.rf h, R⟩
    · skip
      refine V_aload_n (j := 0) (q := 149) dX6_perform_148 rfl rfl ?_
      refine V_iload_n (j := 2) (q := 150) dX6_perform_149 rfl rfl ?_
      refine V_iconst (q := 151) (v := nI 1) dX6_perform_150 rfl rfl ?_
      refine V_iaddN (q := 152) dX6_perform_151 rfl ?_
      refine V_aload_n (j := 1) (q := 153) dX6_perform_152 rfl rfl ?_
      refine V_getI (q := 156) fX6_102 N.2.1 rfl dX6_perform_153 rfl ?_
      refine V_rw (y := nI (pFd P n 2)) ((N.2.2 9 (by decide)).trans (congrArg nI ((if_nm hk).2))) ?_
      refine V_iaddN (q := 157) dX6_perform_156 rfl ?_
      refine V_putI (q := 160) wX6_44 (X.1.1 151 _ s_151) rfl dX6_perform_157 rfl ?_
      refine V_goto (q := 179) dX6_perform_160 rfl ?_
      refine V_vret rfl dX6_perform_179 rfl rfl ?_
      have e7 : stp P tr n s = s := by unfold stp; rw [if_neg (by omega), if_neg (by omega), if_neg (by omega), if_neg (by omega), if_neg (by omega), if_neg (by omega), if_pos hk1]
      rw [e7]
      rw [show rsm P n rs s = n + 1 + pFd P n 2 from if_pos ⟨hk1, c20⟩]
      exact ⟨rfl, CR_rs R⟩
  · skip
    have hk := hk1
    have o1 := ok_ou X.2.2 hn hk
    have er : rsm P n rs s = rs := rsm_n (by omega)
    rw [er]
    refine V_aload_n (j := 1) (q := 1) dX6_perform_0 rfl rfl ?_
    refine V_getI (q := 4) fX6_68 N.2.1 rfl dX6_perform_1 rfl ?_
    refine V_rw (y := nI (pFd P n 0)) (N.2.2 0 (by decide)) ?_
    refine V_rw (y := nI 8) (by rw [hk1]) ?_
    refine V_tableIn (tgt := 163) (off := 159) dX6_perform_4 (by decide) (by decide) (by decide) rfl ?_
    refine V_aload_n (j := 0) (q := 164) dX6_perform_163 rfl rfl ?_
    refine V_aload_n (j := 0) (q := 165) dX6_perform_164 rfl rfl ?_
    refine V_getP (q := 168) (r := 152) fX6_9 (X.1.1 151 _ s_151) rfl (X.1.2.1 151 2 _ rfl) dX6_perform_165 rfl ?_
    refine V_aload_n (j := 1) (q := 169) dX6_perform_168 rfl rfl ?_
    refine V_getI (q := 172) fX6_99 N.2.1 rfl dX6_perform_169 rfl ?_
    refine V_rw (y := nI (pFd P n 1)) ((N.2.2 1 (by decide)).trans (congrArg nI (if_o8 hk))) ?_
    refine V_iald (q := 173) (X.1.1 152 _ s_152) (by omega) (by decide) dX6_perform_172 rfl ?_
    refine V_rw (y := sG s (pFd P n 1)) (R.2.1 _ (by omega)) ?_
    have e8 : stp P tr n s = (sB s, sG s, upd (sO s) (sN s) (sG s (pFd P n 1)), sN s + 1, sS s, sC s, sT s) := by
      unfold stp
      rw [if_neg (by omega), if_neg (by omega), if_neg (by omega), if_neg (by omega), if_neg (by omega), if_neg (by omega), if_neg (by omega)]
    refine V_callV (q := 176) (S := []) kX6_108 (d_output X.1 R.2.2.2.1 (by omega)) (X.1.1 151 _ s_151) rfl rfl rfl dX6_perform_173 rfl (fun r21 h22 p23 => ?_)
    obtain ⟨rfl, rfl⟩ := p23
    refine V_goto (q := 179) dX6_perform_176 rfl ?_
    refine V_vret rfl dX6_perform_179 rfl rfl ?_
    exact ⟨rfl, CR_ou R e8⟩


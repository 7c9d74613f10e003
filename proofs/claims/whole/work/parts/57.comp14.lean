set_option maxHeartbeats 4000000 in
set_option maxRecDepth 100000 in
theorem d_output {g : GX} {h : AH} (X : CS h.1 (hP h)) {m : Nat} {v : Int32} (hm : hI h 151 6 = nI m) (h24 : m < 24) : Ct g mX6_output 0 0 0 [.ref 151, .int v] h (fun ρ η => ρ = none ∧ η = sI (sI h 158 m v) 151 6 (nI (m + 1))) := by
  refine Ct_intro (by decide +kernel) (Nat.le_of_ble_eq_true rfl) ?_
  show V g mX6_output _ h 0 0 [(0, .ref 151), (1, .int v)] 0 []
  refine V_aload_n (j := 0) (q := 1) dX6_output_0 rfl rfl ?_
  refine V_getI (q := 4) fX6_55 (X.1 151 _ s_151) rfl dX6_output_1 rfl ?_
  refine V_rw (y := nI m) hm ?_
  refine V_bipush (q := 6) (v := nI 24) dX6_output_4 rfl (by decide) ?_
  refine V_icmp_geN (tgt := 29) (q := 9) dX6_output_6 rfl rfl (by omega) (by omega) (fun c1 => ?_) (fun c1 => ?_)
  · skip
    exact absurd c1 (by omega)
  · skip
    refine V_aload_n (j := 0) (q := 10) dX6_output_9 rfl rfl ?_
    refine V_getP (q := 13) (r := 158) fX6_20 (X.1 151 _ s_151) rfl (X.2.1 151 4 _ rfl) dX6_output_10 rfl ?_
    refine V_aload_n (j := 0) (q := 14) dX6_output_13 rfl rfl ?_
    refine V_getI (q := 17) fX6_55 (X.1 151 _ s_151) rfl dX6_output_14 rfl ?_
    refine V_rw (y := nI m) hm ?_
    refine V_iload_n (j := 1) (q := 18) dX6_output_17 rfl rfl ?_
    refine V_iast (q := 19) (X.1 158 _ s_158) (by omega) (by decide) dX6_output_18 rfl ?_
    refine V_aload_n (j := 0) (q := 20) dX6_output_19 rfl rfl ?_
    refine V_dup (q := 21) dX6_output_20 rfl rfl ?_
    refine V_getI (q := 24) fX6_55 (X.1 151 _ s_151) rfl dX6_output_21 rfl ?_
    refine V_rw (y := nI m) (by rw [hI_n (by decide)]; exact hm) ?_
    refine V_iconst (q := 25) (v := nI 1) dX6_output_24 rfl rfl ?_
    refine V_iaddN (q := 26) dX6_output_25 rfl ?_
    refine V_putI (q := 29) wX6_55 (X.1 151 _ s_151) rfl dX6_output_26 rfl ?_
    refine V_vret rfl dX6_output_29 rfl rfl ?_
    exact ⟨rfl, rfl⟩

set_option maxHeartbeats 4000000 in
set_option maxRecDepth 100000 in
theorem d_add {g : GX} {h : AH} {P : PG} {U : Nat → Nat} (X : CX h P U) {n : Nat} (hn : n < pNi P) (hk : pFd P n 0 = 6) {G : Nat → Int32} (hG : ∀ x, x < 8 → hI h 152 x = G x) : Ct g mX6_add 0 0 0 [.ref 151, .ref (U n), .int (nI n)] h (fun ρ η => ρ = none ∧ η = if ovf (G (pFd P n 2)) (G (pFd P n 3)) = true then sI h 151 9 (nI n) else sI h 152 (pFd P n 1) ((G (pFd P n 2)).toInt64 + (G (pFd P n 3)).toInt64).toInt32) := by
  refine Ct_intro (by decide +kernel) (Nat.le_of_ble_eq_true rfl) ?_
  show V g mX6_add _ h 0 0 [(0, .ref 151), (1, .ref (U n)), (2, .int (nI n))] 0 []
  have hN := X.2.2.2.2.1
  have hR := X.2.2.1
  have hk8 := ok_kd X.2.2 hn
  have N := (X.2.1.2.2.2.1 n (by omega)).2
  rw [xfd_lt hn] at N
  obtain ⟨o1, o2, o3⟩ := ok_ad X.2.2 hn hk
  refine V_aload_n (j := 0) (q := 1) dX6_add_0 rfl rfl ?_
  refine V_getP (q := 4) (r := 152) fX6_9 (X.1.1 151 _ s_151) rfl (X.1.2.1 151 2 _ rfl) dX6_add_1 rfl ?_
  refine V_aload_n (j := 1) (q := 5) dX6_add_4 rfl rfl ?_
  refine V_getI (q := 8) fX6_154 N.2.1 rfl dX6_add_5 rfl ?_
  refine V_rw (y := nI (pFd P n 2)) ((N.2.2 7 (by decide)).trans (congrArg nI ((if_ad hk).2.1))) ?_
  refine V_iald (q := 9) (X.1.1 152 _ s_152) (by omega) (by decide) dX6_add_8 rfl ?_
  refine V_rw (y := G (pFd P n 2)) (hG _ (by omega)) ?_
  refine V_i2l (q := 10) dX6_add_9 rfl ?_
  refine V_aload_n (j := 0) (q := 11) dX6_add_10 rfl rfl ?_
  refine V_getP (q := 14) (r := 152) fX6_9 (X.1.1 151 _ s_151) rfl (X.1.2.1 151 2 _ rfl) dX6_add_11 rfl ?_
  refine V_aload_n (j := 1) (q := 15) dX6_add_14 rfl rfl ?_
  refine V_getI (q := 18) fX6_157 N.2.1 rfl dX6_add_15 rfl ?_
  refine V_rw (y := nI (pFd P n 3)) ((N.2.2 8 (by decide)).trans (congrArg nI ((if_ad hk).2.2))) ?_
  refine V_iald (q := 19) (X.1.1 152 _ s_152) (by omega) (by decide) dX6_add_18 rfl ?_
  refine V_rw (y := G (pFd P n 3)) (hG _ (by omega)) ?_
  refine V_i2l (q := 20) dX6_add_19 rfl ?_
  refine V_ladd (q := 21) dX6_add_20 rfl ?_
  refine V_lstore_n (q := 22) (L' := [(3, .long ((Int32.toInt64 (G (pFd P n 2))) + (Int32.toInt64 (G (pFd P n 3))))), (0, .ref 151), (1, .ref (U n)), (2, .int (nI n))]) dX6_add_21 rfl rfl rfl ?_
  refine V_lload_n (j := 0) (q := 23) dX6_add_22 rfl rfl ?_
  refine V_lload_n (j := 0) (q := 24) dX6_add_23 rfl rfl ?_
  refine V_l2i (q := 25) dX6_add_24 rfl ?_
  refine V_i2l (q := 26) dX6_add_25 rfl ?_
  refine V_lcmp (q := 27) dX6_add_26 rfl ?_
  refine V_if_ne (tgt := 44) (q := 30) dX6_add_27 rfl rfl (fun c1 => ?_) (fun c1 => ?_)
  · skip
    refine V_aload_n (j := 1) (q := 45) dX6_add_44 rfl rfl ?_
    refine V_iload_n (j := 3) (q := 46) dX6_add_45 rfl rfl ?_
    refine V_putI (q := 49) wX6_41 (X.1.1 151 _ s_151) rfl dX6_add_46 rfl ?_
    refine V_vret rfl dX6_add_49 rfl rfl ?_
    exact ⟨rfl, by rw [if_pos (by unfold ovf; simp only [decide_eq_true_eq]; exact fun w => c1 (lgc0.mpr w.symm))]⟩
  · skip
    refine V_aload_n (j := 1) (q := 31) dX6_add_30 rfl rfl ?_
    refine V_getP (q := 34) (r := 152) fX6_9 (X.1.1 151 _ s_151) rfl (X.1.2.1 151 2 _ rfl) dX6_add_31 rfl ?_
    refine V_aload_n (j := 2) (q := 35) dX6_add_34 rfl rfl ?_
    refine V_getI (q := 38) fX6_99 N.2.1 rfl dX6_add_35 rfl ?_
    refine V_rw (y := nI (pFd P n 1)) ((N.2.2 1 (by decide)).trans (congrArg nI ((if_ad hk).1))) ?_
    refine V_lload_n (j := 0) (q := 39) dX6_add_38 rfl rfl ?_
    refine V_l2i (q := 40) dX6_add_39 rfl ?_
    refine V_iast (q := 41) (X.1.1 152 _ s_152) (by omega) (by decide) dX6_add_40 rfl ?_
    refine V_goto (q := 49) dX6_add_41 rfl ?_
    refine V_vret rfl dX6_add_49 rfl rfl ?_
    exact ⟨rfl, by rw [if_neg (by unfold ovf; simp only [decide_eq_true_eq]; exact fun w => w (lgc0.mp c1).symm)]⟩

set_option maxHeartbeats 4000000 in
set_option maxRecDepth 100000 in
theorem d_outputOf {g : GX} {h : AH} (X : CS h.1 (hP h)) {m : Nat} {x : Int32} {O : Nat → Int32} (hm : hI h 151 6 = nI m) (h24 : m ≤ 24) (hO : ∀ y, y < m → hI h 158 y = O y) : Ct g mX6_outputOf 0 0 0 [.ref 151, .int x] h (fun ρ η => ρ = some (.int (if 0 ≤ x.toInt ∧ x.toInt < m then O (nt x) else 0)) ∧ η = h) := by
  refine Ct_intro (by decide +kernel) (Nat.le_of_ble_eq_true rfl) ?_
  show V g mX6_outputOf _ h 0 0 [(0, .ref 151), (1, .int x)] 0 []
  refine V_iload_n (j := 1) (q := 1) dX6_outputOf_0 rfl rfl ?_
  refine V_if_lt (tgt := 21) (q := 4) dX6_outputOf_1 rfl rfl (fun c1 => ?_) (fun c1 => ?_)
  · skip
    simp only [i_lt, i_le, i_0] at c1
    refine V_iconst (q := 22) (v := nI 0) dX6_outputOf_21 rfl rfl ?_
    refine V_iret rfl dX6_outputOf_22 rfl rfl ?_
    exact ⟨pv (by rw [if_neg (by omega)]; rfl), rfl⟩
  · skip
    simp only [i_lt, i_le, i_0] at c1
    refine V_iload_n (j := 1) (q := 5) dX6_outputOf_4 rfl rfl ?_
    refine V_aload_n (j := 0) (q := 6) dX6_outputOf_5 rfl rfl ?_
    refine V_getI (q := 9) fX6_55 (X.1 151 _ s_151) rfl dX6_outputOf_6 rfl ?_
    refine V_rw (y := nI m) hm ?_
    refine V_icmp_ge (tgt := 21) (q := 12) dX6_outputOf_9 rfl rfl (fun c2 => ?_) (fun c2 => ?_)
    · skip
      have e9 := i_n (n := m) (by omega)
      simp only [i_lt, i_le, e9] at c2
      refine V_iconst (q := 22) (v := nI 0) dX6_outputOf_21 rfl rfl ?_
      refine V_iret rfl dX6_outputOf_22 rfl rfl ?_
      exact ⟨pv (by rw [if_neg (by omega)]; rfl), rfl⟩
    · skip
      have e9 := i_n (n := m) (by omega)
      simp only [i_lt, i_le, e9] at c2
      obtain ⟨p, hp, rfl⟩ := i_of (x := x) (n := m) (by omega) (by omega)
      have np := nt_n (n := p) (by omega)
      refine V_aload_n (j := 0) (q := 13) dX6_outputOf_12 rfl rfl ?_
      refine V_getP (q := 16) (r := 158) fX6_20 (X.1 151 _ s_151) rfl (X.2.1 151 4 _ rfl) dX6_outputOf_13 rfl ?_
      refine V_iload_n (j := 1) (q := 17) dX6_outputOf_16 rfl rfl ?_
      refine V_iald (q := 18) (X.1 158 _ s_158) (by omega) (by decide) dX6_outputOf_17 rfl ?_
      refine V_goto (q := 22) dX6_outputOf_18 rfl ?_
      refine V_iret rfl dX6_outputOf_22 rfl rfl ?_
      exact ⟨pv (by rw [i_n (by omega), if_pos (by omega), np]; exact hO p hp), rfl⟩

set_option maxHeartbeats 4000000 in
set_option maxRecDepth 100000 in
theorem d_copyWhole {g : GX} {h : AH} {P : PG} {U : Nat → Nat} (X : CX h P U) {n : Nat} (hn : n < pNi P) (hk : pFd P n 0 = 3) {φ : Nat → Int32} (B : BY h φ) {c : Int32} (hc : hI h 151 8 = c) : Ct g mX6_copyWhole 1 0 0 [.ref 151, .ref (U n)] h (fun ρ η => ρ = none ∧ ∃ e, FBy h e ∧ BY e (cpB (16 * pFd P n 1 + pFd P n 2 + 0) (16 * pFd P n 3 + pFd P n 4 + 0) (pFd P n 5) φ) ∧ η = sI e 151 8 (c + nI (pFd P n 5))) := by
  refine Ct_intro (by decide +kernel) (Nat.le_of_ble_eq_true rfl) ?_
  show V g mX6_copyWhole _ h 0 0 [(0, .ref 151), (1, .ref (U n))] 0 []
  have hN := X.2.2.2.2.1
  have hR := X.2.2.1
  have hk8 := ok_kd X.2.2 hn
  have N := (X.2.1.2.2.2.1 n (by omega)).2
  rw [xfd_lt hn] at N
  obtain ⟨o1, o2, o3, o4, o5, o6, o7⟩ := ok_cp X.2.2 hn hk
  have hr1 : pFd P n 1 < 4 := by omega
  have hr2 : pFd P n 3 < 4 := by omega
  have ez := szx_lt o1
  have ez2 := szx_lt o2
  refine V_aload_n (j := 0) (q := 1) dX6_copyWhole_0 rfl rfl ?_
  refine V_aload_n (j := 1) (q := 2) dX6_copyWhole_1 rfl rfl ?_
  refine V_iconst (q := 3) (v := nI 0) dX6_copyWhole_2 rfl rfl ?_
  refine V_aload_n (j := 1) (q := 4) dX6_copyWhole_3 rfl rfl ?_
  refine V_getI (q := 7) fX6_120 N.2.1 rfl dX6_copyWhole_4 rfl ?_
  refine V_rw (y := nI (pFd P n 5)) ((N.2.2 4 (by decide)).trans (congrArg nI ((if_cp hk).2.2.1))) ?_
  refine V_callV (q := 10) (S := []) kX6_133 (d_moveBytes X hn hk (s := 0) (l := pFd P n 5) (by omega) B) (X.1.1 151 _ s_151) rfl rfl rfl dX6_copyWhole_7 rfl (fun r1 h2 p3 => ?_)
  obtain ⟨rfl, F, Be⟩ := p3
  have hC := F.cs X.1
  have N1 := F.in N
  refine V_aload_n (j := 0) (q := 11) dX6_copyWhole_10 rfl rfl ?_
  refine V_dup (q := 12) dX6_copyWhole_11 rfl rfl ?_
  refine V_getI (q := 15) fX6_65 (hC.1 151 _ s_151) rfl dX6_copyWhole_12 rfl ?_
  refine V_rw (y := c) (by rw [F.2 151 (by decide)]; exact hc) ?_
  refine V_aload_n (j := 1) (q := 16) dX6_copyWhole_15 rfl rfl ?_
  refine V_getI (q := 19) fX6_120 N1.2.1 rfl dX6_copyWhole_16 rfl ?_
  refine V_rw (y := nI (pFd P n 5)) ((N1.2.2 4 (by decide)).trans (congrArg nI ((if_cp hk).2.2.1))) ?_
  refine V_iadd (q := 20) dX6_copyWhole_19 rfl ?_
  refine V_putI (q := 23) wX6_65 (hC.1 151 _ s_151) rfl dX6_copyWhole_20 rfl ?_
  refine V_vret rfl dX6_copyWhole_23 rfl rfl ?_
  exact ⟨rfl, _, F, Be, rfl⟩


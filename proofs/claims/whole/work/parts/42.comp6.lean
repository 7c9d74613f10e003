set_option maxHeartbeats 4000000 in
set_option maxRecDepth 100000 in
theorem d_layoutOf {g : GX} {h : AH} {x : Int32} (X : CS h.1 (hP h)) : Ct g mX0_layoutOf 0 0 0 [.ref 9, .int x] h (fun ρ η => ρ = some (.ref (lay x)) ∧ η = h) := by
  refine Ct_intro (by decide +kernel) (Nat.le_of_ble_eq_true rfl) ?_
  show V g mX0_layoutOf _ h 0 0 [(0, .ref 9), (1, .int x)] 0 []
  refine V_iload_n (j := 1) (q := 1) dX0_layoutOf_0 rfl rfl ?_
  refine V_if_lt (tgt := 18) (q := 4) dX0_layoutOf_1 rfl rfl (fun c1 => ?_) (fun c1 => ?_)
  · skip
    simp only [i_lt, i_le, i_0] at c1
    refine V_aload_n (j := 0) (q := 19) dX0_layoutOf_18 rfl rfl ?_
    refine V_getP (q := 22) (r := 11) fX0_18 (X.1 9 _ s_9) rfl (X.2.1 9 1 _ rfl) dX0_layoutOf_19 rfl ?_
    refine V_aret rfl dX0_layoutOf_22 rfl rfl ?_
    exact ⟨pva (by unfold lay; rw [if_neg (by omega)]), rfl⟩
  · skip
    simp only [i_lt, i_le, i_0] at c1
    refine V_iload_n (j := 1) (q := 5) dX0_layoutOf_4 rfl rfl ?_
    refine V_iconst (q := 6) (v := nI 4) dX0_layoutOf_5 rfl rfl ?_
    refine V_icmp_ge (tgt := 18) (q := 9) dX0_layoutOf_6 rfl rfl (fun c2 => ?_) (fun c2 => ?_)
    · skip
      have e9 := i_n (n := 4) (by decide)
      simp only [i_lt, i_le, e9] at c2
      refine V_aload_n (j := 0) (q := 19) dX0_layoutOf_18 rfl rfl ?_
      refine V_getP (q := 22) (r := 11) fX0_18 (X.1 9 _ s_9) rfl (X.2.1 9 1 _ rfl) dX0_layoutOf_19 rfl ?_
      refine V_aret rfl dX0_layoutOf_22 rfl rfl ?_
      exact ⟨pva (by unfold lay; rw [if_neg (by omega)]), rfl⟩
    · skip
      have e9 := i_n (n := 4) (by decide)
      simp only [i_lt, i_le, e9] at c2
      obtain ⟨r, hr, rfl⟩ := i_of (x := x) (n := 4) (by omega) (by omega)
      refine V_aload_n (j := 0) (q := 10) dX0_layoutOf_9 rfl rfl ?_
      refine V_getP (q := 13) (r := 10) fX0_11 (X.1 9 _ s_9) rfl (X.2.1 9 0 _ rfl) dX0_layoutOf_10 rfl ?_
      refine V_iload_n (j := 1) (q := 14) dX0_layoutOf_13 rfl rfl ?_
      refine V_aald (q := 15) (c := 14) (r := (59 + 23 * r)) (by decide) (X.1 10 _ s_10) (by omega) (by decide) (X.2.2.1 _ (by omega)) dX0_layoutOf_14 rfl ?_
      refine V_goto (q := 22) dX0_layoutOf_15 rfl ?_
      refine V_aret rfl dX0_layoutOf_22 rfl rfl ?_
      exact ⟨pva (by rw [lay_n hr]), rfl⟩

set_option maxHeartbeats 4000000 in
set_option maxRecDepth 100000 in
theorem d_collectRanges {g : GX} {h : AH} {P : PG} {U : Nat → Nat} (X : CX h P U) {n : Nat} (hn : n < pNi P) (W : W1 P n h) : Ct g mX0_collectRanges 2 0 0 [.ref 9, .ref (U n), .int (nI n)] h (fun ρ η => ρ = none ∧ FAn h η ∧ W1 P (n + 1) η) := by
  refine Ct_intro (by decide +kernel) (Nat.le_of_ble_eq_true rfl) ?_
  show V g mX0_collectRanges _ h 0 0 [(0, .ref 9), (1, .ref (U n)), (2, .int (nI n))] 0 []
  have hN := X.2.2.2.2.1
  have hR := X.2.2.1
  have hk8 := ok_kd X.2.2 hn
  have N := (X.2.1.2.2.2.1 n (by omega)).2
  rw [xfd_lt hn] at N
  rcases (show (pFd P n 0 = 1 ∨ pFd P n 0 = 2) ∨ pFd P n 0 = 4 ∨ pFd P n 0 = 3 ∨ 5 ≤ pFd P n 0 by omega) with hk | hk | hk | hk
  · skip
    obtain ⟨o1, o2, o3, o4, o5, o6⟩ := ok_ac X.2.2 hn (by simp [isAc, hk])
    have hr1 : pFd P n 1 < 4 := by omega
    have ez := szx_lt o1
    refine V_aload_n (j := 0) (q := 1) dX0_collectRanges_0 rfl rfl ?_
    refine V_aload_n (j := 1) (q := 2) dX0_collectRanges_1 rfl rfl ?_
    refine V_getI (q := 5) fX0_66 N.2.1 rfl dX0_collectRanges_2 rfl ?_
    refine V_rw (y := nI (pFd P n 1)) ((N.2.2 2 (by decide)).trans (congrArg nI ((if_ac hk).2.1))) ?_
    refine V_cpV (q := 8) (S := []) (v := .ref (59 + 23 * (pFd P n 1))) kX0_71 (by have := d_layoutOf (g := g) (h := h) (x := nI (pFd P n 1)) X.1; rw [lay_n (by omega)] at this; exact this) (X.1.1 9 _ s_9) rfl rfl rfl dX0_collectRanges_5 rfl ?_
    refine V_astore_n (q := 9) (L' := [(3, .ref (59 + 23 * (pFd P n 1))), (0, .ref 9), (1, .ref (U n)), (2, .int (nI n))]) dX0_collectRanges_8 rfl rfl rfl ?_
    refine V_aload_n (j := 2) (q := 10) dX0_collectRanges_9 rfl rfl ?_
    have eil : (decide (pFd P n 0 = 1) || decide (pFd P n 0 = 2)) = true := by simp [hk]
    refine V_cpV (q := 13) (S := []) (v := .int (bi true)) kX0_75 (by have := d_isLoadOrStore (g := g) N (by omega); rw [eil] at this; exact this) N.2.1 rfl rfl rfl dX0_collectRanges_10 rfl ?_
    refine V_if_eqB (tgt := 31) (q := 16) dX0_collectRanges_13 rfl rfl (fun z => absurd z (by decide)) (fun _ => ?_)
    refine V_aload_n (j := 0) (q := 17) dX0_collectRanges_16 rfl rfl ?_
    refine V_aload_n (j := 2) (q := 18) dX0_collectRanges_17 rfl rfl ?_
    refine V_getI (q := 21) fX0_79 N.2.1 rfl dX0_collectRanges_18 rfl ?_
    refine V_rw (y := nI (pFd P n 2)) ((N.2.2 3 (by decide)).trans (congrArg nI ((if_ac hk).2.2.1))) ?_
    refine V_aload_n (j := 2) (q := 22) dX0_collectRanges_21 rfl rfl ?_
    refine V_getI (q := 25) fX0_82 N.2.1 rfl dX0_collectRanges_22 rfl ?_
    refine V_rw (y := nI (pFd P n 3)) ((N.2.2 4 (by decide)).trans (congrArg nI ((if_ac hk).2.2.2))) ?_
    refine V_callV (q := 28) (S := []) kX0_85 (d_addAccess (o := pFd P n 2) (l := pFd P n 3) (X.1.2.2.2.2.2.2 _ hr1) (W _ hr1).1.1 (by omega) (by omega) (fun k hk => ((W _ hr1).1.2.2 k hk).1) (fun k hk => ((W _ hr1).1.2.2 k hk).2.1)) ((X.1.2.2.2.2.2.2 _ hr1).1 0 _ rfl) rfl rfl rfl dX0_collectRanges_25 rfl (fun r2 h3 p4 => ?_)
    obtain ⟨rfl, q1, q2, q3, q4, q5⟩ := p4
    refine V_goto (q := 98) dX0_collectRanges_28 rfl ?_
    refine V_vret rfl dX0_collectRanges_98 rfl rfl ?_
    exact ⟨rfl, W1_ac W hk hr1 q1 q2 q3 q4 q5⟩
  · skip
    have o1 := ok_es X.2.2 hn hk
    have hr1 : pFd P n 1 < 4 := by omega
    refine V_aload_n (j := 0) (q := 1) dX0_collectRanges_0 rfl rfl ?_
    refine V_aload_n (j := 1) (q := 2) dX0_collectRanges_1 rfl rfl ?_
    refine V_getI (q := 5) fX0_66 N.2.1 rfl dX0_collectRanges_2 rfl ?_
    refine V_rw (y := nI (pFd P n 1)) ((N.2.2 2 (by decide)).trans (congrArg nI (if_es hk))) ?_
    refine V_cpV (q := 8) (S := []) (v := .ref (59 + 23 * (pFd P n 1))) kX0_71 (by have := d_layoutOf (g := g) (h := h) (x := nI (pFd P n 1)) X.1; rw [lay_n (by omega)] at this; exact this) (X.1.1 9 _ s_9) rfl rfl rfl dX0_collectRanges_5 rfl ?_
    refine V_astore_n (q := 9) (L' := [(3, .ref (59 + 23 * (pFd P n 1))), (0, .ref 9), (1, .ref (U n)), (2, .int (nI n))]) dX0_collectRanges_8 rfl rfl rfl ?_
    refine V_aload_n (j := 2) (q := 10) dX0_collectRanges_9 rfl rfl ?_
    have eil : (decide (pFd P n 0 = 1) || decide (pFd P n 0 = 2)) = false := by simp [hk]
    refine V_cpV (q := 13) (S := []) (v := .int (bi false)) kX0_75 (by have := d_isLoadOrStore (g := g) N (by omega); rw [eil] at this; exact this) N.2.1 rfl rfl rfl dX0_collectRanges_10 rfl ?_
    refine V_if_eqB (tgt := 31) (q := 16) dX0_collectRanges_13 rfl rfl (fun _ => ?_) (fun z => absurd z (by decide))
    refine V_aload_n (j := 2) (q := 32) dX0_collectRanges_31 rfl rfl ?_
    refine V_getI (q := 35) fX0_89 N.2.1 rfl dX0_collectRanges_32 rfl ?_
    refine V_rw (y := nI (pFd P n 0)) (N.2.2 0 (by decide)) ?_
    refine V_iconst (q := 36) (v := nI 4) dX0_collectRanges_35 rfl rfl ?_
    refine V_icmp_neN (tgt := 47) (q := 39) dX0_collectRanges_36 rfl rfl (by omega) (by omega) (fun c6 => ?_) (fun c6 => ?_)
    · skip
      exact absurd c6 (by omega)
    · skip
      refine V_aload_n (j := 0) (q := 40) dX0_collectRanges_39 rfl rfl ?_
      refine V_iconst (q := 41) (v := nI 1) dX0_collectRanges_40 rfl rfl ?_
      refine V_rw (y := bi true) rfl ?_
      refine V_putZ (b := true) (q := 44) wX0_92 ((X.1.2.2.2.2.2.2 _ hr1).1 0 _ rfl) rfl dX0_collectRanges_41 rfl ?_
      refine V_goto (q := 98) dX0_collectRanges_44 rfl ?_
      refine V_vret rfl dX0_collectRanges_98 rfl rfl ?_
      exact ⟨rfl, W1_es W hk hr1⟩
  · skip
    obtain ⟨o1, o2, o3, o4, o5, o6, o7⟩ := ok_cp X.2.2 hn hk
    have hr1 : pFd P n 1 < 4 := by omega
    have hr2 : pFd P n 3 < 4 := by omega
    have ez := szx_lt o1
    have ez2 := szx_lt o2
    refine V_aload_n (j := 0) (q := 1) dX0_collectRanges_0 rfl rfl ?_
    refine V_aload_n (j := 1) (q := 2) dX0_collectRanges_1 rfl rfl ?_
    refine V_getI (q := 5) fX0_66 N.2.1 rfl dX0_collectRanges_2 rfl ?_
    refine V_rw (y := nI (pFd P n 1)) ((N.2.2 2 (by decide)).trans (congrArg nI ((if_cp hk).1))) ?_
    refine V_cpV (q := 8) (S := []) (v := .ref (59 + 23 * (pFd P n 1))) kX0_71 (by have := d_layoutOf (g := g) (h := h) (x := nI (pFd P n 1)) X.1; rw [lay_n (by omega)] at this; exact this) (X.1.1 9 _ s_9) rfl rfl rfl dX0_collectRanges_5 rfl ?_
    refine V_astore_n (q := 9) (L' := [(3, .ref (59 + 23 * (pFd P n 1))), (0, .ref 9), (1, .ref (U n)), (2, .int (nI n))]) dX0_collectRanges_8 rfl rfl rfl ?_
    refine V_aload_n (j := 2) (q := 10) dX0_collectRanges_9 rfl rfl ?_
    have eil : (decide (pFd P n 0 = 1) || decide (pFd P n 0 = 2)) = false := by simp [hk]
    refine V_cpV (q := 13) (S := []) (v := .int (bi false)) kX0_75 (by have := d_isLoadOrStore (g := g) N (by omega); rw [eil] at this; exact this) N.2.1 rfl rfl rfl dX0_collectRanges_10 rfl ?_
    refine V_if_eqB (tgt := 31) (q := 16) dX0_collectRanges_13 rfl rfl (fun _ => ?_) (fun z => absurd z (by decide))
    refine V_aload_n (j := 2) (q := 32) dX0_collectRanges_31 rfl rfl ?_
    refine V_getI (q := 35) fX0_89 N.2.1 rfl dX0_collectRanges_32 rfl ?_
    refine V_rw (y := nI (pFd P n 0)) (N.2.2 0 (by decide)) ?_
    refine V_iconst (q := 36) (v := nI 4) dX0_collectRanges_35 rfl rfl ?_
    refine V_icmp_neN (tgt := 47) (q := 39) dX0_collectRanges_36 rfl rfl (by omega) (by omega) (fun c8 => ?_) (fun c8 => ?_)
    · skip
      refine V_aload_n (j := 2) (q := 48) dX0_collectRanges_47 rfl rfl ?_
      refine V_getI (q := 51) fX0_89 N.2.1 rfl dX0_collectRanges_48 rfl ?_
      refine V_rw (y := nI (pFd P n 0)) (N.2.2 0 (by decide)) ?_
      refine V_iconst (q := 52) (v := nI 3) dX0_collectRanges_51 rfl rfl ?_
      refine V_icmp_neN (tgt := 98) (q := 55) dX0_collectRanges_52 rfl rfl (by omega) (by omega) (fun c9 => ?_) (fun c9 => ?_)
      · skip
        exact absurd c9 (by omega)
      · skip
        refine V_aload_n (j := 0) (q := 56) dX0_collectRanges_55 rfl rfl ?_
        refine V_aload_n (j := 2) (q := 57) dX0_collectRanges_56 rfl rfl ?_
        refine V_getI (q := 60) fX0_79 N.2.1 rfl dX0_collectRanges_57 rfl ?_
        refine V_rw (y := nI (pFd P n 2)) ((N.2.2 3 (by decide)).trans (congrArg nI ((if_cp hk).2.1))) ?_
        refine V_aload_n (j := 2) (q := 61) dX0_collectRanges_60 rfl rfl ?_
        refine V_getI (q := 64) fX0_82 N.2.1 rfl dX0_collectRanges_61 rfl ?_
        refine V_rw (y := nI (pFd P n 5)) ((N.2.2 4 (by decide)).trans (congrArg nI ((if_cp hk).2.2.1))) ?_
        refine V_lconst (q := 65) (v := 1) dX0_collectRanges_64 rfl rfl ?_
        refine V_iconst (q := 66) (v := nI 2) dX0_collectRanges_65 rfl rfl ?_
        refine V_iload_n (j := 3) (q := 67) dX0_collectRanges_66 rfl rfl ?_
        refine V_imulN (q := 68) dX0_collectRanges_67 rfl ?_
        refine V_lshl (q := 69) dX0_collectRanges_68 rfl ?_
        refine V_callV (q := 72) (S := []) kX0_95 (d_addCopyRange (o := pFd P n 2) (l := pFd P n 5) (b := 1 <<< (Int32.toInt64 (nI (2 * n)) &&& 63)) (X.1.2.2.2.2.2.2 _ hr1) (W _ hr1).1.1 (by omega) (by omega) (fun k hk => ((W _ hr1).1.2.2 k hk).2.2)) ((X.1.2.2.2.2.2.2 _ hr1).1 0 _ rfl) rfl rfl rfl dX0_collectRanges_69 rfl (fun r10 h11 p12 => ?_)
        obtain ⟨rfl, a11, a12, a13, a14, a15⟩ := p12
        have Q1 := W1_c1 (s := 0) (R := fun r k => crN P r k n) (by decide) hk hr1 (fun r hr k hk => ((W r hr).1.2.2 k hk).2.2) a14 a15
        have X1 : CS h11.1 (hP h11) := by rw [a11, a13]; exact X.1
        have N1 : IN h11 (U n) (pFd P n) := IN_of N a11 (congrFun a12 _)
        refine V_aload_n (j := 1) (q := 73) dX0_collectRanges_72 rfl rfl ?_
        refine V_aload_n (j := 2) (q := 74) dX0_collectRanges_73 rfl rfl ?_
        refine V_getI (q := 77) fX0_99 N1.2.1 rfl dX0_collectRanges_74 rfl ?_
        refine V_rw (y := nI (pFd P n 3)) ((N1.2.2 5 (by decide)).trans (congrArg nI ((if_cp hk).2.2.2.1))) ?_
        refine V_cpV (q := 80) (S := []) (v := .ref (59 + 23 * (pFd P n 3))) kX0_71 (by have := d_layoutOf (g := g) (h := h11) (x := nI (pFd P n 3)) X1; rw [lay_n (by omega)] at this; exact this) (X1.1 9 _ s_9) rfl rfl rfl dX0_collectRanges_77 rfl ?_
        refine V_aload_n (j := 2) (q := 81) dX0_collectRanges_80 rfl rfl ?_
        refine V_getI (q := 84) fX0_102 N1.2.1 rfl dX0_collectRanges_81 rfl ?_
        refine V_rw (y := nI (pFd P n 4)) ((N1.2.2 6 (by decide)).trans (congrArg nI ((if_cp hk).2.2.2.2))) ?_
        refine V_aload_n (j := 2) (q := 85) dX0_collectRanges_84 rfl rfl ?_
        refine V_getI (q := 88) fX0_82 N1.2.1 rfl dX0_collectRanges_85 rfl ?_
        refine V_rw (y := nI (pFd P n 5)) ((N1.2.2 4 (by decide)).trans (congrArg nI ((if_cp hk).2.2.1))) ?_
        refine V_lconst (q := 89) (v := 1) dX0_collectRanges_88 rfl rfl ?_
        refine V_iconst (q := 90) (v := nI 2) dX0_collectRanges_89 rfl rfl ?_
        refine V_iload_n (j := 3) (q := 91) dX0_collectRanges_90 rfl rfl ?_
        refine V_imulN (q := 92) dX0_collectRanges_91 rfl ?_
        refine V_iconst (q := 93) (v := nI 1) dX0_collectRanges_92 rfl rfl ?_
        refine V_iaddN (q := 94) dX0_collectRanges_93 rfl ?_
        refine V_lshl (q := 95) dX0_collectRanges_94 rfl ?_
        refine V_callV (q := 98) (S := []) kX0_95 (d_addCopyRange (o := pFd P n 4) (l := pFd P n 5) (b := 1 <<< (Int32.toInt64 (nI (2 * n + 1)) &&& 63)) (X1.2.2.2.2.2.2 _ hr2) ((congrFun (congrFun a12 _) 6).trans (W _ hr2).1.1) (by omega) (by omega) (fun k hk => Q1 _ hr2 k hk)) ((X1.2.2.2.2.2.2 _ hr2).1 0 _ rfl) rfl rfl rfl dX0_collectRanges_95 rfl (fun r13 h14 p15 => ?_)
        obtain ⟨rfl, a21, a22, a23, a24, a25⟩ := p15
        have Q2 := W1_c1 (s := 1) (by decide) hk hr2 Q1 a24 a25
        refine V_vret rfl dX0_collectRanges_98 rfl rfl ?_
        exact ⟨rfl, W1_cp W hk ⟨a11, a12, a13⟩ ⟨a21, a22, a23⟩ (fun b hb => ⟨a14 b (by omega), a24 b (by omega)⟩) Q2⟩
    · skip
      exact absurd c8 (by omega)
  · skip
    refine V_aload_n (j := 0) (q := 1) dX0_collectRanges_0 rfl rfl ?_
    refine V_aload_n (j := 1) (q := 2) dX0_collectRanges_1 rfl rfl ?_
    refine V_getI (q := 5) fX0_66 N.2.1 rfl dX0_collectRanges_2 rfl ?_
    refine V_rw (y := nI 0) ((N.2.2 2 (by decide)).trans (congrArg nI ((if_ot hk).1))) ?_
    refine V_cpV (q := 8) (S := []) (v := .ref (59 + 23 * 0)) kX0_71 (by have := d_layoutOf (g := g) (h := h) (x := nI 0) X.1; rw [lay_n (by omega)] at this; exact this) (X.1.1 9 _ s_9) rfl rfl rfl dX0_collectRanges_5 rfl ?_
    refine V_astore_n (q := 9) (L' := [(3, .ref (59 + 23 * 0)), (0, .ref 9), (1, .ref (U n)), (2, .int (nI n))]) dX0_collectRanges_8 rfl rfl rfl ?_
    refine V_aload_n (j := 2) (q := 10) dX0_collectRanges_9 rfl rfl ?_
    have eil : (decide (pFd P n 0 = 1) || decide (pFd P n 0 = 2)) = false := by rw [decide_eq_false (by omega), decide_eq_false (by omega)]; rfl
    refine V_cpV (q := 13) (S := []) (v := .int (bi false)) kX0_75 (by have := d_isLoadOrStore (g := g) N (by omega); rw [eil] at this; exact this) N.2.1 rfl rfl rfl dX0_collectRanges_10 rfl ?_
    refine V_if_eqB (tgt := 31) (q := 16) dX0_collectRanges_13 rfl rfl (fun _ => ?_) (fun z => absurd z (by decide))
    refine V_aload_n (j := 2) (q := 32) dX0_collectRanges_31 rfl rfl ?_
    refine V_getI (q := 35) fX0_89 N.2.1 rfl dX0_collectRanges_32 rfl ?_
    refine V_rw (y := nI (pFd P n 0)) (N.2.2 0 (by decide)) ?_
    refine V_iconst (q := 36) (v := nI 4) dX0_collectRanges_35 rfl rfl ?_
    refine V_icmp_neN (tgt := 47) (q := 39) dX0_collectRanges_36 rfl rfl (by omega) (by omega) (fun c17 => ?_) (fun c17 => ?_)
    · skip
      refine V_aload_n (j := 2) (q := 48) dX0_collectRanges_47 rfl rfl ?_
      refine V_getI (q := 51) fX0_89 N.2.1 rfl dX0_collectRanges_48 rfl ?_
      refine V_rw (y := nI (pFd P n 0)) (N.2.2 0 (by decide)) ?_
      refine V_iconst (q := 52) (v := nI 3) dX0_collectRanges_51 rfl rfl ?_
      refine V_icmp_neN (tgt := 98) (q := 55) dX0_collectRanges_52 rfl rfl (by omega) (by omega) (fun c18 => ?_) (fun c18 => ?_)
      · skip
        refine V_vret rfl dX0_collectRanges_98 rfl rfl ?_
        exact ⟨rfl, FAn.rf h, W1_ot W hk⟩
      · skip
        exact absurd c18 (by omega)
    · skip
      exact absurd c17 (by omega)


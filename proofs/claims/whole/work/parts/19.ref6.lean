set_option maxHeartbeats 4000000 in
set_option maxRecDepth 100000 in
theorem lp_enliven {g : GX} {h : AH} {m : Nat} {P : PG} (W : RF h m P) (A : PA h m P (pNr P)) {i : Nat} {f : Nat → Bool} (B : BR h (m + 8) f) (hi : i < pNi P) (hc : pFd P i 0 = 3) : ∀ (t : Nat) (k : Nat) (b : Bool) (e : AH) (fk : Nat → Bool), (k ≤ pFd P i 5) → (FB h e (m + 8)) → (BR e (m + 8) fk) → (EN P i f fk k b) → pFd P i 5 - k < t → V g mX8_enliven (thM g 1 0 0 (fun ρ η => ∃ (b : Bool) (fl : Nat → Bool), ρ = some (.int (bi b)) ∧ FB h η (m + 8) ∧ BR η (m + 8) fl ∧ EN P i f fl (pFd P i 5) b)) e 0 0 [(0, .ref m), (1, .int (nI i)), (2, .int (bi b)), (3, .int (nI k))] 4 [] := by
  intro t
  induction t with
  | zero =>
    intro k b e fk hk F B2 E hfu
    exact absurd hfu (Nat.not_lt_zero _)
  | succ t ih =>
    intro k b e fk hk F B2 E hfu
    have hN := W.2.2.2.2.1
    have hR := W.2.2.1
    have hcp := ok_cp W.2.2 hi hc
    have W := F.RF W (by omega)
    have A := F.PA A (by decide)
    refine V_iload_n (j := 3) (q := 5) dX8_enliven_4 rfl rfl ?_
    refine V_aload_n (j := 0) (q := 6) dX8_enliven_5 rfl rfl ?_
    refine V_iload_n (j := 1) (q := 7) dX8_enliven_6 rfl rfl ?_
    refine V_iconst (q := 8) (v := nI 5) dX8_enliven_7 rfl rfl ?_
    refine V_cpV (q := 11) (S := [.int (nI k)]) (v := .int (nI (pFd P i 5))) kX8_72 (c_of (i := i) W (by omega) (by omega)) (W.1.1 0 _ rfl) rfl rfl rfl dX8_enliven_8 rfl ?_
    refine V_icmp_geN (tgt := 122) (q := 14) dX8_enliven_11 rfl rfl (by omega) (by omega) (fun c1 => ?_) (fun c1 => ?_)
    · skip
      refine V_iload_n (j := 2) (q := 123) dX8_enliven_122 rfl rfl ?_
      refine V_zret (b := b) rfl dX8_enliven_123 rfl rfl ?_
      exact ⟨b, fk, rfl, F, B2, by rw [show pFd P i 5 = k by omega]; exact E⟩
    · skip
      have hd64 := vpl_lt W.2.2 (vpl_d W.2.2 hi hc c1)
      have hs64 := vpl_lt W.2.2 (vpl_s W.2.2 hi hc c1)
      refine V_aload_n (j := 0) (q := 15) dX8_enliven_14 rfl rfl ?_
      refine V_aload_n (j := 0) (q := 16) dX8_enliven_15 rfl rfl ?_
      refine V_iload_n (j := 1) (q := 17) dX8_enliven_16 rfl rfl ?_
      refine V_iconst (q := 18) (v := nI 1) dX8_enliven_17 rfl rfl ?_
      refine V_cpV (q := 21) (S := [.ref m]) (v := .int (nI (pFd P i 1))) kX8_72 (c_of (i := i) W (by omega) (by omega)) (W.1.1 0 _ rfl) rfl rfl rfl dX8_enliven_18 rfl ?_
      refine V_aload_n (j := 0) (q := 22) dX8_enliven_21 rfl rfl ?_
      refine V_iload_n (j := 1) (q := 23) dX8_enliven_22 rfl rfl ?_
      refine V_iconst (q := 24) (v := nI 2) dX8_enliven_23 rfl rfl ?_
      refine V_cpV (q := 27) (S := [.int (nI (pFd P i 1)), .ref m]) (v := .int (nI (pFd P i 2))) kX8_72 (c_of (i := i) W (by omega) (by omega)) (W.1.1 0 _ rfl) rfl rfl rfl dX8_enliven_24 rfl ?_
      refine V_iload_n (j := 3) (q := 28) dX8_enliven_27 rfl rfl ?_
      refine V_iaddN (q := 29) dX8_enliven_28 rfl ?_
      refine V_cpV (q := 32) (S := []) (v := .int (nI (16 * (pFd P i 1) + pof P (pFd P i 1) (pFd P i 2 + k)))) kX8_110 (c_placeOf (r := pFd P i 1) (k := pFd P i 2 + k) W A (by omega) (by omega) (ptd_d hi hc (j := k) (by omega) (by omega))) (W.1.1 0 _ rfl) rfl rfl rfl dX8_enliven_29 rfl ?_
      refine V_rw (y := nI (dtP P i k)) rfl ?_
      refine V_istore (q := 34) (L' := [(4, .int (nI (dtP P i k))), (0, .ref m), (1, .int (nI i)), (2, .int (bi b)), (3, .int (nI k))]) dX8_enliven_32 rfl rfl rfl ?_
      refine V_aload_n (j := 1) (q := 35) dX8_enliven_34 rfl rfl ?_
      refine V_aload_n (j := 1) (q := 36) dX8_enliven_35 rfl rfl ?_
      refine V_iload_n (j := 2) (q := 37) dX8_enliven_36 rfl rfl ?_
      refine V_iconst (q := 38) (v := nI 3) dX8_enliven_37 rfl rfl ?_
      refine V_cpV (q := 41) (S := [.ref m]) (v := .int (nI (pFd P i 3))) kX8_72 (c_of (i := i) W (by omega) (by omega)) (W.1.1 0 _ rfl) rfl rfl rfl dX8_enliven_38 rfl ?_
      refine V_aload_n (j := 1) (q := 42) dX8_enliven_41 rfl rfl ?_
      refine V_iload_n (j := 2) (q := 43) dX8_enliven_42 rfl rfl ?_
      refine V_iconst (q := 44) (v := nI 4) dX8_enliven_43 rfl rfl ?_
      refine V_cpV (q := 47) (S := [.int (nI (pFd P i 3)), .ref m]) (v := .int (nI (pFd P i 4))) kX8_72 (c_of (i := i) W (by omega) (by omega)) (W.1.1 0 _ rfl) rfl rfl rfl dX8_enliven_44 rfl ?_
      refine V_iload_n (j := 4) (q := 48) dX8_enliven_47 rfl rfl ?_
      refine V_iaddN (q := 49) dX8_enliven_48 rfl ?_
      refine V_cpV (q := 52) (S := []) (v := .int (nI (16 * (pFd P i 3) + pof P (pFd P i 3) (pFd P i 4 + k)))) kX8_110 (c_placeOf (r := pFd P i 3) (k := pFd P i 4 + k) W A (by omega) (by omega) (ptd_s hi hc (j := k) (by omega) (by omega))) (W.1.1 0 _ rfl) rfl rfl rfl dX8_enliven_49 rfl ?_
      refine V_rw (y := nI (srP P i k)) rfl ?_
      refine V_istore (q := 54) (L' := [(5, .int (nI (srP P i k))), (4, .int (nI (dtP P i k))), (0, .ref m), (1, .int (nI i)), (2, .int (bi b)), (3, .int (nI k))]) dX8_enliven_52 rfl rfl rfl ?_
      refine V_iload_n (j := 4) (q := 55) dX8_enliven_54 rfl rfl ?_
      refine V_if_neB (tgt := 78) (q := 58) dX8_enliven_55 rfl rfl (fun c2 => ?_) (fun c2 => ?_)
      · skip
        refine V_iconst (q := 79) (v := nI 1) dX8_enliven_78 rfl rfl ?_
        refine V_goto (q := 83) dX8_enliven_79 rfl ?_
        refine V_rw (y := bi true) rfl ?_
        refine V_istore_n (q := 84) (L' := [(2, .int (bi true)), (5, .int (nI (srP P i k))), (4, .int (nI (dtP P i k))), (0, .ref m), (1, .int (nI i)), (3, .int (nI k))]) dX8_enliven_83 rfl rfl rfl ?_
        refine V_aload_n (j := 3) (q := 85) dX8_enliven_84 rfl rfl ?_
        refine V_getP (q := 88) (r := (m + 8)) fX8_32 (W.1.1 0 _ rfl) rfl (W.1.2 8 _ rfl) dX8_enliven_85 rfl ?_
        refine V_iload (j := 1) (q := 90) dX8_enliven_88 rfl rfl ?_
        refine V_aload_n (j := 3) (q := 91) dX8_enliven_90 rfl rfl ?_
        refine V_getP (q := 94) (r := (m + 8)) fX8_32 (W.1.1 0 _ rfl) rfl (W.1.2 8 _ rfl) dX8_enliven_91 rfl ?_
        refine V_iload (j := 1) (q := 96) dX8_enliven_94 rfl rfl ?_
        refine V_zald (q := 97) (W.1.1 8 _ rfl) (by omega) (by decide) dX8_enliven_96 rfl ?_
        refine V_rw (y := bi (fk (srP P i k))) (B2 _ (by omega)) ?_
        refine V_if_neB (tgt := 110) (q := 100) dX8_enliven_97 rfl rfl (fun c3 => ?_) (fun c3 => ?_)
        · skip
          refine V_iconst (q := 111) (v := nI 1) dX8_enliven_110 rfl rfl ?_
          refine V_goto (q := 115) dX8_enliven_111 rfl ?_
          refine V_rw (y := bi true) rfl ?_
          refine V_zast (b := true) (q := 116) (W.1.1 8 _ rfl) (by omega) (by decide) dX8_enliven_115 rfl ?_
          have W : RF (sI e (m + 8) (srP P i k) (bi true)) m P := RF_sI W (by omega)
          refine V_iincN (j := 5) (q := 119) (L' := [(3, .int (nI (k + 1))), (2, .int (bi true)), (5, .int (nI (srP P i k))), (4, .int (nI (dtP P i k))), (0, .ref m), (1, .int (nI i))]) dX8_enliven_116 rfl rfl rfl rfl ?_
          refine V_goto (q := 4) dX8_enliven_119 rfl ?_
          refine V_sub (L' := [(0, .ref m), (1, .int (nI i)), (2, .int (bi true)), (3, .int (nI (k + 1)))]) [4, 5, 1, 0] rfl ?_
          refine ih (k + 1) true (sI e (m + 8) (srP P i k) (bi true)) (fun x => if x = srP P i k then true else fk x) ?_ ?_ ?_ ?_ ?_
          · omega
          · exact F.set
          · exact BR_set B2 (if_pos rfl) (fun y hy => if_neg hy)
          · exact EN_s W.2.2 hi hc (by omega) E (by first | (simp [c1, c2, c3]; done) | (exfalso; simp_all)) (by first | (simp [c1, c2, c3]; done) | (exfalso; simp_all))
          · omega
        · skip
          refine V_aload_n (j := 3) (q := 101) dX8_enliven_100 rfl rfl ?_
          refine V_getP (q := 104) (r := (m + 8)) fX8_32 (W.1.1 0 _ rfl) rfl (W.1.2 8 _ rfl) dX8_enliven_101 rfl ?_
          refine V_iload (j := 2) (q := 106) dX8_enliven_104 rfl rfl ?_
          refine V_zald (q := 107) (W.1.1 8 _ rfl) (by omega) (by decide) dX8_enliven_106 rfl ?_
          refine V_rw (y := bi (fk (dtP P i k))) (B2 _ (by omega)) ?_
          refine V_if_eqB (tgt := 114) (q := 110) dX8_enliven_107 rfl rfl (fun c4 => ?_) (fun c4 => ?_)
          · skip
            refine V_iconst (q := 115) (v := nI 0) dX8_enliven_114 rfl rfl ?_
            refine V_rw (y := bi false) rfl ?_
            refine V_zast (b := false) (q := 116) (W.1.1 8 _ rfl) (by omega) (by decide) dX8_enliven_115 rfl ?_
            have W : RF (sI e (m + 8) (srP P i k) (bi false)) m P := RF_sI W (by omega)
            refine V_iincN (j := 5) (q := 119) (L' := [(3, .int (nI (k + 1))), (2, .int (bi true)), (5, .int (nI (srP P i k))), (4, .int (nI (dtP P i k))), (0, .ref m), (1, .int (nI i))]) dX8_enliven_116 rfl rfl rfl rfl ?_
            refine V_goto (q := 4) dX8_enliven_119 rfl ?_
            refine V_sub (L' := [(0, .ref m), (1, .int (nI i)), (2, .int (bi true)), (3, .int (nI (k + 1)))]) [4, 5, 1, 0] rfl ?_
            refine ih (k + 1) true (sI e (m + 8) (srP P i k) (bi false)) (fun x => if x = srP P i k then false else fk x) ?_ ?_ ?_ ?_ ?_
            · omega
            · exact F.set
            · exact BR_set B2 (if_pos rfl) (fun y hy => if_neg hy)
            · exact EN_s W.2.2 hi hc (by omega) E (by first | (simp [c1, c2, c3, c4]; done) | (exfalso; simp_all)) (by first | (simp [c1, c2, c3, c4]; done) | (exfalso; simp_all))
            · omega
          · skip
            refine V_iconst (q := 111) (v := nI 1) dX8_enliven_110 rfl rfl ?_
            refine V_goto (q := 115) dX8_enliven_111 rfl ?_
            refine V_rw (y := bi true) rfl ?_
            refine V_zast (b := true) (q := 116) (W.1.1 8 _ rfl) (by omega) (by decide) dX8_enliven_115 rfl ?_
            have W : RF (sI e (m + 8) (srP P i k) (bi true)) m P := RF_sI W (by omega)
            refine V_iincN (j := 5) (q := 119) (L' := [(3, .int (nI (k + 1))), (2, .int (bi true)), (5, .int (nI (srP P i k))), (4, .int (nI (dtP P i k))), (0, .ref m), (1, .int (nI i))]) dX8_enliven_116 rfl rfl rfl rfl ?_
            refine V_goto (q := 4) dX8_enliven_119 rfl ?_
            refine V_sub (L' := [(0, .ref m), (1, .int (nI i)), (2, .int (bi true)), (3, .int (nI (k + 1)))]) [4, 5, 1, 0] rfl ?_
            refine ih (k + 1) true (sI e (m + 8) (srP P i k) (bi true)) (fun x => if x = srP P i k then true else fk x) ?_ ?_ ?_ ?_ ?_
            · omega
            · exact F.set
            · exact BR_set B2 (if_pos rfl) (fun y hy => if_neg hy)
            · exact EN_s W.2.2 hi hc (by omega) E (by first | (simp [c1, c2, c3, c4]; done) | (exfalso; simp_all)) (by first | (simp [c1, c2, c3, c4]; done) | (exfalso; simp_all))
            · omega
      · skip
        refine V_aload_n (j := 2) (q := 59) dX8_enliven_58 rfl rfl ?_
        refine V_getP (q := 62) (r := (m + 8)) fX8_32 (W.1.1 0 _ rfl) rfl (W.1.2 8 _ rfl) dX8_enliven_59 rfl ?_
        refine V_iload (j := 1) (q := 64) dX8_enliven_62 rfl rfl ?_
        refine V_zald (q := 65) (W.1.1 8 _ rfl) (by omega) (by decide) dX8_enliven_64 rfl ?_
        refine V_rw (y := bi (fk (dtP P i k))) (B2 _ (by omega)) ?_
        refine V_if_eqB (tgt := 82) (q := 68) dX8_enliven_65 rfl rfl (fun c5 => ?_) (fun c5 => ?_)
        · skip
          refine V_iconst (q := 83) (v := nI 0) dX8_enliven_82 rfl rfl ?_
          refine V_rw (y := bi false) rfl ?_
          refine V_istore_n (q := 84) (L' := [(2, .int (bi false)), (5, .int (nI (srP P i k))), (4, .int (nI (dtP P i k))), (0, .ref m), (1, .int (nI i)), (3, .int (nI k))]) dX8_enliven_83 rfl rfl rfl ?_
          refine V_aload_n (j := 3) (q := 85) dX8_enliven_84 rfl rfl ?_
          refine V_getP (q := 88) (r := (m + 8)) fX8_32 (W.1.1 0 _ rfl) rfl (W.1.2 8 _ rfl) dX8_enliven_85 rfl ?_
          refine V_iload (j := 1) (q := 90) dX8_enliven_88 rfl rfl ?_
          refine V_aload_n (j := 3) (q := 91) dX8_enliven_90 rfl rfl ?_
          refine V_getP (q := 94) (r := (m + 8)) fX8_32 (W.1.1 0 _ rfl) rfl (W.1.2 8 _ rfl) dX8_enliven_91 rfl ?_
          refine V_iload (j := 1) (q := 96) dX8_enliven_94 rfl rfl ?_
          refine V_zald (q := 97) (W.1.1 8 _ rfl) (by omega) (by decide) dX8_enliven_96 rfl ?_
          refine V_rw (y := bi (fk (srP P i k))) (B2 _ (by omega)) ?_
          refine V_if_neB (tgt := 110) (q := 100) dX8_enliven_97 rfl rfl (fun c6 => ?_) (fun c6 => ?_)
          · skip
            refine V_iconst (q := 111) (v := nI 1) dX8_enliven_110 rfl rfl ?_
            refine V_goto (q := 115) dX8_enliven_111 rfl ?_
            refine V_rw (y := bi true) rfl ?_
            refine V_zast (b := true) (q := 116) (W.1.1 8 _ rfl) (by omega) (by decide) dX8_enliven_115 rfl ?_
            have W : RF (sI e (m + 8) (srP P i k) (bi true)) m P := RF_sI W (by omega)
            refine V_iincN (j := 5) (q := 119) (L' := [(3, .int (nI (k + 1))), (2, .int (bi false)), (5, .int (nI (srP P i k))), (4, .int (nI (dtP P i k))), (0, .ref m), (1, .int (nI i))]) dX8_enliven_116 rfl rfl rfl rfl ?_
            refine V_goto (q := 4) dX8_enliven_119 rfl ?_
            refine V_sub (L' := [(0, .ref m), (1, .int (nI i)), (2, .int (bi false)), (3, .int (nI (k + 1)))]) [4, 5, 1, 0] rfl ?_
            refine ih (k + 1) false (sI e (m + 8) (srP P i k) (bi true)) (fun x => if x = srP P i k then true else fk x) ?_ ?_ ?_ ?_ ?_
            · omega
            · exact F.set
            · exact BR_set B2 (if_pos rfl) (fun y hy => if_neg hy)
            · exact EN_s W.2.2 hi hc (by omega) E (by first | (simp [c1, c2, c5, c6]; done) | (exfalso; simp_all)) (by first | (simp [c1, c2, c5, c6]; done) | (exfalso; simp_all))
            · omega
          · skip
            refine V_aload_n (j := 3) (q := 101) dX8_enliven_100 rfl rfl ?_
            refine V_getP (q := 104) (r := (m + 8)) fX8_32 (W.1.1 0 _ rfl) rfl (W.1.2 8 _ rfl) dX8_enliven_101 rfl ?_
            refine V_iload (j := 2) (q := 106) dX8_enliven_104 rfl rfl ?_
            refine V_zald (q := 107) (W.1.1 8 _ rfl) (by omega) (by decide) dX8_enliven_106 rfl ?_
            refine V_rw (y := bi (fk (dtP P i k))) (B2 _ (by omega)) ?_
            refine V_if_eqB (tgt := 114) (q := 110) dX8_enliven_107 rfl rfl (fun _ => ?_) (fun z => absurd (z.symm.trans c5) (by decide))
            refine V_iconst (q := 115) (v := nI 0) dX8_enliven_114 rfl rfl ?_
            refine V_rw (y := bi false) rfl ?_
            refine V_zast (b := false) (q := 116) (W.1.1 8 _ rfl) (by omega) (by decide) dX8_enliven_115 rfl ?_
            have W : RF (sI e (m + 8) (srP P i k) (bi false)) m P := RF_sI W (by omega)
            refine V_iincN (j := 5) (q := 119) (L' := [(3, .int (nI (k + 1))), (2, .int (bi false)), (5, .int (nI (srP P i k))), (4, .int (nI (dtP P i k))), (0, .ref m), (1, .int (nI i))]) dX8_enliven_116 rfl rfl rfl rfl ?_
            refine V_goto (q := 4) dX8_enliven_119 rfl ?_
            refine V_sub (L' := [(0, .ref m), (1, .int (nI i)), (2, .int (bi false)), (3, .int (nI (k + 1)))]) [4, 5, 1, 0] rfl ?_
            refine ih (k + 1) false (sI e (m + 8) (srP P i k) (bi false)) (fun x => if x = srP P i k then false else fk x) ?_ ?_ ?_ ?_ ?_
            · omega
            · exact F.set
            · exact BR_set B2 (if_pos rfl) (fun y hy => if_neg hy)
            · exact EN_s W.2.2 hi hc (by omega) E (by first | (simp [c1, c2, c5, c6]; done) | (exfalso; simp_all)) (by first | (simp [c1, c2, c5, c6]; done) | (exfalso; simp_all))
            · omega
        · skip
          refine V_aload_n (j := 2) (q := 69) dX8_enliven_68 rfl rfl ?_
          refine V_getP (q := 72) (r := (m + 8)) fX8_32 (W.1.1 0 _ rfl) rfl (W.1.2 8 _ rfl) dX8_enliven_69 rfl ?_
          refine V_iload (j := 0) (q := 74) dX8_enliven_72 rfl rfl ?_
          refine V_zald (q := 75) (W.1.1 8 _ rfl) (by omega) (by decide) dX8_enliven_74 rfl ?_
          refine V_rw (y := bi (fk (srP P i k))) (B2 _ (by omega)) ?_
          refine V_if_neB (tgt := 82) (q := 78) dX8_enliven_75 rfl rfl (fun c8 => ?_) (fun c8 => ?_)
          · skip
            refine V_iconst (q := 83) (v := nI 0) dX8_enliven_82 rfl rfl ?_
            refine V_rw (y := bi false) rfl ?_
            refine V_istore_n (q := 84) (L' := [(2, .int (bi false)), (5, .int (nI (srP P i k))), (4, .int (nI (dtP P i k))), (0, .ref m), (1, .int (nI i)), (3, .int (nI k))]) dX8_enliven_83 rfl rfl rfl ?_
            refine V_aload_n (j := 3) (q := 85) dX8_enliven_84 rfl rfl ?_
            refine V_getP (q := 88) (r := (m + 8)) fX8_32 (W.1.1 0 _ rfl) rfl (W.1.2 8 _ rfl) dX8_enliven_85 rfl ?_
            refine V_iload (j := 1) (q := 90) dX8_enliven_88 rfl rfl ?_
            refine V_aload_n (j := 3) (q := 91) dX8_enliven_90 rfl rfl ?_
            refine V_getP (q := 94) (r := (m + 8)) fX8_32 (W.1.1 0 _ rfl) rfl (W.1.2 8 _ rfl) dX8_enliven_91 rfl ?_
            refine V_iload (j := 1) (q := 96) dX8_enliven_94 rfl rfl ?_
            refine V_zald (q := 97) (W.1.1 8 _ rfl) (by omega) (by decide) dX8_enliven_96 rfl ?_
            refine V_rw (y := bi (fk (srP P i k))) (B2 _ (by omega)) ?_
            refine V_if_neB (tgt := 110) (q := 100) dX8_enliven_97 rfl rfl (fun _ => ?_) (fun z => absurd (z.symm.trans c8) (by decide))
            refine V_iconst (q := 111) (v := nI 1) dX8_enliven_110 rfl rfl ?_
            refine V_goto (q := 115) dX8_enliven_111 rfl ?_
            refine V_rw (y := bi true) rfl ?_
            refine V_zast (b := true) (q := 116) (W.1.1 8 _ rfl) (by omega) (by decide) dX8_enliven_115 rfl ?_
            have W : RF (sI e (m + 8) (srP P i k) (bi true)) m P := RF_sI W (by omega)
            refine V_iincN (j := 5) (q := 119) (L' := [(3, .int (nI (k + 1))), (2, .int (bi false)), (5, .int (nI (srP P i k))), (4, .int (nI (dtP P i k))), (0, .ref m), (1, .int (nI i))]) dX8_enliven_116 rfl rfl rfl rfl ?_
            refine V_goto (q := 4) dX8_enliven_119 rfl ?_
            refine V_sub (L' := [(0, .ref m), (1, .int (nI i)), (2, .int (bi false)), (3, .int (nI (k + 1)))]) [4, 5, 1, 0] rfl ?_
            refine ih (k + 1) false (sI e (m + 8) (srP P i k) (bi true)) (fun x => if x = srP P i k then true else fk x) ?_ ?_ ?_ ?_ ?_
            · omega
            · exact F.set
            · exact BR_set B2 (if_pos rfl) (fun y hy => if_neg hy)
            · exact EN_s W.2.2 hi hc (by omega) E (by first | (simp [c1, c2, c5, c8]; done) | (exfalso; simp_all)) (by first | (simp [c1, c2, c5, c8]; done) | (exfalso; simp_all))
            · omega
          · skip
            refine V_iconst (q := 79) (v := nI 1) dX8_enliven_78 rfl rfl ?_
            refine V_goto (q := 83) dX8_enliven_79 rfl ?_
            refine V_rw (y := bi true) rfl ?_
            refine V_istore_n (q := 84) (L' := [(2, .int (bi true)), (5, .int (nI (srP P i k))), (4, .int (nI (dtP P i k))), (0, .ref m), (1, .int (nI i)), (3, .int (nI k))]) dX8_enliven_83 rfl rfl rfl ?_
            refine V_aload_n (j := 3) (q := 85) dX8_enliven_84 rfl rfl ?_
            refine V_getP (q := 88) (r := (m + 8)) fX8_32 (W.1.1 0 _ rfl) rfl (W.1.2 8 _ rfl) dX8_enliven_85 rfl ?_
            refine V_iload (j := 1) (q := 90) dX8_enliven_88 rfl rfl ?_
            refine V_aload_n (j := 3) (q := 91) dX8_enliven_90 rfl rfl ?_
            refine V_getP (q := 94) (r := (m + 8)) fX8_32 (W.1.1 0 _ rfl) rfl (W.1.2 8 _ rfl) dX8_enliven_91 rfl ?_
            refine V_iload (j := 1) (q := 96) dX8_enliven_94 rfl rfl ?_
            refine V_zald (q := 97) (W.1.1 8 _ rfl) (by omega) (by decide) dX8_enliven_96 rfl ?_
            refine V_rw (y := bi (fk (srP P i k))) (B2 _ (by omega)) ?_
            refine V_if_neB (tgt := 110) (q := 100) dX8_enliven_97 rfl rfl (fun z => absurd (z.symm.trans c8) (by decide)) (fun _ => ?_)
            refine V_aload_n (j := 3) (q := 101) dX8_enliven_100 rfl rfl ?_
            refine V_getP (q := 104) (r := (m + 8)) fX8_32 (W.1.1 0 _ rfl) rfl (W.1.2 8 _ rfl) dX8_enliven_101 rfl ?_
            refine V_iload (j := 2) (q := 106) dX8_enliven_104 rfl rfl ?_
            refine V_zald (q := 107) (W.1.1 8 _ rfl) (by omega) (by decide) dX8_enliven_106 rfl ?_
            refine V_rw (y := bi (fk (dtP P i k))) (B2 _ (by omega)) ?_
            refine V_if_eqB (tgt := 114) (q := 110) dX8_enliven_107 rfl rfl (fun z => absurd (z.symm.trans c5) (by decide)) (fun _ => ?_)
            refine V_iconst (q := 111) (v := nI 1) dX8_enliven_110 rfl rfl ?_
            refine V_goto (q := 115) dX8_enliven_111 rfl ?_
            refine V_rw (y := bi true) rfl ?_
            refine V_zast (b := true) (q := 116) (W.1.1 8 _ rfl) (by omega) (by decide) dX8_enliven_115 rfl ?_
            have W : RF (sI e (m + 8) (srP P i k) (bi true)) m P := RF_sI W (by omega)
            refine V_iincN (j := 5) (q := 119) (L' := [(3, .int (nI (k + 1))), (2, .int (bi true)), (5, .int (nI (srP P i k))), (4, .int (nI (dtP P i k))), (0, .ref m), (1, .int (nI i))]) dX8_enliven_116 rfl rfl rfl rfl ?_
            refine V_goto (q := 4) dX8_enliven_119 rfl ?_
            refine V_sub (L' := [(0, .ref m), (1, .int (nI i)), (2, .int (bi true)), (3, .int (nI (k + 1)))]) [4, 5, 1, 0] rfl ?_
            refine ih (k + 1) true (sI e (m + 8) (srP P i k) (bi true)) (fun x => if x = srP P i k then true else fk x) ?_ ?_ ?_ ?_ ?_
            · omega
            · exact F.set
            · exact BR_set B2 (if_pos rfl) (fun y hy => if_neg hy)
            · exact EN_s W.2.2 hi hc (by omega) E (by first | (simp [c1, c2, c5, c8]; done) | (exfalso; simp_all)) (by first | (simp [c1, c2, c5, c8]; done) | (exfalso; simp_all))
            · omega

set_option maxHeartbeats 4000000 in
set_option maxRecDepth 100000 in
theorem c_enliven {g : GX} {h : AH} {m : Nat} {P : PG} (W : RF h m P) (A : PA h m P (pNr P)) {i : Nat} {f : Nat → Bool} (B : BR h (m + 8) f) (hi : i < pNi P) (hc : pFd P i 0 = 3) : Ct g mX8_enliven 1 0 0 [.ref m, .int (nI i)] h (fun ρ η => ∃ (b : Bool) (fl : Nat → Bool), ρ = some (.int (bi b)) ∧ FB h η (m + 8) ∧ BR η (m + 8) fl ∧ EN P i f fl (pFd P i 5) b) := by
  refine Ct_intro (by decide +kernel) (Nat.le_of_ble_eq_true rfl) ?_
  show V g mX8_enliven _ h 0 0 [(0, .ref m), (1, .int (nI i))] 0 []
  have hN := W.2.2.2.2.1
  have hR := W.2.2.1
  have hcp := ok_cp W.2.2 hi hc
  refine V_iconst (q := 1) (v := nI 0) dX8_enliven_0 rfl rfl ?_
  refine V_rw (y := bi false) rfl ?_
  refine V_istore_n (q := 2) (L' := [(2, .int (bi false)), (0, .ref m), (1, .int (nI i))]) dX8_enliven_1 rfl rfl rfl ?_
  refine V_iconst (q := 3) (v := nI 0) dX8_enliven_2 rfl rfl ?_
  refine V_istore_n (q := 4) (L' := [(3, .int (nI 0)), (2, .int (bi false)), (0, .ref m), (1, .int (nI i))]) dX8_enliven_3 rfl rfl rfl ?_
  refine V_sub (L' := [(0, .ref m), (1, .int (nI i)), (2, .int (bi false)), (3, .int (nI 0))]) [2, 3, 1, 0] rfl ?_
  refine lp_enliven W A B hi hc (pFd P i 5 - 0 + 1) 0 false h f ?_ ?_ ?_ ?_ ?_
  · omega
  · exact FB.rf _
  · exact B
  · exact EN_0 P i f
  · exact Nat.lt_succ_self _

set_option maxHeartbeats 4000000 in
set_option maxRecDepth 100000 in
theorem lp_live5 {g : GX} {h : AH} {m : Nat} {P : PG} (W : RF h m P) (A : PA h m P (pNr P)) {f0 : Nat → Bool} (kk : ∀ (e : AH) (fk : Nat → Bool) (b : Bool), FB h e (m + 8) → BR e (m + 8) fk → EM P f0 fk (pNi P) b → V g mX8_findLive (thM g 3 0 0 (fun ρ η => ρ = none ∧ FB h η (m + 8) ∧ ∃ f, BR η (m + 8) f ∧ lsd P f ∧ lbs P f ∧ cls P f)) e 0 0 [(0, .ref m), (1, .int (bi b))] 158 []) : ∀ (t : Nat) (i : Nat) (b : Bool) (e : AH) (fk : Nat → Bool), (i ≤ pNi P) → (FB h e (m + 8)) → (BR e (m + 8) fk) → (EM P f0 fk i b) → pNi P - i < t → V g mX8_findLive (thM g 3 0 0 (fun ρ η => ρ = none ∧ FB h η (m + 8) ∧ ∃ f, BR η (m + 8) f ∧ lsd P f ∧ lbs P f ∧ cls P f)) e 0 0 [(0, .ref m), (1, .int (bi b)), (2, .int (nI i))] 112 [] := by
  intro t
  induction t with
  | zero =>
    intro i b e fk hi F B2 E hfu
    exact absurd hfu (Nat.not_lt_zero _)
  | succ t ih =>
    intro i b e fk hi F B2 E hfu
    have hN := W.2.2.2.2.1
    have hR := W.2.2.1
    have W0 := W
    have A0 := A
    have W := F.RF W (by omega)
    have A := F.PA A (by decide)
    refine V_iload_n (j := 2) (q := 113) dX8_findLive_112 rfl rfl ?_
    refine V_aload_n (j := 0) (q := 114) dX8_findLive_113 rfl rfl ?_
    refine V_getP (q := 117) (r := (m + 1)) fX8_7 (W.1.1 0 _ rfl) rfl (W.1.2 0 _ rfl) dX8_findLive_114 rfl ?_
    refine V_iconst (q := 118) (v := nI 5) dX8_findLive_117 rfl rfl ?_
    refine V_iald (q := 119) (W.1.1 1 _ rfl) (by omega) (by decide) dX8_findLive_118 rfl ?_
    refine V_rw (y := nI (pNi P)) W.2.1.2.2.1 ?_
    refine V_icmp_geN (tgt := 158) (q := 122) dX8_findLive_119 rfl rfl (by omega) (by omega) (fun c1 => ?_) (fun c1 => ?_)
    · skip
      refine V_sub (L' := [(0, .ref m), (1, .int (bi b))]) [0, 1] rfl ?_
      exact kk e fk b F B2 (by rw [show pNi P = i by omega]; exact E)
    · skip
      have hk9 := ok_kd W.2.2 (i := i) (by omega)
      refine V_aload_n (j := 0) (q := 123) dX8_findLive_122 rfl rfl ?_
      refine V_iload_n (j := 2) (q := 124) dX8_findLive_123 rfl rfl ?_
      refine V_iconst (q := 125) (v := nI 0) dX8_findLive_124 rfl rfl ?_
      refine V_cpV (q := 128) (S := []) (v := .int (nI (pFd P i 0))) kX8_72 (c_of (i := i) W (by omega) (by omega)) (W.1.1 0 _ rfl) rfl rfl rfl dX8_findLive_125 rfl ?_
      refine V_iconst (q := 129) (v := nI 3) dX8_findLive_128 rfl rfl ?_
      refine V_icmp_neN (tgt := 152) (q := 132) dX8_findLive_129 rfl rfl (by omega) (by omega) (fun c2 => ?_) (fun c2 => ?_)
      · skip
        refine V_iincN (j := 2) (q := 155) (L' := [(2, .int (nI (i + 1))), (0, .ref m), (1, .int (bi b))]) dX8_findLive_152 rfl rfl rfl rfl ?_
        refine V_goto (q := 112) dX8_findLive_155 rfl ?_
        refine V_sub (L' := [(0, .ref m), (1, .int (bi b)), (2, .int (nI (i + 1)))]) [1, 2, 0] rfl ?_
        refine ih (i + 1) b e fk ?_ ?_ ?_ ?_ ?_
        · omega
        · exact F
        · exact B2
        · exact EM_no E c2
        · omega
      · skip
        have ac2 := ok_cp W.2.2 (i := i) (by omega) c2
        refine V_aload_n (j := 0) (q := 133) dX8_findLive_132 rfl rfl ?_
        refine V_iload_n (j := 2) (q := 134) dX8_findLive_133 rfl rfl ?_
        refine V_callV (q := 137) (S := []) kX8_126 (c_enliven (i := i) W A B2 (by omega) c2) (W.1.1 0 _ rfl) rfl rfl rfl dX8_findLive_134 rfl (fun r3 h4 p5 => ?_)
        obtain ⟨b2, fl, rfl, F3, B3, E3⟩ := p5
        have W := F3.RF W (by omega)
        have A := F3.PA A (by decide)
        refine V_istore_n (q := 138) (L' := [(3, .int (bi b2)), (0, .ref m), (1, .int (bi b)), (2, .int (nI i))]) dX8_findLive_137 rfl rfl rfl ?_
        refine V_iload_n (j := 2) (q := 139) dX8_findLive_138 rfl rfl ?_
        refine V_if_neB (tgt := 146) (q := 142) dX8_findLive_139 rfl rfl (fun c6 => ?_) (fun c6 => ?_)
        · skip
          refine V_iconst (q := 147) (v := nI 1) dX8_findLive_146 rfl rfl ?_
          refine V_goto (q := 151) dX8_findLive_147 rfl ?_
          refine V_rw (y := bi true) rfl ?_
          refine V_istore_n (q := 152) (L' := [(1, .int (bi true)), (3, .int (bi b2)), (0, .ref m), (2, .int (nI i))]) dX8_findLive_151 rfl rfl rfl ?_
          refine V_iincN (j := 3) (q := 155) (L' := [(2, .int (nI (i + 1))), (1, .int (bi true)), (3, .int (bi b2)), (0, .ref m)]) dX8_findLive_152 rfl rfl rfl rfl ?_
          refine V_goto (q := 112) dX8_findLive_155 rfl ?_
          refine V_sub (L' := [(0, .ref m), (1, .int (bi true)), (2, .int (nI (i + 1)))]) [3, 1, 0] rfl ?_
          refine ih (i + 1) true h4 fl ?_ ?_ ?_ ?_ ?_
          · omega
          · exact F.tr F3
          · exact B3
          · exact EM_s E E3 (by simp [c1, c2, c6])
          · omega
        · skip
          refine V_iload_n (j := 0) (q := 143) dX8_findLive_142 rfl rfl ?_
          refine V_if_eqB (tgt := 150) (q := 146) dX8_findLive_143 rfl rfl (fun c7 => ?_) (fun c7 => ?_)
          · skip
            refine V_iconst (q := 151) (v := nI 0) dX8_findLive_150 rfl rfl ?_
            refine V_rw (y := bi false) rfl ?_
            refine V_istore_n (q := 152) (L' := [(1, .int (bi false)), (3, .int (bi b2)), (0, .ref m), (2, .int (nI i))]) dX8_findLive_151 rfl rfl rfl ?_
            refine V_iincN (j := 3) (q := 155) (L' := [(2, .int (nI (i + 1))), (1, .int (bi false)), (3, .int (bi b2)), (0, .ref m)]) dX8_findLive_152 rfl rfl rfl rfl ?_
            refine V_goto (q := 112) dX8_findLive_155 rfl ?_
            refine V_sub (L' := [(0, .ref m), (1, .int (bi false)), (2, .int (nI (i + 1)))]) [3, 1, 0] rfl ?_
            refine ih (i + 1) false h4 fl ?_ ?_ ?_ ?_ ?_
            · omega
            · exact F.tr F3
            · exact B3
            · exact EM_s E E3 (by simp [c1, c2, c6, c7])
            · omega
          · skip
            refine V_iconst (q := 147) (v := nI 1) dX8_findLive_146 rfl rfl ?_
            refine V_goto (q := 151) dX8_findLive_147 rfl ?_
            refine V_rw (y := bi true) rfl ?_
            refine V_istore_n (q := 152) (L' := [(1, .int (bi true)), (3, .int (bi b2)), (0, .ref m), (2, .int (nI i))]) dX8_findLive_151 rfl rfl rfl ?_
            refine V_iincN (j := 3) (q := 155) (L' := [(2, .int (nI (i + 1))), (1, .int (bi true)), (3, .int (bi b2)), (0, .ref m)]) dX8_findLive_152 rfl rfl rfl rfl ?_
            refine V_goto (q := 112) dX8_findLive_155 rfl ?_
            refine V_sub (L' := [(0, .ref m), (1, .int (bi true)), (2, .int (nI (i + 1)))]) [3, 1, 0] rfl ?_
            refine ih (i + 1) true h4 fl ?_ ?_ ?_ ?_ ?_
            · omega
            · exact F.tr F3
            · exact B3
            · exact EM_s E E3 (by simp [c1, c2, c6, c7])
            · omega

set_option maxHeartbeats 4000000 in
set_option maxRecDepth 100000 in
theorem lp_live4 {g : GX} {h : AH} {m : Nat} {P : PG} (W : RF h m P) (A : PA h m P (pNr P)) : ∀ (t : Nat) (b : Bool) (e : AH) (fk : Nat → Bool), (FB h e (m + 8)) → (BR e (m + 8) fk) → (lsd P fk) → (lbs P fk) → (b = false → cls P fk) → mL fk b < t → V g mX8_findLive (thM g 3 0 0 (fun ρ η => ρ = none ∧ FB h η (m + 8) ∧ ∃ f, BR η (m + 8) f ∧ lsd P f ∧ lbs P f ∧ cls P f)) e 0 0 [(0, .ref m), (1, .int (bi b))] 104 [] := by
  intro t
  induction t with
  | zero =>
    intro b e fk F B2 s1 s2 s3 hfu
    exact absurd hfu (Nat.not_lt_zero _)
  | succ t ih =>
    intro b e fk F B2 s1 s2 s3 hfu
    have hN := W.2.2.2.2.1
    have hR := W.2.2.1
    have W0 := W
    have A0 := A
    have W := F.RF W (by omega)
    have A := F.PA A (by decide)
    refine V_iload_n (j := 1) (q := 105) dX8_findLive_104 rfl rfl ?_
    refine V_if_eqB (tgt := 161) (q := 108) dX8_findLive_105 rfl rfl (fun c1 => ?_) (fun c1 => ?_)
    · skip
      refine V_vret rfl dX8_findLive_161 rfl rfl ?_
      exact ⟨rfl, F, fk, B2, s1, s2, s3 c1⟩
    · skip
      refine V_iconst (q := 109) (v := nI 0) dX8_findLive_108 rfl rfl ?_
      refine V_rw (y := bi false) rfl ?_
      refine V_istore_n (q := 110) (L' := [(1, .int (bi false)), (0, .ref m)]) dX8_findLive_109 rfl rfl rfl ?_
      refine V_iconst (q := 111) (v := nI 0) dX8_findLive_110 rfl rfl ?_
      refine V_istore_n (q := 112) (L' := [(2, .int (nI 0)), (1, .int (bi false)), (0, .ref m)]) dX8_findLive_111 rfl rfl rfl ?_
      refine V_sub (L' := [(0, .ref m), (1, .int (bi false)), (2, .int (nI 0))]) [2, 1, 0] rfl ?_
      refine lp_live5 W0 A0 (f0 := fk) (fun e2 f2 b2 F2 B3 E2 => ?_) (pNi P - 0 + 1) 0 false e fk (Nat.zero_le _) F B2 (EM_0 P fk) (Nat.lt_succ_self _)
      refine V_goto (q := 104) dX8_findLive_158 rfl ?_
      refine ih b2 e2 f2 ?_ ?_ ?_ ?_ ?_ ?_
      · exact F2
      · exact B3
      · exact E2.2.1 s1
      · exact fun x hx => E2.1 x (s2 x hx)
      · exact fun z i hi hc k hk hd => by rw [(E2.2.2.1 z).1] at hd ⊢; exact (E2.2.2.1 z).2 i hi hc k hk hd
      · (have := mL_lt E2; rw [c1] at hfu; omega)

set_option maxHeartbeats 4000000 in
set_option maxRecDepth 100000 in
theorem lp_live3 {g : GX} {h : AH} {m : Nat} {P : PG} (W : RF h m P) (A : PA h m P (pNr P)) : ∀ (t : Nat) (i : Nat) (e : AH) (fk : Nat → Bool), (i ≤ pNi P) → (FB h e (m + 8)) → (BR e (m + 8) fk) → (lsd P fk) → (∀ r p, r < pNr P → p < npt P r → esc P r = true → fk (16 * r + p) = true) → (∀ j, j < i → pFd P j 0 = 2 → fk (16 * pFd P j 1 + pof P (pFd P j 1) (pFd P j 2)) = true) → pNi P - i < t → V g mX8_findLive (thM g 3 0 0 (fun ρ η => ρ = none ∧ FB h η (m + 8) ∧ ∃ f, BR η (m + 8) f ∧ lsd P f ∧ lbs P f ∧ cls P f)) e 0 0 [(0, .ref m), (1, .int (nI i))] 54 [] := by
  intro t
  induction t with
  | zero =>
    intro i e fk hi F B2 s1 s2 s3 hfu
    exact absurd hfu (Nat.not_lt_zero _)
  | succ t ih =>
    intro i e fk hi F B2 s1 s2 s3 hfu
    have hN := W.2.2.2.2.1
    have hR := W.2.2.1
    have W0 := W
    have A0 := A
    have W := F.RF W (by omega)
    have A := F.PA A (by decide)
    refine V_iload_n (j := 1) (q := 55) dX8_findLive_54 rfl rfl ?_
    refine V_aload_n (j := 0) (q := 56) dX8_findLive_55 rfl rfl ?_
    refine V_getP (q := 59) (r := (m + 1)) fX8_7 (W.1.1 0 _ rfl) rfl (W.1.2 0 _ rfl) dX8_findLive_56 rfl ?_
    refine V_iconst (q := 60) (v := nI 5) dX8_findLive_59 rfl rfl ?_
    refine V_iald (q := 61) (W.1.1 1 _ rfl) (by omega) (by decide) dX8_findLive_60 rfl ?_
    refine V_rw (y := nI (pNi P)) W.2.1.2.2.1 ?_
    refine V_icmp_geN (tgt := 102) (q := 64) dX8_findLive_61 rfl rfl (by omega) (by omega) (fun c1 => ?_) (fun c1 => ?_)
    · skip
      refine V_iconst (q := 103) (v := nI 1) dX8_findLive_102 rfl rfl ?_
      refine V_rw (y := bi true) rfl ?_
      refine V_istore_n (q := 104) (L' := [(1, .int (bi true)), (0, .ref m)]) dX8_findLive_103 rfl rfl rfl ?_
      refine V_sub (L' := [(0, .ref m), (1, .int (bi true))]) [1, 0] rfl ?_
      refine lp_live4 W0 A0 (mL fk true + 1) true e fk F B2 s1 (fun x hx => ?_) (fun z => by cases z) (Nat.lt_succ_self _)
      rcases hx with ⟨r, p, h1, h2, rfl, h3⟩ | ⟨j, h1, h2, rfl⟩
      · exact s2 r p h1 h2 h3
      · exact s3 j (by omega) h2
    · skip
      have hk9 := ok_kd W.2.2 (i := i) (by omega)
      refine V_aload_n (j := 0) (q := 65) dX8_findLive_64 rfl rfl ?_
      refine V_iload_n (j := 1) (q := 66) dX8_findLive_65 rfl rfl ?_
      refine V_iconst (q := 67) (v := nI 0) dX8_findLive_66 rfl rfl ?_
      refine V_cpV (q := 70) (S := []) (v := .int (nI (pFd P i 0))) kX8_72 (c_of (i := i) W (by omega) (by omega)) (W.1.1 0 _ rfl) rfl rfl rfl dX8_findLive_67 rfl ?_
      refine V_iconst (q := 71) (v := nI 2) dX8_findLive_70 rfl rfl ?_
      refine V_icmp_neN (tgt := 96) (q := 74) dX8_findLive_71 rfl rfl (by omega) (by omega) (fun c2 => ?_) (fun c2 => ?_)
      · skip
        refine V_iincN (j := 1) (q := 99) (L' := [(1, .int (nI (i + 1))), (0, .ref m)]) dX8_findLive_96 rfl rfl rfl rfl ?_
        refine V_goto (q := 54) dX8_findLive_99 rfl ?_
        refine V_sub (L' := [(0, .ref m), (1, .int (nI (i + 1)))]) [1, 0] rfl ?_
        refine ih (i + 1) e fk ?_ ?_ ?_ ?_ ?_ ?_ ?_
        · omega
        · exact F
        · exact B2
        · exact s1
        · exact s2
        · intro j hj h2; exact s3 j (by rcases Nat.lt_or_eq_of_le (Nat.le_of_lt_succ hj) with z | z; (exact z); exact absurd (z ▸ h2) c2) h2
        · omega
      · skip
        have hac : isAc P i = true := by simp [isAc, c2]
        have hok := ok_ac W.2.2 (i := i) (by omega) hac
        have hpt := ptd_a (j := 0) (x := pFd P i 2) (by omega) hac (by omega) rfl
        have h64 := vpl_lt W.2.2 ⟨_, _, hok.1, pof_lt hpt (by omega), rfl⟩
        refine V_aload_n (j := 0) (q := 75) dX8_findLive_74 rfl rfl ?_
        refine V_getP (q := 78) (r := (m + 8)) fX8_32 (W.1.1 0 _ rfl) rfl (W.1.2 8 _ rfl) dX8_findLive_75 rfl ?_
        refine V_aload_n (j := 0) (q := 79) dX8_findLive_78 rfl rfl ?_
        refine V_aload_n (j := 0) (q := 80) dX8_findLive_79 rfl rfl ?_
        refine V_iload_n (j := 1) (q := 81) dX8_findLive_80 rfl rfl ?_
        refine V_iconst (q := 82) (v := nI 1) dX8_findLive_81 rfl rfl ?_
        refine V_cpV (q := 85) (S := [.ref m, .ref (m + 8)]) (v := .int (nI (pFd P i 1))) kX8_72 (c_of (i := i) W (by omega) (by omega)) (W.1.1 0 _ rfl) rfl rfl rfl dX8_findLive_82 rfl ?_
        refine V_aload_n (j := 0) (q := 86) dX8_findLive_85 rfl rfl ?_
        refine V_iload_n (j := 1) (q := 87) dX8_findLive_86 rfl rfl ?_
        refine V_iconst (q := 88) (v := nI 2) dX8_findLive_87 rfl rfl ?_
        refine V_cpV (q := 91) (S := [.int (nI (pFd P i 1)), .ref m, .ref (m + 8)]) (v := .int (nI (pFd P i 2))) kX8_72 (c_of (i := i) W (by omega) (by omega)) (W.1.1 0 _ rfl) rfl rfl rfl dX8_findLive_88 rfl ?_
        refine V_cpV (q := 94) (S := [.ref (m + 8)]) (v := .int (nI (16 * (pFd P i 1) + pof P (pFd P i 1) (pFd P i 2)))) kX8_110 (c_placeOf (r := pFd P i 1) (k := pFd P i 2) W A (by omega) (by omega) hpt) (W.1.1 0 _ rfl) rfl rfl rfl dX8_findLive_91 rfl ?_
        refine V_iconst (q := 95) (v := nI 1) dX8_findLive_94 rfl rfl ?_
        refine V_rw (y := bi true) rfl ?_
        refine V_zast (b := true) (q := 96) (W.1.1 8 _ rfl) (by omega) (by decide) dX8_findLive_95 rfl ?_
        have W : RF (sI e (m + 8) (16 * (pFd P i 1) + pof P (pFd P i 1) (pFd P i 2)) (bi true)) m P := RF_sI W (by omega)
        refine V_iincN (j := 1) (q := 99) (L' := [(1, .int (nI (i + 1))), (0, .ref m)]) dX8_findLive_96 rfl rfl rfl rfl ?_
        refine V_goto (q := 54) dX8_findLive_99 rfl ?_
        refine V_sub (L' := [(0, .ref m), (1, .int (nI (i + 1)))]) [1, 0] rfl ?_
        refine ih (i + 1) (sI e (m + 8) (16 * (pFd P i 1) + pof P (pFd P i 1) (pFd P i 2)) (bi true)) (fun x => if x = 16 * pFd P i 1 + pof P (pFd P i 1) (pFd P i 2) then true else fk x) ?_ ?_ ?_ ?_ ?_ ?_ ?_
        · omega
        · exact F.set
        · exact BR_set B2 (if_pos rfl) (fun y hy => if_neg hy)
        · intro x hx hf; by_cases z : x = 16 * pFd P i 1 + pof P (pFd P i 1) (pFd P i 2); (exact LV_bs (Or.inr ⟨i, by omega, c2, z⟩)); exact s1 x hx (by have hf : (if _ then _ else _) = _ := hf; rw [if_neg z] at hf; exact hf)
        · intro r p h1 h2 h3; show (if _ then _ else _) = _; split; (rfl); exact s2 r p h1 h2 h3
        · intro j hj h2; show (if _ then _ else _) = _; by_cases z : j = i; (rw [z, if_pos rfl]); (split; (rfl); exact s3 j (by omega) h2)
        · omega

set_option maxHeartbeats 4000000 in
set_option maxRecDepth 100000 in
theorem lp_live2 {g : GX} {h : AH} {m : Nat} {P : PG} (W : RF h m P) (A : PA h m P (pNr P)) {r : Nat} (hr : r < pNr P) (kk : ∀ (e : AH) (fk : Nat → Bool), FB h e (m + 8) → BR e (m + 8) fk → (∀ q, q < r + 1 → ∀ p, p < npt P q → fk (16 * q + p) = esc P q) → V g mX8_findLive (thM g 3 0 0 (fun ρ η => ρ = none ∧ FB h η (m + 8) ∧ ∃ f, BR η (m + 8) f ∧ lsd P f ∧ lbs P f ∧ cls P f)) e 0 0 [(0, .ref m), (1, .int (nI r))] 46 []) : ∀ (t : Nat) (p : Nat) (e : AH) (fk : Nat → Bool), (p ≤ npt P r) → (FB h e (m + 8)) → (BR e (m + 8) fk) → (∀ q, q < r → ∀ p, p < npt P q → fk (16 * q + p) = esc P q) → (∀ q, q < p → fk (16 * r + q) = esc P r) → npt P r - p < t → V g mX8_findLive (thM g 3 0 0 (fun ρ η => ρ = none ∧ FB h η (m + 8) ∧ ∃ f, BR η (m + 8) f ∧ lsd P f ∧ lbs P f ∧ cls P f)) e 0 0 [(0, .ref m), (1, .int (nI r)), (2, .int (nI p))] 14 [] := by
  intro t
  induction t with
  | zero =>
    intro p e fk hp F B2 d1 d2 hfu
    exact absurd hfu (Nat.not_lt_zero _)
  | succ t ih =>
    intro p e fk hp F B2 d1 d2 hfu
    have hS := W.2.2.2.1 r hr
    have hnp := npt_le P r
    have hN := W.2.2.2.2.1
    have hR := W.2.2.1
    have W0 := W
    have A0 := A
    have W := F.RF W (by omega)
    have A := F.PA A (by decide)
    refine V_iload_n (j := 2) (q := 15) dX8_findLive_14 rfl rfl ?_
    refine V_aload_n (j := 0) (q := 16) dX8_findLive_15 rfl rfl ?_
    refine V_getP (q := 19) (r := (m + 6)) fX8_25 (W.1.1 0 _ rfl) rfl (W.1.2 6 _ rfl) dX8_findLive_16 rfl ?_
    refine V_iload_n (j := 1) (q := 20) dX8_findLive_19 rfl rfl ?_
    refine V_iald (q := 21) (W.1.1 6 _ rfl) (by omega) (by decide) dX8_findLive_20 rfl ?_
    refine V_rw (y := nI (npt P r)) ((A r (by omega)).1) ?_
    refine V_icmp_geN (tgt := 46) (q := 24) dX8_findLive_21 rfl rfl (by omega) (by omega) (fun c1 => ?_) (fun c1 => ?_)
    · skip
      refine V_sub (L' := [(0, .ref m), (1, .int (nI r))]) [0, 1] rfl ?_
      refine kk e fk F B2 (fun q hq p hp => ?_)
      by_cases z : q = r
      · subst z; exact d2 p (by omega)
      · exact d1 q (by omega) p hp
    · skip
      refine V_aload_n (j := 0) (q := 25) dX8_findLive_24 rfl rfl ?_
      refine V_getP (q := 28) (r := (m + 8)) fX8_32 (W.1.1 0 _ rfl) rfl (W.1.2 8 _ rfl) dX8_findLive_25 rfl ?_
      refine V_bipush (q := 30) (v := nI 16) dX8_findLive_28 rfl (by decide) ?_
      refine V_iload_n (j := 1) (q := 31) dX8_findLive_30 rfl rfl ?_
      refine V_imulN (q := 32) dX8_findLive_31 rfl ?_
      refine V_iload_n (j := 2) (q := 33) dX8_findLive_32 rfl rfl ?_
      refine V_iaddN (q := 34) dX8_findLive_33 rfl ?_
      refine V_aload_n (j := 0) (q := 35) dX8_findLive_34 rfl rfl ?_
      refine V_iload_n (j := 1) (q := 36) dX8_findLive_35 rfl rfl ?_
      refine V_cpV (q := 39) (S := [.int (nI (16 * r + p)), .ref (m + 8)]) (v := .int (bi (esc P r))) kX8_90 (c_doesEscape (r := r) W (by omega)) (W.1.1 0 _ rfl) rfl rfl rfl dX8_findLive_36 rfl ?_
      refine V_zast (b := (esc P r)) (q := 40) (W.1.1 8 _ rfl) (by omega) (by decide) dX8_findLive_39 rfl ?_
      have W : RF (sI e (m + 8) (16 * r + p) (bi (esc P r))) m P := RF_sI W (by omega)
      refine V_iincN (j := 2) (q := 43) (L' := [(2, .int (nI (p + 1))), (0, .ref m), (1, .int (nI r))]) dX8_findLive_40 rfl rfl rfl rfl ?_
      refine V_goto (q := 14) dX8_findLive_43 rfl ?_
      refine V_sub (L' := [(0, .ref m), (1, .int (nI r)), (2, .int (nI (p + 1)))]) [1, 2, 0] rfl ?_
      refine ih (p + 1) (sI e (m + 8) (16 * r + p) (bi (esc P r))) (fun y => if y = 16 * r + p then esc P r else fk y) ?_ ?_ ?_ ?_ ?_ ?_
      · omega
      · exact F.set
      · exact BR_set B2 (if_pos rfl) (fun y hy => if_neg hy)
      · intro q hq s hs; have := W.2.2.2.1 q (by omega); have := npt_le P q; show (if _ then _ else _) = _; rw [if_neg (by omega)]; exact d1 q hq s hs
      · intro q hq; show (if _ then _ else _) = _; by_cases z : q = p; (rw [if_pos (by omega)]); (rw [if_neg (by omega)]; exact d2 q (by omega))
      · omega

set_option maxHeartbeats 4000000 in
set_option maxRecDepth 100000 in
theorem lp_live1 {g : GX} {h : AH} {m : Nat} {P : PG} (W : RF h m P) (A : PA h m P (pNr P)) : ∀ (t : Nat) (r : Nat) (e : AH) (fk : Nat → Bool), (r ≤ pNr P) → (FB h e (m + 8)) → (BR e (m + 8) fk) → (∀ q, q < r → ∀ p, p < npt P q → fk (16 * q + p) = esc P q) → pNr P - r < t → V g mX8_findLive (thM g 3 0 0 (fun ρ η => ρ = none ∧ FB h η (m + 8) ∧ ∃ f, BR η (m + 8) f ∧ lsd P f ∧ lbs P f ∧ cls P f)) e 0 0 [(0, .ref m), (1, .int (nI r))] 2 [] := by
  intro t
  induction t with
  | zero =>
    intro r e fk hr F B2 d1 hfu
    exact absurd hfu (Nat.not_lt_zero _)
  | succ t ih =>
    intro r e fk hr F B2 d1 hfu
    have hN := W.2.2.2.2.1
    have hR := W.2.2.1
    have W0 := W
    have A0 := A
    have W := F.RF W (by omega)
    have A := F.PA A (by decide)
    refine V_iload_n (j := 1) (q := 3) dX8_findLive_2 rfl rfl ?_
    refine V_aload_n (j := 0) (q := 4) dX8_findLive_3 rfl rfl ?_
    refine V_getP (q := 7) (r := (m + 1)) fX8_7 (W.1.1 0 _ rfl) rfl (W.1.2 0 _ rfl) dX8_findLive_4 rfl ?_
    refine V_iconst (q := 8) (v := nI 0) dX8_findLive_7 rfl rfl ?_
    refine V_iald (q := 9) (W.1.1 1 _ rfl) (by omega) (by decide) dX8_findLive_8 rfl ?_
    refine V_rw (y := nI (pNr P)) W.2.1.1 ?_
    refine V_icmp_geN (tgt := 52) (q := 12) dX8_findLive_9 rfl rfl (by omega) (by omega) (fun c1 => ?_) (fun c1 => ?_)
    · skip
      refine V_iconst (q := 53) (v := nI 0) dX8_findLive_52 rfl rfl ?_
      refine V_istore_n (q := 54) (L' := [(1, .int (nI 0)), (0, .ref m)]) dX8_findLive_53 rfl rfl rfl ?_
      refine V_sub (L' := [(0, .ref m), (1, .int (nI 0))]) [1, 0] rfl ?_
      refine lp_live3 W0 A0 (pNi P - 0 + 1) 0 e fk (Nat.zero_le _) F B2 (fun x hx hf => ?_) (fun q p h1 h2 h3 => by rw [d1 q (by omega) p h2]; exact h3) (fun j hj => absurd hj (Nat.not_lt_zero _)) (Nat.lt_succ_self _)
      obtain ⟨q, p, h1, h2, rfl⟩ := hx
      exact LV_bs (Or.inl ⟨q, p, h1, h2, rfl, by rw [← d1 q (by omega) p h2]; exact hf⟩)
    · skip
      refine V_iconst (q := 13) (v := nI 0) dX8_findLive_12 rfl rfl ?_
      refine V_istore_n (q := 14) (L' := [(2, .int (nI 0)), (0, .ref m), (1, .int (nI r))]) dX8_findLive_13 rfl rfl rfl ?_
      refine V_sub (L' := [(0, .ref m), (1, .int (nI r)), (2, .int (nI 0))]) [1, 2, 0] rfl ?_
      refine lp_live2 W0 A0 (by omega) (fun e2 f2 F2 B3 d3 => ?_) (npt P r - 0 + 1) 0 e fk (Nat.zero_le _) F B2 d1 (fun q hq => absurd hq (Nat.not_lt_zero _)) (Nat.lt_succ_self _)
      refine V_iincN (j := 1) (q := 49) (L' := [(1, .int (nI (r + 1))), (0, .ref m)]) dX8_findLive_46 rfl rfl rfl rfl ?_
      refine V_goto (q := 2) dX8_findLive_49 rfl ?_
      refine V_sub (L' := [(0, .ref m), (1, .int (nI (r + 1)))]) [1, 0] rfl ?_
      refine ih (r + 1) e2 f2 ?_ ?_ ?_ ?_ ?_
      · omega
      · exact F2
      · exact B3
      · exact d3
      · omega

set_option maxHeartbeats 4000000 in
set_option maxRecDepth 100000 in
theorem c_findLive {g : GX} {h : AH} {m : Nat} {P : PG} (W : RF h m P) (A : PA h m P (pNr P)) {f : Nat → Bool} (B : BR h (m + 8) f) : Ct g mX8_findLive 3 0 0 [.ref m] h (fun ρ η => ρ = none ∧ FB h η (m + 8) ∧ ∃ f, BR η (m + 8) f ∧ lsd P f ∧ lbs P f ∧ cls P f) := by
  refine Ct_intro (by decide +kernel) (Nat.le_of_ble_eq_true rfl) ?_
  show V g mX8_findLive _ h 0 0 [(0, .ref m)] 0 []
  refine V_iconst (q := 1) (v := nI 0) dX8_findLive_0 rfl rfl ?_
  refine V_istore_n (q := 2) (L' := [(1, .int (nI 0)), (0, .ref m)]) dX8_findLive_1 rfl rfl rfl ?_
  refine V_sub (L' := [(0, .ref m), (1, .int (nI 0))]) [1, 0] rfl ?_
  exact lp_live1 W A (pNr P - 0 + 1) 0 h f (Nat.zero_le _) (FB.rf _) B (fun q hq => absurd hq (Nat.not_lt_zero _)) (Nat.lt_succ_self _)


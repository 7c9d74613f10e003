set_option maxHeartbeats 4000000 in
set_option maxRecDepth 100000 in
theorem lp_findParts {g : GX} {h : AH} {m : Nat} {P : PG} (W : RF h m P) {r : Nat} (hr : r < pNr P) : ∀ (t : Nat) (k : Nat) (n : Nat) (e : AH), (k ≤ pSz P r) → (n = cnt P r k) → (FP h e m P r k) → pSz P r - k < t → V g mX8_findParts (thM g 5 0 0 (fun ρ η => ρ = none ∧ FR h η m P r)) e 0 0 [(0, .ref m), (1, .int (nI r)), (2, .int (nI n)), (3, .int (nI k))] 4 [] := by
  intro t
  induction t with
  | zero =>
    intro k n e hk hn F hfu
    exact absurd hfu (Nat.not_lt_zero _)
  | succ t ih =>
    intro k n e hk hn F hfu
    have hN := W.2.2.2.2.1
    have hR := W.2.2.1
    have hS := W.2.2.2.1 r hr
    have W := F.rf W
    have hc := cnt_le P r k
    refine V_iload_n (j := 3) (q := 5) dX8_findParts_4 rfl rfl ?_
    refine V_aload_n (j := 0) (q := 6) dX8_findParts_5 rfl rfl ?_
    refine V_getP (q := 9) (r := (m + 1)) fX8_7 (W.1.1 0 _ rfl) rfl (W.1.2 0 _ rfl) dX8_findParts_6 rfl ?_
    refine V_iconst (q := 10) (v := nI 1) dX8_findParts_9 rfl rfl ?_
    refine V_iload_n (j := 1) (q := 11) dX8_findParts_10 rfl rfl ?_
    refine V_iaddN (q := 12) dX8_findParts_11 rfl ?_
    refine V_iald (q := 13) (W.1.1 1 _ rfl) (by omega) (by decide) dX8_findParts_12 rfl ?_
    refine V_rw (y := nI (pSz P r)) (W.2.1.2.1 _ (by omega)) ?_
    refine V_icmp_geN (tgt := 111) (q := 16) dX8_findParts_13 rfl rfl (by omega) (by omega) (fun c1 => ?_) (fun c1 => ?_)
    · skip
      refine V_aload_n (j := 0) (q := 112) dX8_findParts_111 rfl rfl ?_
      refine V_getP (q := 115) (r := (m + 6)) fX8_25 (W.1.1 0 _ rfl) rfl (W.1.2 6 _ rfl) dX8_findParts_112 rfl ?_
      refine V_iload_n (j := 1) (q := 116) dX8_findParts_115 rfl rfl ?_
      refine V_iload_n (j := 2) (q := 117) dX8_findParts_116 rfl rfl ?_
      refine V_iast (q := 118) (W.1.1 6 _ rfl) (by omega) (by decide) dX8_findParts_117 rfl ?_
      have W : RF (sI e (m + 6) r (nI n)) m P := RF_sI W (by omega)
      refine V_vret rfl dX8_findParts_118 rfl rfl ?_
      exact ⟨rfl, FP_end F (by omega) hn⟩
    · skip
      refine V_bipush (q := 18) (v := nI 16) dX8_findParts_16 rfl (by decide) ?_
      refine V_iload_n (j := 1) (q := 19) dX8_findParts_18 rfl rfl ?_
      refine V_imulN (q := 20) dX8_findParts_19 rfl ?_
      refine V_iload_n (j := 3) (q := 21) dX8_findParts_20 rfl rfl ?_
      refine V_iaddN (q := 22) dX8_findParts_21 rfl ?_
      refine V_istore (q := 24) (L' := [(4, .int (nI (16 * r + k))), (0, .ref m), (1, .int (nI r)), (2, .int (nI n)), (3, .int (nI k))]) dX8_findParts_22 rfl rfl rfl ?_
      refine V_aload_n (j := 1) (q := 25) dX8_findParts_24 rfl rfl ?_
      refine V_getP (q := 28) (r := (m + 3)) fX8_16 (W.1.1 0 _ rfl) rfl (W.1.2 3 _ rfl) dX8_findParts_25 rfl ?_
      refine V_iload (j := 0) (q := 30) dX8_findParts_28 rfl rfl ?_
      refine V_bipush (q := 32) (v := (-9)) dX8_findParts_30 rfl (by decide) ?_
      refine V_iast (q := 33) (W.1.1 3 _ rfl) (by omega) (by decide) dX8_findParts_32 rfl ?_
      have W : RF (sI e (m + 3) (16 * r + k) (-9)) m P := RF_sI W (by omega)
      refine V_aload_n (j := 1) (q := 34) dX8_findParts_33 rfl rfl ?_
      refine V_iload_n (j := 2) (q := 35) dX8_findParts_34 rfl rfl ?_
      refine V_iload_n (j := 4) (q := 36) dX8_findParts_35 rfl rfl ?_
      refine V_cpV (q := 39) (S := []) (v := .int (bi (ptd P r k))) kX8_100 (c_isParted (r := r) (k := k) W (by omega) (by omega)) (W.1.1 0 _ rfl) rfl rfl rfl dX8_findParts_36 rfl ?_
      refine V_if_eqB (tgt := 105) (q := 42) dX8_findParts_39 rfl rfl (fun c2 => ?_) (fun c2 => ?_)
      · skip
        refine V_iincN (j := 4) (q := 108) (L' := [(3, .int (nI (k + 1))), (4, .int (nI (16 * r + k))), (0, .ref m), (1, .int (nI r)), (2, .int (nI n))]) dX8_findParts_105 rfl rfl rfl rfl ?_
        refine V_goto (q := 4) dX8_findParts_108 rfl ?_
        refine V_sub (L' := [(0, .ref m), (1, .int (nI r)), (2, .int (nI n)), (3, .int (nI (k + 1)))]) [2, 3, 4, 0] rfl ?_
        refine ih (k + 1) n (sI e (m + 3) (16 * r + k) (-9)) ?_ ?_ ?_ ?_
        · omega
        · rw [cnt_s, hn]; simp [bgn, c1, c2]
        · exact FP_pad F (by omega) c2
        · omega
      · skip
        refine V_aload_n (j := 1) (q := 43) dX8_findParts_42 rfl rfl ?_
        refine V_iload_n (j := 2) (q := 44) dX8_findParts_43 rfl rfl ?_
        refine V_iload_n (j := 4) (q := 45) dX8_findParts_44 rfl rfl ?_
        refine V_cpV (q := 48) (S := []) (v := .int (bi (gon P r k))) kX8_103 (c_goesOn (r := r) (k := k) W (by omega) (by omega)) (W.1.1 0 _ rfl) rfl rfl rfl dX8_findParts_45 rfl ?_
        refine V_if_neB (tgt := 78) (q := 51) dX8_findParts_48 rfl rfl (fun c3 => ?_) (fun c3 => ?_)
        · skip
          have h1 := cnt_pos c2
          rw [cnt_s, if_neg (by simp [bgn, c3]), ← hn] at h1
          refine V_aload_n (j := 1) (q := 79) dX8_findParts_78 rfl rfl ?_
          refine V_getP (q := 82) (r := (m + 3)) fX8_16 (W.1.1 0 _ rfl) rfl (W.1.2 3 _ rfl) dX8_findParts_79 rfl ?_
          refine V_iload (j := 0) (q := 84) dX8_findParts_82 rfl rfl ?_
          refine V_iload_n (j := 3) (q := 85) dX8_findParts_84 rfl rfl ?_
          refine V_iconst (q := 86) (v := nI 1) dX8_findParts_85 rfl rfl ?_
          refine V_isubN (q := 87) dX8_findParts_86 rfl (by omega) ?_
          refine V_iast (q := 88) (W.1.1 3 _ rfl) (by omega) (by decide) dX8_findParts_87 rfl ?_
          have W : RF (sI (sI e (m + 3) (16 * r + k) (-9)) (m + 3) (16 * r + k) (nI (n - 1))) m P := RF_sI W (by omega)
          refine V_aload_n (j := 1) (q := 89) dX8_findParts_88 rfl rfl ?_
          refine V_getP (q := 92) (r := (m + 5)) fX8_22 (W.1.1 0 _ rfl) rfl (W.1.2 5 _ rfl) dX8_findParts_89 rfl ?_
          refine V_bipush (q := 94) (v := nI 16) dX8_findParts_92 rfl (by decide) ?_
          refine V_iload_n (j := 2) (q := 95) dX8_findParts_94 rfl rfl ?_
          refine V_imulN (q := 96) dX8_findParts_95 rfl ?_
          refine V_iload_n (j := 3) (q := 97) dX8_findParts_96 rfl rfl ?_
          refine V_iaddN (q := 98) dX8_findParts_97 rfl ?_
          refine V_iconst (q := 99) (v := nI 1) dX8_findParts_98 rfl rfl ?_
          refine V_isubN (q := 100) dX8_findParts_99 rfl (by omega) ?_
          refine V_dup2 (q := 101) dX8_findParts_100 rfl rfl rfl ?_
          refine V_iald (q := 102) (W.1.1 5 _ rfl) (by omega) (by decide) dX8_findParts_101 rfl ?_
          refine V_iconst (q := 103) (v := nI 1) dX8_findParts_102 rfl rfl ?_
          refine V_iadd (q := 104) dX8_findParts_103 rfl ?_
          refine V_iast (q := 105) (W.1.1 5 _ rfl) (by omega) (by decide) dX8_findParts_104 rfl ?_
          have W : RF (sI (sI (sI e (m + 3) (16 * r + k) (-9)) (m + 3) (16 * r + k) (nI (n - 1))) (m + 5) ((16 * r + n) - 1) ((hI (sI (sI e (m + 3) (16 * r + k) (-9)) (m + 3) (16 * r + k) (nI (n - 1))) (m + 5) ((16 * r + n) - 1)) + (nI 1))) m P := RF_sI W (by omega)
          refine V_iincN (j := 4) (q := 108) (L' := [(3, .int (nI (k + 1))), (4, .int (nI (16 * r + k))), (0, .ref m), (1, .int (nI r)), (2, .int (nI n))]) dX8_findParts_105 rfl rfl rfl rfl ?_
          refine V_goto (q := 4) dX8_findParts_108 rfl ?_
          refine V_sub (L' := [(0, .ref m), (1, .int (nI r)), (2, .int (nI n)), (3, .int (nI (k + 1)))]) [2, 3, 4, 0] rfl ?_
          refine ih (k + 1) n (sI (sI (sI e (m + 3) (16 * r + k) (-9)) (m + 3) (16 * r + k) (nI (n - 1))) (m + 5) ((16 * r + n) - 1) ((hI (sI (sI e (m + 3) (16 * r + k) (-9)) (m + 3) (16 * r + k) (nI (n - 1))) (m + 5) ((16 * r + n) - 1)) + (nI 1))) ?_ ?_ ?_ ?_
          · omega
          · rw [cnt_s, hn]; simp [bgn, c1, c2, c3]
          · exact FP_go F hn (by omega) c2 c3
          · omega
        · skip
          refine V_aload_n (j := 1) (q := 52) dX8_findParts_51 rfl rfl ?_
          refine V_getP (q := 55) (r := (m + 4)) fX8_19 (W.1.1 0 _ rfl) rfl (W.1.2 4 _ rfl) dX8_findParts_52 rfl ?_
          refine V_bipush (q := 57) (v := nI 16) dX8_findParts_55 rfl (by decide) ?_
          refine V_iload_n (j := 2) (q := 58) dX8_findParts_57 rfl rfl ?_
          refine V_imulN (q := 59) dX8_findParts_58 rfl ?_
          refine V_iload_n (j := 3) (q := 60) dX8_findParts_59 rfl rfl ?_
          refine V_iaddN (q := 61) dX8_findParts_60 rfl ?_
          refine V_iload_n (j := 4) (q := 62) dX8_findParts_61 rfl rfl ?_
          refine V_iast (q := 63) (W.1.1 4 _ rfl) (by omega) (by decide) dX8_findParts_62 rfl ?_
          have W : RF (sI (sI e (m + 3) (16 * r + k) (-9)) (m + 4) (16 * r + n) (nI k)) m P := RF_sI W (by omega)
          refine V_aload_n (j := 1) (q := 64) dX8_findParts_63 rfl rfl ?_
          refine V_getP (q := 67) (r := (m + 5)) fX8_22 (W.1.1 0 _ rfl) rfl (W.1.2 5 _ rfl) dX8_findParts_64 rfl ?_
          refine V_bipush (q := 69) (v := nI 16) dX8_findParts_67 rfl (by decide) ?_
          refine V_iload_n (j := 2) (q := 70) dX8_findParts_69 rfl rfl ?_
          refine V_imulN (q := 71) dX8_findParts_70 rfl ?_
          refine V_iload_n (j := 3) (q := 72) dX8_findParts_71 rfl rfl ?_
          refine V_iaddN (q := 73) dX8_findParts_72 rfl ?_
          refine V_iconst (q := 74) (v := nI 0) dX8_findParts_73 rfl rfl ?_
          refine V_iast (q := 75) (W.1.1 5 _ rfl) (by omega) (by decide) dX8_findParts_74 rfl ?_
          have W : RF (sI (sI (sI e (m + 3) (16 * r + k) (-9)) (m + 4) (16 * r + n) (nI k)) (m + 5) (16 * r + n) (nI 0)) m P := RF_sI W (by omega)
          refine V_iincN (j := 3) (q := 78) (L' := [(2, .int (nI (n + 1))), (4, .int (nI (16 * r + k))), (0, .ref m), (1, .int (nI r)), (3, .int (nI k))]) dX8_findParts_75 rfl rfl rfl rfl ?_
          refine V_aload_n (j := 2) (q := 79) dX8_findParts_78 rfl rfl ?_
          refine V_getP (q := 82) (r := (m + 3)) fX8_16 (W.1.1 0 _ rfl) rfl (W.1.2 3 _ rfl) dX8_findParts_79 rfl ?_
          refine V_iload (j := 1) (q := 84) dX8_findParts_82 rfl rfl ?_
          refine V_iload_n (j := 0) (q := 85) dX8_findParts_84 rfl rfl ?_
          refine V_iconst (q := 86) (v := nI 1) dX8_findParts_85 rfl rfl ?_
          refine V_isubN (q := 87) dX8_findParts_86 rfl (by omega) ?_
          refine V_iast (q := 88) (W.1.1 3 _ rfl) (by omega) (by decide) dX8_findParts_87 rfl ?_
          have W : RF (sI (sI (sI (sI e (m + 3) (16 * r + k) (-9)) (m + 4) (16 * r + n) (nI k)) (m + 5) (16 * r + n) (nI 0)) (m + 3) (16 * r + k) (nI ((n + 1) - 1))) m P := RF_sI W (by omega)
          refine V_aload_n (j := 2) (q := 89) dX8_findParts_88 rfl rfl ?_
          refine V_getP (q := 92) (r := (m + 5)) fX8_22 (W.1.1 0 _ rfl) rfl (W.1.2 5 _ rfl) dX8_findParts_89 rfl ?_
          refine V_bipush (q := 94) (v := nI 16) dX8_findParts_92 rfl (by decide) ?_
          refine V_iload_n (j := 3) (q := 95) dX8_findParts_94 rfl rfl ?_
          refine V_imulN (q := 96) dX8_findParts_95 rfl ?_
          refine V_iload_n (j := 0) (q := 97) dX8_findParts_96 rfl rfl ?_
          refine V_iaddN (q := 98) dX8_findParts_97 rfl ?_
          refine V_iconst (q := 99) (v := nI 1) dX8_findParts_98 rfl rfl ?_
          refine V_isubN (q := 100) dX8_findParts_99 rfl (by omega) ?_
          refine V_dup2 (q := 101) dX8_findParts_100 rfl rfl rfl ?_
          refine V_iald (q := 102) (W.1.1 5 _ rfl) (by omega) (by decide) dX8_findParts_101 rfl ?_
          refine V_iconst (q := 103) (v := nI 1) dX8_findParts_102 rfl rfl ?_
          refine V_iadd (q := 104) dX8_findParts_103 rfl ?_
          refine V_iast (q := 105) (W.1.1 5 _ rfl) (by omega) (by decide) dX8_findParts_104 rfl ?_
          have W : RF (sI (sI (sI (sI (sI e (m + 3) (16 * r + k) (-9)) (m + 4) (16 * r + n) (nI k)) (m + 5) (16 * r + n) (nI 0)) (m + 3) (16 * r + k) (nI ((n + 1) - 1))) (m + 5) ((16 * r + (n + 1)) - 1) ((hI (sI (sI (sI (sI e (m + 3) (16 * r + k) (-9)) (m + 4) (16 * r + n) (nI k)) (m + 5) (16 * r + n) (nI 0)) (m + 3) (16 * r + k) (nI ((n + 1) - 1))) (m + 5) ((16 * r + (n + 1)) - 1)) + (nI 1))) m P := RF_sI W (by omega)
          refine V_iincN (j := 4) (q := 108) (L' := [(3, .int (nI (k + 1))), (2, .int (nI (n + 1))), (4, .int (nI (16 * r + k))), (0, .ref m), (1, .int (nI r))]) dX8_findParts_105 rfl rfl rfl rfl ?_
          refine V_goto (q := 4) dX8_findParts_108 rfl ?_
          refine V_sub (L' := [(0, .ref m), (1, .int (nI r)), (2, .int (nI (n + 1))), (3, .int (nI (k + 1)))]) [3, 4, 1, 0] rfl ?_
          refine ih (k + 1) (n + 1) (sI (sI (sI (sI (sI e (m + 3) (16 * r + k) (-9)) (m + 4) (16 * r + n) (nI k)) (m + 5) (16 * r + n) (nI 0)) (m + 3) (16 * r + k) (nI ((n + 1) - 1))) (m + 5) ((16 * r + (n + 1)) - 1) ((hI (sI (sI (sI (sI e (m + 3) (16 * r + k) (-9)) (m + 4) (16 * r + n) (nI k)) (m + 5) (16 * r + n) (nI 0)) (m + 3) (16 * r + k) (nI ((n + 1) - 1))) (m + 5) ((16 * r + (n + 1)) - 1)) + (nI 1))) ?_ ?_ ?_ ?_
          · omega
          · rw [cnt_s, hn]; simp [bgn, c1, c2, c3]
          · exact FP_new F hn (by omega) c2 c3
          · omega

set_option maxHeartbeats 4000000 in
set_option maxRecDepth 100000 in
theorem c_findParts {g : GX} {h : AH} {m : Nat} {P : PG} (W : RF h m P) {r : Nat} (hr : r < pNr P) : Ct g mX8_findParts 5 0 0 [.ref m, .int (nI r)] h (fun ρ η => ρ = none ∧ FR h η m P r) := by
  refine Ct_intro (by decide +kernel) (Nat.le_of_ble_eq_true rfl) ?_
  show V g mX8_findParts _ h 0 0 [(0, .ref m), (1, .int (nI r))] 0 []
  have hN := W.2.2.2.2.1
  have hR := W.2.2.1
  have hS := W.2.2.2.1 r hr
  refine V_iconst (q := 1) (v := nI 0) dX8_findParts_0 rfl rfl ?_
  refine V_istore_n (q := 2) (L' := [(2, .int (nI 0)), (0, .ref m), (1, .int (nI r))]) dX8_findParts_1 rfl rfl rfl ?_
  refine V_iconst (q := 3) (v := nI 0) dX8_findParts_2 rfl rfl ?_
  refine V_istore_n (q := 4) (L' := [(3, .int (nI 0)), (2, .int (nI 0)), (0, .ref m), (1, .int (nI r))]) dX8_findParts_3 rfl rfl rfl ?_
  refine V_sub (L' := [(0, .ref m), (1, .int (nI r)), (2, .int (nI 0)), (3, .int (nI 0))]) [2, 3, 1, 0] rfl ?_
  refine lp_findParts W hr (pSz P r - 0 + 1) 0 0 h ?_ ?_ ?_ ?_
  · omega
  · rfl
  · exact FP_0 h m P r
  · exact Nat.lt_succ_self _

/-- all records' partitions are found -/
def PA (h : AH) (m : Nat) (P : PG) (n : Nat) : Prop := ∀ r, r < n → PtR h m P r
def FA (h0 h : AH) (m : Nat) : Prop := (h.1 = h0.1 ∧ hJ h = hJ h0 ∧ hP h = hP h0) ∧ ∀ a, a ≠ m + 3 → a ≠ m + 4 → a ≠ m + 5 → a ≠ m + 6 → hI h a = hI h0 a
theorem FA.rf {h0 h : AH} {m : Nat} {P : PG} (W : RF h0 m P) (F : FA h0 h m) : RF h m P := RF_eq W F.1.1 F.1.2.2 (F.2 _ (by omega) (by omega) (by omega) (by omega))
theorem FA.tr {h0 h1 h2 : AH} {m : Nat} (A : FA h0 h1 m) (B : FA h1 h2 m) : FA h0 h2 m := ⟨⟨B.1.1.trans A.1.1, B.1.2.1.trans A.1.2.1, B.1.2.2.trans A.1.2.2⟩, fun a a1 a2 a3 a4 => (B.2 a a1 a2 a3 a4).trans (A.2 a a1 a2 a3 a4)⟩
theorem PA_s {h0 h : AH} {m : Nat} {P : PG} {r : Nat} (ok : OkP P) (hr : r < pNr P) (A : PA h0 m P r) (F : FR h0 h m P r) : PA h m P (r + 1) := by
  intro q hq
  by_cases e : q = r
  · subst e; exact F.2.2.2.2
  · obtain ⟨f1, f2, f3, f4, -⟩ := F
    obtain ⟨a1, a2, a3⟩ := A q (by omega)
    have hs := ok.2.1 q (by omega)
    have hn := npt_le P q
    refine ⟨by rw [f4 q e]; exact a1, fun j hj => ?_, fun p hp => ?_⟩
    · rw [(f3 _ (by omega)).1]; exact a2 j hj
    · rw [(f3 _ (by omega)).2.1, (f3 _ (by omega)).2.2]; exact a3 p hp

set_option maxHeartbeats 4000000 in
set_option maxRecDepth 100000 in
theorem lp_findAllParts {g : GX} {h : AH} {m : Nat} {P : PG} (W : RF h m P) : ∀ (t : Nat) (r : Nat) (e : AH), (r ≤ pNr P) → (FA h e m) → (PA e m P r) → pNr P - r < t → V g mX8_findAllParts (thM g 6 0 0 (fun ρ η => ρ = none ∧ FA h η m ∧ PA η m P (pNr P))) e 0 0 [(0, .ref m), (1, .int (nI r))] 2 [] := by
  intro t
  induction t with
  | zero =>
    intro r e hr F A hfu
    exact absurd hfu (Nat.not_lt_zero _)
  | succ t ih =>
    intro r e hr F A hfu
    have hR := W.2.2.1
    have W := F.rf W
    refine V_iload_n (j := 1) (q := 3) dX8_findAllParts_2 rfl rfl ?_
    refine V_aload_n (j := 0) (q := 4) dX8_findAllParts_3 rfl rfl ?_
    refine V_getP (q := 7) (r := (m + 1)) fX8_7 (W.1.1 0 _ rfl) rfl (W.1.2 0 _ rfl) dX8_findAllParts_4 rfl ?_
    refine V_iconst (q := 8) (v := nI 0) dX8_findAllParts_7 rfl rfl ?_
    refine V_iald (q := 9) (W.1.1 1 _ rfl) (by omega) (by decide) dX8_findAllParts_8 rfl ?_
    refine V_rw (y := nI (pNr P)) W.2.1.1 ?_
    refine V_icmp_geN (tgt := 23) (q := 12) dX8_findAllParts_9 rfl rfl (by omega) (by omega) (fun c1 => ?_) (fun c1 => ?_)
    · skip
      refine V_vret rfl dX8_findAllParts_23 rfl rfl ?_
      exact ⟨rfl, F, by rw [show pNr P = r by omega]; exact A⟩
    · skip
      refine V_aload_n (j := 0) (q := 13) dX8_findAllParts_12 rfl rfl ?_
      refine V_iload_n (j := 1) (q := 14) dX8_findAllParts_13 rfl rfl ?_
      refine V_callV (q := 17) (S := []) kX8_106 (c_findParts (r := r) W (by omega)) (W.1.1 0 _ rfl) rfl rfl rfl dX8_findAllParts_14 rfl (fun r2 h3 p4 => ?_)
      obtain ⟨rfl, Q⟩ := p4
      have F2 : FA h h3 m := F.tr ⟨Q.1, Q.2.1⟩
      have A2 := PA_s W.2.2 (by omega) A Q
      refine V_iincN (j := 1) (q := 20) (L' := [(1, .int (nI (r + 1))), (0, .ref m)]) dX8_findAllParts_17 rfl rfl rfl rfl ?_
      refine V_goto (q := 2) dX8_findAllParts_20 rfl ?_
      refine V_sub (L' := [(0, .ref m), (1, .int (nI (r + 1)))]) [1, 0] rfl ?_
      refine ih (r + 1) h3 ?_ ?_ ?_ ?_
      · omega
      · exact F2
      · exact A2
      · omega

set_option maxHeartbeats 4000000 in
set_option maxRecDepth 100000 in
theorem c_findAllParts {g : GX} {h : AH} {m : Nat} {P : PG} (W : RF h m P) : Ct g mX8_findAllParts 6 0 0 [.ref m] h (fun ρ η => ρ = none ∧ FA h η m ∧ PA η m P (pNr P)) := by
  refine Ct_intro (by decide +kernel) (Nat.le_of_ble_eq_true rfl) ?_
  show V g mX8_findAllParts _ h 0 0 [(0, .ref m)] 0 []
  have hR := W.2.2.1
  refine V_iconst (q := 1) (v := nI 0) dX8_findAllParts_0 rfl rfl ?_
  refine V_istore_n (q := 2) (L' := [(1, .int (nI 0)), (0, .ref m)]) dX8_findAllParts_1 rfl rfl rfl ?_
  refine V_sub (L' := [(0, .ref m), (1, .int (nI 0))]) [1, 0] rfl ?_
  refine lp_findAllParts W (pNr P - 0 + 1) 0 h ?_ ?_ ?_ ?_
  · omega
  · exact ⟨⟨rfl, rfl, rfl⟩, fun _ _ _ _ _ => rfl⟩
  · exact fun q hq => absurd hq (Nat.not_lt_zero _)
  · exact Nat.lt_succ_self _

set_option maxHeartbeats 4000000 in
set_option maxRecDepth 100000 in
theorem c_placeOf {g : GX} {h : AH} {m : Nat} {P : PG} (W : RF h m P) (A : PA h m P (pNr P)) {r k : Nat} (hr : r < pNr P) (hk : k < pSz P r) (hp : ptd P r k = true) : Ct g mX8_placeOf 0 0 0 [.ref m, .int (nI r), .int (nI k)] h (fun ρ η => ρ = some (.int (nI (16 * r + pof P r k))) ∧ η = h) := by
  refine Ct_intro (by decide +kernel) (Nat.le_of_ble_eq_true rfl) ?_
  show V g mX8_placeOf _ h 0 0 [(0, .ref m), (1, .int (nI r)), (2, .int (nI k))] 0 []
  have hR := W.2.2.1
  have hS := W.2.2.2.1 r hr
  have hl := pof_lt hp hk
  have hn := npt_le P r
  refine V_bipush (q := 2) (v := nI 16) dX8_placeOf_0 rfl (by decide) ?_
  refine V_iload_n (j := 1) (q := 3) dX8_placeOf_2 rfl rfl ?_
  refine V_imulN (q := 4) dX8_placeOf_3 rfl ?_
  refine V_aload_n (j := 0) (q := 5) dX8_placeOf_4 rfl rfl ?_
  refine V_getP (q := 8) (r := (m + 3)) fX8_16 (W.1.1 0 _ rfl) rfl (W.1.2 3 _ rfl) dX8_placeOf_5 rfl ?_
  refine V_bipush (q := 10) (v := nI 16) dX8_placeOf_8 rfl (by decide) ?_
  refine V_iload_n (j := 1) (q := 11) dX8_placeOf_10 rfl rfl ?_
  refine V_imulN (q := 12) dX8_placeOf_11 rfl ?_
  refine V_iload_n (j := 2) (q := 13) dX8_placeOf_12 rfl rfl ?_
  refine V_iaddN (q := 14) dX8_placeOf_13 rfl ?_
  refine V_iald (q := 15) (W.1.1 3 _ rfl) (by omega) (by decide) dX8_placeOf_14 rfl ?_
  refine V_rw (y := nI (pof P r k)) (((A r hr).2.1 k hk).trans (if_pos hp)) ?_
  refine V_iaddN (q := 16) dX8_placeOf_15 rfl ?_
  refine V_iret rfl dX8_placeOf_16 rfl rfl ?_
  exact ⟨pv (by rfl), rfl⟩

theorem bgp_lt {P : PG} {r p : Nat} (h : p < npt P r) : bgp P r p < pSz P r := bgf_lt P r _ p h
set_option maxHeartbeats 4000000 in
set_option maxRecDepth 100000 in
theorem c_beginsAt {g : GX} {h : AH} {m : Nat} {P : PG} (W : RF h m P) (A : PA h m P (pNr P)) {r k : Nat} (hr : r < pNr P) (hk : k < pSz P r) (hp : ptd P r k = true) : Ct g mX8_beginsAt 1 0 0 [.ref m, .int (nI r), .int (nI k)] h (fun ρ η => ρ = some (.int (bi (bgn P r k))) ∧ η = h) := by
  refine Ct_intro (by decide +kernel) (Nat.le_of_ble_eq_true rfl) ?_
  show V g mX8_beginsAt _ h 0 0 [(0, .ref m), (1, .int (nI r)), (2, .int (nI k))] 0 []
  have hR := W.2.2.1
  have hS := W.2.2.2.1 r hr
  have hl := pof_lt hp hk
  have hn := npt_le P r
  have hl2 := bgp_lt hl
  refine V_aload_n (j := 0) (q := 1) dX8_beginsAt_0 rfl rfl ?_
  refine V_getP (q := 4) (r := (m + 4)) fX8_19 (W.1.1 0 _ rfl) rfl (W.1.2 4 _ rfl) dX8_beginsAt_1 rfl ?_
  refine V_aload_n (j := 0) (q := 5) dX8_beginsAt_4 rfl rfl ?_
  refine V_iload_n (j := 1) (q := 6) dX8_beginsAt_5 rfl rfl ?_
  refine V_iload_n (j := 2) (q := 7) dX8_beginsAt_6 rfl rfl ?_
  refine V_cpV (q := 10) (S := [.ref (m + 4)]) (v := .int (nI (16 * r + pof P r k))) kX8_110 (c_placeOf (r := r) (k := k) W A hr hk hp) (W.1.1 0 _ rfl) rfl rfl rfl dX8_beginsAt_7 rfl ?_
  refine V_iald (q := 11) (W.1.1 4 _ rfl) (by omega) (by decide) dX8_beginsAt_10 rfl ?_
  refine V_rw (y := nI (bgp P r (pof P r k))) (((A r hr).2.2 _ (pof_lt hp hk)).1) ?_
  refine V_iload_n (j := 2) (q := 12) dX8_beginsAt_11 rfl rfl ?_
  refine V_icmp_neN (tgt := 19) (q := 15) dX8_beginsAt_12 rfl rfl (by omega) (by omega) (fun c1 => ?_) (fun c1 => ?_)
  · skip
    refine V_iconst (q := 20) (v := nI 0) dX8_beginsAt_19 rfl rfl ?_
    refine V_rw (y := bi false) rfl ?_
    refine V_zret (b := false) rfl dX8_beginsAt_20 rfl rfl ?_
    exact ⟨pvb (by have := bgn_pof hp hk; cases hb : bgn P r k <;> simp_all), rfl⟩
  · skip
    refine V_iconst (q := 16) (v := nI 1) dX8_beginsAt_15 rfl rfl ?_
    refine V_goto (q := 20) dX8_beginsAt_16 rfl ?_
    refine V_rw (y := bi true) rfl ?_
    refine V_zret (b := true) rfl dX8_beginsAt_20 rfl rfl ?_
    exact ⟨pvb (by have := bgn_pof hp hk; cases hb : bgn P r k <;> simp_all), rfl⟩


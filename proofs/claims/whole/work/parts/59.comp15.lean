theorem pta_b {P : PG} (ok : OkP P) {r k : Nat} (hr : r < pNr P) (hk : k < pSz P r) (hp : ptd P r k = true) : pta P r k < 151 := by
  have h4 := ok.1
  have h16 := (ok.2.1 r hr).2
  have hq := pof_lt hp hk
  have hn := npt_le P r
  unfold pta
  omega
set_option maxHeartbeats 4000000 in
set_option maxRecDepth 100000 in
theorem lq_store {g : GX} {h : AH} {P : PG} {U : Nat → Nat} (X : CX h P U) {n : Nat} (hn : n < pNi P) (A : AC P h) (hk : pFd P n 0 = 1 ∨ pFd P n 0 = 2) {tr : Bool} {φ G : Nat → Int32} {c : Int32} (ht : hI h 151 5 = bi tr) (B : BY h φ) (hG : ∀ x, x < 8 → hI h 152 x = G x) (hc : hI h 151 8 = c) (hnl : ¬ (tr = true ∧ liv P (acP P n) = false)) : ∀ (t : Nat) (j : Nat) (e : AH), (j ≤ pFd P n 3) → (FBy h e) → (BY e (stoB (16 * pFd P n 1 + pFd P n 2) (G (pFd P n 4)) j φ)) → pFd P n 3 - j < t → V g mX6_store (thM g 2 0 0 (fun ρ η => ρ = none ∧ ((tr = true ∧ liv P (acP P n) = false ∧ η = h) ∨ (¬ (tr = true ∧ liv P (acP P n) = false) ∧ ∃ e, FBy h e ∧ BY e (stoB (16 * pFd P n 1 + pFd P n 2) (G (pFd P n 4)) (pFd P n 3) φ) ∧ η = sI e 151 8 (c + nI (if tr = true ∧ prm P (acP P n) = true then 0 else 1)))))) e 0 0 [(0, .ref 151), (1, .ref (U n)), (2, .ref (pta P (pFd P n 1) (pFd P n 2 + 0))), (3, .int (G (pFd P n 4))), (4, .int (nI j))] 38 [] := by
  intro t
  induction t with
  | zero =>
    intro j e hj F Be hfu
    exact absurd hfu (Nat.not_lt_zero _)
  | succ t ih =>
    intro j e hj F Be hfu
    have hN := X.2.2.2.2.1
    have hR := X.2.2.1
    have hk8 := ok_kd X.2.2 hn
    have N := (X.2.1.2.2.2.1 n (by omega)).2
    rw [xfd_lt hn] at N
    obtain ⟨o1, o2, o3, o4, o5, o6⟩ := ok_ac X.2.2 hn (by simp [isAc, hk])
    have hr1 : pFd P n 1 < 4 := by omega
    have ez := szx_lt o1
    have hac : isAc P n = true := by simp [isAc, hk]
    have hpt : ptd P (pFd P n 1) (pFd P n 2 + 0) = true := ptd_a hn hac (j := 0) (by omega) rfl
    have K := pta_f X.2.2 X.1 A.1 o1 (k := pFd P n 2 + 0) (by omega) hpt
    have hpb := pta_b X.2.2 o1 (k := pFd P n 2 + 0) (by omega) hpt
    have hC := F.cs X.1
    have N1 := F.in N
    have Ke1 : e.1[pta P (pFd P n 1) (pFd P n 2 + 0)]? = some (4, 4) := by rw [F.1.1]; exact K.2.1
    have Ke2 : hI e 151 5 = bi tr := by rw [F.2 151 (by decide)]; exact ht
    have Ke3 : hI e (pta P (pFd P n 1) (pFd P n 2 + 0)) 2 = bi (prm P (acP P n)) := by rw [F.2 _ (by omega)]; exact K.2.2.1.2.2.1
    have Kc : hI e 151 8 = c := by rw [F.2 151 (by decide)]; exact hc
    refine V_iload (j := 4) (q := 40) dX6_store_38 rfl rfl ?_
    refine V_aload_n (j := 1) (q := 41) dX6_store_40 rfl rfl ?_
    refine V_getI (q := 44) fX6_120 N1.2.1 rfl dX6_store_41 rfl ?_
    refine V_rw (y := nI (pFd P n 3)) ((N1.2.2 4 (by decide)).trans (congrArg nI ((if_ac hk).2.2.2))) ?_
    refine V_icmp_geN (tgt := 81) (q := 47) dX6_store_44 rfl rfl (by omega) (by omega) (fun c1 => ?_) (fun c1 => ?_)
    · skip
      refine V_aload_n (j := 0) (q := 82) dX6_store_81 rfl rfl ?_
      refine V_dup (q := 83) dX6_store_82 rfl rfl ?_
      refine V_getI (q := 86) fX6_65 (hC.1 151 _ s_151) rfl dX6_store_83 rfl ?_
      refine V_rw (y := c) Kc ?_
      refine V_aload_n (j := 0) (q := 87) dX6_store_86 rfl rfl ?_
      refine V_aload_n (j := 2) (q := 88) dX6_store_87 rfl rfl ?_
      refine V_cpV (q := 91) (S := [.int c, .ref 151]) (v := .int (nI (if tr = true ∧ prm P (acP P n) = true then 0 else 1))) kX6_126 (d_priceOfAccess hC (f := prm P (acP P n)) (tr := tr) Ke1 Ke2 Ke3) (hC.1 151 _ s_151) rfl rfl rfl dX6_store_88 rfl ?_
      refine V_iadd (q := 92) dX6_store_91 rfl ?_
      refine V_putI (q := 95) wX6_65 (hC.1 151 _ s_151) rfl dX6_store_92 rfl ?_
      refine V_vret rfl dX6_store_95 rfl rfl ?_
      have : j = pFd P n 3 := by omega
      subst this
      exact ⟨rfl, Or.inr ⟨hnl, e, F, Be, rfl⟩⟩
    · skip
      refine V_aload_n (j := 0) (q := 48) dX6_store_47 rfl rfl ?_
      refine V_getP (q := 51) (r := 153) fX6_17 (hC.1 151 _ s_151) rfl (hC.2.1 151 3 _ rfl) dX6_store_48 rfl ?_
      refine V_aload_n (j := 1) (q := 52) dX6_store_51 rfl rfl ?_
      refine V_getI (q := 55) fX6_92 N1.2.1 rfl dX6_store_52 rfl ?_
      refine V_rw (y := nI (pFd P n 1)) ((N1.2.2 2 (by decide)).trans (congrArg nI ((if_ac hk).2.1))) ?_
      refine V_aald (q := 56) (c := 15) (r := (154 + (pFd P n 1))) (by decide) (hC.1 153 _ s_153) (by omega) (by decide) (hC.2.2.2.2.1 _ (by omega)) dX6_store_55 rfl ?_
      refine V_aload_n (j := 1) (q := 57) dX6_store_56 rfl rfl ?_
      refine V_getI (q := 60) fX6_123 N1.2.1 rfl dX6_store_57 rfl ?_
      refine V_rw (y := nI (pFd P n 2)) ((N1.2.2 3 (by decide)).trans (congrArg nI ((if_ac hk).2.2.1))) ?_
      refine V_iload (j := 4) (q := 62) dX6_store_60 rfl rfl ?_
      refine V_iaddN (q := 63) dX6_store_62 rfl ?_
      refine V_iload_n (j := 3) (q := 64) dX6_store_63 rfl rfl ?_
      refine V_bipush (q := 66) (v := nI 8) dX6_store_64 rfl (by decide) ?_
      refine V_iload (j := 4) (q := 68) dX6_store_66 rfl rfl ?_
      refine V_imulN (q := 69) dX6_store_68 rfl ?_
      refine V_iushr (q := 70) dX6_store_69 rfl ?_
      refine V_sipush (q := 73) (v := nI 255) dX6_store_70 rfl (by decide) ?_
      refine V_iand (q := 74) dX6_store_73 rfl ?_
      refine V_rw (y := byt (G (pFd P n 4)) j) (byt_u (by omega)) ?_
      refine V_iast (q := 75) (hC.1 _ _ (s_brow _ (by omega))) (by omega) (by decide) dX6_store_74 rfl ?_
      refine V_iincN (j := 4) (q := 78) (L' := [(4, .int (nI (j + 1))), (0, .ref 151), (1, .ref (U n)), (2, .ref (pta P (pFd P n 1) (pFd P n 2 + 0))), (3, .int (G (pFd P n 4)))]) dX6_store_75 rfl rfl rfl rfl ?_
      refine V_goto (q := 38) dX6_store_78 rfl ?_
      refine V_sub (L' := [(0, .ref 151), (1, .ref (U n)), (2, .ref (pta P (pFd P n 1) (pFd P n 2 + 0))), (3, .int (G (pFd P n 4))), (4, .int (nI (j + 1)))]) [1, 2, 3, 4, 0] rfl ?_
      refine ih (j + 1) (sI e (154 + (pFd P n 1)) (pFd P n 2 + j) (byt (G (pFd P n 4)) j)) ?_ ?_ ?_ ?_
      · omega
      · exact F.set hr1
      · rw [sto_up, Nat.add_assoc]; exact BY_set Be hr1 (by omega)
      · omega

set_option maxHeartbeats 4000000 in
set_option maxRecDepth 100000 in
theorem d_store {g : GX} {h : AH} {P : PG} {U : Nat → Nat} (X : CX h P U) {n : Nat} (hn : n < pNi P) (A : AC P h) (hk : pFd P n 0 = 1 ∨ pFd P n 0 = 2) {tr : Bool} {φ G : Nat → Int32} {c : Int32} (ht : hI h 151 5 = bi tr) (B : BY h φ) (hG : ∀ x, x < 8 → hI h 152 x = G x) (hc : hI h 151 8 = c) : Ct g mX6_store 2 0 0 [.ref 151, .ref (U n)] h (fun ρ η => ρ = none ∧ ((tr = true ∧ liv P (acP P n) = false ∧ η = h) ∨ (¬ (tr = true ∧ liv P (acP P n) = false) ∧ ∃ e, FBy h e ∧ BY e (stoB (16 * pFd P n 1 + pFd P n 2) (G (pFd P n 4)) (pFd P n 3) φ) ∧ η = sI e 151 8 (c + nI (if tr = true ∧ prm P (acP P n) = true then 0 else 1))))) := by
  refine Ct_intro (by decide +kernel) (Nat.le_of_ble_eq_true rfl) ?_
  show V g mX6_store _ h 0 0 [(0, .ref 151), (1, .ref (U n))] 0 []
  have hN := X.2.2.2.2.1
  have hR := X.2.2.1
  have hk8 := ok_kd X.2.2 hn
  have N := (X.2.1.2.2.2.1 n (by omega)).2
  rw [xfd_lt hn] at N
  obtain ⟨o1, o2, o3, o4, o5, o6⟩ := ok_ac X.2.2 hn (by simp [isAc, hk])
  have hr1 : pFd P n 1 < 4 := by omega
  have ez := szx_lt o1
  have hac : isAc P n = true := by simp [isAc, hk]
  have hpt : ptd P (pFd P n 1) (pFd P n 2 + 0) = true := ptd_a hn hac (j := 0) (by omega) rfl
  have K := pta_f X.2.2 X.1 A.1 o1 (k := pFd P n 2 + 0) (by omega) hpt
  have hpb := pta_b X.2.2 o1 (k := pFd P n 2 + 0) (by omega) hpt
  refine V_aload_n (j := 0) (q := 1) dX6_store_0 rfl rfl ?_
  refine V_getP (q := 4) (r := 9) fX6_27 (X.1.1 151 _ s_151) rfl (X.1.2.1 151 1 _ rfl) dX6_store_1 rfl ?_
  refine V_aload_n (j := 1) (q := 5) dX6_store_4 rfl rfl ?_
  refine V_iconst (q := 6) (v := nI 0) dX6_store_5 rfl rfl ?_
  refine V_cpV (q := 9) (S := []) (v := .ref (pta P (pFd P n 1) (pFd P n 2 + 0))) kX6_111 (d_targetA (s := 0) X hn A.1 hk (by omega)) (X.1.1 9 _ s_9) rfl rfl rfl dX6_store_6 rfl ?_
  refine V_astore_n (q := 10) (L' := [(2, .ref (pta P (pFd P n 1) (pFd P n 2 + 0))), (0, .ref 151), (1, .ref (U n))]) dX6_store_9 rfl rfl rfl ?_
  refine V_aload_n (j := 1) (q := 11) dX6_store_10 rfl rfl ?_
  refine V_getI (q := 14) fX6_58 (X.1.1 151 _ s_151) rfl dX6_store_11 rfl ?_
  refine V_rw (y := bi tr) ht ?_
  refine V_if_eqB (tgt := 25) (q := 17) dX6_store_14 rfl rfl (fun c1 => ?_) (fun c1 => ?_)
  · skip
    refine V_aload_n (j := 1) (q := 26) dX6_store_25 rfl rfl ?_
    refine V_getP (q := 29) (r := 152) fX6_9 (X.1.1 151 _ s_151) rfl (X.1.2.1 151 2 _ rfl) dX6_store_26 rfl ?_
    refine V_aload_n (j := 2) (q := 30) dX6_store_29 rfl rfl ?_
    refine V_getI (q := 33) fX6_99 N.2.1 rfl dX6_store_30 rfl ?_
    refine V_rw (y := nI (pFd P n 4)) ((N.2.2 1 (by decide)).trans (congrArg nI ((if_ac hk).1))) ?_
    refine V_iald (q := 34) (X.1.1 152 _ s_152) (by omega) (by decide) dX6_store_33 rfl ?_
    refine V_rw (y := G (pFd P n 4)) (hG _ (by omega)) ?_
    refine V_istore_n (q := 35) (L' := [(3, .int (G (pFd P n 4))), (2, .ref (pta P (pFd P n 1) (pFd P n 2 + 0))), (0, .ref 151), (1, .ref (U n))]) dX6_store_34 rfl rfl rfl ?_
    refine V_iconst (q := 36) (v := nI 0) dX6_store_35 rfl rfl ?_
    refine V_istore (q := 38) (L' := [(4, .int (nI 0)), (3, .int (G (pFd P n 4))), (2, .ref (pta P (pFd P n 1) (pFd P n 2 + 0))), (0, .ref 151), (1, .ref (U n))]) dX6_store_36 rfl rfl rfl ?_
    have hnl : ¬ (tr = true ∧ liv P (acP P n) = false) := by
      rintro ⟨w1, w2⟩
      exact absurd (c1.symm.trans w1) (by decide)
    refine V_sub (L' := [(0, .ref 151), (1, .ref (U n)), (2, .ref (pta P (pFd P n 1) (pFd P n 2 + 0))), (3, .int (G (pFd P n 4))), (4, .int (nI 0))]) [3, 4, 2, 1, 0] rfl ?_
    refine lq_store X hn A hk ht B hG hc hnl (pFd P n 3 - 0 + 1) 0 h ?_ ?_ ?_ ?_
    · omega
    · exact FBy.rf h
    · rw [sto_0]; exact B
    · exact Nat.lt_succ_self _
  · skip
    refine V_aload_n (j := 0) (q := 18) dX6_store_17 rfl rfl ?_
    refine V_getI (q := 21) fX6_115 K.2.1 rfl dX6_store_18 rfl ?_
    refine V_rw (y := bi (liv P (acP P n))) K.2.2.1.2.2.2 ?_
    refine V_if_neB (tgt := 25) (q := 24) dX6_store_21 rfl rfl (fun c2 => ?_) (fun c2 => ?_)
    · skip
      refine V_aload_n (j := 1) (q := 26) dX6_store_25 rfl rfl ?_
      refine V_getP (q := 29) (r := 152) fX6_9 (X.1.1 151 _ s_151) rfl (X.1.2.1 151 2 _ rfl) dX6_store_26 rfl ?_
      refine V_aload_n (j := 2) (q := 30) dX6_store_29 rfl rfl ?_
      refine V_getI (q := 33) fX6_99 N.2.1 rfl dX6_store_30 rfl ?_
      refine V_rw (y := nI (pFd P n 4)) ((N.2.2 1 (by decide)).trans (congrArg nI ((if_ac hk).1))) ?_
      refine V_iald (q := 34) (X.1.1 152 _ s_152) (by omega) (by decide) dX6_store_33 rfl ?_
      refine V_rw (y := G (pFd P n 4)) (hG _ (by omega)) ?_
      refine V_istore_n (q := 35) (L' := [(3, .int (G (pFd P n 4))), (2, .ref (pta P (pFd P n 1) (pFd P n 2 + 0))), (0, .ref 151), (1, .ref (U n))]) dX6_store_34 rfl rfl rfl ?_
      refine V_iconst (q := 36) (v := nI 0) dX6_store_35 rfl rfl ?_
      refine V_istore (q := 38) (L' := [(4, .int (nI 0)), (3, .int (G (pFd P n 4))), (2, .ref (pta P (pFd P n 1) (pFd P n 2 + 0))), (0, .ref 151), (1, .ref (U n))]) dX6_store_36 rfl rfl rfl ?_
      have hnl : ¬ (tr = true ∧ liv P (acP P n) = false) := by
        rintro ⟨w1, w2⟩
        exact absurd (c2.symm.trans w2) (by decide)
      refine V_sub (L' := [(0, .ref 151), (1, .ref (U n)), (2, .ref (pta P (pFd P n 1) (pFd P n 2 + 0))), (3, .int (G (pFd P n 4))), (4, .int (nI 0))]) [3, 4, 2, 1, 0] rfl ?_
      refine lq_store X hn A hk ht B hG hc hnl (pFd P n 3 - 0 + 1) 0 h ?_ ?_ ?_ ?_
      · omega
      · exact FBy.rf h
      · rw [sto_0]; exact B
      · exact Nat.lt_succ_self _
    · skip
      refine V_vret rfl dX6_store_24 rfl rfl ?_
      exact ⟨rfl, Or.inl ⟨c1, c2, rfl⟩⟩


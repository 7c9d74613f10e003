theorem sI_sI (h : AH) (a j : Nat) (v w : Int32) : sI (sI h a j v) a j w = sI h a j w := by
  unfold sI
  congr 1
  congr 1
  funext b i
  show (if b = a ∧ i = j then w else (if b = a ∧ i = j then v else hI h b i)) = if b = a ∧ i = j then w else hI h b i
  by_cases z : b = a ∧ i = j
  · rw [if_pos z, if_pos z]
  · rw [if_neg z, if_neg z, if_neg z]
theorem sI_id {h : AH} {a j : Nat} {v : Int32} (e : hI h a j = v) : sI h a j v = h := by
  have : (fun b i => if b = a ∧ i = j then v else hI h b i) = hI h := by
    funext b i
    by_cases z : b = a ∧ i = j
    · rw [if_pos z, z.1, z.2, e]
    · rw [if_neg z]
  unfold sI
  rw [this]
set_option maxHeartbeats 4000000 in
set_option maxRecDepth 100000 in
theorem lq_load {g : GX} {h : AH} {P : PG} {U : Nat → Nat} (X : CX h P U) {n : Nat} (hn : n < pNi P) (A : AC P h) (hk : pFd P n 0 = 1 ∨ pFd P n 0 = 2) {tr : Bool} {φ G : Nat → Int32} {c : Int32} (ht : hI h 151 5 = bi tr) (B : BY h φ) (hG : ∀ x, x < 8 → hI h 152 x = G x) (hc : hI h 151 8 = c) : ∀ (t : Nat) (j : Nat) (x : Int32), (j ≤ pFd P n 3) → (x = ldV φ (16 * pFd P n 1 + pFd P n 2) j) → pFd P n 3 - j < t → V g mX6_load (thM g 2 0 0 (fun ρ η => ρ = none ∧ η = sI (sI h 152 (pFd P n 4) (ldV φ (16 * pFd P n 1 + pFd P n 2) (pFd P n 3))) 151 8 (c + nI (if tr = true ∧ prm P (acP P n) = true then 0 else 1)))) h 0 0 [(0, .ref 151), (1, .ref (U n)), (2, .int x), (3, .int (nI j))] 4 [] := by
  intro t
  induction t with
  | zero =>
    intro j x hj hx hfu
    exact absurd hfu (Nat.not_lt_zero _)
  | succ t ih =>
    intro j x hj hx hfu
    have hN := X.2.2.2.2.1
    have hR := X.2.2.1
    have hk8 := ok_kd X.2.2 hn
    have N := (X.2.1.2.2.2.1 n (by omega)).2
    rw [xfd_lt hn] at N
    obtain ⟨o1, o2, o3, o4, o5, o6⟩ := ok_ac X.2.2 hn (by simp [isAc, hk])
    have hr1 : pFd P n 1 < 4 := by omega
    have ez := szx_lt o1
    have hac : isAc P n = true := by simp [isAc, hk]
    have hpt : ptd P (pFd P n 1) (pFd P n 2 + 0) = true := ptd_a hn hac (j := 0) (by omega) rfl
    have K := pta_f X.2.2 X.1 A.1 o1 (k := pFd P n 2 + 0) (by omega) hpt
    have hpb := pta_b X.2.2 o1 (k := pFd P n 2 + 0) (by omega) hpt
    refine V_iload_n (j := 3) (q := 5) dX6_load_4 rfl rfl ?_
    refine V_aload_n (j := 1) (q := 6) dX6_load_5 rfl rfl ?_
    refine V_getI (q := 9) fX6_120 N.2.1 rfl dX6_load_6 rfl ?_
    refine V_rw (y := nI (pFd P n 3)) ((N.2.2 4 (by decide)).trans (congrArg nI ((if_ac hk).2.2.2))) ?_
    refine V_icmp_geN (tgt := 42) (q := 12) dX6_load_9 rfl rfl (by omega) (by omega) (fun c1 => ?_) (fun c1 => ?_)
    · skip
      refine V_aload_n (j := 0) (q := 43) dX6_load_42 rfl rfl ?_
      refine V_getP (q := 46) (r := 152) fX6_9 (X.1.1 151 _ s_151) rfl (X.1.2.1 151 2 _ rfl) dX6_load_43 rfl ?_
      refine V_aload_n (j := 1) (q := 47) dX6_load_46 rfl rfl ?_
      refine V_getI (q := 50) fX6_99 N.2.1 rfl dX6_load_47 rfl ?_
      refine V_rw (y := nI (pFd P n 4)) ((N.2.2 1 (by decide)).trans (congrArg nI ((if_ac hk).1))) ?_
      refine V_iload_n (j := 2) (q := 51) dX6_load_50 rfl rfl ?_
      refine V_iast (q := 52) (X.1.1 152 _ s_152) (by omega) (by decide) dX6_load_51 rfl ?_
      have hjj : j = pFd P n 3 := by omega
      subst hx
      obtain ⟨e, he⟩ : ∃ e, e = sI h 152 (pFd P n 4) (ldV φ (16 * pFd P n 1 + pFd P n 2) j) := ⟨_, rfl⟩
      rw [← he]
      have F : FRn h e := by rw [he]; exact (FRn.rf h).set (by decide)
      have X2 := F.cx X
      have A2 := F.ac X.2.2 A
      have hC := X2.1
      have N1 : IN e (U n) (pFd P n) := IN_of N F.1.1 (F.2 _ (by have := N.1; omega))
      have Ke1 : e.1[pta P (pFd P n 1) (pFd P n 2 + 0)]? = some (4, 4) := by rw [F.1.1]; exact K.2.1
      have Ke2 : hI e 151 5 = bi tr := by rw [he, hI_n (by decide)]; exact ht
      have Ke3 : hI e (pta P (pFd P n 1) (pFd P n 2 + 0)) 2 = bi (prm P (acP P n)) := by rw [F.2 _ (by omega)]; exact K.2.2.1.2.2.1
      have Kc : hI e 151 8 = c := by rw [he, hI_n (by decide)]; exact hc
      refine V_sub (L' := [(0, .ref 151), (1, .ref (U n)), (3, .int (nI j))]) [0, 1, 3] rfl ?_
      refine V_aload_n (j := 0) (q := 53) dX6_load_52 rfl rfl ?_
      refine V_dup (q := 54) dX6_load_53 rfl rfl ?_
      refine V_getI (q := 57) fX6_65 (hC.1 151 _ s_151) rfl dX6_load_54 rfl ?_
      refine V_rw (y := c) Kc ?_
      refine V_aload_n (j := 0) (q := 58) dX6_load_57 rfl rfl ?_
      refine V_aload_n (j := 0) (q := 59) dX6_load_58 rfl rfl ?_
      refine V_getP (q := 62) (r := 9) fX6_27 (hC.1 151 _ s_151) rfl (hC.2.1 151 1 _ rfl) dX6_load_59 rfl ?_
      refine V_aload_n (j := 1) (q := 63) dX6_load_62 rfl rfl ?_
      refine V_iconst (q := 64) (v := nI 0) dX6_load_63 rfl rfl ?_
      refine V_cpV (q := 67) (S := [.ref 151, .int c, .ref 151]) (v := .ref (pta P (pFd P n 1) (pFd P n 2 + 0))) kX6_111 (d_targetA (s := 0) X2 hn A2.1 hk (by omega)) (hC.1 9 _ s_9) rfl rfl rfl dX6_load_64 rfl ?_
      refine V_cpV (q := 70) (S := [.int c, .ref 151]) (v := .int (nI (if tr = true ∧ prm P (acP P n) = true then 0 else 1))) kX6_126 (d_priceOfAccess hC (f := prm P (acP P n)) (tr := tr) Ke1 Ke2 Ke3) (hC.1 151 _ s_151) rfl rfl rfl dX6_load_67 rfl ?_
      refine V_iadd (q := 71) dX6_load_70 rfl ?_
      refine V_putI (q := 74) wX6_65 (hC.1 151 _ s_151) rfl dX6_load_71 rfl ?_
      refine V_vret rfl dX6_load_74 rfl rfl ?_
      exact ⟨rfl, by rw [he, hjj]⟩
    · skip
      refine V_iload_n (j := 2) (q := 13) dX6_load_12 rfl rfl ?_
      refine V_aload_n (j := 0) (q := 14) dX6_load_13 rfl rfl ?_
      refine V_getP (q := 17) (r := 153) fX6_17 (X.1.1 151 _ s_151) rfl (X.1.2.1 151 3 _ rfl) dX6_load_14 rfl ?_
      refine V_aload_n (j := 1) (q := 18) dX6_load_17 rfl rfl ?_
      refine V_getI (q := 21) fX6_92 N.2.1 rfl dX6_load_18 rfl ?_
      refine V_rw (y := nI (pFd P n 1)) ((N.2.2 2 (by decide)).trans (congrArg nI ((if_ac hk).2.1))) ?_
      refine V_aald (q := 22) (c := 15) (r := (154 + (pFd P n 1))) (by decide) (X.1.1 153 _ s_153) (by omega) (by decide) (X.1.2.2.2.2.1 _ (by omega)) dX6_load_21 rfl ?_
      refine V_aload_n (j := 1) (q := 23) dX6_load_22 rfl rfl ?_
      refine V_getI (q := 26) fX6_123 N.2.1 rfl dX6_load_23 rfl ?_
      refine V_rw (y := nI (pFd P n 2)) ((N.2.2 3 (by decide)).trans (congrArg nI ((if_ac hk).2.2.1))) ?_
      refine V_iload_n (j := 3) (q := 27) dX6_load_26 rfl rfl ?_
      refine V_iaddN (q := 28) dX6_load_27 rfl ?_
      refine V_iald (q := 29) (X.1.1 _ _ (s_brow _ (by omega))) (by omega) (by decide) dX6_load_28 rfl ?_
      refine V_rw (y := φ (16 * pFd P n 1 + (pFd P n 2 + j))) (B _ hr1 _ (by omega)) ?_
      refine V_bipush (q := 31) (v := nI 8) dX6_load_29 rfl (by decide) ?_
      refine V_iload_n (j := 3) (q := 32) dX6_load_31 rfl rfl ?_
      refine V_imulN (q := 33) dX6_load_32 rfl ?_
      refine V_ishl (q := 34) dX6_load_33 rfl ?_
      refine V_ior (q := 35) dX6_load_34 rfl ?_
      refine V_istore_n (q := 36) (L' := [(2, .int (x ||| ((φ (16 * pFd P n 1 + (pFd P n 2 + j))) <<< ((nI (8 * j)) &&& 31)))), (0, .ref 151), (1, .ref (U n)), (3, .int (nI j))]) dX6_load_35 rfl rfl rfl ?_
      refine V_iincN (j := 3) (q := 39) (L' := [(3, .int (nI (j + 1))), (2, .int (x ||| ((φ (16 * pFd P n 1 + (pFd P n 2 + j))) <<< ((nI (8 * j)) &&& 31)))), (0, .ref 151), (1, .ref (U n))]) dX6_load_36 rfl rfl rfl rfl ?_
      refine V_goto (q := 4) dX6_load_39 rfl ?_
      refine V_sub (L' := [(0, .ref 151), (1, .ref (U n)), (2, .int (x ||| ((φ (16 * pFd P n 1 + (pFd P n 2 + j))) <<< ((nI (8 * j)) &&& 31)))), (3, .int (nI (j + 1)))]) [2, 3, 1, 0] rfl ?_
      refine ih (j + 1) (x ||| ((φ (16 * pFd P n 1 + (pFd P n 2 + j))) <<< ((nI (8 * j)) &&& 31))) ?_ ?_ ?_
      · omega
      · rw [hx]; show _ = ldV φ (16 * pFd P n 1 + pFd P n 2) j ||| (φ (16 * pFd P n 1 + pFd P n 2 + j) <<< (nI (8 * j) &&& 31)); rw [Nat.add_assoc]
      · omega

set_option maxHeartbeats 4000000 in
set_option maxRecDepth 100000 in
theorem d_load {g : GX} {h : AH} {P : PG} {U : Nat → Nat} (X : CX h P U) {n : Nat} (hn : n < pNi P) (A : AC P h) (hk : pFd P n 0 = 1 ∨ pFd P n 0 = 2) {tr : Bool} {φ G : Nat → Int32} {c : Int32} (ht : hI h 151 5 = bi tr) (B : BY h φ) (hG : ∀ x, x < 8 → hI h 152 x = G x) (hc : hI h 151 8 = c) : Ct g mX6_load 2 0 0 [.ref 151, .ref (U n)] h (fun ρ η => ρ = none ∧ η = sI (sI h 152 (pFd P n 4) (ldV φ (16 * pFd P n 1 + pFd P n 2) (pFd P n 3))) 151 8 (c + nI (if tr = true ∧ prm P (acP P n) = true then 0 else 1))) := by
  refine Ct_intro (by decide +kernel) (Nat.le_of_ble_eq_true rfl) ?_
  show V g mX6_load _ h 0 0 [(0, .ref 151), (1, .ref (U n))] 0 []
  refine V_iconst (q := 1) (v := nI 0) dX6_load_0 rfl rfl ?_
  refine V_istore_n (q := 2) (L' := [(2, .int (nI 0)), (0, .ref 151), (1, .ref (U n))]) dX6_load_1 rfl rfl rfl ?_
  refine V_iconst (q := 3) (v := nI 0) dX6_load_2 rfl rfl ?_
  refine V_istore_n (q := 4) (L' := [(3, .int (nI 0)), (2, .int (nI 0)), (0, .ref 151), (1, .ref (U n))]) dX6_load_3 rfl rfl rfl ?_
  refine V_sub (L' := [(0, .ref 151), (1, .ref (U n)), (2, .int (nI 0)), (3, .int (nI 0))]) [2, 3, 1, 0] rfl ?_
  refine lq_load X hn A hk ht B hG hc (pFd P n 3 - 0 + 1) 0 (nI 0) ?_ ?_ ?_
  · omega
  · rfl
  · exact Nat.lt_succ_self _

set_option maxHeartbeats 4000000 in
set_option maxRecDepth 100000 in
theorem lq_escape {g : GX} {h : AH} {P : PG} {U : Nat → Nat} (X : CX h P U) {r : Nat} (hr : r < pNr P) {φ : Nat → Int32} {c S : Int32} (B : BY h φ) (hS : hI h 151 7 = S) (hc : hI h 151 8 = c) : ∀ (t : Nat) (j : Nat), (j ≤ pSz P r) → pSz P r - j < t → V g mX6_escape (thM g 2 0 0 (fun ρ η => ρ = none ∧ η = sI (sI (sI h 151 7 (esS φ (16 * r) S (pSz P r))) (154 + r) 0 ((φ (16 * r) + nI 1) &&& nI 255)) 151 8 (c + nI (pSz P r)))) (sI h 151 7 (esS φ (16 * r) S j)) 0 0 [(0, .ref 151), (1, .int (nI r)), (2, .int (nI (pSz P r))), (3, .int (nI j))] 11 [] := by
  intro t
  induction t with
  | zero =>
    intro j hj hfu
    exact absurd hfu (Nat.not_lt_zero _)
  | succ t ih =>
    intro j hj hfu
    have hR := X.2.2.1
    have h16 := (X.2.2.2.1 r hr).2
    refine V_iload_n (j := 3) (q := 12) dX6_escape_11 rfl rfl ?_
    refine V_iload_n (j := 2) (q := 13) dX6_escape_12 rfl rfl ?_
    refine V_icmp_geN (tgt := 42) (q := 16) dX6_escape_13 rfl rfl (by omega) (by omega) (fun c1 => ?_) (fun c1 => ?_)
    · skip
      refine V_aload_n (j := 0) (q := 43) dX6_escape_42 rfl rfl ?_
      refine V_getP (q := 46) (r := 153) fX6_17 (X.1.1 151 _ s_151) rfl (X.1.2.1 151 3 _ rfl) dX6_escape_43 rfl ?_
      refine V_iload_n (j := 1) (q := 47) dX6_escape_46 rfl rfl ?_
      refine V_aald (q := 48) (c := 15) (r := (154 + r)) (by decide) (X.1.1 153 _ s_153) (by omega) (by decide) (X.1.2.2.2.2.1 _ (by omega)) dX6_escape_47 rfl ?_
      refine V_iconst (q := 49) (v := nI 0) dX6_escape_48 rfl rfl ?_
      refine V_aload_n (j := 0) (q := 50) dX6_escape_49 rfl rfl ?_
      refine V_getP (q := 53) (r := 153) fX6_17 (X.1.1 151 _ s_151) rfl (X.1.2.1 151 3 _ rfl) dX6_escape_50 rfl ?_
      refine V_iload_n (j := 1) (q := 54) dX6_escape_53 rfl rfl ?_
      refine V_aald (q := 55) (c := 15) (r := (154 + r)) (by decide) (X.1.1 153 _ s_153) (by omega) (by decide) (X.1.2.2.2.2.1 _ (by omega)) dX6_escape_54 rfl ?_
      refine V_iconst (q := 56) (v := nI 0) dX6_escape_55 rfl rfl ?_
      refine V_iald (q := 57) (X.1.1 _ _ (s_brow _ (by omega))) (by omega) (by decide) dX6_escape_56 rfl ?_
      refine V_rw (y := φ (16 * r)) (by rw [hI_n (by omega)]; exact B r (by omega) 0 (by omega)) ?_
      refine V_iconst (q := 58) (v := nI 1) dX6_escape_57 rfl rfl ?_
      refine V_iadd (q := 59) dX6_escape_58 rfl ?_
      refine V_sipush (q := 62) (v := nI 255) dX6_escape_59 rfl (by decide) ?_
      refine V_iand (q := 63) dX6_escape_62 rfl ?_
      refine V_iast (q := 64) (X.1.1 _ _ (s_brow _ (by omega))) (by omega) (by decide) dX6_escape_63 rfl ?_
      refine V_aload_n (j := 0) (q := 65) dX6_escape_64 rfl rfl ?_
      refine V_dup (q := 66) dX6_escape_65 rfl rfl ?_
      refine V_getI (q := 69) fX6_65 (X.1.1 151 _ s_151) rfl dX6_escape_66 rfl ?_
      refine V_rw (y := c) (by rw [hI_n (by omega), hI_s, if_neg (by omega)]; exact hc) ?_
      refine V_iload_n (j := 2) (q := 70) dX6_escape_69 rfl rfl ?_
      refine V_iadd (q := 71) dX6_escape_70 rfl ?_
      refine V_putI (q := 74) wX6_65 (X.1.1 151 _ s_151) rfl dX6_escape_71 rfl ?_
      refine V_vret rfl dX6_escape_74 rfl rfl ?_
      have : j = pSz P r := by omega
      subst this
      exact ⟨rfl, rfl⟩
    · skip
      refine V_aload_n (j := 0) (q := 17) dX6_escape_16 rfl rfl ?_
      refine V_bipush (q := 19) (v := nI 31) dX6_escape_17 rfl (by decide) ?_
      refine V_aload_n (j := 0) (q := 20) dX6_escape_19 rfl rfl ?_
      refine V_getI (q := 23) fX6_62 (X.1.1 151 _ s_151) rfl dX6_escape_20 rfl ?_
      refine V_rw (y := esS φ (16 * r) S j) (by rw [hI_s, if_pos ⟨rfl, rfl⟩]) ?_
      refine V_imul (q := 24) dX6_escape_23 rfl ?_
      refine V_aload_n (j := 0) (q := 25) dX6_escape_24 rfl rfl ?_
      refine V_getP (q := 28) (r := 153) fX6_17 (X.1.1 151 _ s_151) rfl (X.1.2.1 151 3 _ rfl) dX6_escape_25 rfl ?_
      refine V_iload_n (j := 1) (q := 29) dX6_escape_28 rfl rfl ?_
      refine V_aald (q := 30) (c := 15) (r := (154 + r)) (by decide) (X.1.1 153 _ s_153) (by omega) (by decide) (X.1.2.2.2.2.1 _ (by omega)) dX6_escape_29 rfl ?_
      refine V_iload_n (j := 3) (q := 31) dX6_escape_30 rfl rfl ?_
      refine V_iald (q := 32) (X.1.1 _ _ (s_brow _ (by omega))) (by omega) (by decide) dX6_escape_31 rfl ?_
      refine V_rw (y := φ (16 * r + j)) (by rw [hI_n (by omega)]; exact B r (by omega) j (by omega)) ?_
      refine V_iadd (q := 33) dX6_escape_32 rfl ?_
      refine V_putI (q := 36) wX6_62 (X.1.1 151 _ s_151) rfl dX6_escape_33 rfl ?_
      refine V_iincN (j := 3) (q := 39) (L' := [(3, .int (nI (j + 1))), (0, .ref 151), (1, .int (nI r)), (2, .int (nI (pSz P r)))]) dX6_escape_36 rfl rfl rfl rfl ?_
      refine V_goto (q := 11) dX6_escape_39 rfl ?_
      rw [sI_sI]
      show V g mX6_escape _ (sI h 151 7 (esS φ (16 * r) S (j + 1))) 0 0 _ _ _
      refine V_sub (L' := [(0, .ref 151), (1, .int (nI r)), (2, .int (nI (pSz P r))), (3, .int (nI (j + 1)))]) [1, 2, 3, 0] rfl ?_
      refine ih (j + 1) ?_ ?_
      · omega
      · omega

set_option maxHeartbeats 4000000 in
set_option maxRecDepth 100000 in
theorem d_escape {g : GX} {h : AH} {P : PG} {U : Nat → Nat} (X : CX h P U) {r : Nat} (hr : r < pNr P) {φ : Nat → Int32} {c S : Int32} (B : BY h φ) (hS : hI h 151 7 = S) (hc : hI h 151 8 = c) : Ct g mX6_escape 2 0 0 [.ref 151, .int (nI r)] h (fun ρ η => ρ = none ∧ η = sI (sI (sI h 151 7 (esS φ (16 * r) S (pSz P r))) (154 + r) 0 ((φ (16 * r) + nI 1) &&& nI 255)) 151 8 (c + nI (pSz P r))) := by
  refine Ct_intro (by decide +kernel) (Nat.le_of_ble_eq_true rfl) ?_
  show V g mX6_escape _ h 0 0 [(0, .ref 151), (1, .int (nI r))] 0 []
  have hR := X.2.2.1
  have h16 := (X.2.2.2.1 r hr).2
  refine V_aload_n (j := 0) (q := 1) dX6_escape_0 rfl rfl ?_
  refine V_getP (q := 4) (r := 1) fX6_23 (X.1.1 151 _ s_151) rfl (X.1.2.1 151 0 _ rfl) dX6_escape_1 rfl ?_
  refine V_iload_n (j := 1) (q := 5) dX6_escape_4 rfl rfl ?_
  refine V_cpV (q := 8) (S := []) (v := .int (nI (pSz P r))) kX6_150 (by have := d_sizeOf (g := g) (x := nI r) X; rw [szR_n X.2.2 r (by omega), szx_lt hr] at this; exact this) (X.1.1 1 _ s_1) rfl rfl rfl dX6_escape_5 rfl ?_
  refine V_istore_n (q := 9) (L' := [(2, .int (nI (pSz P r))), (0, .ref 151), (1, .int (nI r))]) dX6_escape_8 rfl rfl rfl ?_
  refine V_iconst (q := 10) (v := nI 0) dX6_escape_9 rfl rfl ?_
  refine V_istore_n (q := 11) (L' := [(3, .int (nI 0)), (2, .int (nI (pSz P r))), (0, .ref 151), (1, .int (nI r))]) dX6_escape_10 rfl rfl rfl ?_
  refine V_sub (L' := [(0, .ref 151), (1, .int (nI r)), (2, .int (nI (pSz P r))), (3, .int (nI 0))]) [2, 3, 1, 0] rfl ?_
  have z := lq_escape (g := g) X hr B hS hc (pSz P r - 0 + 1) 0 (Nat.zero_le _) (Nat.lt_succ_self _)
  rw [show esS φ (16 * r) S 0 = S from rfl, sI_id hS] at z
  exact z


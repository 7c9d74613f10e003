def vN (x : Int32) : Nat := x.toBitVec.toNat
theorem nI_vN (x : Int32) : nI (vN x) = x := by
  unfold nI vN
  apply Int32.toBitVec_inj.mp
  simp
set_option maxHeartbeats 4000000 in
set_option maxRecDepth 100000 in
theorem c_isRange {g : GX} {h : AH} {m : Nat} {P : PG} (W : RF h m P) {x y z : Int32} : Ct g mX8_isRange 2 0 0 [.ref m, .int x, .int y, .int z] h (fun ρ η => ρ = some (.int (bi (rngB P x y z))) ∧ η = h) := by
  refine Ct_intro (by decide +kernel) (Nat.le_of_ble_eq_true rfl) ?_
  show V g mX8_isRange _ h 0 0 [(0, .ref m), (1, .int x), (2, .int y), (3, .int z)] 0 []
  have hN := W.2.2.2.2.1
  have hR := W.2.2.1
  refine V_aload_n (j := 0) (q := 1) dX8_isRange_0 rfl rfl ?_
  refine V_iload_n (j := 1) (q := 2) dX8_isRange_1 rfl rfl ?_
  refine V_cpV (q := 5) (S := []) (v := .int (bi (isR P x))) kX8_52 (c_isRecord W) (W.1.1 0 _ rfl) rfl rfl rfl dX8_isRange_2 rfl ?_
  refine V_if_eqB (tgt := 40) (q := 8) dX8_isRange_5 rfl rfl (fun c1 => ?_) (fun c1 => ?_)
  · skip
    simp only [isR, decide_eq_false_iff_not] at c1
    refine V_iconst (q := 41) (v := nI 0) dX8_isRange_40 rfl rfl ?_
    refine V_rw (y := bi false) rfl ?_
    refine V_zret (b := false) rfl dX8_isRange_41 rfl rfl ?_
    exact ⟨pvb (show false = decide _ from (decide_eq_false (by omega)).symm), rfl⟩
  · skip
    obtain ⟨r, hr, rfl⟩ := isR_of c1
    have hS := W.2.2.2.1 r hr
    have nx := nt_n (n := r) (by omega)
    have ix := i_n (n := r) (by omega)
    refine V_iload_n (j := 3) (q := 9) dX8_isRange_8 rfl rfl ?_
    refine V_if_le (tgt := 40) (q := 12) dX8_isRange_9 rfl rfl (fun c2 => ?_) (fun c2 => ?_)
    · skip
      rw [i_le, i_0] at c2
      refine V_iconst (q := 41) (v := nI 0) dX8_isRange_40 rfl rfl ?_
      refine V_rw (y := bi false) rfl ?_
      refine V_zret (b := false) rfl dX8_isRange_41 rfl rfl ?_
      exact ⟨pvb (show false = decide _ from (decide_eq_false (by rw [nx, ix]; omega)).symm), rfl⟩
    · skip
      rw [i_le, i_0] at c2
      refine V_iload_n (j := 2) (q := 13) dX8_isRange_12 rfl rfl ?_
      refine V_iconst (q := 14) (v := nI 0) dX8_isRange_13 rfl rfl ?_
      refine V_bipush (q := 16) (v := nI 16) dX8_isRange_14 rfl (by decide) ?_
      refine V_cpS (q := 19) (S := []) (v := .int (bi (inB y (nI 0) (nI 16)))) kX8_48 c_in rfl rfl rfl dX8_isRange_16 rfl ?_
      refine V_if_eqB (tgt := 40) (q := 22) dX8_isRange_19 rfl rfl (fun c3 => ?_) (fun c3 => ?_)
      · skip
        simp only [inB, ← Bool.decide_and, decide_eq_false_iff_not, i_n (show 0 < 2 ^ 31 by decide), i_n (show 16 < 2 ^ 31 by decide)] at c3
        refine V_iconst (q := 41) (v := nI 0) dX8_isRange_40 rfl rfl ?_
        refine V_rw (y := bi false) rfl ?_
        refine V_zret (b := false) rfl dX8_isRange_41 rfl rfl ?_
        exact ⟨pvb (show false = decide _ from (decide_eq_false (by rw [nx, ix]; omega)).symm), rfl⟩
      · skip
        simp only [inB, ← Bool.decide_and, decide_eq_true_eq, i_n (show 0 < 2 ^ 31 by decide), i_n (show 16 < 2 ^ 31 by decide)] at c3
        refine V_iload_n (j := 3) (q := 23) dX8_isRange_22 rfl rfl ?_
        refine V_aload_n (j := 0) (q := 24) dX8_isRange_23 rfl rfl ?_
        refine V_getP (q := 27) (r := (m + 1)) fX8_7 (W.1.1 0 _ rfl) rfl (W.1.2 0 _ rfl) dX8_isRange_24 rfl ?_
        refine V_iconst (q := 28) (v := nI 1) dX8_isRange_27 rfl rfl ?_
        refine V_iload_n (j := 1) (q := 29) dX8_isRange_28 rfl rfl ?_
        refine V_iaddN (q := 30) dX8_isRange_29 rfl ?_
        refine V_iald (q := 31) (W.1.1 1 _ rfl) (by omega) (by decide) dX8_isRange_30 rfl ?_
        refine V_rw (y := nI (pSz P r)) (W.2.1.2.1 _ (by omega)) ?_
        refine V_iload_n (j := 2) (q := 32) dX8_isRange_31 rfl rfl ?_
        refine V_isub (q := 33) dX8_isRange_32 rfl ?_
        refine V_icmp_gt (tgt := 40) (q := 36) dX8_isRange_33 rfl rfl (fun c4 => ?_) (fun c4 => ?_)
        · skip
          have es : (nI (pSz P r) - y).toInt = pSz P r - y.toInt := by rw [i_sub, i_n (by omega)]; rw [i_n (by omega)]; omega
          rw [i_lt, es] at c4
          refine V_iconst (q := 41) (v := nI 0) dX8_isRange_40 rfl rfl ?_
          refine V_rw (y := bi false) rfl ?_
          refine V_zret (b := false) rfl dX8_isRange_41 rfl rfl ?_
          exact ⟨pvb (show false = decide _ from (decide_eq_false (by rw [nx, ix]; omega)).symm), rfl⟩
        · skip
          have es : (nI (pSz P r) - y).toInt = pSz P r - y.toInt := by rw [i_sub, i_n (by omega)]; rw [i_n (by omega)]; omega
          rw [i_lt, es] at c4
          refine V_iconst (q := 37) (v := nI 1) dX8_isRange_36 rfl rfl ?_
          refine V_goto (q := 41) dX8_isRange_37 rfl ?_
          refine V_rw (y := bi true) rfl ?_
          refine V_zret (b := true) rfl dX8_isRange_41 rfl rfl ?_
          exact ⟨pvb (show true = decide _ from (decide_eq_true (by rw [nx, ix]; omega)).symm), rfl⟩

set_option maxHeartbeats 4000000 in
set_option maxRecDepth 100000 in
theorem lp_note2 {g : GX} {h : AH} {m : Nat} {P : PG} {K : Nat → PG} {c : Nat} (G : RG h m P) (H : HS h m K c) {e0 : AH} {K0 : Nat → PG} {c0 : Nat} (E0 : FN h e0 m) (H0 : HS e0 m K0 c0) (h7 : c0 ≤ 7) (hp : psh K c P = (fun j => if j = c0 then P else K0 j, c0 + 1)) : ∀ (t : Nat) (k : Nat) (e : AH), (k ≤ 150) → (FB e0 e (m + 2)) → (∀ x, hI e (m + 2) x = if 150 * c0 ≤ x ∧ x < 150 * c0 + k then hI e0 (m + 1) (x - 150 * c0) else hI e0 (m + 2) x) → 150 - k < t → V g mX8_note (thM g 0 0 0 (fun ρ η => ρ = none ∧ FN h η m ∧ HS η m (psh K c P).1 (psh K c P).2)) e 0 0 [(0, .ref m), (1, .int (nI k))] 52 [] := by
  intro t
  induction t with
  | zero =>
    intro k e hk F B hfu
    exact absurd hfu (Nat.not_lt_zero _)
  | succ t ih =>
    intro k e hk F B hfu
    have G0 := E0.rg G
    have W := F.RF G0.1 (by omega)
    refine V_iload_n (j := 1) (q := 53) dX8_note_52 rfl rfl ?_
    refine V_sipush (q := 56) (v := nI 150) dX8_note_53 rfl (by decide) ?_
    refine V_icmp_geN (tgt := 86) (q := 59) dX8_note_56 rfl rfl (by omega) (by omega) (fun c1 => ?_) (fun c1 => ?_)
    · skip
      refine V_aload_n (j := 0) (q := 87) dX8_note_86 rfl rfl ?_
      refine V_dup (q := 88) dX8_note_87 rfl rfl ?_
      refine V_getI (q := 91) fX8_44 (W.1.1 0 _ rfl) rfl dX8_note_88 rfl ?_
      refine V_rw (y := nI c0) (by rw [F.2 _ (by omega)]; exact H0.1) ?_
      refine V_iconst (q := 92) (v := nI 1) dX8_note_91 rfl rfl ?_
      refine V_iaddN (q := 93) dX8_note_92 rfl ?_
      refine V_putI (q := 96) wX8_44 (W.1.1 0 _ rfl) rfl dX8_note_93 rfl ?_
      refine V_vret rfl dX8_note_96 rfl rfl ?_
      refine ⟨rfl, ⟨⟨F.1.1.trans E0.1.1, F.1.2.1.trans E0.1.2.1, F.1.2.2.trans E0.1.2.2⟩, fun a a1 a2 => ?_, fun j hj => ?_⟩, ?_⟩
      · rw [hI_n a1, F.2 a a2]; exact E0.2.1 a a1 a2
      · rw [hI_s, if_neg (fun w => hj w.2), F.2 m (by omega)]; exact E0.2.2 j hj
      · rw [hp]
        refine ⟨by rw [hI_s, if_pos ⟨rfl, rfl⟩], by show c0 + 1 ≤ 8; omega, fun j hj => ?_⟩
        have hj : j < c0 + 1 := hj
        dsimp only
        by_cases z : j = c0
        · rw [if_pos z]
          refine ⟨G.1.2.2, RS_eq G0.1.2.2 G0.1.2.1 (fun x hx => ?_)⟩
          rw [hI_n (by omega), B, if_pos (by omega), z, show 150 * c0 + x - 150 * c0 = x by omega]
        · rw [if_neg z]
          obtain ⟨o1, o2⟩ := H0.2.2 j (by omega)
          exact ⟨o1, RS_eq o1 o2 (fun x hx => by rw [hI_n (by omega), B, if_neg (by omega)])⟩
    · skip
      refine V_aload_n (j := 0) (q := 60) dX8_note_59 rfl rfl ?_
      refine V_getP (q := 63) (r := (m + 2)) fX8_13 (W.1.1 0 _ rfl) rfl (W.1.2 1 _ rfl) dX8_note_60 rfl ?_
      refine V_sipush (q := 66) (v := nI 150) dX8_note_63 rfl (by decide) ?_
      refine V_aload_n (j := 0) (q := 67) dX8_note_66 rfl rfl ?_
      refine V_getI (q := 70) fX8_44 (W.1.1 0 _ rfl) rfl dX8_note_67 rfl ?_
      refine V_rw (y := nI c0) (by rw [F.2 _ (by omega)]; exact H0.1) ?_
      refine V_imulN (q := 71) dX8_note_70 rfl ?_
      refine V_iload_n (j := 1) (q := 72) dX8_note_71 rfl rfl ?_
      refine V_iaddN (q := 73) dX8_note_72 rfl ?_
      refine V_aload_n (j := 0) (q := 74) dX8_note_73 rfl rfl ?_
      refine V_getP (q := 77) (r := (m + 1)) fX8_7 (W.1.1 0 _ rfl) rfl (W.1.2 0 _ rfl) dX8_note_74 rfl ?_
      refine V_iload_n (j := 1) (q := 78) dX8_note_77 rfl rfl ?_
      refine V_iald (q := 79) (W.1.1 1 _ rfl) (by omega) (by decide) dX8_note_78 rfl ?_
      refine V_iast (q := 80) (W.1.1 2 _ rfl) (by omega) (by decide) dX8_note_79 rfl ?_
      refine V_iincN (j := 1) (q := 83) (L' := [(1, .int (nI (k + 1))), (0, .ref m)]) dX8_note_80 rfl rfl rfl rfl ?_
      refine V_goto (q := 52) dX8_note_83 rfl ?_
      refine V_sub (L' := [(0, .ref m), (1, .int (nI (k + 1)))]) [1, 0] rfl ?_
      refine ih (k + 1) (sI e (m + 2) (150 * c0 + k) (hI e (m + 1) k)) ?_ ?_ ?_ ?_
      · omega
      · exact F.set
      · intro x; rw [hI_s]; by_cases z : x = 150 * c0 + k; (rw [if_pos ⟨rfl, z⟩, if_pos (by omega), z, show 150 * c0 + k - 150 * c0 = k by omega]; rw [F.2 _ (by omega)]); (rw [if_neg (fun w => z w.2), B x]; by_cases y : 150 * c0 ≤ x ∧ x < 150 * c0 + k; (rw [if_pos y, if_pos (by omega)]); rw [if_neg y, if_neg (by omega)])
      · omega

set_option maxHeartbeats 4000000 in
set_option maxRecDepth 100000 in
theorem lp_note1 {g : GX} {h : AH} {m : Nat} {P : PG} {K : Nat → PG} {c : Nat} (G : RG h m P) (H : HS h m K c) (h8 : c = 8) : ∀ (t : Nat) (k : Nat) (e : AH), (k ≤ 1050) → (FB h e (m + 2)) → (∀ x, hI e (m + 2) x = if x < k then hI h (m + 2) (x + 150) else hI h (m + 2) x) → 1050 - k < t → V g mX8_note (thM g 0 0 0 (fun ρ η => ρ = none ∧ FN h η m ∧ HS η m (psh K c P).1 (psh K c P).2)) e 0 0 [(0, .ref m), (1, .int (nI k))] 11 [] := by
  intro t
  induction t with
  | zero =>
    intro k e hk F B hfu
    exact absurd hfu (Nat.not_lt_zero _)
  | succ t ih =>
    intro k e hk F B hfu
    have W := F.RF G.1 (by omega)
    refine V_iload_n (j := 1) (q := 12) dX8_note_11 rfl rfl ?_
    refine V_sipush (q := 15) (v := nI 1050) dX8_note_12 rfl (by decide) ?_
    refine V_icmp_geN (tgt := 40) (q := 18) dX8_note_15 rfl rfl (by omega) (by omega) (fun c1 => ?_) (fun c1 => ?_)
    · skip
      refine V_aload_n (j := 0) (q := 41) dX8_note_40 rfl rfl ?_
      refine V_dup (q := 42) dX8_note_41 rfl rfl ?_
      refine V_getI (q := 45) fX8_44 (W.1.1 0 _ rfl) rfl dX8_note_42 rfl ?_
      refine V_rw (y := nI c) (by rw [F.2 _ (by omega)]; exact H.1) ?_
      refine V_iconst (q := 46) (v := nI 1) dX8_note_45 rfl rfl ?_
      refine V_isubN (q := 47) dX8_note_46 rfl (by omega) ?_
      refine V_putI (q := 50) wX8_44 (W.1.1 0 _ rfl) rfl dX8_note_47 rfl ?_
      refine V_iconst (q := 51) (v := nI 0) dX8_note_50 rfl rfl ?_
      refine V_istore_n (q := 52) (L' := [(1, .int (nI 0)), (0, .ref m)]) dX8_note_51 rfl rfl rfl ?_
      refine V_sub (L' := [(0, .ref m), (1, .int (nI 0))]) [1, 0] rfl ?_
      refine lp_note2 G H (e0 := sI e m 2 (nI (c - 1))) (K0 := fun j => K (j + 1)) (c0 := 7) ⟨F.1, fun a a1 a2 => by rw [hI_n a1]; exact F.2 a a2, fun j hj => by rw [hI_s, if_neg (fun w => hj w.2), F.2 m (by omega)]⟩ ⟨by rw [hI_s, if_pos ⟨rfl, rfl⟩, h8], by decide, fun j hj => ?_⟩ (by decide) (by rw [psh, if_pos h8]) (150 - 0 + 1) 0 _ (Nat.zero_le _) (FB.rf _) (fun x => by rw [if_neg (by omega)]) (Nat.lt_succ_self _)
      obtain ⟨o1, o2⟩ := H.2.2 (j + 1) (by omega)
      exact ⟨o1, RS_eq o1 o2 (fun x hx => by rw [hI_n (by omega), B, if_pos (by omega), show 150 * j + x + 150 = 150 * (j + 1) + x by omega])⟩
    · skip
      refine V_aload_n (j := 0) (q := 19) dX8_note_18 rfl rfl ?_
      refine V_getP (q := 22) (r := (m + 2)) fX8_13 (W.1.1 0 _ rfl) rfl (W.1.2 1 _ rfl) dX8_note_19 rfl ?_
      refine V_iload_n (j := 1) (q := 23) dX8_note_22 rfl rfl ?_
      refine V_aload_n (j := 0) (q := 24) dX8_note_23 rfl rfl ?_
      refine V_getP (q := 27) (r := (m + 2)) fX8_13 (W.1.1 0 _ rfl) rfl (W.1.2 1 _ rfl) dX8_note_24 rfl ?_
      refine V_iload_n (j := 1) (q := 28) dX8_note_27 rfl rfl ?_
      refine V_sipush (q := 31) (v := nI 150) dX8_note_28 rfl (by decide) ?_
      refine V_iaddN (q := 32) dX8_note_31 rfl ?_
      refine V_iald (q := 33) (W.1.1 2 _ rfl) (by omega) (by decide) dX8_note_32 rfl ?_
      refine V_iast (q := 34) (W.1.1 2 _ rfl) (by omega) (by decide) dX8_note_33 rfl ?_
      refine V_iincN (j := 1) (q := 37) (L' := [(1, .int (nI (k + 1))), (0, .ref m)]) dX8_note_34 rfl rfl rfl rfl ?_
      refine V_goto (q := 11) dX8_note_37 rfl ?_
      refine V_sub (L' := [(0, .ref m), (1, .int (nI (k + 1)))]) [1, 0] rfl ?_
      refine ih (k + 1) (sI e (m + 2) k (hI e (m + 2) (k + 150))) ?_ ?_ ?_ ?_
      · omega
      · exact F.set
      · intro x; rw [hI_s]; by_cases z : x = k; (rw [if_pos ⟨rfl, z⟩, if_pos (by omega), B, if_neg (by omega), z]); (rw [if_neg (fun w => z w.2), B x]; by_cases y : x < k; (rw [if_pos y, if_pos (by omega)]); rw [if_neg y, if_neg (by omega)])
      · omega

set_option maxHeartbeats 4000000 in
set_option maxRecDepth 100000 in
theorem c_note {g : GX} {h : AH} {m : Nat} {P : PG} {K : Nat → PG} {c : Nat} (G : RG h m P) (H : HS h m K c) : Ct g mX8_note 0 0 0 [.ref m] h (fun ρ η => ρ = none ∧ FN h η m ∧ HS η m (psh K c P).1 (psh K c P).2) := by
  refine Ct_intro (by decide +kernel) (Nat.le_of_ble_eq_true rfl) ?_
  show V g mX8_note _ h 0 0 [(0, .ref m)] 0 []
  have W := G.1
  have h8 := H.2.1
  refine V_aload_n (j := 0) (q := 1) dX8_note_0 rfl rfl ?_
  refine V_getI (q := 4) fX8_44 (W.1.1 0 _ rfl) rfl dX8_note_1 rfl ?_
  refine V_rw (y := nI c) H.1 ?_
  refine V_bipush (q := 6) (v := nI 8) dX8_note_4 rfl (by decide) ?_
  refine V_icmp_neN (tgt := 50) (q := 9) dX8_note_6 rfl rfl (by omega) (by omega) (fun c1 => ?_) (fun c1 => ?_)
  · skip
    refine V_iconst (q := 51) (v := nI 0) dX8_note_50 rfl rfl ?_
    refine V_istore_n (q := 52) (L' := [(1, .int (nI 0)), (0, .ref m)]) dX8_note_51 rfl rfl rfl ?_
    refine V_sub (L' := [(0, .ref m), (1, .int (nI 0))]) [1, 0] rfl ?_
    exact lp_note2 G H (e0 := h) (K0 := K) (c0 := c) ⟨⟨rfl, rfl, rfl⟩, fun _ _ _ => rfl, fun _ _ => rfl⟩ H (by omega) (by rw [psh, if_neg c1]) (150 - 0 + 1) 0 _ (Nat.zero_le _) (FB.rf _) (fun x => by rw [if_neg (by omega)]) (Nat.lt_succ_self _)
  · skip
    refine V_iconst (q := 10) (v := nI 0) dX8_note_9 rfl rfl ?_
    refine V_istore_n (q := 11) (L' := [(1, .int (nI 0)), (0, .ref m)]) dX8_note_10 rfl rfl rfl ?_
    refine V_sub (L' := [(0, .ref m), (1, .int (nI 0))]) [1, 0] rfl ?_
    exact lp_note1 G H c1 (1050 - 0 + 1) 0 _ (Nat.zero_le _) (FB.rf _) (fun x => by rw [if_neg (by omega)]) (Nat.lt_succ_self _)

set_option maxHeartbeats 4000000 in
set_option maxRecDepth 100000 in
theorem c_declareRecord {g : GX} {h : AH} {m : Nat} {σ : GS} (Z : RH h m σ) {x : Int32} : Ct g mX8_declareRecord 1 0 0 [.ref m, .int x] h (fun ρ η => ρ = some (.int (deR σ x).1) ∧ FE h η m ∧ RH η m (deR σ x).2) := by
  refine Ct_intro (by decide +kernel) (Nat.le_of_ble_eq_true rfl) ?_
  show V g mX8_declareRecord _ h 0 0 [(0, .ref m), (1, .int x)] 0 []
  obtain ⟨P, K, c⟩ := σ
  obtain ⟨G, H⟩ := Z
  have G : RG h m P := G
  have H : HS h m K c := H
  have W := G.1
  have hN := W.2.2.2.2.1
  have hR := W.2.2.1
  have h8 := H.2.1
  refine V_iload_n (j := 1) (q := 1) dX8_declareRecord_0 rfl rfl ?_
  refine V_iconst (q := 2) (v := nI 1) dX8_declareRecord_1 rfl rfl ?_
  refine V_bipush (q := 4) (v := nI 16) dX8_declareRecord_2 rfl (by decide) ?_
  refine V_cpS (q := 7) (S := []) (v := .int (bi (inB x (nI 1) (nI 16)))) kX8_48 c_in rfl rfl rfl dX8_declareRecord_4 rfl ?_
  refine V_if_neB (tgt := 12) (q := 10) dX8_declareRecord_7 rfl rfl (fun c1 => ?_) (fun c1 => ?_)
  · skip
    simp only [inB, ← Bool.decide_and, decide_eq_true_eq, i_n (show 1 < 2 ^ 31 by decide), i_n (show 16 < 2 ^ 31 by decide)] at c1
    obtain ⟨z, hz, rfl⟩ := i_of (x := x) (n := 17) (by omega) (by omega)
    have iz := i_n (n := z) (by omega)
    rw [iz] at c1
    have nz := nt_n (n := z) (by omega)
    refine V_aload_n (j := 0) (q := 13) dX8_declareRecord_12 rfl rfl ?_
    refine V_getP (q := 16) (r := (m + 1)) fX8_7 (W.1.1 0 _ rfl) rfl (W.1.2 0 _ rfl) dX8_declareRecord_13 rfl ?_
    refine V_iconst (q := 17) (v := nI 0) dX8_declareRecord_16 rfl rfl ?_
    refine V_iald (q := 18) (W.1.1 1 _ rfl) (by omega) (by decide) dX8_declareRecord_17 rfl ?_
    refine V_rw (y := nI (pNr P)) W.2.1.1 ?_
    refine V_iconst (q := 19) (v := nI 4) dX8_declareRecord_18 rfl rfl ?_
    refine V_icmp_neN (tgt := 25) (q := 22) dX8_declareRecord_19 rfl rfl (by omega) (by omega) (fun c2 => ?_) (fun c2 => ?_)
    · skip
      refine V_aload_n (j := 0) (q := 26) dX8_declareRecord_25 rfl rfl ?_
      refine V_callV (q := 29) (S := []) kX8_56 (c_note G H) (W.1.1 0 _ rfl) rfl rfl rfl dX8_declareRecord_26 rfl (fun r3 h4 p5 => ?_)
      obtain ⟨rfl, F1, H1⟩ := p5
      have G1 := F1.rg G
      have W := G1.1
      refine V_aload_n (j := 0) (q := 30) dX8_declareRecord_29 rfl rfl ?_
      refine V_getP (q := 33) (r := (m + 1)) fX8_7 (W.1.1 0 _ rfl) rfl (W.1.2 0 _ rfl) dX8_declareRecord_30 rfl ?_
      refine V_iconst (q := 34) (v := nI 1) dX8_declareRecord_33 rfl rfl ?_
      refine V_aload_n (j := 0) (q := 35) dX8_declareRecord_34 rfl rfl ?_
      refine V_getP (q := 38) (r := (m + 1)) fX8_7 (W.1.1 0 _ rfl) rfl (W.1.2 0 _ rfl) dX8_declareRecord_35 rfl ?_
      refine V_iconst (q := 39) (v := nI 0) dX8_declareRecord_38 rfl rfl ?_
      refine V_iald (q := 40) (W.1.1 1 _ rfl) (by omega) (by decide) dX8_declareRecord_39 rfl ?_
      refine V_rw (y := nI (pNr P)) W.2.1.1 ?_
      refine V_iaddN (q := 41) dX8_declareRecord_40 rfl ?_
      refine V_iload_n (j := 1) (q := 42) dX8_declareRecord_41 rfl rfl ?_
      refine V_iast (q := 43) (W.1.1 1 _ rfl) (by omega) (by decide) dX8_declareRecord_42 rfl ?_
      refine V_aload_n (j := 0) (q := 44) dX8_declareRecord_43 rfl rfl ?_
      refine V_getP (q := 47) (r := (m + 1)) fX8_7 (W.1.1 0 _ rfl) rfl (W.1.2 0 _ rfl) dX8_declareRecord_44 rfl ?_
      refine V_iconst (q := 48) (v := nI 0) dX8_declareRecord_47 rfl rfl ?_
      refine V_dup2 (q := 49) dX8_declareRecord_48 rfl rfl rfl ?_
      refine V_iald (q := 50) (W.1.1 1 _ rfl) (by omega) (by decide) dX8_declareRecord_49 rfl ?_
      refine V_rw (y := nI (pNr P)) (by rw [hI_s, if_neg (by omega)]; exact W.2.1.1) ?_
      refine V_iconst (q := 51) (v := nI 1) dX8_declareRecord_50 rfl rfl ?_
      refine V_iaddN (q := 52) dX8_declareRecord_51 rfl ?_
      refine V_iast (q := 53) (W.1.1 1 _ rfl) (by omega) (by decide) dX8_declareRecord_52 rfl ?_
      refine V_aload_n (j := 0) (q := 54) dX8_declareRecord_53 rfl rfl ?_
      refine V_getP (q := 57) (r := (m + 1)) fX8_7 (W.1.1 0 _ rfl) rfl (W.1.2 0 _ rfl) dX8_declareRecord_54 rfl ?_
      refine V_iconst (q := 58) (v := nI 0) dX8_declareRecord_57 rfl rfl ?_
      refine V_iald (q := 59) (W.1.1 1 _ rfl) (by omega) (by decide) dX8_declareRecord_58 rfl ?_
      refine V_rw (y := nI (pNr P + 1)) (by rw [hI_s, if_pos ⟨rfl, rfl⟩]) ?_
      refine V_iconst (q := 60) (v := nI 1) dX8_declareRecord_59 rfl rfl ?_
      refine V_isubN (q := 61) dX8_declareRecord_60 rfl (by omega) ?_
      refine V_iret rfl dX8_declareRecord_61 rfl rfl ?_
      rw [show deR (P, K, c) (nI z) = (nI (pNr P), pDe P z, psh K c P) from by rw [deR, if_pos (by rw [iz]; omega), if_neg c2, nz]]
      refine ⟨rfl, (F1.e).tr (FB.e (k := 1) ((FB.rf (m + 1)).set.set) (by decide)), RH_s G1 H1 ((FB.rf (m + 1)).set.set) (ok_De W.2.2 (by omega) (by omega) (by omega)) (RS_De W.2.2 W.2.1 (by omega) ?_ ?_ (fun x h1 h2 => ?_))⟩
      · rw [hI_s, if_pos ⟨rfl, rfl⟩]
      · rw [hI_s, if_neg (by omega), hI_s, if_pos ⟨rfl, rfl⟩]
      · rw [hI_s, if_neg (fun w => h1 w.2), hI_s, if_neg (fun w => h2 w.2)]
    · skip
      refine V_bipush (q := 24) (v := (-3)) dX8_declareRecord_22 rfl (by decide) ?_
      refine V_iret rfl dX8_declareRecord_24 rfl rfl ?_
      rw [show deR (P, K, c) (nI z) = (-3, P, K, c) from by rw [deR, if_pos (by rw [iz]; omega), if_pos c2]]
      exact ⟨rfl, FE.rf h m, G, H⟩
  · skip
    simp only [inB, ← Bool.decide_and, decide_eq_false_iff_not, i_n (show 1 < 2 ^ 31 by decide), i_n (show 16 < 2 ^ 31 by decide)] at c1
    refine V_iconst (q := 11) (v := (-1)) dX8_declareRecord_10 rfl rfl ?_
    refine V_iret rfl dX8_declareRecord_11 rfl rfl ?_
    rw [show deR (P, K, c) x = (-1, P, K, c) from if_neg (by omega)]
    exact ⟨rfl, FE.rf h m, G, H⟩

set_option maxHeartbeats 4000000 in
set_option maxRecDepth 100000 in
theorem c_append {g : GX} {h : AH} {m : Nat} {σ : GS} (Z : RH h m σ) {k a b c2 d e : Nat} (hf : OkF σ.1 (f6 k a b c2 d e)) : Ct g mX8_append 1 0 0 [.ref m, .int (nI k), .int (nI a), .int (nI b), .int (nI c2), .int (nI d), .int (nI e)] h (fun ρ η => ρ = some (.int (apR σ true (f6 k a b c2 d e)).1) ∧ FE h η m ∧ RH η m (apR σ true (f6 k a b c2 d e)).2) := by
  refine Ct_intro (by decide +kernel) (Nat.le_of_ble_eq_true rfl) ?_
  show V g mX8_append _ h 0 0 [(0, .ref m), (1, .int (nI k)), (2, .int (nI a)), (3, .int (nI b)), (4, .int (nI c2)), (5, .int (nI d)), (6, .int (nI e))] 0 []
  obtain ⟨P, K, c⟩ := σ
  obtain ⟨G, H⟩ := Z
  have G : RG h m P := G
  have H : HS h m K c := H
  have W := G.1
  have hN := W.2.2.2.2.1
  have hR := W.2.2.1
  have h8 := H.2.1
  have hf : OkF P (f6 k a b c2 d e) := hf
  refine V_aload_n (j := 0) (q := 1) dX8_append_0 rfl rfl ?_
  refine V_getP (q := 4) (r := (m + 1)) fX8_7 (W.1.1 0 _ rfl) rfl (W.1.2 0 _ rfl) dX8_append_1 rfl ?_
  refine V_iconst (q := 5) (v := nI 5) dX8_append_4 rfl rfl ?_
  refine V_iald (q := 6) (W.1.1 1 _ rfl) (by omega) (by decide) dX8_append_5 rfl ?_
  refine V_rw (y := nI (pNi P)) W.2.1.2.2.1 ?_
  refine V_bipush (q := 8) (v := nI 24) dX8_append_6 rfl (by decide) ?_
  refine V_icmp_neN (tgt := 14) (q := 11) dX8_append_8 rfl rfl (by omega) (by omega) (fun c1 => ?_) (fun c1 => ?_)
  · skip
    refine V_aload_n (j := 0) (q := 15) dX8_append_14 rfl rfl ?_
    refine V_callV (q := 18) (S := []) kX8_56 (c_note G H) (W.1.1 0 _ rfl) rfl rfl rfl dX8_append_15 rfl (fun r2 h3 p4 => ?_)
    obtain ⟨rfl, F1, H1⟩ := p4
    have G1 := F1.rg G
    have W := G1.1
    refine V_bipush (q := 20) (v := nI 6) dX8_append_18 rfl (by decide) ?_
    refine V_bipush (q := 22) (v := nI 6) dX8_append_20 rfl (by decide) ?_
    refine V_aload_n (j := 0) (q := 23) dX8_append_22 rfl rfl ?_
    refine V_getP (q := 26) (r := (m + 1)) fX8_7 (W.1.1 0 _ rfl) rfl (W.1.2 0 _ rfl) dX8_append_23 rfl ?_
    refine V_iconst (q := 27) (v := nI 5) dX8_append_26 rfl rfl ?_
    refine V_iald (q := 28) (W.1.1 1 _ rfl) (by omega) (by decide) dX8_append_27 rfl ?_
    refine V_rw (y := nI (pNi P)) W.2.1.2.2.1 ?_
    refine V_imulN (q := 29) dX8_append_28 rfl ?_
    refine V_iaddN (q := 30) dX8_append_29 rfl ?_
    refine V_istore (q := 32) (L' := [(7, .int (nI (6 + (6 * (pNi P))))), (0, .ref m), (1, .int (nI k)), (2, .int (nI a)), (3, .int (nI b)), (4, .int (nI c2)), (5, .int (nI d)), (6, .int (nI e))]) dX8_append_30 rfl rfl rfl ?_
    refine V_aload_n (j := 1) (q := 33) dX8_append_32 rfl rfl ?_
    refine V_getP (q := 36) (r := (m + 1)) fX8_7 (W.1.1 0 _ rfl) rfl (W.1.2 0 _ rfl) dX8_append_33 rfl ?_
    refine V_iload (j := 0) (q := 38) dX8_append_36 rfl rfl ?_
    refine V_iload_n (j := 2) (q := 39) dX8_append_38 rfl rfl ?_
    refine V_iast (q := 40) (W.1.1 1 _ rfl) (by omega) (by decide) dX8_append_39 rfl ?_
    refine V_aload_n (j := 1) (q := 41) dX8_append_40 rfl rfl ?_
    refine V_getP (q := 44) (r := (m + 1)) fX8_7 (W.1.1 0 _ rfl) rfl (W.1.2 0 _ rfl) dX8_append_41 rfl ?_
    refine V_iload (j := 0) (q := 46) dX8_append_44 rfl rfl ?_
    refine V_iconst (q := 47) (v := nI 1) dX8_append_46 rfl rfl ?_
    refine V_iaddN (q := 48) dX8_append_47 rfl ?_
    refine V_iload_n (j := 3) (q := 49) dX8_append_48 rfl rfl ?_
    refine V_iast (q := 50) (W.1.1 1 _ rfl) (by omega) (by decide) dX8_append_49 rfl ?_
    refine V_aload_n (j := 1) (q := 51) dX8_append_50 rfl rfl ?_
    refine V_getP (q := 54) (r := (m + 1)) fX8_7 (W.1.1 0 _ rfl) rfl (W.1.2 0 _ rfl) dX8_append_51 rfl ?_
    refine V_iload (j := 0) (q := 56) dX8_append_54 rfl rfl ?_
    refine V_iconst (q := 57) (v := nI 2) dX8_append_56 rfl rfl ?_
    refine V_iaddN (q := 58) dX8_append_57 rfl ?_
    refine V_iload_n (j := 4) (q := 59) dX8_append_58 rfl rfl ?_
    refine V_iast (q := 60) (W.1.1 1 _ rfl) (by omega) (by decide) dX8_append_59 rfl ?_
    refine V_aload_n (j := 1) (q := 61) dX8_append_60 rfl rfl ?_
    refine V_getP (q := 64) (r := (m + 1)) fX8_7 (W.1.1 0 _ rfl) rfl (W.1.2 0 _ rfl) dX8_append_61 rfl ?_
    refine V_iload (j := 0) (q := 66) dX8_append_64 rfl rfl ?_
    refine V_iconst (q := 67) (v := nI 3) dX8_append_66 rfl rfl ?_
    refine V_iaddN (q := 68) dX8_append_67 rfl ?_
    refine V_iload (j := 5) (q := 70) dX8_append_68 rfl rfl ?_
    refine V_iast (q := 71) (W.1.1 1 _ rfl) (by omega) (by decide) dX8_append_70 rfl ?_
    refine V_aload_n (j := 1) (q := 72) dX8_append_71 rfl rfl ?_
    refine V_getP (q := 75) (r := (m + 1)) fX8_7 (W.1.1 0 _ rfl) rfl (W.1.2 0 _ rfl) dX8_append_72 rfl ?_
    refine V_iload (j := 0) (q := 77) dX8_append_75 rfl rfl ?_
    refine V_iconst (q := 78) (v := nI 4) dX8_append_77 rfl rfl ?_
    refine V_iaddN (q := 79) dX8_append_78 rfl ?_
    refine V_iload (j := 6) (q := 81) dX8_append_79 rfl rfl ?_
    refine V_iast (q := 82) (W.1.1 1 _ rfl) (by omega) (by decide) dX8_append_81 rfl ?_
    refine V_aload_n (j := 1) (q := 83) dX8_append_82 rfl rfl ?_
    refine V_getP (q := 86) (r := (m + 1)) fX8_7 (W.1.1 0 _ rfl) rfl (W.1.2 0 _ rfl) dX8_append_83 rfl ?_
    refine V_iload (j := 0) (q := 88) dX8_append_86 rfl rfl ?_
    refine V_iconst (q := 89) (v := nI 5) dX8_append_88 rfl rfl ?_
    refine V_iaddN (q := 90) dX8_append_89 rfl ?_
    refine V_iload (j := 7) (q := 92) dX8_append_90 rfl rfl ?_
    refine V_iast (q := 93) (W.1.1 1 _ rfl) (by omega) (by decide) dX8_append_92 rfl ?_
    refine V_aload_n (j := 1) (q := 94) dX8_append_93 rfl rfl ?_
    refine V_getP (q := 97) (r := (m + 1)) fX8_7 (W.1.1 0 _ rfl) rfl (W.1.2 0 _ rfl) dX8_append_94 rfl ?_
    refine V_iconst (q := 98) (v := nI 5) dX8_append_97 rfl rfl ?_
    refine V_dup2 (q := 99) dX8_append_98 rfl rfl rfl ?_
    refine V_iald (q := 100) (W.1.1 1 _ rfl) (by omega) (by decide) dX8_append_99 rfl ?_
    refine V_rw (y := nI (pNi P)) (by rw [hI_s, if_neg (by omega), hI_s, if_neg (by omega), hI_s, if_neg (by omega), hI_s, if_neg (by omega), hI_s, if_neg (by omega), hI_s, if_neg (by omega)]; exact W.2.1.2.2.1) ?_
    refine V_iconst (q := 101) (v := nI 1) dX8_append_100 rfl rfl ?_
    refine V_iaddN (q := 102) dX8_append_101 rfl ?_
    refine V_iast (q := 103) (W.1.1 1 _ rfl) (by omega) (by decide) dX8_append_102 rfl ?_
    refine V_aload_n (j := 1) (q := 104) dX8_append_103 rfl rfl ?_
    refine V_getP (q := 107) (r := (m + 1)) fX8_7 (W.1.1 0 _ rfl) rfl (W.1.2 0 _ rfl) dX8_append_104 rfl ?_
    refine V_iconst (q := 108) (v := nI 5) dX8_append_107 rfl rfl ?_
    refine V_iald (q := 109) (W.1.1 1 _ rfl) (by omega) (by decide) dX8_append_108 rfl ?_
    refine V_rw (y := nI (pNi P + 1)) (by rw [hI_s, if_pos ⟨rfl, rfl⟩]) ?_
    refine V_iconst (q := 110) (v := nI 1) dX8_append_109 rfl rfl ?_
    refine V_isubN (q := 111) dX8_append_110 rfl (by omega) ?_
    refine V_iret rfl dX8_append_111 rfl rfl ?_
    rw [show apR (P, K, c) true (f6 k a b c2 d e) = (nI (pNi P), pAp P (f6 k a b c2 d e), psh K c P) from by rw [apR, if_pos rfl, if_neg c1]]
    refine ⟨rfl, (F1.e).tr (FB.e (k := 1) ((FB.rf (m + 1)).set.set.set.set.set.set.set) (by decide)), RH_s G1 H1 ((FB.rf (m + 1)).set.set.set.set.set.set.set) (ok_Ap W.2.2 hf (by omega)) (RS_Ap W.2.1 ?_ (fun w hw => ?_) hR (fun x h1 h2 => ?_))⟩
    · rw [hI_s, if_pos ⟨rfl, rfl⟩]
    · rcases (show w = 0 ∨ w = 1 ∨ w = 2 ∨ w = 3 ∨ w = 4 ∨ w = 5 by omega) with rfl | rfl | rfl | rfl | rfl | rfl
      · rw [hI_s, if_neg (by omega), hI_s, if_neg (by omega), hI_s, if_neg (by omega), hI_s, if_neg (by omega), hI_s, if_neg (by omega), hI_s, if_neg (by omega), hI_s, if_pos ⟨rfl, rfl⟩]; rfl
      · rw [hI_s, if_neg (by omega), hI_s, if_neg (by omega), hI_s, if_neg (by omega), hI_s, if_neg (by omega), hI_s, if_neg (by omega), hI_s, if_pos ⟨rfl, rfl⟩]; rfl
      · rw [hI_s, if_neg (by omega), hI_s, if_neg (by omega), hI_s, if_neg (by omega), hI_s, if_neg (by omega), hI_s, if_pos ⟨rfl, rfl⟩]; rfl
      · rw [hI_s, if_neg (by omega), hI_s, if_neg (by omega), hI_s, if_neg (by omega), hI_s, if_pos ⟨rfl, rfl⟩]; rfl
      · rw [hI_s, if_neg (by omega), hI_s, if_neg (by omega), hI_s, if_pos ⟨rfl, rfl⟩]; rfl
      · rw [hI_s, if_neg (by omega), hI_s, if_pos ⟨rfl, rfl⟩]; rfl
    · rw [hI_s, if_neg (fun w => h1 w.2), hI_s, if_neg (by omega), hI_s, if_neg (by omega), hI_s, if_neg (by omega), hI_s, if_neg (by omega), hI_s, if_neg (by omega), hI_s, if_neg (by omega)]
  · skip
    refine V_bipush (q := 13) (v := (-3)) dX8_append_11 rfl (by decide) ?_
    refine V_iret rfl dX8_append_13 rfl rfl ?_
    rw [show apR (P, K, c) true (f6 k a b c2 d e) = (-3, P, K, c) from by rw [apR, if_pos rfl, if_pos c1]]
    exact ⟨rfl, FE.rf h m, G, H⟩


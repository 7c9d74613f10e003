set_option maxHeartbeats 4000000 in
set_option maxRecDepth 100000 in
theorem lq_touch {g : GX} {d : AH} {P : PG} {U : Nat → Nat} (X : CX d P U) {n : Nat} (hn : n < pNi P) {φ γ : Nat → Bool} {Q : Option Value → AH → Prop} (hQ : ∀ η, FAn d η → rwk d η → W4 P (fun x => φ x && tcF P n 16 x) γ η → Q none η) (hp : ∀ s, s < 16 → hI d (35 + n) s = nI (pcx P n s)) : ∀ (t : Nat) (s : Nat) (e : AH), (s ≤ 16) → (FAn d e) → (rwk d e) → (W4 P (fun x => φ x && tcF P n s x) γ e) → 16 - s < t → V g mX0_touchPartitions (thM g 2 0 0 (Q)) e 0 0 [(0, .ref 9), (1, .ref (U n)), (2, .int (nI n)), (3, .int (nI s))] 46 [] := by
  intro t
  induction t with
  | zero =>
    intro s e hs F R We hfu
    exact absurd hfu (Nat.not_lt_zero _)
  | succ t ih =>
    intro s e hs F R We hfu
    have hN := X.2.2.2.2.1
    have X1 := F.cx X
    have hC := X1.1
    have hpl := pcx_le X.2.2 (s := s) hn
    refine V_iload_n (j := 3) (q := 47) dX0_touchPartitions_46 rfl rfl ?_
    refine V_bipush (q := 49) (v := nI 16) dX0_touchPartitions_47 rfl (by decide) ?_
    refine V_icmp_geN (tgt := 95) (q := 52) dX0_touchPartitions_49 rfl rfl (by omega) (by omega) (fun c1 => ?_) (fun c1 => ?_)
    · skip
      refine V_vret rfl dX0_touchPartitions_95 rfl rfl ?_
      have : s = 16 := by omega
      subst this
      exact hQ _ F R We
    · skip
      refine V_aload_n (j := 0) (q := 53) dX0_touchPartitions_52 rfl rfl ?_
      refine V_getP (q := 56) (r := 34) fX0_24 (hC.1 9 _ s_9) rfl (hC.2.1 9 2 _ rfl) dX0_touchPartitions_53 rfl ?_
      refine V_iload_n (j := 2) (q := 57) dX0_touchPartitions_56 rfl rfl ?_
      refine V_aald (q := 58) (c := 15) (r := (35 + n)) (by decide) (hC.1 34 _ s_34) (by omega) (by decide) (hC.2.2.2.1 _ (by omega)) dX0_touchPartitions_57 rfl ?_
      refine V_iload_n (j := 3) (q := 59) dX0_touchPartitions_58 rfl rfl ?_
      refine V_iald (q := 60) (hC.1 _ _ (s_row _ (by omega))) (by omega) (by decide) dX0_touchPartitions_59 rfl ?_
      refine V_rw (y := nI (pcx P n s)) (by rw [R n (by omega)]; exact hp s (by omega)) ?_
      refine V_istore (q := 62) (L' := [(4, .int (nI (pcx P n s))), (0, .ref 9), (1, .ref (U n)), (2, .int (nI n)), (3, .int (nI s))]) dX0_touchPartitions_60 rfl rfl rfl ?_
      refine V_iload (j := 0) (q := 64) dX0_touchPartitions_62 rfl rfl ?_
      refine V_if_leN (tgt := 89) (q := 67) dX0_touchPartitions_64 rfl rfl (by omega) (fun c2 => ?_) (fun c2 => ?_)
      · skip
        refine V_iincN (j := 4) (q := 92) (L' := [(3, .int (nI (s + 1))), (4, .int (nI (pcx P n s))), (0, .ref 9), (1, .ref (U n)), (2, .int (nI n))]) dX0_touchPartitions_89 rfl rfl rfl rfl ?_
        refine V_goto (q := 46) dX0_touchPartitions_92 rfl ?_
        refine V_sub (L' := [(0, .ref 9), (1, .ref (U n)), (2, .int (nI n)), (3, .int (nI (s + 1)))]) [2, 3, 4, 0] rfl ?_
        refine ih (s + 1) e ?_ ?_ ?_ ?_ ?_
        · omega
        · exact F
        · exact R
        · exact W4_eq We (fun x => by rw [tcF_0 (by omega) x]) (fun _ => rfl)
        · omega
      · skip
        have hps : 0 < pcx P n s := c2
        obtain ⟨hk, hs5, hps2, epl⟩ := pcx_of hps
        rw [epl]
        have rd := rgO_d X.2.2 hn hk hs5
        have ro := rgO_s X.2.2 hn hk hs5
        have hl16 : pln P n s ≤ 16 := by omega
        have l1 := (pln_spec hs5).1
        have rd3 := rd.2.2.1
        have ro3 := ro.2.2.1
        have K1 := pta_f X.2.2 X1.1 We rd.1 (k := pFd P n 2 + s) (by omega) (rd.2.2.2 0 (by omega)).1
        refine V_aload_n (j := 1) (q := 68) dX0_touchPartitions_67 rfl rfl ?_
        refine V_aload_n (j := 2) (q := 69) dX0_touchPartitions_68 rfl rfl ?_
        refine V_iload_n (j := 4) (q := 70) dX0_touchPartitions_69 rfl rfl ?_
        refine V_cpV (q := 73) (S := []) (v := .ref (pta P (pFd P n 1) (pFd P n 2 + s))) kX0_113 (d_targetC X1 hn We hk hs5) (hC.1 9 _ s_9) rfl rfl rfl dX0_touchPartitions_70 rfl ?_
        refine V_iload (j := 0) (q := 75) dX0_touchPartitions_73 rfl rfl ?_
        refine V_callV (q := 78) (S := []) kX0_117 (d_touchWith (f := false) (n := pln P n s) K1.2.1 (by omega) K1.2.2.1.2.1 K1.2.2.2.2.1) K1.2.1 rfl rfl rfl dX0_touchPartitions_75 rfl (fun r3 h4 p5 => ?_)
        have e1 : h4 = tch P (pFd P n 1) (pFd P n 2 + s) (pln P n s) e := p5.2
        obtain rfl := p5.1
        have W2 := W4_touch X.2.2 We rd
        rw [← e1] at W2
        have F2 := FAn_tch X.2.2 F rd
        rw [← e1] at F2
        have R2 := rwk_tch (P := P) (r := pFd P n 1) (o := pFd P n 2 + s) (l := pln P n s) R
        rw [← e1] at R2
        have X2 := F2.cx X
        have K2 := pta_f X.2.2 X2.1 W2 ro.1 (k := pFd P n 4 + s) (by omega) (ro.2.2.2 0 (by omega)).1
        refine V_aload_n (j := 1) (q := 79) dX0_touchPartitions_78 rfl rfl ?_
        refine V_aload_n (j := 2) (q := 80) dX0_touchPartitions_79 rfl rfl ?_
        refine V_iload_n (j := 4) (q := 81) dX0_touchPartitions_80 rfl rfl ?_
        refine V_cpV (q := 84) (S := []) (v := .ref (pta P (pFd P n 3) (pFd P n 4 + s))) kX0_125 (d_origin X2 hn W2 hk hs5) (X2.1.1 9 _ s_9) rfl rfl rfl dX0_touchPartitions_81 rfl ?_
        refine V_iload (j := 0) (q := 86) dX0_touchPartitions_84 rfl rfl ?_
        refine V_callV (q := 89) (S := []) kX0_117 (d_touchWith (f := false) (n := pln P n s) K2.2.1 (by omega) K2.2.2.1.2.1 K2.2.2.2.2.1) K2.2.1 rfl rfl rfl dX0_touchPartitions_86 rfl (fun r6 h7 p8 => ?_)
        have e2 : h7 = tch P (pFd P n 3) (pFd P n 4 + s) (pln P n s) h4 := p8.2
        obtain rfl := p8.1
        have W3 := W4_touch X.2.2 W2 ro
        rw [← e2] at W3
        have F3 := FAn_tch X.2.2 F2 ro
        rw [← e2] at F3
        have R3 := rwk_tch (P := P) (r := pFd P n 3) (o := pFd P n 4 + s) (l := pln P n s) R2
        rw [← e2] at R3
        have W4x := W4_eq (f' := fun x => φ x && tcF P n (s + 1) x) W3 (fun x => by rw [tcF_1 hps x]; simp only [Bool.and_assoc]) (fun _ => rfl)
        refine V_iincN (j := 4) (q := 92) (L' := [(3, .int (nI (s + 1))), (4, .int (nI (pln P n s))), (0, .ref 9), (1, .ref (U n)), (2, .int (nI n))]) dX0_touchPartitions_89 rfl rfl rfl rfl ?_
        refine V_goto (q := 46) dX0_touchPartitions_92 rfl ?_
        refine V_sub (L' := [(0, .ref 9), (1, .ref (U n)), (2, .int (nI n)), (3, .int (nI (s + 1)))]) [2, 3, 4, 0] rfl ?_
        refine ih (s + 1) h7 ?_ ?_ ?_ ?_ ?_
        · omega
        · exact F3
        · exact R3
        · exact W4x
        · omega

set_option maxHeartbeats 4000000 in
set_option maxRecDepth 100000 in
theorem d_touchPartitions {g : GX} {h : AH} {P : PG} {U : Nat → Nat} (X : CX h P U) {n : Nat} (hn : n < pNi P) {φ γ : Nat → Bool} (W : W4 P φ γ h) (hp : ∀ s, s < 16 → hI h (35 + n) s = nI (pcx P n s)) : Ct g mX0_touchPartitions 2 0 0 [.ref 9, .ref (U n), .int (nI n)] h (fun ρ η => ρ = none ∧ FAn h η ∧ rwk h η ∧ W4 P (fun x => φ x && prC P x n) (fun x => γ x || (decide (pFd P n 0 = 2) && decide (x = acP P n))) η) := by
  refine Ct_intro (by decide +kernel) (Nat.le_of_ble_eq_true rfl) ?_
  show V g mX0_touchPartitions _ h 0 0 [(0, .ref 9), (1, .ref (U n)), (2, .int (nI n))] 0 []
  have hN := X.2.2.2.2.1
  have hR := X.2.2.1
  have hk8 := ok_kd X.2.2 hn
  have N := (X.2.1.2.2.2.1 n (by omega)).2
  rw [xfd_lt hn] at N
  rcases (show (pFd P n 0 = 1 ∨ pFd P n 0 = 2) ∨ pFd P n 0 = 3 ∨ 4 ≤ pFd P n 0 by omega) with hk | hk | hk
  · skip
    obtain ⟨o1, o2, o3, o4, o5, o6⟩ := ok_ac X.2.2 hn (by simp [isAc, hk])
    have hr1 : pFd P n 1 < 4 := by omega
    have ez := szx_lt o1
    refine V_aload_n (j := 1) (q := 1) dX0_touchPartitions_0 rfl rfl ?_
    have eil : (decide (pFd P n 0 = 1) || decide (pFd P n 0 = 2)) = true := by simp [hk]
    refine V_cpV (q := 4) (S := []) (v := .int (bi true)) kX0_75 (by have := d_isLoadOrStore (g := g) N (by omega); rw [eil] at this; exact this) N.2.1 rfl rfl rfl dX0_touchPartitions_1 rfl ?_
    refine V_if_eqB (tgt := 44) (q := 7) dX0_touchPartitions_4 rfl rfl (fun z => absurd z (by decide)) (fun _ => ?_)
    have hac : isAc P n = true := by simp [isAc, hk]
    have ra := rgO_a X.2.2 hn hac
    have ra3 := ra.2.2.1
    have K1 := pta_f X.2.2 X.1 W ra.1 (k := pFd P n 2 + 0) (by omega) (ra.2.2.2 0 (by omega)).1
    refine V_aload_n (j := 0) (q := 8) dX0_touchPartitions_7 rfl rfl ?_
    refine V_aload_n (j := 1) (q := 9) dX0_touchPartitions_8 rfl rfl ?_
    refine V_iconst (q := 10) (v := nI 0) dX0_touchPartitions_9 rfl rfl ?_
    refine V_cpV (q := 13) (S := []) (v := .ref (pta P (pFd P n 1) (pFd P n 2 + 0))) kX0_113 (d_targetA (s := 0) X hn W hk (by omega)) (X.1.1 9 _ s_9) rfl rfl rfl dX0_touchPartitions_10 rfl ?_
    refine V_astore_n (q := 14) (L' := [(3, .ref (pta P (pFd P n 1) (pFd P n 2 + 0))), (0, .ref 9), (1, .ref (U n)), (2, .int (nI n))]) dX0_touchPartitions_13 rfl rfl rfl ?_
    refine V_aload_n (j := 0) (q := 15) dX0_touchPartitions_14 rfl rfl ?_
    refine V_aload_n (j := 2) (q := 16) dX0_touchPartitions_15 rfl rfl ?_
    refine V_getI (q := 19) fX0_82 N.2.1 rfl dX0_touchPartitions_16 rfl ?_
    refine V_rw (y := nI (pFd P n 3)) ((N.2.2 4 (by decide)).trans (congrArg nI ((if_ac hk).2.2.2))) ?_
    refine V_callV (q := 22) (S := []) kX0_117 (d_touchWith (f := false) (n := pFd P n 3) K1.2.1 (by omega) K1.2.2.1.2.1 K1.2.2.2.2.1) K1.2.1 rfl rfl rfl dX0_touchPartitions_19 rfl (fun r2 h3 p4 => ?_)
    have e1 : h3 = tch P (pFd P n 1) (pFd P n 2) (pFd P n 3) h := p4.2
    obtain rfl := p4.1
    have W2 := W4_touch X.2.2 W ra
    rw [← e1] at W2
    have F2 := FAn_tch X.2.2 (FAn.rf h) ra
    rw [← e1] at F2
    have R2 := rwk_tch (P := P) (r := pFd P n 1) (o := pFd P n 2) (l := pFd P n 3) (fun i _ => rfl : rwk h h)
    rw [← e1] at R2
    have X2 := F2.cx X
    have N2 : IN h3 (U n) (pFd P n) := (by have z := (X2.2.1.2.2.2.1 n (by omega)).2; rw [xfd_lt hn] at z; exact z)
    have K2 := pta_f X.2.2 X2.1 W2 ra.1 (k := pFd P n 2 + 0) (by omega) (ra.2.2.2 0 (by omega)).1
    refine V_aload_n (j := 0) (q := 23) dX0_touchPartitions_22 rfl rfl ?_
    refine V_dup (q := 24) dX0_touchPartitions_23 rfl rfl ?_
    refine V_getI (q := 27) fX0_122 K2.2.1 rfl dX0_touchPartitions_24 rfl ?_
    refine V_rw (y := bi (γ (acP P n))) K2.2.2.1.2.2.2 ?_
    refine V_aload_n (j := 2) (q := 28) dX0_touchPartitions_27 rfl rfl ?_
    refine V_getI (q := 31) fX0_89 N2.2.1 rfl dX0_touchPartitions_28 rfl ?_
    refine V_rw (y := nI (pFd P n 0)) (N2.2.2 0 (by decide)) ?_
    refine V_iconst (q := 32) (v := nI 2) dX0_touchPartitions_31 rfl rfl ?_
    refine V_icmp_neN (tgt := 39) (q := 35) dX0_touchPartitions_32 rfl rfl (by omega) (by omega) (fun c5 => ?_) (fun c5 => ?_)
    · skip
      refine V_iconst (q := 40) (v := nI 0) dX0_touchPartitions_39 rfl rfl ?_
      refine V_ior (q := 41) dX0_touchPartitions_40 rfl ?_
      refine V_rw (y := bi (γ (acP P n) || false)) (bi_or (γ (acP P n)) false) ?_
      refine V_putZ (b := (γ (acP P n) || false)) (q := 44) wX0_122 K2.2.1 rfl dX0_touchPartitions_41 rfl ?_
      obtain ⟨d, hd⟩ : ∃ d, d = sI h3 (pta P (pFd P n 1) (pFd P n 2 + 0)) 3 (bi (γ (acP P n) || false)) := ⟨_, rfl⟩
      rw [← hd]
      have W5 : W4 P (fun x => φ x && rcx P (pFd P n 1) (pFd P n 2) (pFd P n 3) x) (fun x => γ x || (decide (pFd P n 0 = 2) && decide (x = acP P n))) d := by
        rw [hd]
        refine W4_set3 X.2.2 W2 (k := pFd P n 2 + 0) ra.1 (by omega) (ra.2.2.2 0 (by omega)).1 ?_ (fun y hy => ?_)
        · show (γ (acP P n) || (decide (pFd P n 0 = 2) && decide (acP P n = acP P n))) = _
          simp [c5]
        · show (γ y || (decide (pFd P n 0 = 2) && decide (y = acP P n))) = γ y
          rw [decide_eq_false (show ¬ y = acP P n from hy), Bool.and_false, Bool.or_false]
      have F5 : FAn h d := by rw [hd]; exact FAn_pt X.2.2 F2 ra.1 (by omega) (ra.2.2.2 0 (by omega)).1
      have R5 : rwk h d := by rw [hd]; exact rwk_pt R2
      refine V_iconst (q := 45) (v := nI 0) dX0_touchPartitions_44 rfl rfl ?_
      refine V_istore_n (q := 46) (L' := [(3, .int (nI 0)), (0, .ref 9), (1, .ref (U n)), (2, .int (nI n))]) dX0_touchPartitions_45 rfl rfl rfl ?_
      refine V_sub (L' := [(0, .ref 9), (1, .ref (U n)), (2, .int (nI n)), (3, .int (nI 0))]) [1, 2, 3, 0] rfl ?_
      refine lq_touch (F5.cx X) hn (φ := fun x => φ x && rcx P (pFd P n 1) (pFd P n 2) (pFd P n 3) x) (γ := fun x => γ x || (decide (pFd P n 0 = 2) && decide (x = acP P n))) (fun η A B C => ⟨rfl, F5.tr A, fun i hi => (B i hi).trans (R5 i hi), W4_eq C (fun x => by rw [prC_ac x hk, tcF_n x (by omega), Bool.and_true]) (fun _ => rfl)⟩) (fun s hs => by rw [R5 n (by omega)]; exact hp s hs) 17 0 d (by decide) (FAn.rf _) (fun _ _ => rfl) (W4_eq W5 (fun x => by rw [tcF_n x (by omega), Bool.and_true]) (fun _ => rfl)) (by decide)
    · skip
      refine V_iconst (q := 36) (v := nI 1) dX0_touchPartitions_35 rfl rfl ?_
      refine V_goto (q := 40) dX0_touchPartitions_36 rfl ?_
      refine V_ior (q := 41) dX0_touchPartitions_40 rfl ?_
      refine V_rw (y := bi (γ (acP P n) || true)) (bi_or (γ (acP P n)) true) ?_
      refine V_putZ (b := (γ (acP P n) || true)) (q := 44) wX0_122 K2.2.1 rfl dX0_touchPartitions_41 rfl ?_
      obtain ⟨d, hd⟩ : ∃ d, d = sI h3 (pta P (pFd P n 1) (pFd P n 2 + 0)) 3 (bi (γ (acP P n) || true)) := ⟨_, rfl⟩
      rw [← hd]
      have W5 : W4 P (fun x => φ x && rcx P (pFd P n 1) (pFd P n 2) (pFd P n 3) x) (fun x => γ x || (decide (pFd P n 0 = 2) && decide (x = acP P n))) d := by
        rw [hd]
        refine W4_set3 X.2.2 W2 (k := pFd P n 2 + 0) ra.1 (by omega) (ra.2.2.2 0 (by omega)).1 ?_ (fun y hy => ?_)
        · show (γ (acP P n) || (decide (pFd P n 0 = 2) && decide (acP P n = acP P n))) = _
          simp [c5]
        · show (γ y || (decide (pFd P n 0 = 2) && decide (y = acP P n))) = γ y
          rw [decide_eq_false (show ¬ y = acP P n from hy), Bool.and_false, Bool.or_false]
      have F5 : FAn h d := by rw [hd]; exact FAn_pt X.2.2 F2 ra.1 (by omega) (ra.2.2.2 0 (by omega)).1
      have R5 : rwk h d := by rw [hd]; exact rwk_pt R2
      refine V_iconst (q := 45) (v := nI 0) dX0_touchPartitions_44 rfl rfl ?_
      refine V_istore_n (q := 46) (L' := [(3, .int (nI 0)), (0, .ref 9), (1, .ref (U n)), (2, .int (nI n))]) dX0_touchPartitions_45 rfl rfl rfl ?_
      refine V_sub (L' := [(0, .ref 9), (1, .ref (U n)), (2, .int (nI n)), (3, .int (nI 0))]) [1, 2, 3, 0] rfl ?_
      refine lq_touch (F5.cx X) hn (φ := fun x => φ x && rcx P (pFd P n 1) (pFd P n 2) (pFd P n 3) x) (γ := fun x => γ x || (decide (pFd P n 0 = 2) && decide (x = acP P n))) (fun η A B C => ⟨rfl, F5.tr A, fun i hi => (B i hi).trans (R5 i hi), W4_eq C (fun x => by rw [prC_ac x hk, tcF_n x (by omega), Bool.and_true]) (fun _ => rfl)⟩) (fun s hs => by rw [R5 n (by omega)]; exact hp s hs) 17 0 d (by decide) (FAn.rf _) (fun _ _ => rfl) (W4_eq W5 (fun x => by rw [tcF_n x (by omega), Bool.and_true]) (fun _ => rfl)) (by decide)
  · skip
    obtain ⟨o1, o2, o3, o4, o5, o6, o7⟩ := ok_cp X.2.2 hn hk
    have hr1 : pFd P n 1 < 4 := by omega
    have hr2 : pFd P n 3 < 4 := by omega
    have ez := szx_lt o1
    have ez2 := szx_lt o2
    refine V_aload_n (j := 1) (q := 1) dX0_touchPartitions_0 rfl rfl ?_
    have eil : (decide (pFd P n 0 = 1) || decide (pFd P n 0 = 2)) = false := by simp [hk]
    refine V_cpV (q := 4) (S := []) (v := .int (bi false)) kX0_75 (by have := d_isLoadOrStore (g := g) N (by omega); rw [eil] at this; exact this) N.2.1 rfl rfl rfl dX0_touchPartitions_1 rfl ?_
    refine V_if_eqB (tgt := 44) (q := 7) dX0_touchPartitions_4 rfl rfl (fun _ => ?_) (fun z => absurd z (by decide))
    refine V_iconst (q := 45) (v := nI 0) dX0_touchPartitions_44 rfl rfl ?_
    refine V_istore_n (q := 46) (L' := [(3, .int (nI 0)), (0, .ref 9), (1, .ref (U n)), (2, .int (nI n))]) dX0_touchPartitions_45 rfl rfl rfl ?_
    refine V_sub (L' := [(0, .ref 9), (1, .ref (U n)), (2, .int (nI n)), (3, .int (nI 0))]) [1, 2, 3, 0] rfl ?_
    have n2 : ¬ pFd P n 0 = 2 := by omega
    have n12 : ¬ (pFd P n 0 = 1 ∨ pFd P n 0 = 2) := by omega
    refine lq_touch X hn (φ := φ) (γ := γ) (fun η A B C => ⟨rfl, A, B, W4_eq C (fun x => by rw [tcF_16 X.2.2 hn x n12]) (fun x => by rw [decide_eq_false n2, Bool.false_and, Bool.or_false])⟩) hp 17 0 h (by decide) (FAn.rf _) (fun _ _ => rfl) (W4_eq W (fun x => ?_) (fun _ => rfl)) (by decide)
    show (φ x && tcF P n 0 x) = φ x
    unfold tcF
    by_cases z : pFd P n 0 = 3
    · obtain ⟨o1, o2, o3, o4, o5, o6, o7⟩ := ok_cp X.2.2 hn z
      rw [if_pos z, if_pos (by omega)]; exact Bool.and_true _
    · rw [if_neg z, Bool.and_true]
  · skip
    refine V_aload_n (j := 1) (q := 1) dX0_touchPartitions_0 rfl rfl ?_
    have eil : (decide (pFd P n 0 = 1) || decide (pFd P n 0 = 2)) = false := by rw [decide_eq_false (by omega), decide_eq_false (by omega)]; rfl
    refine V_cpV (q := 4) (S := []) (v := .int (bi false)) kX0_75 (by have := d_isLoadOrStore (g := g) N (by omega); rw [eil] at this; exact this) N.2.1 rfl rfl rfl dX0_touchPartitions_1 rfl ?_
    refine V_if_eqB (tgt := 44) (q := 7) dX0_touchPartitions_4 rfl rfl (fun _ => ?_) (fun z => absurd z (by decide))
    refine V_iconst (q := 45) (v := nI 0) dX0_touchPartitions_44 rfl rfl ?_
    refine V_istore_n (q := 46) (L' := [(3, .int (nI 0)), (0, .ref 9), (1, .ref (U n)), (2, .int (nI n))]) dX0_touchPartitions_45 rfl rfl rfl ?_
    refine V_sub (L' := [(0, .ref 9), (1, .ref (U n)), (2, .int (nI n)), (3, .int (nI 0))]) [1, 2, 3, 0] rfl ?_
    have n2 : ¬ pFd P n 0 = 2 := by omega
    have n12 : ¬ (pFd P n 0 = 1 ∨ pFd P n 0 = 2) := by omega
    refine lq_touch X hn (φ := φ) (γ := γ) (fun η A B C => ⟨rfl, A, B, W4_eq C (fun x => by rw [tcF_16 X.2.2 hn x n12]) (fun x => by rw [decide_eq_false n2, Bool.false_and, Bool.or_false])⟩) hp 17 0 h (by decide) (FAn.rf _) (fun _ _ => rfl) (W4_eq W (fun x => ?_) (fun _ => rfl)) (by decide)
    show (φ x && tcF P n 0 x) = φ x
    unfold tcF
    by_cases z : pFd P n 0 = 3
    · obtain ⟨o1, o2, o3, o4, o5, o6, o7⟩ := ok_cp X.2.2 hn z
      rw [if_pos z, if_pos (by omega)]; exact Bool.and_true _
    · rw [if_neg z, Bool.and_true]


set_option maxHeartbeats 4000000 in
set_option maxRecDepth 100000 in
theorem lq_ref4 {g : GX} {d : AH} {P : PG} {U : Nat → Nat} (X : CX d P U) {Q : Option Value → AH → Prop} (hQ : ∀ η, FAn d η → AC P η → Q none η) : ∀ (t : Nat) (n : Nat) (e : AH), (n ≤ pNi P) → (FAn d e) → (∀ i, i < n → ∀ s, s < 16 → hI e (35 + i) s = nI (pcx P i s)) → (W4 P (pr0 P n) (lv0 P n) e) → pNi P - n < t → V g mX0_refresh (thM g 4 0 0 Q) e 0 0 [(0, .ref 9), (1, .ref 1), (2, .int (nI n))] 90 [] := by
  intro t
  induction t with
  | zero =>
    intro n e hn F R We hfu
    exact absurd hfu (Nat.not_lt_zero _)
  | succ t ih =>
    intro n e hn F R We hfu
    have hN := X.2.2.2.2.1
    have X1 := F.cx X
    have hC := X1.1
    refine V_iload_n (j := 2) (q := 91) dX0_refresh_90 rfl rfl ?_
    refine V_aload_n (j := 1) (q := 92) dX0_refresh_91 rfl rfl ?_
    refine V_getI (q := 95) fX0_41 (hC.1 1 _ s_1) rfl dX0_refresh_92 rfl ?_
    refine V_rw (y := nI (pNi P)) X1.2.1.2.1 ?_
    refine V_icmp_geN (tgt := 124) (q := 98) dX0_refresh_95 rfl rfl (by omega) (by omega) (fun c1 => ?_) (fun c1 => ?_)
    · skip
      refine V_aload_n (j := 0) (q := 125) dX0_refresh_124 rfl rfl ?_
      refine V_aload_n (j := 1) (q := 126) dX0_refresh_125 rfl rfl ?_
      have hnn : n = pNi P := by omega
      subst hnn
      refine V_callV (q := 129) (S := []) kX0_62 (d_markLive X1 We R (lv0_sd X.2.2) (lv0_bs X.2.2)) (hC.1 9 _ s_9) rfl rfl rfl dX0_refresh_126 rfl (fun r2 h3 p4 => ?_)
      obtain ⟨rfl, γ2, F5, R5, W5, s5, b5, c5⟩ := p4
      refine V_vret rfl dX0_refresh_129 rfl rfl ?_
      exact hQ _ (F.tr F5) (AC_of W5 s5 b5 c5 (fun i hi s hs => by rw [R5 i (by omega)]; exact R i hi s hs))
    · skip
      refine V_aload_n (j := 0) (q := 99) dX0_refresh_98 rfl rfl ?_
      refine V_aload_n (j := 1) (q := 100) dX0_refresh_99 rfl rfl ?_
      refine V_iload_n (j := 2) (q := 101) dX0_refresh_100 rfl rfl ?_
      refine V_cpV (q := 104) (S := [.ref 9]) (v := .ref (U n)) kX0_45 (by have := d_at (g := g) (x := nI n) X1; rw [uat_n (by omega) (by omega)] at this; exact this) (hC.1 1 _ s_1) rfl rfl rfl dX0_refresh_101 rfl ?_
      refine V_iload_n (j := 2) (q := 105) dX0_refresh_104 rfl rfl ?_
      refine V_callV (q := 108) (S := []) kX0_56 (d_cutIntoPieces X1 (n := n) (by omega) We) (hC.1 9 _ s_9) rfl rfl rfl dX0_refresh_105 rfl (fun r5 h6 p7 => ?_)
      obtain ⟨rfl, FB2, Rn⟩ := p7
      have F2 := F.tr (FB_An (by omega) FB2)
      have X2 := F2.cx X
      have W2 := FB_W4 X.2.2 (by omega) FB2 We
      refine V_aload_n (j := 0) (q := 109) dX0_refresh_108 rfl rfl ?_
      refine V_aload_n (j := 1) (q := 110) dX0_refresh_109 rfl rfl ?_
      refine V_iload_n (j := 2) (q := 111) dX0_refresh_110 rfl rfl ?_
      refine V_cpV (q := 114) (S := [.ref 9]) (v := .ref (U n)) kX0_45 (by have := d_at (g := g) (x := nI n) X2; rw [uat_n (by omega) (by omega)] at this; exact this) (X2.1.1 1 _ s_1) rfl rfl rfl dX0_refresh_111 rfl ?_
      refine V_iload_n (j := 2) (q := 115) dX0_refresh_114 rfl rfl ?_
      refine V_callV (q := 118) (S := []) kX0_59 (d_touchPartitions X2 (n := n) (by omega) W2 Rn) (X2.1.1 9 _ s_9) rfl rfl rfl dX0_refresh_115 rfl (fun r8 h9 p10 => ?_)
      obtain ⟨rfl, F3, R3, W3⟩ := p10
      refine V_iincN (j := 2) (q := 121) (L' := [(2, .int (nI (n + 1))), (0, .ref 9), (1, .ref 1)]) dX0_refresh_118 rfl rfl rfl rfl ?_
      refine V_goto (q := 90) dX0_refresh_121 rfl ?_
      refine V_sub (L' := [(0, .ref 9), (1, .ref 1), (2, .int (nI (n + 1)))]) [1, 2, 0] rfl ?_
      refine ih (n + 1) h9 ?_ ?_ ?_ ?_ ?_
      · omega
      · exact F2.tr F3
      · intro i hi s hs; rw [R3 i (by omega)]; by_cases z : i = n; (subst z; exact Rn s hs); (rw [FB2.2 _ (by omega)]; exact R i (by omega) s hs)
      · exact W4_eq W3 (fun x => pr0_s P n x) (fun x => lv0_s P n x)
      · omega

set_option maxHeartbeats 4000000 in
set_option maxRecDepth 100000 in
theorem lq_ref3 {g : GX} {d : AH} {P : PG} {U : Nat → Nat} (X : CX d P U) {Q : Option Value → AH → Prop} (hQ : ∀ η, FAn d η → AC P η → Q none η) : ∀ (t : Nat) (r : Nat) (e : AH), (r ≤ 4) → (FAn d e) → (W2 P r e) → 4 - r < t → V g mX0_refresh (thM g 4 0 0 Q) e 0 0 [(0, .ref 9), (1, .ref 1), (2, .int (nI r))] 68 [] := by
  intro t
  induction t with
  | zero =>
    intro r e hr F Wr hfu
    exact absurd hfu (Nat.not_lt_zero _)
  | succ t ih =>
    intro r e hr F Wr hfu
    have hN := X.2.2.2.2.1
    have X1 := F.cx X
    have hC := X1.1
    refine V_iload_n (j := 2) (q := 69) dX0_refresh_68 rfl rfl ?_
    refine V_iconst (q := 70) (v := nI 4) dX0_refresh_69 rfl rfl ?_
    refine V_icmp_geN (tgt := 88) (q := 73) dX0_refresh_70 rfl rfl (by omega) (by omega) (fun c1 => ?_) (fun c1 => ?_)
    · skip
      refine V_iconst (q := 89) (v := nI 0) dX0_refresh_88 rfl rfl ?_
      refine V_istore_n (q := 90) (L' := [(2, .int (nI 0)), (0, .ref 9), (1, .ref 1)]) dX0_refresh_89 rfl rfl rfl ?_
      refine V_sub (L' := [(0, .ref 9), (1, .ref 1), (2, .int (nI 0))]) [1, 2, 0] rfl ?_
      have hr4 : r = 4 := by omega
      subst hr4
      have W40 := W4_of X.2.2 (fun q hq => ⟨(Wr q hq).1, (Wr q hq).2.1 hq⟩)
      refine lq_ref4 X hQ (pNi P - 0 + 1) 0 e (Nat.zero_le _) F (fun i hi => absurd hi (Nat.not_lt_zero _)) (W4_eq W40 (fun x => ?_) (fun x => ?_)) (Nat.lt_succ_self _)
      · exact Bool.and_true _
      · exact Bool.or_false _
    · skip
      refine V_aload_n (j := 0) (q := 74) dX0_refresh_73 rfl rfl ?_
      refine V_getP (q := 77) (r := 10) fX0_11 (hC.1 9 _ s_9) rfl (hC.2.1 9 0 _ rfl) dX0_refresh_74 rfl ?_
      refine V_iload_n (j := 2) (q := 78) dX0_refresh_77 rfl rfl ?_
      refine V_aald (q := 79) (c := 14) (r := (59 + 23 * r)) (by decide) (hC.1 10 _ s_10) (by omega) (by decide) (hC.2.2.1 _ (by omega)) dX0_refresh_78 rfl ?_
      refine V_callV (q := 82) (S := []) kX0_53 (d_formPartitions (a := 59 + 23 * r) (hC.2.2.2.2.2.2 r (by omega)) (AL_r (by omega)) X.2.2 (r := r) (Wr r (by omega)).1 ((Wr r (by omega)).2.2 (Nat.le_refl r))) ((hC.2.2.2.2.2.2 r (by omega)).1 0 _ rfl) rfl rfl rfl dX0_refresh_79 rfl (fun r2 h3 p4 => ?_)
      obtain ⟨rfl, F2, L2, L32, N2⟩ := p4
      refine V_iincN (j := 2) (q := 85) (L' := [(2, .int (nI (r + 1))), (0, .ref 9), (1, .ref 1)]) dX0_refresh_82 rfl rfl rfl rfl ?_
      refine V_goto (q := 68) dX0_refresh_85 rfl ?_
      refine V_sub (L' := [(0, .ref 9), (1, .ref 1), (2, .int (nI (r + 1)))]) [1, 2, 0] rfl ?_
      refine ih (r + 1) h3 ?_ ?_ ?_ ?_
      · omega
      · exact F.tr (FAn_l (by omega) F2 N2)
      · exact W2_s X.2.2 (by omega) Wr F2 L2 L32
      · omega

set_option maxHeartbeats 4000000 in
set_option maxRecDepth 100000 in
theorem lq_ref2 {g : GX} {d : AH} {P : PG} {U : Nat → Nat} (X : CX d P U) {Q : Option Value → AH → Prop} (hQ : ∀ η, FAn d η → AC P η → Q none η) : ∀ (t : Nat) (n : Nat) (e : AH), (n ≤ pNi P) → (FAn d e) → (W1 P n e) → pNi P - n < t → V g mX0_refresh (thM g 4 0 0 Q) e 0 0 [(0, .ref 9), (1, .ref 1), (2, .int (nI n))] 42 [] := by
  intro t
  induction t with
  | zero =>
    intro n e hn F Wn hfu
    exact absurd hfu (Nat.not_lt_zero _)
  | succ t ih =>
    intro n e hn F Wn hfu
    have hN := X.2.2.2.2.1
    have X1 := F.cx X
    have hC := X1.1
    refine V_iload_n (j := 2) (q := 43) dX0_refresh_42 rfl rfl ?_
    refine V_aload_n (j := 1) (q := 44) dX0_refresh_43 rfl rfl ?_
    refine V_getI (q := 47) fX0_41 (hC.1 1 _ s_1) rfl dX0_refresh_44 rfl ?_
    refine V_rw (y := nI (pNi P)) X1.2.1.2.1 ?_
    refine V_icmp_geN (tgt := 66) (q := 50) dX0_refresh_47 rfl rfl (by omega) (by omega) (fun c1 => ?_) (fun c1 => ?_)
    · skip
      refine V_iconst (q := 67) (v := nI 0) dX0_refresh_66 rfl rfl ?_
      refine V_istore_n (q := 68) (L' := [(2, .int (nI 0)), (0, .ref 9), (1, .ref 1)]) dX0_refresh_67 rfl rfl rfl ?_
      refine V_sub (L' := [(0, .ref 9), (1, .ref 1), (2, .int (nI 0))]) [1, 2, 0] rfl ?_
      have hnn : n = pNi P := by omega
      subst hnn
      exact lq_ref3 X hQ 5 0 e (Nat.zero_le _) F (fun q hq => ⟨(Wn q hq).1, fun h => absurd h (Nat.not_lt_zero _), fun _ => (Wn q hq).2⟩) (by decide)
    · skip
      refine V_aload_n (j := 0) (q := 51) dX0_refresh_50 rfl rfl ?_
      refine V_aload_n (j := 1) (q := 52) dX0_refresh_51 rfl rfl ?_
      refine V_iload_n (j := 2) (q := 53) dX0_refresh_52 rfl rfl ?_
      refine V_cpV (q := 56) (S := [.ref 9]) (v := .ref (U n)) kX0_45 (by have := d_at (g := g) (x := nI n) X1; rw [uat_n (by omega) (by omega)] at this; exact this) (hC.1 1 _ s_1) rfl rfl rfl dX0_refresh_53 rfl ?_
      refine V_iload_n (j := 2) (q := 57) dX0_refresh_56 rfl rfl ?_
      refine V_callV (q := 60) (S := []) kX0_49 (d_collectRanges X1 (n := n) (by omega) Wn) (hC.1 9 _ s_9) rfl rfl rfl dX0_refresh_57 rfl (fun r2 h3 p4 => ?_)
      obtain ⟨rfl, F2, W2⟩ := p4
      refine V_iincN (j := 2) (q := 63) (L' := [(2, .int (nI (n + 1))), (0, .ref 9), (1, .ref 1)]) dX0_refresh_60 rfl rfl rfl rfl ?_
      refine V_goto (q := 42) dX0_refresh_63 rfl ?_
      refine V_sub (L' := [(0, .ref 9), (1, .ref 1), (2, .int (nI (n + 1)))]) [1, 2, 0] rfl ?_
      refine ih (n + 1) h3 ?_ ?_ ?_ ?_
      · omega
      · exact F.tr F2
      · exact W2
      · omega

set_option maxHeartbeats 4000000 in
set_option maxRecDepth 100000 in
theorem lq_ref1 {g : GX} {d : AH} {P : PG} {U : Nat → Nat} (X : CX d P U) {Q : Option Value → AH → Prop} (hQ : ∀ η, FAn d η → AC P η → Q none η) : ∀ (t : Nat) (r : Nat) (e : AH), (r ≤ 4) → (FAn d e) → (∀ q, q < r → L1 P q 0 e (59 + 23 * q) ∧ L3 P q 0 e (59 + 23 * q)) → 4 - r < t → V g mX0_refresh (thM g 4 0 0 Q) e 0 0 [(0, .ref 9), (1, .ref 1), (2, .int (nI r))] 15 [] := by
  intro t
  induction t with
  | zero =>
    intro r e hr F Wr hfu
    exact absurd hfu (Nat.not_lt_zero _)
  | succ t ih =>
    intro r e hr F Wr hfu
    have hN := X.2.2.2.2.1
    have X1 := F.cx X
    have hC := X1.1
    refine V_iload_n (j := 2) (q := 16) dX0_refresh_15 rfl rfl ?_
    refine V_iconst (q := 17) (v := nI 4) dX0_refresh_16 rfl rfl ?_
    refine V_icmp_geN (tgt := 40) (q := 20) dX0_refresh_17 rfl rfl (by omega) (by omega) (fun c1 => ?_) (fun c1 => ?_)
    · skip
      refine V_iconst (q := 41) (v := nI 0) dX0_refresh_40 rfl rfl ?_
      refine V_istore_n (q := 42) (L' := [(2, .int (nI 0)), (0, .ref 9), (1, .ref 1)]) dX0_refresh_41 rfl rfl rfl ?_
      refine V_sub (L' := [(0, .ref 9), (1, .ref 1), (2, .int (nI 0))]) [1, 2, 0] rfl ?_
      exact lq_ref2 X hQ (pNi P - 0 + 1) 0 e (Nat.zero_le _) F (fun q hq => Wr q (by omega)) (Nat.lt_succ_self _)
    · skip
      refine V_aload_n (j := 0) (q := 21) dX0_refresh_20 rfl rfl ?_
      refine V_getP (q := 24) (r := 10) fX0_11 (hC.1 9 _ s_9) rfl (hC.2.1 9 0 _ rfl) dX0_refresh_21 rfl ?_
      refine V_iload_n (j := 2) (q := 25) dX0_refresh_24 rfl rfl ?_
      refine V_aald (q := 26) (c := 14) (r := (59 + 23 * r)) (by decide) (hC.1 10 _ s_10) (by omega) (by decide) (hC.2.2.1 _ (by omega)) dX0_refresh_25 rfl ?_
      refine V_aload_n (j := 1) (q := 27) dX0_refresh_26 rfl rfl ?_
      refine V_iload_n (j := 2) (q := 28) dX0_refresh_27 rfl rfl ?_
      refine V_cpV (q := 31) (S := [.ref (59 + 23 * r)]) (v := .int (nI (szx P r))) kX0_31 (by have := d_sizeOf (g := g) (x := nI r) X1; rw [szR_n X1.2.2 r (by omega)] at this; exact this) (hC.1 1 _ s_1) rfl rfl rfl dX0_refresh_28 rfl ?_
      refine V_callV (q := 34) (S := []) kX0_37 (d_clear (a := 59 + 23 * r) (hC.2.2.2.2.2.2 r (by omega)) (AL_r (by omega)) (szx_le X.2.2 r)) ((hC.2.2.2.2.2.2 r (by omega)).1 0 _ rfl) rfl rfl rfl dX0_refresh_31 rfl (fun r2 h3 p4 => ?_)
      obtain ⟨rfl, F2, N2, e6, e7, e8, ea⟩ := p4
      refine V_iincN (j := 2) (q := 37) (L' := [(2, .int (nI (r + 1))), (0, .ref 9), (1, .ref 1)]) dX0_refresh_34 rfl rfl rfl rfl ?_
      refine V_goto (q := 15) dX0_refresh_37 rfl ?_
      refine V_sub (L' := [(0, .ref 9), (1, .ref 1), (2, .int (nI (r + 1)))]) [1, 2, 0] rfl ?_
      refine ih (r + 1) h3 ?_ ?_ ?_ ?_
      · omega
      · exact F.tr (FAn_l (by omega) F2 (N2 _ (by omega) (by omega) (by omega)))
      · intro q hq; by_cases z : q = r; (subst z; exact L13_0 e6 e7 e8 ea); exact ⟨L1_nx F2 z (Wr q (by omega)).1, L3_nx F2 z (Nat.zero_le _) (Wr q (by omega)).2⟩
      · omega

/-- what refresh may change -/
def FRs (h η : AH) : Prop := Fm 9 151 h η ∧ (∀ r, r < 4 → hI η (61 + 23 * r) = hI h (61 + 23 * r)) ∧ ∀ b, 9 < b → b < 35 → hI η b = hI h b
theorem FRs.rf (h : AH) : FRs h h := ⟨Fm.rf _ _ _, fun _ _ => rfl, fun _ _ _ => rfl⟩
theorem FRs_of {h η : AH} {v : Int32} (F : FAn (sI h 9 3 v) η) : FRs h η := by
  have A : Fm 9 151 h (sI h 9 3 v) := (Fm.rf 9 151 h).setI (by decide)
  refine ⟨A.tr (F.1.wd (by decide) (by decide)), fun r hr => ?_, fun b h1 h2 => ?_⟩
  · rw [F.2 r hr, hI_n (by omega)]
  · rw [(F.1.2.1 b (by omega)).1, hI_n (by omega)]
theorem FRs.cx {h0 h1 : AH} {P : PG} {U : Nat → Nat} (A : FRs h0 h1) (X : CX h0 P U) : CX h1 P U := A.1.cx X (by decide) (by decide)
set_option maxHeartbeats 4000000 in
set_option maxRecDepth 100000 in
theorem d_refresh {g : GX} {h : AH} {P : PG} {U : Nat → Nat} (X : CX h P U) {st : Bool} (hst : hI h 9 3 = bi st) (hac : st = false → AC P h) : Ct g mX0_refresh 4 0 0 [.ref 9, .ref 1] h (fun ρ η => ρ = none ∧ FRs h η ∧ hI η 9 3 = bi false ∧ AC P η) := by
  refine Ct_intro (by decide +kernel) (Nat.le_of_ble_eq_true rfl) ?_
  show V g mX0_refresh _ h 0 0 [(0, .ref 9), (1, .ref 1)] 0 []
  refine V_aload_n (j := 0) (q := 1) dX0_refresh_0 rfl rfl ?_
  refine V_getI (q := 4) fX0_27 (X.1.1 9 _ s_9) rfl dX0_refresh_1 rfl ?_
  refine V_rw (y := bi st) hst ?_
  refine V_if_neB (tgt := 8) (q := 7) dX0_refresh_4 rfl rfl (fun c1 => ?_) (fun c1 => ?_)
  · skip
    refine V_aload_n (j := 0) (q := 9) dX0_refresh_8 rfl rfl ?_
    refine V_iconst (q := 10) (v := nI 0) dX0_refresh_9 rfl rfl ?_
    refine V_rw (y := bi false) rfl ?_
    refine V_putZ (b := false) (q := 13) wX0_27 (X.1.1 9 _ s_9) rfl dX0_refresh_10 rfl ?_
    refine V_iconst (q := 14) (v := nI 0) dX0_refresh_13 rfl rfl ?_
    refine V_istore_n (q := 15) (L' := [(2, .int (nI 0)), (0, .ref 9), (1, .ref 1)]) dX0_refresh_14 rfl rfl rfl ?_
    refine V_sub (L' := [(0, .ref 9), (1, .ref 1), (2, .int (nI 0))]) [1, 2, 0] rfl ?_
    exact lq_ref1 (((Fm.rf 9 10 h).setI (by decide)).cx X (by decide) (by decide)) (fun η F A => ⟨rfl, FRs_of F, by rw [(F.1.2.1 9 (by decide)).1, hI_s, if_pos ⟨rfl, rfl⟩], A⟩) 5 0 _ (Nat.zero_le _) (FAn.rf _) (fun q hq => absurd hq (Nat.not_lt_zero _)) (by decide)
  · skip
    refine V_vret rfl dX0_refresh_7 rfl rfl ?_
    exact ⟨rfl, FRs.rf h, by rw [hst, c1], hac c1⟩


theorem bgn_dec {P : PG} {r k : Nat} (hp : ptd P r k = true) (hk : k < pSz P r) : decide (bgp P r (pof P r k) = k) = bgn P r k := by
  rw [Bool.eq_iff_iff, decide_eq_true_eq]; exact bgn_pof hp hk
theorem i_dec {q : Nat} (h : q < 2 ^ 31) : (nI q + Int32.ofInt (-1)).toInt = (q : Int) - 1 := by
  have e : (Int32.ofInt (-1)).toInt = -1 := by decide
  have e2 := i_n h
  rw [i_add, e, e2]
  · omega
  · rw [e, e2]; omega
set_option maxHeartbeats 4000000 in
set_option maxRecDepth 100000 in
theorem d_targetA {g : GX} {h : AH} {P : PG} {U : Nat → Nat} (X : CX h P U) {n : Nat} (hn : n < pNi P) {φ γ : Nat → Bool} (W : W4 P φ γ h) (hk : pFd P n 0 = 1 ∨ pFd P n 0 = 2) {s : Nat} (hs : s < pFd P n 3) : Ct g mX0_target 1 0 0 [.ref 9, .ref (U n), .int (nI s)] h (fun ρ η => ρ = some (.ref (pta P (pFd P n 1) (pFd P n 2 + s))) ∧ η = h) := by
  refine Ct_intro (by decide +kernel) (Nat.le_of_ble_eq_true rfl) ?_
  show V g mX0_target _ h 0 0 [(0, .ref 9), (1, .ref (U n)), (2, .int (nI s))] 0 []
  have hN := X.2.2.2.2.1
  have hR := X.2.2.1
  have hk8 := ok_kd X.2.2 hn
  have N := (X.2.1.2.2.2.1 n (by omega)).2
  rw [xfd_lt hn] at N
  obtain ⟨o1, o2, o3, o4, o5, o6⟩ := ok_ac X.2.2 hn (by simp [isAc, hk])
  have hr1 : pFd P n 1 < 4 := by omega
  have ez := szx_lt o1
  have K := pta_f X.2.2 X.1 W (r := pFd P n 1) (k := pFd P n 2 + s) o1 (by omega) (ptd_a hn (by simp [isAc, hk]) hs rfl)
  refine V_aload_n (j := 0) (q := 1) dX0_target_0 rfl rfl ?_
  refine V_aload_n (j := 1) (q := 2) dX0_target_1 rfl rfl ?_
  refine V_getI (q := 5) fX0_66 N.2.1 rfl dX0_target_2 rfl ?_
  refine V_rw (y := nI (pFd P n 1)) ((N.2.2 2 (by decide)).trans (congrArg nI ((if_ac hk).2.1))) ?_
  refine V_cpV (q := 8) (S := []) (v := .ref (59 + 23 * (pFd P n 1))) kX0_71 (by have := d_layoutOf (g := g) (h := h) (x := nI (pFd P n 1)) X.1; rw [lay_n (by omega)] at this; exact this) (X.1.1 9 _ s_9) rfl rfl rfl dX0_target_5 rfl ?_
  refine V_aload_n (j := 1) (q := 9) dX0_target_8 rfl rfl ?_
  refine V_getI (q := 12) fX0_79 N.2.1 rfl dX0_target_9 rfl ?_
  refine V_rw (y := nI (pFd P n 2)) ((N.2.2 3 (by decide)).trans (congrArg nI ((if_ac hk).2.2.1))) ?_
  refine V_iload_n (j := 2) (q := 13) dX0_target_12 rfl rfl ?_
  refine V_iaddN (q := 14) dX0_target_13 rfl ?_
  refine V_cpV (q := 17) (S := []) (v := .ref (pta P (pFd P n 1) (pFd P n 2 + s))) kX0_131 (d_holding (X.1.2.2.2.2.2.2 _ hr1) (by omega) K.1) ((X.1.2.2.2.2.2.2 _ hr1).1 0 _ rfl) rfl rfl rfl dX0_target_14 rfl ?_
  refine V_aret rfl dX0_target_17 rfl rfl ?_
  exact ⟨rfl, rfl⟩

set_option maxHeartbeats 4000000 in
set_option maxRecDepth 100000 in
theorem d_targetC {g : GX} {h : AH} {P : PG} {U : Nat → Nat} (X : CX h P U) {n : Nat} (hn : n < pNi P) {φ γ : Nat → Bool} (W : W4 P φ γ h) (hk : pFd P n 0 = 3) {s : Nat} (hs : s < pFd P n 5) : Ct g mX0_target 1 0 0 [.ref 9, .ref (U n), .int (nI s)] h (fun ρ η => ρ = some (.ref (pta P (pFd P n 1) (pFd P n 2 + s))) ∧ η = h) := by
  refine Ct_intro (by decide +kernel) (Nat.le_of_ble_eq_true rfl) ?_
  show V g mX0_target _ h 0 0 [(0, .ref 9), (1, .ref (U n)), (2, .int (nI s))] 0 []
  have hN := X.2.2.2.2.1
  have hR := X.2.2.1
  have hk8 := ok_kd X.2.2 hn
  have N := (X.2.1.2.2.2.1 n (by omega)).2
  rw [xfd_lt hn] at N
  obtain ⟨o1, o2, o3, o4, o5, o6, o7⟩ := ok_cp X.2.2 hn hk
  have hr1 : pFd P n 1 < 4 := by omega
  have hr2 : pFd P n 3 < 4 := by omega
  have ez := szx_lt o1
  have ez2 := szx_lt o2
  have K := pta_f X.2.2 X.1 W (r := pFd P n 1) (k := pFd P n 2 + s) o1 (by omega) (ptd_d hn hk hs rfl)
  refine V_aload_n (j := 0) (q := 1) dX0_target_0 rfl rfl ?_
  refine V_aload_n (j := 1) (q := 2) dX0_target_1 rfl rfl ?_
  refine V_getI (q := 5) fX0_66 N.2.1 rfl dX0_target_2 rfl ?_
  refine V_rw (y := nI (pFd P n 1)) ((N.2.2 2 (by decide)).trans (congrArg nI ((if_cp hk).1))) ?_
  refine V_cpV (q := 8) (S := []) (v := .ref (59 + 23 * (pFd P n 1))) kX0_71 (by have := d_layoutOf (g := g) (h := h) (x := nI (pFd P n 1)) X.1; rw [lay_n (by omega)] at this; exact this) (X.1.1 9 _ s_9) rfl rfl rfl dX0_target_5 rfl ?_
  refine V_aload_n (j := 1) (q := 9) dX0_target_8 rfl rfl ?_
  refine V_getI (q := 12) fX0_79 N.2.1 rfl dX0_target_9 rfl ?_
  refine V_rw (y := nI (pFd P n 2)) ((N.2.2 3 (by decide)).trans (congrArg nI ((if_cp hk).2.1))) ?_
  refine V_iload_n (j := 2) (q := 13) dX0_target_12 rfl rfl ?_
  refine V_iaddN (q := 14) dX0_target_13 rfl ?_
  refine V_cpV (q := 17) (S := []) (v := .ref (pta P (pFd P n 1) (pFd P n 2 + s))) kX0_131 (d_holding (X.1.2.2.2.2.2.2 _ hr1) (by omega) K.1) ((X.1.2.2.2.2.2.2 _ hr1).1 0 _ rfl) rfl rfl rfl dX0_target_14 rfl ?_
  refine V_aret rfl dX0_target_17 rfl rfl ?_
  exact ⟨rfl, rfl⟩

set_option maxHeartbeats 4000000 in
set_option maxRecDepth 100000 in
theorem d_origin {g : GX} {h : AH} {P : PG} {U : Nat → Nat} (X : CX h P U) {n : Nat} (hn : n < pNi P) {φ γ : Nat → Bool} (W : W4 P φ γ h) (hk : pFd P n 0 = 3) {s : Nat} (hs : s < pFd P n 5) : Ct g mX0_origin 1 0 0 [.ref 9, .ref (U n), .int (nI s)] h (fun ρ η => ρ = some (.ref (pta P (pFd P n 3) (pFd P n 4 + s))) ∧ η = h) := by
  refine Ct_intro (by decide +kernel) (Nat.le_of_ble_eq_true rfl) ?_
  show V g mX0_origin _ h 0 0 [(0, .ref 9), (1, .ref (U n)), (2, .int (nI s))] 0 []
  have hN := X.2.2.2.2.1
  have hR := X.2.2.1
  have hk8 := ok_kd X.2.2 hn
  have N := (X.2.1.2.2.2.1 n (by omega)).2
  rw [xfd_lt hn] at N
  obtain ⟨o1, o2, o3, o4, o5, o6, o7⟩ := ok_cp X.2.2 hn hk
  have hr1 : pFd P n 1 < 4 := by omega
  have hr2 : pFd P n 3 < 4 := by omega
  have ez := szx_lt o1
  have ez2 := szx_lt o2
  have K := pta_f X.2.2 X.1 W (r := pFd P n 3) (k := pFd P n 4 + s) o2 (by omega) (ptd_s hn hk hs rfl)
  refine V_aload_n (j := 0) (q := 1) dX0_origin_0 rfl rfl ?_
  refine V_aload_n (j := 1) (q := 2) dX0_origin_1 rfl rfl ?_
  refine V_getI (q := 5) fX0_99 N.2.1 rfl dX0_origin_2 rfl ?_
  refine V_rw (y := nI (pFd P n 3)) ((N.2.2 5 (by decide)).trans (congrArg nI ((if_cp hk).2.2.2.1))) ?_
  refine V_cpV (q := 8) (S := []) (v := .ref (59 + 23 * (pFd P n 3))) kX0_71 (by have := d_layoutOf (g := g) (h := h) (x := nI (pFd P n 3)) X.1; rw [lay_n (by omega)] at this; exact this) (X.1.1 9 _ s_9) rfl rfl rfl dX0_origin_5 rfl ?_
  refine V_aload_n (j := 1) (q := 9) dX0_origin_8 rfl rfl ?_
  refine V_getI (q := 12) fX0_102 N.2.1 rfl dX0_origin_9 rfl ?_
  refine V_rw (y := nI (pFd P n 4)) ((N.2.2 6 (by decide)).trans (congrArg nI ((if_cp hk).2.2.2.2))) ?_
  refine V_iload_n (j := 2) (q := 13) dX0_origin_12 rfl rfl ?_
  refine V_iaddN (q := 14) dX0_origin_13 rfl ?_
  refine V_cpV (q := 17) (S := []) (v := .ref (pta P (pFd P n 3) (pFd P n 4 + s))) kX0_131 (d_holding (X.1.2.2.2.2.2.2 _ hr2) (by omega) K.1) ((X.1.2.2.2.2.2.2 _ hr2).1 0 _ rfl) rfl rfl rfl dX0_origin_14 rfl ?_
  refine V_aret rfl dX0_origin_17 rfl rfl ?_
  exact ⟨rfl, rfl⟩

set_option maxHeartbeats 4000000 in
set_option maxRecDepth 100000 in
theorem d_beginsPiece {g : GX} {h : AH} {P : PG} {U : Nat → Nat} (X : CX h P U) {n : Nat} (hn : n < pNi P) {φ γ : Nat → Bool} (W : W4 P φ γ h) (hk : pFd P n 0 = 3) {s : Nat} (hs : s < pFd P n 5) : Ct g mX0_beginsPiece 2 0 0 [.ref 9, .ref (U n), .int (nI s)] h (fun ρ η => ρ = some (.int (bi (pst P n s))) ∧ η = h) := by
  refine Ct_intro (by decide +kernel) (Nat.le_of_ble_eq_true rfl) ?_
  show V g mX0_beginsPiece _ h 0 0 [(0, .ref 9), (1, .ref (U n)), (2, .int (nI s))] 0 []
  have hN := X.2.2.2.2.1
  have hR := X.2.2.1
  have hk8 := ok_kd X.2.2 hn
  have N := (X.2.1.2.2.2.1 n (by omega)).2
  rw [xfd_lt hn] at N
  obtain ⟨o1, o2, o3, o4, o5, o6, o7⟩ := ok_cp X.2.2 hn hk
  have hr1 : pFd P n 1 < 4 := by omega
  have hr2 : pFd P n 3 < 4 := by omega
  have ez := szx_lt o1
  have ez2 := szx_lt o2
  have K1 := pta_f X.2.2 X.1 W (r := pFd P n 1) (k := pFd P n 2 + s) o1 (by omega) (ptd_d hn hk hs rfl)
  have K2 := pta_f X.2.2 X.1 W (r := pFd P n 3) (k := pFd P n 4 + s) o2 (by omega) (ptd_s hn hk hs rfl)
  have K17 := K1.2.2.2.2.2.2
  have K27 := K2.2.2.2.2.2.2
  refine V_iload_n (j := 2) (q := 1) dX0_beginsPiece_0 rfl rfl ?_
  refine V_if_eqN (tgt := 44) (q := 4) dX0_beginsPiece_1 rfl rfl (by omega) (fun c1 => ?_) (fun c1 => ?_)
  · skip
    refine V_iconst (q := 45) (v := nI 1) dX0_beginsPiece_44 rfl rfl ?_
    refine V_goto (q := 49) dX0_beginsPiece_45 rfl ?_
    refine V_rw (y := bi true) rfl ?_
    refine V_zret (b := true) rfl dX0_beginsPiece_49 rfl rfl ?_
    exact ⟨pvb (by simp [pst, pcut, c1]; try omega), rfl⟩
  · skip
    refine V_aload_n (j := 0) (q := 5) dX0_beginsPiece_4 rfl rfl ?_
    refine V_aload_n (j := 1) (q := 6) dX0_beginsPiece_5 rfl rfl ?_
    refine V_getI (q := 9) fX0_66 N.2.1 rfl dX0_beginsPiece_6 rfl ?_
    refine V_rw (y := nI (pFd P n 1)) ((N.2.2 2 (by decide)).trans (congrArg nI ((if_cp hk).1))) ?_
    refine V_cpV (q := 12) (S := []) (v := .ref (59 + 23 * (pFd P n 1))) kX0_71 (by have := d_layoutOf (g := g) (h := h) (x := nI (pFd P n 1)) X.1; rw [lay_n (by omega)] at this; exact this) (X.1.1 9 _ s_9) rfl rfl rfl dX0_beginsPiece_9 rfl ?_
    refine V_aload_n (j := 1) (q := 13) dX0_beginsPiece_12 rfl rfl ?_
    refine V_getI (q := 16) fX0_79 N.2.1 rfl dX0_beginsPiece_13 rfl ?_
    refine V_rw (y := nI (pFd P n 2)) ((N.2.2 3 (by decide)).trans (congrArg nI ((if_cp hk).2.1))) ?_
    refine V_iload_n (j := 2) (q := 17) dX0_beginsPiece_16 rfl rfl ?_
    refine V_iaddN (q := 18) dX0_beginsPiece_17 rfl ?_
    refine V_cpV (q := 21) (S := []) (v := .int (bi (bgn P (pFd P n 1) (pFd P n 2 + s)))) kX0_109 (by have := d_isStart (g := g) (X.1.2.2.2.2.2.2 _ hr1) (k := pFd P n 2 + s) (by omega) K1.1 K1.2.1 K1.2.2.1.2.1 K1.2.2.1.1 K1.2.2.2.2.2.1 K1.2.2.2.2.1 (by omega); rw [bgn_dec (ptd_d hn hk hs rfl) (by omega)] at this; exact this) ((X.1.2.2.2.2.2.2 _ hr1).1 0 _ rfl) rfl rfl rfl dX0_beginsPiece_18 rfl ?_
    refine V_if_neB (tgt := 44) (q := 24) dX0_beginsPiece_21 rfl rfl (fun c2 => ?_) (fun c2 => ?_)
    · skip
      refine V_iconst (q := 45) (v := nI 1) dX0_beginsPiece_44 rfl rfl ?_
      refine V_goto (q := 49) dX0_beginsPiece_45 rfl ?_
      refine V_rw (y := bi true) rfl ?_
      refine V_zret (b := true) rfl dX0_beginsPiece_49 rfl rfl ?_
      exact ⟨pvb (by simp [pst, pcut, c1, c2]; try omega), rfl⟩
    · skip
      refine V_aload_n (j := 0) (q := 25) dX0_beginsPiece_24 rfl rfl ?_
      refine V_aload_n (j := 1) (q := 26) dX0_beginsPiece_25 rfl rfl ?_
      refine V_getI (q := 29) fX0_99 N.2.1 rfl dX0_beginsPiece_26 rfl ?_
      refine V_rw (y := nI (pFd P n 3)) ((N.2.2 5 (by decide)).trans (congrArg nI ((if_cp hk).2.2.2.1))) ?_
      refine V_cpV (q := 32) (S := []) (v := .ref (59 + 23 * (pFd P n 3))) kX0_71 (by have := d_layoutOf (g := g) (h := h) (x := nI (pFd P n 3)) X.1; rw [lay_n (by omega)] at this; exact this) (X.1.1 9 _ s_9) rfl rfl rfl dX0_beginsPiece_29 rfl ?_
      refine V_aload_n (j := 1) (q := 33) dX0_beginsPiece_32 rfl rfl ?_
      refine V_getI (q := 36) fX0_102 N.2.1 rfl dX0_beginsPiece_33 rfl ?_
      refine V_rw (y := nI (pFd P n 4)) ((N.2.2 6 (by decide)).trans (congrArg nI ((if_cp hk).2.2.2.2))) ?_
      refine V_iload_n (j := 2) (q := 37) dX0_beginsPiece_36 rfl rfl ?_
      refine V_iaddN (q := 38) dX0_beginsPiece_37 rfl ?_
      refine V_cpV (q := 41) (S := []) (v := .int (bi (bgn P (pFd P n 3) (pFd P n 4 + s)))) kX0_109 (by have := d_isStart (g := g) (X.1.2.2.2.2.2.2 _ hr2) (k := pFd P n 4 + s) (by omega) K2.1 K2.2.1 K2.2.2.1.2.1 K2.2.2.1.1 K2.2.2.2.2.2.1 K2.2.2.2.2.1 (by omega); rw [bgn_dec (ptd_s hn hk hs rfl) (by omega)] at this; exact this) ((X.1.2.2.2.2.2.2 _ hr2).1 0 _ rfl) rfl rfl rfl dX0_beginsPiece_38 rfl ?_
      refine V_if_eqB (tgt := 48) (q := 44) dX0_beginsPiece_41 rfl rfl (fun c3 => ?_) (fun c3 => ?_)
      · skip
        refine V_iconst (q := 49) (v := nI 0) dX0_beginsPiece_48 rfl rfl ?_
        refine V_rw (y := bi false) rfl ?_
        refine V_zret (b := false) rfl dX0_beginsPiece_49 rfl rfl ?_
        exact ⟨pvb (by simp [pst, pcut, c1, c2, c3]; try omega), rfl⟩
      · skip
        refine V_iconst (q := 45) (v := nI 1) dX0_beginsPiece_44 rfl rfl ?_
        refine V_goto (q := 49) dX0_beginsPiece_45 rfl ?_
        refine V_rw (y := bi true) rfl ?_
        refine V_zret (b := true) rfl dX0_beginsPiece_49 rfl rfl ?_
        exact ⟨pvb (by simp [pst, pcut, c1, c2, c3]; try omega), rfl⟩

set_option maxHeartbeats 4000000 in
set_option maxRecDepth 100000 in
theorem lq_cut {g : GX} {h : AH} {P : PG} {U : Nat → Nat} (X : CX h P U) {n : Nat} (hn : n < pNi P) {φ γ : Nat → Bool} (W : W4 P φ γ h) : ∀ (t : Nat) (s : Nat) (x : Int32) (E : Nat) (e : AH), (s ≤ 16) → (x.toInt = (s : Int) - 1) → (FB h e (35 + n)) → (∀ j, s ≤ j → j < 16 → hI e (35 + n) j = nI (pcx P n j)) → ((pFd P n 0 = 3 ∧ EI P n s E) ∨ (¬ pFd P n 0 = 3 ∧ E = 0)) → s < t → V g mX0_cutIntoPieces (thM g 3 0 0 (fun ρ η => ρ = none ∧ FB h η (35 + n) ∧ ∀ s, s < 16 → hI η (35 + n) s = nI (pcx P n s))) e 0 0 [(0, .ref 9), (1, .ref (U n)), (2, .int (nI n)), (3, .int (nI E)), (4, .int x)] 21 [] := by
  intro t
  induction t with
  | zero =>
    intro s x E e hs hx F R hE hfu
    exact absurd hfu (Nat.not_lt_zero _)
  | succ t ih =>
    intro s x E e hs hx F R hE hfu
    have hN := X.2.2.2.2.1
    have hC := (FB_An (n := n) (by omega) F).1.cs X.1
    have hE16 : E ≤ 16 := by
      rcases hE with z | z
      · have a := z.2.1
        have b := (ok_cp X.2.2 hn z.1).2.2.2.1
        have c := (ok_cp X.2.2 hn z.1).2.2.2.2.2.1
        omega
      · omega
    refine V_iload (j := 4) (q := 23) dX0_cutIntoPieces_21 rfl rfl ?_
    refine V_if_lt (tgt := 74) (q := 26) dX0_cutIntoPieces_23 rfl rfl (fun c1 => ?_) (fun c1 => ?_)
    · skip
      simp only [i_lt, i_0] at c1
      refine V_vret rfl dX0_cutIntoPieces_74 rfl rfl ?_
      exact ⟨rfl, F, fun j hj => R j (by omega) hj⟩
    · skip
      simp only [i_lt, i_0] at c1
      obtain ⟨q, hq, rfl⟩ := i_of (x := x) (n := 16) (by omega) (by omega)
      have hsq : s = q + 1 := by rw [i_n (by omega)] at hx; omega
      subst hsq
      have F1 : FB h (sI e (35 + n) q (nI 0)) (35 + n) := F.set
      refine V_aload_n (j := 0) (q := 27) dX0_cutIntoPieces_26 rfl rfl ?_
      refine V_getP (q := 30) (r := 34) fX0_24 (hC.1 9 _ s_9) rfl (hC.2.1 9 2 _ rfl) dX0_cutIntoPieces_27 rfl ?_
      refine V_iload_n (j := 2) (q := 31) dX0_cutIntoPieces_30 rfl rfl ?_
      refine V_aald (q := 32) (c := 15) (r := (35 + n)) (by decide) (hC.1 34 _ s_34) (by omega) (by decide) (hC.2.2.2.1 _ (by omega)) dX0_cutIntoPieces_31 rfl ?_
      refine V_iload (j := 4) (q := 34) dX0_cutIntoPieces_32 rfl rfl ?_
      refine V_iconst (q := 35) (v := nI 0) dX0_cutIntoPieces_34 rfl rfl ?_
      refine V_iast (q := 36) (hC.1 _ _ (s_row _ (by omega))) (by omega) (by decide) dX0_cutIntoPieces_35 rfl ?_
      refine V_iload (j := 4) (q := 38) dX0_cutIntoPieces_36 rfl rfl ?_
      refine V_iload_n (j := 3) (q := 39) dX0_cutIntoPieces_38 rfl rfl ?_
      refine V_icmp_geN (tgt := 68) (q := 42) dX0_cutIntoPieces_39 rfl rfl (by omega) (by omega) (fun c2 => ?_) (fun c2 => ?_)
      · skip
        have pq : pcx P n q = 0 := by
          unfold pcx
          rw [if_neg]
          rintro ⟨z1, z2, z3⟩
          rcases hE with z | z
          · have := (EI_out z.2 c2).2; omega
          · exact z.1 z1
        have hE2 : (pFd P n 0 = 3 ∧ EI P n q E) ∨ (¬ pFd P n 0 = 3 ∧ E = 0) := by
          rcases hE with z | z
          · exact Or.inl ⟨z.1, (EI_out z.2 c2).1⟩
          · exact Or.inr z
        refine V_iinc (j := 4) (q := 71) (v := nI q + Int32.ofInt (-1)) (L' := [(4, .int (nI q + Int32.ofInt (-1))), (0, .ref 9), (1, .ref (U n)), (2, .int (nI n)), (3, .int (nI E))]) dX0_cutIntoPieces_68 rfl rfl rfl rfl rfl ?_
        refine V_goto (q := 21) dX0_cutIntoPieces_71 rfl ?_
        refine V_sub (L' := [(0, .ref 9), (1, .ref (U n)), (2, .int (nI n)), (3, .int (nI E)), (4, .int (nI q + Int32.ofInt (-1)))]) [1, 2, 3, 4, 0] rfl ?_
        refine ih q (nI q + Int32.ofInt (-1)) E (sI e (35 + n) q (nI 0)) ?_ ?_ ?_ ?_ ?_ ?_
        · omega
        · exact i_dec (by omega)
        · exact F1
        · intro j hj hj16; rw [hI_s]; by_cases y : j = q; (rw [if_pos ⟨rfl, y⟩, y, pq]); (rw [if_neg (fun w => y w.2)]; exact R j (by omega) hj16)
        · exact hE2
        · omega
      · skip
        have hk : pFd P n 0 = 3 := by rcases hE with z | z; exact z.1; omega
        have hE1 : EI P n (q + 1) E := by rcases hE with z | z; exact z.2; omega
        have hEf := hE1.1
        have hf5 := (ok_cp X.2.2 hn hk).2.2.2.1
        have hf6 := (ok_cp X.2.2 hn hk).2.2.2.2.2.1
        refine V_aload_n (j := 0) (q := 43) dX0_cutIntoPieces_42 rfl rfl ?_
        refine V_aload_n (j := 1) (q := 44) dX0_cutIntoPieces_43 rfl rfl ?_
        refine V_iload (j := 4) (q := 46) dX0_cutIntoPieces_44 rfl rfl ?_
        refine V_cpV (q := 49) (S := []) (v := .int (bi (pst P n q))) kX0_105 (d_beginsPiece ((FB_An (by omega) F1).cx X) hn (FB_W4 X.2.2 (by omega) F1 W) hk (by omega)) (hC.1 9 _ s_9) rfl rfl rfl dX0_cutIntoPieces_46 rfl ?_
        refine V_if_eqB (tgt := 68) (q := 52) dX0_cutIntoPieces_49 rfl rfl (fun c3 => ?_) (fun c3 => ?_)
        · skip
          have pq : pcx P n q = 0 := by
            unfold pcx
            rw [if_neg]
            rintro ⟨z1, z2, z3⟩
            exact absurd (c3.symm.trans z3) (by decide)
          have hE2 : (pFd P n 0 = 3 ∧ EI P n q E) ∨ (¬ pFd P n 0 = 3 ∧ E = 0) := Or.inl ⟨hk, EI_no hE1 (by omega) c3⟩
          refine V_iinc (j := 4) (q := 71) (v := nI q + Int32.ofInt (-1)) (L' := [(4, .int (nI q + Int32.ofInt (-1))), (0, .ref 9), (1, .ref (U n)), (2, .int (nI n)), (3, .int (nI E))]) dX0_cutIntoPieces_68 rfl rfl rfl rfl rfl ?_
          refine V_goto (q := 21) dX0_cutIntoPieces_71 rfl ?_
          refine V_sub (L' := [(0, .ref 9), (1, .ref (U n)), (2, .int (nI n)), (3, .int (nI E)), (4, .int (nI q + Int32.ofInt (-1)))]) [1, 2, 3, 4, 0] rfl ?_
          refine ih q (nI q + Int32.ofInt (-1)) E (sI e (35 + n) q (nI 0)) ?_ ?_ ?_ ?_ ?_ ?_
          · omega
          · exact i_dec (by omega)
          · exact F1
          · intro j hj hj16; rw [hI_s]; by_cases y : j = q; (rw [if_pos ⟨rfl, y⟩, y, pq]); (rw [if_neg (fun w => y w.2)]; exact R j (by omega) hj16)
          · exact hE2
          · omega
        · skip
          refine V_aload_n (j := 0) (q := 53) dX0_cutIntoPieces_52 rfl rfl ?_
          refine V_getP (q := 56) (r := 34) fX0_24 (hC.1 9 _ s_9) rfl (hC.2.1 9 2 _ rfl) dX0_cutIntoPieces_53 rfl ?_
          refine V_iload_n (j := 2) (q := 57) dX0_cutIntoPieces_56 rfl rfl ?_
          refine V_aald (q := 58) (c := 15) (r := (35 + n)) (by decide) (hC.1 34 _ s_34) (by omega) (by decide) (hC.2.2.2.1 _ (by omega)) dX0_cutIntoPieces_57 rfl ?_
          refine V_iload (j := 4) (q := 60) dX0_cutIntoPieces_58 rfl rfl ?_
          refine V_iload_n (j := 3) (q := 61) dX0_cutIntoPieces_60 rfl rfl ?_
          refine V_iload (j := 4) (q := 63) dX0_cutIntoPieces_61 rfl rfl ?_
          refine V_isubN (q := 64) dX0_cutIntoPieces_63 rfl (by omega) ?_
          refine V_iast (q := 65) (hC.1 _ _ (s_row _ (by omega))) (by omega) (by decide) dX0_cutIntoPieces_64 rfl ?_
          refine V_iload (j := 4) (q := 67) dX0_cutIntoPieces_65 rfl rfl ?_
          refine V_istore_n (q := 68) (L' := [(3, .int (nI q)), (0, .ref 9), (1, .ref (U n)), (2, .int (nI n)), (4, .int (nI q))]) dX0_cutIntoPieces_67 rfl rfl rfl ?_
          obtain ⟨y1, y2, y3⟩ := EI_yes hE1 (by omega) c3
          have pq : pcx P n q = E - q := by
            unfold pcx
            rw [if_pos ⟨hk, y3, c3⟩, y2]
          have hE2 : (pFd P n 0 = 3 ∧ EI P n q q) ∨ (¬ pFd P n 0 = 3 ∧ q = 0) := Or.inl ⟨hk, y1⟩
          refine V_iinc (j := 4) (q := 71) (v := nI q + Int32.ofInt (-1)) (L' := [(4, .int (nI q + Int32.ofInt (-1))), (3, .int (nI q)), (0, .ref 9), (1, .ref (U n)), (2, .int (nI n))]) dX0_cutIntoPieces_68 rfl rfl rfl rfl rfl ?_
          refine V_goto (q := 21) dX0_cutIntoPieces_71 rfl ?_
          refine V_sub (L' := [(0, .ref 9), (1, .ref (U n)), (2, .int (nI n)), (3, .int (nI q)), (4, .int (nI q + Int32.ofInt (-1)))]) [2, 3, 4, 1, 0] rfl ?_
          refine ih q (nI q + Int32.ofInt (-1)) q (sI (sI e (35 + n) q (nI 0)) (35 + n) q (nI (E - q))) ?_ ?_ ?_ ?_ ?_ ?_
          · omega
          · exact i_dec (by omega)
          · exact F1.set
          · intro j hj hj16; rw [hI_s]; by_cases y : j = q; (rw [if_pos ⟨rfl, y⟩, y, pq]); (rw [if_neg (fun w => y w.2), hI_s, if_neg (fun w => y w.2)]; exact R j (by omega) hj16)
          · exact hE2
          · omega

set_option maxHeartbeats 4000000 in
set_option maxRecDepth 100000 in
theorem d_cutIntoPieces {g : GX} {h : AH} {P : PG} {U : Nat → Nat} (X : CX h P U) {n : Nat} (hn : n < pNi P) {φ γ : Nat → Bool} (W : W4 P φ γ h) : Ct g mX0_cutIntoPieces 3 0 0 [.ref 9, .ref (U n), .int (nI n)] h (fun ρ η => ρ = none ∧ FB h η (35 + n) ∧ ∀ s, s < 16 → hI η (35 + n) s = nI (pcx P n s)) := by
  refine Ct_intro (by decide +kernel) (Nat.le_of_ble_eq_true rfl) ?_
  show V g mX0_cutIntoPieces _ h 0 0 [(0, .ref 9), (1, .ref (U n)), (2, .int (nI n))] 0 []
  have hN := X.2.2.2.2.1
  have hR := X.2.2.1
  have hk8 := ok_kd X.2.2 hn
  have N := (X.2.1.2.2.2.1 n (by omega)).2
  rw [xfd_lt hn] at N
  rcases (show pFd P n 0 = 3 ∨ ¬ pFd P n 0 = 3 by omega) with hk | hk
  · skip
    obtain ⟨o1, o2, o3, o4, o5, o6, o7⟩ := ok_cp X.2.2 hn hk
    have hr1 : pFd P n 1 < 4 := by omega
    have hr2 : pFd P n 3 < 4 := by omega
    have ez := szx_lt o1
    have ez2 := szx_lt o2
    refine V_aload_n (j := 1) (q := 1) dX0_cutIntoPieces_0 rfl rfl ?_
    refine V_getI (q := 4) fX0_89 N.2.1 rfl dX0_cutIntoPieces_1 rfl ?_
    refine V_rw (y := nI (pFd P n 0)) (N.2.2 0 (by decide)) ?_
    refine V_iconst (q := 5) (v := nI 3) dX0_cutIntoPieces_4 rfl rfl ?_
    refine V_icmp_neN (tgt := 15) (q := 8) dX0_cutIntoPieces_5 rfl rfl (by omega) (by omega) (fun c1 => ?_) (fun c1 => ?_)
    · skip
      exact absurd c1 (by omega)
    · skip
      refine V_aload_n (j := 1) (q := 9) dX0_cutIntoPieces_8 rfl rfl ?_
      refine V_getI (q := 12) fX0_82 N.2.1 rfl dX0_cutIntoPieces_9 rfl ?_
      refine V_rw (y := nI (pFd P n 5)) ((N.2.2 4 (by decide)).trans (congrArg nI ((if_cp hk).2.2.1))) ?_
      refine V_goto (q := 16) dX0_cutIntoPieces_12 rfl ?_
      refine V_istore_n (q := 17) (L' := [(3, .int (nI (pFd P n 5))), (0, .ref 9), (1, .ref (U n)), (2, .int (nI n))]) dX0_cutIntoPieces_16 rfl rfl rfl ?_
      refine V_bipush (q := 19) (v := nI 15) dX0_cutIntoPieces_17 rfl (by decide) ?_
      refine V_istore (q := 21) (L' := [(4, .int (nI 15)), (3, .int (nI (pFd P n 5))), (0, .ref 9), (1, .ref (U n)), (2, .int (nI n))]) dX0_cutIntoPieces_19 rfl rfl rfl ?_
      refine V_sub (L' := [(0, .ref 9), (1, .ref (U n)), (2, .int (nI n)), (3, .int (nI (pFd P n 5))), (4, .int (nI 15))]) [2, 3, 4, 1, 0] rfl ?_
      refine lq_cut X hn W 17 16 (nI 15) (pFd P n 5) h (Nat.le_refl _) (by decide) (FB.rf _) (fun j h1 h2 => absurd h1 (by omega)) (Or.inl ⟨hk, Nat.le_refl _, fun _ => by omega, fun j h1 h2 => by omega, fun h => absurd h (Nat.lt_irrefl _), fun _ => rfl⟩) (Nat.lt_succ_self _)
  · skip
    refine V_aload_n (j := 1) (q := 1) dX0_cutIntoPieces_0 rfl rfl ?_
    refine V_getI (q := 4) fX0_89 N.2.1 rfl dX0_cutIntoPieces_1 rfl ?_
    refine V_rw (y := nI (pFd P n 0)) (N.2.2 0 (by decide)) ?_
    refine V_iconst (q := 5) (v := nI 3) dX0_cutIntoPieces_4 rfl rfl ?_
    refine V_icmp_neN (tgt := 15) (q := 8) dX0_cutIntoPieces_5 rfl rfl (by omega) (by omega) (fun c2 => ?_) (fun c2 => ?_)
    · skip
      refine V_iconst (q := 16) (v := nI 0) dX0_cutIntoPieces_15 rfl rfl ?_
      refine V_istore_n (q := 17) (L' := [(3, .int (nI 0)), (0, .ref 9), (1, .ref (U n)), (2, .int (nI n))]) dX0_cutIntoPieces_16 rfl rfl rfl ?_
      refine V_bipush (q := 19) (v := nI 15) dX0_cutIntoPieces_17 rfl (by decide) ?_
      refine V_istore (q := 21) (L' := [(4, .int (nI 15)), (3, .int (nI 0)), (0, .ref 9), (1, .ref (U n)), (2, .int (nI n))]) dX0_cutIntoPieces_19 rfl rfl rfl ?_
      refine V_sub (L' := [(0, .ref 9), (1, .ref (U n)), (2, .int (nI n)), (3, .int (nI 0)), (4, .int (nI 15))]) [2, 3, 4, 1, 0] rfl ?_
      refine lq_cut X hn W 17 16 (nI 15) 0 h (Nat.le_refl _) (by decide) (FB.rf _) (fun j h1 h2 => absurd h1 (by omega)) (Or.inr ⟨hk, rfl⟩) (Nat.lt_succ_self _)
    · skip
      exact absurd c2 (by omega)


set_option maxHeartbeats 4000000 in
set_option maxRecDepth 100000 in
theorem lq_pass {g : GX} {h : AH} {P : PG} {U : Nat → Nat} (X : CX h P U) {n : Nat} (hn : n < pNi P) {φ γ : Nat → Bool} (W : W4 P φ γ h) (hp : ∀ s, s < 16 → hI h (35 + n) s = nI (pcx P n s)) : ∀ (t : Nat) (s : Nat) (b : Bool) (δ : Nat → Bool) (e : AH), (s ≤ 16) → (FAn h e) → (rwk h e) → (W4 P φ δ e) → (ES P n γ δ s b) → 16 - s < t → V g mX0_passLifeToOrigins (thM g 2 0 0 (fun ρ η => ∃ γ' b, ρ = some (.int (bi b)) ∧ FAn h η ∧ rwk h η ∧ W4 P φ γ' η ∧ ER P n γ γ' b)) e 0 0 [(0, .ref 9), (1, .ref (U n)), (2, .int (nI n)), (3, .int (bi b)), (4, .int (nI s))] 5 [] := by
  intro t
  induction t with
  | zero =>
    intro s b δ e hs F R We E hfu
    exact absurd hfu (Nat.not_lt_zero _)
  | succ t ih =>
    intro s b δ e hs F R We E hfu
    have hN := X.2.2.2.2.1
    have X1 := F.cx X
    have hC := X1.1
    have hpl := pcx_le X.2.2 (s := s) hn
    refine V_iload (j := 4) (q := 7) dX0_passLifeToOrigins_5 rfl rfl ?_
    refine V_bipush (q := 9) (v := nI 16) dX0_passLifeToOrigins_7 rfl (by decide) ?_
    refine V_icmp_geN (tgt := 69) (q := 12) dX0_passLifeToOrigins_9 rfl rfl (by omega) (by omega) (fun c1 => ?_) (fun c1 => ?_)
    · skip
      refine V_iload_n (j := 3) (q := 70) dX0_passLifeToOrigins_69 rfl rfl ?_
      refine V_zret (b := b) rfl dX0_passLifeToOrigins_70 rfl rfl ?_
      have : s = 16 := by omega
      subst this
      exact ⟨δ, b, rfl, F, R, We, ES_16 X.2.2 hn E⟩
    · skip
      refine V_aload_n (j := 0) (q := 13) dX0_passLifeToOrigins_12 rfl rfl ?_
      refine V_getP (q := 16) (r := 34) fX0_24 (hC.1 9 _ s_9) rfl (hC.2.1 9 2 _ rfl) dX0_passLifeToOrigins_13 rfl ?_
      refine V_iload_n (j := 2) (q := 17) dX0_passLifeToOrigins_16 rfl rfl ?_
      refine V_aald (q := 18) (c := 15) (r := (35 + n)) (by decide) (hC.1 34 _ s_34) (by omega) (by decide) (hC.2.2.2.1 _ (by omega)) dX0_passLifeToOrigins_17 rfl ?_
      refine V_iload (j := 4) (q := 20) dX0_passLifeToOrigins_18 rfl rfl ?_
      refine V_iald (q := 21) (hC.1 _ _ (s_row _ (by omega))) (by omega) (by decide) dX0_passLifeToOrigins_20 rfl ?_
      refine V_rw (y := nI (pcx P n s)) (by rw [R n (by omega)]; exact hp s (by omega)) ?_
      refine V_if_leN (tgt := 63) (q := 24) dX0_passLifeToOrigins_21 rfl rfl (by omega) (fun c2 => ?_) (fun c2 => ?_)
      · skip
        refine V_iincN (j := 4) (q := 66) (L' := [(4, .int (nI (s + 1))), (0, .ref 9), (1, .ref (U n)), (2, .int (nI n)), (3, .int (bi b))]) dX0_passLifeToOrigins_63 rfl rfl rfl rfl ?_
        refine V_goto (q := 5) dX0_passLifeToOrigins_66 rfl ?_
        refine V_sub (L' := [(0, .ref 9), (1, .ref (U n)), (2, .int (nI n)), (3, .int (bi b)), (4, .int (nI (s + 1)))]) [1, 2, 3, 4, 0] rfl ?_
        refine ih (s + 1) b δ e ?_ ?_ ?_ ?_ ?_ ?_
        · omega
        · exact F
        · exact R
        · exact We
        · exact ES_no X.2.2 hn E (by omega)
        · omega
      · skip
        obtain ⟨hk, hs5, hps2, epl⟩ := pcx_of c2
        have rd := rgO_d X.2.2 hn hk hs5
        have ro := rgO_s X.2.2 hn hk hs5
        have l1 := (pln_spec hs5).1
        have rd3 := rd.2.2.1
        have ro3 := ro.2.2.1
        have K1 := pta_f X.2.2 X1.1 We rd.1 (k := pFd P n 2 + s) (by omega) (rd.2.2.2 0 (by omega)).1
        have K2 := pta_f X.2.2 X1.1 We ro.1 (k := pFd P n 4 + s) (by omega) (ro.2.2.2 0 (by omega)).1
        refine V_aload_n (j := 0) (q := 25) dX0_passLifeToOrigins_24 rfl rfl ?_
        refine V_aload_n (j := 1) (q := 26) dX0_passLifeToOrigins_25 rfl rfl ?_
        refine V_iload (j := 4) (q := 28) dX0_passLifeToOrigins_26 rfl rfl ?_
        refine V_cpV (q := 31) (S := []) (v := .ref (pta P (pFd P n 1) (pFd P n 2 + s))) kX0_113 (d_targetC X1 hn We hk hs5) (hC.1 9 _ s_9) rfl rfl rfl dX0_passLifeToOrigins_28 rfl ?_
        refine V_getI (q := 34) fX0_122 K1.2.1 rfl dX0_passLifeToOrigins_31 rfl ?_
        refine V_rw (y := bi (δ (dtP P n s))) K1.2.2.1.2.2.2 ?_
        refine V_if_eqB (tgt := 63) (q := 37) dX0_passLifeToOrigins_34 rfl rfl (fun c3 => ?_) (fun c3 => ?_)
        · skip
          refine V_iincN (j := 4) (q := 66) (L' := [(4, .int (nI (s + 1))), (0, .ref 9), (1, .ref (U n)), (2, .int (nI n)), (3, .int (bi b))]) dX0_passLifeToOrigins_63 rfl rfl rfl rfl ?_
          refine V_goto (q := 5) dX0_passLifeToOrigins_66 rfl ?_
          refine V_sub (L' := [(0, .ref 9), (1, .ref (U n)), (2, .int (nI n)), (3, .int (bi b)), (4, .int (nI (s + 1)))]) [1, 2, 3, 4, 0] rfl ?_
          refine ih (s + 1) b δ e ?_ ?_ ?_ ?_ ?_ ?_
          · omega
          · exact F
          · exact R
          · exact We
          · exact ES_same X.2.2 hn E hs5 (fun _ z => absurd (c3.symm.trans z) (by decide))
          · omega
        · skip
          refine V_aload_n (j := 0) (q := 38) dX0_passLifeToOrigins_37 rfl rfl ?_
          refine V_aload_n (j := 1) (q := 39) dX0_passLifeToOrigins_38 rfl rfl ?_
          refine V_iload (j := 4) (q := 41) dX0_passLifeToOrigins_39 rfl rfl ?_
          refine V_cpV (q := 44) (S := []) (v := .ref (pta P (pFd P n 3) (pFd P n 4 + s))) kX0_125 (d_origin X1 hn We hk hs5) (hC.1 9 _ s_9) rfl rfl rfl dX0_passLifeToOrigins_41 rfl ?_
          refine V_getI (q := 47) fX0_122 K2.2.1 rfl dX0_passLifeToOrigins_44 rfl ?_
          refine V_rw (y := bi (δ (srP P n s))) K2.2.2.1.2.2.2 ?_
          refine V_if_neB (tgt := 63) (q := 50) dX0_passLifeToOrigins_47 rfl rfl (fun c4 => ?_) (fun c4 => ?_)
          · skip
            refine V_iincN (j := 4) (q := 66) (L' := [(4, .int (nI (s + 1))), (0, .ref 9), (1, .ref (U n)), (2, .int (nI n)), (3, .int (bi b))]) dX0_passLifeToOrigins_63 rfl rfl rfl rfl ?_
            refine V_goto (q := 5) dX0_passLifeToOrigins_66 rfl ?_
            refine V_sub (L' := [(0, .ref 9), (1, .ref (U n)), (2, .int (nI n)), (3, .int (bi b)), (4, .int (nI (s + 1)))]) [1, 2, 3, 4, 0] rfl ?_
            refine ih (s + 1) b δ e ?_ ?_ ?_ ?_ ?_ ?_
            · omega
            · exact F
            · exact R
            · exact We
            · exact ES_same X.2.2 hn E hs5 (fun _ _ => c4)
            · omega
          · skip
            refine V_aload_n (j := 0) (q := 51) dX0_passLifeToOrigins_50 rfl rfl ?_
            refine V_aload_n (j := 1) (q := 52) dX0_passLifeToOrigins_51 rfl rfl ?_
            refine V_iload (j := 4) (q := 54) dX0_passLifeToOrigins_52 rfl rfl ?_
            refine V_cpV (q := 57) (S := []) (v := .ref (pta P (pFd P n 3) (pFd P n 4 + s))) kX0_125 (d_origin X1 hn We hk hs5) (hC.1 9 _ s_9) rfl rfl rfl dX0_passLifeToOrigins_54 rfl ?_
            refine V_iconst (q := 58) (v := nI 1) dX0_passLifeToOrigins_57 rfl rfl ?_
            refine V_rw (y := bi true) rfl ?_
            refine V_putZ (b := true) (q := 61) wX0_122 K2.2.1 rfl dX0_passLifeToOrigins_58 rfl ?_
            refine V_iconst (q := 62) (v := nI 1) dX0_passLifeToOrigins_61 rfl rfl ?_
            refine V_rw (y := bi true) rfl ?_
            refine V_istore_n (q := 63) (L' := [(3, .int (bi true)), (0, .ref 9), (1, .ref (U n)), (2, .int (nI n)), (4, .int (nI s))]) dX0_passLifeToOrigins_62 rfl rfl rfl ?_
            refine V_iincN (j := 4) (q := 66) (L' := [(4, .int (nI (s + 1))), (3, .int (bi true)), (0, .ref 9), (1, .ref (U n)), (2, .int (nI n))]) dX0_passLifeToOrigins_63 rfl rfl rfl rfl ?_
            refine V_goto (q := 5) dX0_passLifeToOrigins_66 rfl ?_
            refine V_sub (L' := [(0, .ref 9), (1, .ref (U n)), (2, .int (nI n)), (3, .int (bi true)), (4, .int (nI (s + 1)))]) [2, 3, 4, 1, 0] rfl ?_
            refine ih (s + 1) true (fun x => if x = srP P n s then true else δ x) (sI e (pta P (pFd P n 3) (pFd P n 4 + s)) 3 (bi true)) ?_ ?_ ?_ ?_ ?_ ?_
            · omega
            · exact FAn_pt X.2.2 F ro.1 (by omega) (ro.2.2.2 0 (by omega)).1
            · exact rwk_pt R
            · exact W4_set3 X.2.2 We (k := pFd P n 4 + s) ro.1 (by omega) (ro.2.2.2 0 (by omega)).1 (if_pos rfl) (fun y hy => if_neg hy)
            · exact ES_set X.2.2 hn hk E hs5 c3 c4
            · omega

set_option maxHeartbeats 4000000 in
set_option maxRecDepth 100000 in
theorem d_passLife {g : GX} {h : AH} {P : PG} {U : Nat → Nat} (X : CX h P U) {n : Nat} (hn : n < pNi P) {φ γ : Nat → Bool} (W : W4 P φ γ h) (hp : ∀ s, s < 16 → hI h (35 + n) s = nI (pcx P n s)) : Ct g mX0_passLifeToOrigins 2 0 0 [.ref 9, .ref (U n), .int (nI n)] h (fun ρ η => ∃ γ' b, ρ = some (.int (bi b)) ∧ FAn h η ∧ rwk h η ∧ W4 P φ γ' η ∧ ER P n γ γ' b) := by
  refine Ct_intro (by decide +kernel) (Nat.le_of_ble_eq_true rfl) ?_
  show V g mX0_passLifeToOrigins _ h 0 0 [(0, .ref 9), (1, .ref (U n)), (2, .int (nI n))] 0 []
  refine V_iconst (q := 1) (v := nI 0) dX0_passLifeToOrigins_0 rfl rfl ?_
  refine V_rw (y := bi false) rfl ?_
  refine V_istore_n (q := 2) (L' := [(3, .int (bi false)), (0, .ref 9), (1, .ref (U n)), (2, .int (nI n))]) dX0_passLifeToOrigins_1 rfl rfl rfl ?_
  refine V_iconst (q := 3) (v := nI 0) dX0_passLifeToOrigins_2 rfl rfl ?_
  refine V_istore (q := 5) (L' := [(4, .int (nI 0)), (3, .int (bi false)), (0, .ref 9), (1, .ref (U n)), (2, .int (nI n))]) dX0_passLifeToOrigins_3 rfl rfl rfl ?_
  refine V_sub (L' := [(0, .ref 9), (1, .ref (U n)), (2, .int (nI n)), (3, .int (bi false)), (4, .int (nI 0))]) [2, 3, 4, 1, 0] rfl ?_
  exact lq_pass X hn W hp 17 0 false γ h (by decide) (FAn.rf h) (fun _ _ => rfl) W (ES_0 X.2.2 hn γ) (by decide)

set_option maxHeartbeats 4000000 in
set_option maxRecDepth 100000 in
theorem lq_mark1 {g : GX} {h : AH} {P : PG} {U : Nat → Nat} (X : CX h P U) {φ : Nat → Bool} (hp : ∀ n, n < pNi P → ∀ s, s < 16 → hI h (35 + n) s = nI (pcx P n s)) {Q : Option Value → AH → Prop} {tt : Nat} {δ : Nat → Bool} (kk : ∀ (b : Bool) (δ' : Nat → Bool) (e' : AH), FAn h e' → rwk h e' → W4 P φ δ' e' → ED P δ δ' 0 b → V g mX0_markLive (thM g 3 0 0 Q) e' 0 0 [(0, .ref 9), (1, .ref 1), (2, .int (bi b)), (3, .int (nI tt))] 50 []) : ∀ (t : Nat) (m : Nat) (x : Int32) (b : Bool) (δ1 : Nat → Bool) (e1 : AH), (m ≤ pNi P) → (x.toInt = (m : Int) - 1) → (FAn h e1) → (rwk h e1) → (W4 P φ δ1 e1) → (ED P δ δ1 m b) → m < t → V g mX0_markLive (thM g 3 0 0 Q) e1 0 0 [(0, .ref 9), (1, .ref 1), (2, .int (bi b)), (3, .int (nI tt)), (4, .int x)] 24 [] := by
  intro t
  induction t with
  | zero =>
    intro m x b δ1 e1 hm hx F R We E hfu
    exact absurd hfu (Nat.not_lt_zero _)
  | succ t ih =>
    intro m x b δ1 e1 hm hx F R We E hfu
    have hN := X.2.2.2.2.1
    have X1 := F.cx X
    have hC := X1.1
    refine V_iload (j := 4) (q := 26) dX0_markLive_24 rfl rfl ?_
    refine V_if_lt (tgt := 50) (q := 29) dX0_markLive_26 rfl rfl (fun c1 => ?_) (fun c1 => ?_)
    · skip
      simp only [i_lt, i_0] at c1
      have hm0 : m = 0 := by omega
      subst hm0
      refine V_sub (L' := [(0, .ref 9), (1, .ref 1), (2, .int (bi b)), (3, .int (nI tt))]) [0, 1, 2, 3] rfl ?_
      exact kk b δ1 e1 F R We E
    · skip
      simp only [i_lt, i_0] at c1
      obtain ⟨q, hq, rfl⟩ := i_of (x := x) (n := 24) (by omega) (by omega)
      have hmq : m = q + 1 := by rw [i_n (by omega)] at hx; omega
      subst hmq
      refine V_iload_n (j := 2) (q := 30) dX0_markLive_29 rfl rfl ?_
      refine V_aload_n (j := 0) (q := 31) dX0_markLive_30 rfl rfl ?_
      refine V_aload_n (j := 1) (q := 32) dX0_markLive_31 rfl rfl ?_
      refine V_iload (j := 4) (q := 34) dX0_markLive_32 rfl rfl ?_
      refine V_cpV (q := 37) (S := [.ref 9, .int (bi b)]) (v := .ref (U q)) kX0_45 (by have := d_at (g := g) (x := nI q) X1; rw [uat_n (by omega) (by omega)] at this; exact this) (hC.1 1 _ s_1) rfl rfl rfl dX0_markLive_34 rfl ?_
      refine V_iload (j := 4) (q := 39) dX0_markLive_37 rfl rfl ?_
      refine V_callV (q := 42) (S := [.int (bi b)]) kX0_128 (d_passLife X1 (n := q) (by omega) We (fun s hs => by rw [R q (by omega)]; exact hp q (by omega) s hs)) (hC.1 9 _ s_9) rfl rfl rfl dX0_markLive_39 rfl (fun r2 h3 p4 => ?_)
      obtain ⟨δ2, c, rfl, F2, R2, W2, E2⟩ := p4
      refine V_ior (q := 43) dX0_markLive_42 rfl ?_
      refine V_rw (y := bi (b || c)) (bi_or b c) ?_
      refine V_istore_n (q := 44) (L' := [(2, .int (bi (b || c))), (0, .ref 9), (1, .ref 1), (3, .int (nI tt)), (4, .int (nI q))]) dX0_markLive_43 rfl rfl rfl ?_
      refine V_iinc (j := 4) (q := 47) (v := nI q + Int32.ofInt (-1)) (L' := [(4, .int (nI q + Int32.ofInt (-1))), (2, .int (bi (b || c))), (0, .ref 9), (1, .ref 1), (3, .int (nI tt))]) dX0_markLive_44 rfl rfl rfl rfl rfl ?_
      refine V_goto (q := 24) dX0_markLive_47 rfl ?_
      refine V_sub (L' := [(0, .ref 9), (1, .ref 1), (2, .int (bi (b || c))), (3, .int (nI tt)), (4, .int (nI q + Int32.ofInt (-1)))]) [2, 3, 1, 4, 0] rfl ?_
      refine ih q (nI q + Int32.ofInt (-1)) (b || c) δ2 h3 ?_ ?_ ?_ ?_ ?_ ?_ ?_
      · omega
      · exact i_dec (by omega)
      · exact F.tr F2
      · exact fun i hi => (R2 i hi).trans (R i hi)
      · exact W2
      · exact ED_s E E2
      · omega

set_option maxHeartbeats 4000000 in
set_option maxRecDepth 100000 in
theorem lq_mark2 {g : GX} {h : AH} {P : PG} {U : Nat → Nat} (X : CX h P U) {φ γ : Nat → Bool} (W : W4 P φ γ h) (hp : ∀ n, n < pNi P → ∀ s, s < 16 → hI h (35 + n) s = nI (pcx P n s)) : ∀ (t : Nat) (tt : Nat) (c : Bool) (δ : Nat → Bool) (e : AH), (FAn h e) → (rwk h e) → (W4 P φ δ e) → (EO P δ tt c) → 66 - tt < t → V g mX0_markLive (thM g 3 0 0 (fun ρ η => ρ = none ∧ ∃ γ', FAn h η ∧ rwk h η ∧ W4 P φ γ' η ∧ lsd P γ' ∧ lbs P γ' ∧ cls P γ')) e 0 0 [(0, .ref 9), (1, .ref 1), (2, .int (bi c)), (3, .int (nI tt))] 4 [] := by
  intro t
  induction t with
  | zero =>
    intro tt c δ e F R We EOt hfu
    exact absurd hfu (Nat.not_lt_zero _)
  | succ t ih =>
    intro tt c δ e F R We EOt hfu
    have hN := X.2.2.2.2.1
    have X1 := F.cx X
    have hC := X1.1
    have ht65 := EOt.2.2.2.2
    refine V_iload_n (j := 2) (q := 5) dX0_markLive_4 rfl rfl ?_
    refine V_if_eqB (tgt := 56) (q := 8) dX0_markLive_5 rfl rfl (fun c1 => ?_) (fun c1 => ?_)
    · skip
      refine V_vret rfl dX0_markLive_56 rfl rfl ?_
      exact ⟨rfl, δ, F, R, We, EOt.1, EOt.2.1, EOt.2.2.1 c1⟩
    · skip
      refine V_iload_n (j := 3) (q := 9) dX0_markLive_8 rfl rfl ?_
      refine V_bipush (q := 11) (v := nI 64) dX0_markLive_9 rfl (by decide) ?_
      refine V_icmp_gtN (tgt := 56) (q := 14) dX0_markLive_11 rfl rfl (by omega) (by omega) (fun c2 => ?_) (fun c2 => ?_)
      · skip
        have := EOt.2.2.2.1 c1
        exact absurd c2 (by omega)
      · skip
        have EOc : EO P δ tt true := by rw [← c1]; exact EOt
        have tc := EOc.2.2.2.1 rfl
        refine V_iconst (q := 15) (v := nI 0) dX0_markLive_14 rfl rfl ?_
        refine V_rw (y := bi false) rfl ?_
        refine V_istore_n (q := 16) (L' := [(2, .int (bi false)), (0, .ref 9), (1, .ref 1), (3, .int (nI tt))]) dX0_markLive_15 rfl rfl rfl ?_
        refine V_aload_n (j := 2) (q := 17) dX0_markLive_16 rfl rfl ?_
        refine V_getI (q := 20) fX0_41 (hC.1 1 _ s_1) rfl dX0_markLive_17 rfl ?_
        refine V_rw (y := nI (pNi P)) X1.2.1.2.1 ?_
        refine V_iconst (q := 21) (v := nI 1) dX0_markLive_20 rfl rfl ?_
        refine V_isub (q := 22) dX0_markLive_21 rfl ?_
        refine V_istore (q := 24) (L' := [(4, .int ((nI (pNi P)) - (nI 1))), (2, .int (bi false)), (0, .ref 9), (1, .ref 1), (3, .int (nI tt))]) dX0_markLive_22 rfl rfl rfl ?_
        refine V_sub (L' := [(0, .ref 9), (1, .ref 1), (2, .int (bi false)), (3, .int (nI tt)), (4, .int ((nI (pNi P)) - (nI 1)))]) [2, 3, 1, 4, 0] rfl ?_
        refine lq_mark1 X hp (tt := tt) (δ := δ) (fun b δ2 e2 F2 R2 W2 E2 => ?_) (pNi P + 1) (pNi P) _ false δ e (Nat.le_refl _) ?_ F R We (ED_0 P δ) (Nat.lt_succ_self _)
        · skip
          refine V_iincN (j := 3) (q := 53) (L' := [(3, .int (nI (tt + 1))), (0, .ref 9), (1, .ref 1), (2, .int (bi b))]) dX0_markLive_50 rfl rfl rfl rfl ?_
          refine V_goto (q := 4) dX0_markLive_53 rfl ?_
          refine V_sub (L' := [(0, .ref 9), (1, .ref 1), (2, .int (bi b)), (3, .int (nI (tt + 1)))]) [1, 2, 3, 0] rfl ?_
          refine ih (tt + 1) b δ2 e2 ?_ ?_ ?_ ?_ ?_
          · exact F2
          · exact R2
          · exact W2
          · exact EO_s EOc E2
          · omega
        · rw [i_sub, i_n (by omega), show (nI 1).toInt = 1 from rfl]; rw [i_n (by omega), show (nI 1).toInt = 1 from rfl]; omega

set_option maxHeartbeats 4000000 in
set_option maxRecDepth 100000 in
theorem d_markLive {g : GX} {h : AH} {P : PG} {U : Nat → Nat} (X : CX h P U) {φ γ : Nat → Bool} (W : W4 P φ γ h) (hp : ∀ n, n < pNi P → ∀ s, s < 16 → hI h (35 + n) s = nI (pcx P n s)) (s0 : lsd P γ) (b0 : lbs P γ) : Ct g mX0_markLive 3 0 0 [.ref 9, .ref 1] h (fun ρ η => ρ = none ∧ ∃ γ', FAn h η ∧ rwk h η ∧ W4 P φ γ' η ∧ lsd P γ' ∧ lbs P γ' ∧ cls P γ') := by
  refine Ct_intro (by decide +kernel) (Nat.le_of_ble_eq_true rfl) ?_
  show V g mX0_markLive _ h 0 0 [(0, .ref 9), (1, .ref 1)] 0 []
  refine V_iconst (q := 1) (v := nI 1) dX0_markLive_0 rfl rfl ?_
  refine V_rw (y := bi true) rfl ?_
  refine V_istore_n (q := 2) (L' := [(2, .int (bi true)), (0, .ref 9), (1, .ref 1)]) dX0_markLive_1 rfl rfl rfl ?_
  refine V_iconst (q := 3) (v := nI 0) dX0_markLive_2 rfl rfl ?_
  refine V_istore_n (q := 4) (L' := [(3, .int (nI 0)), (2, .int (bi true)), (0, .ref 9), (1, .ref 1)]) dX0_markLive_3 rfl rfl rfl ?_
  refine V_sub (L' := [(0, .ref 9), (1, .ref 1), (2, .int (bi true)), (3, .int (nI 0))]) [2, 3, 1, 0] rfl ?_
  refine lq_mark2 X W hp 67 0 true γ h (FAn.rf h) (fun _ _ => rfl) W ⟨s0, b0, fun z => absurd z (by decide), fun _ => ?_, by decide⟩ (by decide)
  have := cF_n γ 64
  omega


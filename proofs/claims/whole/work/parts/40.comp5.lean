set_option maxHeartbeats 4000000 in
set_option maxRecDepth 100000 in
theorem d_isPadding {g : GX} {h : AH} {a : Nat} (Y : LA h.1 (hP h) a) {P : PG} (ok : OkP P) {r k : Nat} (L : L1 P r (pNi P) h a) (hk : k < 16) : Ct g mX3_isPadding 0 0 0 [.ref a, .int (nI k)] h (fun ρ η => ρ = some (.int (bi (!ptd P r k))) ∧ η = h) := by
  refine Ct_intro (by decide +kernel) (Nat.le_of_ble_eq_true rfl) ?_
  show V g mX3_isPadding _ h 0 0 [(0, .ref a), (1, .int (nI k))] 0 []
  refine V_aload_n (j := 0) (q := 1) dX3_isPadding_0 rfl rfl ?_
  refine V_getI (q := 4) fX3_49 (Y.1 0 _ rfl) rfl dX3_isPadding_1 rfl ?_
  refine V_rw (y := bi (esc P r)) L.2.1 ?_
  refine V_if_neB (tgt := 31) (q := 7) dX3_isPadding_4 rfl rfl (fun c1 => ?_) (fun c1 => ?_)
  · skip
    refine V_iconst (q := 32) (v := nI 0) dX3_isPadding_31 rfl rfl ?_
    refine V_rw (y := bi false) rfl ?_
    refine V_zret (b := false) rfl dX3_isPadding_32 rfl rfl ?_
    refine ⟨pvb ?_, rfl⟩
    cases z : ptd P r k with
    | true => rfl
    | false =>
      obtain ⟨w1, w2, w3⟩ := (pad_B ok r k).mp z
      exact absurd (c1.symm.trans w1) (by decide)
  · skip
    refine V_aload_n (j := 0) (q := 8) dX3_isPadding_7 rfl rfl ?_
    refine V_getP (q := 11) (r := (a + 4)) fX3_25 (Y.1 0 _ rfl) rfl (Y.2.1 3 _ rfl) dX3_isPadding_8 rfl ?_
    refine V_iload_n (j := 1) (q := 12) dX3_isPadding_11 rfl rfl ?_
    refine V_zald (q := 13) (Y.1 4 _ rfl) (by omega) (by decide) dX3_isPadding_12 rfl ?_
    refine V_rw (y := bi (acc P r k)) ((L.2.2 _ (by omega)).1) ?_
    refine V_if_neB (tgt := 31) (q := 16) dX3_isPadding_13 rfl rfl (fun c2 => ?_) (fun c2 => ?_)
    · skip
      refine V_iconst (q := 32) (v := nI 0) dX3_isPadding_31 rfl rfl ?_
      refine V_rw (y := bi false) rfl ?_
      refine V_zret (b := false) rfl dX3_isPadding_32 rfl rfl ?_
      refine ⟨pvb ?_, rfl⟩
      cases z : ptd P r k with
      | true => rfl
      | false =>
        obtain ⟨w1, w2, w3⟩ := (pad_B ok r k).mp z
        exact absurd (c2.symm.trans w2) (by decide)
    · skip
      refine V_aload_n (j := 0) (q := 17) dX3_isPadding_16 rfl rfl ?_
      refine V_getP (q := 20) (r := (a + 6)) fX3_32 (Y.1 0 _ rfl) rfl (Y.2.1 5 _ rfl) dX3_isPadding_17 rfl ?_
      refine V_iload_n (j := 1) (q := 21) dX3_isPadding_20 rfl rfl ?_
      refine V_lald (q := 22) (Y.1 6 _ rfl) (by omega) (by decide) dX3_isPadding_21 rfl ?_
      refine V_lconst (q := 23) (v := 0) dX3_isPadding_22 rfl rfl ?_
      refine V_lcmp (q := 24) dX3_isPadding_23 rfl ?_
      refine V_if_ne (tgt := 31) (q := 27) dX3_isPadding_24 rfl rfl (fun c3 => ?_) (fun c3 => ?_)
      · skip
        refine V_iconst (q := 32) (v := nI 0) dX3_isPadding_31 rfl rfl ?_
        refine V_rw (y := bi false) rfl ?_
        refine V_zret (b := false) rfl dX3_isPadding_32 rfl rfl ?_
        refine ⟨pvb ?_, rfl⟩
        cases z : ptd P r k with
        | true => rfl
        | false =>
          obtain ⟨w1, w2, w3⟩ := (pad_B ok r k).mp z
          exact absurd (lgc0.mpr ((L.2.2 k hk).2.2.trans w3)) c3
      · skip
        refine V_iconst (q := 28) (v := nI 1) dX3_isPadding_27 rfl rfl ?_
        refine V_goto (q := 32) dX3_isPadding_28 rfl ?_
        refine V_rw (y := bi true) rfl ?_
        refine V_zret (b := true) rfl dX3_isPadding_32 rfl rfl ?_
        exact ⟨pvb (by rw [(pad_B ok r k).mpr ⟨c1, c2, (L.2.2 k hk).2.2.symm.trans (lgc0.mp c3)⟩]; rfl), rfl⟩

set_option maxHeartbeats 4000000 in
set_option maxRecDepth 100000 in
theorem d_beginsPartition {g : GX} {h : AH} {a : Nat} (Y : LA h.1 (hP h) a) {P : PG} (ok : OkP P) {r k : Nat} (L : L1 P r (pNi P) h a) (hk : k < 16) (hp : ptd P r k = true) : Ct g mX3_beginsPartition 0 0 0 [.ref a, .int (nI k)] h (fun ρ η => ρ = some (.int (bi (!gon P r k))) ∧ η = h) := by
  refine Ct_intro (by decide +kernel) (Nat.le_of_ble_eq_true rfl) ?_
  show V g mX3_beginsPartition _ h 0 0 [(0, .ref a), (1, .int (nI k))] 0 []
  refine V_iload_n (j := 1) (q := 1) dX3_beginsPartition_0 rfl rfl ?_
  refine V_if_neN (tgt := 6) (q := 4) dX3_beginsPartition_1 rfl rfl (by omega) (fun c1 => ?_) (fun c1 => ?_)
  · skip
    refine V_aload_n (j := 0) (q := 7) dX3_beginsPartition_6 rfl rfl ?_
    refine V_getI (q := 10) fX3_49 (Y.1 0 _ rfl) rfl dX3_beginsPartition_7 rfl ?_
    refine V_rw (y := bi (esc P r)) L.2.1 ?_
    refine V_if_eqB (tgt := 15) (q := 13) dX3_beginsPartition_10 rfl rfl (fun c2 => ?_) (fun c2 => ?_)
    · skip
      refine V_aload_n (j := 0) (q := 16) dX3_beginsPartition_15 rfl rfl ?_
      refine V_getP (q := 19) (r := (a + 4)) fX3_25 (Y.1 0 _ rfl) rfl (Y.2.1 3 _ rfl) dX3_beginsPartition_16 rfl ?_
      refine V_iload_n (j := 1) (q := 20) dX3_beginsPartition_19 rfl rfl ?_
      refine V_zald (q := 21) (Y.1 4 _ rfl) (by omega) (by decide) dX3_beginsPartition_20 rfl ?_
      refine V_rw (y := bi (acc P r k)) ((L.2.2 _ (by omega)).1) ?_
      refine V_if_eqB (tgt := 39) (q := 24) dX3_beginsPartition_21 rfl rfl (fun c3 => ?_) (fun c3 => ?_)
      · skip
        refine V_aload_n (j := 0) (q := 40) dX3_beginsPartition_39 rfl rfl ?_
        refine V_getP (q := 43) (r := (a + 4)) fX3_25 (Y.1 0 _ rfl) rfl (Y.2.1 3 _ rfl) dX3_beginsPartition_40 rfl ?_
        refine V_iload_n (j := 1) (q := 44) dX3_beginsPartition_43 rfl rfl ?_
        refine V_iconst (q := 45) (v := nI 1) dX3_beginsPartition_44 rfl rfl ?_
        refine V_isubN (q := 46) dX3_beginsPartition_45 rfl (by omega) ?_
        refine V_zald (q := 47) (Y.1 4 _ rfl) (by omega) (by decide) dX3_beginsPartition_46 rfl ?_
        refine V_rw (y := bi (acc P r (k - 1))) ((L.2.2 _ (by omega)).1) ?_
        refine V_if_neB (tgt := 68) (q := 50) dX3_beginsPartition_47 rfl rfl (fun c4 => ?_) (fun c4 => ?_)
        · skip
          refine V_iconst (q := 69) (v := nI 1) dX3_beginsPartition_68 rfl rfl ?_
          refine V_goto (q := 73) dX3_beginsPartition_69 rfl ?_
          refine V_rw (y := bi true) rfl ?_
          refine V_zret (b := true) rfl dX3_beginsPartition_73 rfl rfl ?_
          have gc := gon_c ok (by omega) c2 c3 hp
          refine ⟨pvb ?_, rfl⟩
          cases z : gon P r k with
          | false => rfl
          | true =>
            obtain ⟨w1, w2⟩ := gc.mp z
            exact absurd (c4.symm.trans w1) (by decide)
        · skip
          refine V_aload_n (j := 0) (q := 51) dX3_beginsPartition_50 rfl rfl ?_
          refine V_getP (q := 54) (r := (a + 6)) fX3_32 (Y.1 0 _ rfl) rfl (Y.2.1 5 _ rfl) dX3_beginsPartition_51 rfl ?_
          refine V_iload_n (j := 1) (q := 55) dX3_beginsPartition_54 rfl rfl ?_
          refine V_iconst (q := 56) (v := nI 1) dX3_beginsPartition_55 rfl rfl ?_
          refine V_isubN (q := 57) dX3_beginsPartition_56 rfl (by omega) ?_
          refine V_lald (q := 58) (Y.1 6 _ rfl) (by omega) (by decide) dX3_beginsPartition_57 rfl ?_
          refine V_aload_n (j := 0) (q := 59) dX3_beginsPartition_58 rfl rfl ?_
          refine V_getP (q := 62) (r := (a + 6)) fX3_32 (Y.1 0 _ rfl) rfl (Y.2.1 5 _ rfl) dX3_beginsPartition_59 rfl ?_
          refine V_iload_n (j := 1) (q := 63) dX3_beginsPartition_62 rfl rfl ?_
          refine V_lald (q := 64) (Y.1 6 _ rfl) (by omega) (by decide) dX3_beginsPartition_63 rfl ?_
          refine V_lcmp (q := 65) dX3_beginsPartition_64 rfl ?_
          refine V_if_eq (tgt := 72) (q := 68) dX3_beginsPartition_65 rfl rfl (fun c5 => ?_) (fun c5 => ?_)
          · skip
            refine V_iconst (q := 73) (v := nI 0) dX3_beginsPartition_72 rfl rfl ?_
            refine V_rw (y := bi false) rfl ?_
            refine V_zret (b := false) rfl dX3_beginsPartition_73 rfl rfl ?_
            have gc := gon_c ok (by omega) c2 c3 hp
            exact ⟨pvb (by rw [gc.mpr ⟨c4, ((L.2.2 _ (by omega)).2.2.symm.trans (lgc0.mp c5)).trans (L.2.2 k hk).2.2⟩]; rfl), rfl⟩
          · skip
            refine V_iconst (q := 69) (v := nI 1) dX3_beginsPartition_68 rfl rfl ?_
            refine V_goto (q := 73) dX3_beginsPartition_69 rfl ?_
            refine V_rw (y := bi true) rfl ?_
            refine V_zret (b := true) rfl dX3_beginsPartition_73 rfl rfl ?_
            have gc := gon_c ok (by omega) c2 c3 hp
            refine ⟨pvb ?_, rfl⟩
            cases z : gon P r k with
            | false => rfl
            | true =>
              obtain ⟨w1, w2⟩ := gc.mp z
              exact absurd (lgc0.mpr (((L.2.2 _ (by omega)).2.2.trans w2).trans (L.2.2 k hk).2.2.symm)) c5
      · skip
        refine V_aload_n (j := 0) (q := 25) dX3_beginsPartition_24 rfl rfl ?_
        refine V_getP (q := 28) (r := (a + 5)) fX3_29 (Y.1 0 _ rfl) rfl (Y.2.1 4 _ rfl) dX3_beginsPartition_25 rfl ?_
        refine V_iload_n (j := 1) (q := 29) dX3_beginsPartition_28 rfl rfl ?_
        refine V_zald (q := 30) (Y.1 5 _ rfl) (by omega) (by decide) dX3_beginsPartition_29 rfl ?_
        refine V_rw (y := bi (jnN P r k (pNi P))) ((L.2.2 _ (by omega)).2.1) ?_
        refine V_if_neB (tgt := 37) (q := 33) dX3_beginsPartition_30 rfl rfl (fun c6 => ?_) (fun c6 => ?_)
        · skip
          refine V_iconst (q := 38) (v := nI 0) dX3_beginsPartition_37 rfl rfl ?_
          refine V_rw (y := bi false) rfl ?_
          refine V_zret (b := false) rfl dX3_beginsPartition_38 rfl rfl ?_
          exact ⟨pvb (by rw [gon_a (by omega) c2 c3, c6]; rfl), rfl⟩
        · skip
          refine V_iconst (q := 34) (v := nI 1) dX3_beginsPartition_33 rfl rfl ?_
          refine V_goto (q := 38) dX3_beginsPartition_34 rfl ?_
          refine V_rw (y := bi true) rfl ?_
          refine V_zret (b := true) rfl dX3_beginsPartition_38 rfl rfl ?_
          exact ⟨pvb (by rw [gon_a (by omega) c2 c3, c6]; rfl), rfl⟩
    · skip
      refine V_iconst (q := 14) (v := nI 0) dX3_beginsPartition_13 rfl rfl ?_
      refine V_rw (y := bi false) rfl ?_
      refine V_zret (b := false) rfl dX3_beginsPartition_14 rfl rfl ?_
      exact ⟨pvb (by rw [gon_e (by omega) c2]; rfl), rfl⟩
  · skip
    refine V_iconst (q := 5) (v := nI 1) dX3_beginsPartition_4 rfl rfl ?_
    refine V_rw (y := bi true) rfl ?_
    refine V_zret (b := true) rfl dX3_beginsPartition_5 rfl rfl ?_
    exact ⟨pvb (by subst c1; rw [gon_0]; rfl), rfl⟩

set_option maxHeartbeats 4000000 in
set_option maxRecDepth 100000 in
theorem d_numbered {g : GX} {h : AH} {a : Nat} (Y : LA h.1 (hP h) a) {c : Nat} {x : Int32} (hc7 : hI h a 7 = nI c) (hc : c ≤ 16) : Ct g mX3_numbered 0 0 0 [.ref a, .int x] h (fun ρ η => ρ = some (.ref (nbr a c x)) ∧ η = h) := by
  refine Ct_intro (by decide +kernel) (Nat.le_of_ble_eq_true rfl) ?_
  show V g mX3_numbered _ h 0 0 [(0, .ref a), (1, .int x)] 0 []
  refine V_iload_n (j := 1) (q := 1) dX3_numbered_0 rfl rfl ?_
  refine V_if_lt (tgt := 21) (q := 4) dX3_numbered_1 rfl rfl (fun c1 => ?_) (fun c1 => ?_)
  · skip
    rw [i_lt, i_0] at c1
    refine V_aload_n (j := 0) (q := 22) dX3_numbered_21 rfl rfl ?_
    refine V_getP (q := 25) (r := (a + 2)) fX3_18 (Y.1 0 _ rfl) rfl (Y.2.1 1 _ rfl) dX3_numbered_22 rfl ?_
    refine V_aret rfl dX3_numbered_25 rfl rfl ?_
    exact ⟨pva (by unfold nbr; rw [if_neg (by omega)]), rfl⟩
  · skip
    rw [i_lt, i_0] at c1
    refine V_iload_n (j := 1) (q := 5) dX3_numbered_4 rfl rfl ?_
    refine V_aload_n (j := 0) (q := 6) dX3_numbered_5 rfl rfl ?_
    refine V_getI (q := 9) fX3_46 (Y.1 0 _ rfl) rfl dX3_numbered_6 rfl ?_
    refine V_rw (y := nI c) hc7 ?_
    refine V_icmp_ge (tgt := 21) (q := 12) dX3_numbered_9 rfl rfl (fun c2 => ?_) (fun c2 => ?_)
    · skip
      have e9 := i_n (n := c) (by omega)
      simp only [i_lt, i_le, e9] at c2
      refine V_aload_n (j := 0) (q := 22) dX3_numbered_21 rfl rfl ?_
      refine V_getP (q := 25) (r := (a + 2)) fX3_18 (Y.1 0 _ rfl) rfl (Y.2.1 1 _ rfl) dX3_numbered_22 rfl ?_
      refine V_aret rfl dX3_numbered_25 rfl rfl ?_
      exact ⟨pva (by unfold nbr; rw [if_neg (by omega)]), rfl⟩
    · skip
      have e9 := i_n (n := c) (by omega)
      simp only [i_lt, i_le, e9] at c2
      obtain ⟨p, hp, rfl⟩ := i_of (x := x) (n := c) (by omega) (by omega)
      have np := nt_n (n := p) (by omega)
      refine V_aload_n (j := 0) (q := 13) dX3_numbered_12 rfl rfl ?_
      refine V_getP (q := 16) (r := (a + 1)) fX3_11 (Y.1 0 _ rfl) rfl (Y.2.1 0 _ rfl) dX3_numbered_13 rfl ?_
      refine V_iload_n (j := 1) (q := 17) dX3_numbered_16 rfl rfl ?_
      refine V_aald (q := 18) (c := 13) (r := (a + 7 + p)) (by decide) (Y.1 1 _ rfl) (by omega) (by decide) (Y.2.2 _ (by omega)) dX3_numbered_17 rfl ?_
      refine V_goto (q := 25) dX3_numbered_18 rfl ?_
      refine V_aret rfl dX3_numbered_25 rfl rfl ?_
      exact ⟨pva (by rw [nbr_n hp hc]), rfl⟩

set_option maxHeartbeats 4000000 in
set_option maxRecDepth 100000 in
theorem d_holding {g : GX} {h : AH} {a : Nat} (Y : LA h.1 (hP h) a) {k v : Nat} (hk : k < 16) (hv : hP h (a + 3) k = some v) : Ct g mX3_holding 0 0 0 [.ref a, .int (nI k)] h (fun ρ η => ρ = some (.ref v) ∧ η = h) := by
  refine Ct_intro (by decide +kernel) (Nat.le_of_ble_eq_true rfl) ?_
  show V g mX3_holding _ h 0 0 [(0, .ref a), (1, .int (nI k))] 0 []
  refine V_iload_n (j := 1) (q := 1) dX3_holding_0 rfl rfl ?_
  refine V_if_ltN (tgt := 19) (q := 4) dX3_holding_1 rfl rfl (by omega) (fun _ => ?_)
  refine V_iload_n (j := 1) (q := 5) dX3_holding_4 rfl rfl ?_
  refine V_bipush (q := 7) (v := nI 16) dX3_holding_5 rfl (by decide) ?_
  refine V_icmp_geN (tgt := 19) (q := 10) dX3_holding_7 rfl rfl (by omega) (by omega) (fun c2 => ?_) (fun c2 => ?_)
  · skip
    exact absurd c2 (by omega)
  · skip
    refine V_aload_n (j := 0) (q := 11) dX3_holding_10 rfl rfl ?_
    refine V_getP (q := 14) (r := (a + 3)) fX3_22 (Y.1 0 _ rfl) rfl (Y.2.1 2 _ rfl) dX3_holding_11 rfl ?_
    refine V_iload_n (j := 1) (q := 15) dX3_holding_14 rfl rfl ?_
    refine V_aald (q := 16) (c := 13) (r := v) (by decide) (Y.1 3 _ rfl) (by omega) (by decide) hv dX3_holding_15 rfl ?_
    refine V_goto (q := 23) dX3_holding_16 rfl ?_
    refine V_aret rfl dX3_holding_23 rfl rfl ?_
    exact ⟨rfl, rfl⟩

set_option maxHeartbeats 4000000 in
set_option maxRecDepth 100000 in
theorem d_isStart {g : GX} {h : AH} {a : Nat} (Y : LA h.1 (hP h) a) {k v s l : Nat} (hk : k < 16) (hv : hP h (a + 3) k = some v) (hs : h.1[v]? = some (4, 4)) (hl : hI h v 1 = nI l) (h0 : hI h v 0 = nI s) (l1 : 1 ≤ l) (l16 : l ≤ 16) (s16 : s ≤ 16) : Ct g mX3_isStart 1 0 0 [.ref a, .int (nI k)] h (fun ρ η => ρ = some (.int (bi (decide (s = k)))) ∧ η = h) := by
  refine Ct_intro (by decide +kernel) (Nat.le_of_ble_eq_true rfl) ?_
  show V g mX3_isStart _ h 0 0 [(0, .ref a), (1, .int (nI k))] 0 []
  refine V_aload_n (j := 0) (q := 1) dX3_isStart_0 rfl rfl ?_
  refine V_iload_n (j := 1) (q := 2) dX3_isStart_1 rfl rfl ?_
  refine V_cpV (q := 5) (S := []) (v := .ref v) kX3_75 (d_holding Y hk hv) (Y.1 0 _ rfl) rfl rfl rfl dX3_isStart_2 rfl ?_
  refine V_astore_n (q := 6) (L' := [(2, .ref v), (0, .ref a), (1, .int (nI k))]) dX3_isStart_5 rfl rfl rfl ?_
  refine V_aload_n (j := 0) (q := 7) dX3_isStart_6 rfl rfl ?_
  refine V_getI (q := 10) fX3_78 hs rfl dX3_isStart_7 rfl ?_
  refine V_rw (y := nI l) hl ?_
  refine V_if_leN (tgt := 25) (q := 13) dX3_isStart_10 rfl rfl (by omega) (fun c1 => ?_) (fun c1 => ?_)
  · skip
    exact absurd c1 (by omega)
  · skip
    refine V_aload_n (j := 0) (q := 14) dX3_isStart_13 rfl rfl ?_
    refine V_getI (q := 17) fX3_81 hs rfl dX3_isStart_14 rfl ?_
    refine V_rw (y := nI s) h0 ?_
    refine V_iload_n (j := 2) (q := 18) dX3_isStart_17 rfl rfl ?_
    refine V_icmp_neN (tgt := 25) (q := 21) dX3_isStart_18 rfl rfl (by omega) (by omega) (fun c2 => ?_) (fun c2 => ?_)
    · skip
      refine V_iconst (q := 26) (v := nI 0) dX3_isStart_25 rfl rfl ?_
      refine V_rw (y := bi false) rfl ?_
      refine V_zret (b := false) rfl dX3_isStart_26 rfl rfl ?_
      exact ⟨pvb (by simp [c1, c2]), rfl⟩
    · skip
      refine V_iconst (q := 22) (v := nI 1) dX3_isStart_21 rfl rfl ?_
      refine V_goto (q := 26) dX3_isStart_22 rfl ?_
      refine V_rw (y := bi true) rfl ?_
      refine V_zret (b := true) rfl dX3_isStart_26 rfl rfl ?_
      exact ⟨pvb (by simp [c1, c2]), rfl⟩

set_option maxHeartbeats 4000000 in
set_option maxRecDepth 100000 in
theorem lq_form {g : GX} {h : AH} {a : Nat} (Y : LA h.1 (hP h) a) (A : AL a) {P : PG} (ok : OkP P) {r : Nat} : ∀ (t : Nat) (k : Nat) (e : AH), (k ≤ szx P r) → (Fm a (a + 23) h e) → (L1 P r (pNi P) e a) → (L3 P r k e a) → (hI e (a + 2) = hI h (a + 2)) → szx P r - k < t → V g mX3_formPartitions (thM g 2 0 0 (fun ρ η => ρ = none ∧ Fm a (a + 23) h η ∧ L1 P r (pNi P) η a ∧ L3 P r (szx P r) η a ∧ hI η (a + 2) = hI h (a + 2))) e 0 0 [(0, .ref a), (1, .int (nI k))] 2 [] := by
  intro t
  induction t with
  | zero =>
    intro k e hk F L l3 N hfu
    exact absurd hfu (Nat.not_lt_zero _)
  | succ t ih =>
    intro k e hk F L l3 N hfu
    have hY := F.la Y A.2.1 A.2.2
    have hz16 := szx_le ok r
    have hcl := cnt_le P r k
    refine V_iload_n (j := 1) (q := 3) dX3_formPartitions_2 rfl rfl ?_
    refine V_aload_n (j := 0) (q := 4) dX3_formPartitions_3 rfl rfl ?_
    refine V_getI (q := 7) fX3_42 (hY.1 0 _ rfl) rfl dX3_formPartitions_4 rfl ?_
    refine V_rw (y := nI (szx P r)) L.1 ?_
    refine V_icmp_geN (tgt := 88) (q := 10) dX3_formPartitions_7 rfl rfl (by omega) (by omega) (fun c1 => ?_) (fun c1 => ?_)
    · skip
      refine V_vret rfl dX3_formPartitions_88 rfl rfl ?_
      have : k = szx P r := by omega
      subst this
      exact ⟨rfl, F, L, l3, N⟩
    · skip
      have hk16 : k < 16 := by omega
      refine V_aload_n (j := 0) (q := 11) dX3_formPartitions_10 rfl rfl ?_
      refine V_iload_n (j := 1) (q := 12) dX3_formPartitions_11 rfl rfl ?_
      refine V_cpV (q := 15) (S := []) (v := .int (bi (!ptd P r k))) kX3_57 (d_isPadding hY ok L hk16) (hY.1 0 _ rfl) rfl rfl rfl dX3_formPartitions_12 rfl ?_
      refine V_if_neB (tgt := 82) (q := 18) dX3_formPartitions_15 rfl rfl (fun c2 => ?_) (fun c2 => ?_)
      · skip
        refine V_iincN (j := 1) (q := 85) (L' := [(1, .int (nI (k + 1))), (0, .ref a)]) dX3_formPartitions_82 rfl rfl rfl rfl ?_
        refine V_goto (q := 2) dX3_formPartitions_85 rfl ?_
        refine V_sub (L' := [(0, .ref a), (1, .int (nI (k + 1)))]) [1, 0] rfl ?_
        refine ih (k + 1) e ?_ ?_ ?_ ?_ ?_ ?_
        · omega
        · exact F
        · exact L
        · exact L3_pad l3 (by simpa using c2)
        · exact N
        · omega
      · skip
        refine V_aload_n (j := 0) (q := 19) dX3_formPartitions_18 rfl rfl ?_
        refine V_iload_n (j := 1) (q := 20) dX3_formPartitions_19 rfl rfl ?_
        have hp : ptd P r k = true := by simpa using c2
        refine V_cpV (q := 23) (S := []) (v := .int (bi (!gon P r k))) kX3_60 (d_beginsPartition hY ok L hk16 hp) (hY.1 0 _ rfl) rfl rfl rfl dX3_formPartitions_20 rfl ?_
        refine V_if_eqB (tgt := 53) (q := 26) dX3_formPartitions_23 rfl rfl (fun c3 => ?_) (fun c3 => ?_)
        · skip
          have hb : ¬ bgn P r k = true := by rw [bgn_of hp c3]; simp
          have hc0 : cnt P r (k + 1) = cnt P r k := by rw [cnt_s, if_neg hb]
          have hc1 := cnt_pos hp
          obtain ⟨e1, p, l0, he1, F1, LL, hc, hl, G1, G2, G3, G4, G5, N1⟩ : ∃ e1 p l0, e1 = e ∧ Fm a (a + 23) h e1 ∧ L1 P r (pNi P) e1 a ∧ cnt P r (k + 1) = p + 1 ∧ lnf P r (k + 1) p = l0 + 1 ∧ hI e1 a 7 = nI (p + 1) ∧ (hI e1 (a + 7 + p) 0 = nI (bgf P r (k + 1) p) ∧ hI e1 (a + 7 + p) 3 = bi (esc P r)) ∧ (∀ q, q < p → PT e1 (a + 7 + q) (bgf P r k q) (lnf P r k q) (!esc P r && isWn (lnf P r k q)) (esc P r)) ∧ (∀ j, j < 16 → hP e1 (a + 3) j = some (if j < k ∧ ptd P r j = true then a + 7 + pof P r j else a + 2)) ∧ hI e1 (a + 7 + p) 1 = nI l0 ∧ hI e1 (a + 2) = hI h (a + 2) := by
            have hq : cnt P r k - 1 < cnt P r k := by omega
            have hz := l3.2.1 _ hq
            refine ⟨_, cnt P r k - 1, lnf P r k (cnt P r k - 1), rfl, F, L, by omega, ?_, ?_, ⟨?_, hz.2.2.2⟩, fun q hq => l3.2.1 q (by omega), l3.2.2, hz.2.1, N⟩
            · rw [lnf_s, if_pos ⟨hp, by omega⟩, if_neg hb]
            · rw [l3.1]; congr 1; omega
            · rw [bgf_s, if_neg (fun w => hb w.1)]; exact hz.1
          rw [← he1]
          have hY1 := F1.la Y A.2.1 A.2.2
          have G8 : hI e1 a 8 = bi (esc P r) := LL.2.1
          have hp16 : p < 16 := by have := cnt_le P r (k + 1); omega
          have hl16 : l0 ≤ 16 := by have := lnf_le P r (k + 1) p; omega
          refine V_aload_n (j := 0) (q := 54) dX3_formPartitions_53 rfl rfl ?_
          refine V_getP (q := 57) (r := (a + 3)) fX3_22 (hY1.1 0 _ rfl) rfl (hY1.2.1 2 _ rfl) dX3_formPartitions_54 rfl ?_
          refine V_iload_n (j := 1) (q := 58) dX3_formPartitions_57 rfl rfl ?_
          refine V_aload_n (j := 0) (q := 59) dX3_formPartitions_58 rfl rfl ?_
          refine V_aload_n (j := 0) (q := 60) dX3_formPartitions_59 rfl rfl ?_
          refine V_getI (q := 63) fX3_46 (hY1.1 0 _ rfl) rfl dX3_formPartitions_60 rfl ?_
          refine V_rw (y := nI (p + 1)) G1 ?_
          refine V_iconst (q := 64) (v := nI 1) dX3_formPartitions_63 rfl rfl ?_
          refine V_isubN (q := 65) dX3_formPartitions_64 rfl (by omega) ?_
          refine V_rw (y := nI p) rfl ?_
          refine V_cpV (q := 68) (S := [.int (nI k), .ref (a + 3)]) (v := .ref (a + 7 + p)) kX3_67 (by have := d_numbered (g := g) (x := nI p) hY1 G1 (by omega); rw [nbr_n (by omega) (by omega)] at this; exact this) (hY1.1 0 _ rfl) rfl rfl rfl dX3_formPartitions_65 rfl ?_
          refine V_aast (q := 69) (c := 13) (cr := 4) (by decide) (hY1.1 3 _ rfl) (LA_pt hY1 (by omega)) (by omega) (by decide) dX3_formPartitions_68 rfl ?_
          refine V_aload_n (j := 0) (q := 70) dX3_formPartitions_69 rfl rfl ?_
          refine V_getP (q := 73) (r := (a + 3)) fX3_22 (hY1.1 0 _ rfl) rfl (by show hP (sP e1 (a + 3) k (some (a + 7 + p))) a 2 = _; rw [hP_n (by omega)]; exact hY1.2.1 2 _ rfl) dX3_formPartitions_70 rfl ?_
          refine V_iload_n (j := 1) (q := 74) dX3_formPartitions_73 rfl rfl ?_
          refine V_aald (q := 75) (c := 13) (r := (a + 7 + p)) (by decide) (hY1.1 3 _ rfl) (by omega) (by decide) (by rw [hP_s, if_pos ⟨rfl, rfl⟩]) dX3_formPartitions_74 rfl ?_
          refine V_aload_n (j := 0) (q := 76) dX3_formPartitions_75 rfl rfl ?_
          refine V_getI (q := 79) fX3_49 (hY1.1 0 _ rfl) rfl dX3_formPartitions_76 rfl ?_
          refine V_rw (y := bi (esc P r)) G8 ?_
          refine V_callV (q := 82) (S := []) kX3_71 (d_grow (h := (sP e1 (a + 3) k (some (a + 7 + p)))) (l := l0) (LA_pt hY1 (by omega)) G5 (by omega)) (LA_pt hY1 (by omega)) rfl rfl rfl dX3_formPartitions_79 rfl (fun r4 h5 p6 => ?_)
          obtain ⟨rfl, he2⟩ := p6
          have lz := L3_grow hk16 hp hc hl G1 G2 G3 G4 he2
          have FZ : Fm a (a + 23) h h5 := by rw [he2]; exact ((F1.setP (by omega) A.1).setI (by omega)).setI (by omega)
          have LZ : L1 P r (pNi P) h5 a := L1_of LL (fun k _ _ => by rw [he2, hI_n (by omega), hI_n (by omega)]; rfl) (by rw [he2, hI_n (by omega), hI_n (by omega)]; rfl) (by rw [he2, hI_n (by omega), hI_n (by omega)]; rfl) (by rw [he2]; rfl)
          have NZ : hI h5 (a + 2) = hI h (a + 2) := by rw [he2, hI_n (by omega), hI_n (by omega)]; exact N1
          refine V_iincN (j := 1) (q := 85) (L' := [(1, .int (nI (k + 1))), (0, .ref a)]) dX3_formPartitions_82 rfl rfl rfl rfl ?_
          refine V_goto (q := 2) dX3_formPartitions_85 rfl ?_
          refine V_sub (L' := [(0, .ref a), (1, .int (nI (k + 1)))]) [1, 0] rfl ?_
          refine ih (k + 1) h5 ?_ ?_ ?_ ?_ ?_ ?_
          · omega
          · exact FZ
          · exact LZ
          · exact lz
          · exact NZ
          · omega
        · skip
          refine V_aload_n (j := 0) (q := 27) dX3_formPartitions_26 rfl rfl ?_
          refine V_getP (q := 30) (r := (a + 1)) fX3_11 (hY.1 0 _ rfl) rfl (hY.2.1 0 _ rfl) dX3_formPartitions_27 rfl ?_
          refine V_aload_n (j := 0) (q := 31) dX3_formPartitions_30 rfl rfl ?_
          refine V_getI (q := 34) fX3_46 (hY.1 0 _ rfl) rfl dX3_formPartitions_31 rfl ?_
          refine V_rw (y := nI (cnt P r k)) l3.1 ?_
          refine V_aald (q := 35) (c := 13) (r := (a + 7 + (cnt P r k))) (by decide) (hY.1 1 _ rfl) (by omega) (by decide) (hY.2.2 _ (by omega)) dX3_formPartitions_34 rfl ?_
          refine V_iload_n (j := 1) (q := 36) dX3_formPartitions_35 rfl rfl ?_
          refine V_aload_n (j := 0) (q := 37) dX3_formPartitions_36 rfl rfl ?_
          refine V_getI (q := 40) fX3_49 (hY.1 0 _ rfl) rfl dX3_formPartitions_37 rfl ?_
          refine V_rw (y := bi (esc P r)) L.2.1 ?_
          refine V_callV (q := 43) (S := []) kX3_63 (d_beginAt (LA_pt hY (by omega))) (LA_pt hY (by omega)) rfl rfl rfl dX3_formPartitions_40 rfl (fun r7 h8 p9 => ?_)
          obtain ⟨rfl, rfl⟩ := p9
          refine V_aload_n (j := 0) (q := 44) dX3_formPartitions_43 rfl rfl ?_
          refine V_dup (q := 45) dX3_formPartitions_44 rfl rfl ?_
          refine V_getI (q := 48) fX3_46 (hY.1 0 _ rfl) rfl dX3_formPartitions_45 rfl ?_
          refine V_rw (y := nI (cnt P r k)) (by rw [hI_n (by omega), hI_n (by omega), hI_n (by omega)]; exact l3.1) ?_
          refine V_iconst (q := 49) (v := nI 1) dX3_formPartitions_48 rfl rfl ?_
          refine V_iaddN (q := 50) dX3_formPartitions_49 rfl ?_
          refine V_putI (q := 53) wX3_46 (hY.1 0 _ rfl) rfl dX3_formPartitions_50 rfl ?_
          have hb : bgn P r k = true := bgn_of hp c3
          have hc0 : cnt P r (k + 1) = cnt P r k + 1 := by rw [cnt_s, if_pos hb]
          obtain ⟨e1, p, l0, he1, F1, LL, hc, hl, G1, G2, G3, G4, G5, N1⟩ : ∃ e1 p l0, e1 = sI (sI (sI (sI e (a + 7 + cnt P r k) 0 (nI k)) (a + 7 + cnt P r k) 1 (nI 0)) (a + 7 + cnt P r k) 3 (bi (esc P r))) a 7 (nI (cnt P r k + 1)) ∧ Fm a (a + 23) h e1 ∧ L1 P r (pNi P) e1 a ∧ cnt P r (k + 1) = p + 1 ∧ lnf P r (k + 1) p = l0 + 1 ∧ hI e1 a 7 = nI (p + 1) ∧ (hI e1 (a + 7 + p) 0 = nI (bgf P r (k + 1) p) ∧ hI e1 (a + 7 + p) 3 = bi (esc P r)) ∧ (∀ q, q < p → PT e1 (a + 7 + q) (bgf P r k q) (lnf P r k q) (!esc P r && isWn (lnf P r k q)) (esc P r)) ∧ (∀ j, j < 16 → hP e1 (a + 3) j = some (if j < k ∧ ptd P r j = true then a + 7 + pof P r j else a + 2)) ∧ hI e1 (a + 7 + p) 1 = nI l0 ∧ hI e1 (a + 2) = hI h (a + 2) := by
            refine ⟨_, cnt P r k, 0, rfl, (((F.setI (by omega)).setI (by omega)).setI (by omega)).setI (by omega), ?_, hc0, ?_, ?_, ⟨?_, ?_⟩, ?_, ?_, ?_, ?_⟩
            · refine L1_of L (fun j h6 h7 => ?_) ?_ ?_ rfl
              · rw [hI_s, if_neg (by omega), hI_n (by omega), hI_n (by omega), hI_n (by omega)]
              · rw [hI_n (by omega), hI_n (by omega), hI_n (by omega), hI_n (by omega)]
              · rw [hI_n (by omega), hI_n (by omega), hI_n (by omega), hI_n (by omega)]
            · rw [lnf_s, if_pos ⟨hp, hc0.symm⟩, if_pos hb]
            · rw [hI_s, if_pos ⟨rfl, rfl⟩]
            · rw [hI_n (by omega), hI_s, if_neg (by omega), hI_s, if_neg (by omega), hI_s, if_pos ⟨rfl, rfl⟩, bgf_s, if_pos ⟨hb, rfl⟩]
            · rw [hI_n (by omega), hI_s, if_pos ⟨rfl, rfl⟩]
            · intro q hq
              exact PT_of (l3.2.1 q hq) (by rw [hI_n (by omega), hI_n (by omega), hI_n (by omega), hI_n (by omega)])
            · exact l3.2.2
            · rw [hI_n (by omega), hI_s, if_neg (by omega), hI_s, if_pos ⟨rfl, rfl⟩]
            · rw [hI_n (by omega), hI_n (by omega), hI_n (by omega), hI_n (by omega)]; exact N
          rw [← he1]
          have hY1 := F1.la Y A.2.1 A.2.2
          have G8 : hI e1 a 8 = bi (esc P r) := LL.2.1
          have hp16 : p < 16 := by have := cnt_le P r (k + 1); omega
          have hl16 : l0 ≤ 16 := by have := lnf_le P r (k + 1) p; omega
          refine V_aload_n (j := 0) (q := 54) dX3_formPartitions_53 rfl rfl ?_
          refine V_getP (q := 57) (r := (a + 3)) fX3_22 (hY1.1 0 _ rfl) rfl (hY1.2.1 2 _ rfl) dX3_formPartitions_54 rfl ?_
          refine V_iload_n (j := 1) (q := 58) dX3_formPartitions_57 rfl rfl ?_
          refine V_aload_n (j := 0) (q := 59) dX3_formPartitions_58 rfl rfl ?_
          refine V_aload_n (j := 0) (q := 60) dX3_formPartitions_59 rfl rfl ?_
          refine V_getI (q := 63) fX3_46 (hY1.1 0 _ rfl) rfl dX3_formPartitions_60 rfl ?_
          refine V_rw (y := nI (p + 1)) G1 ?_
          refine V_iconst (q := 64) (v := nI 1) dX3_formPartitions_63 rfl rfl ?_
          refine V_isubN (q := 65) dX3_formPartitions_64 rfl (by omega) ?_
          refine V_rw (y := nI p) rfl ?_
          refine V_cpV (q := 68) (S := [.int (nI k), .ref (a + 3)]) (v := .ref (a + 7 + p)) kX3_67 (by have := d_numbered (g := g) (x := nI p) hY1 G1 (by omega); rw [nbr_n (by omega) (by omega)] at this; exact this) (hY1.1 0 _ rfl) rfl rfl rfl dX3_formPartitions_65 rfl ?_
          refine V_aast (q := 69) (c := 13) (cr := 4) (by decide) (hY1.1 3 _ rfl) (LA_pt hY1 (by omega)) (by omega) (by decide) dX3_formPartitions_68 rfl ?_
          refine V_aload_n (j := 0) (q := 70) dX3_formPartitions_69 rfl rfl ?_
          refine V_getP (q := 73) (r := (a + 3)) fX3_22 (hY1.1 0 _ rfl) rfl (by show hP (sP e1 (a + 3) k (some (a + 7 + p))) a 2 = _; rw [hP_n (by omega)]; exact hY1.2.1 2 _ rfl) dX3_formPartitions_70 rfl ?_
          refine V_iload_n (j := 1) (q := 74) dX3_formPartitions_73 rfl rfl ?_
          refine V_aald (q := 75) (c := 13) (r := (a + 7 + p)) (by decide) (hY1.1 3 _ rfl) (by omega) (by decide) (by rw [hP_s, if_pos ⟨rfl, rfl⟩]) dX3_formPartitions_74 rfl ?_
          refine V_aload_n (j := 0) (q := 76) dX3_formPartitions_75 rfl rfl ?_
          refine V_getI (q := 79) fX3_49 (hY1.1 0 _ rfl) rfl dX3_formPartitions_76 rfl ?_
          refine V_rw (y := bi (esc P r)) G8 ?_
          refine V_callV (q := 82) (S := []) kX3_71 (d_grow (h := (sP e1 (a + 3) k (some (a + 7 + p)))) (l := l0) (LA_pt hY1 (by omega)) G5 (by omega)) (LA_pt hY1 (by omega)) rfl rfl rfl dX3_formPartitions_79 rfl (fun r10 h11 p12 => ?_)
          obtain ⟨rfl, he2⟩ := p12
          have lz := L3_grow hk16 hp hc hl G1 G2 G3 G4 he2
          have FZ : Fm a (a + 23) h h11 := by rw [he2]; exact ((F1.setP (by omega) A.1).setI (by omega)).setI (by omega)
          have LZ : L1 P r (pNi P) h11 a := L1_of LL (fun k _ _ => by rw [he2, hI_n (by omega), hI_n (by omega)]; rfl) (by rw [he2, hI_n (by omega), hI_n (by omega)]; rfl) (by rw [he2, hI_n (by omega), hI_n (by omega)]; rfl) (by rw [he2]; rfl)
          have NZ : hI h11 (a + 2) = hI h (a + 2) := by rw [he2, hI_n (by omega), hI_n (by omega)]; exact N1
          refine V_iincN (j := 1) (q := 85) (L' := [(1, .int (nI (k + 1))), (0, .ref a)]) dX3_formPartitions_82 rfl rfl rfl rfl ?_
          refine V_goto (q := 2) dX3_formPartitions_85 rfl ?_
          refine V_sub (L' := [(0, .ref a), (1, .int (nI (k + 1)))]) [1, 0] rfl ?_
          refine ih (k + 1) h11 ?_ ?_ ?_ ?_ ?_ ?_
          · omega
          · exact FZ
          · exact LZ
          · exact lz
          · exact NZ
          · omega

set_option maxHeartbeats 4000000 in
set_option maxRecDepth 100000 in
theorem d_formPartitions {g : GX} {h : AH} {a : Nat} (Y : LA h.1 (hP h) a) (A : AL a) {P : PG} (ok : OkP P) {r : Nat} (L0 : L1 P r (pNi P) h a) (l0 : L3 P r 0 h a) : Ct g mX3_formPartitions 2 0 0 [.ref a] h (fun ρ η => ρ = none ∧ Fm a (a + 23) h η ∧ L1 P r (pNi P) η a ∧ L3 P r (szx P r) η a ∧ hI η (a + 2) = hI h (a + 2)) := by
  refine Ct_intro (by decide +kernel) (Nat.le_of_ble_eq_true rfl) ?_
  show V g mX3_formPartitions _ h 0 0 [(0, .ref a)] 0 []
  refine V_iconst (q := 1) (v := nI 0) dX3_formPartitions_0 rfl rfl ?_
  refine V_istore_n (q := 2) (L' := [(1, .int (nI 0)), (0, .ref a)]) dX3_formPartitions_1 rfl rfl rfl ?_
  refine V_sub (L' := [(0, .ref a), (1, .int (nI 0))]) [1, 0] rfl ?_
  refine lq_form Y A ok (szx P r - 0 + 1) 0 h ?_ ?_ ?_ ?_ ?_ ?_
  · omega
  · exact Fm.rf _ _ _
  · exact L0
  · exact l0
  · rfl
  · exact Nat.lt_succ_self _


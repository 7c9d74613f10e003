theorem bi_or (x y : Bool) : bi x ||| bi y = bi (x || y) := by cases x <;> cases y <;> decide
theorem min16 {z : Nat} (h : z ≤ 16) : (if nI 16 < nI z then nI 16 else nI z) = nI z := by
  rw [if_neg (by rw [nI_ltI (by omega) (by omega)]; omega)]
set_option maxHeartbeats 4000000 in
set_option maxRecDepth 100000 in
theorem d_beginAt {g : GX} {h : AH} {b : Nat} (hs : h.1[b]? = some (4, 4)) {k : Nat} {es : Bool} : Ct g mX4_beginAt 0 0 0 [.ref b, .int (nI k), .int (bi es)] h (fun ρ η => ρ = none ∧ η = sI (sI (sI h b 0 (nI k)) b 1 (nI 0)) b 3 (bi es)) := by
  refine Ct_intro (by decide +kernel) (Nat.le_of_ble_eq_true rfl) ?_
  show V g mX4_beginAt _ h 0 0 [(0, .ref b), (1, .int (nI k)), (2, .int (bi es))] 0 []
  refine V_aload_n (j := 0) (q := 1) dX4_beginAt_0 rfl rfl ?_
  refine V_iload_n (j := 1) (q := 2) dX4_beginAt_1 rfl rfl ?_
  refine V_putI (q := 5) wX4_7 hs rfl dX4_beginAt_2 rfl ?_
  refine V_aload_n (j := 0) (q := 6) dX4_beginAt_5 rfl rfl ?_
  refine V_iconst (q := 7) (v := nI 0) dX4_beginAt_6 rfl rfl ?_
  refine V_putI (q := 10) wX4_13 hs rfl dX4_beginAt_7 rfl ?_
  refine V_aload_n (j := 0) (q := 11) dX4_beginAt_10 rfl rfl ?_
  refine V_iload_n (j := 2) (q := 12) dX4_beginAt_11 rfl rfl ?_
  refine V_putZ (b := es) (q := 15) wX4_16 hs rfl dX4_beginAt_12 rfl ?_
  refine V_vret rfl dX4_beginAt_15 rfl rfl ?_
  exact ⟨rfl, rfl⟩

set_option maxHeartbeats 4000000 in
set_option maxRecDepth 100000 in
theorem d_grow {g : GX} {h : AH} {b : Nat} (hs : h.1[b]? = some (4, 4)) {l : Nat} {es : Bool} (hl : hI h b 1 = nI l) (l16 : l ≤ 16) : Ct g mX4_grow 1 0 0 [.ref b, .int (bi es)] h (fun ρ η => ρ = none ∧ η = sI (sI h b 1 (nI (l + 1))) b 2 (bi (!es && isWn (l + 1)))) := by
  refine Ct_intro (by decide +kernel) (Nat.le_of_ble_eq_true rfl) ?_
  show V g mX4_grow _ h 0 0 [(0, .ref b), (1, .int (bi es))] 0 []
  refine V_aload_n (j := 0) (q := 1) dX4_grow_0 rfl rfl ?_
  refine V_dup (q := 2) dX4_grow_1 rfl rfl ?_
  refine V_getI (q := 5) fX4_13 hs rfl dX4_grow_2 rfl ?_
  refine V_rw (y := nI l) hl ?_
  refine V_iconst (q := 6) (v := nI 1) dX4_grow_5 rfl rfl ?_
  refine V_iaddN (q := 7) dX4_grow_6 rfl ?_
  refine V_putI (q := 10) wX4_13 hs rfl dX4_grow_7 rfl ?_
  refine V_aload_n (j := 0) (q := 11) dX4_grow_10 rfl rfl ?_
  refine V_iload_n (j := 1) (q := 12) dX4_grow_11 rfl rfl ?_
  refine V_if_neB (tgt := 29) (q := 15) dX4_grow_12 rfl rfl (fun c1 => ?_) (fun c1 => ?_)
  · skip
    refine V_iconst (q := 30) (v := nI 0) dX4_grow_29 rfl rfl ?_
    refine V_rw (y := bi false) rfl ?_
    refine V_putZ (b := false) (q := 33) wX4_26 hs rfl dX4_grow_30 rfl ?_
    refine V_vret rfl dX4_grow_33 rfl rfl ?_
    refine ⟨rfl, ?_⟩; first | (rw [isW_n (by omega)] at *; simp [c1]; done) | simp [c1]
  · skip
    refine V_aload_n (j := 0) (q := 16) dX4_grow_15 rfl rfl ?_
    refine V_getI (q := 19) fX4_13 hs rfl dX4_grow_16 rfl ?_
    refine V_rw (y := nI (l + 1)) (by rw [hI_s, if_pos ⟨rfl, rfl⟩]) ?_
    refine V_cpSN (q := 22) (S := [.ref b]) (v := .int (bi (isW (nI (l + 1))))) kX4_20 d_isScalarLength rfl rfl rfl dX4_grow_19 rfl ?_
    refine V_if_eqB (tgt := 29) (q := 25) dX4_grow_22 rfl rfl (fun c2 => ?_) (fun c2 => ?_)
    · skip
      refine V_iconst (q := 30) (v := nI 0) dX4_grow_29 rfl rfl ?_
      refine V_rw (y := bi false) rfl ?_
      refine V_putZ (b := false) (q := 33) wX4_26 hs rfl dX4_grow_30 rfl ?_
      refine V_vret rfl dX4_grow_33 rfl rfl ?_
      refine ⟨rfl, ?_⟩; first | (rw [isW_n (by omega)] at *; simp [c1, c2]; done) | simp [c1, c2]
    · skip
      refine V_iconst (q := 26) (v := nI 1) dX4_grow_25 rfl rfl ?_
      refine V_goto (q := 30) dX4_grow_26 rfl ?_
      refine V_rw (y := bi true) rfl ?_
      refine V_putZ (b := true) (q := 33) wX4_26 hs rfl dX4_grow_30 rfl ?_
      refine V_vret rfl dX4_grow_33 rfl rfl ?_
      refine ⟨rfl, ?_⟩; first | (rw [isW_n (by omega)] at *; simp [c1, c2]; done) | simp [c1, c2]

set_option maxHeartbeats 4000000 in
set_option maxRecDepth 100000 in
theorem d_touchWith {g : GX} {h : AH} {b : Nat} (hs : h.1[b]? = some (4, 4)) {n l : Nat} {f : Bool} (hn : n ≤ 16) (hl : hI h b 1 = nI l) (l16 : l ≤ 16) : Ct g mX4_touchWith 0 0 0 [.ref b, .int (nI n)] h (fun ρ η => ρ = none ∧ η = if n = l then h else sI h b 2 (bi false)) := by
  refine Ct_intro (by decide +kernel) (Nat.le_of_ble_eq_true rfl) ?_
  show V g mX4_touchWith _ h 0 0 [(0, .ref b), (1, .int (nI n))] 0 []
  refine V_iload_n (j := 1) (q := 1) dX4_touchWith_0 rfl rfl ?_
  refine V_aload_n (j := 0) (q := 2) dX4_touchWith_1 rfl rfl ?_
  refine V_getI (q := 5) fX4_13 hs rfl dX4_touchWith_2 rfl ?_
  refine V_rw (y := nI l) hl ?_
  refine V_icmp_eqN (tgt := 13) (q := 8) dX4_touchWith_5 rfl rfl (by omega) (by omega) (fun c1 => ?_) (fun c1 => ?_)
  · skip
    refine V_vret rfl dX4_touchWith_13 rfl rfl ?_
    refine ⟨rfl, ?_⟩; simp [c1]
  · skip
    refine V_aload_n (j := 0) (q := 9) dX4_touchWith_8 rfl rfl ?_
    refine V_iconst (q := 10) (v := nI 0) dX4_touchWith_9 rfl rfl ?_
    refine V_rw (y := bi false) rfl ?_
    refine V_putZ (b := false) (q := 13) wX4_26 hs rfl dX4_touchWith_10 rfl ?_
    refine V_vret rfl dX4_touchWith_13 rfl rfl ?_
    refine ⟨rfl, ?_⟩; simp [c1]

set_option maxHeartbeats 4000000 in
set_option maxRecDepth 100000 in
theorem lq_clear {g : GX} {h : AH} {a : Nat} (Y : LA h.1 (hP h) a) (A : AL a) {z : Nat} (hz : z ≤ 16) : ∀ (t : Nat) (k : Nat) (e : AH), (k ≤ 16) → (Fm a (a + 23) h e) → (∀ b, b ≠ a → b ≠ a + 4 → b ≠ a + 5 → hI e b = hI h b) → (hI e a 6 = nI z) → (hI e a 7 = nI 0) → (hI e a 8 = bi false) → (∀ j, j < k → hP e (a + 3) j = some (a + 2) ∧ hI e (a + 4) j = bi false ∧ hI e (a + 5) j = bi false ∧ hJ e (a + 6) j = 0) → 16 - k < t → V g mX3_clear (thM g 1 0 0 (fun ρ η => ρ = none ∧ Fm a (a + 23) h η ∧ (∀ b, b ≠ a → b ≠ a + 4 → b ≠ a + 5 → hI η b = hI h b) ∧ hI η a 6 = nI z ∧ hI η a 7 = nI 0 ∧ hI η a 8 = bi false ∧ ∀ k, k < 16 → hP η (a + 3) k = some (a + 2) ∧ hI η (a + 4) k = bi false ∧ hI η (a + 5) k = bi false ∧ hJ η (a + 6) k = 0)) e 0 0 [(0, .ref a), (2, .int (nI k))] 22 [] := by
  intro t
  induction t with
  | zero =>
    intro k e hk F E E6 E7 E8 B hfu
    exact absurd hfu (Nat.not_lt_zero _)
  | succ t ih =>
    intro k e hk F E E6 E7 E8 B hfu
    have hY := F.la Y A.2.1 A.2.2
    refine V_iload_n (j := 1) (q := 23) dX3_clear_22 rfl rfl ?_
    refine V_bipush (q := 25) (v := nI 16) dX3_clear_23 rfl (by decide) ?_
    refine V_icmp_geN (tgt := 65) (q := 28) dX3_clear_25 rfl rfl (by omega) (by omega) (fun c1 => ?_) (fun c1 => ?_)
    · skip
      refine V_vret rfl dX3_clear_65 rfl rfl ?_
      exact ⟨rfl, F, E, E6, E7, E8, fun j hj => B j (by omega)⟩
    · skip
      refine V_aload_n (j := 0) (q := 29) dX3_clear_28 rfl rfl ?_
      refine V_getP (q := 32) (r := (a + 3)) fX3_22 (hY.1 0 _ rfl) rfl (hY.2.1 2 _ rfl) dX3_clear_29 rfl ?_
      refine V_iload_n (j := 1) (q := 33) dX3_clear_32 rfl rfl ?_
      refine V_aload_n (j := 0) (q := 34) dX3_clear_33 rfl rfl ?_
      refine V_getP (q := 37) (r := (a + 2)) fX3_18 (hY.1 0 _ rfl) rfl (hY.2.1 1 _ rfl) dX3_clear_34 rfl ?_
      refine V_aast (q := 38) (c := 13) (cr := 4) (by decide) (hY.1 3 _ rfl) (hY.1 2 _ rfl) (by omega) (by decide) dX3_clear_37 rfl ?_
      refine V_aload_n (j := 0) (q := 39) dX3_clear_38 rfl rfl ?_
      refine V_getP (q := 42) (r := (a + 4)) fX3_25 (hY.1 0 _ rfl) rfl (by show hP (sP e (a + 3) k (some (a + 2))) a 3 = _; rw [hP_n (by omega)]; exact hY.2.1 3 _ rfl) dX3_clear_39 rfl ?_
      refine V_iload_n (j := 1) (q := 43) dX3_clear_42 rfl rfl ?_
      refine V_iconst (q := 44) (v := nI 0) dX3_clear_43 rfl rfl ?_
      refine V_rw (y := bi false) rfl ?_
      refine V_zast (b := false) (q := 45) (hY.1 4 _ rfl) (by omega) (by decide) dX3_clear_44 rfl ?_
      refine V_aload_n (j := 0) (q := 46) dX3_clear_45 rfl rfl ?_
      refine V_getP (q := 49) (r := (a + 5)) fX3_29 (hY.1 0 _ rfl) rfl (by show hP (sP e (a + 3) k (some (a + 2))) a 4 = _; rw [hP_n (by omega)]; exact hY.2.1 4 _ rfl) dX3_clear_46 rfl ?_
      refine V_iload_n (j := 1) (q := 50) dX3_clear_49 rfl rfl ?_
      refine V_iconst (q := 51) (v := nI 0) dX3_clear_50 rfl rfl ?_
      refine V_rw (y := bi false) rfl ?_
      refine V_zast (b := false) (q := 52) (hY.1 5 _ rfl) (by omega) (by decide) dX3_clear_51 rfl ?_
      refine V_aload_n (j := 0) (q := 53) dX3_clear_52 rfl rfl ?_
      refine V_getP (q := 56) (r := (a + 6)) fX3_32 (hY.1 0 _ rfl) rfl (by show hP (sP e (a + 3) k (some (a + 2))) a 5 = _; rw [hP_n (by omega)]; exact hY.2.1 5 _ rfl) dX3_clear_53 rfl ?_
      refine V_iload_n (j := 1) (q := 57) dX3_clear_56 rfl rfl ?_
      refine V_lconst (q := 58) (v := 0) dX3_clear_57 rfl rfl ?_
      refine V_last (q := 59) (hY.1 6 _ rfl) (by omega) (by decide) dX3_clear_58 rfl ?_
      refine V_iincN (j := 1) (q := 62) (L' := [(2, .int (nI (k + 1))), (0, .ref a)]) dX3_clear_59 rfl rfl rfl rfl ?_
      refine V_goto (q := 22) dX3_clear_62 rfl ?_
      refine V_sub (L' := [(0, .ref a), (2, .int (nI (k + 1)))]) [1, 0] rfl ?_
      refine ih (k + 1) (sJ (sI (sI (sP e (a + 3) k (some (a + 2))) (a + 4) k (bi false)) (a + 5) k (bi false)) (a + 6) k 0) ?_ ?_ ?_ ?_ ?_ ?_ ?_ ?_
      · omega
      · exact (((F.setP (by omega) A.1).setI (by omega)).setI (by omega)).setJ (by omega)
      · intro b b1 b2 b3; show hI (sI (sI (sP e (a + 3) k (some (a + 2))) (a + 4) k (bi false)) (a + 5) k (bi false)) b = _; rw [hI_n b3, hI_n b2]; exact E b b1 b2 b3
      · show hI (sI (sI (sP e (a + 3) k (some (a + 2))) (a + 4) k (bi false)) (a + 5) k (bi false)) a 6 = _; rw [hI_n (by omega), hI_n (by omega)]; exact E6
      · show hI (sI (sI (sP e (a + 3) k (some (a + 2))) (a + 4) k (bi false)) (a + 5) k (bi false)) a 7 = _; rw [hI_n (by omega), hI_n (by omega)]; exact E7
      · show hI (sI (sI (sP e (a + 3) k (some (a + 2))) (a + 4) k (bi false)) (a + 5) k (bi false)) a 8 = _; rw [hI_n (by omega), hI_n (by omega)]; exact E8
      · intro j hj
        show hP (sP e (a + 3) k (some (a + 2))) (a + 3) j = _ ∧ hI (sI (sI (sP e (a + 3) k (some (a + 2))) (a + 4) k (bi false)) (a + 5) k (bi false)) (a + 4) j = _ ∧ hI (sI (sI (sP e (a + 3) k (some (a + 2))) (a + 4) k (bi false)) (a + 5) k (bi false)) (a + 5) j = _ ∧ hJ (sJ e (a + 6) k 0) (a + 6) j = 0
        rw [hP_s, hI_n (by omega), hI_s, hI_s, hI_n (by omega), hJ_s]
        by_cases y : j = k
        · simp [y]
        · rw [if_neg (fun w => y w.2), if_neg (fun w => y w.2), if_neg (fun w => y w.2), if_neg (fun w => y w.2)]; exact B j (by omega)
      · omega

set_option maxHeartbeats 4000000 in
set_option maxRecDepth 100000 in
theorem d_clear {g : GX} {h : AH} {a : Nat} (Y : LA h.1 (hP h) a) (A : AL a) {z : Nat} (hz : z ≤ 16) : Ct g mX3_clear 1 0 0 [.ref a, .int (nI z)] h (fun ρ η => ρ = none ∧ Fm a (a + 23) h η ∧ (∀ b, b ≠ a → b ≠ a + 4 → b ≠ a + 5 → hI η b = hI h b) ∧ hI η a 6 = nI z ∧ hI η a 7 = nI 0 ∧ hI η a 8 = bi false ∧ ∀ k, k < 16 → hP η (a + 3) k = some (a + 2) ∧ hI η (a + 4) k = bi false ∧ hI η (a + 5) k = bi false ∧ hJ η (a + 6) k = 0) := by
  refine Ct_intro (by decide +kernel) (Nat.le_of_ble_eq_true rfl) ?_
  show V g mX3_clear _ h 0 0 [(0, .ref a), (1, .int (nI z))] 0 []
  refine V_aload_n (j := 0) (q := 1) dX3_clear_0 rfl rfl ?_
  refine V_iload_n (j := 1) (q := 2) dX3_clear_1 rfl rfl ?_
  refine V_bipush (q := 4) (v := nI 16) dX3_clear_2 rfl (by decide) ?_
  refine V_mmin (q := 7) kX3_36 rfl dX3_clear_4 rfl ?_
  refine V_rw (y := nI z) (min16 hz) ?_
  refine V_putI (q := 10) wX3_42 (Y.1 0 _ rfl) rfl dX3_clear_7 rfl ?_
  refine V_aload_n (j := 0) (q := 11) dX3_clear_10 rfl rfl ?_
  refine V_iconst (q := 12) (v := nI 0) dX3_clear_11 rfl rfl ?_
  refine V_putI (q := 15) wX3_46 (Y.1 0 _ rfl) rfl dX3_clear_12 rfl ?_
  refine V_aload_n (j := 0) (q := 16) dX3_clear_15 rfl rfl ?_
  refine V_iconst (q := 17) (v := nI 0) dX3_clear_16 rfl rfl ?_
  refine V_rw (y := bi false) rfl ?_
  refine V_putZ (b := false) (q := 20) wX3_49 (Y.1 0 _ rfl) rfl dX3_clear_17 rfl ?_
  refine V_iconst (q := 21) (v := nI 0) dX3_clear_20 rfl rfl ?_
  refine V_istore_n (q := 22) (L' := [(2, .int (nI 0)), (0, .ref a), (1, .int (nI z))]) dX3_clear_21 rfl rfl rfl ?_
  refine V_sub (L' := [(0, .ref a), (2, .int (nI 0))]) [1, 0] rfl ?_
  refine lq_clear Y A hz (16 - 0 + 1) 0 _ (by decide) (((Fm.rf a (a + 23) h).setI (by omega)).setI (by omega) |>.setI (by omega)) (fun b b1 _ _ => by rw [hI_n b1, hI_n b1, hI_n b1]) ?_ ?_ ?_ (fun j hj => absurd hj (Nat.not_lt_zero _)) (Nat.lt_succ_self _)
  · rw [hI_s, if_neg (by omega), hI_s, if_neg (by omega), hI_s, if_pos ⟨rfl, rfl⟩]
  · rw [hI_s, if_neg (by omega), hI_s, if_pos ⟨rfl, rfl⟩]
  · rw [hI_s, if_pos ⟨rfl, rfl⟩]

set_option maxHeartbeats 4000000 in
set_option maxRecDepth 100000 in
theorem d_isByte {g : GX} {h : AH} {a : Nat} (Y : LA h.1 (hP h) a) {k z : Nat} (hz : hI h a 6 = nI z) (hk : k < z) (z16 : z ≤ 16) : Ct g mX3_isByte 0 0 0 [.ref a, .int (nI k)] h (fun ρ η => ρ = some (.int (bi true)) ∧ η = h) := by
  refine Ct_intro (by decide +kernel) (Nat.le_of_ble_eq_true rfl) ?_
  show V g mX3_isByte _ h 0 0 [(0, .ref a), (1, .int (nI k))] 0 []
  refine V_iload_n (j := 1) (q := 1) dX3_isByte_0 rfl rfl ?_
  refine V_if_ltN (tgt := 16) (q := 4) dX3_isByte_1 rfl rfl (by omega) (fun _ => ?_)
  refine V_iload_n (j := 1) (q := 5) dX3_isByte_4 rfl rfl ?_
  refine V_aload_n (j := 0) (q := 6) dX3_isByte_5 rfl rfl ?_
  refine V_getI (q := 9) fX3_42 (Y.1 0 _ rfl) rfl dX3_isByte_6 rfl ?_
  refine V_rw (y := nI z) hz ?_
  refine V_icmp_geN (tgt := 16) (q := 12) dX3_isByte_9 rfl rfl (by omega) (by omega) (fun c2 => ?_) (fun c2 => ?_)
  · skip
    exact absurd c2 (by omega)
  · skip
    refine V_iconst (q := 13) (v := nI 1) dX3_isByte_12 rfl rfl ?_
    refine V_goto (q := 17) dX3_isByte_13 rfl ?_
    refine V_rw (y := bi true) rfl ?_
    refine V_zret (b := true) rfl dX3_isByte_17 rfl rfl ?_
    exact ⟨rfl, rfl⟩

set_option maxHeartbeats 4000000 in
set_option maxRecDepth 100000 in
theorem lq_addAccess {g : GX} {h : AH} {a : Nat} (Y : LA h.1 (hP h) a) {o l z : Nat} {A J : Nat → Bool} (hz : hI h a 6 = nI z) (ho : o + l ≤ z) (z16 : z ≤ 16) (hA : ∀ k, k < 16 → hI h (a + 4) k = bi (A k)) (hJ0 : ∀ k, k < 16 → hI h (a + 5) k = bi (J k)) : ∀ (t : Nat) (s : Nat) (e : AH), (s ≤ l) → (e.1 = h.1 ∧ hJ e = hJ h ∧ hP e = hP h) → (∀ b, b ≠ a + 4 → b ≠ a + 5 → hI e b = hI h b) → (∀ k, k < 16 → hI e (a + 4) k = bi (A k || hld o s k) ∧ hI e (a + 5) k = bi (J k || (decide (o < k) && decide (k < o + s)))) → l - s < t → V g mX3_addAccess (thM g 1 0 0 (fun ρ η => ρ = none ∧ η.1 = h.1 ∧ hJ η = hJ h ∧ hP η = hP h ∧ (∀ b, b ≠ a + 4 → b ≠ a + 5 → hI η b = hI h b) ∧ ∀ k, k < 16 → hI η (a + 4) k = bi (A k || hld o l k) ∧ hI η (a + 5) k = bi (J k || (decide (o < k) && decide (k < o + l))))) e 0 0 [(0, .ref a), (1, .int (nI o)), (2, .int (nI l)), (3, .int (nI s))] 2 [] := by
  intro t
  induction t with
  | zero =>
    intro s e hs F E E2 hfu
    exact absurd hfu (Nat.not_lt_zero _)
  | succ t ih =>
    intro s e hs F E E2 hfu
    have hY : LA e.1 (hP e) a := by rw [F.1, F.2.2]; exact Y
    have ez : hI e a 6 = nI z := by rw [E a (by omega) (by omega)]; exact hz
    refine V_iload_n (j := 3) (q := 3) dX3_addAccess_2 rfl rfl ?_
    refine V_iload_n (j := 2) (q := 4) dX3_addAccess_3 rfl rfl ?_
    refine V_icmp_geN (tgt := 52) (q := 7) dX3_addAccess_4 rfl rfl (by omega) (by omega) (fun c1 => ?_) (fun c1 => ?_)
    · skip
      refine V_vret rfl dX3_addAccess_52 rfl rfl ?_
      have : s = l := by omega
      subst this
      exact ⟨rfl, F.1, F.2.1, F.2.2, E, E2⟩
    · skip
      refine V_aload_n (j := 0) (q := 8) dX3_addAccess_7 rfl rfl ?_
      refine V_iload_n (j := 1) (q := 9) dX3_addAccess_8 rfl rfl ?_
      refine V_iload_n (j := 3) (q := 10) dX3_addAccess_9 rfl rfl ?_
      refine V_iaddN (q := 11) dX3_addAccess_10 rfl ?_
      refine V_cpV (q := 14) (S := []) (v := .int (bi true)) kX3_53 (d_isByte (k := o + s) hY ez (by omega) z16) (hY.1 0 _ rfl) rfl rfl rfl dX3_addAccess_11 rfl ?_
      refine V_if_eqB (tgt := 46) (q := 17) dX3_addAccess_14 rfl rfl (fun z => absurd z (by decide)) (fun _ => ?_)
      refine V_aload_n (j := 0) (q := 18) dX3_addAccess_17 rfl rfl ?_
      refine V_getP (q := 21) (r := (a + 4)) fX3_25 (hY.1 0 _ rfl) rfl (hY.2.1 3 _ rfl) dX3_addAccess_18 rfl ?_
      refine V_iload_n (j := 1) (q := 22) dX3_addAccess_21 rfl rfl ?_
      refine V_iload_n (j := 3) (q := 23) dX3_addAccess_22 rfl rfl ?_
      refine V_iaddN (q := 24) dX3_addAccess_23 rfl ?_
      refine V_iconst (q := 25) (v := nI 1) dX3_addAccess_24 rfl rfl ?_
      refine V_rw (y := bi true) rfl ?_
      refine V_zast (b := true) (q := 26) (hY.1 4 _ rfl) (by omega) (by decide) dX3_addAccess_25 rfl ?_
      refine V_aload_n (j := 0) (q := 27) dX3_addAccess_26 rfl rfl ?_
      refine V_getP (q := 30) (r := (a + 5)) fX3_29 (hY.1 0 _ rfl) rfl (hY.2.1 4 _ rfl) dX3_addAccess_27 rfl ?_
      refine V_iload_n (j := 1) (q := 31) dX3_addAccess_30 rfl rfl ?_
      refine V_iload_n (j := 3) (q := 32) dX3_addAccess_31 rfl rfl ?_
      refine V_iaddN (q := 33) dX3_addAccess_32 rfl ?_
      refine V_dup2 (q := 34) dX3_addAccess_33 rfl rfl rfl ?_
      refine V_zald (q := 35) (hY.1 5 _ rfl) (by omega) (by decide) dX3_addAccess_34 rfl ?_
      refine V_iload_n (j := 3) (q := 36) dX3_addAccess_35 rfl rfl ?_
      refine V_if_leN (tgt := 43) (q := 39) dX3_addAccess_36 rfl rfl (by omega) (fun c3 => ?_) (fun c3 => ?_)
      · skip
        refine V_iconst (q := 44) (v := nI 0) dX3_addAccess_43 rfl rfl ?_
        refine V_ior (q := 45) dX3_addAccess_44 rfl ?_
        refine V_rw (y := bi (J (o + s) || false)) (by rw [hI_n (by omega), (E2 _ (by omega)).2]; simp [bi_f, bi_t]; first | exact (bi_or (J (o + s)) false) | (cases J (o + s) <;> decide)) ?_
        refine V_zast (b := (J (o + s) || false)) (q := 46) (hY.1 5 _ rfl) (by omega) (by decide) dX3_addAccess_45 rfl ?_
        refine V_iincN (j := 3) (q := 49) (L' := [(3, .int (nI (s + 1))), (0, .ref a), (1, .int (nI o)), (2, .int (nI l))]) dX3_addAccess_46 rfl rfl rfl rfl ?_
        refine V_goto (q := 2) dX3_addAccess_49 rfl ?_
        refine V_sub (L' := [(0, .ref a), (1, .int (nI o)), (2, .int (nI l)), (3, .int (nI (s + 1)))]) [1, 2, 3, 0] rfl ?_
        refine ih (s + 1) (sI (sI e (a + 4) (o + s) (bi true)) (a + 5) (o + s) (bi (J (o + s) || false))) ?_ ?_ ?_ ?_ ?_
        · omega
        · exact F
        · intro b b1 b2; rw [hI_n b2, hI_n b1]; exact E b b1 b2
        · intro k hk
          rw [hI_n (show a + 4 ≠ a + 5 by omega), hI_s, hI_s]
          by_cases y : k = o + s
          · rw [if_pos ⟨rfl, y⟩, if_pos ⟨rfl, y⟩]
            refine ⟨congrArg bi ?_, congrArg bi ?_⟩
            · simp [hld, y]
            · subst y; simp; try omega
          · rw [if_neg (fun w => y w.2), if_neg (fun w => y w.2), hI_n (show a + 5 ≠ a + 4 by omega), (E2 k hk).1, (E2 k hk).2]
            have e1 : (k < o + s) = (k < o + (s + 1)) := propext (by omega)
            refine ⟨congrArg bi ?_, congrArg bi ?_⟩
            · simp only [hld, e1]
            · simp only [e1]
        · omega
      · skip
        refine V_iconst (q := 40) (v := nI 1) dX3_addAccess_39 rfl rfl ?_
        refine V_goto (q := 44) dX3_addAccess_40 rfl ?_
        refine V_ior (q := 45) dX3_addAccess_44 rfl ?_
        refine V_rw (y := bi (J (o + s) || true)) (by rw [hI_n (by omega), (E2 _ (by omega)).2]; simp [bi_f, bi_t]; first | exact (bi_or (J (o + s)) true) | (cases J (o + s) <;> decide)) ?_
        refine V_zast (b := (J (o + s) || true)) (q := 46) (hY.1 5 _ rfl) (by omega) (by decide) dX3_addAccess_45 rfl ?_
        refine V_iincN (j := 3) (q := 49) (L' := [(3, .int (nI (s + 1))), (0, .ref a), (1, .int (nI o)), (2, .int (nI l))]) dX3_addAccess_46 rfl rfl rfl rfl ?_
        refine V_goto (q := 2) dX3_addAccess_49 rfl ?_
        refine V_sub (L' := [(0, .ref a), (1, .int (nI o)), (2, .int (nI l)), (3, .int (nI (s + 1)))]) [1, 2, 3, 0] rfl ?_
        refine ih (s + 1) (sI (sI e (a + 4) (o + s) (bi true)) (a + 5) (o + s) (bi (J (o + s) || true))) ?_ ?_ ?_ ?_ ?_
        · omega
        · exact F
        · intro b b1 b2; rw [hI_n b2, hI_n b1]; exact E b b1 b2
        · intro k hk
          rw [hI_n (show a + 4 ≠ a + 5 by omega), hI_s, hI_s]
          by_cases y : k = o + s
          · rw [if_pos ⟨rfl, y⟩, if_pos ⟨rfl, y⟩]
            refine ⟨congrArg bi ?_, congrArg bi ?_⟩
            · simp [hld, y]
            · subst y; simp; try omega
          · rw [if_neg (fun w => y w.2), if_neg (fun w => y w.2), hI_n (show a + 5 ≠ a + 4 by omega), (E2 k hk).1, (E2 k hk).2]
            have e1 : (k < o + s) = (k < o + (s + 1)) := propext (by omega)
            refine ⟨congrArg bi ?_, congrArg bi ?_⟩
            · simp only [hld, e1]
            · simp only [e1]
        · omega

set_option maxHeartbeats 4000000 in
set_option maxRecDepth 100000 in
theorem d_addAccess {g : GX} {h : AH} {a : Nat} (Y : LA h.1 (hP h) a) {o l z : Nat} {A J : Nat → Bool} (hz : hI h a 6 = nI z) (ho : o + l ≤ z) (z16 : z ≤ 16) (hA : ∀ k, k < 16 → hI h (a + 4) k = bi (A k)) (hJ0 : ∀ k, k < 16 → hI h (a + 5) k = bi (J k)) : Ct g mX3_addAccess 1 0 0 [.ref a, .int (nI o), .int (nI l)] h (fun ρ η => ρ = none ∧ η.1 = h.1 ∧ hJ η = hJ h ∧ hP η = hP h ∧ (∀ b, b ≠ a + 4 → b ≠ a + 5 → hI η b = hI h b) ∧ ∀ k, k < 16 → hI η (a + 4) k = bi (A k || hld o l k) ∧ hI η (a + 5) k = bi (J k || (decide (o < k) && decide (k < o + l)))) := by
  refine Ct_intro (by decide +kernel) (Nat.le_of_ble_eq_true rfl) ?_
  show V g mX3_addAccess _ h 0 0 [(0, .ref a), (1, .int (nI o)), (2, .int (nI l))] 0 []
  refine V_iconst (q := 1) (v := nI 0) dX3_addAccess_0 rfl rfl ?_
  refine V_istore_n (q := 2) (L' := [(3, .int (nI 0)), (0, .ref a), (1, .int (nI o)), (2, .int (nI l))]) dX3_addAccess_1 rfl rfl rfl ?_
  refine V_sub (L' := [(0, .ref a), (1, .int (nI o)), (2, .int (nI l)), (3, .int (nI 0))]) [1, 2, 3, 0] rfl ?_
  refine lq_addAccess Y hz ho z16 hA hJ0 (l - 0 + 1) 0 h ?_ ?_ ?_ ?_ ?_
  · omega
  · exact ⟨rfl, rfl, rfl⟩
  · intro _ _ _; rfl
  · intro k hk; rw [hA k hk, hJ0 k hk]; refine ⟨congrArg bi ?_, congrArg bi ?_⟩ <;> simp [hld] <;> omega
  · exact Nat.lt_succ_self _

set_option maxHeartbeats 4000000 in
set_option maxRecDepth 100000 in
theorem lq_addCopy {g : GX} {h : AH} {a : Nat} (Y : LA h.1 (hP h) a) {o l z : Nat} {R : Nat → Int64} {b : Int64} (hz : hI h a 6 = nI z) (ho : o + l ≤ z) (z16 : z ≤ 16) (hR : ∀ k, k < 16 → hJ h (a + 6) k = R k) : ∀ (t : Nat) (s : Nat) (e : AH), (s ≤ l) → (e.1 = h.1 ∧ hI e = hI h ∧ hP e = hP h) → (∀ b, b ≠ a + 6 → hJ e b = hJ h b) → (∀ k, k < 16 → hJ e (a + 6) k = orB (hld o s k) (R k) b) → l - s < t → V g mX3_addCopyRange (thM g 1 0 0 (fun ρ η => ρ = none ∧ η.1 = h.1 ∧ hI η = hI h ∧ hP η = hP h ∧ (∀ b, b ≠ a + 6 → hJ η b = hJ h b) ∧ ∀ k, k < 16 → hJ η (a + 6) k = orB (hld o l k) (R k) b)) e 0 0 [(0, .ref a), (1, .int (nI o)), (2, .int (nI l)), (3, .long b), (5, .int (nI s))] 3 [] := by
  intro t
  induction t with
  | zero =>
    intro s e hs F E E2 hfu
    exact absurd hfu (Nat.not_lt_zero _)
  | succ t ih =>
    intro s e hs F E E2 hfu
    have hY : LA e.1 (hP e) a := by rw [F.1, F.2.2]; exact Y
    have ez : hI e a 6 = nI z := by rw [F.2.1]; exact hz
    refine V_iload (j := 4) (q := 5) dX3_addCopyRange_3 rfl rfl ?_
    refine V_iload_n (j := 2) (q := 6) dX3_addCopyRange_5 rfl rfl ?_
    refine V_icmp_geN (tgt := 39) (q := 9) dX3_addCopyRange_6 rfl rfl (by omega) (by omega) (fun c1 => ?_) (fun c1 => ?_)
    · skip
      refine V_vret rfl dX3_addCopyRange_39 rfl rfl ?_
      have : s = l := by omega
      subst this
      exact ⟨rfl, F.1, F.2.1, F.2.2, E, E2⟩
    · skip
      refine V_aload_n (j := 0) (q := 10) dX3_addCopyRange_9 rfl rfl ?_
      refine V_iload_n (j := 1) (q := 11) dX3_addCopyRange_10 rfl rfl ?_
      refine V_iload (j := 4) (q := 13) dX3_addCopyRange_11 rfl rfl ?_
      refine V_iaddN (q := 14) dX3_addCopyRange_13 rfl ?_
      refine V_cpV (q := 17) (S := []) (v := .int (bi true)) kX3_53 (d_isByte (k := o + s) hY ez (by omega) z16) (hY.1 0 _ rfl) rfl rfl rfl dX3_addCopyRange_14 rfl ?_
      refine V_if_eqB (tgt := 33) (q := 20) dX3_addCopyRange_17 rfl rfl (fun z => absurd z (by decide)) (fun _ => ?_)
      refine V_aload_n (j := 0) (q := 21) dX3_addCopyRange_20 rfl rfl ?_
      refine V_getP (q := 24) (r := (a + 6)) fX3_32 (hY.1 0 _ rfl) rfl (hY.2.1 5 _ rfl) dX3_addCopyRange_21 rfl ?_
      refine V_iload_n (j := 1) (q := 25) dX3_addCopyRange_24 rfl rfl ?_
      refine V_iload (j := 4) (q := 27) dX3_addCopyRange_25 rfl rfl ?_
      refine V_iaddN (q := 28) dX3_addCopyRange_27 rfl ?_
      refine V_dup2 (q := 29) dX3_addCopyRange_28 rfl rfl rfl ?_
      refine V_lald (q := 30) (hY.1 6 _ rfl) (by omega) (by decide) dX3_addCopyRange_29 rfl ?_
      refine V_lload_n (j := 3) (q := 31) dX3_addCopyRange_30 rfl rfl ?_
      refine V_lor (q := 32) dX3_addCopyRange_31 rfl ?_
      refine V_last (q := 33) (hY.1 6 _ rfl) (by omega) (by decide) dX3_addCopyRange_32 rfl ?_
      refine V_iincN (j := 4) (q := 36) (L' := [(5, .int (nI (s + 1))), (0, .ref a), (1, .int (nI o)), (2, .int (nI l)), (3, .long b)]) dX3_addCopyRange_33 rfl rfl rfl rfl ?_
      refine V_goto (q := 3) dX3_addCopyRange_36 rfl ?_
      refine V_sub (L' := [(0, .ref a), (1, .int (nI o)), (2, .int (nI l)), (3, .long b), (5, .int (nI (s + 1)))]) [1, 2, 3, 4, 0] rfl ?_
      refine ih (s + 1) (sJ e (a + 6) (o + s) ((hJ e (a + 6) (o + s)) ||| b)) ?_ ?_ ?_ ?_ ?_
      · omega
      · exact F
      · intro b b1; rw [hJ_n b1]; exact E b b1
      · intro k hk
        rw [hJ_s]
        by_cases y : k = o + s
        · subst y
          rw [if_pos ⟨rfl, rfl⟩, E2 _ (by omega)]
          have q1 : hld o s (o + s) = false := by simp [hld]
          have q2 : hld o (s + 1) (o + s) = true := by simp [hld]
          rw [q1, q2]; rfl
        · rw [if_neg (fun w => y w.2), E2 k hk]
          have e1 : (k < o + s) = (k < o + (s + 1)) := propext (by omega)
          simp only [hld, e1]
      · omega

set_option maxHeartbeats 4000000 in
set_option maxRecDepth 100000 in
theorem d_addCopyRange {g : GX} {h : AH} {a : Nat} (Y : LA h.1 (hP h) a) {o l z : Nat} {R : Nat → Int64} {b : Int64} (hz : hI h a 6 = nI z) (ho : o + l ≤ z) (z16 : z ≤ 16) (hR : ∀ k, k < 16 → hJ h (a + 6) k = R k) : Ct g mX3_addCopyRange 1 0 0 [.ref a, .int (nI o), .int (nI l), .long b] h (fun ρ η => ρ = none ∧ η.1 = h.1 ∧ hI η = hI h ∧ hP η = hP h ∧ (∀ b, b ≠ a + 6 → hJ η b = hJ h b) ∧ ∀ k, k < 16 → hJ η (a + 6) k = orB (hld o l k) (R k) b) := by
  refine Ct_intro (by decide +kernel) (Nat.le_of_ble_eq_true rfl) ?_
  show V g mX3_addCopyRange _ h 0 0 [(0, .ref a), (1, .int (nI o)), (2, .int (nI l)), (3, .long b)] 0 []
  refine V_iconst (q := 1) (v := nI 0) dX3_addCopyRange_0 rfl rfl ?_
  refine V_istore (q := 3) (L' := [(5, .int (nI 0)), (0, .ref a), (1, .int (nI o)), (2, .int (nI l)), (3, .long b)]) dX3_addCopyRange_1 rfl rfl rfl ?_
  refine V_sub (L' := [(0, .ref a), (1, .int (nI o)), (2, .int (nI l)), (3, .long b), (5, .int (nI 0))]) [1, 2, 3, 4, 0] rfl ?_
  refine lq_addCopy Y hz ho z16 hR (l - 0 + 1) 0 h ?_ ?_ ?_ ?_ ?_
  · omega
  · exact ⟨rfl, rfl, rfl⟩
  · intro _ _; rfl
  · intro k hk; rw [hR k hk]; have q1 : hld o 0 k = false := by (simp [hld]; try omega)
    rw [q1]; rfl
  · exact Nat.lt_succ_self _


set_option maxHeartbeats 4000000 in
set_option maxRecDepth 100000 in
theorem d_addRecord {g : GX} {h : AH} {P : PG} {U : Nat → Nat} (X : CX h P U) {z : Nat} (hr : pNr P < 4) : Ct g mX5_addRecord 0 0 0 [.ref 1, .int (nI z)] h (fun ρ η => ρ = none ∧ η = sI (sI h 2 (pNr P) (nI z)) 1 3 (nI (pNr P + 1))) := by
  refine Ct_intro (by decide +kernel) (Nat.le_of_ble_eq_true rfl) ?_
  show V g mX5_addRecord _ h 0 0 [(0, .ref 1), (1, .int (nI z))] 0 []
  have hN := X.2.2.2.2.1
  have hR := X.2.2.1
  refine V_aload_n (j := 0) (q := 1) dX5_addRecord_0 rfl rfl ?_
  refine V_getI (q := 4) fX5_28 (X.1.1 1 _ s_1) rfl dX5_addRecord_1 rfl ?_
  refine V_rw (y := nI (pNr P)) X.2.1.1 ?_
  refine V_iconst (q := 5) (v := nI 4) dX5_addRecord_4 rfl rfl ?_
  refine V_icmp_geN (tgt := 28) (q := 8) dX5_addRecord_5 rfl rfl (by omega) (by omega) (fun c1 => ?_) (fun c1 => ?_)
  · skip
    exact absurd c1 (by omega)
  · skip
    refine V_aload_n (j := 0) (q := 9) dX5_addRecord_8 rfl rfl ?_
    refine V_getP (q := 12) (r := 2) fX5_9 (X.1.1 1 _ s_1) rfl (X.1.2.1 1 0 _ rfl) dX5_addRecord_9 rfl ?_
    refine V_aload_n (j := 0) (q := 13) dX5_addRecord_12 rfl rfl ?_
    refine V_getI (q := 16) fX5_28 (X.1.1 1 _ s_1) rfl dX5_addRecord_13 rfl ?_
    refine V_rw (y := nI (pNr P)) X.2.1.1 ?_
    refine V_iload_n (j := 1) (q := 17) dX5_addRecord_16 rfl rfl ?_
    refine V_iast (q := 18) (X.1.1 2 _ s_2) (by omega) (by decide) dX5_addRecord_17 rfl ?_
    refine V_aload_n (j := 0) (q := 19) dX5_addRecord_18 rfl rfl ?_
    refine V_dup (q := 20) dX5_addRecord_19 rfl rfl ?_
    refine V_getI (q := 23) fX5_28 (X.1.1 1 _ s_1) rfl dX5_addRecord_20 rfl ?_
    refine V_rw (y := nI (pNr P)) (by rw [hI_n (by decide)]; exact X.2.1.1) ?_
    refine V_iconst (q := 24) (v := nI 1) dX5_addRecord_23 rfl rfl ?_
    refine V_iaddN (q := 25) dX5_addRecord_24 rfl ?_
    refine V_putI (q := 28) wX5_28 (X.1.1 1 _ s_1) rfl dX5_addRecord_25 rfl ?_
    refine V_vret rfl dX5_addRecord_28 rfl rfl ?_
    exact ⟨rfl, rfl⟩

set_option maxHeartbeats 4000000 in
set_option maxRecDepth 100000 in
theorem d_dropRecord {g : GX} {h : AH} {P : PG} {U : Nat → Nat} (X : CX h P U) (hr : 0 < pNr P) : Ct g mX5_dropRecord 0 0 0 [.ref 1] h (fun ρ η => ρ = none ∧ η = sI h 1 3 (nI (pNr P - 1))) := by
  refine Ct_intro (by decide +kernel) (Nat.le_of_ble_eq_true rfl) ?_
  show V g mX5_dropRecord _ h 0 0 [(0, .ref 1)] 0 []
  have hN := X.2.2.2.2.1
  have hR := X.2.2.1
  refine V_aload_n (j := 0) (q := 1) dX5_dropRecord_0 rfl rfl ?_
  refine V_getI (q := 4) fX5_28 (X.1.1 1 _ s_1) rfl dX5_dropRecord_1 rfl ?_
  refine V_rw (y := nI (pNr P)) X.2.1.1 ?_
  refine V_if_leN (tgt := 17) (q := 7) dX5_dropRecord_4 rfl rfl (by omega) (fun c1 => ?_) (fun c1 => ?_)
  · skip
    exact absurd c1 (by omega)
  · skip
    refine V_aload_n (j := 0) (q := 8) dX5_dropRecord_7 rfl rfl ?_
    refine V_dup (q := 9) dX5_dropRecord_8 rfl rfl ?_
    refine V_getI (q := 12) fX5_28 (X.1.1 1 _ s_1) rfl dX5_dropRecord_9 rfl ?_
    refine V_rw (y := nI (pNr P)) X.2.1.1 ?_
    refine V_iconst (q := 13) (v := nI 1) dX5_dropRecord_12 rfl rfl ?_
    refine V_isubN (q := 14) dX5_dropRecord_13 rfl (by omega) ?_
    refine V_putI (q := 17) wX5_28 (X.1.1 1 _ s_1) rfl dX5_dropRecord_14 rfl ?_
    refine V_vret rfl dX5_dropRecord_17 rfl rfl ?_
    exact ⟨rfl, rfl⟩

set_option maxHeartbeats 4000000 in
set_option maxRecDepth 100000 in
theorem lq_insert {g : GX} {h : AH} {P : PG} {U : Nat → Nat} (X : CX h P U) {x u : Nat} {f : Nat → Nat} (hx : x ≤ pNi P) (h24 : pNi P < 24) (N : IN h u f) : ∀ (t : Nat) (p : Nat) (e : AH), (x ≤ p ∧ p ≤ pNi P) → (Fm 3 4 h e) → (∀ i, i < 24 → hP e 3 i = some (if p < i ∧ i ≤ pNi P then U (i - 1) else U i)) → (hI e = hI h ∧ hJ e = hJ h) → p < t → V g mX5_insert (thM g 0 0 0 (fun ρ η => ρ = none ∧ FL3 h η (pNi P + 1) (insU U x u))) e 0 0 [(0, .ref 1), (1, .int (nI x)), (2, .ref u), (3, .int (nI p))] 27 [] := by
  intro t
  induction t with
  | zero =>
    intro p e hp F B E1 hfu
    exact absurd hfu (Nat.not_lt_zero _)
  | succ t ih =>
    intro p e hp F B E1 hfu
    have hN := X.2.2.2.2.1
    have hR := X.2.2.1
    have hC := F.cs X.1
    refine V_iload_n (j := 3) (q := 28) dX5_insert_27 rfl rfl ?_
    refine V_iload_n (j := 1) (q := 29) dX5_insert_28 rfl rfl ?_
    refine V_icmp_leN (tgt := 52) (q := 32) dX5_insert_29 rfl rfl (by omega) (by omega) (fun c1 => ?_) (fun c1 => ?_)
    · skip
      refine V_aload_n (j := 0) (q := 53) dX5_insert_52 rfl rfl ?_
      refine V_getP (q := 56) (r := 3) fX5_17 (hC.1 1 _ s_1) rfl (hC.2.1 1 1 _ rfl) dX5_insert_53 rfl ?_
      refine V_iload_n (j := 1) (q := 57) dX5_insert_56 rfl rfl ?_
      refine V_aload_n (j := 2) (q := 58) dX5_insert_57 rfl rfl ?_
      refine V_aast (q := 59) (c := 12) (cr := 2) (by decide) (hC.1 3 _ s_3) (by rw [F.1]; exact N.2.1) (by omega) (by decide) dX5_insert_58 rfl ?_
      refine V_aload_n (j := 0) (q := 60) dX5_insert_59 rfl rfl ?_
      refine V_dup (q := 61) dX5_insert_60 rfl rfl ?_
      refine V_getI (q := 64) fX5_32 (hC.1 1 _ s_1) rfl dX5_insert_61 rfl ?_
      refine V_rw (y := nI (pNi P)) ((congrFun (congrFun E1.1 1) 4).trans X.2.1.2.1) ?_
      refine V_iconst (q := 65) (v := nI 1) dX5_insert_64 rfl rfl ?_
      refine V_iaddN (q := 66) dX5_insert_65 rfl ?_
      refine V_putI (q := 69) wX5_32 (hC.1 1 _ s_1) rfl dX5_insert_66 rfl ?_
      refine V_vret rfl dX5_insert_69 rfl rfl ?_
      refine ⟨rfl, F.1, fun b hb => ?_, fun k hk => ?_, ?_, E1.2, fun b hb => ?_, fun i hi => ?_⟩
      · rw [hI_n hb]; exact congrFun E1.1 b
      · rw [hI_s, if_neg (fun w => hk w.2)]; exact congrFun (congrFun E1.1 1) k
      · rw [hI_s, if_pos ⟨rfl, rfl⟩]
      · show hP (sP e 3 x (some u)) b = _
        rw [hP_n hb]; exact (F.2.1 b (by omega)).2.2
      · show hP (sP e 3 x (some u)) 3 i = _
        rw [hP_s]
        unfold insU
        by_cases z : i = x
        · rw [if_pos ⟨rfl, z⟩, if_neg (by omega), if_pos z]
        · rw [if_neg (fun w => z w.2), B i hi]; congr 1
          by_cases y : i < x
          · rw [if_neg (by omega), if_pos y]
          · rw [if_neg y, if_neg z]
            by_cases q : i ≤ pNi P
            · rw [if_pos (by omega)]
            · rw [if_neg (by omega), X.2.1.2.2.2.2.2 i (by omega) hi, X.2.1.2.2.2.2.2 (i - 1) (by omega) (by omega)]
    · skip
      refine V_aload_n (j := 0) (q := 33) dX5_insert_32 rfl rfl ?_
      refine V_getP (q := 36) (r := 3) fX5_17 (hC.1 1 _ s_1) rfl (hC.2.1 1 1 _ rfl) dX5_insert_33 rfl ?_
      refine V_iload_n (j := 3) (q := 37) dX5_insert_36 rfl rfl ?_
      refine V_aload_n (j := 0) (q := 38) dX5_insert_37 rfl rfl ?_
      refine V_getP (q := 41) (r := 3) fX5_17 (hC.1 1 _ s_1) rfl (hC.2.1 1 1 _ rfl) dX5_insert_38 rfl ?_
      refine V_iload_n (j := 3) (q := 42) dX5_insert_41 rfl rfl ?_
      refine V_iconst (q := 43) (v := nI 1) dX5_insert_42 rfl rfl ?_
      refine V_isubN (q := 44) dX5_insert_43 rfl (by omega) ?_
      refine V_aald (q := 45) (c := 12) (r := (U (p - 1))) (by decide) (hC.1 3 _ s_3) (by omega) (by decide) (by rw [B _ (by omega), if_neg (by omega)]) dX5_insert_44 rfl ?_
      refine V_aast (q := 46) (c := 12) (cr := 2) (by decide) (hC.1 3 _ s_3) (by rw [F.1]; exact (X.2.1.2.2.2.1 _ (by omega)).2.2.1) (by omega) (by decide) dX5_insert_45 rfl ?_
      refine V_iincM (j := 3) (q := 49) (L' := [(3, .int (nI (p - 1))), (0, .ref 1), (1, .int (nI x)), (2, .ref u)]) dX5_insert_46 rfl rfl (by omega) rfl rfl ?_
      refine V_goto (q := 27) dX5_insert_49 rfl ?_
      refine V_sub (L' := [(0, .ref 1), (1, .int (nI x)), (2, .ref u), (3, .int (nI (p - 1)))]) [1, 2, 3, 0] rfl ?_
      refine ih (p - 1) (sP e 3 p (some (U (p - 1)))) ?_ ?_ ?_ ?_ ?_
      · omega
      · exact F.setP ⟨Nat.le_refl _, by decide⟩ (Or.inl rfl)
      · intro i hi; rw [hP_s]; by_cases z : i = p; (rw [if_pos ⟨rfl, z⟩, if_pos (by omega), z]); (rw [if_neg (fun w => z w.2), B i hi]; congr 1; by_cases y : p < i ∧ i ≤ pNi P; (rw [if_pos y, if_pos (by omega)]); rw [if_neg y, if_neg (by omega)])
      · exact E1
      · omega

set_option maxHeartbeats 4000000 in
set_option maxRecDepth 100000 in
theorem d_insert {g : GX} {h : AH} {P : PG} {U : Nat → Nat} (X : CX h P U) {x u : Nat} {f : Nat → Nat} (hx : x ≤ pNi P) (h24 : pNi P < 24) (N : IN h u f) : Ct g mX5_insert 0 0 0 [.ref 1, .int (nI x), .ref u] h (fun ρ η => ρ = none ∧ FL3 h η (pNi P + 1) (insU U x u)) := by
  refine Ct_intro (by decide +kernel) (Nat.le_of_ble_eq_true rfl) ?_
  show V g mX5_insert _ h 0 0 [(0, .ref 1), (1, .int (nI x)), (2, .ref u)] 0 []
  have hN := X.2.2.2.2.1
  have hR := X.2.2.1
  refine V_iload_n (j := 1) (q := 1) dX5_insert_0 rfl rfl ?_
  refine V_if_ltN (tgt := 21) (q := 4) dX5_insert_1 rfl rfl (by omega) (fun _ => ?_)
  refine V_iload_n (j := 1) (q := 5) dX5_insert_4 rfl rfl ?_
  refine V_aload_n (j := 0) (q := 6) dX5_insert_5 rfl rfl ?_
  refine V_getI (q := 9) fX5_32 (X.1.1 1 _ s_1) rfl dX5_insert_6 rfl ?_
  refine V_rw (y := nI (pNi P)) X.2.1.2.1 ?_
  refine V_icmp_gtN (tgt := 21) (q := 12) dX5_insert_9 rfl rfl (by omega) (by omega) (fun c2 => ?_) (fun c2 => ?_)
  · skip
    exact absurd c2 (by omega)
  · skip
    refine V_aload_n (j := 0) (q := 13) dX5_insert_12 rfl rfl ?_
    refine V_getI (q := 16) fX5_32 (X.1.1 1 _ s_1) rfl dX5_insert_13 rfl ?_
    refine V_rw (y := nI (pNi P)) X.2.1.2.1 ?_
    refine V_bipush (q := 18) (v := nI 24) dX5_insert_16 rfl (by decide) ?_
    refine V_icmp_ltN (tgt := 22) (q := 21) dX5_insert_18 rfl rfl (by omega) (by omega) (fun c3 => ?_) (fun c3 => ?_)
    · skip
      refine V_aload_n (j := 0) (q := 23) dX5_insert_22 rfl rfl ?_
      refine V_getI (q := 26) fX5_32 (X.1.1 1 _ s_1) rfl dX5_insert_23 rfl ?_
      refine V_rw (y := nI (pNi P)) X.2.1.2.1 ?_
      refine V_istore_n (q := 27) (L' := [(3, .int (nI (pNi P))), (0, .ref 1), (1, .int (nI x)), (2, .ref u)]) dX5_insert_26 rfl rfl rfl ?_
      refine V_sub (L' := [(0, .ref 1), (1, .int (nI x)), (2, .ref u), (3, .int (nI (pNi P)))]) [1, 2, 3, 0] rfl ?_
      refine lq_insert X hx h24 N ((pNi P) + 1) (pNi P) h ?_ ?_ ?_ ?_ ?_
      · omega
      · exact Fm.rf 3 4 h
      · intro i hi; rw [if_neg (by omega)]; exact (X.2.1.2.2.2.1 i hi).1
      · exact ⟨rfl, rfl⟩
      · exact Nat.lt_succ_self _
    · skip
      exact absurd c3 (by omega)

set_option maxHeartbeats 4000000 in
set_option maxRecDepth 100000 in
theorem lq_delete {g : GX} {h : AH} {P : PG} {U : Nat → Nat} (X : CX h P U) {x : Nat} (hx : x < pNi P) : ∀ (t : Nat) (p : Nat) (e : AH), (x ≤ p ∧ p + 1 ≤ pNi P) → (Fm 1 4 h e) → (∀ i, i < 24 → hP e 3 i = some (if x ≤ i ∧ i < p then U (i + 1) else U i)) → (hI e 1 4 = nI (pNi P - 1)) → ((∀ b, b ≠ 1 → hI e b = hI h b) ∧ (∀ k, k ≠ 4 → hI e 1 k = hI h 1 k) ∧ hJ e = hJ h ∧ ∀ b, b ≠ 3 → hP e b = hP h b) → pNi P - p < t → V g mX5_delete (thM g 1 0 0 (fun ρ η => ρ = none ∧ FL3 h η (pNi P - 1) (delU U (pNi P) x))) e 0 0 [(0, .ref 1), (1, .int (nI x)), (2, .int (nI p))] 21 [] := by
  intro t
  induction t with
  | zero =>
    intro p e hp F B E1 E2 hfu
    exact absurd hfu (Nat.not_lt_zero _)
  | succ t ih =>
    intro p e hp F B E1 E2 hfu
    have hN := X.2.2.2.2.1
    have hR := X.2.2.1
    have hC := F.cs X.1
    refine V_iload_n (j := 2) (q := 22) dX5_delete_21 rfl rfl ?_
    refine V_aload_n (j := 0) (q := 23) dX5_delete_22 rfl rfl ?_
    refine V_getI (q := 26) fX5_32 (hC.1 1 _ s_1) rfl dX5_delete_23 rfl ?_
    refine V_rw (y := nI (pNi P - 1)) E1 ?_
    refine V_icmp_geN (tgt := 49) (q := 29) dX5_delete_26 rfl rfl (by omega) (by omega) (fun c1 => ?_) (fun c1 => ?_)
    · skip
      refine V_aload_n (j := 0) (q := 50) dX5_delete_49 rfl rfl ?_
      refine V_getP (q := 53) (r := 3) fX5_17 (hC.1 1 _ s_1) rfl (hC.2.1 1 1 _ rfl) dX5_delete_50 rfl ?_
      refine V_aload_n (j := 0) (q := 54) dX5_delete_53 rfl rfl ?_
      refine V_getI (q := 57) fX5_32 (hC.1 1 _ s_1) rfl dX5_delete_54 rfl ?_
      refine V_rw (y := nI (pNi P - 1)) E1 ?_
      refine V_aload_n (j := 0) (q := 58) dX5_delete_57 rfl rfl ?_
      refine V_getP (q := 61) (r := 4) fX5_24 (hC.1 1 _ s_1) rfl (hC.2.1 1 2 _ rfl) dX5_delete_58 rfl ?_
      refine V_aast (q := 62) (c := 12) (cr := 2) (by decide) (hC.1 3 _ s_3) (hC.1 4 _ s_4) (by omega) (by decide) dX5_delete_61 rfl ?_
      refine V_vret rfl dX5_delete_62 rfl rfl ?_
      refine ⟨rfl, F.1, E2.1, E2.2.1, E1, E2.2.2.1, fun b hb => by rw [hP_n hb]; exact E2.2.2.2 b hb, fun i hi => ?_⟩
      rw [hP_s]
      unfold delU
      by_cases z : i = pNi P - 1
      · rw [if_pos ⟨rfl, z⟩, if_neg (by omega), if_neg (by omega)]
      · rw [if_neg (fun w => z w.2), B i hi]; congr 1
        by_cases y : i < x
        · rw [if_neg (by omega), if_pos y]
        · rw [if_neg y]
          by_cases q : i + 1 < pNi P
          · rw [if_pos (by omega), if_pos q]
          · rw [if_neg (by omega), if_neg q]; exact X.2.1.2.2.2.2.2 i (by omega) hi
    · skip
      refine V_aload_n (j := 0) (q := 30) dX5_delete_29 rfl rfl ?_
      refine V_getP (q := 33) (r := 3) fX5_17 (hC.1 1 _ s_1) rfl (hC.2.1 1 1 _ rfl) dX5_delete_30 rfl ?_
      refine V_iload_n (j := 2) (q := 34) dX5_delete_33 rfl rfl ?_
      refine V_aload_n (j := 0) (q := 35) dX5_delete_34 rfl rfl ?_
      refine V_getP (q := 38) (r := 3) fX5_17 (hC.1 1 _ s_1) rfl (hC.2.1 1 1 _ rfl) dX5_delete_35 rfl ?_
      refine V_iload_n (j := 2) (q := 39) dX5_delete_38 rfl rfl ?_
      refine V_iconst (q := 40) (v := nI 1) dX5_delete_39 rfl rfl ?_
      refine V_iaddN (q := 41) dX5_delete_40 rfl ?_
      refine V_aald (q := 42) (c := 12) (r := (U (p + 1))) (by decide) (hC.1 3 _ s_3) (by omega) (by decide) (by rw [B _ (by omega), if_neg (by omega)]) dX5_delete_41 rfl ?_
      refine V_aast (q := 43) (c := 12) (cr := 2) (by decide) (hC.1 3 _ s_3) (by rw [F.1]; exact (X.2.1.2.2.2.1 _ (by omega)).2.2.1) (by omega) (by decide) dX5_delete_42 rfl ?_
      refine V_iincN (j := 2) (q := 46) (L' := [(2, .int (nI (p + 1))), (0, .ref 1), (1, .int (nI x))]) dX5_delete_43 rfl rfl rfl rfl ?_
      refine V_goto (q := 21) dX5_delete_46 rfl ?_
      refine V_sub (L' := [(0, .ref 1), (1, .int (nI x)), (2, .int (nI (p + 1)))]) [1, 2, 0] rfl ?_
      refine ih (p + 1) (sP e 3 p (some (U (p + 1)))) ?_ ?_ ?_ ?_ ?_ ?_
      · omega
      · exact F.setP ⟨by decide, by decide⟩ (Or.inl rfl)
      · intro i hi; rw [hP_s]; by_cases z : i = p; (rw [if_pos ⟨rfl, z⟩, if_pos (by omega), z]); (rw [if_neg (fun w => z w.2), B i hi]; congr 1; by_cases y : x ≤ i ∧ i < p; (rw [if_pos y, if_pos (by omega)]); rw [if_neg y, if_neg (by omega)])
      · exact E1
      · exact ⟨E2.1, E2.2.1, E2.2.2.1, fun b hb => by rw [hP_n hb]; exact E2.2.2.2 b hb⟩
      · omega

set_option maxHeartbeats 4000000 in
set_option maxRecDepth 100000 in
theorem d_delete {g : GX} {h : AH} {P : PG} {U : Nat → Nat} (X : CX h P U) {x : Nat} (hx : x < pNi P) : Ct g mX5_delete 1 0 0 [.ref 1, .int (nI x)] h (fun ρ η => ρ = none ∧ FL3 h η (pNi P - 1) (delU U (pNi P) x)) := by
  refine Ct_intro (by decide +kernel) (Nat.le_of_ble_eq_true rfl) ?_
  show V g mX5_delete _ h 0 0 [(0, .ref 1), (1, .int (nI x))] 0 []
  have hN := X.2.2.2.2.1
  have hR := X.2.2.1
  refine V_aload_n (j := 0) (q := 1) dX5_delete_0 rfl rfl ?_
  refine V_iload_n (j := 1) (q := 2) dX5_delete_1 rfl rfl ?_
  refine V_cpV (q := 5) (S := []) (v := .int (bi (isI P (nI x)))) kX5_43 (d_hasInstruction (x := nI x) X) (X.1.1 1 _ s_1) rfl rfl rfl dX5_delete_2 rfl ?_
  refine V_if_neB (tgt := 9) (q := 8) dX5_delete_5 rfl rfl (fun c1 => ?_) (fun c1 => ?_)
  · skip
    refine V_aload_n (j := 0) (q := 10) dX5_delete_9 rfl rfl ?_
    refine V_dup (q := 11) dX5_delete_10 rfl rfl ?_
    refine V_getI (q := 14) fX5_32 (X.1.1 1 _ s_1) rfl dX5_delete_11 rfl ?_
    refine V_rw (y := nI (pNi P)) X.2.1.2.1 ?_
    refine V_iconst (q := 15) (v := nI 1) dX5_delete_14 rfl rfl ?_
    refine V_isubN (q := 16) dX5_delete_15 rfl (by omega) ?_
    refine V_putI (q := 19) wX5_32 (X.1.1 1 _ s_1) rfl dX5_delete_16 rfl ?_
    refine V_iload_n (j := 1) (q := 20) dX5_delete_19 rfl rfl ?_
    refine V_istore_n (q := 21) (L' := [(2, .int (nI x)), (0, .ref 1), (1, .int (nI x))]) dX5_delete_20 rfl rfl rfl ?_
    refine V_sub (L' := [(0, .ref 1), (1, .int (nI x)), (2, .int (nI x))]) [1, 2, 0] rfl ?_
    refine lq_delete X hx (pNi P - x + 1) x _ (by omega) ((Fm.rf 1 4 h).setI ⟨by decide, by decide⟩) (fun i hi => ?_) (by rw [hI_s, if_pos ⟨rfl, rfl⟩]) ⟨fun b hb => hI_n hb, fun k hk => by rw [hI_s, if_neg (fun w => hk w.2)], rfl, fun _ _ => rfl⟩ (Nat.lt_succ_self _)
    rw [if_neg (by omega)]; exact (X.2.1.2.2.2.1 i hi).1
  · skip
    rw [isI_n hx (by omega)] at c1
    cases c1

theorem min_npk {c : Nat} (h : c ≤ 8) : (if nI 8 < nI (c + 1) then nI 8 else nI (c + 1)) = nI (npk c) := by
  unfold npk
  by_cases z : c = 8
  · rw [if_pos z, if_pos (by rw [z]; decide)]
  · rw [if_neg z, if_neg (by rw [nI_ltI (by omega) (by omega)]; omega)]
set_option maxHeartbeats 4000000 in
set_option maxRecDepth 100000 in
theorem d_note {g : GX} {h : AH} (X : CS h.1 (hP h)) {P : PG} {K : Nat → PG} {c t u : Nat} {kd ps : Int32} (H : CH h P K c t) {f : Nat → Nat} (N : h.1[u]? = some (2, 10)) : Ct g mX1_note 1 0 0 [.ref 5, .int kd, .int ps, .ref u] h (fun ρ η => ρ = none ∧ η = sI (sI (sP (sI (sI h 6 t kd) 7 t ps) 8 t (some u)) 5 3 (nI ((t + 1) % 8))) 5 4 (nI (npk c))) := by
  refine Ct_intro (by decide +kernel) (Nat.le_of_ble_eq_true rfl) ?_
  show V g mX1_note _ h 0 0 [(0, .ref 5), (1, .int kd), (2, .int ps), (3, .ref u)] 0 []
  have ht := H.1
  have hc8 := H.2.2.2.1
  refine V_aload_n (j := 0) (q := 1) dX1_note_0 rfl rfl ?_
  refine V_getP (q := 4) (r := 6) fX1_9 (X.1 5 _ s_5) rfl (X.2.1 5 0 _ rfl) dX1_note_1 rfl ?_
  refine V_aload_n (j := 0) (q := 5) dX1_note_4 rfl rfl ?_
  refine V_getI (q := 8) fX1_24 (X.1 5 _ s_5) rfl dX1_note_5 rfl ?_
  refine V_rw (y := nI t) H.2.1 ?_
  refine V_iload_n (j := 1) (q := 9) dX1_note_8 rfl rfl ?_
  refine V_iast (q := 10) (X.1 6 _ s_6) (by omega) (by decide) dX1_note_9 rfl ?_
  refine V_aload_n (j := 0) (q := 11) dX1_note_10 rfl rfl ?_
  refine V_getP (q := 14) (r := 7) fX1_15 (X.1 5 _ s_5) rfl (X.2.1 5 1 _ rfl) dX1_note_11 rfl ?_
  refine V_aload_n (j := 0) (q := 15) dX1_note_14 rfl rfl ?_
  refine V_getI (q := 18) fX1_24 (X.1 5 _ s_5) rfl dX1_note_15 rfl ?_
  refine V_rw (y := nI t) H.2.1 ?_
  refine V_iload_n (j := 2) (q := 19) dX1_note_18 rfl rfl ?_
  refine V_iast (q := 20) (X.1 7 _ s_7) (by omega) (by decide) dX1_note_19 rfl ?_
  refine V_aload_n (j := 0) (q := 21) dX1_note_20 rfl rfl ?_
  refine V_getP (q := 24) (r := 8) fX1_20 (X.1 5 _ s_5) rfl (X.2.1 5 2 _ rfl) dX1_note_21 rfl ?_
  refine V_aload_n (j := 0) (q := 25) dX1_note_24 rfl rfl ?_
  refine V_getI (q := 28) fX1_24 (X.1 5 _ s_5) rfl dX1_note_25 rfl ?_
  refine V_rw (y := nI t) H.2.1 ?_
  refine V_aload_n (j := 3) (q := 29) dX1_note_28 rfl rfl ?_
  refine V_aast (q := 30) (c := 12) (cr := 2) (by decide) (X.1 8 _ s_8) N (by omega) (by decide) dX1_note_29 rfl ?_
  refine V_aload_n (j := 0) (q := 31) dX1_note_30 rfl rfl ?_
  refine V_aload_n (j := 0) (q := 32) dX1_note_31 rfl rfl ?_
  refine V_getI (q := 35) fX1_24 (X.1 5 _ s_5) rfl dX1_note_32 rfl ?_
  refine V_rw (y := nI t) H.2.1 ?_
  refine V_iconst (q := 36) (v := nI 1) dX1_note_35 rfl rfl ?_
  refine V_iaddN (q := 37) dX1_note_36 rfl ?_
  refine V_bipush (q := 39) (v := nI 8) dX1_note_37 rfl (by decide) ?_
  refine V_iremN (q := 40) dX1_note_39 rfl (by omega) (by omega) (by omega) ?_
  refine V_putI (q := 43) wX1_24 (X.1 5 _ s_5) rfl dX1_note_40 rfl ?_
  refine V_aload_n (j := 0) (q := 44) dX1_note_43 rfl rfl ?_
  refine V_aload_n (j := 0) (q := 45) dX1_note_44 rfl rfl ?_
  refine V_getI (q := 48) fX1_28 (X.1 5 _ s_5) rfl dX1_note_45 rfl ?_
  refine V_rw (y := nI c) (by rw [hI_s, if_neg (by omega)]; exact H.2.2.1) ?_
  refine V_iconst (q := 49) (v := nI 1) dX1_note_48 rfl rfl ?_
  refine V_iaddN (q := 50) dX1_note_49 rfl ?_
  refine V_bipush (q := 52) (v := nI 8) dX1_note_50 rfl (by decide) ?_
  refine V_mmin (q := 55) kX1_31 rfl dX1_note_52 rfl ?_
  refine V_rw (y := nI (npk c)) (min_npk hc8) ?_
  refine V_putI (q := 58) wX1_28 (X.1 5 _ s_5) rfl dX1_note_55 rfl ?_
  refine V_vret rfl dX1_note_58 rfl rfl ?_
  exact ⟨rfl, rfl⟩


set_option maxHeartbeats 4000000 in
set_option maxRecDepth 100000 in
theorem lq_exec {g : GX} {h : AH} {P : PG} {U : Nat → Nat} (X : CX h P U) (A : AC P h) {tr : Bool} : ∀ (t : Nat) (i : Nat) (rs : Nat) (s : RSt) (e : AH), (i ≤ pNi P) → (FRn h e) → (CR e tr rs s) → (sN s ≤ i) → (rs ≤ 40) → (rnF P tr (pNi P) (nx i rs) s = run P tr) → pNi P - i < t → V g mX6_execute (thM g 4 0 0 (fun ρ η => ρ = none ∧ FRn h η ∧ (∃ rs, CR η tr rs (run P tr)) ∧ sN (run P tr) ≤ 24)) e 0 0 [(0, .ref 151), (1, .int (bi tr)), (2, .int (nI i))] 7 [] := by
  intro t
  induction t with
  | zero =>
    intro i rs s e hi F R hs hrs Q hfu
    exact absurd hfu (Nat.not_lt_zero _)
  | succ t ih =>
    intro i rs s e hi F R hs hrs Q hfu
    have hN := X.2.2.2.2.1
    have X1 := F.cx X
    have A1 := F.ac X.2.2 A
    have hC := X1.1
    refine V_iload_n (j := 2) (q := 8) dX6_execute_7 rfl rfl ?_
    refine V_aload_n (j := 0) (q := 9) dX6_execute_8 rfl rfl ?_
    refine V_getP (q := 12) (r := 1) fX6_23 (hC.1 151 _ s_151) rfl (hC.2.1 151 0 _ rfl) dX6_execute_9 rfl ?_
    refine V_getI (q := 15) fX6_35 (hC.1 1 _ s_1) rfl dX6_execute_12 rfl ?_
    refine V_rw (y := nI (pNi P)) X1.2.1.2.1 ?_
    refine V_icmp_geN (tgt := 54) (q := 18) dX6_execute_15 rfl rfl (by omega) (by omega) (fun c1 => ?_) (fun c1 => ?_)
    · skip
      refine V_vret rfl dX6_execute_54 rfl rfl ?_
      have es := run_end Q (Or.inl c1)
      rw [← es]
      exact ⟨rfl, F, ⟨rs, R⟩, by omega⟩
    · skip
      refine V_aload_n (j := 0) (q := 19) dX6_execute_18 rfl rfl ?_
      refine V_getI (q := 22) fX6_41 (hC.1 151 _ s_151) rfl dX6_execute_19 rfl ?_
      refine V_rw (y := sT s) R.2.2.2.2.2.2.1 ?_
      refine V_bipush (q := 24) (v := (-9)) dX6_execute_22 rfl (by decide) ?_
      refine V_icmp_ne (tgt := 54) (q := 27) dX6_execute_24 rfl rfl (fun c2 => ?_) (fun c2 => ?_)
      · skip
        refine V_vret rfl dX6_execute_54 rfl rfl ?_
        have es := run_end Q (Or.inr c2)
        rw [← es]
        exact ⟨rfl, F, ⟨rs, R⟩, by omega⟩
      · skip
        refine V_iload_n (j := 2) (q := 28) dX6_execute_27 rfl rfl ?_
        refine V_aload_n (j := 0) (q := 29) dX6_execute_28 rfl rfl ?_
        refine V_getI (q := 32) fX6_44 (hC.1 151 _ s_151) rfl dX6_execute_29 rfl ?_
        refine V_rw (y := nI rs) R.2.2.2.2.2.2.2.2 ?_
        refine V_icmp_ltN (tgt := 48) (q := 35) dX6_execute_32 rfl rfl (by omega) (by omega) (fun c3 => ?_) (fun c3 => ?_)
        · skip
          refine V_iincN (j := 2) (q := 51) (L' := [(2, .int (nI (i + 1))), (0, .ref 151), (1, .int (bi tr))]) dX6_execute_48 rfl rfl rfl rfl ?_
          refine V_goto (q := 7) dX6_execute_51 rfl ?_
          refine V_sub (L' := [(0, .ref 151), (1, .int (bi tr)), (2, .int (nI (i + 1)))]) [1, 2, 0] rfl ?_
          refine ih (i + 1) rs s e ?_ ?_ ?_ ?_ ?_ ?_ ?_
          · omega
          · exact F
          · exact R
          · omega
          · exact hrs
          · rw [nx_go c3]; exact Q
          · omega
        · skip
          refine V_aload_n (j := 0) (q := 36) dX6_execute_35 rfl rfl ?_
          refine V_aload_n (j := 0) (q := 37) dX6_execute_36 rfl rfl ?_
          refine V_getP (q := 40) (r := 1) fX6_23 (hC.1 151 _ s_151) rfl (hC.2.1 151 0 _ rfl) dX6_execute_37 rfl ?_
          refine V_iload_n (j := 2) (q := 41) dX6_execute_40 rfl rfl ?_
          refine V_cpV (q := 44) (S := [.ref 151]) (v := .ref (U i)) kX6_47 (by have := d_at (g := g) (x := nI i) X1; rw [uat_n (by omega) (by omega)] at this; exact this) (hC.1 1 _ s_1) rfl rfl rfl dX6_execute_41 rfl ?_
          refine V_iload_n (j := 2) (q := 45) dX6_execute_44 rfl rfl ?_
          refine V_callV (q := 48) (S := []) kX6_51 (d_perform X1 (n := i) (by omega) A1 R hs c2) (hC.1 151 _ s_151) rfl rfl rfl dX6_execute_45 rfl (fun r4 h5 p6 => ?_)
          obtain ⟨rfl, F2, R2⟩ := p6
          refine V_iincN (j := 2) (q := 51) (L' := [(2, .int (nI (i + 1))), (0, .ref 151), (1, .int (bi tr))]) dX6_execute_48 rfl rfl rfl rfl ?_
          refine V_goto (q := 7) dX6_execute_51 rfl ?_
          refine V_sub (L' := [(0, .ref 151), (1, .int (bi tr)), (2, .int (nI (i + 1)))]) [1, 2, 0] rfl ?_
          refine ih (i + 1) (rsm P i rs s) (stp P tr i s) h5 ?_ ?_ ?_ ?_ ?_ ?_ ?_
          · omega
          · exact F.tr F2
          · exact R2
          · have := sN_stp P tr i s; omega
          · exact rsm_le X.2.2 (by omega) hrs
          · exact run_step X.2.2 (by omega) (by omega) c2 Q
          · omega

set_option maxHeartbeats 4000000 in
set_option maxRecDepth 100000 in
theorem d_execute {g : GX} {h : AH} {P : PG} {U : Nat → Nat} (X : CX h P U) (A : AC P h) {tr : Bool} : Ct g mX6_execute 4 0 0 [.ref 151, .int (bi tr)] h (fun ρ η => ρ = none ∧ FRn h η ∧ (∃ rs, CR η tr rs (run P tr)) ∧ sN (run P tr) ≤ 24) := by
  refine Ct_intro (by decide +kernel) (Nat.le_of_ble_eq_true rfl) ?_
  show V g mX6_execute _ h 0 0 [(0, .ref 151), (1, .int (bi tr))] 0 []
  refine V_aload_n (j := 0) (q := 1) dX6_execute_0 rfl rfl ?_
  refine V_iload_n (j := 1) (q := 2) dX6_execute_1 rfl rfl ?_
  refine V_callV (q := 5) (S := []) kX6_31 (d_rclear X.1 (tr := tr)) (X.1.1 151 _ s_151) rfl rfl rfl dX6_execute_2 rfl (fun r1 h2 p3 => ?_)
  obtain ⟨rfl, F0, R0⟩ := p3
  refine V_iconst (q := 6) (v := nI 0) dX6_execute_5 rfl rfl ?_
  refine V_istore_n (q := 7) (L' := [(2, .int (nI 0)), (0, .ref 151), (1, .int (bi tr))]) dX6_execute_6 rfl rfl rfl ?_
  refine V_sub (L' := [(0, .ref 151), (1, .int (bi tr)), (2, .int (nI 0))]) [1, 2, 0] rfl ?_
  exact lq_exec X A (pNi P - 0 + 1) 0 0 rs0 h2 (Nat.zero_le _) F0 R0 (Nat.le_refl 0) (by decide) rfl (Nat.lt_succ_self _)


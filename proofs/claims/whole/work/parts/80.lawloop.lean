set_option maxHeartbeats 4000000 in
set_option maxRecDepth 100000 in
theorem lq_law {g : GX} {N : Nat} {xs : Nat → Int32} (hN : N ≤ 3072) : ∀ (t : Nat) (i : Nat) (e : AH) (σ : GS), (i ≤ N) → (CG e σ) → (RH e 159 σ) → N - i < t → V g mL_law (thL g N xs) e (171 + i) (3174 + 10 * i) [(0, .float 0), (1, .ref 0), (2, .ref 159), (3, .int (nI i))] 18 [] := by
  intro t
  induction t with
  | zero =>
    intro i e σ hi G H hfu
    exact absurd hfu (Nat.not_lt_zero _)
  | succ t ih =>
    intro i e σ hi G H hfu
    refine V_iload_n (j := 3) (q := 19) dL_law_18 rfl rfl ?_
    refine V_sload_n (j := 0) (q := 20) dL_law_19 rfl rfl ?_
    refine V_slen (q := 21) dL_law_20 rfl ?_
    refine V_bipush (q := 23) (v := nI 6) dL_law_21 rfl (by decide) ?_
    refine V_isub (q := 24) dL_law_23 rfl ?_
    refine V_icmp_gt (tgt := 977) (q := 27) dL_law_24 rfl rfl (fun c1 => ?_) (fun c1 => ?_)
    · skip
      have es : (nI N - nI 6).toInt = (N : Int) - 6 := by rw [i_sub, i_n (by omega), i_n (by omega)]; rfl; rw [i_n (by omega), i_n (by omega)]; omega
      rw [i_lt, es, i_n (by omega)] at c1
      refine V_iconst (q := 978) (v := nI 1) dL_law_977 rfl rfl ?_
      exact V_lawret (by omega) (by omega)
    · skip
      have es : (nI N - nI 6).toInt = (N : Int) - 6 := by rw [i_sub, i_n (by omega), i_n (by omega)]; rfl; rw [i_n (by omega), i_n (by omega)]; omega
      rw [i_lt, es, i_n (by omega)] at c1
      have hi6 : i + 6 ≤ N := by omega
      refine V_sload_n (j := 0) (q := 28) dL_law_27 rfl rfl ?_
      refine V_iload_n (j := 3) (q := 29) dL_law_28 rfl rfl ?_
      refine V_sld (q := 30) (by omega) (by omega) dL_law_29 rfl ?_
      refine V_bipush (q := 32) (v := nI 31) dL_law_30 rfl (by decide) ?_
      refine V_iand (q := 33) dL_law_32 rfl ?_
      have kk : ∀ (e' : AH) (σ' : GS), CG e' σ' → RH e' 159 σ' → V g mL_law (thL g N xs) e' (171 + (i + 6)) (3174 + 10 * (i + 6)) [(0, .float 0), (1, .ref 0), (2, .ref 159), (3, .int (nI i))] 971 [] := by
        intro e' σ' G' H'
        refine V_iincK (b := 6) (j := 3) (q := 974) (L' := [(3, .int (nI (i + 6))), (0, .float 0), (1, .ref 0), (2, .ref 159)]) dL_law_971 rfl rfl rfl rfl rfl ?_
        refine V_goto (q := 18) dL_law_974 rfl ?_
        refine V_sub (L' := [(0, .float 0), (1, .ref 0), (2, .ref 159), (3, .int (nI (i + 6)))]) [1, 2, 3, 0] rfl ?_
        exact ih (i + 6) e' σ' (by omega) G' H' (by omega)
      obtain ⟨z, hz, ez⟩ := and31 (xs i)
      refine V_rw (y := nI z) ez ?_
      rcases (show z = 0 ∨ z = 1 ∨ z = 2 ∨ z = 3 ∨ z = 4 ∨ z = 5 ∨ z = 6 ∨ z = 7 ∨ z = 8 ∨ z = 9 ∨ z = 10 ∨ z = 11 ∨ z = 12 ∨ z = 13 ∨ z = 14 ∨ z = 15 ∨ z = 16 ∨ z = 17 ∨ z = 18 ∨ z = 19 ∨ z = 20 ∨ z = 21 ∨ z = 22 ∨ z = 23 ∨ z = 24 ∨ z = 25 ∨ z = 26 ∨ z = 27 ∨ z = 28 ∨ 29 ≤ z by omega) with rfl | rfl | rfl | rfl | rfl | rfl | rfl | rfl | rfl | rfl | rfl | rfl | rfl | rfl | rfl | rfl | rfl | rfl | rfl | rfl | rfl | rfl | rfl | rfl | rfl | rfl | rfl | rfl | rfl | hz2
      · refine V_tableIn (tgt := 164) (off := 131) dL_law_33 (by decide) (by decide) (by decide) rfl ?_
        exact cs_0 hN hi6 G H kk
      · refine V_tableIn (tgt := 187) (off := 154) dL_law_33 (by decide) (by decide) (by decide) rfl ?_
        exact cs_1 hN hi6 G H kk
      · refine V_tableIn (tgt := 240) (off := 207) dL_law_33 (by decide) (by decide) (by decide) rfl ?_
        exact cs_2 hN hi6 G H kk
      · refine V_tableIn (tgt := 293) (off := 260) dL_law_33 (by decide) (by decide) (by decide) rfl ?_
        exact cs_3 hN hi6 G H kk
      · refine V_tableIn (tgt := 356) (off := 323) dL_law_33 (by decide) (by decide) (by decide) rfl ?_
        exact cs_4 hN hi6 G H kk
      · refine V_tableIn (tgt := 379) (off := 346) dL_law_33 (by decide) (by decide) (by decide) rfl ?_
        exact cs_5 hN hi6 G H kk
      · refine V_tableIn (tgt := 412) (off := 379) dL_law_33 (by decide) (by decide) (by decide) rfl ?_
        exact cs_6 hN hi6 G H kk
      · refine V_tableIn (tgt := 455) (off := 422) dL_law_33 (by decide) (by decide) (by decide) rfl ?_
        exact cs_7 hN hi6 G H kk
      · refine V_tableIn (tgt := 488) (off := 455) dL_law_33 (by decide) (by decide) (by decide) rfl ?_
        exact cs_8 hN hi6 G H kk
      · refine V_tableIn (tgt := 511) (off := 478) dL_law_33 (by decide) (by decide) (by decide) rfl ?_
        exact cs_9 hN hi6 G H kk
      · refine V_tableIn (tgt := 534) (off := 501) dL_law_33 (by decide) (by decide) (by decide) rfl ?_
        exact cs_10 hN hi6 G H kk
      · refine V_tableIn (tgt := 547) (off := 514) dL_law_33 (by decide) (by decide) (by decide) rfl ?_
        exact cs_11 hN hi6 G H kk
      · refine V_tableIn (tgt := 560) (off := 527) dL_law_33 (by decide) (by decide) (by decide) rfl ?_
        exact cs_12 hN hi6 G H kk
      · refine V_tableIn (tgt := 573) (off := 540) dL_law_33 (by decide) (by decide) (by decide) rfl ?_
        exact cs_13 hN hi6 G H kk
      · refine V_tableIn (tgt := 596) (off := 563) dL_law_33 (by decide) (by decide) (by decide) rfl ?_
        exact cs_14 hN hi6 G H kk
      · refine V_tableIn (tgt := 619) (off := 586) dL_law_33 (by decide) (by decide) (by decide) rfl ?_
        exact cs_15 hN hi6 G H kk
      · refine V_tableIn (tgt := 652) (off := 619) dL_law_33 (by decide) (by decide) (by decide) rfl ?_
        exact cs_16 hN hi6 G H kk
      · refine V_tableIn (tgt := 685) (off := 652) dL_law_33 (by decide) (by decide) (by decide) rfl ?_
        exact cs_17 hN hi6 G H kk
      · refine V_tableIn (tgt := 718) (off := 685) dL_law_33 (by decide) (by decide) (by decide) rfl ?_
        exact cs_18 hN hi6 G H kk
      · refine V_tableIn (tgt := 751) (off := 718) dL_law_33 (by decide) (by decide) (by decide) rfl ?_
        exact cs_19 hN hi6 G H kk
      · refine V_tableIn (tgt := 774) (off := 741) dL_law_33 (by decide) (by decide) (by decide) rfl ?_
        exact cs_20 hN hi6 G H kk
      · refine V_tableIn (tgt := 797) (off := 764) dL_law_33 (by decide) (by decide) (by decide) rfl ?_
        exact cs_21 hN hi6 G H kk
      · refine V_tableIn (tgt := 830) (off := 797) dL_law_33 (by decide) (by decide) (by decide) rfl ?_
        exact cs_22 hN hi6 G H kk
      · refine V_tableIn (tgt := 843) (off := 810) dL_law_33 (by decide) (by decide) (by decide) rfl ?_
        exact cs_23 hN hi6 G H kk
      · refine V_tableIn (tgt := 856) (off := 823) dL_law_33 (by decide) (by decide) (by decide) rfl ?_
        exact cs_24 hN hi6 G H kk
      · refine V_tableIn (tgt := 869) (off := 836) dL_law_33 (by decide) (by decide) (by decide) rfl ?_
        exact cs_25 hN hi6 G H kk
      · refine V_tableIn (tgt := 892) (off := 859) dL_law_33 (by decide) (by decide) (by decide) rfl ?_
        exact cs_26 hN hi6 G H kk
      · refine V_tableIn (tgt := 925) (off := 892) dL_law_33 (by decide) (by decide) (by decide) rfl ?_
        exact cs_27 hN hi6 G H kk
      · refine V_tableIn (tgt := 948) (off := 915) dL_law_33 (by decide) (by decide) (by decide) rfl ?_
        exact cs_28 hN hi6 G H kk
      · refine V_tableOut (tgt := 971) dL_law_33 (Or.inr (by rw [i_n (by omega)]; omega)) rfl ?_
        refine V_wd (k' := 171 + (i + 6)) (n' := 3174 + 10 * (i + 6)) (by omega) (by omega) ?_
        exact kk _ _ G H

/-- nothing is made yet -/
def hzz : AH := ([], fun _ _ => 0, fun _ _ => 0, fun _ _ => none)
theorem hzz_z : Fz hzz := fun _ _ => ⟨rfl, rfl, rfl⟩
set_option maxHeartbeats 4000000 in
set_option maxRecDepth 100000 in
theorem law_all {g : GX} {N : Nat} {xs : Nat → Int32} (hN : N ≤ 3072) : V g mL_law (thL g N xs) hzz 0 0 [(0, .float 0)] 0 [] := by
  refine V_new (q := 3) (ci := 7) (N := 4) dv_7 rfl (fun r hr => by cases hr; exact nL_7) rfl dL_law_0 rfl ?_
  refine V_al (a := 0) hzz_z (rfl : hzz.1.length = 0) ?_
  refine V_dup (q := 4) dL_law_3 rfl rfl ?_
  refine V_callI (q := 7) (S := [.ref 0]) kL_9 (d_Tinit (h := apn hzz [(7, 4)]) rfl (Fz.ap hzz_z)) rfl rfl rfl dL_law_4 rfl (fun r1 h2 p3 => ?_)
  obtain ⟨rfl, t1, t2, t3, t4, t5⟩ := p3
  have lnT : h2.1.length = 159 := by rw [t1]; rfl
  refine V_astore_n (q := 8) (L' := [(1, .ref 0), (0, .float 0)]) dL_law_7 rfl rfl rfl ?_
  refine V_new (q := 11) (ci := 8) (N := 16) dv_8 rfl (fun r hr => by cases hr; exact nL_10) rfl dL_law_8 rfl ?_
  refine V_al (a := 159) t2 lnT ?_
  refine V_dup (q := 12) dL_law_11 rfl rfl ?_
  refine V_callI (q := 15) (S := [.ref 159]) kL_12 (d_Minit (len_ap lnT) (sh_new lnT) (Fz.ap t2)) rfl rfl rfl dL_law_12 rfl (fun r4 h5 p6 => ?_)
  obtain ⟨rfl, KM, MM⟩ := p6
  obtain ⟨G0, H0⟩ := start_cg (h := apn hzz [(7, 4)]) rfl t1 t3 t4 t5 KM MM
  refine V_astore_n (q := 16) (L' := [(2, .ref 159), (1, .ref 0), (0, .float 0)]) dL_law_15 rfl rfl rfl ?_
  refine V_iconst (q := 17) (v := nI 0) dL_law_16 rfl rfl ?_
  refine V_istore_n (q := 18) (L' := [(3, .int (nI 0)), (2, .ref 159), (1, .ref 0), (0, .float 0)]) dL_law_17 rfl rfl rfl ?_
  refine V_sub (L' := [(0, .float 0), (1, .ref 0), (2, .ref 159), (3, .int (nI 0))]) [3, 2, 1, 0] rfl ?_
  refine V_wd (k' := 171 + 0) (n' := 3174 + 10 * 0) (Nat.le_of_ble_eq_true rfl) (Nat.le_of_ble_eq_true rfl) ?_
  exact lq_law hN (N - 0 + 1) 0 _ σ0 (Nat.zero_le _) G0 H0 (Nat.lt_succ_self _)


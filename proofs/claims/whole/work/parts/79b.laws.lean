set_option maxHeartbeats 4000000 in
set_option maxRecDepth 100000 in
theorem cs_8 {g : GX} {N i : Nat} {xs : Nat → Int32} {e : AH} {σ : GS} (hN : N ≤ 3072) (hi : i + 6 ≤ N) (G : CG e σ) (H : RH e 159 σ) (kk : ∀ (e' : AH) (σ' : GS), CG e' σ' → RH e' 159 σ' → V g mL_law (thL g N xs) e' (171 + (i + 6)) (3174 + 10 * (i + 6)) [(0, .float 0), (1, .ref 0), (2, .ref 159), (3, .int (nI i))] 971 []) : V g mL_law (thL g N xs) e (171 + i) (3174 + 10 * i) [(0, .float 0), (1, .ref 0), (2, .ref 159), (3, .int (nI i))] 488 [] := by
  obtain ⟨U, X⟩ := id G.1
  have hC := X.1
  refine V_aload_n (j := 1) (q := 489) dL_law_488 rfl rfl ?_
  refine V_sload_n (j := 0) (q := 490) dL_law_489 rfl rfl ?_
  refine V_iload_n (j := 3) (q := 491) dL_law_490 rfl rfl ?_
  refine V_iconst (q := 492) (v := nI 1) dL_law_491 rfl rfl ?_
  refine V_iaddN (q := 493) dL_law_492 rfl ?_
  refine V_sld (q := 494) (by omega) (by omega) dL_law_493 rfl ?_
  refine V_callV (q := 497) (S := []) kL_50 (d_appendOutput (x0 := xs (i + 1)) G) (hC.1 0 _ s_0) rfl (fitR_of (show _ ≤ 12 by omega) (show _ ≤ 452 by omega) (show _ ≤ 600000 by omega) (show _ ≤ 7302250 by omega) (Nat.le_of_ble_eq_true rfl)) rfl dL_law_494 rfl (fun r1 h2 p3 => ?_)
  obtain ⟨rfl, F1, G1⟩ := p3
  have H1 := F1.rh H
  refine V_aload_n (j := 2) (q := 498) dL_law_497 rfl rfl ?_
  refine V_sload_n (j := 0) (q := 499) dL_law_498 rfl rfl ?_
  refine V_iload_n (j := 3) (q := 500) dL_law_499 rfl rfl ?_
  refine V_iconst (q := 501) (v := nI 1) dL_law_500 rfl rfl ?_
  refine V_iaddN (q := 502) dL_law_501 rfl ?_
  refine V_sld (q := 503) (by omega) (by omega) dL_law_502 rfl ?_
  refine V_callV (q := 506) (S := [.int ((apR σ (isG (xs (i + 1))) (f6 8 (nt (xs (i + 1))) 0 0 0 0)).1)]) kL_53 (c_appendOutput (x0 := xs (i + 1)) H1) (H1.1.1.1.1 0 _ rfl) rfl (fitR_of (show _ ≤ 12 by omega) (show _ ≤ 452 by omega) (show _ ≤ 600000 by omega) (show _ ≤ 7302250 by omega) (Nat.le_of_ble_eq_true rfl)) rfl dL_law_503 rfl (fun r4 h5 p6 => ?_)
  obtain ⟨rfl, F2, H2⟩ := p6
  have G2 := F2.cg G1
  refine V_icmp_eq (tgt := 971) (q := 509) dL_law_506 rfl rfl (fun c7 => ?_) (fun c7 => ?_)
  · skip
    refine V_wd (k' := 171 + (i + 6)) (n' := 3174 + 10 * (i + 6)) (by omega) (by omega) ?_
    exact kk _ _ G2 H2
  · skip
    exact absurd rfl c7

set_option maxHeartbeats 4000000 in
set_option maxRecDepth 100000 in
theorem cs_9 {g : GX} {N i : Nat} {xs : Nat → Int32} {e : AH} {σ : GS} (hN : N ≤ 3072) (hi : i + 6 ≤ N) (G : CG e σ) (H : RH e 159 σ) (kk : ∀ (e' : AH) (σ' : GS), CG e' σ' → RH e' 159 σ' → V g mL_law (thL g N xs) e' (171 + (i + 6)) (3174 + 10 * (i + 6)) [(0, .float 0), (1, .ref 0), (2, .ref 159), (3, .int (nI i))] 971 []) : V g mL_law (thL g N xs) e (171 + i) (3174 + 10 * i) [(0, .float 0), (1, .ref 0), (2, .ref 159), (3, .int (nI i))] 511 [] := by
  obtain ⟨U, X⟩ := id G.1
  have hC := X.1
  refine V_aload_n (j := 1) (q := 512) dL_law_511 rfl rfl ?_
  refine V_sload_n (j := 0) (q := 513) dL_law_512 rfl rfl ?_
  refine V_iload_n (j := 3) (q := 514) dL_law_513 rfl rfl ?_
  refine V_iconst (q := 515) (v := nI 1) dL_law_514 rfl rfl ?_
  refine V_iaddN (q := 516) dL_law_515 rfl ?_
  refine V_sld (q := 517) (by omega) (by omega) dL_law_516 rfl ?_
  refine V_callV (q := 520) (S := []) kL_54 (d_removeInstruction (x := xs (i + 1)) G) (hC.1 0 _ s_0) rfl (fitR_of (show _ ≤ 12 by omega) (show _ ≤ 452 by omega) (show _ ≤ 600000 by omega) (show _ ≤ 7302250 by omega) (Nat.le_of_ble_eq_true rfl)) rfl dL_law_517 rfl (fun r1 h2 p3 => ?_)
  obtain ⟨rfl, F1, G1⟩ := p3
  have H1 := F1.rh H
  refine V_aload_n (j := 2) (q := 521) dL_law_520 rfl rfl ?_
  refine V_sload_n (j := 0) (q := 522) dL_law_521 rfl rfl ?_
  refine V_iload_n (j := 3) (q := 523) dL_law_522 rfl rfl ?_
  refine V_iconst (q := 524) (v := nI 1) dL_law_523 rfl rfl ?_
  refine V_iaddN (q := 525) dL_law_524 rfl ?_
  refine V_sld (q := 526) (by omega) (by omega) dL_law_525 rfl ?_
  refine V_callV (q := 529) (S := [.int ((rmR σ (xs (i + 1))).1)]) kL_57 (c_removeInstruction (x0 := xs (i + 1)) H1) (H1.1.1.1.1 0 _ rfl) rfl (fitR_of (show _ ≤ 12 by omega) (show _ ≤ 452 by omega) (show _ ≤ 600000 by omega) (show _ ≤ 7302250 by omega) (Nat.le_of_ble_eq_true rfl)) rfl dL_law_526 rfl (fun r4 h5 p6 => ?_)
  obtain ⟨rfl, F2, H2⟩ := p6
  have G2 := F2.cg G1
  refine V_icmp_eq (tgt := 971) (q := 532) dL_law_529 rfl rfl (fun c7 => ?_) (fun c7 => ?_)
  · skip
    refine V_wd (k' := 171 + (i + 6)) (n' := 3174 + 10 * (i + 6)) (by omega) (by omega) ?_
    exact kk _ _ G2 H2
  · skip
    exact absurd rfl c7

set_option maxHeartbeats 4000000 in
set_option maxRecDepth 100000 in
theorem cs_10 {g : GX} {N i : Nat} {xs : Nat → Int32} {e : AH} {σ : GS} (hN : N ≤ 3072) (hi : i + 6 ≤ N) (G : CG e σ) (H : RH e 159 σ) (kk : ∀ (e' : AH) (σ' : GS), CG e' σ' → RH e' 159 σ' → V g mL_law (thL g N xs) e' (171 + (i + 6)) (3174 + 10 * (i + 6)) [(0, .float 0), (1, .ref 0), (2, .ref 159), (3, .int (nI i))] 971 []) : V g mL_law (thL g N xs) e (171 + i) (3174 + 10 * i) [(0, .float 0), (1, .ref 0), (2, .ref 159), (3, .int (nI i))] 534 [] := by
  obtain ⟨U, X⟩ := id G.1
  have hC := X.1
  refine V_aload_n (j := 1) (q := 535) dL_law_534 rfl rfl ?_
  refine V_callV (q := 538) (S := []) kL_58 (d_undo  G) (hC.1 0 _ s_0) rfl (fitR_of (show _ ≤ 12 by omega) (show _ ≤ 452 by omega) (show _ ≤ 600000 by omega) (show _ ≤ 7302250 by omega) (Nat.le_of_ble_eq_true rfl)) rfl dL_law_535 rfl (fun r1 h2 p3 => ?_)
  obtain ⟨rfl, F1, G1⟩ := p3
  have H1 := F1.rh H
  refine V_aload_n (j := 2) (q := 539) dL_law_538 rfl rfl ?_
  refine V_callV (q := 542) (S := [.int ((unR σ).1)]) kL_62 (c_undo  H1) (H1.1.1.1.1 0 _ rfl) rfl (fitR_of (show _ ≤ 12 by omega) (show _ ≤ 452 by omega) (show _ ≤ 600000 by omega) (show _ ≤ 7302250 by omega) (Nat.le_of_ble_eq_true rfl)) rfl dL_law_539 rfl (fun r4 h5 p6 => ?_)
  obtain ⟨rfl, F2, H2⟩ := p6
  have G2 := F2.cg G1
  refine V_icmp_eq (tgt := 971) (q := 545) dL_law_542 rfl rfl (fun c7 => ?_) (fun c7 => ?_)
  · skip
    refine V_wd (k' := 171 + (i + 6)) (n' := 3174 + 10 * (i + 6)) (by omega) (by omega) ?_
    exact kk _ _ G2 H2
  · skip
    exact absurd rfl c7

set_option maxHeartbeats 4000000 in
set_option maxRecDepth 100000 in
theorem cs_11 {g : GX} {N i : Nat} {xs : Nat → Int32} {e : AH} {σ : GS} (hN : N ≤ 3072) (hi : i + 6 ≤ N) (G : CG e σ) (H : RH e 159 σ) (kk : ∀ (e' : AH) (σ' : GS), CG e' σ' → RH e' 159 σ' → V g mL_law (thL g N xs) e' (171 + (i + 6)) (3174 + 10 * (i + 6)) [(0, .float 0), (1, .ref 0), (2, .ref 159), (3, .int (nI i))] 971 []) : V g mL_law (thL g N xs) e (171 + i) (3174 + 10 * i) [(0, .float 0), (1, .ref 0), (2, .ref 159), (3, .int (nI i))] 547 [] := by
  obtain ⟨U, X⟩ := id G.1
  have hC := X.1
  refine V_aload_n (j := 1) (q := 548) dL_law_547 rfl rfl ?_
  refine V_callV (q := 551) (S := []) kL_63 (d_recordCount  G) (hC.1 0 _ s_0) rfl (fitR_of (show _ ≤ 12 by omega) (show _ ≤ 452 by omega) (show _ ≤ 600000 by omega) (show _ ≤ 7302250 by omega) (Nat.le_of_ble_eq_true rfl)) rfl dL_law_548 rfl (fun r1 h2 p3 => ?_)
  obtain ⟨rfl, F1, G1⟩ := p3
  have H1 := F1.rh H
  refine V_aload_n (j := 2) (q := 552) dL_law_551 rfl rfl ?_
  refine V_callV (q := 555) (S := [.int (nI (pNr σ.1))]) kL_66 (c_recordCount  H1) (H1.1.1.1.1 0 _ rfl) rfl (fitR_of (show _ ≤ 12 by omega) (show _ ≤ 452 by omega) (show _ ≤ 600000 by omega) (show _ ≤ 7302250 by omega) (Nat.le_of_ble_eq_true rfl)) rfl dL_law_552 rfl (fun r4 h5 p6 => ?_)
  obtain ⟨rfl, F2, H2⟩ := p6
  have G2 := F2.cg G1
  refine V_icmp_eq (tgt := 971) (q := 558) dL_law_555 rfl rfl (fun c7 => ?_) (fun c7 => ?_)
  · skip
    refine V_wd (k' := 171 + (i + 6)) (n' := 3174 + 10 * (i + 6)) (by omega) (by omega) ?_
    exact kk _ _ G2 H2
  · skip
    exact absurd rfl c7

set_option maxHeartbeats 4000000 in
set_option maxRecDepth 100000 in
theorem cs_12 {g : GX} {N i : Nat} {xs : Nat → Int32} {e : AH} {σ : GS} (hN : N ≤ 3072) (hi : i + 6 ≤ N) (G : CG e σ) (H : RH e 159 σ) (kk : ∀ (e' : AH) (σ' : GS), CG e' σ' → RH e' 159 σ' → V g mL_law (thL g N xs) e' (171 + (i + 6)) (3174 + 10 * (i + 6)) [(0, .float 0), (1, .ref 0), (2, .ref 159), (3, .int (nI i))] 971 []) : V g mL_law (thL g N xs) e (171 + i) (3174 + 10 * i) [(0, .float 0), (1, .ref 0), (2, .ref 159), (3, .int (nI i))] 560 [] := by
  obtain ⟨U, X⟩ := id G.1
  have hC := X.1
  refine V_aload_n (j := 1) (q := 561) dL_law_560 rfl rfl ?_
  refine V_callV (q := 564) (S := []) kL_67 (d_instructionCount  G) (hC.1 0 _ s_0) rfl (fitR_of (show _ ≤ 12 by omega) (show _ ≤ 452 by omega) (show _ ≤ 600000 by omega) (show _ ≤ 7302250 by omega) (Nat.le_of_ble_eq_true rfl)) rfl dL_law_561 rfl (fun r1 h2 p3 => ?_)
  obtain ⟨rfl, F1, G1⟩ := p3
  have H1 := F1.rh H
  refine V_aload_n (j := 2) (q := 565) dL_law_564 rfl rfl ?_
  refine V_callV (q := 568) (S := [.int (nI (pNi σ.1))]) kL_70 (c_instructionCount  H1) (H1.1.1.1.1 0 _ rfl) rfl (fitR_of (show _ ≤ 12 by omega) (show _ ≤ 452 by omega) (show _ ≤ 600000 by omega) (show _ ≤ 7302250 by omega) (Nat.le_of_ble_eq_true rfl)) rfl dL_law_565 rfl (fun r4 h5 p6 => ?_)
  obtain ⟨rfl, F2, H2⟩ := p6
  have G2 := F2.cg G1
  refine V_icmp_eq (tgt := 971) (q := 571) dL_law_568 rfl rfl (fun c7 => ?_) (fun c7 => ?_)
  · skip
    refine V_wd (k' := 171 + (i + 6)) (n' := 3174 + 10 * (i + 6)) (by omega) (by omega) ?_
    exact kk _ _ G2 H2
  · skip
    exact absurd rfl c7

set_option maxHeartbeats 4000000 in
set_option maxRecDepth 100000 in
theorem cs_13 {g : GX} {N i : Nat} {xs : Nat → Int32} {e : AH} {σ : GS} (hN : N ≤ 3072) (hi : i + 6 ≤ N) (G : CG e σ) (H : RH e 159 σ) (kk : ∀ (e' : AH) (σ' : GS), CG e' σ' → RH e' 159 σ' → V g mL_law (thL g N xs) e' (171 + (i + 6)) (3174 + 10 * (i + 6)) [(0, .float 0), (1, .ref 0), (2, .ref 159), (3, .int (nI i))] 971 []) : V g mL_law (thL g N xs) e (171 + i) (3174 + 10 * i) [(0, .float 0), (1, .ref 0), (2, .ref 159), (3, .int (nI i))] 573 [] := by
  obtain ⟨U, X⟩ := id G.1
  have hC := X.1
  refine V_aload_n (j := 1) (q := 574) dL_law_573 rfl rfl ?_
  refine V_sload_n (j := 0) (q := 575) dL_law_574 rfl rfl ?_
  refine V_iload_n (j := 3) (q := 576) dL_law_575 rfl rfl ?_
  refine V_iconst (q := 577) (v := nI 1) dL_law_576 rfl rfl ?_
  refine V_iaddN (q := 578) dL_law_577 rfl ?_
  refine V_sld (q := 579) (by omega) (by omega) dL_law_578 rfl ?_
  refine V_callV (q := 582) (S := []) kL_71 (d_escapes (x := xs (i + 1)) G) (hC.1 0 _ s_0) rfl (fitR_of (show _ ≤ 12 by omega) (show _ ≤ 452 by omega) (show _ ≤ 600000 by omega) (show _ ≤ 7302250 by omega) (Nat.le_of_ble_eq_true rfl)) rfl dL_law_579 rfl (fun r1 h2 p3 => ?_)
  obtain ⟨rfl, F1, G1⟩ := p3
  have H1 := F1.rh H
  refine V_aload_n (j := 2) (q := 583) dL_law_582 rfl rfl ?_
  refine V_sload_n (j := 0) (q := 584) dL_law_583 rfl rfl ?_
  refine V_iload_n (j := 3) (q := 585) dL_law_584 rfl rfl ?_
  refine V_iconst (q := 586) (v := nI 1) dL_law_585 rfl rfl ?_
  refine V_iaddN (q := 587) dL_law_586 rfl ?_
  refine V_sld (q := 588) (by omega) (by omega) dL_law_587 rfl ?_
  refine V_callV (q := 591) (S := [.int (aEs σ.1 (xs (i + 1)))]) kL_74 (c_escapes (x := xs (i + 1)) H1.1) (H1.1.1.1.1 0 _ rfl) rfl (fitR_of (show _ ≤ 12 by omega) (show _ ≤ 452 by omega) (show _ ≤ 600000 by omega) (show _ ≤ 7302250 by omega) (Nat.le_of_ble_eq_true rfl)) rfl dL_law_588 rfl (fun r4 h5 p6 => ?_)
  obtain ⟨rfl, F2⟩ := p6
  have H2 := F2.rh H1
  have G2 := F2.e.cg G1
  refine V_icmp_eq (tgt := 971) (q := 594) dL_law_591 rfl rfl (fun c7 => ?_) (fun c7 => ?_)
  · skip
    refine V_wd (k' := 171 + (i + 6)) (n' := 3174 + 10 * (i + 6)) (by omega) (by omega) ?_
    exact kk _ _ G2 H2
  · skip
    exact absurd rfl c7

set_option maxHeartbeats 4000000 in
set_option maxRecDepth 100000 in
theorem cs_14 {g : GX} {N i : Nat} {xs : Nat → Int32} {e : AH} {σ : GS} (hN : N ≤ 3072) (hi : i + 6 ≤ N) (G : CG e σ) (H : RH e 159 σ) (kk : ∀ (e' : AH) (σ' : GS), CG e' σ' → RH e' 159 σ' → V g mL_law (thL g N xs) e' (171 + (i + 6)) (3174 + 10 * (i + 6)) [(0, .float 0), (1, .ref 0), (2, .ref 159), (3, .int (nI i))] 971 []) : V g mL_law (thL g N xs) e (171 + i) (3174 + 10 * i) [(0, .float 0), (1, .ref 0), (2, .ref 159), (3, .int (nI i))] 596 [] := by
  obtain ⟨U, X⟩ := id G.1
  have hC := X.1
  refine V_aload_n (j := 1) (q := 597) dL_law_596 rfl rfl ?_
  refine V_sload_n (j := 0) (q := 598) dL_law_597 rfl rfl ?_
  refine V_iload_n (j := 3) (q := 599) dL_law_598 rfl rfl ?_
  refine V_iconst (q := 600) (v := nI 1) dL_law_599 rfl rfl ?_
  refine V_iaddN (q := 601) dL_law_600 rfl ?_
  refine V_sld (q := 602) (by omega) (by omega) dL_law_601 rfl ?_
  refine V_callV (q := 605) (S := []) kL_75 (d_partitionCount (x := xs (i + 1)) G) (hC.1 0 _ s_0) rfl (fitR_of (show _ ≤ 12 by omega) (show _ ≤ 452 by omega) (show _ ≤ 600000 by omega) (show _ ≤ 7302250 by omega) (Nat.le_of_ble_eq_true rfl)) rfl dL_law_602 rfl (fun r1 h2 p3 => ?_)
  obtain ⟨rfl, F1, G1⟩ := p3
  have H1 := F1.rh H
  refine V_aload_n (j := 2) (q := 606) dL_law_605 rfl rfl ?_
  refine V_sload_n (j := 0) (q := 607) dL_law_606 rfl rfl ?_
  refine V_iload_n (j := 3) (q := 608) dL_law_607 rfl rfl ?_
  refine V_iconst (q := 609) (v := nI 1) dL_law_608 rfl rfl ?_
  refine V_iaddN (q := 610) dL_law_609 rfl ?_
  refine V_sld (q := 611) (by omega) (by omega) dL_law_610 rfl ?_
  refine V_callV (q := 614) (S := [.int (aPc σ.1 (xs (i + 1)))]) kL_78 (c_partitionCount (x := xs (i + 1)) H1.1) (H1.1.1.1.1 0 _ rfl) rfl (fitR_of (show _ ≤ 12 by omega) (show _ ≤ 452 by omega) (show _ ≤ 600000 by omega) (show _ ≤ 7302250 by omega) (Nat.le_of_ble_eq_true rfl)) rfl dL_law_611 rfl (fun r4 h5 p6 => ?_)
  obtain ⟨rfl, F2⟩ := p6
  have H2 := F2.rh H1
  have G2 := F2.e.cg G1
  refine V_icmp_eq (tgt := 971) (q := 617) dL_law_614 rfl rfl (fun c7 => ?_) (fun c7 => ?_)
  · skip
    refine V_wd (k' := 171 + (i + 6)) (n' := 3174 + 10 * (i + 6)) (by omega) (by omega) ?_
    exact kk _ _ G2 H2
  · skip
    exact absurd rfl c7

set_option maxHeartbeats 4000000 in
set_option maxRecDepth 100000 in
theorem cs_15 {g : GX} {N i : Nat} {xs : Nat → Int32} {e : AH} {σ : GS} (hN : N ≤ 3072) (hi : i + 6 ≤ N) (G : CG e σ) (H : RH e 159 σ) (kk : ∀ (e' : AH) (σ' : GS), CG e' σ' → RH e' 159 σ' → V g mL_law (thL g N xs) e' (171 + (i + 6)) (3174 + 10 * (i + 6)) [(0, .float 0), (1, .ref 0), (2, .ref 159), (3, .int (nI i))] 971 []) : V g mL_law (thL g N xs) e (171 + i) (3174 + 10 * i) [(0, .float 0), (1, .ref 0), (2, .ref 159), (3, .int (nI i))] 619 [] := by
  obtain ⟨U, X⟩ := id G.1
  have hC := X.1
  refine V_aload_n (j := 1) (q := 620) dL_law_619 rfl rfl ?_
  refine V_sload_n (j := 0) (q := 621) dL_law_620 rfl rfl ?_
  refine V_iload_n (j := 3) (q := 622) dL_law_621 rfl rfl ?_
  refine V_iconst (q := 623) (v := nI 1) dL_law_622 rfl rfl ?_
  refine V_iaddN (q := 624) dL_law_623 rfl ?_
  refine V_sld (q := 625) (by omega) (by omega) dL_law_624 rfl ?_
  refine V_sload_n (j := 0) (q := 626) dL_law_625 rfl rfl ?_
  refine V_iload_n (j := 3) (q := 627) dL_law_626 rfl rfl ?_
  refine V_iconst (q := 628) (v := nI 2) dL_law_627 rfl rfl ?_
  refine V_iaddN (q := 629) dL_law_628 rfl ?_
  refine V_sld (q := 630) (by omega) (by omega) dL_law_629 rfl ?_
  refine V_callV (q := 633) (S := []) kL_79 (d_partitionStart (x := xs (i + 1)) (y := xs (i + 2)) G) (hC.1 0 _ s_0) rfl (fitR_of (show _ ≤ 12 by omega) (show _ ≤ 452 by omega) (show _ ≤ 600000 by omega) (show _ ≤ 7302250 by omega) (Nat.le_of_ble_eq_true rfl)) rfl dL_law_630 rfl (fun r1 h2 p3 => ?_)
  obtain ⟨rfl, F1, G1⟩ := p3
  have H1 := F1.rh H
  refine V_aload_n (j := 2) (q := 634) dL_law_633 rfl rfl ?_
  refine V_sload_n (j := 0) (q := 635) dL_law_634 rfl rfl ?_
  refine V_iload_n (j := 3) (q := 636) dL_law_635 rfl rfl ?_
  refine V_iconst (q := 637) (v := nI 1) dL_law_636 rfl rfl ?_
  refine V_iaddN (q := 638) dL_law_637 rfl ?_
  refine V_sld (q := 639) (by omega) (by omega) dL_law_638 rfl ?_
  refine V_sload_n (j := 0) (q := 640) dL_law_639 rfl rfl ?_
  refine V_iload_n (j := 3) (q := 641) dL_law_640 rfl rfl ?_
  refine V_iconst (q := 642) (v := nI 2) dL_law_641 rfl rfl ?_
  refine V_iaddN (q := 643) dL_law_642 rfl ?_
  refine V_sld (q := 644) (by omega) (by omega) dL_law_643 rfl ?_
  refine V_callV (q := 647) (S := [.int (aPs σ.1 (xs (i + 1)) (xs (i + 2)))]) kL_82 (c_partitionStart (x := xs (i + 1)) (y := xs (i + 2)) H1.1) (H1.1.1.1.1 0 _ rfl) rfl (fitR_of (show _ ≤ 12 by omega) (show _ ≤ 452 by omega) (show _ ≤ 600000 by omega) (show _ ≤ 7302250 by omega) (Nat.le_of_ble_eq_true rfl)) rfl dL_law_644 rfl (fun r4 h5 p6 => ?_)
  obtain ⟨rfl, F2⟩ := p6
  have H2 := F2.rh H1
  have G2 := F2.e.cg G1
  refine V_icmp_eq (tgt := 971) (q := 650) dL_law_647 rfl rfl (fun c7 => ?_) (fun c7 => ?_)
  · skip
    refine V_wd (k' := 171 + (i + 6)) (n' := 3174 + 10 * (i + 6)) (by omega) (by omega) ?_
    exact kk _ _ G2 H2
  · skip
    exact absurd rfl c7


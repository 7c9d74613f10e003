set_option maxHeartbeats 4000000 in
set_option maxRecDepth 100000 in
theorem cs_16 {g : GX} {N i : Nat} {xs : Nat → Int32} {e : AH} {σ : GS} (hN : N ≤ 3072) (hi : i + 6 ≤ N) (G : CG e σ) (H : RH e 159 σ) (kk : ∀ (e' : AH) (σ' : GS), CG e' σ' → RH e' 159 σ' → V g mL_law (thL g N xs) e' (171 + (i + 6)) (3174 + 10 * (i + 6)) [(0, .float 0), (1, .ref 0), (2, .ref 159), (3, .int (nI i))] 971 []) : V g mL_law (thL g N xs) e (171 + i) (3174 + 10 * i) [(0, .float 0), (1, .ref 0), (2, .ref 159), (3, .int (nI i))] 652 [] := by
  obtain ⟨U, X⟩ := id G.1
  have hC := X.1
  refine V_aload_n (j := 1) (q := 653) dL_law_652 rfl rfl ?_
  refine V_sload_n (j := 0) (q := 654) dL_law_653 rfl rfl ?_
  refine V_iload_n (j := 3) (q := 655) dL_law_654 rfl rfl ?_
  refine V_iconst (q := 656) (v := nI 1) dL_law_655 rfl rfl ?_
  refine V_iaddN (q := 657) dL_law_656 rfl ?_
  refine V_sld (q := 658) (by omega) (by omega) dL_law_657 rfl ?_
  refine V_sload_n (j := 0) (q := 659) dL_law_658 rfl rfl ?_
  refine V_iload_n (j := 3) (q := 660) dL_law_659 rfl rfl ?_
  refine V_iconst (q := 661) (v := nI 2) dL_law_660 rfl rfl ?_
  refine V_iaddN (q := 662) dL_law_661 rfl ?_
  refine V_sld (q := 663) (by omega) (by omega) dL_law_662 rfl ?_
  refine V_callV (q := 666) (S := []) kL_83 (d_partitionLength (x := xs (i + 1)) (y := xs (i + 2)) G) (hC.1 0 _ s_0) rfl (fitR_of (show _ ≤ 12 by omega) (show _ ≤ 452 by omega) (show _ ≤ 600000 by omega) (show _ ≤ 7302250 by omega) (Nat.le_of_ble_eq_true rfl)) rfl dL_law_663 rfl (fun r1 h2 p3 => ?_)
  obtain ⟨rfl, F1, G1⟩ := p3
  have H1 := F1.rh H
  refine V_aload_n (j := 2) (q := 667) dL_law_666 rfl rfl ?_
  refine V_sload_n (j := 0) (q := 668) dL_law_667 rfl rfl ?_
  refine V_iload_n (j := 3) (q := 669) dL_law_668 rfl rfl ?_
  refine V_iconst (q := 670) (v := nI 1) dL_law_669 rfl rfl ?_
  refine V_iaddN (q := 671) dL_law_670 rfl ?_
  refine V_sld (q := 672) (by omega) (by omega) dL_law_671 rfl ?_
  refine V_sload_n (j := 0) (q := 673) dL_law_672 rfl rfl ?_
  refine V_iload_n (j := 3) (q := 674) dL_law_673 rfl rfl ?_
  refine V_iconst (q := 675) (v := nI 2) dL_law_674 rfl rfl ?_
  refine V_iaddN (q := 676) dL_law_675 rfl ?_
  refine V_sld (q := 677) (by omega) (by omega) dL_law_676 rfl ?_
  refine V_callV (q := 680) (S := [.int (aPl σ.1 (xs (i + 1)) (xs (i + 2)))]) kL_86 (c_partitionLength (x := xs (i + 1)) (y := xs (i + 2)) H1.1) (H1.1.1.1.1 0 _ rfl) rfl (fitR_of (show _ ≤ 12 by omega) (show _ ≤ 452 by omega) (show _ ≤ 600000 by omega) (show _ ≤ 7302250 by omega) (Nat.le_of_ble_eq_true rfl)) rfl dL_law_677 rfl (fun r4 h5 p6 => ?_)
  obtain ⟨rfl, F2⟩ := p6
  have H2 := F2.rh H1
  have G2 := F2.e.cg G1
  refine V_icmp_eq (tgt := 971) (q := 683) dL_law_680 rfl rfl (fun c7 => ?_) (fun c7 => ?_)
  · skip
    refine V_wd (k' := 171 + (i + 6)) (n' := 3174 + 10 * (i + 6)) (by omega) (by omega) ?_
    exact kk _ _ G2 H2
  · skip
    exact absurd rfl c7

set_option maxHeartbeats 4000000 in
set_option maxRecDepth 100000 in
theorem cs_17 {g : GX} {N i : Nat} {xs : Nat → Int32} {e : AH} {σ : GS} (hN : N ≤ 3072) (hi : i + 6 ≤ N) (G : CG e σ) (H : RH e 159 σ) (kk : ∀ (e' : AH) (σ' : GS), CG e' σ' → RH e' 159 σ' → V g mL_law (thL g N xs) e' (171 + (i + 6)) (3174 + 10 * (i + 6)) [(0, .float 0), (1, .ref 0), (2, .ref 159), (3, .int (nI i))] 971 []) : V g mL_law (thL g N xs) e (171 + i) (3174 + 10 * i) [(0, .float 0), (1, .ref 0), (2, .ref 159), (3, .int (nI i))] 685 [] := by
  obtain ⟨U, X⟩ := id G.1
  have hC := X.1
  refine V_aload_n (j := 1) (q := 686) dL_law_685 rfl rfl ?_
  refine V_sload_n (j := 0) (q := 687) dL_law_686 rfl rfl ?_
  refine V_iload_n (j := 3) (q := 688) dL_law_687 rfl rfl ?_
  refine V_iconst (q := 689) (v := nI 1) dL_law_688 rfl rfl ?_
  refine V_iaddN (q := 690) dL_law_689 rfl ?_
  refine V_sld (q := 691) (by omega) (by omega) dL_law_690 rfl ?_
  refine V_sload_n (j := 0) (q := 692) dL_law_691 rfl rfl ?_
  refine V_iload_n (j := 3) (q := 693) dL_law_692 rfl rfl ?_
  refine V_iconst (q := 694) (v := nI 2) dL_law_693 rfl rfl ?_
  refine V_iaddN (q := 695) dL_law_694 rfl ?_
  refine V_sld (q := 696) (by omega) (by omega) dL_law_695 rfl ?_
  refine V_callV (q := 699) (S := []) kL_87 (d_isPromotable (x := xs (i + 1)) (y := xs (i + 2)) G) (hC.1 0 _ s_0) rfl (fitR_of (show _ ≤ 12 by omega) (show _ ≤ 452 by omega) (show _ ≤ 600000 by omega) (show _ ≤ 7302250 by omega) (Nat.le_of_ble_eq_true rfl)) rfl dL_law_696 rfl (fun r1 h2 p3 => ?_)
  obtain ⟨rfl, F1, G1⟩ := p3
  have H1 := F1.rh H
  refine V_aload_n (j := 2) (q := 700) dL_law_699 rfl rfl ?_
  refine V_sload_n (j := 0) (q := 701) dL_law_700 rfl rfl ?_
  refine V_iload_n (j := 3) (q := 702) dL_law_701 rfl rfl ?_
  refine V_iconst (q := 703) (v := nI 1) dL_law_702 rfl rfl ?_
  refine V_iaddN (q := 704) dL_law_703 rfl ?_
  refine V_sld (q := 705) (by omega) (by omega) dL_law_704 rfl ?_
  refine V_sload_n (j := 0) (q := 706) dL_law_705 rfl rfl ?_
  refine V_iload_n (j := 3) (q := 707) dL_law_706 rfl rfl ?_
  refine V_iconst (q := 708) (v := nI 2) dL_law_707 rfl rfl ?_
  refine V_iaddN (q := 709) dL_law_708 rfl ?_
  refine V_sld (q := 710) (by omega) (by omega) dL_law_709 rfl ?_
  refine V_callV (q := 713) (S := [.int (aPp σ.1 (xs (i + 1)) (xs (i + 2)))]) kL_90 (c_isPromotable (x := xs (i + 1)) (y := xs (i + 2)) H1.1) (H1.1.1.1.1 0 _ rfl) rfl (fitR_of (show _ ≤ 12 by omega) (show _ ≤ 452 by omega) (show _ ≤ 600000 by omega) (show _ ≤ 7302250 by omega) (Nat.le_of_ble_eq_true rfl)) rfl dL_law_710 rfl (fun r4 h5 p6 => ?_)
  obtain ⟨rfl, F2⟩ := p6
  have H2 := F2.rh H1
  have G2 := F2.e.cg G1
  refine V_icmp_eq (tgt := 971) (q := 716) dL_law_713 rfl rfl (fun c7 => ?_) (fun c7 => ?_)
  · skip
    refine V_wd (k' := 171 + (i + 6)) (n' := 3174 + 10 * (i + 6)) (by omega) (by omega) ?_
    exact kk _ _ G2 H2
  · skip
    exact absurd rfl c7

set_option maxHeartbeats 4000000 in
set_option maxRecDepth 100000 in
theorem cs_18 {g : GX} {N i : Nat} {xs : Nat → Int32} {e : AH} {σ : GS} (hN : N ≤ 3072) (hi : i + 6 ≤ N) (G : CG e σ) (H : RH e 159 σ) (kk : ∀ (e' : AH) (σ' : GS), CG e' σ' → RH e' 159 σ' → V g mL_law (thL g N xs) e' (171 + (i + 6)) (3174 + 10 * (i + 6)) [(0, .float 0), (1, .ref 0), (2, .ref 159), (3, .int (nI i))] 971 []) : V g mL_law (thL g N xs) e (171 + i) (3174 + 10 * i) [(0, .float 0), (1, .ref 0), (2, .ref 159), (3, .int (nI i))] 718 [] := by
  obtain ⟨U, X⟩ := id G.1
  have hC := X.1
  refine V_aload_n (j := 1) (q := 719) dL_law_718 rfl rfl ?_
  refine V_sload_n (j := 0) (q := 720) dL_law_719 rfl rfl ?_
  refine V_iload_n (j := 3) (q := 721) dL_law_720 rfl rfl ?_
  refine V_iconst (q := 722) (v := nI 1) dL_law_721 rfl rfl ?_
  refine V_iaddN (q := 723) dL_law_722 rfl ?_
  refine V_sld (q := 724) (by omega) (by omega) dL_law_723 rfl ?_
  refine V_sload_n (j := 0) (q := 725) dL_law_724 rfl rfl ?_
  refine V_iload_n (j := 3) (q := 726) dL_law_725 rfl rfl ?_
  refine V_iconst (q := 727) (v := nI 2) dL_law_726 rfl rfl ?_
  refine V_iaddN (q := 728) dL_law_727 rfl ?_
  refine V_sld (q := 729) (by omega) (by omega) dL_law_728 rfl ?_
  refine V_callV (q := 732) (S := []) kL_91 (d_isLive (x := xs (i + 1)) (y := xs (i + 2)) G) (hC.1 0 _ s_0) rfl (fitR_of (show _ ≤ 12 by omega) (show _ ≤ 452 by omega) (show _ ≤ 600000 by omega) (show _ ≤ 7302250 by omega) (Nat.le_of_ble_eq_true rfl)) rfl dL_law_729 rfl (fun r1 h2 p3 => ?_)
  obtain ⟨rfl, F1, G1⟩ := p3
  have H1 := F1.rh H
  refine V_aload_n (j := 2) (q := 733) dL_law_732 rfl rfl ?_
  refine V_sload_n (j := 0) (q := 734) dL_law_733 rfl rfl ?_
  refine V_iload_n (j := 3) (q := 735) dL_law_734 rfl rfl ?_
  refine V_iconst (q := 736) (v := nI 1) dL_law_735 rfl rfl ?_
  refine V_iaddN (q := 737) dL_law_736 rfl ?_
  refine V_sld (q := 738) (by omega) (by omega) dL_law_737 rfl ?_
  refine V_sload_n (j := 0) (q := 739) dL_law_738 rfl rfl ?_
  refine V_iload_n (j := 3) (q := 740) dL_law_739 rfl rfl ?_
  refine V_iconst (q := 741) (v := nI 2) dL_law_740 rfl rfl ?_
  refine V_iaddN (q := 742) dL_law_741 rfl ?_
  refine V_sld (q := 743) (by omega) (by omega) dL_law_742 rfl ?_
  refine V_callV (q := 746) (S := [.int (aLv σ.1 (xs (i + 1)) (xs (i + 2)))]) kL_94 (c_isLive (x := xs (i + 1)) (y := xs (i + 2)) H1.1) (H1.1.1.1.1 0 _ rfl) rfl (fitR_of (show _ ≤ 12 by omega) (show _ ≤ 452 by omega) (show _ ≤ 600000 by omega) (show _ ≤ 7302250 by omega) (Nat.le_of_ble_eq_true rfl)) rfl dL_law_743 rfl (fun r4 h5 p6 => ?_)
  obtain ⟨rfl, F2⟩ := p6
  have H2 := F2.rh H1
  have G2 := F2.e.cg G1
  refine V_icmp_eq (tgt := 971) (q := 749) dL_law_746 rfl rfl (fun c7 => ?_) (fun c7 => ?_)
  · skip
    refine V_wd (k' := 171 + (i + 6)) (n' := 3174 + 10 * (i + 6)) (by omega) (by omega) ?_
    exact kk _ _ G2 H2
  · skip
    exact absurd rfl c7

set_option maxHeartbeats 4000000 in
set_option maxRecDepth 100000 in
theorem cs_19 {g : GX} {N i : Nat} {xs : Nat → Int32} {e : AH} {σ : GS} (hN : N ≤ 3072) (hi : i + 6 ≤ N) (G : CG e σ) (H : RH e 159 σ) (kk : ∀ (e' : AH) (σ' : GS), CG e' σ' → RH e' 159 σ' → V g mL_law (thL g N xs) e' (171 + (i + 6)) (3174 + 10 * (i + 6)) [(0, .float 0), (1, .ref 0), (2, .ref 159), (3, .int (nI i))] 971 []) : V g mL_law (thL g N xs) e (171 + i) (3174 + 10 * i) [(0, .float 0), (1, .ref 0), (2, .ref 159), (3, .int (nI i))] 751 [] := by
  obtain ⟨U, X⟩ := id G.1
  have hC := X.1
  refine V_aload_n (j := 1) (q := 752) dL_law_751 rfl rfl ?_
  refine V_sload_n (j := 0) (q := 753) dL_law_752 rfl rfl ?_
  refine V_iload_n (j := 3) (q := 754) dL_law_753 rfl rfl ?_
  refine V_iconst (q := 755) (v := nI 1) dL_law_754 rfl rfl ?_
  refine V_iaddN (q := 756) dL_law_755 rfl ?_
  refine V_sld (q := 757) (by omega) (by omega) dL_law_756 rfl ?_
  refine V_callV (q := 760) (S := []) kL_95 (d_paddingBytes (x := xs (i + 1)) G) (hC.1 0 _ s_0) rfl (fitR_of (show _ ≤ 12 by omega) (show _ ≤ 452 by omega) (show _ ≤ 600000 by omega) (show _ ≤ 7302250 by omega) (Nat.le_of_ble_eq_true rfl)) rfl dL_law_757 rfl (fun r1 h2 p3 => ?_)
  obtain ⟨rfl, F1, G1⟩ := p3
  have H1 := F1.rh H
  refine V_aload_n (j := 2) (q := 761) dL_law_760 rfl rfl ?_
  refine V_sload_n (j := 0) (q := 762) dL_law_761 rfl rfl ?_
  refine V_iload_n (j := 3) (q := 763) dL_law_762 rfl rfl ?_
  refine V_iconst (q := 764) (v := nI 1) dL_law_763 rfl rfl ?_
  refine V_iaddN (q := 765) dL_law_764 rfl ?_
  refine V_sld (q := 766) (by omega) (by omega) dL_law_765 rfl ?_
  refine V_callV (q := 769) (S := [.int (aPd σ.1 (xs (i + 1)))]) kL_98 (c_paddingBytes (x := xs (i + 1)) H1.1) (H1.1.1.1.1 0 _ rfl) rfl (fitR_of (show _ ≤ 12 by omega) (show _ ≤ 452 by omega) (show _ ≤ 600000 by omega) (show _ ≤ 7302250 by omega) (Nat.le_of_ble_eq_true rfl)) rfl dL_law_766 rfl (fun r4 h5 p6 => ?_)
  obtain ⟨rfl, F2⟩ := p6
  have H2 := F2.rh H1
  have G2 := F2.e.cg G1
  refine V_icmp_eq (tgt := 971) (q := 772) dL_law_769 rfl rfl (fun c7 => ?_) (fun c7 => ?_)
  · skip
    refine V_wd (k' := 171 + (i + 6)) (n' := 3174 + 10 * (i + 6)) (by omega) (by omega) ?_
    exact kk _ _ G2 H2
  · skip
    exact absurd rfl c7

set_option maxHeartbeats 4000000 in
set_option maxRecDepth 100000 in
theorem cs_20 {g : GX} {N i : Nat} {xs : Nat → Int32} {e : AH} {σ : GS} (hN : N ≤ 3072) (hi : i + 6 ≤ N) (G : CG e σ) (H : RH e 159 σ) (kk : ∀ (e' : AH) (σ' : GS), CG e' σ' → RH e' 159 σ' → V g mL_law (thL g N xs) e' (171 + (i + 6)) (3174 + 10 * (i + 6)) [(0, .float 0), (1, .ref 0), (2, .ref 159), (3, .int (nI i))] 971 []) : V g mL_law (thL g N xs) e (171 + i) (3174 + 10 * i) [(0, .float 0), (1, .ref 0), (2, .ref 159), (3, .int (nI i))] 774 [] := by
  obtain ⟨U, X⟩ := id G.1
  have hC := X.1
  refine V_aload_n (j := 1) (q := 775) dL_law_774 rfl rfl ?_
  refine V_sload_n (j := 0) (q := 776) dL_law_775 rfl rfl ?_
  refine V_iload_n (j := 3) (q := 777) dL_law_776 rfl rfl ?_
  refine V_iconst (q := 778) (v := nI 1) dL_law_777 rfl rfl ?_
  refine V_iaddN (q := 779) dL_law_778 rfl ?_
  refine V_sld (q := 780) (by omega) (by omega) dL_law_779 rfl ?_
  refine V_callV (q := 783) (S := []) kL_99 (d_pieceCount (x := xs (i + 1)) G) (hC.1 0 _ s_0) rfl (fitR_of (show _ ≤ 12 by omega) (show _ ≤ 452 by omega) (show _ ≤ 600000 by omega) (show _ ≤ 7302250 by omega) (Nat.le_of_ble_eq_true rfl)) rfl dL_law_780 rfl (fun r1 h2 p3 => ?_)
  obtain ⟨rfl, F1, G1⟩ := p3
  have H1 := F1.rh H
  refine V_aload_n (j := 2) (q := 784) dL_law_783 rfl rfl ?_
  refine V_sload_n (j := 0) (q := 785) dL_law_784 rfl rfl ?_
  refine V_iload_n (j := 3) (q := 786) dL_law_785 rfl rfl ?_
  refine V_iconst (q := 787) (v := nI 1) dL_law_786 rfl rfl ?_
  refine V_iaddN (q := 788) dL_law_787 rfl ?_
  refine V_sld (q := 789) (by omega) (by omega) dL_law_788 rfl ?_
  refine V_callV (q := 792) (S := [.int (aCc σ.1 (xs (i + 1)))]) kL_102 (c_pieceCount (x := xs (i + 1)) H1.1) (H1.1.1.1.1 0 _ rfl) rfl (fitR_of (show _ ≤ 12 by omega) (show _ ≤ 452 by omega) (show _ ≤ 600000 by omega) (show _ ≤ 7302250 by omega) (Nat.le_of_ble_eq_true rfl)) rfl dL_law_789 rfl (fun r4 h5 p6 => ?_)
  obtain ⟨rfl, F2⟩ := p6
  have H2 := F2.rh H1
  have G2 := F2.e.cg G1
  refine V_icmp_eq (tgt := 971) (q := 795) dL_law_792 rfl rfl (fun c7 => ?_) (fun c7 => ?_)
  · skip
    refine V_wd (k' := 171 + (i + 6)) (n' := 3174 + 10 * (i + 6)) (by omega) (by omega) ?_
    exact kk _ _ G2 H2
  · skip
    exact absurd rfl c7

set_option maxHeartbeats 4000000 in
set_option maxRecDepth 100000 in
theorem cs_21 {g : GX} {N i : Nat} {xs : Nat → Int32} {e : AH} {σ : GS} (hN : N ≤ 3072) (hi : i + 6 ≤ N) (G : CG e σ) (H : RH e 159 σ) (kk : ∀ (e' : AH) (σ' : GS), CG e' σ' → RH e' 159 σ' → V g mL_law (thL g N xs) e' (171 + (i + 6)) (3174 + 10 * (i + 6)) [(0, .float 0), (1, .ref 0), (2, .ref 159), (3, .int (nI i))] 971 []) : V g mL_law (thL g N xs) e (171 + i) (3174 + 10 * i) [(0, .float 0), (1, .ref 0), (2, .ref 159), (3, .int (nI i))] 797 [] := by
  obtain ⟨U, X⟩ := id G.1
  have hC := X.1
  refine V_aload_n (j := 1) (q := 798) dL_law_797 rfl rfl ?_
  refine V_sload_n (j := 0) (q := 799) dL_law_798 rfl rfl ?_
  refine V_iload_n (j := 3) (q := 800) dL_law_799 rfl rfl ?_
  refine V_iconst (q := 801) (v := nI 1) dL_law_800 rfl rfl ?_
  refine V_iaddN (q := 802) dL_law_801 rfl ?_
  refine V_sld (q := 803) (by omega) (by omega) dL_law_802 rfl ?_
  refine V_sload_n (j := 0) (q := 804) dL_law_803 rfl rfl ?_
  refine V_iload_n (j := 3) (q := 805) dL_law_804 rfl rfl ?_
  refine V_iconst (q := 806) (v := nI 2) dL_law_805 rfl rfl ?_
  refine V_iaddN (q := 807) dL_law_806 rfl ?_
  refine V_sld (q := 808) (by omega) (by omega) dL_law_807 rfl ?_
  refine V_callV (q := 811) (S := []) kL_103 (d_pieceLength (x := xs (i + 1)) (y := xs (i + 2)) G) (hC.1 0 _ s_0) rfl (fitR_of (show _ ≤ 12 by omega) (show _ ≤ 452 by omega) (show _ ≤ 600000 by omega) (show _ ≤ 7302250 by omega) (Nat.le_of_ble_eq_true rfl)) rfl dL_law_808 rfl (fun r1 h2 p3 => ?_)
  obtain ⟨rfl, F1, G1⟩ := p3
  have H1 := F1.rh H
  refine V_aload_n (j := 2) (q := 812) dL_law_811 rfl rfl ?_
  refine V_sload_n (j := 0) (q := 813) dL_law_812 rfl rfl ?_
  refine V_iload_n (j := 3) (q := 814) dL_law_813 rfl rfl ?_
  refine V_iconst (q := 815) (v := nI 1) dL_law_814 rfl rfl ?_
  refine V_iaddN (q := 816) dL_law_815 rfl ?_
  refine V_sld (q := 817) (by omega) (by omega) dL_law_816 rfl ?_
  refine V_sload_n (j := 0) (q := 818) dL_law_817 rfl rfl ?_
  refine V_iload_n (j := 3) (q := 819) dL_law_818 rfl rfl ?_
  refine V_iconst (q := 820) (v := nI 2) dL_law_819 rfl rfl ?_
  refine V_iaddN (q := 821) dL_law_820 rfl ?_
  refine V_sld (q := 822) (by omega) (by omega) dL_law_821 rfl ?_
  refine V_callV (q := 825) (S := [.int (aCl σ.1 (xs (i + 1)) (xs (i + 2)))]) kL_106 (c_pieceLength (x := xs (i + 1)) (y := xs (i + 2)) H1.1) (H1.1.1.1.1 0 _ rfl) rfl (fitR_of (show _ ≤ 12 by omega) (show _ ≤ 452 by omega) (show _ ≤ 600000 by omega) (show _ ≤ 7302250 by omega) (Nat.le_of_ble_eq_true rfl)) rfl dL_law_822 rfl (fun r4 h5 p6 => ?_)
  obtain ⟨rfl, F2⟩ := p6
  have H2 := F2.rh H1
  have G2 := F2.e.cg G1
  refine V_icmp_eq (tgt := 971) (q := 828) dL_law_825 rfl rfl (fun c7 => ?_) (fun c7 => ?_)
  · skip
    refine V_wd (k' := 171 + (i + 6)) (n' := 3174 + 10 * (i + 6)) (by omega) (by omega) ?_
    exact kk _ _ G2 H2
  · skip
    exact absurd rfl c7

set_option maxHeartbeats 4000000 in
set_option maxRecDepth 100000 in
theorem cs_22 {g : GX} {N i : Nat} {xs : Nat → Int32} {e : AH} {σ : GS} (hN : N ≤ 3072) (hi : i + 6 ≤ N) (G : CG e σ) (H : RH e 159 σ) (kk : ∀ (e' : AH) (σ' : GS), CG e' σ' → RH e' 159 σ' → V g mL_law (thL g N xs) e' (171 + (i + 6)) (3174 + 10 * (i + 6)) [(0, .float 0), (1, .ref 0), (2, .ref 159), (3, .int (nI i))] 971 []) : V g mL_law (thL g N xs) e (171 + i) (3174 + 10 * i) [(0, .float 0), (1, .ref 0), (2, .ref 159), (3, .int (nI i))] 830 [] := by
  obtain ⟨U, X⟩ := id G.1
  have hC := X.1
  refine V_aload_n (j := 1) (q := 831) dL_law_830 rfl rfl ?_
  refine V_callV (q := 834) (S := []) kL_107 (d_scalarCount  G) (hC.1 0 _ s_0) rfl (fitR_of (show _ ≤ 12 by omega) (show _ ≤ 452 by omega) (show _ ≤ 600000 by omega) (show _ ≤ 7302250 by omega) (Nat.le_of_ble_eq_true rfl)) rfl dL_law_831 rfl (fun r1 h2 p3 => ?_)
  obtain ⟨rfl, F1, G1⟩ := p3
  have H1 := F1.rh H
  refine V_aload_n (j := 2) (q := 835) dL_law_834 rfl rfl ?_
  refine V_callV (q := 838) (S := [.int (aSc σ.1)]) kL_110 (c_scalarCount  H1.1) (H1.1.1.1.1 0 _ rfl) rfl (fitR_of (show _ ≤ 12 by omega) (show _ ≤ 452 by omega) (show _ ≤ 600000 by omega) (show _ ≤ 7302250 by omega) (Nat.le_of_ble_eq_true rfl)) rfl dL_law_835 rfl (fun r4 h5 p6 => ?_)
  obtain ⟨rfl, F2⟩ := p6
  have H2 := F2.rh H1
  have G2 := F2.e.cg G1
  refine V_icmp_eq (tgt := 971) (q := 841) dL_law_838 rfl rfl (fun c7 => ?_) (fun c7 => ?_)
  · skip
    refine V_wd (k' := 171 + (i + 6)) (n' := 3174 + 10 * (i + 6)) (by omega) (by omega) ?_
    exact kk _ _ G2 H2
  · skip
    exact absurd rfl c7

set_option maxHeartbeats 4000000 in
set_option maxRecDepth 100000 in
theorem cs_23 {g : GX} {N i : Nat} {xs : Nat → Int32} {e : AH} {σ : GS} (hN : N ≤ 3072) (hi : i + 6 ≤ N) (G : CG e σ) (H : RH e 159 σ) (kk : ∀ (e' : AH) (σ' : GS), CG e' σ' → RH e' 159 σ' → V g mL_law (thL g N xs) e' (171 + (i + 6)) (3174 + 10 * (i + 6)) [(0, .float 0), (1, .ref 0), (2, .ref 159), (3, .int (nI i))] 971 []) : V g mL_law (thL g N xs) e (171 + i) (3174 + 10 * i) [(0, .float 0), (1, .ref 0), (2, .ref 159), (3, .int (nI i))] 843 [] := by
  obtain ⟨U, X⟩ := id G.1
  have hC := X.1
  refine V_aload_n (j := 1) (q := 844) dL_law_843 rfl rfl ?_
  refine V_callV (q := 847) (S := []) kL_111 (d_liveBytes  G) (hC.1 0 _ s_0) rfl (fitR_of (show _ ≤ 12 by omega) (show _ ≤ 452 by omega) (show _ ≤ 600000 by omega) (show _ ≤ 7302250 by omega) (Nat.le_of_ble_eq_true rfl)) rfl dL_law_844 rfl (fun r1 h2 p3 => ?_)
  obtain ⟨rfl, F1, G1⟩ := p3
  have H1 := F1.rh H
  refine V_aload_n (j := 2) (q := 848) dL_law_847 rfl rfl ?_
  refine V_callV (q := 851) (S := [.int (aLb σ.1)]) kL_114 (c_liveBytes  H1.1) (H1.1.1.1.1 0 _ rfl) rfl (fitR_of (show _ ≤ 12 by omega) (show _ ≤ 452 by omega) (show _ ≤ 600000 by omega) (show _ ≤ 7302250 by omega) (Nat.le_of_ble_eq_true rfl)) rfl dL_law_848 rfl (fun r4 h5 p6 => ?_)
  obtain ⟨rfl, F2⟩ := p6
  have H2 := F2.rh H1
  have G2 := F2.e.cg G1
  refine V_icmp_eq (tgt := 971) (q := 854) dL_law_851 rfl rfl (fun c7 => ?_) (fun c7 => ?_)
  · skip
    refine V_wd (k' := 171 + (i + 6)) (n' := 3174 + 10 * (i + 6)) (by omega) (by omega) ?_
    exact kk _ _ G2 H2
  · skip
    exact absurd rfl c7


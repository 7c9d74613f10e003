set_option maxHeartbeats 4000000 in
set_option maxRecDepth 100000 in
theorem cs_24 {g : GX} {N i : Nat} {xs : Nat → Int32} {e : AH} {σ : GS} (hN : N ≤ 3072) (hi : i + 6 ≤ N) (G : CG e σ) (H : RH e 159 σ) (kk : ∀ (e' : AH) (σ' : GS), CG e' σ' → RH e' 159 σ' → V g mL_law (thL g N xs) e' (171 + (i + 6)) (3174 + 10 * (i + 6)) [(0, .float 0), (1, .ref 0), (2, .ref 159), (3, .int (nI i))] 971 []) : V g mL_law (thL g N xs) e (171 + i) (3174 + 10 * i) [(0, .float 0), (1, .ref 0), (2, .ref 159), (3, .int (nI i))] 856 [] := by
  obtain ⟨U, X⟩ := id G.1
  have hC := X.1
  refine V_aload_n (j := 1) (q := 857) dL_law_856 rfl rfl ?_
  refine V_callV (q := 860) (S := []) kL_115 (d_trapPosition  G) (hC.1 0 _ s_0) rfl (fitR_of (show _ ≤ 12 by omega) (show _ ≤ 452 by omega) (show _ ≤ 600000 by omega) (show _ ≤ 7302250 by omega) (Nat.le_of_ble_eq_true rfl)) rfl dL_law_857 rfl (fun r1 h2 p3 => ?_)
  obtain ⟨rfl, F1, G1⟩ := p3
  have H1 := F1.rh H
  refine V_aload_n (j := 2) (q := 861) dL_law_860 rfl rfl ?_
  refine V_callV (q := 864) (S := [.int (aTp σ.1)]) kL_118 (c_trapPosition  H1.1) (H1.1.1.1.1 0 _ rfl) rfl (fitR_of (show _ ≤ 12 by omega) (show _ ≤ 452 by omega) (show _ ≤ 600000 by omega) (show _ ≤ 7302250 by omega) (Nat.le_of_ble_eq_true rfl)) rfl dL_law_861 rfl (fun r4 h5 p6 => ?_)
  obtain ⟨rfl, F2⟩ := p6
  have H2 := F2.rh H1
  have G2 := F2.e.cg G1
  refine V_icmp_eq (tgt := 971) (q := 867) dL_law_864 rfl rfl (fun c7 => ?_) (fun c7 => ?_)
  · skip
    refine V_wd (k' := 171 + (i + 6)) (n' := 3174 + 10 * (i + 6)) (by omega) (by omega) ?_
    exact kk _ _ G2 H2
  · skip
    exact absurd rfl c7

set_option maxHeartbeats 4000000 in
set_option maxRecDepth 100000 in
theorem cs_25 {g : GX} {N i : Nat} {xs : Nat → Int32} {e : AH} {σ : GS} (hN : N ≤ 3072) (hi : i + 6 ≤ N) (G : CG e σ) (H : RH e 159 σ) (kk : ∀ (e' : AH) (σ' : GS), CG e' σ' → RH e' 159 σ' → V g mL_law (thL g N xs) e' (171 + (i + 6)) (3174 + 10 * (i + 6)) [(0, .float 0), (1, .ref 0), (2, .ref 159), (3, .int (nI i))] 971 []) : V g mL_law (thL g N xs) e (171 + i) (3174 + 10 * i) [(0, .float 0), (1, .ref 0), (2, .ref 159), (3, .int (nI i))] 869 [] := by
  obtain ⟨U, X⟩ := id G.1
  have hC := X.1
  refine V_aload_n (j := 1) (q := 870) dL_law_869 rfl rfl ?_
  refine V_sload_n (j := 0) (q := 871) dL_law_870 rfl rfl ?_
  refine V_iload_n (j := 3) (q := 872) dL_law_871 rfl rfl ?_
  refine V_iconst (q := 873) (v := nI 1) dL_law_872 rfl rfl ?_
  refine V_iaddN (q := 874) dL_law_873 rfl ?_
  refine V_sld (q := 875) (by omega) (by omega) dL_law_874 rfl ?_
  refine V_callV (q := 878) (S := []) kL_119 (d_outputCount (x := xs (i + 1)) G) (hC.1 0 _ s_0) rfl (fitR_of (show _ ≤ 12 by omega) (show _ ≤ 452 by omega) (show _ ≤ 600000 by omega) (show _ ≤ 7302250 by omega) (Nat.le_of_ble_eq_true rfl)) rfl dL_law_875 rfl (fun r1 h2 p3 => ?_)
  obtain ⟨rfl, F1, G1⟩ := p3
  have H1 := F1.rh H
  refine V_aload_n (j := 2) (q := 879) dL_law_878 rfl rfl ?_
  refine V_sload_n (j := 0) (q := 880) dL_law_879 rfl rfl ?_
  refine V_iload_n (j := 3) (q := 881) dL_law_880 rfl rfl ?_
  refine V_iconst (q := 882) (v := nI 1) dL_law_881 rfl rfl ?_
  refine V_iaddN (q := 883) dL_law_882 rfl ?_
  refine V_sld (q := 884) (by omega) (by omega) dL_law_883 rfl ?_
  refine V_callV (q := 887) (S := [.int (aOc σ.1 (xs (i + 1)))]) kL_122 (c_outputCount (x := xs (i + 1)) H1.1) (H1.1.1.1.1 0 _ rfl) rfl (fitR_of (show _ ≤ 12 by omega) (show _ ≤ 452 by omega) (show _ ≤ 600000 by omega) (show _ ≤ 7302250 by omega) (Nat.le_of_ble_eq_true rfl)) rfl dL_law_884 rfl (fun r4 h5 p6 => ?_)
  obtain ⟨rfl, F2⟩ := p6
  have H2 := F2.rh H1
  have G2 := F2.e.cg G1
  refine V_icmp_eq (tgt := 971) (q := 890) dL_law_887 rfl rfl (fun c7 => ?_) (fun c7 => ?_)
  · skip
    refine V_wd (k' := 171 + (i + 6)) (n' := 3174 + 10 * (i + 6)) (by omega) (by omega) ?_
    exact kk _ _ G2 H2
  · skip
    exact absurd rfl c7

set_option maxHeartbeats 4000000 in
set_option maxRecDepth 100000 in
theorem cs_26 {g : GX} {N i : Nat} {xs : Nat → Int32} {e : AH} {σ : GS} (hN : N ≤ 3072) (hi : i + 6 ≤ N) (G : CG e σ) (H : RH e 159 σ) (kk : ∀ (e' : AH) (σ' : GS), CG e' σ' → RH e' 159 σ' → V g mL_law (thL g N xs) e' (171 + (i + 6)) (3174 + 10 * (i + 6)) [(0, .float 0), (1, .ref 0), (2, .ref 159), (3, .int (nI i))] 971 []) : V g mL_law (thL g N xs) e (171 + i) (3174 + 10 * i) [(0, .float 0), (1, .ref 0), (2, .ref 159), (3, .int (nI i))] 892 [] := by
  obtain ⟨U, X⟩ := id G.1
  have hC := X.1
  refine V_aload_n (j := 1) (q := 893) dL_law_892 rfl rfl ?_
  refine V_sload_n (j := 0) (q := 894) dL_law_893 rfl rfl ?_
  refine V_iload_n (j := 3) (q := 895) dL_law_894 rfl rfl ?_
  refine V_iconst (q := 896) (v := nI 1) dL_law_895 rfl rfl ?_
  refine V_iaddN (q := 897) dL_law_896 rfl ?_
  refine V_sld (q := 898) (by omega) (by omega) dL_law_897 rfl ?_
  refine V_sload_n (j := 0) (q := 899) dL_law_898 rfl rfl ?_
  refine V_iload_n (j := 3) (q := 900) dL_law_899 rfl rfl ?_
  refine V_iconst (q := 901) (v := nI 2) dL_law_900 rfl rfl ?_
  refine V_iaddN (q := 902) dL_law_901 rfl ?_
  refine V_sld (q := 903) (by omega) (by omega) dL_law_902 rfl ?_
  refine V_callV (q := 906) (S := []) kL_123 (d_outputAt (x := xs (i + 1)) (y := xs (i + 2)) G) (hC.1 0 _ s_0) rfl (fitR_of (show _ ≤ 12 by omega) (show _ ≤ 452 by omega) (show _ ≤ 600000 by omega) (show _ ≤ 7302250 by omega) (Nat.le_of_ble_eq_true rfl)) rfl dL_law_903 rfl (fun r1 h2 p3 => ?_)
  obtain ⟨rfl, F1, G1⟩ := p3
  have H1 := F1.rh H
  refine V_aload_n (j := 2) (q := 907) dL_law_906 rfl rfl ?_
  refine V_sload_n (j := 0) (q := 908) dL_law_907 rfl rfl ?_
  refine V_iload_n (j := 3) (q := 909) dL_law_908 rfl rfl ?_
  refine V_iconst (q := 910) (v := nI 1) dL_law_909 rfl rfl ?_
  refine V_iaddN (q := 911) dL_law_910 rfl ?_
  refine V_sld (q := 912) (by omega) (by omega) dL_law_911 rfl ?_
  refine V_sload_n (j := 0) (q := 913) dL_law_912 rfl rfl ?_
  refine V_iload_n (j := 3) (q := 914) dL_law_913 rfl rfl ?_
  refine V_iconst (q := 915) (v := nI 2) dL_law_914 rfl rfl ?_
  refine V_iaddN (q := 916) dL_law_915 rfl ?_
  refine V_sld (q := 917) (by omega) (by omega) dL_law_916 rfl ?_
  refine V_callV (q := 920) (S := [.int (aOa σ.1 (xs (i + 1)) (xs (i + 2)))]) kL_126 (c_outputAt (x := xs (i + 1)) (y := xs (i + 2)) H1.1) (H1.1.1.1.1 0 _ rfl) rfl (fitR_of (show _ ≤ 12 by omega) (show _ ≤ 452 by omega) (show _ ≤ 600000 by omega) (show _ ≤ 7302250 by omega) (Nat.le_of_ble_eq_true rfl)) rfl dL_law_917 rfl (fun r4 h5 p6 => ?_)
  obtain ⟨rfl, F2⟩ := p6
  have H2 := F2.rh H1
  have G2 := F2.e.cg G1
  refine V_icmp_eq (tgt := 971) (q := 923) dL_law_920 rfl rfl (fun c7 => ?_) (fun c7 => ?_)
  · skip
    refine V_wd (k' := 171 + (i + 6)) (n' := 3174 + 10 * (i + 6)) (by omega) (by omega) ?_
    exact kk _ _ G2 H2
  · skip
    exact absurd rfl c7

set_option maxHeartbeats 4000000 in
set_option maxRecDepth 100000 in
theorem cs_27 {g : GX} {N i : Nat} {xs : Nat → Int32} {e : AH} {σ : GS} (hN : N ≤ 3072) (hi : i + 6 ≤ N) (G : CG e σ) (H : RH e 159 σ) (kk : ∀ (e' : AH) (σ' : GS), CG e' σ' → RH e' 159 σ' → V g mL_law (thL g N xs) e' (171 + (i + 6)) (3174 + 10 * (i + 6)) [(0, .float 0), (1, .ref 0), (2, .ref 159), (3, .int (nI i))] 971 []) : V g mL_law (thL g N xs) e (171 + i) (3174 + 10 * i) [(0, .float 0), (1, .ref 0), (2, .ref 159), (3, .int (nI i))] 925 [] := by
  obtain ⟨U, X⟩ := id G.1
  have hC := X.1
  refine V_aload_n (j := 1) (q := 926) dL_law_925 rfl rfl ?_
  refine V_sload_n (j := 0) (q := 927) dL_law_926 rfl rfl ?_
  refine V_iload_n (j := 3) (q := 928) dL_law_927 rfl rfl ?_
  refine V_iconst (q := 929) (v := nI 1) dL_law_928 rfl rfl ?_
  refine V_iaddN (q := 930) dL_law_929 rfl ?_
  refine V_sld (q := 931) (by omega) (by omega) dL_law_930 rfl ?_
  refine V_callV (q := 934) (S := []) kL_127 (d_checksum (x := xs (i + 1)) G) (hC.1 0 _ s_0) rfl (fitR_of (show _ ≤ 12 by omega) (show _ ≤ 452 by omega) (show _ ≤ 600000 by omega) (show _ ≤ 7302250 by omega) (Nat.le_of_ble_eq_true rfl)) rfl dL_law_931 rfl (fun r1 h2 p3 => ?_)
  obtain ⟨rfl, F1, G1⟩ := p3
  have H1 := F1.rh H
  refine V_aload_n (j := 2) (q := 935) dL_law_934 rfl rfl ?_
  refine V_sload_n (j := 0) (q := 936) dL_law_935 rfl rfl ?_
  refine V_iload_n (j := 3) (q := 937) dL_law_936 rfl rfl ?_
  refine V_iconst (q := 938) (v := nI 1) dL_law_937 rfl rfl ?_
  refine V_iaddN (q := 939) dL_law_938 rfl ?_
  refine V_sld (q := 940) (by omega) (by omega) dL_law_939 rfl ?_
  refine V_callV (q := 943) (S := [.int (aCk σ.1 (xs (i + 1)))]) kL_130 (c_checksum (x := xs (i + 1)) H1.1) (H1.1.1.1.1 0 _ rfl) rfl (fitR_of (show _ ≤ 12 by omega) (show _ ≤ 452 by omega) (show _ ≤ 600000 by omega) (show _ ≤ 7302250 by omega) (Nat.le_of_ble_eq_true rfl)) rfl dL_law_940 rfl (fun r4 h5 p6 => ?_)
  obtain ⟨rfl, F2⟩ := p6
  have H2 := F2.rh H1
  have G2 := F2.e.cg G1
  refine V_icmp_eq (tgt := 971) (q := 946) dL_law_943 rfl rfl (fun c7 => ?_) (fun c7 => ?_)
  · skip
    refine V_wd (k' := 171 + (i + 6)) (n' := 3174 + 10 * (i + 6)) (by omega) (by omega) ?_
    exact kk _ _ G2 H2
  · skip
    exact absurd rfl c7

set_option maxHeartbeats 4000000 in
set_option maxRecDepth 100000 in
theorem cs_28 {g : GX} {N i : Nat} {xs : Nat → Int32} {e : AH} {σ : GS} (hN : N ≤ 3072) (hi : i + 6 ≤ N) (G : CG e σ) (H : RH e 159 σ) (kk : ∀ (e' : AH) (σ' : GS), CG e' σ' → RH e' 159 σ' → V g mL_law (thL g N xs) e' (171 + (i + 6)) (3174 + 10 * (i + 6)) [(0, .float 0), (1, .ref 0), (2, .ref 159), (3, .int (nI i))] 971 []) : V g mL_law (thL g N xs) e (171 + i) (3174 + 10 * i) [(0, .float 0), (1, .ref 0), (2, .ref 159), (3, .int (nI i))] 948 [] := by
  obtain ⟨U, X⟩ := id G.1
  have hC := X.1
  refine V_aload_n (j := 1) (q := 949) dL_law_948 rfl rfl ?_
  refine V_sload_n (j := 0) (q := 950) dL_law_949 rfl rfl ?_
  refine V_iload_n (j := 3) (q := 951) dL_law_950 rfl rfl ?_
  refine V_iconst (q := 952) (v := nI 1) dL_law_951 rfl rfl ?_
  refine V_iaddN (q := 953) dL_law_952 rfl ?_
  refine V_sld (q := 954) (by omega) (by omega) dL_law_953 rfl ?_
  refine V_callV (q := 957) (S := []) kL_131 (d_cost (x := xs (i + 1)) G) (hC.1 0 _ s_0) rfl (fitR_of (show _ ≤ 12 by omega) (show _ ≤ 452 by omega) (show _ ≤ 600000 by omega) (show _ ≤ 7302250 by omega) (Nat.le_of_ble_eq_true rfl)) rfl dL_law_954 rfl (fun r1 h2 p3 => ?_)
  obtain ⟨rfl, F1, G1⟩ := p3
  have H1 := F1.rh H
  refine V_aload_n (j := 2) (q := 958) dL_law_957 rfl rfl ?_
  refine V_sload_n (j := 0) (q := 959) dL_law_958 rfl rfl ?_
  refine V_iload_n (j := 3) (q := 960) dL_law_959 rfl rfl ?_
  refine V_iconst (q := 961) (v := nI 1) dL_law_960 rfl rfl ?_
  refine V_iaddN (q := 962) dL_law_961 rfl ?_
  refine V_sld (q := 963) (by omega) (by omega) dL_law_962 rfl ?_
  refine V_callV (q := 966) (S := [.int (aCs σ.1 (xs (i + 1)))]) kL_134 (c_cost (x := xs (i + 1)) H1.1) (H1.1.1.1.1 0 _ rfl) rfl (fitR_of (show _ ≤ 12 by omega) (show _ ≤ 452 by omega) (show _ ≤ 600000 by omega) (show _ ≤ 7302250 by omega) (Nat.le_of_ble_eq_true rfl)) rfl dL_law_963 rfl (fun r4 h5 p6 => ?_)
  obtain ⟨rfl, F2⟩ := p6
  have H2 := F2.rh H1
  have G2 := F2.e.cg G1
  refine V_icmp_eq (tgt := 971) (q := 969) dL_law_966 rfl rfl (fun c7 => ?_) (fun c7 => ?_)
  · skip
    refine V_wd (k' := 171 + (i + 6)) (n' := 3174 + 10 * (i + 6)) (by omega) (by omega) ?_
    exact kk _ _ G2 H2
  · skip
    exact absurd rfl c7


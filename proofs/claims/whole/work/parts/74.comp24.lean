theorem hP_apn (h : AH) (l : List (Nat × Nat)) : hP (apn h l) = hP h := rfl
theorem hP_sI (h : AH) (a j : Nat) (v : Int32) : hP (sI h a j v) = hP h := rfl
set_option maxHeartbeats 4000000 in
set_option maxRecDepth 100000 in
theorem d_Pinit {g : GX} {h : AH} {a : Nat} : Ct g mX4_init 1 0 0 [.ref a] h (fun ρ η => ρ = none ∧ η = h) := by
  refine Ct_intro (by decide +kernel) (Nat.le_of_ble_eq_true rfl) ?_
  show V g mX4_init _ h 0 0 [(0, .ref a)] 0 []
  refine V_aload_n (j := 0) (q := 1) dX4_init_0 rfl rfl ?_
  refine V_objInit (q := 4) kX4_1 rfl rfl rfl dX4_init_1 rfl ?_
  refine V_vret rfl dX4_init_4 rfl rfl ?_
  exact ⟨rfl, rfl⟩

set_option maxHeartbeats 4000000 in
set_option maxRecDepth 100000 in
theorem d_Hinit {g : GX} {h : AH} (hl : h.1.length = 6) (hs : h.1[5]? = some (1, 5)) (Z : Fz h) : Ct g mX1_init 1 3 24 [.ref 5] h (fun ρ η => ρ = none ∧ Cn h η 5 [(9, 8), (9, 8), (12, 8)] ∧ ∀ k, k < 3 → hP η 5 k = some (6 + k)) := by
  refine Ct_intro (by decide +kernel) (Nat.le_of_ble_eq_true rfl) ?_
  show V g mX1_init _ h 0 0 [(0, .ref 5)] 0 []
  refine V_aload_n (j := 0) (q := 1) dX1_init_0 rfl rfl ?_
  refine V_objInit (q := 4) kX1_3 rfl rfl rfl dX1_init_1 rfl ?_
  refine V_aload_n (j := 0) (q := 5) dX1_init_4 rfl rfl ?_
  refine V_bipush (q := 7) (v := nI 8) dX1_init_5 rfl (by decide) ?_
  refine V_newI (q := 9) (N := 8) rfl rfl dX1_init_7 rfl ?_
  refine V_al (a := 6) Z hl ?_
  refine V_putFP (q := 12) wX1_9 (Or.inr ⟨_, rfl⟩) rfl (sh_ap hs) rfl dX1_init_9 rfl ?_
  refine V_aload_n (j := 0) (q := 13) dX1_init_12 rfl rfl ?_
  refine V_bipush (q := 15) (v := nI 8) dX1_init_13 rfl (by decide) ?_
  refine V_newI (q := 17) (N := 8) rfl rfl dX1_init_15 rfl ?_
  refine V_al (a := 7) (Fz_sP (Fz.ap Z) (Nat.lt_of_lt_of_eq (show 5 < 7 by omega) (len_ap hl).symm)) (len_ap hl) ?_
  refine V_putFP (q := 20) wX1_15 (Or.inr ⟨_, rfl⟩) rfl (sh_ap (sh_ap hs)) rfl dX1_init_17 rfl ?_
  refine V_aload_n (j := 0) (q := 21) dX1_init_20 rfl rfl ?_
  refine V_bipush (q := 23) (v := nI 8) dX1_init_21 rfl (by decide) ?_
  refine V_anew (q := 26) (c := 12) (N := 8) (Or.inl ⟨rfl, rfl⟩) nX1_18 rfl rfl dX1_init_23 rfl ?_
  refine V_al (a := 8) (Fz_sP (Fz.ap (Fz_sP (Fz.ap Z) (Nat.lt_of_lt_of_eq (show 5 < 7 by omega) (len_ap hl).symm))) (Nat.lt_of_lt_of_eq (show 5 < 8 by omega) (len_ap (len_ap hl)).symm)) (len_ap (len_ap hl)) ?_
  refine V_putFP (q := 29) wX1_20 (Or.inr ⟨_, rfl⟩) rfl (sh_ap (sh_ap (sh_ap hs))) rfl dX1_init_26 rfl ?_
  refine V_vret rfl dX1_init_29 rfl rfl ?_
  refine ⟨rfl, ⟨by simp [apn, sP], Fz_sP (Fz.ap (Fz_sP (Fz.ap (Fz_sP (Fz.ap Z) (Nat.lt_of_lt_of_eq (show 5 < 7 by omega) (len_ap hl).symm))) (Nat.lt_of_lt_of_eq (show 5 < 8 by omega) (len_ap (len_ap hl)).symm))) (Nat.lt_of_lt_of_eq (show 5 < 9 by omega) (len_ap (len_ap (len_ap hl))).symm), rfl, fun b hb => by rw [hP_n (by omega), hP_apn, hP_n (by omega), hP_apn, hP_n (by omega), hP_apn]⟩, fun k hk => ?_⟩
  rcases (show k = 0 ∨ k = 1 ∨ k = 2 by omega) with rfl | rfl | rfl <;> simp [hP_s, hP_apn]

set_option maxHeartbeats 4000000 in
set_option maxRecDepth 100000 in
theorem d_Minit {g : GX} {h : AH} (hl : h.1.length = 160) (hs : h.1[159]? = some (8, 16)) (Z : Fz h) : Ct g mX8_init 1 11 1770 [.ref 159] h (fun ρ η => ρ = none ∧ Cn h η 159 [(9, 150), (9, 1200), (9, 64), (9, 64), (9, 64), (9, 4), (10, 64), (10, 64), (9, 64), (9, 8), (9, 24)] ∧ ∀ k r, mdP k = some r → hP η 159 k = some (159 + r)) := by
  refine Ct_intro (by decide +kernel) (Nat.le_of_ble_eq_true rfl) ?_
  show V g mX8_init _ h 0 0 [(0, .ref 159)] 0 []
  refine V_aload_n (j := 0) (q := 1) dX8_init_0 rfl rfl ?_
  refine V_objInit (q := 4) kX8_1 rfl rfl rfl dX8_init_1 rfl ?_
  refine V_aload_n (j := 0) (q := 5) dX8_init_4 rfl rfl ?_
  refine V_sipush (q := 8) (v := nI 150) dX8_init_5 rfl (by decide) ?_
  refine V_newI (q := 10) (N := 150) rfl rfl dX8_init_8 rfl ?_
  refine V_al (a := 160) Z hl ?_
  refine V_putFP (q := 13) wX8_7 (Or.inr ⟨_, rfl⟩) rfl (sh_ap hs) rfl dX8_init_10 rfl ?_
  refine V_aload_n (j := 0) (q := 14) dX8_init_13 rfl rfl ?_
  refine V_sipush (q := 17) (v := nI 1200) dX8_init_14 rfl (by decide) ?_
  refine V_newI (q := 19) (N := 1200) rfl rfl dX8_init_17 rfl ?_
  refine V_al (a := 161) (Fz_sP (Fz.ap Z) (Nat.lt_of_lt_of_eq (show 159 < 161 by omega) (len_ap hl).symm)) (len_ap hl) ?_
  refine V_putFP (q := 22) wX8_13 (Or.inr ⟨_, rfl⟩) rfl (sh_ap (sh_ap hs)) rfl dX8_init_19 rfl ?_
  refine V_aload_n (j := 0) (q := 23) dX8_init_22 rfl rfl ?_
  refine V_bipush (q := 25) (v := nI 64) dX8_init_23 rfl (by decide) ?_
  refine V_newI (q := 27) (N := 64) rfl rfl dX8_init_25 rfl ?_
  refine V_al (a := 162) (Fz_sP (Fz.ap (Fz_sP (Fz.ap Z) (Nat.lt_of_lt_of_eq (show 159 < 161 by omega) (len_ap hl).symm))) (Nat.lt_of_lt_of_eq (show 159 < 162 by omega) (len_ap (len_ap hl)).symm)) (len_ap (len_ap hl)) ?_
  refine V_putFP (q := 30) wX8_16 (Or.inr ⟨_, rfl⟩) rfl (sh_ap (sh_ap (sh_ap hs))) rfl dX8_init_27 rfl ?_
  refine V_aload_n (j := 0) (q := 31) dX8_init_30 rfl rfl ?_
  refine V_bipush (q := 33) (v := nI 64) dX8_init_31 rfl (by decide) ?_
  refine V_newI (q := 35) (N := 64) rfl rfl dX8_init_33 rfl ?_
  refine V_al (a := 163) (Fz_sP (Fz.ap (Fz_sP (Fz.ap (Fz_sP (Fz.ap Z) (Nat.lt_of_lt_of_eq (show 159 < 161 by omega) (len_ap hl).symm))) (Nat.lt_of_lt_of_eq (show 159 < 162 by omega) (len_ap (len_ap hl)).symm))) (Nat.lt_of_lt_of_eq (show 159 < 163 by omega) (len_ap (len_ap (len_ap hl))).symm)) (len_ap (len_ap (len_ap hl))) ?_
  refine V_putFP (q := 38) wX8_19 (Or.inr ⟨_, rfl⟩) rfl (sh_ap (sh_ap (sh_ap (sh_ap hs)))) rfl dX8_init_35 rfl ?_
  refine V_aload_n (j := 0) (q := 39) dX8_init_38 rfl rfl ?_
  refine V_bipush (q := 41) (v := nI 64) dX8_init_39 rfl (by decide) ?_
  refine V_newI (q := 43) (N := 64) rfl rfl dX8_init_41 rfl ?_
  refine V_al (a := 164) (Fz_sP (Fz.ap (Fz_sP (Fz.ap (Fz_sP (Fz.ap (Fz_sP (Fz.ap Z) (Nat.lt_of_lt_of_eq (show 159 < 161 by omega) (len_ap hl).symm))) (Nat.lt_of_lt_of_eq (show 159 < 162 by omega) (len_ap (len_ap hl)).symm))) (Nat.lt_of_lt_of_eq (show 159 < 163 by omega) (len_ap (len_ap (len_ap hl))).symm))) (Nat.lt_of_lt_of_eq (show 159 < 164 by omega) (len_ap (len_ap (len_ap (len_ap hl)))).symm)) (len_ap (len_ap (len_ap (len_ap hl)))) ?_
  refine V_putFP (q := 46) wX8_22 (Or.inr ⟨_, rfl⟩) rfl (sh_ap (sh_ap (sh_ap (sh_ap (sh_ap hs))))) rfl dX8_init_43 rfl ?_
  refine V_aload_n (j := 0) (q := 47) dX8_init_46 rfl rfl ?_
  refine V_iconst (q := 48) (v := nI 4) dX8_init_47 rfl rfl ?_
  refine V_newI (q := 50) (N := 4) rfl rfl dX8_init_48 rfl ?_
  refine V_al (a := 165) (Fz_sP (Fz.ap (Fz_sP (Fz.ap (Fz_sP (Fz.ap (Fz_sP (Fz.ap (Fz_sP (Fz.ap Z) (Nat.lt_of_lt_of_eq (show 159 < 161 by omega) (len_ap hl).symm))) (Nat.lt_of_lt_of_eq (show 159 < 162 by omega) (len_ap (len_ap hl)).symm))) (Nat.lt_of_lt_of_eq (show 159 < 163 by omega) (len_ap (len_ap (len_ap hl))).symm))) (Nat.lt_of_lt_of_eq (show 159 < 164 by omega) (len_ap (len_ap (len_ap (len_ap hl)))).symm))) (Nat.lt_of_lt_of_eq (show 159 < 165 by omega) (len_ap (len_ap (len_ap (len_ap (len_ap hl))))).symm)) (len_ap (len_ap (len_ap (len_ap (len_ap hl))))) ?_
  refine V_putFP (q := 53) wX8_25 (Or.inr ⟨_, rfl⟩) rfl (sh_ap (sh_ap (sh_ap (sh_ap (sh_ap (sh_ap hs)))))) rfl dX8_init_50 rfl ?_
  refine V_aload_n (j := 0) (q := 54) dX8_init_53 rfl rfl ?_
  refine V_bipush (q := 56) (v := nI 64) dX8_init_54 rfl (by decide) ?_
  refine V_newZ (q := 58) (N := 64) rfl rfl dX8_init_56 rfl ?_
  refine V_al (a := 166) (Fz_sP (Fz.ap (Fz_sP (Fz.ap (Fz_sP (Fz.ap (Fz_sP (Fz.ap (Fz_sP (Fz.ap (Fz_sP (Fz.ap Z) (Nat.lt_of_lt_of_eq (show 159 < 161 by omega) (len_ap hl).symm))) (Nat.lt_of_lt_of_eq (show 159 < 162 by omega) (len_ap (len_ap hl)).symm))) (Nat.lt_of_lt_of_eq (show 159 < 163 by omega) (len_ap (len_ap (len_ap hl))).symm))) (Nat.lt_of_lt_of_eq (show 159 < 164 by omega) (len_ap (len_ap (len_ap (len_ap hl)))).symm))) (Nat.lt_of_lt_of_eq (show 159 < 165 by omega) (len_ap (len_ap (len_ap (len_ap (len_ap hl))))).symm))) (Nat.lt_of_lt_of_eq (show 159 < 166 by omega) (len_ap (len_ap (len_ap (len_ap (len_ap (len_ap hl)))))).symm)) (len_ap (len_ap (len_ap (len_ap (len_ap (len_ap hl)))))) ?_
  refine V_putFP (q := 61) wX8_28 (Or.inr ⟨_, rfl⟩) rfl (sh_ap (sh_ap (sh_ap (sh_ap (sh_ap (sh_ap (sh_ap hs))))))) rfl dX8_init_58 rfl ?_
  refine V_aload_n (j := 0) (q := 62) dX8_init_61 rfl rfl ?_
  refine V_bipush (q := 64) (v := nI 64) dX8_init_62 rfl (by decide) ?_
  refine V_newZ (q := 66) (N := 64) rfl rfl dX8_init_64 rfl ?_
  refine V_al (a := 167) (Fz_sP (Fz.ap (Fz_sP (Fz.ap (Fz_sP (Fz.ap (Fz_sP (Fz.ap (Fz_sP (Fz.ap (Fz_sP (Fz.ap (Fz_sP (Fz.ap Z) (Nat.lt_of_lt_of_eq (show 159 < 161 by omega) (len_ap hl).symm))) (Nat.lt_of_lt_of_eq (show 159 < 162 by omega) (len_ap (len_ap hl)).symm))) (Nat.lt_of_lt_of_eq (show 159 < 163 by omega) (len_ap (len_ap (len_ap hl))).symm))) (Nat.lt_of_lt_of_eq (show 159 < 164 by omega) (len_ap (len_ap (len_ap (len_ap hl)))).symm))) (Nat.lt_of_lt_of_eq (show 159 < 165 by omega) (len_ap (len_ap (len_ap (len_ap (len_ap hl))))).symm))) (Nat.lt_of_lt_of_eq (show 159 < 166 by omega) (len_ap (len_ap (len_ap (len_ap (len_ap (len_ap hl)))))).symm))) (Nat.lt_of_lt_of_eq (show 159 < 167 by omega) (len_ap (len_ap (len_ap (len_ap (len_ap (len_ap (len_ap hl))))))).symm)) (len_ap (len_ap (len_ap (len_ap (len_ap (len_ap (len_ap hl))))))) ?_
  refine V_putFP (q := 69) wX8_32 (Or.inr ⟨_, rfl⟩) rfl (sh_ap (sh_ap (sh_ap (sh_ap (sh_ap (sh_ap (sh_ap (sh_ap hs)))))))) rfl dX8_init_66 rfl ?_
  refine V_aload_n (j := 0) (q := 70) dX8_init_69 rfl rfl ?_
  refine V_bipush (q := 72) (v := nI 64) dX8_init_70 rfl (by decide) ?_
  refine V_newI (q := 74) (N := 64) rfl rfl dX8_init_72 rfl ?_
  refine V_al (a := 168) (Fz_sP (Fz.ap (Fz_sP (Fz.ap (Fz_sP (Fz.ap (Fz_sP (Fz.ap (Fz_sP (Fz.ap (Fz_sP (Fz.ap (Fz_sP (Fz.ap (Fz_sP (Fz.ap Z) (Nat.lt_of_lt_of_eq (show 159 < 161 by omega) (len_ap hl).symm))) (Nat.lt_of_lt_of_eq (show 159 < 162 by omega) (len_ap (len_ap hl)).symm))) (Nat.lt_of_lt_of_eq (show 159 < 163 by omega) (len_ap (len_ap (len_ap hl))).symm))) (Nat.lt_of_lt_of_eq (show 159 < 164 by omega) (len_ap (len_ap (len_ap (len_ap hl)))).symm))) (Nat.lt_of_lt_of_eq (show 159 < 165 by omega) (len_ap (len_ap (len_ap (len_ap (len_ap hl))))).symm))) (Nat.lt_of_lt_of_eq (show 159 < 166 by omega) (len_ap (len_ap (len_ap (len_ap (len_ap (len_ap hl)))))).symm))) (Nat.lt_of_lt_of_eq (show 159 < 167 by omega) (len_ap (len_ap (len_ap (len_ap (len_ap (len_ap (len_ap hl))))))).symm))) (Nat.lt_of_lt_of_eq (show 159 < 168 by omega) (len_ap (len_ap (len_ap (len_ap (len_ap (len_ap (len_ap (len_ap hl)))))))).symm)) (len_ap (len_ap (len_ap (len_ap (len_ap (len_ap (len_ap (len_ap hl)))))))) ?_
  refine V_putFP (q := 77) wX8_35 (Or.inr ⟨_, rfl⟩) rfl (sh_ap (sh_ap (sh_ap (sh_ap (sh_ap (sh_ap (sh_ap (sh_ap (sh_ap hs))))))))) rfl dX8_init_74 rfl ?_
  refine V_aload_n (j := 0) (q := 78) dX8_init_77 rfl rfl ?_
  refine V_bipush (q := 80) (v := nI 8) dX8_init_78 rfl (by decide) ?_
  refine V_newI (q := 82) (N := 8) rfl rfl dX8_init_80 rfl ?_
  refine V_al (a := 169) (Fz_sP (Fz.ap (Fz_sP (Fz.ap (Fz_sP (Fz.ap (Fz_sP (Fz.ap (Fz_sP (Fz.ap (Fz_sP (Fz.ap (Fz_sP (Fz.ap (Fz_sP (Fz.ap (Fz_sP (Fz.ap Z) (Nat.lt_of_lt_of_eq (show 159 < 161 by omega) (len_ap hl).symm))) (Nat.lt_of_lt_of_eq (show 159 < 162 by omega) (len_ap (len_ap hl)).symm))) (Nat.lt_of_lt_of_eq (show 159 < 163 by omega) (len_ap (len_ap (len_ap hl))).symm))) (Nat.lt_of_lt_of_eq (show 159 < 164 by omega) (len_ap (len_ap (len_ap (len_ap hl)))).symm))) (Nat.lt_of_lt_of_eq (show 159 < 165 by omega) (len_ap (len_ap (len_ap (len_ap (len_ap hl))))).symm))) (Nat.lt_of_lt_of_eq (show 159 < 166 by omega) (len_ap (len_ap (len_ap (len_ap (len_ap (len_ap hl)))))).symm))) (Nat.lt_of_lt_of_eq (show 159 < 167 by omega) (len_ap (len_ap (len_ap (len_ap (len_ap (len_ap (len_ap hl))))))).symm))) (Nat.lt_of_lt_of_eq (show 159 < 168 by omega) (len_ap (len_ap (len_ap (len_ap (len_ap (len_ap (len_ap (len_ap hl)))))))).symm))) (Nat.lt_of_lt_of_eq (show 159 < 169 by omega) (len_ap (len_ap (len_ap (len_ap (len_ap (len_ap (len_ap (len_ap (len_ap hl))))))))).symm)) (len_ap (len_ap (len_ap (len_ap (len_ap (len_ap (len_ap (len_ap (len_ap hl))))))))) ?_
  refine V_putFP (q := 85) wX8_38 (Or.inr ⟨_, rfl⟩) rfl (sh_ap (sh_ap (sh_ap (sh_ap (sh_ap (sh_ap (sh_ap (sh_ap (sh_ap (sh_ap hs)))))))))) rfl dX8_init_82 rfl ?_
  refine V_aload_n (j := 0) (q := 86) dX8_init_85 rfl rfl ?_
  refine V_bipush (q := 88) (v := nI 24) dX8_init_86 rfl (by decide) ?_
  refine V_newI (q := 90) (N := 24) rfl rfl dX8_init_88 rfl ?_
  refine V_al (a := 170) (Fz_sP (Fz.ap (Fz_sP (Fz.ap (Fz_sP (Fz.ap (Fz_sP (Fz.ap (Fz_sP (Fz.ap (Fz_sP (Fz.ap (Fz_sP (Fz.ap (Fz_sP (Fz.ap (Fz_sP (Fz.ap (Fz_sP (Fz.ap Z) (Nat.lt_of_lt_of_eq (show 159 < 161 by omega) (len_ap hl).symm))) (Nat.lt_of_lt_of_eq (show 159 < 162 by omega) (len_ap (len_ap hl)).symm))) (Nat.lt_of_lt_of_eq (show 159 < 163 by omega) (len_ap (len_ap (len_ap hl))).symm))) (Nat.lt_of_lt_of_eq (show 159 < 164 by omega) (len_ap (len_ap (len_ap (len_ap hl)))).symm))) (Nat.lt_of_lt_of_eq (show 159 < 165 by omega) (len_ap (len_ap (len_ap (len_ap (len_ap hl))))).symm))) (Nat.lt_of_lt_of_eq (show 159 < 166 by omega) (len_ap (len_ap (len_ap (len_ap (len_ap (len_ap hl)))))).symm))) (Nat.lt_of_lt_of_eq (show 159 < 167 by omega) (len_ap (len_ap (len_ap (len_ap (len_ap (len_ap (len_ap hl))))))).symm))) (Nat.lt_of_lt_of_eq (show 159 < 168 by omega) (len_ap (len_ap (len_ap (len_ap (len_ap (len_ap (len_ap (len_ap hl)))))))).symm))) (Nat.lt_of_lt_of_eq (show 159 < 169 by omega) (len_ap (len_ap (len_ap (len_ap (len_ap (len_ap (len_ap (len_ap (len_ap hl))))))))).symm))) (Nat.lt_of_lt_of_eq (show 159 < 170 by omega) (len_ap (len_ap (len_ap (len_ap (len_ap (len_ap (len_ap (len_ap (len_ap (len_ap hl)))))))))).symm)) (len_ap (len_ap (len_ap (len_ap (len_ap (len_ap (len_ap (len_ap (len_ap (len_ap hl)))))))))) ?_
  refine V_putFP (q := 93) wX8_41 (Or.inr ⟨_, rfl⟩) rfl (sh_ap (sh_ap (sh_ap (sh_ap (sh_ap (sh_ap (sh_ap (sh_ap (sh_ap (sh_ap (sh_ap hs))))))))))) rfl dX8_init_90 rfl ?_
  refine V_vret rfl dX8_init_93 rfl rfl ?_
  refine ⟨rfl, ⟨by simp [apn, sP], Fz_sP (Fz.ap (Fz_sP (Fz.ap (Fz_sP (Fz.ap (Fz_sP (Fz.ap (Fz_sP (Fz.ap (Fz_sP (Fz.ap (Fz_sP (Fz.ap (Fz_sP (Fz.ap (Fz_sP (Fz.ap (Fz_sP (Fz.ap (Fz_sP (Fz.ap Z) (Nat.lt_of_lt_of_eq (show 159 < 161 by omega) (len_ap hl).symm))) (Nat.lt_of_lt_of_eq (show 159 < 162 by omega) (len_ap (len_ap hl)).symm))) (Nat.lt_of_lt_of_eq (show 159 < 163 by omega) (len_ap (len_ap (len_ap hl))).symm))) (Nat.lt_of_lt_of_eq (show 159 < 164 by omega) (len_ap (len_ap (len_ap (len_ap hl)))).symm))) (Nat.lt_of_lt_of_eq (show 159 < 165 by omega) (len_ap (len_ap (len_ap (len_ap (len_ap hl))))).symm))) (Nat.lt_of_lt_of_eq (show 159 < 166 by omega) (len_ap (len_ap (len_ap (len_ap (len_ap (len_ap hl)))))).symm))) (Nat.lt_of_lt_of_eq (show 159 < 167 by omega) (len_ap (len_ap (len_ap (len_ap (len_ap (len_ap (len_ap hl))))))).symm))) (Nat.lt_of_lt_of_eq (show 159 < 168 by omega) (len_ap (len_ap (len_ap (len_ap (len_ap (len_ap (len_ap (len_ap hl)))))))).symm))) (Nat.lt_of_lt_of_eq (show 159 < 169 by omega) (len_ap (len_ap (len_ap (len_ap (len_ap (len_ap (len_ap (len_ap (len_ap hl))))))))).symm))) (Nat.lt_of_lt_of_eq (show 159 < 170 by omega) (len_ap (len_ap (len_ap (len_ap (len_ap (len_ap (len_ap (len_ap (len_ap (len_ap hl)))))))))).symm))) (Nat.lt_of_lt_of_eq (show 159 < 171 by omega) (len_ap (len_ap (len_ap (len_ap (len_ap (len_ap (len_ap (len_ap (len_ap (len_ap (len_ap hl))))))))))).symm), rfl, fun b hb => by rw [hP_n (by omega), hP_apn, hP_n (by omega), hP_apn, hP_n (by omega), hP_apn, hP_n (by omega), hP_apn, hP_n (by omega), hP_apn, hP_n (by omega), hP_apn, hP_n (by omega), hP_apn, hP_n (by omega), hP_apn, hP_n (by omega), hP_apn, hP_n (by omega), hP_apn, hP_n (by omega), hP_apn]⟩, fun k r hr => ?_⟩
  unfold mdP at hr
  by_cases z : k < 12
  · rcases (show k = 0 ∨ k = 1 ∨ k = 2 ∨ k = 3 ∨ k = 4 ∨ k = 5 ∨ k = 6 ∨ k = 7 ∨ k = 8 ∨ k = 9 ∨ k = 10 ∨ k = 11 by omega) with rfl | rfl | rfl | rfl | rfl | rfl | rfl | rfl | rfl | rfl | rfl | rfl <;> simp at hr <;> subst hr <;> simp [hP_s, hP_apn]
  · rw [if_neg (by omega), if_neg (by omega), if_neg z] at hr; cases hr

set_option maxHeartbeats 4000000 in
set_option maxRecDepth 100000 in
theorem lq_Pinit {g : GX} {d : AH} (s1 : d.1[1]? = some (5, 5)) (s3 : d.1[3]? = some (12, 24)) (s4 : d.1[4]? = some (2, 10)) (p1 : hP d 1 1 = some 3) (p2 : hP d 1 2 = some 4) {Q : Option Value → AH → Prop} (hQ : ∀ η, η.1 = d.1 → hI η = hI d → hJ η = hJ d → (∀ b, b ≠ 3 → hP η b = hP d b) → (∀ i, i < 24 → hP η 3 i = some 4) → Q none η) : ∀ (t : Nat) (p : Nat) (e : AH), (p ≤ 24) → (e.1 = d.1) → (hI e = hI d) → (hJ e = hJ d) → (∀ b, b ≠ 3 → hP e b = hP d b) → (∀ i, i < p → hP e 3 i = some 4) → 24 - p < t → V g mX5_init (thM g 2 3 38 Q) e 3 38 [(0, .ref 1), (1, .int (nI p))] 34 [] := by
  intro t
  induction t with
  | zero =>
    intro p e hp E1 E2 E3 E4 E5 hfu
    exact absurd hfu (Nat.not_lt_zero _)
  | succ t ih =>
    intro p e hp E1 E2 E3 E4 E5 hfu
    refine V_iload_n (j := 1) (q := 35) dX5_init_34 rfl rfl ?_
    refine V_bipush (q := 37) (v := nI 24) dX5_init_35 rfl (by decide) ?_
    refine V_icmp_geN (tgt := 56) (q := 40) dX5_init_37 rfl rfl (by omega) (by omega) (fun c1 => ?_) (fun c1 => ?_)
    · skip
      refine V_vret rfl dX5_init_56 rfl rfl ?_
      exact hQ _ E1 E2 E3 E4 (fun i hi => E5 i (by omega))
    · skip
      refine V_aload_n (j := 0) (q := 41) dX5_init_40 rfl rfl ?_
      refine V_getP (q := 44) (r := 3) fX5_17 (by rw [E1]; exact s1) rfl (by rw [E4 1 (by decide)]; exact p1) dX5_init_41 rfl ?_
      refine V_iload_n (j := 1) (q := 45) dX5_init_44 rfl rfl ?_
      refine V_aload_n (j := 0) (q := 46) dX5_init_45 rfl rfl ?_
      refine V_getP (q := 49) (r := 4) fX5_24 (by rw [E1]; exact s1) rfl (by rw [E4 1 (by decide)]; exact p2) dX5_init_46 rfl ?_
      refine V_aast (q := 50) (c := 12) (cr := 2) (by decide) (by rw [E1]; exact s3) (by rw [E1]; exact s4) (by omega) (by decide) dX5_init_49 rfl ?_
      refine V_iincN (j := 1) (q := 53) (L' := [(1, .int (nI (p + 1))), (0, .ref 1)]) dX5_init_50 rfl rfl rfl rfl ?_
      refine V_goto (q := 34) dX5_init_53 rfl ?_
      refine V_sub (L' := [(0, .ref 1), (1, .int (nI (p + 1)))]) [1, 0] rfl ?_
      refine ih (p + 1) (sP e 3 p (some 4)) ?_ ?_ ?_ ?_ ?_ ?_ ?_
      · omega
      · exact E1
      · exact E2
      · exact E3
      · intro b hb; rw [hP_n hb]; exact E4 b hb
      · intro i hi; rw [hP_s]; by_cases z : i = p; (rw [if_pos ⟨rfl, z⟩]); (rw [if_neg (fun w => z w.2)]; exact E5 i (by omega))
      · omega

set_option maxHeartbeats 4000000 in
set_option maxRecDepth 100000 in
theorem d_Ginit {g : GX} {h : AH} (hl : h.1.length = 2) (hs : h.1[1]? = some (5, 5)) (Z : Fz h) : Ct g mX5_init 2 3 38 [.ref 1] h (fun ρ η => ρ = none ∧ Cn h η 1 [(9, 4), (12, 24), (2, 10)] ∧ (∀ k, k < 3 → hP η 1 k = some (2 + k)) ∧ ∀ i, i < 24 → hP η 3 i = some 4) := by
  refine Ct_intro (by decide +kernel) (Nat.le_of_ble_eq_true rfl) ?_
  show V g mX5_init _ h 0 0 [(0, .ref 1)] 0 []
  refine V_aload_n (j := 0) (q := 1) dX5_init_0 rfl rfl ?_
  refine V_objInit (q := 4) kX5_3 rfl rfl rfl dX5_init_1 rfl ?_
  refine V_aload_n (j := 0) (q := 5) dX5_init_4 rfl rfl ?_
  refine V_iconst (q := 6) (v := nI 4) dX5_init_5 rfl rfl ?_
  refine V_newI (q := 8) (N := 4) rfl rfl dX5_init_6 rfl ?_
  refine V_al (a := 2) Z hl ?_
  refine V_putFP (q := 11) wX5_9 (Or.inr ⟨_, rfl⟩) rfl (sh_ap hs) rfl dX5_init_8 rfl ?_
  refine V_aload_n (j := 0) (q := 12) dX5_init_11 rfl rfl ?_
  refine V_bipush (q := 14) (v := nI 24) dX5_init_12 rfl (by decide) ?_
  refine V_anew (q := 17) (c := 12) (N := 24) (Or.inl ⟨rfl, rfl⟩) nX5_15 rfl rfl dX5_init_14 rfl ?_
  refine V_al (a := 3) (Fz_sP (Fz.ap Z) (Nat.lt_of_lt_of_eq (show 1 < 3 by omega) (len_ap hl).symm)) (len_ap hl) ?_
  refine V_putFP (q := 20) wX5_17 (Or.inr ⟨_, rfl⟩) rfl (sh_ap (sh_ap hs)) rfl dX5_init_17 rfl ?_
  refine V_aload_n (j := 0) (q := 21) dX5_init_20 rfl rfl ?_
  refine V_new (q := 24) (ci := 2) (N := 10) dv_2 rfl (fun r hr => by cases hr; exact nX5_15) rfl dX5_init_21 rfl ?_
  refine V_al (a := 4) (Fz_sP (Fz.ap (Fz_sP (Fz.ap Z) (Nat.lt_of_lt_of_eq (show 1 < 3 by omega) (len_ap hl).symm))) (Nat.lt_of_lt_of_eq (show 1 < 4 by omega) (len_ap (len_ap hl)).symm)) (len_ap (len_ap hl)) ?_
  refine V_dup (q := 25) dX5_init_24 rfl rfl ?_
  refine V_iconst (q := 26) (v := nI 0) dX5_init_25 rfl rfl ?_
  refine V_callI (q := 29) (S := [.ref 4, .ref 1]) kX5_21 (d_Iinit (a := 4) (sh_new (len_ap (len_ap hl)))) rfl rfl rfl dX5_init_26 rfl (fun r1 h2 p3 => ?_)
  obtain ⟨rfl, he⟩ := p3
  rw [sI_0 (show hI (apn (sP (apn (sP (apn h [(9, 4)]) 1 0 (some 2)) [(12, 24)]) 1 1 (some 3)) [(2, 10)]) 4 0 = nI 0 from congrFun (Z 4 (by omega)).1 0)] at he
  subst he
  refine V_putFP (q := 32) wX5_24 (Or.inl ⟨_, rfl⟩) rfl (sh_ap (sh_ap (sh_ap hs))) rfl dX5_init_29 rfl ?_
  refine V_iconst (q := 33) (v := nI 0) dX5_init_32 rfl rfl ?_
  refine V_istore_n (q := 34) (L' := [(1, .int (nI 0)), (0, .ref 1)]) dX5_init_33 rfl rfl rfl ?_
  refine V_sub (L' := [(0, .ref 1), (1, .int (nI 0))]) [1, 0] rfl ?_
  refine lq_Pinit (d := sP (apn (sP (apn (sP (apn h [(9, 4)]) 1 0 (some 2)) [(12, 24)]) 1 1 (some 3)) [(2, 10)]) 1 2 (some 4)) (sh_ap (sh_ap (sh_ap hs))) (sh_ap (sh_new (len_ap hl))) (sh_new (len_ap (len_ap hl))) (by simp [hP_s, hP_apn]) (by simp [hP_s, hP_apn]) (fun η f1 f2 f3 f4 f5 => ?_) 25 0 _ (Nat.zero_le _) rfl rfl rfl (fun b _ => rfl) (fun i hi => absurd hi (Nat.not_lt_zero _)) (by decide)
  have Z2 : Fz (sP (apn (sP (apn (sP (apn h [(9, 4)]) 1 0 (some 2)) [(12, 24)]) 1 1 (some 3)) [(2, 10)]) 1 2 (some 4)) := Fz_sP (Fz.ap (Fz_sP (Fz.ap (Fz_sP (Fz.ap Z) (Nat.lt_of_lt_of_eq (show 1 < 3 by omega) (len_ap hl).symm))) (Nat.lt_of_lt_of_eq (show 1 < 4 by omega) (len_ap (len_ap hl)).symm))) (Nat.lt_of_lt_of_eq (show 1 < 5 by omega) (len_ap (len_ap (len_ap hl))).symm)
  have hlz : (sP (apn (sP (apn (sP (apn h [(9, 4)]) 1 0 (some 2)) [(12, 24)]) 1 1 (some 3)) [(2, 10)]) 1 2 (some 4)).1.length = 5 := len_ap (len_ap (len_ap hl))
  refine ⟨rfl, ⟨by rw [f1]; simp [apn, sP], fun b hb => ?_, f2, fun b hb => by rw [f4 b (by omega), hP_n (by omega), hP_apn, hP_n (by omega), hP_apn, hP_n (by omega), hP_apn]⟩, fun k hk => ?_, f5⟩
  · rw [f1] at hb; obtain ⟨z1, z2, z3⟩ := Z2 b hb; rw [f2, f3, f4 b (by omega)]; exact ⟨z1, z2, z3⟩
  · rw [f4 1 (by decide)]; rcases (show k = 0 ∨ k = 1 ∨ k = 2 by omega) with rfl | rfl | rfl <;> simp [hP_s, hP_apn]

theorem la_len {h e : AH} {a j : Nat} (hl : h.1.length = a + 1) (E1 : e.1 = h.1 ++ ([(13, 16), (4, 4), (13, 16), (10, 16), (10, 16), (11, 16)] ++ List.replicate j (4, 4))) : e.1.length = a + 7 + j := by
  rw [E1, List.length_append, List.length_append, List.length_replicate, hl]
  show a + 1 + (6 + j) = _
  omega
theorem la_s1 {h e : AH} {a j i : Nat} {q : Nat × Nat} (hl : h.1.length = a + 1) (E1 : e.1 = h.1 ++ ([(13, 16), (4, 4), (13, 16), (10, 16), (10, 16), (11, 16)] ++ List.replicate j (4, 4))) (hi : ([(13, 16), (4, 4), (13, 16), (10, 16), (10, 16), (11, 16)] : List (Nat × Nat))[i]? = some q) : e.1[a + 1 + i]? = some q := by
  have h6 : i < 6 := (List.getElem?_eq_some_iff.mp hi).1
  rw [E1, List.getElem?_append_right (by omega), hl, Nat.add_sub_cancel_left, List.getElem?_append_left h6]
  exact hi
theorem la_s0 {h e : AH} {a j : Nat} (hs : h.1[a]? = some (3, 9)) (E1 : e.1 = h.1 ++ ([(13, 16), (4, 4), (13, 16), (10, 16), (10, 16), (11, 16)] ++ List.replicate j (4, 4))) : e.1[a]? = some (3, 9) := by
  rw [E1, List.getElem?_append_left (List.getElem?_eq_some_iff.mp hs).1]; exact hs
theorem la_all {h e : AH} {a : Nat} (hl : h.1.length = a + 1) (hs : h.1[a]? = some (3, 9)) (E1 : e.1 = h.1 ++ ([(13, 16), (4, 4), (13, 16), (10, 16), (10, 16), (11, 16)] ++ List.replicate 16 (4, 4))) : ∀ i q, laS[i]? = some q → e.1[a + i]? = some q := by
  intro i q hq
  cases i with
  | zero => cases hq; exact la_s0 hs E1
  | succ i =>
    rw [E1, List.getElem?_append_right (by omega), hl, show a + (i + 1) - (a + 1) = i by omega]
    exact hq
set_option maxHeartbeats 4000000 in
set_option maxRecDepth 100000 in
theorem lq_Linit {g : GX} {h : AH} {a : Nat} (hl : h.1.length = a + 1) (hs : h.1[a]? = some (3, 9)) : ∀ (t : Nat) (j : Nat) (e : AH), (j ≤ 16) → (e.1 = h.1 ++ ([(13, 16), (4, 4), (13, 16), (10, 16), (10, 16), (11, 16)] ++ List.replicate j (4, 4))) → (Fz e) → (hI e = hI h) → (∀ k d, lap k = some d → hP e a k = some (a + d)) → (∀ i, i < j → hP e (a + 1) i = some (a + 7 + i)) → (∀ b, b < a → hP e b = hP h b) → 16 - j < t → V g mX3_init (thM g 2 22 148 (fun ρ η => ρ = none ∧ Cn h η a ([(13, 16), (4, 4), (13, 16), (10, 16), (10, 16), (11, 16)] ++ List.replicate 16 (4, 4)) ∧ LA η.1 (hP η) a)) e (6 + j) (84 + 4 * j) [(0, .ref a), (1, .int (nI j))] 59 [] := by
  intro t
  induction t with
  | zero =>
    intro j e hj E1 E2 E3 E4 E5 E6 hfu
    exact absurd hfu (Nat.not_lt_zero _)
  | succ t ih =>
    intro j e hj E1 E2 E3 E4 E5 E6 hfu
    have hle := la_len hl E1
    refine V_iload_n (j := 1) (q := 60) dX3_init_59 rfl rfl ?_
    refine V_bipush (q := 62) (v := nI 16) dX3_init_60 rfl (by decide) ?_
    refine V_icmp_geN (tgt := 94) (q := 65) dX3_init_62 rfl rfl (by omega) (by omega) (fun c1 => ?_) (fun c1 => ?_)
    · skip
      refine V_vret rfl dX3_init_94 (Nat.ble_eq_true_of_le (show 6 + j ≤ 22 by omega)) (Nat.ble_eq_true_of_le (show 84 + 4 * j ≤ 148 by omega)) ?_
      have hj16 : j = 16 := by omega
      subst hj16
      exact ⟨rfl, ⟨E1, E2, E3, E6⟩, la_all hl hs E1, E4, E5⟩
    · skip
      refine V_aload_n (j := 0) (q := 66) dX3_init_65 rfl rfl ?_
      refine V_getP (q := 69) (r := (a + 1)) fX3_11 (la_s0 hs E1) rfl (E4 0 _ rfl) dX3_init_66 rfl ?_
      refine V_iload_n (j := 1) (q := 70) dX3_init_69 rfl rfl ?_
      refine V_new (q := 73) (ci := 4) (N := 4) dv_4 rfl (fun r hr => by cases hr; exact nX3_9) (fitA_of (show _ ≤ 22 by omega) (show _ ≤ 148 by omega)) dX3_init_70 rfl ?_
      refine V_al (a := (a + 7 + j)) E2 hle ?_
      refine V_dup (q := 74) dX3_init_73 rfl rfl ?_
      refine V_callIN (q := 77) (S := [.ref (a + 7 + j), .int (nI j), .ref (a + 1)]) kX3_17 d_Pinit rfl (fitR_of (show _ ≤ 2 by omega) (show _ ≤ 80 by omega) (show _ ≤ 22 by omega) (show _ ≤ 148 by omega) (Nat.le_of_ble_eq_true rfl)) rfl dX3_init_74 rfl (fun r2 h3 p4 => ?_)
      obtain ⟨rfl, rfl⟩ := p4
      refine V_aast (q := 78) (c := 13) (cr := 4) (by decide) (sh_ap (la_s1 (i := 0) hl E1 rfl)) (sh_new hle) (by omega) (by decide) dX3_init_77 rfl ?_
      refine V_aload_n (j := 0) (q := 79) dX3_init_78 rfl rfl ?_
      refine V_getP (q := 82) (r := (a + 3)) fX3_22 (sh_ap (la_s0 hs E1)) rfl (by rw [hP_n (by omega), hP_apn]; exact E4 2 _ rfl) dX3_init_79 rfl ?_
      refine V_iload_n (j := 1) (q := 83) dX3_init_82 rfl rfl ?_
      refine V_aload_n (j := 0) (q := 84) dX3_init_83 rfl rfl ?_
      refine V_getP (q := 87) (r := (a + 2)) fX3_18 (sh_ap (la_s0 hs E1)) rfl (by rw [hP_n (by omega), hP_apn]; exact E4 1 _ rfl) dX3_init_84 rfl ?_
      refine V_aast (q := 88) (c := 13) (cr := 4) (by decide) (sh_ap (la_s1 (i := 2) hl E1 rfl)) (sh_ap (la_s1 (i := 1) hl E1 rfl)) (by omega) (by decide) dX3_init_87 rfl ?_
      refine V_iincN (j := 1) (q := 91) (L' := [(1, .int (nI (j + 1))), (0, .ref a)]) dX3_init_88 rfl rfl rfl rfl ?_
      refine V_goto (q := 59) dX3_init_91 rfl ?_
      refine V_wd (k' := 6 + (j + 1)) (n' := 84 + 4 * (j + 1)) (by omega) (by omega) ?_
      refine V_sub (L' := [(0, .ref a), (1, .int (nI (j + 1)))]) [1, 0] rfl ?_
      refine ih (j + 1) (sP (sP (apn e [(4, 4)]) (a + 1) j (some (a + 7 + j))) (a + 3) j (some (a + 2))) ?_ ?_ ?_ ?_ ?_ ?_ ?_ ?_
      · omega
      · show e.1 ++ [(4, 4)] = _; rw [E1, List.append_assoc, List.append_assoc, List.replicate_succ']
      · exact Fz_sP (Fz_sP (Fz.ap E2) (Nat.lt_of_lt_of_eq (show a + 1 < a + 7 + j + 1 by omega) (len_ap hle).symm)) (Nat.lt_of_lt_of_eq (show a + 3 < a + 7 + j + 1 by omega) (len_ap hle).symm)
      · exact E3
      · intro k d hd; rw [hP_n (by omega), hP_n (by omega), hP_apn]; exact E4 k d hd
      · intro i hi; rw [hP_n (by omega), hP_s]; by_cases z : i = j; (rw [if_pos ⟨rfl, z⟩, z]); (rw [if_neg (fun w => z w.2), hP_apn]; exact E5 i (by omega))
      · intro b hb; rw [hP_n (by omega), hP_n (by omega), hP_apn]; exact E6 b hb
      · omega

set_option maxHeartbeats 4000000 in
set_option maxRecDepth 100000 in
theorem d_Linit {g : GX} {h : AH} {a : Nat} (hl : h.1.length = a + 1) (hs : h.1[a]? = some (3, 9)) (Z : Fz h) : Ct g mX3_init 2 22 148 [.ref a] h (fun ρ η => ρ = none ∧ Cn h η a ([(13, 16), (4, 4), (13, 16), (10, 16), (10, 16), (11, 16)] ++ List.replicate 16 (4, 4)) ∧ LA η.1 (hP η) a) := by
  refine Ct_intro (by decide +kernel) (Nat.le_of_ble_eq_true rfl) ?_
  show V g mX3_init _ h 0 0 [(0, .ref a)] 0 []
  refine V_aload_n (j := 0) (q := 1) dX3_init_0 rfl rfl ?_
  refine V_objInit (q := 4) kX3_3 rfl rfl rfl dX3_init_1 rfl ?_
  refine V_aload_n (j := 0) (q := 5) dX3_init_4 rfl rfl ?_
  refine V_bipush (q := 7) (v := nI 16) dX3_init_5 rfl (by decide) ?_
  refine V_anew (q := 10) (c := 13) (N := 16) (Or.inr (Or.inl ⟨rfl, rfl⟩)) nX3_9 rfl rfl dX3_init_7 rfl ?_
  refine V_al (a := (a + 1)) Z hl ?_
  refine V_putFP (q := 13) wX3_11 (Or.inr ⟨_, rfl⟩) rfl (sh_ap hs) rfl dX3_init_10 rfl ?_
  refine V_aload_n (j := 0) (q := 14) dX3_init_13 rfl rfl ?_
  refine V_new (q := 17) (ci := 4) (N := 4) dv_4 rfl (fun r hr => by cases hr; exact nX3_9) rfl dX3_init_14 rfl ?_
  refine V_al (a := (a + 2)) (Fz_sP (Fz.ap Z) (Nat.lt_of_lt_of_eq (show a < a + 2 by omega) (len_ap hl).symm)) (len_ap hl) ?_
  refine V_dup (q := 18) dX3_init_17 rfl rfl ?_
  refine V_callIN (q := 21) (S := [.ref (a + 2), .ref a]) kX3_17 d_Pinit rfl rfl rfl dX3_init_18 rfl (fun r1 h2 p3 => ?_)
  obtain ⟨rfl, rfl⟩ := p3
  refine V_putFP (q := 24) wX3_18 (Or.inl ⟨_, rfl⟩) rfl (sh_ap (sh_ap hs)) rfl dX3_init_21 rfl ?_
  refine V_aload_n (j := 0) (q := 25) dX3_init_24 rfl rfl ?_
  refine V_bipush (q := 27) (v := nI 16) dX3_init_25 rfl (by decide) ?_
  refine V_anew (q := 30) (c := 13) (N := 16) (Or.inr (Or.inl ⟨rfl, rfl⟩)) nX3_9 rfl rfl dX3_init_27 rfl ?_
  refine V_al (a := (a + 3)) (Fz_sP (Fz.ap (Fz_sP (Fz.ap Z) (Nat.lt_of_lt_of_eq (show a < a + 2 by omega) (len_ap hl).symm))) (Nat.lt_of_lt_of_eq (show a < a + 3 by omega) (len_ap (len_ap hl)).symm)) (len_ap (len_ap hl)) ?_
  refine V_putFP (q := 33) wX3_22 (Or.inr ⟨_, rfl⟩) rfl (sh_ap (sh_ap (sh_ap hs))) rfl dX3_init_30 rfl ?_
  refine V_aload_n (j := 0) (q := 34) dX3_init_33 rfl rfl ?_
  refine V_bipush (q := 36) (v := nI 16) dX3_init_34 rfl (by decide) ?_
  refine V_newZ (q := 38) (N := 16) rfl rfl dX3_init_36 rfl ?_
  refine V_al (a := (a + 4)) (Fz_sP (Fz.ap (Fz_sP (Fz.ap (Fz_sP (Fz.ap Z) (Nat.lt_of_lt_of_eq (show a < a + 2 by omega) (len_ap hl).symm))) (Nat.lt_of_lt_of_eq (show a < a + 3 by omega) (len_ap (len_ap hl)).symm))) (Nat.lt_of_lt_of_eq (show a < a + 4 by omega) (len_ap (len_ap (len_ap hl))).symm)) (len_ap (len_ap (len_ap hl))) ?_
  refine V_putFP (q := 41) wX3_25 (Or.inr ⟨_, rfl⟩) rfl (sh_ap (sh_ap (sh_ap (sh_ap hs)))) rfl dX3_init_38 rfl ?_
  refine V_aload_n (j := 0) (q := 42) dX3_init_41 rfl rfl ?_
  refine V_bipush (q := 44) (v := nI 16) dX3_init_42 rfl (by decide) ?_
  refine V_newZ (q := 46) (N := 16) rfl rfl dX3_init_44 rfl ?_
  refine V_al (a := (a + 5)) (Fz_sP (Fz.ap (Fz_sP (Fz.ap (Fz_sP (Fz.ap (Fz_sP (Fz.ap Z) (Nat.lt_of_lt_of_eq (show a < a + 2 by omega) (len_ap hl).symm))) (Nat.lt_of_lt_of_eq (show a < a + 3 by omega) (len_ap (len_ap hl)).symm))) (Nat.lt_of_lt_of_eq (show a < a + 4 by omega) (len_ap (len_ap (len_ap hl))).symm))) (Nat.lt_of_lt_of_eq (show a < a + 5 by omega) (len_ap (len_ap (len_ap (len_ap hl)))).symm)) (len_ap (len_ap (len_ap (len_ap hl)))) ?_
  refine V_putFP (q := 49) wX3_29 (Or.inr ⟨_, rfl⟩) rfl (sh_ap (sh_ap (sh_ap (sh_ap (sh_ap hs))))) rfl dX3_init_46 rfl ?_
  refine V_aload_n (j := 0) (q := 50) dX3_init_49 rfl rfl ?_
  refine V_bipush (q := 52) (v := nI 16) dX3_init_50 rfl (by decide) ?_
  refine V_newJ (q := 54) (N := 16) rfl rfl dX3_init_52 rfl ?_
  refine V_al (a := (a + 6)) (Fz_sP (Fz.ap (Fz_sP (Fz.ap (Fz_sP (Fz.ap (Fz_sP (Fz.ap (Fz_sP (Fz.ap Z) (Nat.lt_of_lt_of_eq (show a < a + 2 by omega) (len_ap hl).symm))) (Nat.lt_of_lt_of_eq (show a < a + 3 by omega) (len_ap (len_ap hl)).symm))) (Nat.lt_of_lt_of_eq (show a < a + 4 by omega) (len_ap (len_ap (len_ap hl))).symm))) (Nat.lt_of_lt_of_eq (show a < a + 5 by omega) (len_ap (len_ap (len_ap (len_ap hl)))).symm))) (Nat.lt_of_lt_of_eq (show a < a + 6 by omega) (len_ap (len_ap (len_ap (len_ap (len_ap hl))))).symm)) (len_ap (len_ap (len_ap (len_ap (len_ap hl))))) ?_
  refine V_putFP (q := 57) wX3_32 (Or.inr ⟨_, rfl⟩) rfl (sh_ap (sh_ap (sh_ap (sh_ap (sh_ap (sh_ap hs)))))) rfl dX3_init_54 rfl ?_
  refine V_iconst (q := 58) (v := nI 0) dX3_init_57 rfl rfl ?_
  refine V_istore_n (q := 59) (L' := [(1, .int (nI 0)), (0, .ref a)]) dX3_init_58 rfl rfl rfl ?_
  refine V_sub (L' := [(0, .ref a), (1, .int (nI 0))]) [1, 0] rfl ?_
  refine lq_Linit hl hs 17 0 _ (Nat.zero_le _) ?_ (Fz_sP (Fz.ap (Fz_sP (Fz.ap (Fz_sP (Fz.ap (Fz_sP (Fz.ap (Fz_sP (Fz.ap (Fz_sP (Fz.ap Z) (Nat.lt_of_lt_of_eq (show a < a + 2 by omega) (len_ap hl).symm))) (Nat.lt_of_lt_of_eq (show a < a + 3 by omega) (len_ap (len_ap hl)).symm))) (Nat.lt_of_lt_of_eq (show a < a + 4 by omega) (len_ap (len_ap (len_ap hl))).symm))) (Nat.lt_of_lt_of_eq (show a < a + 5 by omega) (len_ap (len_ap (len_ap (len_ap hl)))).symm))) (Nat.lt_of_lt_of_eq (show a < a + 6 by omega) (len_ap (len_ap (len_ap (len_ap (len_ap hl))))).symm))) (Nat.lt_of_lt_of_eq (show a < a + 7 by omega) (len_ap (len_ap (len_ap (len_ap (len_ap (len_ap hl)))))).symm)) rfl (fun k d hd => ?_) (fun i hi => absurd hi (Nat.not_lt_zero _)) (fun b hb => by rw [hP_n (by omega), hP_apn, hP_n (by omega), hP_apn, hP_n (by omega), hP_apn, hP_n (by omega), hP_apn, hP_n (by omega), hP_apn, hP_n (by omega), hP_apn]) (by decide)
  · simp [apn, sP]
  · unfold lap at hd
    by_cases z : k < 6
    · rw [if_pos z] at hd; cases hd; rcases (show k = 0 ∨ k = 1 ∨ k = 2 ∨ k = 3 ∨ k = 4 ∨ k = 5 by omega) with rfl | rfl | rfl | rfl | rfl | rfl <;> simp [hP_s, hP_apn]
    · rw [if_neg z] at hd; cases hd


theorem CS_mk {η : AH} (e : η.1 = csL) (r0 : hP η 0 0 = some 1 ∧ hP η 0 1 = some 5 ∧ hP η 0 2 = some 9 ∧ hP η 0 3 = some 151) (r1 : ∀ k, k < 3 → hP η 1 k = some (2 + k)) (r5 : ∀ k, k < 3 → hP η 5 k = some (6 + k)) (A : AnW η) (r151 : hP η 151 0 = some 1 ∧ hP η 151 1 = some 9 ∧ hP η 151 2 = some 152 ∧ hP η 151 3 = some 153 ∧ hP η 151 4 = some 158) (r153 : ∀ r, r < 4 → hP η 153 r = some (154 + r)) : CS η.1 (hP η) := by
  refine ⟨fun a q hq => by rw [e]; exact hq, fun a k r hr => ?_, A.2.2.2.1, A.2.2.2.2.1, r153, A.2.2.2.2.2.1, A.2.2.2.2.2.2⟩
  unfold csP at hr
  split at hr
  · skip
    by_cases a0 : k = 0
    · rw [if_pos a0] at hr; cases hr; rw [a0]; exact r0.1
    · rw [if_neg a0] at hr
      by_cases a1 : k = 1
      · rw [if_pos a1] at hr; cases hr; rw [a1]; exact r0.2.1
      · rw [if_neg a1] at hr
        by_cases a2 : k = 2
        · rw [if_pos a2] at hr; cases hr; rw [a2]; exact r0.2.2.1
        · rw [if_neg a2] at hr
          by_cases a3 : k = 3
          · rw [if_pos a3] at hr; cases hr; rw [a3]; exact r0.2.2.2
          · rw [if_neg a3] at hr
            cases hr
  · skip
    by_cases a0 : k = 0
    · rw [if_pos a0] at hr; cases hr; rw [a0]; exact r1 0 (by decide)
    · rw [if_neg a0] at hr
      by_cases a1 : k = 1
      · rw [if_pos a1] at hr; cases hr; rw [a1]; exact r1 1 (by decide)
      · rw [if_neg a1] at hr
        by_cases a2 : k = 2
        · rw [if_pos a2] at hr; cases hr; rw [a2]; exact r1 2 (by decide)
        · rw [if_neg a2] at hr
          cases hr
  · skip
    by_cases a0 : k = 0
    · rw [if_pos a0] at hr; cases hr; rw [a0]; exact r5 0 (by decide)
    · rw [if_neg a0] at hr
      by_cases a1 : k = 1
      · rw [if_pos a1] at hr; cases hr; rw [a1]; exact r5 1 (by decide)
      · rw [if_neg a1] at hr
        by_cases a2 : k = 2
        · rw [if_pos a2] at hr; cases hr; rw [a2]; exact r5 2 (by decide)
        · rw [if_neg a2] at hr
          cases hr
  · skip
    by_cases a0 : k = 0
    · rw [if_pos a0] at hr; cases hr; rw [a0]; exact A.1
    · rw [if_neg a0] at hr
      by_cases a1 : k = 1
      · rw [if_pos a1] at hr; cases hr; rw [a1]; exact A.2.1
      · rw [if_neg a1] at hr
        by_cases a2 : k = 2
        · rw [if_pos a2] at hr; cases hr; rw [a2]; exact A.2.2.1
        · rw [if_neg a2] at hr
          cases hr
  · skip
    by_cases a0 : k = 0
    · rw [if_pos a0] at hr; cases hr; rw [a0]; exact r151.1
    · rw [if_neg a0] at hr
      by_cases a1 : k = 1
      · rw [if_pos a1] at hr; cases hr; rw [a1]; exact r151.2.1
      · rw [if_neg a1] at hr
        by_cases a2 : k = 2
        · rw [if_pos a2] at hr; cases hr; rw [a2]; exact r151.2.2.1
        · rw [if_neg a2] at hr
          by_cases a3 : k = 3
          · rw [if_pos a3] at hr; cases hr; rw [a3]; exact r151.2.2.2.1
          · rw [if_neg a3] at hr
            by_cases a4 : k = 4
            · rw [if_pos a4] at hr; cases hr; rw [a4]; exact r151.2.2.2.2
            · rw [if_neg a4] at hr
              cases hr
  · cases hr
set_option maxHeartbeats 4000000 in
set_option maxRecDepth 100000 in
theorem d_Tinit {g : GX} {h : AH} (hh : h.1 = [(7, 4)]) (Z : Fz h) : Ct g mX7_init 4 158 1384 [.ref 0] h (fun ρ η => ρ = none ∧ η.1 = csL ∧ Fz η ∧ hI η = hI (sI h 9 3 (bi true)) ∧ CS η.1 (hP η) ∧ ∀ i, i < 24 → hP η 3 i = some 4) := by
  refine Ct_intro (by decide +kernel) (Nat.le_of_ble_eq_true rfl) ?_
  show V g mX7_init _ h 0 0 [(0, .ref 0)] 0 []
  have hl : h.1.length = 1 := by rw [hh]; rfl
  have hs : h.1[0]? = some (7, 4) := by rw [hh]; rfl
  refine V_aload_n (j := 0) (q := 1) dX7_init_0 rfl rfl ?_
  refine V_objInit (q := 4) kX7_1 rfl rfl rfl dX7_init_1 rfl ?_
  refine V_aload_n (j := 0) (q := 5) dX7_init_4 rfl rfl ?_
  refine V_new (q := 8) (ci := 5) (N := 5) dv_5 rfl (fun r hr => by cases hr; exact nX7_7) rfl dX7_init_5 rfl ?_
  refine V_al (a := 1) Z hl ?_
  refine V_dup (q := 9) dX7_init_8 rfl rfl ?_
  refine V_callI (q := 12) (S := [.ref 1, .ref 0]) kX7_9 (d_Ginit (len_ap hl) (sh_new hl) (Fz.ap Z)) rfl rfl rfl dX7_init_9 rfl (fun r1 h2 p3 => ?_)
  obtain ⟨rfl, CG1, g1, g3⟩ := p3
  refine V_putFP (q := 15) wX7_10 (Or.inl ⟨_, rfl⟩) rfl (CG1.sh (sh_ap hs)) rfl dX7_init_12 rfl ?_
  refine V_aload_n (j := 0) (q := 16) dX7_init_15 rfl rfl ?_
  refine V_new (q := 19) (ci := 1) (N := 5) dv_1 rfl (fun r hr => by cases hr; exact nX7_16) rfl dX7_init_16 rfl ?_
  refine V_al (a := 5) (Fz_sP CG1.2.1 (Nat.lt_of_lt_of_eq (show 0 < 5 by omega) (CG1.ln (len_ap hl)).symm)) (CG1.ln (len_ap hl)) ?_
  refine V_dup (q := 20) dX7_init_19 rfl rfl ?_
  refine V_callIN (q := 23) (S := [.ref 5, .ref 0]) kX7_18 (d_Hinit (len_ap (CG1.ln (len_ap hl))) (sh_new (CG1.ln (len_ap hl))) (Fz.ap (Fz_sP CG1.2.1 (Nat.lt_of_lt_of_eq (show 0 < 5 by omega) (CG1.ln (len_ap hl)).symm)))) rfl rfl rfl dX7_init_20 rfl (fun r4 h5 p6 => ?_)
  obtain ⟨rfl, CH1, k5⟩ := p6
  refine V_putFP (q := 26) wX7_19 (Or.inl ⟨_, rfl⟩) rfl (CH1.sh (sh_ap (CG1.sh (sh_ap hs)))) rfl dX7_init_23 rfl ?_
  refine V_aload_n (j := 0) (q := 27) dX7_init_26 rfl rfl ?_
  refine V_new (q := 30) (ci := 0) (N := 4) dv_0 rfl (fun r hr => by cases hr; exact nX7_23) rfl dX7_init_27 rfl ?_
  refine V_al (a := 9) (Fz_sP CH1.2.1 (Nat.lt_of_lt_of_eq (show 0 < 9 by omega) (CH1.ln (len_ap (CG1.ln (len_ap hl)))).symm)) (CH1.ln (len_ap (CG1.ln (len_ap hl)))) ?_
  refine V_dup (q := 31) dX7_init_30 rfl rfl ?_
  refine V_callI (q := 34) (S := [.ref 9, .ref 0]) kX7_25 (d_Ainit (len_ap (CH1.ln (len_ap (CG1.ln (len_ap hl))))) (sh_new (CH1.ln (len_ap (CG1.ln (len_ap hl))))) (Fz.ap (Fz_sP CH1.2.1 (Nat.lt_of_lt_of_eq (show 0 < 9 by omega) (CH1.ln (len_ap (CG1.ln (len_ap hl)))).symm)))) rfl rfl rfl dX7_init_31 rfl (fun r7 h8 p9 => ?_)
  obtain ⟨rfl, u1, u2, u3, u4, AW⟩ := p9
  have shA : ∀ b q, (apn (sP h5 0 1 (some 5)) [(0, 4)]).1[b]? = some q → h8.1[b]? = some q := fun b q e => by rw [u1, List.getElem?_append_left (List.getElem?_eq_some_iff.mp e).1]; exact e
  have lnA : h8.1.length = 151 := by rw [u1, List.length_append, show (apn (sP h5 0 1 (some 5)) [(0, 4)]).1.length = 10 from len_ap (CH1.ln (len_ap (CG1.ln (len_ap hl))))]; rfl
  refine V_putFP (q := 37) wX7_26 (Or.inl ⟨_, rfl⟩) rfl (shA _ _ (sh_ap (CH1.sh (sh_ap (CG1.sh (sh_ap hs)))))) rfl dX7_init_34 rfl ?_
  refine V_aload_n (j := 0) (q := 38) dX7_init_37 rfl rfl ?_
  refine V_new (q := 41) (ci := 6) (N := 11) dv_6 rfl (fun r hr => by cases hr; exact nX7_30) rfl dX7_init_38 rfl ?_
  refine V_al (a := 151) (Fz_sP u2 (Nat.lt_of_lt_of_eq (show 0 < 151 by omega) (lnA).symm)) lnA ?_
  refine V_dup (q := 42) dX7_init_41 rfl rfl ?_
  have q0 : ∀ k, k < 2 → hP h8 0 k = some (1 + 4 * k) := by
    intro k hk
    rw [u4 0 (by decide), hP_apn, hP_s]
    rcases (show k = 0 ∨ k = 1 by omega) with rfl | rfl
    · rw [if_neg (by decide), CH1.2.2.2 0 (by decide), hP_apn, hP_s, if_pos ⟨rfl, rfl⟩]
    · rw [if_pos ⟨rfl, rfl⟩]
  refine V_aload_n (j := 0) (q := 43) dX7_init_42 rfl rfl ?_
  refine V_getP (q := 46) (r := 1) fX7_10 (sh_ap (shA _ _ (sh_ap (CH1.sh (sh_ap (CG1.sh (sh_ap hs))))))) rfl (by rw [hP_apn, hP_s, if_neg (by decide)]; exact q0 0 (by decide)) dX7_init_43 rfl ?_
  refine V_aload_n (j := 0) (q := 47) dX7_init_46 rfl rfl ?_
  refine V_getP (q := 50) (r := 9) fX7_26 (sh_ap (shA _ _ (sh_ap (CH1.sh (sh_ap (CG1.sh (sh_ap hs))))))) rfl (by rw [hP_apn, hP_s, if_pos ⟨rfl, rfl⟩]) dX7_init_47 rfl ?_
  refine V_callI (q := 53) (S := [.ref 151, .ref 0]) kX7_32 (d_Rinit (len_ap lnA) (sh_new lnA) (Fz.ap (Fz_sP u2 (Nat.lt_of_lt_of_eq (show 0 < 151 by omega) (lnA).symm)))) rfl rfl rfl dX7_init_50 rfl (fun r10 h11 p12 => ?_)
  obtain ⟨rfl, CR1, v0, v1, v2, v3, v4, v5⟩ := p12
  refine V_putFP (q := 56) wX7_35 (Or.inl ⟨_, rfl⟩) rfl (CR1.sh (sh_ap (shA _ _ (sh_ap (CH1.sh (sh_ap (CG1.sh (sh_ap hs)))))))) rfl dX7_init_53 rfl ?_
  refine V_vret rfl dX7_init_56 rfl rfl ?_
  have w4 : ∀ b, b ≠ 0 → b < 151 → hP (sP h11 0 3 (some 151)) b = hP h8 b := fun b y1 y2 => by rw [hP_n y1, CR1.2.2.2 b y2, hP_apn, hP_n y1]
  have w3 : ∀ b, b ≠ 0 → b < 9 → hP h8 b = hP h5 b := fun b y1 y2 => by rw [u4 b y2, hP_apn, hP_n y1]
  have w2 : ∀ b, b ≠ 0 → b < 5 → hP h5 b = hP h2 b := fun b y1 y2 => by rw [CH1.2.2.2 b y2, hP_apn, hP_n y1]
  have s1 : h2.1 = [(7, 4), (5, 5), (9, 4), (12, 24), (2, 10)] := by rw [CG1.1]; show (h.1 ++ _) ++ _ = _; rw [hh]; rfl
  have s2 : h5.1 = [(7, 4), (5, 5), (9, 4), (12, 24), (2, 10), (1, 5), (9, 8), (9, 8), (12, 8)] := by rw [CH1.1]; show (h2.1 ++ _) ++ _ = _; rw [s1]; rfl
  have s3 : (sP h11 0 3 (some 151)).1 = h8.1 ++ ([(6, 11)] ++ [(9, 8), (15, 4), (9, 16), (9, 16), (9, 16), (9, 16), (9, 24)]) := by show h11.1 = _; rw [CR1.1]; show (h8.1 ++ _) ++ _ = _; rw [List.append_assoc]
  have s4 : (sP h11 0 3 (some 151)).1 = csL := by rw [s3, u1]; show ((h5.1 ++ _) ++ _) ++ _ = _; rw [s2]; rfl
  have AW2 : AnW (sP h11 0 3 (some 151)) := by
    obtain ⟨b1, b2, b3, b4, b5, b6, b7⟩ := AW
    refine ⟨by rw [w4 9 (by decide) (by decide)]; exact b1, by rw [w4 9 (by decide) (by decide)]; exact b2, by rw [w4 9 (by decide) (by decide)]; exact b3, fun r hr => by rw [w4 10 (by decide) (by decide)]; exact b4 r hr, fun i hi => by rw [w4 34 (by decide) (by decide)]; exact b5 i hi, LA_add b6 s3 (by omega) (w4 _ (by decide) (by decide)) (w4 _ (by decide) (by decide)), fun r hr => LA_add (b7 r hr) s3 (by omega) (w4 _ (by omega) (by omega)) (w4 _ (by omega) (by omega))⟩
  refine ⟨rfl, s4, ?_, ?_, CS_mk s4 ⟨?_, ?_, ?_, ?_⟩ (fun k hk => ?_) (fun k hk => ?_) AW2 ⟨?_, ?_, ?_, ?_, ?_⟩ (fun r hr => ?_), fun i hi => ?_⟩
  · exact Fz_sP CR1.2.1 (by have := CR1.ln (len_ap lnA); omega)
  · show hI h11 = _
    rw [CR1.2.2.1]
    show hI h8 = _
    rw [u3]
    funext b k
    rw [hI_s, hI_s]
    rw [show hI (apn (sP h5 0 1 (some 5)) [(0, 4)]) = hI h from CH1.2.2.1.trans CG1.2.2.1]
  · rw [hP_s, if_neg (by decide), CR1.2.2.2 0 (by decide), hP_apn, hP_s, if_neg (by decide)]; exact q0 0 (by decide)
  · rw [hP_s, if_neg (by decide), CR1.2.2.2 0 (by decide), hP_apn, hP_s, if_neg (by decide)]; exact q0 1 (by decide)
  · rw [hP_s, if_neg (by decide), CR1.2.2.2 0 (by decide), hP_apn, hP_s, if_pos ⟨rfl, rfl⟩]
  · rw [hP_s, if_pos ⟨rfl, rfl⟩]
  · rw [w4 1 (by decide) (by decide), w3 1 (by decide) (by decide), w2 1 (by decide) (by decide)]; exact g1 k hk
  · rw [w4 5 (by decide) (by decide), w3 5 (by decide) (by decide)]; exact k5 k hk
  · rw [hP_n (by decide)]; exact v0
  · rw [hP_n (by decide)]; exact v1
  · rw [hP_n (by decide)]; exact v2
  · rw [hP_n (by decide)]; exact v3
  · rw [hP_n (by decide)]; exact v4
  · rw [hP_n (by decide)]; exact v5 r hr
  · rw [w4 3 (by decide) (by decide), w3 3 (by decide) (by decide), w2 3 (by decide) (by decide)]; exact g3 i hi

/-! THE START: an empty program, nothing to take back -/
def P0 : PG := (0, fun _ => 0, 0, fun _ _ => 0)
def σ0 : GS := (P0, fun _ => P0, 0)
theorem ok_P0 : OkP P0 := ⟨Nat.zero_le _, fun r hr => absurd hr (Nat.not_lt_zero _), Nat.zero_le _, fun i hi => absurd hi (Nat.not_lt_zero _)⟩
set_option maxRecDepth 100000 in
theorem start_cg {h e η : AH} (h0 : hI h = fun _ _ => 0) (e1 : e.1 = csL) (e3 : hI e = hI (sI h 9 3 (bi true))) (C : CS e.1 (hP e)) (e4 : ∀ i, i < 24 → hP e 3 i = some 4) (K : Cn (apn e [(8, 16)]) η 159 mdS.tail) (M : ∀ k r, mdP k = some r → hP η 159 k = some (159 + r)) : CG η σ0 ∧ RH η 159 σ0 := by
  have z : ∀ b k, ¬ (b = 9 ∧ k = 3) → hI η b k = nI 0 := fun b k w => by
    rw [K.2.2.1]
    show hI e b k = _
    rw [e3, hI_s, if_neg w, h0]; rfl
  have sh : ∀ a, a < 159 → η.1[a]? = e.1[a]? := fun a ha => by
    rw [K.1]
    show ((e.1 ++ _) ++ _)[a]? = _
    have hl : e.1.length = 159 := by rw [e1]; rfl
    rw [List.getElem?_append_left (by rw [List.length_append]; omega), List.getElem?_append_left (by omega)]
  have hp : ∀ b, b < 159 → hP η b = hP e b := fun b hb => by rw [K.2.2.2 b hb]; rfl
  have C2 : CS η.1 (hP η) := CS_of C sh (fun b hb _ => hp b hb)
  have i0 : ∀ k, k < 10 → ifd (fun _ => 0) k = 0 := by decide
  have N4 : IN η 4 (fun _ => 0) := ⟨Or.inl rfl, C2.1 4 _ s_4, fun k hk => by rw [z 4 k (by omega), i0 k hk]⟩
  have hlen : η.1 = csL ++ mdS := by
    rw [K.1]
    show (e.1 ++ _) ++ _ = _
    rw [e1]; rfl
  refine ⟨⟨⟨fun _ => 4, C2, ⟨z 1 3 (by omega), z 1 4 (by omega), fun r hr => absurd hr (Nat.not_lt_zero _), fun i hi => ⟨by rw [hp 3 (by decide)]; exact e4 i hi, ?_⟩, N4, fun _ _ _ => rfl⟩, ok_P0⟩, ⟨0, by decide, z 5 3 (by omega), z 5 4 (by omega), by decide, fun j hj => absurd hj (Nat.not_lt_zero _), fun j hj => absurd hj (Nat.not_lt_zero _)⟩, ⟨true, ?_, fun w => by cases w⟩, ⟨z 11 7 (by omega), z 13 1 (by omega), fun r hr => z _ _ (by omega)⟩, by rw [hlen]; exact Nat.le_of_ble_eq_true rfl⟩, ⟨⟨⟨⟨fun i q hq => ?_, M⟩, ⟨z _ _ (by omega), fun r hr => absurd hr (Nat.not_lt_zero _), z _ _ (by omega), fun i hi => absurd hi (Nat.not_lt_zero _)⟩, ok_P0⟩, ⟨fun _ => false, fun x hx => z _ _ (by omega)⟩, ⟨fun _ => false, fun x hx => z _ _ (by omega)⟩⟩, z _ _ (by omega), by decide, fun j hj => absurd hj (Nat.not_lt_zero _)⟩⟩
  · have : xfd P0 i = fun _ => 0 := if_neg (Nat.not_lt_zero _)
    show IN η 4 (xfd P0 i)
    rw [this]; exact N4
  · rw [K.2.2.1]
    show hI e 9 3 = _
    rw [e3, hI_s, if_pos ⟨rfl, rfl⟩]
  · rw [hlen, List.getElem?_append_right (by show csL.length ≤ 159 + i; exact Nat.le_add_right _ _), show 159 + i - csL.length = i from Nat.add_sub_cancel_left _ _]
    exact hq

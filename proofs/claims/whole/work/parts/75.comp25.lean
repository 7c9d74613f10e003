theorem len_apm {h : AH} {N M n : Nat} (e : h.1.length = n) : (apm h N M).1.length = n + (1 + N) := by
  show (h.1 ++ ((15, N) :: List.replicate N (9, M))).length = _
  rw [List.length_append, List.length_cons, List.length_replicate, e]; omega
theorem sh_apm {h : AH} {N M a : Nat} {q : Nat × Nat} (e : h.1[a]? = some q) : (apm h N M).1[a]? = some q := by
  show (h.1 ++ _)[a]? = _
  rw [List.getElem?_append_left (List.getElem?_eq_some_iff.mp e).1]; exact e
theorem sh_apmn {h : AH} {N M a : Nat} (e : h.1.length = a) : (apm h N M).1[a]? = some (15, N) := by
  show (h.1 ++ _)[a]? = _
  subst e
  rw [List.getElem?_append_right (Nat.le_refl _), Nat.sub_self]; rfl
theorem hP_apm {h : AH} {N M n b : Nat} (e : h.1.length = n) (hb : b ≠ n) : hP (apm h N M) b = hP h b := by
  funext j
  show (if b = h.1.length ∧ j < N then _ else hP h b j) = _
  rw [if_neg (by omega)]
theorem hP_apmi {h : AH} {N M n i : Nat} (e : h.1.length = n) (hi : i < N) : hP (apm h N M) n i = some (n + 1 + i) := by
  show (if n = h.1.length ∧ i < N then _ else hP h n i) = _
  rw [if_pos ⟨e.symm, hi⟩]
def laR : Nat → List (Nat × Nat)
  | 0 => []
  | r + 1 => laR r ++ laS
theorem laR_len : ∀ r, (laR r).length = 23 * r
  | 0 => rfl
  | r + 1 => by
    show (laR r ++ laS).length = _
    rw [List.length_append, laR_len r]
    show 23 * r + 23 = _
    omega
theorem laS_eq : laS = (3, 9) :: ([(13, 16), (4, 4), (13, 16), (10, 16), (10, 16), (11, 16)] ++ List.replicate 16 (4, 4)) := rfl
/-- a Layout stays where cells are added -/
theorem LA_add {h η : AH} {l : List (Nat × Nat)} {a : Nat} (Y : LA h.1 (hP h) a) (e : η.1 = h.1 ++ l) (hl : a + 23 ≤ h.1.length) (e1 : hP η a = hP h a) (e2 : hP η (a + 1) = hP h (a + 1)) : LA η.1 (hP η) a := LA_of Y (fun i hi => by rw [e, List.getElem?_append_left (by omega)]) e1 e2
theorem Cn.sh {h η : AH} {a b : Nat} {l : List (Nat × Nat)} {q : Nat × Nat} (C : Cn h η a l) (e : h.1[b]? = some q) : η.1[b]? = some q := by
  rw [C.1, List.getElem?_append_left (List.getElem?_eq_some_iff.mp e).1]; exact e
theorem Cn.ln {h η : AH} {a n : Nat} {l : List (Nat × Nat)} (C : Cn h η a l) (e : h.1.length = n) : η.1.length = n + l.length := by
  rw [C.1, List.length_append, e]
set_option maxHeartbeats 4000000 in
set_option maxRecDepth 100000 in
theorem d_Rinit {g : GX} {h : AH} (hl : h.1.length = 152) (hs : h.1[151]? = some (6, 11)) (Z : Fz h) : Ct g mX6_init 1 7 100 [.ref 151, .ref 1, .ref 9] h (fun ρ η => ρ = none ∧ Cn h η 151 [(9, 8), (15, 4), (9, 16), (9, 16), (9, 16), (9, 16), (9, 24)] ∧ hP η 151 0 = some 1 ∧ hP η 151 1 = some 9 ∧ hP η 151 2 = some 152 ∧ hP η 151 3 = some 153 ∧ hP η 151 4 = some 158 ∧ ∀ r, r < 4 → hP η 153 r = some (154 + r)) := by
  refine Ct_intro (by decide +kernel) (Nat.le_of_ble_eq_true rfl) ?_
  show V g mX6_init _ h 0 0 [(0, .ref 151), (1, .ref 1), (2, .ref 9)] 0 []
  refine V_aload_n (j := 0) (q := 1) dX6_init_0 rfl rfl ?_
  refine V_objInit (q := 4) kX6_3 rfl rfl rfl dX6_init_1 rfl ?_
  refine V_aload_n (j := 0) (q := 5) dX6_init_4 rfl rfl ?_
  refine V_bipush (q := 7) (v := nI 8) dX6_init_5 rfl (by decide) ?_
  refine V_newI (q := 9) (N := 8) rfl rfl dX6_init_7 rfl ?_
  refine V_al (a := 152) Z hl ?_
  refine V_putFP (q := 12) wX6_9 (Or.inr ⟨_, rfl⟩) rfl (sh_ap hs) rfl dX6_init_9 rfl ?_
  refine V_aload_n (j := 0) (q := 13) dX6_init_12 rfl rfl ?_
  refine V_iconst (q := 14) (v := nI 4) dX6_init_13 rfl rfl ?_
  refine V_bipush (q := 16) (v := nI 16) dX6_init_14 rfl (by decide) ?_
  refine V_multi (q := 20) (N := 4) (M := 16) nX6_15 rfl rfl rfl dX6_init_16 rfl ?_
  refine V_alm (a := 153) (Fz_sP (Fz.ap Z) (Nat.lt_of_lt_of_eq (show 151 < 153 by omega) (len_ap hl).symm)) (len_ap hl) ?_
  refine V_putFP (q := 23) wX6_17 (Or.inr ⟨_, rfl⟩) rfl (sh_apm (sh_ap hs)) rfl dX6_init_20 rfl ?_
  refine V_aload_n (j := 0) (q := 24) dX6_init_23 rfl rfl ?_
  refine V_bipush (q := 26) (v := nI 24) dX6_init_24 rfl (by decide) ?_
  refine V_newI (q := 28) (N := 24) rfl rfl dX6_init_26 rfl ?_
  refine V_al (a := 158) (Fz_sP (apm_z (Fz_sP (Fz.ap Z) (Nat.lt_of_lt_of_eq (show 151 < 153 by omega) (len_ap hl).symm))) (Nat.lt_of_lt_of_eq (show 151 < 158 by omega) (len_apm (h := sP (apn h [(9, 8)]) 151 2 (some 152)) (N := 4) (M := 16) (len_ap hl)).symm)) (len_apm (h := sP (apn h [(9, 8)]) 151 2 (some 152)) (N := 4) (M := 16) (len_ap hl)) ?_
  refine V_putFP (q := 31) wX6_20 (Or.inr ⟨_, rfl⟩) rfl (sh_ap (sh_apm (sh_ap hs))) rfl dX6_init_28 rfl ?_
  refine V_aload_n (j := 0) (q := 32) dX6_init_31 rfl rfl ?_
  refine V_aload_n (j := 1) (q := 33) dX6_init_32 rfl rfl ?_
  refine V_putFP (q := 36) wX6_23 (Or.inl ⟨_, rfl⟩) rfl (sh_ap (sh_apm (sh_ap hs))) rfl dX6_init_33 rfl ?_
  refine V_aload_n (j := 0) (q := 37) dX6_init_36 rfl rfl ?_
  refine V_aload_n (j := 2) (q := 38) dX6_init_37 rfl rfl ?_
  refine V_putFP (q := 41) wX6_27 (Or.inl ⟨_, rfl⟩) rfl (sh_ap (sh_apm (sh_ap hs))) rfl dX6_init_38 rfl ?_
  refine V_vret rfl dX6_init_41 rfl rfl ?_
  have Z2 : Fz (sP (sP (sP (apn (sP (apm (sP (apn h [(9, 8)]) 151 2 (some 152)) 4 16) 151 3 (some 153)) [(9, 24)]) 151 4 (some 158)) 151 0 (some 1)) 151 1 (some 9)) := Fz_sP (Fz_sP (Fz_sP (Fz.ap (Fz_sP (apm_z (Fz_sP (Fz.ap Z) (Nat.lt_of_lt_of_eq (show 151 < 153 by omega) (len_ap hl).symm))) (Nat.lt_of_lt_of_eq (show 151 < 158 by omega) (len_apm (h := sP (apn h [(9, 8)]) 151 2 (some 152)) (N := 4) (M := 16) (len_ap hl)).symm))) (Nat.lt_of_lt_of_eq (show 151 < 159 by omega) (len_ap (len_apm (h := sP (apn h [(9, 8)]) 151 2 (some 152)) (N := 4) (M := 16) (len_ap hl))).symm)) (Nat.lt_of_lt_of_eq (show 151 < 159 by omega) (len_ap (len_apm (h := sP (apn h [(9, 8)]) 151 2 (some 152)) (N := 4) (M := 16) (len_ap hl))).symm)) (Nat.lt_of_lt_of_eq (show 151 < 159 by omega) (len_ap (len_apm (h := sP (apn h [(9, 8)]) 151 2 (some 152)) (N := 4) (M := 16) (len_ap hl))).symm)
  have q5 : ∀ k, hP (sP (sP (sP (apn (sP (apm (sP (apn h [(9, 8)]) 151 2 (some 152)) 4 16) 151 3 (some 153)) [(9, 24)]) 151 4 (some 158)) 151 0 (some 1)) 151 1 (some 9)) 151 k = if k = 1 then some 9 else if k = 0 then some 1 else if k = 4 then some 158 else if k = 3 then some 153 else if k = 2 then some 152 else hP h 151 k := by
    intro k
    simp only [hP_s, hP_apn]
    rw [hP_apm (h := sP (apn h [(9, 8)]) 151 2 (some 152)) (n := 153) (len_ap hl) (by decide)]
    simp only [hP_s, hP_apn, true_and]
  refine ⟨rfl, ⟨by simp [apn, apm, sP, List.replicate], Z2, rfl, fun b hb => by rw [hP_n (by omega), hP_n (by omega), hP_n (by omega), hP_apn, hP_n (by omega), hP_apm (h := sP (apn h [(9, 8)]) 151 2 (some 152)) (n := 153) (len_ap hl) (by omega), hP_n (by omega), hP_apn]⟩, by rw [q5]; rfl, by rw [q5]; rfl, by rw [q5]; rfl, by rw [q5]; rfl, by rw [q5]; rfl, fun r hr => ?_⟩
  rw [hP_n (by omega), hP_n (by omega), hP_n (by omega), hP_apn, hP_n (by omega), hP_apmi (h := sP (apn h [(9, 8)]) 151 2 (some 152)) (n := 153) (len_ap hl) hr]

set_option maxHeartbeats 4000000 in
set_option maxRecDepth 100000 in
theorem lq_Ainit {g : GX} {d : AH} (dl : d.1.length = 59) (s9 : d.1[9]? = some (0, 4)) (s10 : d.1[10]? = some (14, 4)) (p9 : hP d 9 0 = some 10) {Q : Option Value → AH → Prop} (hQ : ∀ η, η.1 = d.1 ++ laR 4 → Fz η → hI η = hI d → (∀ b, b < 59 → b ≠ 10 → hP η b = hP d b) → (∀ q, q < 4 → hP η 10 q = some (59 + 23 * q) ∧ LA η.1 (hP η) (59 + 23 * q)) → Q none η) : ∀ (t : Nat) (r : Nat) (e : AH), (r ≤ 4) → (e.1 = d.1 ++ laR r) → (Fz e) → (hI e = hI d) → (∀ b, b < 59 → b ≠ 10 → hP e b = hP d b) → (∀ q, q < r → hP e 10 q = some (59 + 23 * q) ∧ LA e.1 (hP e) (59 + 23 * q)) → 4 - r < t → V g mX0_init (thM g 3 141 1197 Q) e (49 + 23 * r) (569 + 157 * r) [(0, .ref 9), (1, .int (nI r))] 42 [] := by
  intro t
  induction t with
  | zero =>
    intro r e hr E1 E2 E3 E4 E5 hfu
    exact absurd hfu (Nat.not_lt_zero _)
  | succ t ih =>
    intro r e hr E1 E2 E3 E4 E5 hfu
    have hle : e.1.length = 59 + 23 * r := by rw [E1, List.length_append, dl, laR_len]
    refine V_iload_n (j := 1) (q := 43) dX0_init_42 rfl rfl ?_
    refine V_iconst (q := 44) (v := nI 4) dX0_init_43 rfl rfl ?_
    refine V_icmp_geN (tgt := 66) (q := 47) dX0_init_44 rfl rfl (by omega) (by omega) (fun c1 => ?_) (fun c1 => ?_)
    · skip
      refine V_vret rfl dX0_init_66 (Nat.ble_eq_true_of_le (show 49 + 23 * r ≤ 141 by omega)) (Nat.ble_eq_true_of_le (show 569 + 157 * r ≤ 1197 by omega)) ?_
      have hr4 : r = 4 := by omega
      subst hr4
      exact hQ _ E1 E2 E3 E4 E5
    · skip
      refine V_aload_n (j := 0) (q := 48) dX0_init_47 rfl rfl ?_
      refine V_getP (q := 51) (r := 10) fX0_11 (by rw [E1, List.getElem?_append_left (by omega)]; exact s9) rfl (by rw [E4 9 (by decide) (by decide)]; exact p9) dX0_init_48 rfl ?_
      refine V_iload_n (j := 1) (q := 52) dX0_init_51 rfl rfl ?_
      refine V_new (q := 55) (ci := 3) (N := 9) dv_3 rfl (fun r hr => by cases hr; exact nX0_9) (fitA_of (show _ ≤ 141 by omega) (show _ ≤ 1197 by omega)) dX0_init_52 rfl ?_
      refine V_al (a := (59 + 23 * r)) E2 hle ?_
      refine V_dup (q := 56) dX0_init_55 rfl rfl ?_
      refine V_callI (q := 59) (S := [.ref (59 + 23 * r), .int (nI r), .ref 10]) kX0_17 (d_Linit (a := 59 + 23 * r) (len_ap hle) (sh_new hle) (Fz.ap E2)) rfl (fitR_of (show _ ≤ 3 by omega) (show _ ≤ 120 by omega) (show _ ≤ 141 by omega) (show _ ≤ 1197 by omega) (Nat.le_of_ble_eq_true rfl)) rfl dX0_init_56 rfl (fun r2 h3 p4 => ?_)
      obtain ⟨rfl, Cq, Yq⟩ := p4
      refine V_aast (q := 60) (c := 14) (cr := 3) (by decide) (Cq.sh (sh_ap (by rw [E1, List.getElem?_append_left (by omega)]; exact s10))) (Cq.sh (sh_new hle)) (by omega) (by decide) dX0_init_59 rfl ?_
      refine V_iincN (j := 1) (q := 63) (L' := [(1, .int (nI (r + 1))), (0, .ref 9)]) dX0_init_60 rfl rfl rfl rfl ?_
      refine V_goto (q := 42) dX0_init_63 rfl ?_
      refine V_wd (k' := 49 + 23 * (r + 1)) (n' := 569 + 157 * (r + 1)) (by omega) (by omega) ?_
      refine V_sub (L' := [(0, .ref 9), (1, .int (nI (r + 1)))]) [1, 0] rfl ?_
      refine ih (r + 1) (sP h3 10 r (some (59 + 23 * r))) ?_ ?_ ?_ ?_ ?_ ?_ ?_
      · omega
      · show h3.1 = _; rw [Cq.1]; show (e.1 ++ [(3, 9)]) ++ _ = d.1 ++ (laR r ++ laS); rw [E1, laS_eq, List.append_assoc, List.append_assoc]; rfl
      · exact Fz_sP Cq.2.1 (by have := Cq.ln (len_ap hle); omega)
      · show hI h3 = _; exact Cq.2.2.1.trans E3
      · intro b hb hb2; rw [hP_n hb2, Cq.2.2.2 b (by omega)]; exact E4 b hb hb2
      · intro q hq
        by_cases z : q = r
        · subst z
          exact ⟨by rw [hP_s, if_pos ⟨rfl, rfl⟩], LA_of Yq (fun _ _ => rfl) (hP_n (by omega)) (hP_n (by omega))⟩
        · obtain ⟨k1, k2⟩ := E5 q (by omega)
          refine ⟨by rw [hP_s, if_neg (fun w => z w.2), Cq.2.2.2 10 (by omega)]; exact k1, ?_⟩
          exact LA_add (h := e) (l := [(3, 9)] ++ ([(13, 16), (4, 4), (13, 16), (10, 16), (10, 16), (11, 16)] ++ List.replicate 16 (4, 4))) k2 (by show h3.1 = _; rw [Cq.1]; show (e.1 ++ [(3, 9)]) ++ _ = _; rw [List.append_assoc]) (by omega) (by rw [hP_n (by omega), Cq.2.2.2 _ (by omega)]; rfl) (by rw [hP_n (by omega), Cq.2.2.2 _ (by omega)]; rfl)
      · omega

/-- the Analysis and what it holds -/
def AnW (η : AH) : Prop := hP η 9 0 = some 10 ∧ hP η 9 1 = some 11 ∧ hP η 9 2 = some 34 ∧ (∀ r, r < 4 → hP η 10 r = some (59 + 23 * r)) ∧ (∀ i, i < 24 → hP η 34 i = some (35 + i)) ∧ LA η.1 (hP η) 11 ∧ ∀ r, r < 4 → LA η.1 (hP η) (59 + 23 * r)
set_option maxHeartbeats 4000000 in
set_option maxRecDepth 100000 in
theorem d_Ainit {g : GX} {h : AH} (hl : h.1.length = 10) (hs : h.1[9]? = some (0, 4)) (Z : Fz h) : Ct g mX0_init 3 141 1197 [.ref 9] h (fun ρ η => ρ = none ∧ η.1 = h.1 ++ ([(14, 4)] ++ (laS ++ (((15, 24) :: List.replicate 24 (9, 16)) ++ laR 4))) ∧ Fz η ∧ hI η = hI (sI h 9 3 (bi true)) ∧ (∀ b, b < 9 → hP η b = hP h b) ∧ AnW η) := by
  refine Ct_intro (by decide +kernel) (Nat.le_of_ble_eq_true rfl) ?_
  show V g mX0_init _ h 0 0 [(0, .ref 9)] 0 []
  refine V_aload_n (j := 0) (q := 1) dX0_init_0 rfl rfl ?_
  refine V_objInit (q := 4) kX0_3 rfl rfl rfl dX0_init_1 rfl ?_
  refine V_aload_n (j := 0) (q := 5) dX0_init_4 rfl rfl ?_
  refine V_iconst (q := 6) (v := nI 4) dX0_init_5 rfl rfl ?_
  refine V_anew (q := 9) (c := 14) (N := 4) (Or.inr (Or.inr ⟨rfl, rfl⟩)) nX0_9 rfl rfl dX0_init_6 rfl ?_
  refine V_al (a := 10) Z hl ?_
  refine V_putFP (q := 12) wX0_11 (Or.inr ⟨_, rfl⟩) rfl (sh_ap hs) rfl dX0_init_9 rfl ?_
  refine V_aload_n (j := 0) (q := 13) dX0_init_12 rfl rfl ?_
  refine V_new (q := 16) (ci := 3) (N := 9) dv_3 rfl (fun r hr => by cases hr; exact nX0_9) rfl dX0_init_13 rfl ?_
  refine V_al (a := 11) (Fz_sP (Fz.ap Z) (Nat.lt_of_lt_of_eq (show 9 < 11 by omega) (len_ap hl).symm)) (len_ap hl) ?_
  refine V_dup (q := 17) dX0_init_16 rfl rfl ?_
  refine V_callI (q := 20) (S := [.ref 11, .ref 9]) kX0_17 (d_Linit (a := 11) (len_ap (len_ap hl)) (sh_new (len_ap hl)) (Fz.ap (Fz_sP (Fz.ap Z) (Nat.lt_of_lt_of_eq (show 9 < 11 by omega) (len_ap hl).symm)))) rfl rfl rfl dX0_init_17 rfl (fun r1 h2 p3 => ?_)
  obtain ⟨rfl, Cq, Yq⟩ := p3
  refine V_putFP (q := 23) wX0_18 (Or.inl ⟨_, rfl⟩) rfl (Cq.sh (sh_ap (sh_ap hs))) rfl dX0_init_20 rfl ?_
  refine V_aload_n (j := 0) (q := 24) dX0_init_23 rfl rfl ?_
  refine V_bipush (q := 26) (v := nI 24) dX0_init_24 rfl (by decide) ?_
  refine V_bipush (q := 28) (v := nI 16) dX0_init_26 rfl (by decide) ?_
  refine V_multi (q := 32) (N := 24) (M := 16) nX0_22 rfl rfl rfl dX0_init_28 rfl ?_
  refine V_alm (a := 34) (Fz_sP Cq.2.1 (Nat.lt_of_lt_of_eq (show 9 < 34 by omega) (Cq.ln (len_ap (len_ap hl))).symm)) (Cq.ln (len_ap (len_ap hl))) ?_
  refine V_putFP (q := 35) wX0_24 (Or.inr ⟨_, rfl⟩) rfl (sh_apm (Cq.sh (sh_ap (sh_ap hs)))) rfl dX0_init_32 rfl ?_
  refine V_aload_n (j := 0) (q := 36) dX0_init_35 rfl rfl ?_
  refine V_iconst (q := 37) (v := nI 1) dX0_init_36 rfl rfl ?_
  refine V_rw (y := bi true) rfl ?_
  refine V_putZ (b := true) (q := 40) wX0_27 (sh_apm (Cq.sh (sh_ap (sh_ap hs)))) rfl dX0_init_37 rfl ?_
  refine V_iconst (q := 41) (v := nI 0) dX0_init_40 rfl rfl ?_
  refine V_istore_n (q := 42) (L' := [(1, .int (nI 0)), (0, .ref 9)]) dX0_init_41 rfl rfl rfl ?_
  refine V_sub (L' := [(0, .ref 9), (1, .int (nI 0))]) [1, 0] rfl ?_
  have c1 : h2.1 = h.1 ++ ([(14, 4)] ++ laS) := by rw [Cq.1]; simp [apn, sP, laS]
  have n34 : h2.1.length = 34 := by rw [c1, List.length_append, hl]; rfl
  have Zd : Fz (sI (sP (apm (sP h2 9 1 (some 11)) 24 16) 9 2 (some 34)) 9 3 (bi true)) := Fz_sI (Fz_sP (apm_z (Fz_sP Cq.2.1 (Nat.lt_of_lt_of_eq (show 9 < 34 by omega) (Cq.ln (len_ap (len_ap hl))).symm))) (Nat.lt_of_lt_of_eq (show 9 < 59 by omega) (len_apm (h := sP h2 9 1 (some 11)) (N := 24) (M := 16) (Cq.ln (len_ap (len_ap hl)))).symm)) (Nat.lt_of_lt_of_eq (show 9 < 59 by omega) (len_apm (h := sP h2 9 1 (some 11)) (N := 24) (M := 16) (Cq.ln (len_ap (len_ap hl)))).symm)
  have dl : (sI (sP (apm (sP h2 9 1 (some 11)) 24 16) 9 2 (some 34)) 9 3 (bi true)).1.length = 59 := len_apm (h := sP h2 9 1 (some 11)) n34
  have o0 : hP h2 9 0 = some 10 := by rw [Cq.2.2.2 9 (by decide)]; simp [hP_s, hP_apn]
  have oe : ∀ b, b ≠ 9 → b ≠ 34 → hP (sI (sP (apm (sP h2 9 1 (some 11)) 24 16) 9 2 (some 34)) 9 3 (bi true)) b = hP h2 b := fun b w1 w2 => by rw [hP_sI, hP_n w1, hP_apm (h := sP h2 9 1 (some 11)) n34 w2, hP_n w1]
  have o9 : ∀ k, hP (sI (sP (apm (sP h2 9 1 (some 11)) 24 16) 9 2 (some 34)) 9 3 (bi true)) 9 k = if k = 2 then some 34 else if k = 1 then some 11 else hP h2 9 k := fun k => by
    rw [hP_sI, hP_s]
    rw [hP_apm (h := sP h2 9 1 (some 11)) n34 (by decide), hP_s]
    simp only [true_and]
  refine lq_Ainit (d := sI (sP (apm (sP h2 9 1 (some 11)) 24 16) 9 2 (some 34)) 9 3 (bi true)) dl (sh_apm (Cq.sh (sh_ap (sh_ap hs)))) (sh_apm (Cq.sh (sh_ap (sh_new hl)))) (by rw [o9]; exact o0) (fun η f1 f2 f3 f4 f5 => ?_) 5 0 _ (Nat.zero_le _) (by show _ = _ ++ []; rw [List.append_nil]) Zd rfl (fun b _ _ => rfl) (fun q hq => absurd hq (Nat.not_lt_zero _)) (by decide)
  refine ⟨rfl, ?_, f2, ?_, fun b hb => ?_, ?_, ?_, ?_, fun r hr => (f5 r hr).1, fun i hi => ?_, ?_, fun r hr => (f5 r hr).2⟩
  · rw [f1]; show (h2.1 ++ ((15, 24) :: List.replicate 24 (9, 16))) ++ laR 4 = _; rw [c1]; simp only [List.append_assoc]
  · rw [f3]; funext b k; show hI (sI h2 9 3 (bi true)) b k = _; rw [hI_s, hI_s]; rw [show hI h2 = hI h from Cq.2.2.1]
  · rw [f4 b (by omega) (by omega), oe b (by omega) (by omega), Cq.2.2.2 b (by omega)]; rw [hP_apn, hP_n (by omega), hP_apn]
  · rw [f4 9 (by decide) (by decide), o9]; exact o0
  · rw [f4 9 (by decide) (by decide), o9]; rfl
  · rw [f4 9 (by decide) (by decide), o9]; rfl
  · rw [f4 34 (by decide) (by decide), hP_sI, hP_n (by decide)]; exact hP_apmi (h := sP h2 9 1 (some 11)) n34 hi
  · refine LA_add (h := h2) (l := ((15, 24) :: List.replicate 24 (9, 16)) ++ laR 4) Yq ?_ (by omega) ?_ ?_
    · rw [f1]; show (h2.1 ++ ((15, 24) :: List.replicate 24 (9, 16))) ++ laR 4 = _; rw [List.append_assoc]
    · rw [f4 11 (by decide) (by decide), oe 11 (by decide) (by decide)]
    · rw [f4 12 (by decide) (by decide), oe 12 (by decide) (by decide)]


theorem CPr_drop {e : AH} {P P' : PG} {U : Nat → Nat} (X : CPr e P U) (e1 : pNr P = pNr P' + 1) (e2 : pNi P = pNi P') (e3 : ∀ r, r < pNr P' → pSz P r = pSz P' r) (e4 : ∀ i, i < pNi P' → ∀ w, pFd P i w = pFd P' i w) : CPr (sI e 1 3 (nI (pNr P - 1))) P' U := by
  obtain ⟨c1, c2, c3, c4, c5, c6⟩ := X
  have hi : ∀ u f, IN e u f → IN (sI e 1 3 (nI (pNr P - 1))) u f := fun u f N => ⟨N.1, N.2.1, fun k hk => by rw [hI_n (by have := N.1; omega)]; exact N.2.2 k hk⟩
  refine ⟨by rw [hI_s, if_pos ⟨rfl, rfl⟩, show pNr P - 1 = pNr P' by omega], by rw [hI_s, if_neg (by omega), c2, e2], fun r hr => by rw [hI_n (by decide), c3 r (by omega), e3 r hr], fun i hi24 => ⟨(c4 i hi24).1, ?_⟩, hi _ _ c5, fun i h1 h2 => c6 i (by omega) h2⟩
  have ex : xfd P i = xfd P' i := by
    unfold xfd
    by_cases z : i < pNi P'
    · rw [if_pos (by omega), if_pos z]
      funext w
      exact e4 i z w
    · rw [if_neg (by omega), if_neg z]
  rw [← ex]; exact hi _ _ (c4 i hi24).2
/-- behind an edit: what may have changed -/
def FEd (h η : AH) : Prop := η.1 = h.1 ∧ hJ η = hJ h ∧ (∀ b, b ≠ 1 → b ≠ 2 → b ≠ 5 → b ≠ 6 → b ≠ 7 → hI η b = hI h b) ∧ ∀ b, b ≠ 3 → b ≠ 8 → hP η b = hP h b
theorem FEd.rf (h : AH) : FEd h h := ⟨rfl, rfl, fun _ _ _ _ _ _ => rfl, fun _ _ _ => rfl⟩
theorem FEd.tr {h h1 h2 : AH} (A : FEd h h1) (B : FEd h1 h2) : FEd h h2 := ⟨B.1.trans A.1, B.2.1.trans A.2.1, fun b a1 a2 a3 a4 a5 => (B.2.2.1 b a1 a2 a3 a4 a5).trans (A.2.2.1 b a1 a2 a3 a4 a5), fun b a1 a2 => (B.2.2.2 b a1 a2).trans (A.2.2.2 b a1 a2)⟩
theorem FEd.sI {h h1 : AH} {a j : Nat} {v : Int32} (A : FEd h h1) (e : a = 1 ∨ a = 2 ∨ a = 5 ∨ a = 6 ∨ a = 7) : FEd h (sI h1 a j v) := ⟨A.1, A.2.1, fun b a1 a2 a3 a4 a5 => by rw [hI_n (by omega)]; exact A.2.2.1 b a1 a2 a3 a4 a5, A.2.2.2⟩
theorem FEd.sP {h h1 : AH} {a j : Nat} {v : Option Nat} (A : FEd h h1) (e : a = 3 ∨ a = 8) : FEd h (sP h1 a j v) := ⟨A.1, A.2.1, A.2.2.1, fun b a1 a2 => by rw [hP_n (by omega)]; exact A.2.2.2 b a1 a2⟩
theorem FL3.ed {h h1 h2 : AH} {n : Nat} {U : Nat → Nat} (A : FEd h h1) (F : FL3 h1 h2 n U) : FEd h h2 := A.tr ⟨F.1, F.2.2.2.2.1, fun b a1 _ _ _ _ => F.2.1 b a1, fun b a1 _ => F.2.2.2.2.2.1 b a1⟩
theorem FEd.in {h h1 : AH} (A : FEd h h1) : ∀ u f, IN h u f → IN h1 u f := fun u f N => IN_of N A.1 (A.2.2.1 u (by have := N.1; omega) (by have := N.1; omega) (by have := N.1; omega) (by have := N.1; omega) (by have := N.1; omega))
theorem FEd.cs {h h1 : AH} (A : FEd h h1) (X : CS h.1 (hP h)) : CS h1.1 (hP h1) := CS_of X (fun a _ => by rw [A.1]) (fun b _ hb => A.2.2.2 b (fun z => hb (Or.inl z)) (fun z => hb (Or.inr (Or.inl z))))
set_option maxHeartbeats 4000000 in
set_option maxRecDepth 100000 in
theorem d_takeBack {g : GX} {h : AH} {P : PG} {U : Nat → Nat} {K : Nat → PG} {c t : Nat} (X0 : CX h P U) (H : CH h P K (c + 1) t) : Ct g mX1_takeBack 3 0 0 [.ref 5, .ref 1] h (fun ρ η => ρ = none ∧ (∃ U', CX η (K c) U') ∧ CH η (K c) K c (slt t 0) ∧ FEd h η) := by
  refine Ct_intro (by decide +kernel) (Nat.le_of_ble_eq_true rfl) ?_
  show V g mX1_takeBack _ h 0 0 [(0, .ref 5), (1, .ref 1)] 0 []
  have ht := H.1
  have hs : slt t 0 < 8 := by unfold slt; omega
  have hc8 := H.2.2.2.1
  have okK := H.2.2.2.2.1 c (Nat.lt_succ_self c)
  have hK24 := okK.2.2.1
  have hu := H.2.2.2.2.2 0 (Nat.succ_pos c)
  have e0 : c + 1 - 1 - 0 = c := rfl
  rw [e0] at hu
  rcases hu with ⟨z1, q1, q2, q3, q4⟩ | ⟨z1, z2, q1, q2, q3, q4⟩ | ⟨z1, x, u, z2, z3, hx, Nu, q1, q2, q3, q4⟩
  all_goals simp only [cur, if_true] at q1 q2 q3 q4
  · skip
    refine V_aload_n (j := 0) (q := 1) dX1_takeBack_0 rfl rfl ?_
    refine V_getI (q := 4) fX1_28 (X0.1.1 5 _ s_5) rfl dX1_takeBack_1 rfl ?_
    refine V_rw (y := nI (c + 1)) H.2.2.1 ?_
    refine V_if_neN (tgt := 8) (q := 7) dX1_takeBack_4 rfl rfl (by omega) (fun c1 => ?_) (fun c1 => ?_)
    · skip
      refine V_aload_n (j := 0) (q := 9) dX1_takeBack_8 rfl rfl ?_
      refine V_dup (q := 10) dX1_takeBack_9 rfl rfl ?_
      refine V_getI (q := 13) fX1_28 (X0.1.1 5 _ s_5) rfl dX1_takeBack_10 rfl ?_
      refine V_rw (y := nI (c + 1)) H.2.2.1 ?_
      refine V_iconst (q := 14) (v := nI 1) dX1_takeBack_13 rfl rfl ?_
      refine V_isubN (q := 15) dX1_takeBack_14 rfl (by omega) ?_
      refine V_putI (q := 18) wX1_28 (X0.1.1 5 _ s_5) rfl dX1_takeBack_15 rfl ?_
      refine V_aload_n (j := 0) (q := 19) dX1_takeBack_18 rfl rfl ?_
      refine V_aload_n (j := 0) (q := 20) dX1_takeBack_19 rfl rfl ?_
      refine V_getI (q := 23) fX1_24 (X0.1.1 5 _ s_5) rfl dX1_takeBack_20 rfl ?_
      refine V_rw (y := nI t) (by rw [hI_s, if_neg (by omega)]; exact H.2.1) ?_
      refine V_bipush (q := 25) (v := nI 8) dX1_takeBack_23 rfl (by decide) ?_
      refine V_iaddN (q := 26) dX1_takeBack_25 rfl ?_
      refine V_iconst (q := 27) (v := nI 1) dX1_takeBack_26 rfl rfl ?_
      refine V_isubN (q := 28) dX1_takeBack_27 rfl (by omega) ?_
      refine V_bipush (q := 30) (v := nI 8) dX1_takeBack_28 rfl (by decide) ?_
      refine V_iremN (q := 31) dX1_takeBack_30 rfl (by omega) (by omega) (by omega) ?_
      refine V_putI (q := 34) wX1_24 (X0.1.1 5 _ s_5) rfl dX1_takeBack_31 rfl ?_
      obtain ⟨e, he⟩ : ∃ e, e = sI (sI h 5 4 (nI ((c + 1) - 1))) 5 3 (nI (((t + 8) - 1) % 8)) := ⟨_, rfl⟩
      rw [← he]
      have F : Fm 5 6 h e := by rw [he]; exact ((Fm.rf 5 6 h).setI (by decide)).setI (by decide)
      have FE : FEd h e := by rw [he]; exact ((FEd.rf h).sI (by decide)).sI (by decide)
      have X := F.cx X0 (by decide) (by decide)
      have hN := X.2.2.2.2.1
      have hR := X.2.2.1
      have e53 : hI e 5 3 = nI (slt t 0) := by rw [he, hI_s, if_pos ⟨rfl, rfl⟩]; exact congrArg nI (by unfold slt; omega)
      have e54 : hI e 5 4 = nI c := by rw [he, hI_s, if_neg (by omega), hI_s, if_pos ⟨rfl, rfl⟩]; exact congrArg nI (by omega)
      refine V_aload_n (j := 0) (q := 35) dX1_takeBack_34 rfl rfl ?_
      refine V_getP (q := 38) (r := 6) fX1_9 (X.1.1 5 _ s_5) rfl (X.1.2.1 5 0 _ rfl) dX1_takeBack_35 rfl ?_
      refine V_aload_n (j := 0) (q := 39) dX1_takeBack_38 rfl rfl ?_
      refine V_getI (q := 42) fX1_24 (X.1.1 5 _ s_5) rfl dX1_takeBack_39 rfl ?_
      refine V_rw (y := nI (slt t 0)) e53 ?_
      refine V_iald (q := 43) (X.1.1 6 _ s_6) (by omega) (by decide) dX1_takeBack_42 rfl ?_
      refine V_rw (y := nI 1) (by rw [(F.2.1 6 (by decide)).1]; exact z1) ?_
      refine V_iconst (q := 44) (v := nI 1) dX1_takeBack_43 rfl rfl ?_
      refine V_icmp_neN (tgt := 54) (q := 47) dX1_takeBack_44 rfl rfl (by omega) (by omega) (fun c2 => ?_) (fun c2 => ?_)
      · skip
        exact absurd c2 (by decide)
      · skip
        refine V_aload_n (j := 1) (q := 48) dX1_takeBack_47 rfl rfl ?_
        refine V_callV (q := 51) (S := []) kX1_37 (d_dropRecord X (by omega)) (X.1.1 1 _ s_1) rfl rfl rfl dX1_takeBack_48 rfl (fun r3 h4 p5 => ?_)
        obtain ⟨rfl, rfl⟩ := p5
        have hC := FE.sI (a := 1) (j := 3) (v := nI (pNr P - 1)) (by decide)
        have hU := CPr_drop X.2.1 q1 q2 q3 q4
        have o6 : ∀ b, b ≠ 1 → hI (sI e 1 3 (nI (pNr P - 1))) b = hI e b := fun b hb => hI_n hb
        have o8 : hP (sI e 1 3 (nI (pNr P - 1))) 8 = hP e 8 := rfl
        refine V_goto (q := 105) dX1_takeBack_51 rfl ?_
        refine V_vret rfl dX1_takeBack_105 rfl rfl ?_
        refine ⟨rfl, ⟨_, hC.cs X0.1, hU, okK⟩, CH_pop H ?_ ?_ ?_ ?_ ?_ hC.in rfl, hC⟩
        · rw [o6 5 (by decide)]; exact e53
        · rw [o6 5 (by decide)]; exact e54
        · rw [o6 6 (by decide)]; exact (F.2.1 6 (by decide)).1
        · rw [o6 7 (by decide)]; exact (F.2.1 7 (by decide)).1
        · rw [o8]; exact (F.2.1 8 (by decide)).2.2
    · skip
      exact absurd c1 (by omega)
  · skip
    refine V_aload_n (j := 0) (q := 1) dX1_takeBack_0 rfl rfl ?_
    refine V_getI (q := 4) fX1_28 (X0.1.1 5 _ s_5) rfl dX1_takeBack_1 rfl ?_
    refine V_rw (y := nI (c + 1)) H.2.2.1 ?_
    refine V_if_neN (tgt := 8) (q := 7) dX1_takeBack_4 rfl rfl (by omega) (fun c6 => ?_) (fun c6 => ?_)
    · skip
      refine V_aload_n (j := 0) (q := 9) dX1_takeBack_8 rfl rfl ?_
      refine V_dup (q := 10) dX1_takeBack_9 rfl rfl ?_
      refine V_getI (q := 13) fX1_28 (X0.1.1 5 _ s_5) rfl dX1_takeBack_10 rfl ?_
      refine V_rw (y := nI (c + 1)) H.2.2.1 ?_
      refine V_iconst (q := 14) (v := nI 1) dX1_takeBack_13 rfl rfl ?_
      refine V_isubN (q := 15) dX1_takeBack_14 rfl (by omega) ?_
      refine V_putI (q := 18) wX1_28 (X0.1.1 5 _ s_5) rfl dX1_takeBack_15 rfl ?_
      refine V_aload_n (j := 0) (q := 19) dX1_takeBack_18 rfl rfl ?_
      refine V_aload_n (j := 0) (q := 20) dX1_takeBack_19 rfl rfl ?_
      refine V_getI (q := 23) fX1_24 (X0.1.1 5 _ s_5) rfl dX1_takeBack_20 rfl ?_
      refine V_rw (y := nI t) (by rw [hI_s, if_neg (by omega)]; exact H.2.1) ?_
      refine V_bipush (q := 25) (v := nI 8) dX1_takeBack_23 rfl (by decide) ?_
      refine V_iaddN (q := 26) dX1_takeBack_25 rfl ?_
      refine V_iconst (q := 27) (v := nI 1) dX1_takeBack_26 rfl rfl ?_
      refine V_isubN (q := 28) dX1_takeBack_27 rfl (by omega) ?_
      refine V_bipush (q := 30) (v := nI 8) dX1_takeBack_28 rfl (by decide) ?_
      refine V_iremN (q := 31) dX1_takeBack_30 rfl (by omega) (by omega) (by omega) ?_
      refine V_putI (q := 34) wX1_24 (X0.1.1 5 _ s_5) rfl dX1_takeBack_31 rfl ?_
      obtain ⟨e, he⟩ : ∃ e, e = sI (sI h 5 4 (nI ((c + 1) - 1))) 5 3 (nI (((t + 8) - 1) % 8)) := ⟨_, rfl⟩
      rw [← he]
      have F : Fm 5 6 h e := by rw [he]; exact ((Fm.rf 5 6 h).setI (by decide)).setI (by decide)
      have FE : FEd h e := by rw [he]; exact ((FEd.rf h).sI (by decide)).sI (by decide)
      have X := F.cx X0 (by decide) (by decide)
      have hN := X.2.2.2.2.1
      have hR := X.2.2.1
      have e53 : hI e 5 3 = nI (slt t 0) := by rw [he, hI_s, if_pos ⟨rfl, rfl⟩]; exact congrArg nI (by unfold slt; omega)
      have e54 : hI e 5 4 = nI c := by rw [he, hI_s, if_neg (by omega), hI_s, if_pos ⟨rfl, rfl⟩]; exact congrArg nI (by omega)
      refine V_aload_n (j := 0) (q := 35) dX1_takeBack_34 rfl rfl ?_
      refine V_getP (q := 38) (r := 6) fX1_9 (X.1.1 5 _ s_5) rfl (X.1.2.1 5 0 _ rfl) dX1_takeBack_35 rfl ?_
      refine V_aload_n (j := 0) (q := 39) dX1_takeBack_38 rfl rfl ?_
      refine V_getI (q := 42) fX1_24 (X.1.1 5 _ s_5) rfl dX1_takeBack_39 rfl ?_
      refine V_rw (y := nI (slt t 0)) e53 ?_
      refine V_iald (q := 43) (X.1.1 6 _ s_6) (by omega) (by decide) dX1_takeBack_42 rfl ?_
      refine V_rw (y := nI 2) (by rw [(F.2.1 6 (by decide)).1]; exact z1) ?_
      refine V_iconst (q := 44) (v := nI 1) dX1_takeBack_43 rfl rfl ?_
      refine V_icmp_neN (tgt := 54) (q := 47) dX1_takeBack_44 rfl rfl (by omega) (by omega) (fun c7 => ?_) (fun c7 => ?_)
      · skip
        refine V_aload_n (j := 0) (q := 55) dX1_takeBack_54 rfl rfl ?_
        refine V_getP (q := 58) (r := 6) fX1_9 (X.1.1 5 _ s_5) rfl (X.1.2.1 5 0 _ rfl) dX1_takeBack_55 rfl ?_
        refine V_aload_n (j := 0) (q := 59) dX1_takeBack_58 rfl rfl ?_
        refine V_getI (q := 62) fX1_24 (X.1.1 5 _ s_5) rfl dX1_takeBack_59 rfl ?_
        refine V_rw (y := nI (slt t 0)) e53 ?_
        refine V_iald (q := 63) (X.1.1 6 _ s_6) (by omega) (by decide) dX1_takeBack_62 rfl ?_
        refine V_rw (y := nI 2) (by rw [(F.2.1 6 (by decide)).1]; exact z1) ?_
        refine V_iconst (q := 64) (v := nI 2) dX1_takeBack_63 rfl rfl ?_
        refine V_icmp_neN (tgt := 83) (q := 67) dX1_takeBack_64 rfl rfl (by omega) (by omega) (fun c8 => ?_) (fun c8 => ?_)
        · skip
          exact absurd c8 (by decide)
        · skip
          refine V_aload_n (j := 1) (q := 68) dX1_takeBack_67 rfl rfl ?_
          refine V_aload_n (j := 0) (q := 69) dX1_takeBack_68 rfl rfl ?_
          refine V_getP (q := 72) (r := 7) fX1_15 (X.1.1 5 _ s_5) rfl (X.1.2.1 5 1 _ rfl) dX1_takeBack_69 rfl ?_
          refine V_aload_n (j := 0) (q := 73) dX1_takeBack_72 rfl rfl ?_
          refine V_getI (q := 76) fX1_24 (X.1.1 5 _ s_5) rfl dX1_takeBack_73 rfl ?_
          refine V_rw (y := nI (slt t 0)) e53 ?_
          refine V_iald (q := 77) (X.1.1 7 _ s_7) (by omega) (by decide) dX1_takeBack_76 rfl ?_
          refine V_rw (y := nI (pNi (K c))) (by rw [(F.2.1 7 (by decide)).1]; exact z2) ?_
          refine V_callV (q := 80) (S := []) kX1_42 (d_delete (x := pNi (K c)) X (by omega)) (X.1.1 1 _ s_1) rfl rfl rfl dX1_takeBack_77 rfl (fun r9 h10 p11 => ?_)
          obtain ⟨rfl, G⟩ := p11
          have hC := G.ed FE
          have o6 := G.2.1
          have o8 := G.2.2.2.2.2.1 8 (by decide)
          have hU := CPr_del (P' := K c) X.2.1 hN (by omega) G G.in q1 q2 q3 (fun i hi w => by rw [if_pos hi, q4 i hi w])
          refine V_goto (q := 105) dX1_takeBack_80 rfl ?_
          refine V_vret rfl dX1_takeBack_105 rfl rfl ?_
          refine ⟨rfl, ⟨_, hC.cs X0.1, hU, okK⟩, CH_pop H ?_ ?_ ?_ ?_ ?_ hC.in rfl, hC⟩
          · rw [o6 5 (by decide)]; exact e53
          · rw [o6 5 (by decide)]; exact e54
          · rw [o6 6 (by decide)]; exact (F.2.1 6 (by decide)).1
          · rw [o6 7 (by decide)]; exact (F.2.1 7 (by decide)).1
          · rw [o8]; exact (F.2.1 8 (by decide)).2.2
      · skip
        exact absurd c7 (by decide)
    · skip
      exact absurd c6 (by omega)
  · skip
    refine V_aload_n (j := 0) (q := 1) dX1_takeBack_0 rfl rfl ?_
    refine V_getI (q := 4) fX1_28 (X0.1.1 5 _ s_5) rfl dX1_takeBack_1 rfl ?_
    refine V_rw (y := nI (c + 1)) H.2.2.1 ?_
    refine V_if_neN (tgt := 8) (q := 7) dX1_takeBack_4 rfl rfl (by omega) (fun c12 => ?_) (fun c12 => ?_)
    · skip
      refine V_aload_n (j := 0) (q := 9) dX1_takeBack_8 rfl rfl ?_
      refine V_dup (q := 10) dX1_takeBack_9 rfl rfl ?_
      refine V_getI (q := 13) fX1_28 (X0.1.1 5 _ s_5) rfl dX1_takeBack_10 rfl ?_
      refine V_rw (y := nI (c + 1)) H.2.2.1 ?_
      refine V_iconst (q := 14) (v := nI 1) dX1_takeBack_13 rfl rfl ?_
      refine V_isubN (q := 15) dX1_takeBack_14 rfl (by omega) ?_
      refine V_putI (q := 18) wX1_28 (X0.1.1 5 _ s_5) rfl dX1_takeBack_15 rfl ?_
      refine V_aload_n (j := 0) (q := 19) dX1_takeBack_18 rfl rfl ?_
      refine V_aload_n (j := 0) (q := 20) dX1_takeBack_19 rfl rfl ?_
      refine V_getI (q := 23) fX1_24 (X0.1.1 5 _ s_5) rfl dX1_takeBack_20 rfl ?_
      refine V_rw (y := nI t) (by rw [hI_s, if_neg (by omega)]; exact H.2.1) ?_
      refine V_bipush (q := 25) (v := nI 8) dX1_takeBack_23 rfl (by decide) ?_
      refine V_iaddN (q := 26) dX1_takeBack_25 rfl ?_
      refine V_iconst (q := 27) (v := nI 1) dX1_takeBack_26 rfl rfl ?_
      refine V_isubN (q := 28) dX1_takeBack_27 rfl (by omega) ?_
      refine V_bipush (q := 30) (v := nI 8) dX1_takeBack_28 rfl (by decide) ?_
      refine V_iremN (q := 31) dX1_takeBack_30 rfl (by omega) (by omega) (by omega) ?_
      refine V_putI (q := 34) wX1_24 (X0.1.1 5 _ s_5) rfl dX1_takeBack_31 rfl ?_
      obtain ⟨e, he⟩ : ∃ e, e = sI (sI h 5 4 (nI ((c + 1) - 1))) 5 3 (nI (((t + 8) - 1) % 8)) := ⟨_, rfl⟩
      rw [← he]
      have F : Fm 5 6 h e := by rw [he]; exact ((Fm.rf 5 6 h).setI (by decide)).setI (by decide)
      have FE : FEd h e := by rw [he]; exact ((FEd.rf h).sI (by decide)).sI (by decide)
      have X := F.cx X0 (by decide) (by decide)
      have hN := X.2.2.2.2.1
      have hR := X.2.2.1
      have e53 : hI e 5 3 = nI (slt t 0) := by rw [he, hI_s, if_pos ⟨rfl, rfl⟩]; exact congrArg nI (by unfold slt; omega)
      have e54 : hI e 5 4 = nI c := by rw [he, hI_s, if_neg (by omega), hI_s, if_pos ⟨rfl, rfl⟩]; exact congrArg nI (by omega)
      refine V_aload_n (j := 0) (q := 35) dX1_takeBack_34 rfl rfl ?_
      refine V_getP (q := 38) (r := 6) fX1_9 (X.1.1 5 _ s_5) rfl (X.1.2.1 5 0 _ rfl) dX1_takeBack_35 rfl ?_
      refine V_aload_n (j := 0) (q := 39) dX1_takeBack_38 rfl rfl ?_
      refine V_getI (q := 42) fX1_24 (X.1.1 5 _ s_5) rfl dX1_takeBack_39 rfl ?_
      refine V_rw (y := nI (slt t 0)) e53 ?_
      refine V_iald (q := 43) (X.1.1 6 _ s_6) (by omega) (by decide) dX1_takeBack_42 rfl ?_
      refine V_rw (y := nI 3) (by rw [(F.2.1 6 (by decide)).1]; exact z1) ?_
      refine V_iconst (q := 44) (v := nI 1) dX1_takeBack_43 rfl rfl ?_
      refine V_icmp_neN (tgt := 54) (q := 47) dX1_takeBack_44 rfl rfl (by omega) (by omega) (fun c13 => ?_) (fun c13 => ?_)
      · skip
        refine V_aload_n (j := 0) (q := 55) dX1_takeBack_54 rfl rfl ?_
        refine V_getP (q := 58) (r := 6) fX1_9 (X.1.1 5 _ s_5) rfl (X.1.2.1 5 0 _ rfl) dX1_takeBack_55 rfl ?_
        refine V_aload_n (j := 0) (q := 59) dX1_takeBack_58 rfl rfl ?_
        refine V_getI (q := 62) fX1_24 (X.1.1 5 _ s_5) rfl dX1_takeBack_59 rfl ?_
        refine V_rw (y := nI (slt t 0)) e53 ?_
        refine V_iald (q := 63) (X.1.1 6 _ s_6) (by omega) (by decide) dX1_takeBack_62 rfl ?_
        refine V_rw (y := nI 3) (by rw [(F.2.1 6 (by decide)).1]; exact z1) ?_
        refine V_iconst (q := 64) (v := nI 2) dX1_takeBack_63 rfl rfl ?_
        refine V_icmp_neN (tgt := 83) (q := 67) dX1_takeBack_64 rfl rfl (by omega) (by omega) (fun c14 => ?_) (fun c14 => ?_)
        · skip
          refine V_aload_n (j := 1) (q := 84) dX1_takeBack_83 rfl rfl ?_
          refine V_aload_n (j := 0) (q := 85) dX1_takeBack_84 rfl rfl ?_
          refine V_getP (q := 88) (r := 7) fX1_15 (X.1.1 5 _ s_5) rfl (X.1.2.1 5 1 _ rfl) dX1_takeBack_85 rfl ?_
          refine V_aload_n (j := 0) (q := 89) dX1_takeBack_88 rfl rfl ?_
          refine V_getI (q := 92) fX1_24 (X.1.1 5 _ s_5) rfl dX1_takeBack_89 rfl ?_
          refine V_rw (y := nI (slt t 0)) e53 ?_
          refine V_iald (q := 93) (X.1.1 7 _ s_7) (by omega) (by decide) dX1_takeBack_92 rfl ?_
          refine V_rw (y := nI x) (by rw [(F.2.1 7 (by decide)).1]; exact z2) ?_
          refine V_aload_n (j := 0) (q := 94) dX1_takeBack_93 rfl rfl ?_
          refine V_getP (q := 97) (r := 8) fX1_20 (X.1.1 5 _ s_5) rfl (X.1.2.1 5 2 _ rfl) dX1_takeBack_94 rfl ?_
          refine V_aload_n (j := 0) (q := 98) dX1_takeBack_97 rfl rfl ?_
          refine V_getI (q := 101) fX1_24 (X.1.1 5 _ s_5) rfl dX1_takeBack_98 rfl ?_
          refine V_rw (y := nI (slt t 0)) e53 ?_
          refine V_aald (q := 102) (c := 12) (r := u) (by decide) (X.1.1 8 _ s_8) (by omega) (by decide) (by rw [(F.2.1 8 (by decide)).2.2]; exact z3) dX1_takeBack_101 rfl ?_
          refine V_callV (q := 105) (S := []) kX1_46 (d_insert (x := x) (u := u) X (by omega) (by omega) (FE.in _ _ Nu)) (X.1.1 1 _ s_1) rfl rfl rfl dX1_takeBack_102 rfl (fun r15 h16 p17 => ?_)
          obtain ⟨rfl, G⟩ := p17
          have hC := G.ed FE
          have o6 := G.2.1
          have o8 := G.2.2.2.2.2.1 8 (by decide)
          have hU := CPr_ins (P' := K c) X.2.1 (by omega) (by omega) G G.in (G.in _ _ (FE.in _ _ Nu)) q1 q2 q3 q4
          refine V_vret rfl dX1_takeBack_105 rfl rfl ?_
          refine ⟨rfl, ⟨_, hC.cs X0.1, hU, okK⟩, CH_pop H ?_ ?_ ?_ ?_ ?_ hC.in rfl, hC⟩
          · rw [o6 5 (by decide)]; exact e53
          · rw [o6 5 (by decide)]; exact e54
          · rw [o6 6 (by decide)]; exact (F.2.1 6 (by decide)).1
          · rw [o6 7 (by decide)]; exact (F.2.1 7 (by decide)).1
          · rw [o8]; exact (F.2.1 8 (by decide)).2.2
        · skip
          exact absurd c14 (by decide)
      · skip
        exact absurd c13 (by decide)
    · skip
      exact absurd c12 (by omega)


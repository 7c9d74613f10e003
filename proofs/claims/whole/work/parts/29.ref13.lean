theorem isW_of {l : Nat} (h : l < 2 ^ 31) (hw : isW (nI l) = true) : l = 1 ∨ l = 2 ∨ l = 4 := by
  rw [isW_n h] at hw
  simpa [isWn] using hw
theorem OkF_ac {P : PG} {k r q l t : Nat} (hk : k = 1 ∨ k = 2) (hr : r < pNr P) (hw : l = 1 ∨ l = 2 ∨ l = 4) (ho : q + l ≤ pSz P r) (ht : t < 8) : OkF P (f6 k r q l t 0) := by
  unfold OkF OkI
  show (1 ≤ k ∧ k ≤ 8) ∧ ((k = 1 ∨ k = 2) → r < pNr P ∧ (l = 1 ∨ l = 2 ∨ l = 4) ∧ q + l ≤ pSz P r ∧ t < 8) ∧ (k = 3 → _) ∧ (k = 4 → _) ∧ (k = 5 → _) ∧ (k = 6 → _) ∧ (k = 7 → _) ∧ (k = 8 → _)
  exact ⟨by omega, fun _ => ⟨hr, hw, ho, ht⟩, fun z => absurd z (by omega), fun z => absurd z (by omega), fun z => absurd z (by omega), fun z => absurd z (by omega), fun z => absurd z (by omega), fun z => absurd z (by omega)⟩
theorem OkF_cp {P : PG} {a b c d e : Nat} (ha : a < pNr P) (hc : c < pNr P) (he : 1 ≤ e) (hb : b + e ≤ pSz P a) (hd : d + e ≤ pSz P c) (hx : a = c → b + e ≤ d ∨ d + e ≤ b) : OkF P (f6 3 a b c d e) := by
  unfold OkF OkI
  exact ⟨⟨(by decide : 1 ≤ 3), (by decide : 3 ≤ 8)⟩, fun (z : 3 = 1 ∨ 3 = 2) => absurd z (by decide), fun _ => ⟨ha, hc, he, hb, hd, hx⟩, fun (z : 3 = 4) => absurd z (by decide), fun (z : 3 = 5) => absurd z (by decide), fun (z : 3 = 6) => absurd z (by decide), fun (z : 3 = 7) => absurd z (by decide), fun (z : 3 = 8) => absurd z (by decide)⟩
theorem OkF_es {P : PG} {a : Nat} (ha : a < pNr P) : OkF P (f6 4 a 0 0 0 0) := by
  unfold OkF OkI
  exact ⟨⟨(by decide : 1 ≤ 4), (by decide : 4 ≤ 8)⟩, fun (z : 4 = 1 ∨ 4 = 2) => absurd z (by decide), fun (z : 4 = 3) => absurd z (by decide), fun _ => ha, fun (z : 4 = 5) => absurd z (by decide), fun (z : 4 = 6) => absurd z (by decide), fun (z : 4 = 7) => absurd z (by decide), fun (z : 4 = 8) => absurd z (by decide)⟩
theorem OkF_ct {P : PG} {a b : Nat} (ha : a < 8) : OkF P (f6 5 a b 0 0 0) := by
  unfold OkF OkI
  exact ⟨⟨(by decide : 1 ≤ 5), (by decide : 5 ≤ 8)⟩, fun (z : 5 = 1 ∨ 5 = 2) => absurd z (by decide), fun (z : 5 = 3) => absurd z (by decide), fun (z : 5 = 4) => absurd z (by decide), fun _ => ha, fun (z : 5 = 6) => absurd z (by decide), fun (z : 5 = 7) => absurd z (by decide), fun (z : 5 = 8) => absurd z (by decide)⟩
theorem OkF_ad {P : PG} {a b c : Nat} (ha : a < 8) (hb : b < 8) (hc : c < 8) : OkF P (f6 6 a b c 0 0) := by
  unfold OkF OkI
  exact ⟨⟨(by decide : 1 ≤ 6), (by decide : 6 ≤ 8)⟩, fun (z : 6 = 1 ∨ 6 = 2) => absurd z (by decide), fun (z : 6 = 3) => absurd z (by decide), fun (z : 6 = 4) => absurd z (by decide), fun (z : 6 = 5) => absurd z (by decide), fun _ => ⟨ha, hb, hc⟩, fun (z : 6 = 7) => absurd z (by decide), fun (z : 6 = 8) => absurd z (by decide)⟩
theorem OkF_sk {P : PG} {a b : Nat} (ha : a < 8) (hb : 1 ≤ b) (hc : b ≤ 9) : OkF P (f6 7 a b 0 0 0) := by
  unfold OkF OkI
  exact ⟨⟨(by decide : 1 ≤ 7), (by decide : 7 ≤ 8)⟩, fun (z : 7 = 1 ∨ 7 = 2) => absurd z (by decide), fun (z : 7 = 3) => absurd z (by decide), fun (z : 7 = 4) => absurd z (by decide), fun (z : 7 = 5) => absurd z (by decide), fun (z : 7 = 6) => absurd z (by decide), fun _ => ⟨ha, hb, hc⟩, fun (z : 7 = 8) => absurd z (by decide)⟩
theorem OkF_ou {P : PG} {a : Nat} (ha : a < 8) : OkF P (f6 8 a 0 0 0 0) := by
  unfold OkF OkI
  exact ⟨⟨(by decide : 1 ≤ 8), (by decide : 8 ≤ 8)⟩, fun (z : 8 = 1 ∨ 8 = 2) => absurd z (by decide), fun (z : 8 = 3) => absurd z (by decide), fun (z : 8 = 4) => absurd z (by decide), fun (z : 8 = 5) => absurd z (by decide), fun (z : 8 = 6) => absurd z (by decide), fun (z : 8 = 7) => absurd z (by decide), fun _ => ha⟩
theorem rngB_of2 {P : PG} (ok : OkP P) {x y : Int32} {l : Nat} (hl : l < 2 ^ 31) (h : rngB P x y (nI l) = true) : ∃ r q, r < pNr P ∧ q + l ≤ pSz P r ∧ pSz P r ≤ 16 ∧ x = nI r ∧ y = nI q ∧ nt x = r ∧ nt y = q := by
  obtain ⟨r, q, l2, h1, h2, h3, h4, h5, h6, h7, h8, h9, h10⟩ := rngB_of ok h
  rw [nt_n hl] at h10
  subst h10
  exact ⟨r, q, h1, h3, h4, h5, h6, h8, h9⟩
def vSt (P : PG) (x0 x1 x2 x3 : Int32) : Bool := isW x2 && (rngB P x0 x1 x2 && isG x3)
def vCp (P : PG) (x0 x1 x2 x3 x4 : Int32) : Bool := rngB P x0 x1 x4 && (rngB P x2 x3 x4 && !(decide (x0 = x2) && (decide (nt x1 < nt x3 + nt x4) && decide (nt x3 < nt x1 + nt x4))))
theorem vCp_n {P : PG} {r0 o0 r2 o2 l : Nat} (h1 : rngB P (nI r0) (nI o0) (nI l) = true) (h2 : rngB P (nI r2) (nI o2) (nI l) = true) (a : r0 < 2 ^ 31) (b : o0 < 2 ^ 31) (c : r2 < 2 ^ 31) (d : o2 < 2 ^ 31) (e : l < 2 ^ 31) : vCp P (nI r0) (nI o0) (nI r2) (nI o2) (nI l) = !(decide (r0 = r2) && (decide (o0 < o2 + l) && decide (o2 < o0 + l))) := by
  unfold vCp
  rw [h1, h2, nt_n b, nt_n d, nt_n e]
  simp only [Bool.true_and, nI_eq a c]
def vSk (x0 x1 : Int32) : Bool := isG x0 && decide (1 ≤ x1.toInt ∧ x1.toInt ≤ 9)
def vAd (x0 x1 x2 : Int32) : Bool := isG x0 && (isG x1 && isG x2)
set_option maxHeartbeats 4000000 in
set_option maxRecDepth 100000 in
theorem c_appendStore {g : GX} {h : AH} {m : Nat} {σ : GS} (Z : RH h m σ) {x0 x1 x2 x3 : Int32} : Ct g mX8_appendStore 3 0 0 [.ref m, .int x0, .int x1, .int x2, .int x3] h (fun ρ η => ρ = some (.int (apR σ (vSt σ.1 x0 x1 x2 x3) (f6 1 (nt x0) (nt x1) (nt x2) (nt x3) 0)).1) ∧ FE h η m ∧ RH η m (apR σ (vSt σ.1 x0 x1 x2 x3) (f6 1 (nt x0) (nt x1) (nt x2) (nt x3) 0)).2) := by
  refine Ct_intro (by decide +kernel) (Nat.le_of_ble_eq_true rfl) ?_
  show V g mX8_appendStore _ h 0 0 [(0, .ref m), (1, .int x0), (2, .int x1), (3, .int x2), (4, .int x3)] 0 []
  obtain ⟨P, K, c⟩ := σ
  obtain ⟨G, H⟩ := Z
  have G : RG h m P := G
  have H : HS h m K c := H
  have W := G.1
  have hN := W.2.2.2.2.1
  have hR := W.2.2.1
  have h8 := H.2.1
  refine V_iload_n (j := 3) (q := 1) dX8_appendStore_0 rfl rfl ?_
  refine V_cpS (q := 4) (S := []) (v := .int (bi (isW x2))) kX8_59 c_isWidth rfl rfl rfl dX8_appendStore_1 rfl ?_
  refine V_if_eqB (tgt := 29) (q := 7) dX8_appendStore_4 rfl rfl (fun c1 => ?_) (fun c1 => ?_)
  · skip
    refine V_iconst (q := 30) (v := nI 0) dX8_appendStore_29 rfl rfl ?_
    refine V_rw (y := bi false) rfl ?_
    refine V_istore (q := 32) (L' := [(5, .int (bi false)), (0, .ref m), (1, .int x0), (2, .int x1), (3, .int x2), (4, .int x3)]) dX8_appendStore_30 rfl rfl rfl ?_
    refine V_iload (j := 0) (q := 34) dX8_appendStore_32 rfl rfl ?_
    refine V_if_eqB (tgt := 51) (q := 37) dX8_appendStore_34 rfl rfl (fun _ => ?_) (fun z => absurd z (by decide))
    refine V_iconst (q := 52) (v := (-1)) dX8_appendStore_51 rfl rfl ?_
    refine V_iret rfl dX8_appendStore_52 rfl rfl ?_
    rw [show apR (P, K, c) (vSt P x0 x1 x2 x3) (f6 1 (nt x0) (nt x1) (nt x2) (nt x3) 0) = (-1, P, K, c) from by rw [apR, if_neg (by simp [vSt, c1])]]
    exact ⟨rfl, FE.rf h m, G, H⟩
  · skip
    refine V_aload_n (j := 0) (q := 8) dX8_appendStore_7 rfl rfl ?_
    refine V_iload_n (j := 1) (q := 9) dX8_appendStore_8 rfl rfl ?_
    refine V_iload_n (j := 2) (q := 10) dX8_appendStore_9 rfl rfl ?_
    refine V_iload_n (j := 3) (q := 11) dX8_appendStore_10 rfl rfl ?_
    refine V_cpV (q := 14) (S := []) (v := .int (bi (rngB P x0 x1 x2))) kX8_62 (c_isRange (x := x0) (y := x1) (z := x2) W) (W.1.1 0 _ rfl) rfl rfl rfl dX8_appendStore_11 rfl ?_
    refine V_if_eqB (tgt := 29) (q := 17) dX8_appendStore_14 rfl rfl (fun c3 => ?_) (fun c3 => ?_)
    · skip
      refine V_iconst (q := 30) (v := nI 0) dX8_appendStore_29 rfl rfl ?_
      refine V_rw (y := bi false) rfl ?_
      refine V_istore (q := 32) (L' := [(5, .int (bi false)), (0, .ref m), (1, .int x0), (2, .int x1), (3, .int x2), (4, .int x3)]) dX8_appendStore_30 rfl rfl rfl ?_
      refine V_iload (j := 0) (q := 34) dX8_appendStore_32 rfl rfl ?_
      refine V_if_eqB (tgt := 51) (q := 37) dX8_appendStore_34 rfl rfl (fun _ => ?_) (fun z => absurd z (by decide))
      refine V_iconst (q := 52) (v := (-1)) dX8_appendStore_51 rfl rfl ?_
      refine V_iret rfl dX8_appendStore_52 rfl rfl ?_
      rw [show apR (P, K, c) (vSt P x0 x1 x2 x3) (f6 1 (nt x0) (nt x1) (nt x2) (nt x3) 0) = (-1, P, K, c) from by rw [apR, if_neg (by simp [vSt, c1, c3])]]
      exact ⟨rfl, FE.rf h m, G, H⟩
    · skip
      obtain ⟨r0, o0, l0, hr0, hl0, ho0, hz0, rfl, rfl, rfl, nx0, ny0, nz0⟩ := rngB_of W.2.2 c3
      refine V_iload (j := 4) (q := 19) dX8_appendStore_17 rfl rfl ?_
      refine V_cpS (q := 22) (S := []) (v := .int (bi (isG x3))) kX8_65 c_isRegister rfl rfl rfl dX8_appendStore_19 rfl ?_
      refine V_if_eqB (tgt := 29) (q := 25) dX8_appendStore_22 rfl rfl (fun c5 => ?_) (fun c5 => ?_)
      · skip
        refine V_iconst (q := 30) (v := nI 0) dX8_appendStore_29 rfl rfl ?_
        refine V_rw (y := bi false) rfl ?_
        refine V_istore (q := 32) (L' := [(5, .int (bi false)), (0, .ref m), (1, .int (nI r0)), (2, .int (nI o0)), (3, .int (nI l0)), (4, .int x3)]) dX8_appendStore_30 rfl rfl rfl ?_
        refine V_iload (j := 0) (q := 34) dX8_appendStore_32 rfl rfl ?_
        refine V_if_eqB (tgt := 51) (q := 37) dX8_appendStore_34 rfl rfl (fun _ => ?_) (fun z => absurd z (by decide))
        refine V_iconst (q := 52) (v := (-1)) dX8_appendStore_51 rfl rfl ?_
        refine V_iret rfl dX8_appendStore_52 rfl rfl ?_
        rw [show apR (P, K, c) (vSt P (nI r0) (nI o0) (nI l0) x3) (f6 1 (nt (nI r0)) (nt (nI o0)) (nt (nI l0)) (nt x3) 0) = (-1, P, K, c) from by rw [apR, if_neg (by simp [vSt, c1, c3, c5])]]
        exact ⟨rfl, FE.rf h m, G, H⟩
      · skip
        obtain ⟨t3, ht3, rfl, nt3⟩ := isG_of c5
        refine V_iconst (q := 26) (v := nI 1) dX8_appendStore_25 rfl rfl ?_
        refine V_goto (q := 30) dX8_appendStore_26 rfl ?_
        refine V_rw (y := bi true) rfl ?_
        refine V_istore (q := 32) (L' := [(5, .int (bi true)), (0, .ref m), (1, .int (nI r0)), (2, .int (nI o0)), (3, .int (nI l0)), (4, .int (nI t3))]) dX8_appendStore_30 rfl rfl rfl ?_
        refine V_iload (j := 0) (q := 34) dX8_appendStore_32 rfl rfl ?_
        refine V_if_eqB (tgt := 51) (q := 37) dX8_appendStore_34 rfl rfl (fun z => absurd z (by decide)) (fun _ => ?_)
        refine V_aload_n (j := 1) (q := 38) dX8_appendStore_37 rfl rfl ?_
        refine V_iconst (q := 39) (v := nI 1) dX8_appendStore_38 rfl rfl ?_
        refine V_iload_n (j := 2) (q := 40) dX8_appendStore_39 rfl rfl ?_
        refine V_iload_n (j := 3) (q := 41) dX8_appendStore_40 rfl rfl ?_
        refine V_iload_n (j := 4) (q := 42) dX8_appendStore_41 rfl rfl ?_
        refine V_iload (j := 5) (q := 44) dX8_appendStore_42 rfl rfl ?_
        refine V_iconst (q := 45) (v := nI 0) dX8_appendStore_44 rfl rfl ?_
        refine V_callV (q := 48) (S := []) kX8_68 (c_append (σ := (P, K, c)) (k := 1) (a := r0) (b := o0) (c2 := l0) (d := t3) (e := 0) ⟨G, H⟩ (OkF_ac (Or.inl rfl) hr0 (isW_of (by omega) c1) ho0 ht3)) (W.1.1 0 _ rfl) rfl rfl rfl dX8_appendStore_45 rfl (fun r8 h9 p10 => ?_)
        obtain ⟨rfl, E1, E2⟩ := p10
        refine V_goto (q := 52) dX8_appendStore_48 rfl ?_
        refine V_iret rfl dX8_appendStore_52 rfl rfl ?_
        have hE : apR (P, K, c) (vSt P (nI r0) (nI o0) (nI l0) (nI t3)) (f6 1 (nt (nI r0)) (nt (nI o0)) (nt (nI l0)) (nt (nI t3)) 0) = apR (P, K, c) true (f6 1 r0 o0 l0 t3 0) := by
          rw [show (vSt P (nI r0) (nI o0) (nI l0) (nI t3)) = true from by simp [vSt, c1, c3, c5]]
          rw [nx0, ny0, nz0, nt3]
        rw [hE]
        exact ⟨rfl, E1, E2⟩

set_option maxHeartbeats 4000000 in
set_option maxRecDepth 100000 in
theorem c_appendLoad {g : GX} {h : AH} {m : Nat} {σ : GS} (Z : RH h m σ) {x0 x1 x2 x3 : Int32} : Ct g mX8_appendLoad 3 0 0 [.ref m, .int x0, .int x1, .int x2, .int x3] h (fun ρ η => ρ = some (.int (apR σ (vSt σ.1 x1 x2 x3 x0) (f6 2 (nt x1) (nt x2) (nt x3) (nt x0) 0)).1) ∧ FE h η m ∧ RH η m (apR σ (vSt σ.1 x1 x2 x3 x0) (f6 2 (nt x1) (nt x2) (nt x3) (nt x0) 0)).2) := by
  refine Ct_intro (by decide +kernel) (Nat.le_of_ble_eq_true rfl) ?_
  show V g mX8_appendLoad _ h 0 0 [(0, .ref m), (1, .int x0), (2, .int x1), (3, .int x2), (4, .int x3)] 0 []
  obtain ⟨P, K, c⟩ := σ
  obtain ⟨G, H⟩ := Z
  have G : RG h m P := G
  have H : HS h m K c := H
  have W := G.1
  have hN := W.2.2.2.2.1
  have hR := W.2.2.1
  have h8 := H.2.1
  refine V_iload (j := 4) (q := 2) dX8_appendLoad_0 rfl rfl ?_
  refine V_cpS (q := 5) (S := []) (v := .int (bi (isW x3))) kX8_59 c_isWidth rfl rfl rfl dX8_appendLoad_2 rfl ?_
  refine V_if_eqB (tgt := 30) (q := 8) dX8_appendLoad_5 rfl rfl (fun c1 => ?_) (fun c1 => ?_)
  · skip
    refine V_iconst (q := 31) (v := nI 0) dX8_appendLoad_30 rfl rfl ?_
    refine V_rw (y := bi false) rfl ?_
    refine V_istore (q := 33) (L' := [(5, .int (bi false)), (0, .ref m), (1, .int x0), (2, .int x1), (3, .int x2), (4, .int x3)]) dX8_appendLoad_31 rfl rfl rfl ?_
    refine V_iload (j := 0) (q := 35) dX8_appendLoad_33 rfl rfl ?_
    refine V_if_eqB (tgt := 52) (q := 38) dX8_appendLoad_35 rfl rfl (fun _ => ?_) (fun z => absurd z (by decide))
    refine V_iconst (q := 53) (v := (-1)) dX8_appendLoad_52 rfl rfl ?_
    refine V_iret rfl dX8_appendLoad_53 rfl rfl ?_
    rw [show apR (P, K, c) (vSt P x1 x2 x3 x0) (f6 2 (nt x1) (nt x2) (nt x3) (nt x0) 0) = (-1, P, K, c) from by rw [apR, if_neg (by simp [vSt, c1])]]
    exact ⟨rfl, FE.rf h m, G, H⟩
  · skip
    refine V_aload_n (j := 0) (q := 9) dX8_appendLoad_8 rfl rfl ?_
    refine V_iload_n (j := 2) (q := 10) dX8_appendLoad_9 rfl rfl ?_
    refine V_iload_n (j := 3) (q := 11) dX8_appendLoad_10 rfl rfl ?_
    refine V_iload (j := 4) (q := 13) dX8_appendLoad_11 rfl rfl ?_
    refine V_cpV (q := 16) (S := []) (v := .int (bi (rngB P x1 x2 x3))) kX8_62 (c_isRange (x := x1) (y := x2) (z := x3) W) (W.1.1 0 _ rfl) rfl rfl rfl dX8_appendLoad_13 rfl ?_
    refine V_if_eqB (tgt := 30) (q := 19) dX8_appendLoad_16 rfl rfl (fun c3 => ?_) (fun c3 => ?_)
    · skip
      refine V_iconst (q := 31) (v := nI 0) dX8_appendLoad_30 rfl rfl ?_
      refine V_rw (y := bi false) rfl ?_
      refine V_istore (q := 33) (L' := [(5, .int (bi false)), (0, .ref m), (1, .int x0), (2, .int x1), (3, .int x2), (4, .int x3)]) dX8_appendLoad_31 rfl rfl rfl ?_
      refine V_iload (j := 0) (q := 35) dX8_appendLoad_33 rfl rfl ?_
      refine V_if_eqB (tgt := 52) (q := 38) dX8_appendLoad_35 rfl rfl (fun _ => ?_) (fun z => absurd z (by decide))
      refine V_iconst (q := 53) (v := (-1)) dX8_appendLoad_52 rfl rfl ?_
      refine V_iret rfl dX8_appendLoad_53 rfl rfl ?_
      rw [show apR (P, K, c) (vSt P x1 x2 x3 x0) (f6 2 (nt x1) (nt x2) (nt x3) (nt x0) 0) = (-1, P, K, c) from by rw [apR, if_neg (by simp [vSt, c1, c3])]]
      exact ⟨rfl, FE.rf h m, G, H⟩
    · skip
      obtain ⟨r1, o1, l1, hr1, hl1, ho1, hz1, rfl, rfl, rfl, nx1, ny1, nz1⟩ := rngB_of W.2.2 c3
      refine V_iload_n (j := 1) (q := 20) dX8_appendLoad_19 rfl rfl ?_
      refine V_cpS (q := 23) (S := []) (v := .int (bi (isG x0))) kX8_65 c_isRegister rfl rfl rfl dX8_appendLoad_20 rfl ?_
      refine V_if_eqB (tgt := 30) (q := 26) dX8_appendLoad_23 rfl rfl (fun c5 => ?_) (fun c5 => ?_)
      · skip
        refine V_iconst (q := 31) (v := nI 0) dX8_appendLoad_30 rfl rfl ?_
        refine V_rw (y := bi false) rfl ?_
        refine V_istore (q := 33) (L' := [(5, .int (bi false)), (0, .ref m), (1, .int x0), (2, .int (nI r1)), (3, .int (nI o1)), (4, .int (nI l1))]) dX8_appendLoad_31 rfl rfl rfl ?_
        refine V_iload (j := 0) (q := 35) dX8_appendLoad_33 rfl rfl ?_
        refine V_if_eqB (tgt := 52) (q := 38) dX8_appendLoad_35 rfl rfl (fun _ => ?_) (fun z => absurd z (by decide))
        refine V_iconst (q := 53) (v := (-1)) dX8_appendLoad_52 rfl rfl ?_
        refine V_iret rfl dX8_appendLoad_53 rfl rfl ?_
        rw [show apR (P, K, c) (vSt P (nI r1) (nI o1) (nI l1) x0) (f6 2 (nt (nI r1)) (nt (nI o1)) (nt (nI l1)) (nt x0) 0) = (-1, P, K, c) from by rw [apR, if_neg (by simp [vSt, c1, c3, c5])]]
        exact ⟨rfl, FE.rf h m, G, H⟩
      · skip
        obtain ⟨t0, ht0, rfl, nt0⟩ := isG_of c5
        refine V_iconst (q := 27) (v := nI 1) dX8_appendLoad_26 rfl rfl ?_
        refine V_goto (q := 31) dX8_appendLoad_27 rfl ?_
        refine V_rw (y := bi true) rfl ?_
        refine V_istore (q := 33) (L' := [(5, .int (bi true)), (0, .ref m), (1, .int (nI t0)), (2, .int (nI r1)), (3, .int (nI o1)), (4, .int (nI l1))]) dX8_appendLoad_31 rfl rfl rfl ?_
        refine V_iload (j := 0) (q := 35) dX8_appendLoad_33 rfl rfl ?_
        refine V_if_eqB (tgt := 52) (q := 38) dX8_appendLoad_35 rfl rfl (fun z => absurd z (by decide)) (fun _ => ?_)
        refine V_aload_n (j := 1) (q := 39) dX8_appendLoad_38 rfl rfl ?_
        refine V_iconst (q := 40) (v := nI 2) dX8_appendLoad_39 rfl rfl ?_
        refine V_iload_n (j := 3) (q := 41) dX8_appendLoad_40 rfl rfl ?_
        refine V_iload_n (j := 4) (q := 42) dX8_appendLoad_41 rfl rfl ?_
        refine V_iload (j := 5) (q := 44) dX8_appendLoad_42 rfl rfl ?_
        refine V_iload_n (j := 2) (q := 45) dX8_appendLoad_44 rfl rfl ?_
        refine V_iconst (q := 46) (v := nI 0) dX8_appendLoad_45 rfl rfl ?_
        refine V_callV (q := 49) (S := []) kX8_68 (c_append (σ := (P, K, c)) (k := 2) (a := r1) (b := o1) (c2 := l1) (d := t0) (e := 0) ⟨G, H⟩ (OkF_ac (Or.inr rfl) hr1 (isW_of (by omega) c1) ho1 ht0)) (W.1.1 0 _ rfl) rfl rfl rfl dX8_appendLoad_46 rfl (fun r8 h9 p10 => ?_)
        obtain ⟨rfl, E1, E2⟩ := p10
        refine V_goto (q := 53) dX8_appendLoad_49 rfl ?_
        refine V_iret rfl dX8_appendLoad_53 rfl rfl ?_
        have hE : apR (P, K, c) (vSt P (nI r1) (nI o1) (nI l1) (nI t0)) (f6 2 (nt (nI r1)) (nt (nI o1)) (nt (nI l1)) (nt (nI t0)) 0) = apR (P, K, c) true (f6 2 r1 o1 l1 t0 0) := by
          rw [show (vSt P (nI r1) (nI o1) (nI l1) (nI t0)) = true from by simp [vSt, c1, c3, c5]]
          rw [nx1, ny1, nz1, nt0]
        rw [hE]
        exact ⟨rfl, E1, E2⟩

set_option maxHeartbeats 4000000 in
set_option maxRecDepth 100000 in
theorem c_appendCopy {g : GX} {h : AH} {m : Nat} {σ : GS} (Z : RH h m σ) {x0 x1 x2 x3 x4 : Int32} : Ct g mX8_appendCopy 3 0 0 [.ref m, .int x0, .int x1, .int x2, .int x3, .int x4] h (fun ρ η => ρ = some (.int (apR σ (vCp σ.1 x0 x1 x2 x3 x4) (f6 3 (nt x0) (nt x1) (nt x2) (nt x3) (nt x4))).1) ∧ FE h η m ∧ RH η m (apR σ (vCp σ.1 x0 x1 x2 x3 x4) (f6 3 (nt x0) (nt x1) (nt x2) (nt x3) (nt x4))).2) := by
  refine Ct_intro (by decide +kernel) (Nat.le_of_ble_eq_true rfl) ?_
  show V g mX8_appendCopy _ h 0 0 [(0, .ref m), (1, .int x0), (2, .int x1), (3, .int x2), (4, .int x3), (5, .int x4)] 0 []
  obtain ⟨P, K, c⟩ := σ
  obtain ⟨G, H⟩ := Z
  have G : RG h m P := G
  have H : HS h m K c := H
  have W := G.1
  have hN := W.2.2.2.2.1
  have hR := W.2.2.1
  have h8 := H.2.1
  refine V_aload_n (j := 0) (q := 1) dX8_appendCopy_0 rfl rfl ?_
  refine V_iload_n (j := 1) (q := 2) dX8_appendCopy_1 rfl rfl ?_
  refine V_iload_n (j := 2) (q := 3) dX8_appendCopy_2 rfl rfl ?_
  refine V_iload (j := 5) (q := 5) dX8_appendCopy_3 rfl rfl ?_
  refine V_cpV (q := 8) (S := []) (v := .int (bi (rngB P x0 x1 x4))) kX8_62 (c_isRange (x := x0) (y := x1) (z := x4) W) (W.1.1 0 _ rfl) rfl rfl rfl dX8_appendCopy_5 rfl ?_
  refine V_if_eqB (tgt := 23) (q := 11) dX8_appendCopy_8 rfl rfl (fun c1 => ?_) (fun c1 => ?_)
  · skip
    refine V_iconst (q := 24) (v := (-1)) dX8_appendCopy_23 rfl rfl ?_
    refine V_iret rfl dX8_appendCopy_24 rfl rfl ?_
    rw [show apR (P, K, c) (vCp P x0 x1 x2 x3 x4) (f6 3 (nt x0) (nt x1) (nt x2) (nt x3) (nt x4)) = (-1, P, K, c) from by rw [apR, if_neg (by simp [vCp, c1])]]
    exact ⟨rfl, FE.rf h m, G, H⟩
  · skip
    obtain ⟨r0, o0, l0, hr0, hl0, ho0, hz0, rfl, rfl, rfl, nx0, ny0, nz0⟩ := rngB_of W.2.2 c1
    refine V_aload_n (j := 0) (q := 12) dX8_appendCopy_11 rfl rfl ?_
    refine V_iload_n (j := 3) (q := 13) dX8_appendCopy_12 rfl rfl ?_
    refine V_iload (j := 4) (q := 15) dX8_appendCopy_13 rfl rfl ?_
    refine V_iload (j := 5) (q := 17) dX8_appendCopy_15 rfl rfl ?_
    refine V_cpV (q := 20) (S := []) (v := .int (bi (rngB P x2 x3 (nI l0)))) kX8_62 (c_isRange (x := x2) (y := x3) (z := nI l0) W) (W.1.1 0 _ rfl) rfl rfl rfl dX8_appendCopy_17 rfl ?_
    refine V_if_neB (tgt := 25) (q := 23) dX8_appendCopy_20 rfl rfl (fun c2 => ?_) (fun c2 => ?_)
    · skip
      obtain ⟨r2, o2, hr2, ho2, hz2, rfl, rfl, nx2, ny2⟩ := rngB_of2 W.2.2 (by omega) c2
      refine V_iload_n (j := 1) (q := 26) dX8_appendCopy_25 rfl rfl ?_
      refine V_iload_n (j := 3) (q := 27) dX8_appendCopy_26 rfl rfl ?_
      refine V_icmp_neN (tgt := 50) (q := 30) dX8_appendCopy_27 rfl rfl (by omega) (by omega) (fun c3 => ?_) (fun c3 => ?_)
      · skip
        refine V_aload_n (j := 0) (q := 51) dX8_appendCopy_50 rfl rfl ?_
        refine V_iconst (q := 52) (v := nI 3) dX8_appendCopy_51 rfl rfl ?_
        refine V_iload_n (j := 1) (q := 53) dX8_appendCopy_52 rfl rfl ?_
        refine V_iload_n (j := 2) (q := 54) dX8_appendCopy_53 rfl rfl ?_
        refine V_iload_n (j := 3) (q := 55) dX8_appendCopy_54 rfl rfl ?_
        refine V_iload (j := 4) (q := 57) dX8_appendCopy_55 rfl rfl ?_
        refine V_iload (j := 5) (q := 59) dX8_appendCopy_57 rfl rfl ?_
        refine V_callV (q := 62) (S := []) kX8_68 (c_append (σ := (P, K, c)) (k := 3) (a := r0) (b := o0) (c2 := r2) (d := o2) (e := l0) ⟨G, H⟩ (OkF_cp hr0 hr2 hl0 ho0 ho2 (by omega))) (W.1.1 0 _ rfl) rfl rfl rfl dX8_appendCopy_59 rfl (fun r4 h5 p6 => ?_)
        obtain ⟨rfl, E1, E2⟩ := p6
        refine V_iret rfl dX8_appendCopy_62 rfl rfl ?_
        have hE : apR (P, K, c) (vCp P (nI r0) (nI o0) (nI r2) (nI o2) (nI l0)) (f6 3 (nt (nI r0)) (nt (nI o0)) (nt (nI r2)) (nt (nI o2)) (nt (nI l0))) = apR (P, K, c) true (f6 3 r0 o0 r2 o2 l0) := by
          rw [show (vCp P (nI r0) (nI o0) (nI r2) (nI o2) (nI l0)) = true from by rw [vCp_n c1 c2 (by omega) (by omega) (by omega) (by omega) (by omega)]; simp; omega]
          rw [nx0, ny0, nz0, nx2, ny2]
        rw [hE]
        exact ⟨rfl, E1, E2⟩
      · skip
        refine V_iload_n (j := 2) (q := 31) dX8_appendCopy_30 rfl rfl ?_
        refine V_iload (j := 4) (q := 33) dX8_appendCopy_31 rfl rfl ?_
        refine V_iload (j := 5) (q := 35) dX8_appendCopy_33 rfl rfl ?_
        refine V_iaddN (q := 36) dX8_appendCopy_35 rfl ?_
        refine V_icmp_geN (tgt := 50) (q := 39) dX8_appendCopy_36 rfl rfl (by omega) (by omega) (fun c7 => ?_) (fun c7 => ?_)
        · skip
          refine V_aload_n (j := 0) (q := 51) dX8_appendCopy_50 rfl rfl ?_
          refine V_iconst (q := 52) (v := nI 3) dX8_appendCopy_51 rfl rfl ?_
          refine V_iload_n (j := 1) (q := 53) dX8_appendCopy_52 rfl rfl ?_
          refine V_iload_n (j := 2) (q := 54) dX8_appendCopy_53 rfl rfl ?_
          refine V_iload_n (j := 3) (q := 55) dX8_appendCopy_54 rfl rfl ?_
          refine V_iload (j := 4) (q := 57) dX8_appendCopy_55 rfl rfl ?_
          refine V_iload (j := 5) (q := 59) dX8_appendCopy_57 rfl rfl ?_
          refine V_callV (q := 62) (S := []) kX8_68 (c_append (σ := (P, K, c)) (k := 3) (a := r0) (b := o0) (c2 := r2) (d := o2) (e := l0) ⟨G, H⟩ (OkF_cp hr0 hr2 hl0 ho0 ho2 (by omega))) (W.1.1 0 _ rfl) rfl rfl rfl dX8_appendCopy_59 rfl (fun r8 h9 p10 => ?_)
          obtain ⟨rfl, E1, E2⟩ := p10
          refine V_iret rfl dX8_appendCopy_62 rfl rfl ?_
          have hE : apR (P, K, c) (vCp P (nI r0) (nI o0) (nI r2) (nI o2) (nI l0)) (f6 3 (nt (nI r0)) (nt (nI o0)) (nt (nI r2)) (nt (nI o2)) (nt (nI l0))) = apR (P, K, c) true (f6 3 r0 o0 r2 o2 l0) := by
            rw [show (vCp P (nI r0) (nI o0) (nI r2) (nI o2) (nI l0)) = true from by rw [vCp_n c1 c2 (by omega) (by omega) (by omega) (by omega) (by omega)]; simp; omega]
            rw [nx0, ny0, nz0, nx2, ny2]
          rw [hE]
          exact ⟨rfl, E1, E2⟩
        · skip
          refine V_iload (j := 4) (q := 41) dX8_appendCopy_39 rfl rfl ?_
          refine V_iload_n (j := 2) (q := 42) dX8_appendCopy_41 rfl rfl ?_
          refine V_iload (j := 5) (q := 44) dX8_appendCopy_42 rfl rfl ?_
          refine V_iaddN (q := 45) dX8_appendCopy_44 rfl ?_
          refine V_icmp_geN (tgt := 50) (q := 48) dX8_appendCopy_45 rfl rfl (by omega) (by omega) (fun c11 => ?_) (fun c11 => ?_)
          · skip
            refine V_aload_n (j := 0) (q := 51) dX8_appendCopy_50 rfl rfl ?_
            refine V_iconst (q := 52) (v := nI 3) dX8_appendCopy_51 rfl rfl ?_
            refine V_iload_n (j := 1) (q := 53) dX8_appendCopy_52 rfl rfl ?_
            refine V_iload_n (j := 2) (q := 54) dX8_appendCopy_53 rfl rfl ?_
            refine V_iload_n (j := 3) (q := 55) dX8_appendCopy_54 rfl rfl ?_
            refine V_iload (j := 4) (q := 57) dX8_appendCopy_55 rfl rfl ?_
            refine V_iload (j := 5) (q := 59) dX8_appendCopy_57 rfl rfl ?_
            refine V_callV (q := 62) (S := []) kX8_68 (c_append (σ := (P, K, c)) (k := 3) (a := r0) (b := o0) (c2 := r2) (d := o2) (e := l0) ⟨G, H⟩ (OkF_cp hr0 hr2 hl0 ho0 ho2 (by omega))) (W.1.1 0 _ rfl) rfl rfl rfl dX8_appendCopy_59 rfl (fun r12 h13 p14 => ?_)
            obtain ⟨rfl, E1, E2⟩ := p14
            refine V_iret rfl dX8_appendCopy_62 rfl rfl ?_
            have hE : apR (P, K, c) (vCp P (nI r0) (nI o0) (nI r2) (nI o2) (nI l0)) (f6 3 (nt (nI r0)) (nt (nI o0)) (nt (nI r2)) (nt (nI o2)) (nt (nI l0))) = apR (P, K, c) true (f6 3 r0 o0 r2 o2 l0) := by
              rw [show (vCp P (nI r0) (nI o0) (nI r2) (nI o2) (nI l0)) = true from by rw [vCp_n c1 c2 (by omega) (by omega) (by omega) (by omega) (by omega)]; simp; omega]
              rw [nx0, ny0, nz0, nx2, ny2]
            rw [hE]
            exact ⟨rfl, E1, E2⟩
          · skip
            refine V_iconst (q := 49) (v := (-1)) dX8_appendCopy_48 rfl rfl ?_
            refine V_iret rfl dX8_appendCopy_49 rfl rfl ?_
            rw [show apR (P, K, c) (vCp P (nI r0) (nI o0) (nI r2) (nI o2) (nI l0)) (f6 3 (nt (nI r0)) (nt (nI o0)) (nt (nI r2)) (nt (nI o2)) (nt (nI l0))) = (-1, P, K, c) from by rw [apR, if_neg (by rw [vCp_n c1 c2 (by omega) (by omega) (by omega) (by omega) (by omega)]; simp; omega)]]
            exact ⟨rfl, FE.rf h m, G, H⟩
    · skip
      refine V_iconst (q := 24) (v := (-1)) dX8_appendCopy_23 rfl rfl ?_
      refine V_iret rfl dX8_appendCopy_24 rfl rfl ?_
      rw [show apR (P, K, c) (vCp P (nI r0) (nI o0) x2 x3 (nI l0)) (f6 3 (nt (nI r0)) (nt (nI o0)) (nt x2) (nt x3) (nt (nI l0))) = (-1, P, K, c) from by rw [apR, if_neg (by simp [vCp, c1, c2])]]
      exact ⟨rfl, FE.rf h m, G, H⟩

set_option maxHeartbeats 4000000 in
set_option maxRecDepth 100000 in
theorem c_appendEscape {g : GX} {h : AH} {m : Nat} {σ : GS} (Z : RH h m σ) {x0 : Int32} : Ct g mX8_appendEscape 3 0 0 [.ref m, .int x0] h (fun ρ η => ρ = some (.int (apR σ (isR σ.1 x0) (f6 4 (nt x0) 0 0 0 0)).1) ∧ FE h η m ∧ RH η m (apR σ (isR σ.1 x0) (f6 4 (nt x0) 0 0 0 0)).2) := by
  refine Ct_intro (by decide +kernel) (Nat.le_of_ble_eq_true rfl) ?_
  show V g mX8_appendEscape _ h 0 0 [(0, .ref m), (1, .int x0)] 0 []
  obtain ⟨P, K, c⟩ := σ
  obtain ⟨G, H⟩ := Z
  have G : RG h m P := G
  have H : HS h m K c := H
  have W := G.1
  have hN := W.2.2.2.2.1
  have hR := W.2.2.1
  have h8 := H.2.1
  refine V_aload_n (j := 0) (q := 1) dX8_appendEscape_0 rfl rfl ?_
  refine V_iload_n (j := 1) (q := 2) dX8_appendEscape_1 rfl rfl ?_
  refine V_cpV (q := 5) (S := []) (v := .int (bi (isR P x0))) kX8_52 (c_isRecord W) (W.1.1 0 _ rfl) rfl rfl rfl dX8_appendEscape_2 rfl ?_
  refine V_if_eqB (tgt := 21) (q := 8) dX8_appendEscape_5 rfl rfl (fun c1 => ?_) (fun c1 => ?_)
  · skip
    refine V_iconst (q := 22) (v := (-1)) dX8_appendEscape_21 rfl rfl ?_
    refine V_iret rfl dX8_appendEscape_22 rfl rfl ?_
    rw [show apR (P, K, c) (isR P x0) (f6 4 (nt x0) 0 0 0 0) = (-1, P, K, c) from by rw [apR, if_neg (by simp [c1])]]
    exact ⟨rfl, FE.rf h m, G, H⟩
  · skip
    obtain ⟨r0, hr0, rfl⟩ := isR_of c1
    have nx0 := nt_n (n := r0) (by omega)
    refine V_aload_n (j := 0) (q := 9) dX8_appendEscape_8 rfl rfl ?_
    refine V_iconst (q := 10) (v := nI 4) dX8_appendEscape_9 rfl rfl ?_
    refine V_iload_n (j := 1) (q := 11) dX8_appendEscape_10 rfl rfl ?_
    refine V_iconst (q := 12) (v := nI 0) dX8_appendEscape_11 rfl rfl ?_
    refine V_iconst (q := 13) (v := nI 0) dX8_appendEscape_12 rfl rfl ?_
    refine V_iconst (q := 14) (v := nI 0) dX8_appendEscape_13 rfl rfl ?_
    refine V_iconst (q := 15) (v := nI 0) dX8_appendEscape_14 rfl rfl ?_
    refine V_callV (q := 18) (S := []) kX8_68 (c_append (σ := (P, K, c)) (k := 4) (a := r0) (b := 0) (c2 := 0) (d := 0) (e := 0) ⟨G, H⟩ (OkF_es hr0)) (W.1.1 0 _ rfl) rfl rfl rfl dX8_appendEscape_15 rfl (fun r2 h3 p4 => ?_)
    obtain ⟨rfl, E1, E2⟩ := p4
    refine V_goto (q := 22) dX8_appendEscape_18 rfl ?_
    refine V_iret rfl dX8_appendEscape_22 rfl rfl ?_
    have hE : apR (P, K, c) (isR P (nI r0)) (f6 4 (nt (nI r0)) 0 0 0 0) = apR (P, K, c) true (f6 4 r0 0 0 0 0) := by
      rw [show (isR P (nI r0)) = true from by simp [c1]]
      rw [nx0]
    rw [hE]
    exact ⟨rfl, E1, E2⟩

set_option maxHeartbeats 4000000 in
set_option maxRecDepth 100000 in
theorem c_appendConstant {g : GX} {h : AH} {m : Nat} {σ : GS} (Z : RH h m σ) {x0 x1 : Int32} : Ct g mX8_appendConstant 3 0 0 [.ref m, .int x0, .int x1] h (fun ρ η => ρ = some (.int (apR σ (isG x0) (f6 5 (nt x0) (vN x1) 0 0 0)).1) ∧ FE h η m ∧ RH η m (apR σ (isG x0) (f6 5 (nt x0) (vN x1) 0 0 0)).2) := by
  refine Ct_intro (by decide +kernel) (Nat.le_of_ble_eq_true rfl) ?_
  show V g mX8_appendConstant _ h 0 0 [(0, .ref m), (1, .int x0), (2, .int x1)] 0 []
  obtain ⟨P, K, c⟩ := σ
  obtain ⟨G, H⟩ := Z
  have G : RG h m P := G
  have H : HS h m K c := H
  have W := G.1
  have hN := W.2.2.2.2.1
  have hR := W.2.2.1
  have h8 := H.2.1
  refine V_iload_n (j := 1) (q := 1) dX8_appendConstant_0 rfl rfl ?_
  refine V_cpS (q := 4) (S := []) (v := .int (bi (isG x0))) kX8_65 c_isRegister rfl rfl rfl dX8_appendConstant_1 rfl ?_
  refine V_if_eqB (tgt := 20) (q := 7) dX8_appendConstant_4 rfl rfl (fun c1 => ?_) (fun c1 => ?_)
  · skip
    refine V_iconst (q := 21) (v := (-1)) dX8_appendConstant_20 rfl rfl ?_
    refine V_iret rfl dX8_appendConstant_21 rfl rfl ?_
    rw [show apR (P, K, c) (isG x0) (f6 5 (nt x0) (vN x1) 0 0 0) = (-1, P, K, c) from by rw [apR, if_neg (by simp [c1])]]
    exact ⟨rfl, FE.rf h m, G, H⟩
  · skip
    obtain ⟨t0, ht0, rfl, nt0⟩ := isG_of c1
    refine V_aload_n (j := 0) (q := 8) dX8_appendConstant_7 rfl rfl ?_
    refine V_iconst (q := 9) (v := nI 5) dX8_appendConstant_8 rfl rfl ?_
    refine V_iload_n (j := 1) (q := 10) dX8_appendConstant_9 rfl rfl ?_
    refine V_iload_n (j := 2) (q := 11) dX8_appendConstant_10 rfl rfl ?_
    refine V_rw (y := nI (vN x1)) ((nI_vN x1).symm) ?_
    refine V_iconst (q := 12) (v := nI 0) dX8_appendConstant_11 rfl rfl ?_
    refine V_iconst (q := 13) (v := nI 0) dX8_appendConstant_12 rfl rfl ?_
    refine V_iconst (q := 14) (v := nI 0) dX8_appendConstant_13 rfl rfl ?_
    refine V_callV (q := 17) (S := []) kX8_68 (c_append (σ := (P, K, c)) (k := 5) (a := t0) (b := vN x1) (c2 := 0) (d := 0) (e := 0) ⟨G, H⟩ (OkF_ct ht0)) (W.1.1 0 _ rfl) rfl rfl rfl dX8_appendConstant_14 rfl (fun r2 h3 p4 => ?_)
    obtain ⟨rfl, E1, E2⟩ := p4
    refine V_goto (q := 21) dX8_appendConstant_17 rfl ?_
    refine V_iret rfl dX8_appendConstant_21 rfl rfl ?_
    have hE : apR (P, K, c) (isG (nI t0)) (f6 5 (nt (nI t0)) (vN x1) 0 0 0) = apR (P, K, c) true (f6 5 t0 (vN x1) 0 0 0) := by
      rw [show (isG (nI t0)) = true from by simp [c1]]
      rw [nt0]
    rw [hE]
    exact ⟨rfl, E1, E2⟩

set_option maxHeartbeats 4000000 in
set_option maxRecDepth 100000 in
theorem c_appendAdd {g : GX} {h : AH} {m : Nat} {σ : GS} (Z : RH h m σ) {x0 x1 x2 : Int32} : Ct g mX8_appendAdd 3 0 0 [.ref m, .int x0, .int x1, .int x2] h (fun ρ η => ρ = some (.int (apR σ (vAd x0 x1 x2) (f6 6 (nt x0) (nt x1) (nt x2) 0 0)).1) ∧ FE h η m ∧ RH η m (apR σ (vAd x0 x1 x2) (f6 6 (nt x0) (nt x1) (nt x2) 0 0)).2) := by
  refine Ct_intro (by decide +kernel) (Nat.le_of_ble_eq_true rfl) ?_
  show V g mX8_appendAdd _ h 0 0 [(0, .ref m), (1, .int x0), (2, .int x1), (3, .int x2)] 0 []
  obtain ⟨P, K, c⟩ := σ
  obtain ⟨G, H⟩ := Z
  have G : RG h m P := G
  have H : HS h m K c := H
  have W := G.1
  have hN := W.2.2.2.2.1
  have hR := W.2.2.1
  have h8 := H.2.1
  refine V_iload_n (j := 1) (q := 1) dX8_appendAdd_0 rfl rfl ?_
  refine V_cpS (q := 4) (S := []) (v := .int (bi (isG x0))) kX8_65 c_isRegister rfl rfl rfl dX8_appendAdd_1 rfl ?_
  refine V_if_eqB (tgt := 35) (q := 7) dX8_appendAdd_4 rfl rfl (fun c1 => ?_) (fun c1 => ?_)
  · skip
    refine V_iconst (q := 36) (v := (-1)) dX8_appendAdd_35 rfl rfl ?_
    refine V_iret rfl dX8_appendAdd_36 rfl rfl ?_
    rw [show apR (P, K, c) (vAd x0 x1 x2) (f6 6 (nt x0) (nt x1) (nt x2) 0 0) = (-1, P, K, c) from by rw [apR, if_neg (by simp [vAd, c1])]]
    exact ⟨rfl, FE.rf h m, G, H⟩
  · skip
    obtain ⟨t0, ht0, rfl, nt0⟩ := isG_of c1
    refine V_iload_n (j := 2) (q := 8) dX8_appendAdd_7 rfl rfl ?_
    refine V_cpS (q := 11) (S := []) (v := .int (bi (isG x1))) kX8_65 c_isRegister rfl rfl rfl dX8_appendAdd_8 rfl ?_
    refine V_if_eqB (tgt := 35) (q := 14) dX8_appendAdd_11 rfl rfl (fun c2 => ?_) (fun c2 => ?_)
    · skip
      refine V_iconst (q := 36) (v := (-1)) dX8_appendAdd_35 rfl rfl ?_
      refine V_iret rfl dX8_appendAdd_36 rfl rfl ?_
      rw [show apR (P, K, c) (vAd (nI t0) x1 x2) (f6 6 (nt (nI t0)) (nt x1) (nt x2) 0 0) = (-1, P, K, c) from by rw [apR, if_neg (by simp [vAd, c1, c2])]]
      exact ⟨rfl, FE.rf h m, G, H⟩
    · skip
      obtain ⟨t1, ht1, rfl, nt1⟩ := isG_of c2
      refine V_iload_n (j := 3) (q := 15) dX8_appendAdd_14 rfl rfl ?_
      refine V_cpS (q := 18) (S := []) (v := .int (bi (isG x2))) kX8_65 c_isRegister rfl rfl rfl dX8_appendAdd_15 rfl ?_
      refine V_if_eqB (tgt := 35) (q := 21) dX8_appendAdd_18 rfl rfl (fun c3 => ?_) (fun c3 => ?_)
      · skip
        refine V_iconst (q := 36) (v := (-1)) dX8_appendAdd_35 rfl rfl ?_
        refine V_iret rfl dX8_appendAdd_36 rfl rfl ?_
        rw [show apR (P, K, c) (vAd (nI t0) (nI t1) x2) (f6 6 (nt (nI t0)) (nt (nI t1)) (nt x2) 0 0) = (-1, P, K, c) from by rw [apR, if_neg (by simp [vAd, c1, c2, c3])]]
        exact ⟨rfl, FE.rf h m, G, H⟩
      · skip
        obtain ⟨t2, ht2, rfl, nt2⟩ := isG_of c3
        refine V_aload_n (j := 0) (q := 22) dX8_appendAdd_21 rfl rfl ?_
        refine V_bipush (q := 24) (v := nI 6) dX8_appendAdd_22 rfl (by decide) ?_
        refine V_iload_n (j := 1) (q := 25) dX8_appendAdd_24 rfl rfl ?_
        refine V_iload_n (j := 2) (q := 26) dX8_appendAdd_25 rfl rfl ?_
        refine V_iload_n (j := 3) (q := 27) dX8_appendAdd_26 rfl rfl ?_
        refine V_iconst (q := 28) (v := nI 0) dX8_appendAdd_27 rfl rfl ?_
        refine V_iconst (q := 29) (v := nI 0) dX8_appendAdd_28 rfl rfl ?_
        refine V_callV (q := 32) (S := []) kX8_68 (c_append (σ := (P, K, c)) (k := 6) (a := t0) (b := t1) (c2 := t2) (d := 0) (e := 0) ⟨G, H⟩ (OkF_ad ht0 ht1 ht2)) (W.1.1 0 _ rfl) rfl rfl rfl dX8_appendAdd_29 rfl (fun r4 h5 p6 => ?_)
        obtain ⟨rfl, E1, E2⟩ := p6
        refine V_goto (q := 36) dX8_appendAdd_32 rfl ?_
        refine V_iret rfl dX8_appendAdd_36 rfl rfl ?_
        have hE : apR (P, K, c) (vAd (nI t0) (nI t1) (nI t2)) (f6 6 (nt (nI t0)) (nt (nI t1)) (nt (nI t2)) 0 0) = apR (P, K, c) true (f6 6 t0 t1 t2 0 0) := by
          rw [show (vAd (nI t0) (nI t1) (nI t2)) = true from by simp [vAd, c1, c2, c3]]
          rw [nt0, nt1, nt2]
        rw [hE]
        exact ⟨rfl, E1, E2⟩

set_option maxHeartbeats 4000000 in
set_option maxRecDepth 100000 in
theorem c_appendSkip {g : GX} {h : AH} {m : Nat} {σ : GS} (Z : RH h m σ) {x0 x1 : Int32} : Ct g mX8_appendSkip 3 0 0 [.ref m, .int x0, .int x1] h (fun ρ η => ρ = some (.int (apR σ (vSk x0 x1) (f6 7 (nt x0) (nt x1) 0 0 0)).1) ∧ FE h η m ∧ RH η m (apR σ (vSk x0 x1) (f6 7 (nt x0) (nt x1) 0 0 0)).2) := by
  refine Ct_intro (by decide +kernel) (Nat.le_of_ble_eq_true rfl) ?_
  show V g mX8_appendSkip _ h 0 0 [(0, .ref m), (1, .int x0), (2, .int x1)] 0 []
  obtain ⟨P, K, c⟩ := σ
  obtain ⟨G, H⟩ := Z
  have G : RG h m P := G
  have H : HS h m K c := H
  have W := G.1
  have hN := W.2.2.2.2.1
  have hR := W.2.2.1
  have h8 := H.2.1
  refine V_iload_n (j := 1) (q := 1) dX8_appendSkip_0 rfl rfl ?_
  refine V_cpS (q := 4) (S := []) (v := .int (bi (isG x0))) kX8_65 c_isRegister rfl rfl rfl dX8_appendSkip_1 rfl ?_
  refine V_if_eqB (tgt := 31) (q := 7) dX8_appendSkip_4 rfl rfl (fun c1 => ?_) (fun c1 => ?_)
  · skip
    refine V_iconst (q := 32) (v := (-1)) dX8_appendSkip_31 rfl rfl ?_
    refine V_iret rfl dX8_appendSkip_32 rfl rfl ?_
    rw [show apR (P, K, c) (vSk x0 x1) (f6 7 (nt x0) (nt x1) 0 0 0) = (-1, P, K, c) from by rw [apR, if_neg (by simp [vSk, c1]; try omega)]]
    exact ⟨rfl, FE.rf h m, G, H⟩
  · skip
    obtain ⟨t0, ht0, rfl, nt0⟩ := isG_of c1
    refine V_iload_n (j := 2) (q := 8) dX8_appendSkip_7 rfl rfl ?_
    refine V_iconst (q := 9) (v := nI 1) dX8_appendSkip_8 rfl rfl ?_
    refine V_bipush (q := 11) (v := nI 9) dX8_appendSkip_9 rfl (by decide) ?_
    refine V_cpS (q := 14) (S := []) (v := .int (bi (inB x1 (nI 1) (nI 9)))) kX8_48 c_in rfl rfl rfl dX8_appendSkip_11 rfl ?_
    refine V_if_eqB (tgt := 31) (q := 17) dX8_appendSkip_14 rfl rfl (fun c2 => ?_) (fun c2 => ?_)
    · skip
      simp only [inB, ← Bool.decide_and, decide_eq_false_iff_not, i_n (show 1 < 2 ^ 31 by decide), i_n (show 9 < 2 ^ 31 by decide)] at c2
      refine V_iconst (q := 32) (v := (-1)) dX8_appendSkip_31 rfl rfl ?_
      refine V_iret rfl dX8_appendSkip_32 rfl rfl ?_
      rw [show apR (P, K, c) (vSk (nI t0) x1) (f6 7 (nt (nI t0)) (nt x1) 0 0 0) = (-1, P, K, c) from by rw [apR, if_neg (by simp [vSk, c1, c2]; try omega)]]
      exact ⟨rfl, FE.rf h m, G, H⟩
    · skip
      simp only [inB, ← Bool.decide_and, decide_eq_true_eq, i_n (show 1 < 2 ^ 31 by decide), i_n (show 9 < 2 ^ 31 by decide)] at c2
      obtain ⟨z1, hz, rfl⟩ := i_of (x := x1) (n := 10) (by omega) (by omega)
      have iz := i_n (n := z1) (by omega)
      rw [iz] at c2
      have nz1 := nt_n (n := z1) (by omega)
      refine V_aload_n (j := 0) (q := 18) dX8_appendSkip_17 rfl rfl ?_
      refine V_bipush (q := 20) (v := nI 7) dX8_appendSkip_18 rfl (by decide) ?_
      refine V_iload_n (j := 1) (q := 21) dX8_appendSkip_20 rfl rfl ?_
      refine V_iload_n (j := 2) (q := 22) dX8_appendSkip_21 rfl rfl ?_
      refine V_iconst (q := 23) (v := nI 0) dX8_appendSkip_22 rfl rfl ?_
      refine V_iconst (q := 24) (v := nI 0) dX8_appendSkip_23 rfl rfl ?_
      refine V_iconst (q := 25) (v := nI 0) dX8_appendSkip_24 rfl rfl ?_
      refine V_callV (q := 28) (S := []) kX8_68 (c_append (σ := (P, K, c)) (k := 7) (a := t0) (b := z1) (c2 := 0) (d := 0) (e := 0) ⟨G, H⟩ (OkF_sk ht0 (by omega) (by omega))) (W.1.1 0 _ rfl) rfl rfl rfl dX8_appendSkip_25 rfl (fun r3 h4 p5 => ?_)
      obtain ⟨rfl, E1, E2⟩ := p5
      refine V_goto (q := 32) dX8_appendSkip_28 rfl ?_
      refine V_iret rfl dX8_appendSkip_32 rfl rfl ?_
      have hE : apR (P, K, c) (vSk (nI t0) (nI z1)) (f6 7 (nt (nI t0)) (nt (nI z1)) 0 0 0) = apR (P, K, c) true (f6 7 t0 z1 0 0 0) := by
        rw [show (vSk (nI t0) (nI z1)) = true from by simp [vSk, c1, c2]; rw [iz]; omega]
        rw [nt0, nz1]
      rw [hE]
      exact ⟨rfl, E1, E2⟩

set_option maxHeartbeats 4000000 in
set_option maxRecDepth 100000 in
theorem c_appendOutput {g : GX} {h : AH} {m : Nat} {σ : GS} (Z : RH h m σ) {x0 : Int32} : Ct g mX8_appendOutput 3 0 0 [.ref m, .int x0] h (fun ρ η => ρ = some (.int (apR σ (isG x0) (f6 8 (nt x0) 0 0 0 0)).1) ∧ FE h η m ∧ RH η m (apR σ (isG x0) (f6 8 (nt x0) 0 0 0 0)).2) := by
  refine Ct_intro (by decide +kernel) (Nat.le_of_ble_eq_true rfl) ?_
  show V g mX8_appendOutput _ h 0 0 [(0, .ref m), (1, .int x0)] 0 []
  obtain ⟨P, K, c⟩ := σ
  obtain ⟨G, H⟩ := Z
  have G : RG h m P := G
  have H : HS h m K c := H
  have W := G.1
  have hN := W.2.2.2.2.1
  have hR := W.2.2.1
  have h8 := H.2.1
  refine V_iload_n (j := 1) (q := 1) dX8_appendOutput_0 rfl rfl ?_
  refine V_cpS (q := 4) (S := []) (v := .int (bi (isG x0))) kX8_65 c_isRegister rfl rfl rfl dX8_appendOutput_1 rfl ?_
  refine V_if_eqB (tgt := 21) (q := 7) dX8_appendOutput_4 rfl rfl (fun c1 => ?_) (fun c1 => ?_)
  · skip
    refine V_iconst (q := 22) (v := (-1)) dX8_appendOutput_21 rfl rfl ?_
    refine V_iret rfl dX8_appendOutput_22 rfl rfl ?_
    rw [show apR (P, K, c) (isG x0) (f6 8 (nt x0) 0 0 0 0) = (-1, P, K, c) from by rw [apR, if_neg (by simp [c1])]]
    exact ⟨rfl, FE.rf h m, G, H⟩
  · skip
    obtain ⟨t0, ht0, rfl, nt0⟩ := isG_of c1
    refine V_aload_n (j := 0) (q := 8) dX8_appendOutput_7 rfl rfl ?_
    refine V_bipush (q := 10) (v := nI 8) dX8_appendOutput_8 rfl (by decide) ?_
    refine V_iload_n (j := 1) (q := 11) dX8_appendOutput_10 rfl rfl ?_
    refine V_iconst (q := 12) (v := nI 0) dX8_appendOutput_11 rfl rfl ?_
    refine V_iconst (q := 13) (v := nI 0) dX8_appendOutput_12 rfl rfl ?_
    refine V_iconst (q := 14) (v := nI 0) dX8_appendOutput_13 rfl rfl ?_
    refine V_iconst (q := 15) (v := nI 0) dX8_appendOutput_14 rfl rfl ?_
    refine V_callV (q := 18) (S := []) kX8_68 (c_append (σ := (P, K, c)) (k := 8) (a := t0) (b := 0) (c2 := 0) (d := 0) (e := 0) ⟨G, H⟩ (OkF_ou ht0)) (W.1.1 0 _ rfl) rfl rfl rfl dX8_appendOutput_15 rfl (fun r2 h3 p4 => ?_)
    obtain ⟨rfl, E1, E2⟩ := p4
    refine V_goto (q := 22) dX8_appendOutput_18 rfl ?_
    refine V_iret rfl dX8_appendOutput_22 rfl rfl ?_
    have hE : apR (P, K, c) (isG (nI t0)) (f6 8 (nt (nI t0)) 0 0 0 0) = apR (P, K, c) true (f6 8 t0 0 0 0 0) := by
      rw [show (isG (nI t0)) = true from by simp [c1]]
      rw [nt0]
    rw [hE]
    exact ⟨rfl, E1, E2⟩

set_option maxHeartbeats 4000000 in
set_option maxRecDepth 100000 in
theorem lp_remove {g : GX} {h : AH} {m : Nat} {σ : GS} (Z : RH h m σ) {P : PG} {K : Nat → PG} {c : Nat} (hσ : σ = (P, K, c)) {x : Nat} (hx : x < pNi P) {h1 : AH} (F1 : FN h h1 m) (H1 : HS h1 m (psh K c P).1 (psh K c P).2) : ∀ (t : Nat) (k : Nat) (e : AH), (6 + 6 * x ≤ k ∧ k ≤ 150) → (FB h1 e (m + 1)) → (∀ y, hI e (m + 1) y = if 6 + 6 * x ≤ y ∧ y < k then hI h1 (m + 1) (y + 6) else hI h1 (m + 1) y) → 150 - k < t → V g mX8_removeInstruction (thM g 1 0 0 (fun ρ η => ρ = some (.int (rmR σ (nI x)).1) ∧ FE h η m ∧ RH η m (rmR σ (nI x)).2)) e 0 0 [(0, .ref m), (1, .int (nI x)), (2, .int (nI k))] 30 [] := by
  intro t
  induction t with
  | zero =>
    intro k e hk F B hfu
    exact absurd hfu (Nat.not_lt_zero _)
  | succ t ih =>
    intro k e hk F B hfu
    subst hσ
    obtain ⟨G, H⟩ := Z
    have G : RG h m P := G
    have G1 := F1.rg G
    have W := G1.1
    have hN := W.2.2.2.2.1
    have hR := W.2.2.1
    have M : Md e.1 (hP e) m := by rw [F.1.1, F.1.2.2]; exact W.1
    refine V_iload_n (j := 2) (q := 31) dX8_removeInstruction_30 rfl rfl ?_
    refine V_bipush (q := 33) (v := nI 6) dX8_removeInstruction_31 rfl (by decide) ?_
    refine V_iaddN (q := 34) dX8_removeInstruction_33 rfl ?_
    refine V_sipush (q := 37) (v := nI 150) dX8_removeInstruction_34 rfl (by decide) ?_
    refine V_icmp_geN (tgt := 61) (q := 40) dX8_removeInstruction_37 rfl rfl (by omega) (by omega) (fun c1 => ?_) (fun c1 => ?_)
    · skip
      refine V_aload_n (j := 0) (q := 62) dX8_removeInstruction_61 rfl rfl ?_
      refine V_getP (q := 65) (r := (m + 1)) fX8_7 (M.1 0 _ rfl) rfl (M.2 0 _ rfl) dX8_removeInstruction_62 rfl ?_
      refine V_iconst (q := 66) (v := nI 5) dX8_removeInstruction_65 rfl rfl ?_
      refine V_dup2 (q := 67) dX8_removeInstruction_66 rfl rfl rfl ?_
      refine V_iald (q := 68) (M.1 1 _ rfl) (by omega) (by decide) dX8_removeInstruction_67 rfl ?_
      refine V_rw (y := nI (pNi P)) (by rw [B, if_neg (by omega)]; exact W.2.1.2.2.1) ?_
      refine V_iconst (q := 69) (v := nI 1) dX8_removeInstruction_68 rfl rfl ?_
      refine V_isubN (q := 70) dX8_removeInstruction_69 rfl (by omega) ?_
      refine V_iast (q := 71) (M.1 1 _ rfl) (by omega) (by decide) dX8_removeInstruction_70 rfl ?_
      refine V_aload_n (j := 0) (q := 72) dX8_removeInstruction_71 rfl rfl ?_
      refine V_getP (q := 75) (r := (m + 1)) fX8_7 (M.1 0 _ rfl) rfl (M.2 0 _ rfl) dX8_removeInstruction_72 rfl ?_
      refine V_iconst (q := 76) (v := nI 5) dX8_removeInstruction_75 rfl rfl ?_
      refine V_iald (q := 77) (M.1 1 _ rfl) (by omega) (by decide) dX8_removeInstruction_76 rfl ?_
      refine V_rw (y := nI (pNi P - 1)) (by rw [hI_s, if_pos ⟨rfl, rfl⟩]) ?_
      refine V_iret rfl dX8_removeInstruction_77 rfl rfl ?_
      rw [show rmR (P, K, c) (nI x) = (nI (pNi P - 1), pRm P x, psh K c P) from by rw [rmR, if_pos (show 0 ≤ (nI x).toInt ∧ (nI x).toInt < (pNi P : Int) by rw [i_n (by omega)]; omega), nt_n (by omega)]]
      refine ⟨rfl, (F1.e).tr (FB.e (k := 1) F.set (by decide)), RH_s G1 H1 F.set (ok_Rm W.2.2 hx) (RS_Rm W.2.1 W.2.2 hx ?_ (fun y h1 h2 => ?_) (fun y h1 h2 => ?_))⟩
      · rw [hI_s, if_pos ⟨rfl, rfl⟩]
      · rw [hI_s, if_neg (fun w => h1 w.2), B, if_neg (by omega)]
      · rw [hI_s, if_neg (by omega), B, if_pos (by omega)]
    · skip
      refine V_aload_n (j := 0) (q := 41) dX8_removeInstruction_40 rfl rfl ?_
      refine V_getP (q := 44) (r := (m + 1)) fX8_7 (M.1 0 _ rfl) rfl (M.2 0 _ rfl) dX8_removeInstruction_41 rfl ?_
      refine V_iload_n (j := 2) (q := 45) dX8_removeInstruction_44 rfl rfl ?_
      refine V_aload_n (j := 0) (q := 46) dX8_removeInstruction_45 rfl rfl ?_
      refine V_getP (q := 49) (r := (m + 1)) fX8_7 (M.1 0 _ rfl) rfl (M.2 0 _ rfl) dX8_removeInstruction_46 rfl ?_
      refine V_iload_n (j := 2) (q := 50) dX8_removeInstruction_49 rfl rfl ?_
      refine V_bipush (q := 52) (v := nI 6) dX8_removeInstruction_50 rfl (by decide) ?_
      refine V_iaddN (q := 53) dX8_removeInstruction_52 rfl ?_
      refine V_iald (q := 54) (M.1 1 _ rfl) (by omega) (by decide) dX8_removeInstruction_53 rfl ?_
      refine V_iast (q := 55) (M.1 1 _ rfl) (by omega) (by decide) dX8_removeInstruction_54 rfl ?_
      refine V_iincN (j := 2) (q := 58) (L' := [(2, .int (nI (k + 1))), (0, .ref m), (1, .int (nI x))]) dX8_removeInstruction_55 rfl rfl rfl rfl ?_
      refine V_goto (q := 30) dX8_removeInstruction_58 rfl ?_
      refine V_sub (L' := [(0, .ref m), (1, .int (nI x)), (2, .int (nI (k + 1)))]) [1, 2, 0] rfl ?_
      refine ih (k + 1) (sI e (m + 1) k (hI e (m + 1) (k + 6))) ?_ ?_ ?_ ?_
      · omega
      · exact F.set
      · intro y; rw [hI_s]; by_cases z : y = k; (rw [if_pos ⟨rfl, z⟩, if_pos (by omega), B, if_neg (by omega), z]); (rw [if_neg (fun w => z w.2), B y]; by_cases z2 : 6 + 6 * x ≤ y ∧ y < k; (rw [if_pos z2, if_pos (by omega)]); rw [if_neg z2, if_neg (by omega)])
      · omega

set_option maxHeartbeats 4000000 in
set_option maxRecDepth 100000 in
theorem c_removeInstruction {g : GX} {h : AH} {m : Nat} {σ : GS} (Z : RH h m σ) {x0 : Int32} : Ct g mX8_removeInstruction 1 0 0 [.ref m, .int x0] h (fun ρ η => ρ = some (.int (rmR σ x0).1) ∧ FE h η m ∧ RH η m (rmR σ x0).2) := by
  refine Ct_intro (by decide +kernel) (Nat.le_of_ble_eq_true rfl) ?_
  show V g mX8_removeInstruction _ h 0 0 [(0, .ref m), (1, .int x0)] 0 []
  obtain ⟨P, K, c⟩ := σ
  obtain ⟨G, H⟩ := Z
  have G : RG h m P := G
  have H : HS h m K c := H
  have W := G.1
  have hN := W.2.2.2.2.1
  have hR := W.2.2.1
  have h8 := H.2.1
  refine V_iload_n (j := 1) (q := 1) dX8_removeInstruction_0 rfl rfl ?_
  refine V_iconst (q := 2) (v := nI 0) dX8_removeInstruction_1 rfl rfl ?_
  refine V_aload_n (j := 0) (q := 3) dX8_removeInstruction_2 rfl rfl ?_
  refine V_getP (q := 6) (r := (m + 1)) fX8_7 (W.1.1 0 _ rfl) rfl (W.1.2 0 _ rfl) dX8_removeInstruction_3 rfl ?_
  refine V_iconst (q := 7) (v := nI 5) dX8_removeInstruction_6 rfl rfl ?_
  refine V_iald (q := 8) (W.1.1 1 _ rfl) (by omega) (by decide) dX8_removeInstruction_7 rfl ?_
  refine V_rw (y := nI (pNi P)) W.2.1.2.2.1 ?_
  refine V_iconst (q := 9) (v := nI 1) dX8_removeInstruction_8 rfl rfl ?_
  refine V_isub (q := 10) dX8_removeInstruction_9 rfl ?_
  refine V_cpS (q := 13) (S := []) (v := .int (bi (inB x0 (nI 0) ((nI (pNi P)) - (nI 1))))) kX8_48 c_in rfl rfl rfl dX8_removeInstruction_10 rfl ?_
  refine V_if_neB (tgt := 18) (q := 16) dX8_removeInstruction_13 rfl rfl (fun c1 => ?_) (fun c1 => ?_)
  · skip
    rw [inB_ni (by omega)] at c1
    obtain ⟨x, hx, rfl⟩ := i_of (of_decide_eq_true c1).1 (of_decide_eq_true c1).2
    refine V_aload_n (j := 0) (q := 19) dX8_removeInstruction_18 rfl rfl ?_
    refine V_callV (q := 22) (S := []) kX8_56 (c_note G H) (W.1.1 0 _ rfl) rfl rfl rfl dX8_removeInstruction_19 rfl (fun r2 h3 p4 => ?_)
    obtain ⟨rfl, F1, H1⟩ := p4
    have G1 := F1.rg G
    have W := G1.1
    refine V_bipush (q := 24) (v := nI 6) dX8_removeInstruction_22 rfl (by decide) ?_
    refine V_bipush (q := 26) (v := nI 6) dX8_removeInstruction_24 rfl (by decide) ?_
    refine V_iload_n (j := 1) (q := 27) dX8_removeInstruction_26 rfl rfl ?_
    refine V_imulN (q := 28) dX8_removeInstruction_27 rfl ?_
    refine V_iaddN (q := 29) dX8_removeInstruction_28 rfl ?_
    refine V_istore_n (q := 30) (L' := [(2, .int (nI (6 + (6 * x)))), (0, .ref m), (1, .int (nI x))]) dX8_removeInstruction_29 rfl rfl rfl ?_
    refine V_sub (L' := [(0, .ref m), (1, .int (nI x)), (2, .int (nI (6 + (6 * x))))]) [1, 2, 0] rfl ?_
    exact lp_remove ⟨G, H⟩ rfl hx F1 H1 (150 - (6 + 6 * x) + 1) (6 + 6 * x) _ (by omega) (FB.rf _) (fun y => by rw [if_neg (by omega)]) (Nat.lt_succ_self _)
  · skip
    rw [inB_ni (by omega)] at c1
    refine V_iconst (q := 17) (v := (-1)) dX8_removeInstruction_16 rfl rfl ?_
    refine V_iret rfl dX8_removeInstruction_17 rfl rfl ?_
    rw [show rmR (P, K, c) x0 = (-1, P, K, c) from if_neg (of_decide_eq_false c1)]
    exact ⟨rfl, FE.rf h m, G, H⟩

set_option maxHeartbeats 4000000 in
set_option maxRecDepth 100000 in
theorem lp_undo {g : GX} {h : AH} {m : Nat} {σ : GS} (Z : RH h m σ) {P : PG} {K : Nat → PG} {c : Nat} (hσ : σ = (P, K, c + 1)) : ∀ (t : Nat) (k : Nat) (e : AH), (k ≤ 150) → (FB (sI h m 2 (nI c)) e (m + 1)) → (∀ y, y < k → hI e (m + 1) y = hI h (m + 2) (150 * c + y)) → 150 - k < t → V g mX8_undo (thM g 0 0 0 (fun ρ η => ρ = some (.int (unR σ).1) ∧ FE h η m ∧ RH η m (unR σ).2)) e 0 0 [(0, .ref m), (1, .int (nI k))] 22 [] := by
  intro t
  induction t with
  | zero =>
    intro k e hk F B hfu
    exact absurd hfu (Nat.not_lt_zero _)
  | succ t ih =>
    intro k e hk F B hfu
    subst hσ
    obtain ⟨G, H⟩ := Z
    have G : RG h m P := G
    have H : HS h m K (c + 1) := H
    have h8 := H.2.1
    obtain ⟨o1, o2⟩ := H.2.2 c (by omega)
    have W0 := G.1
    have M : Md e.1 (hP e) m := by rw [F.1.1, F.1.2.2]; exact W0.1
    refine V_iload_n (j := 1) (q := 23) dX8_undo_22 rfl rfl ?_
    refine V_sipush (q := 26) (v := nI 150) dX8_undo_23 rfl (by decide) ?_
    refine V_icmp_geN (tgt := 56) (q := 29) dX8_undo_26 rfl rfl (by omega) (by omega) (fun c1 => ?_) (fun c1 => ?_)
    · skip
      refine V_aload_n (j := 0) (q := 57) dX8_undo_56 rfl rfl ?_
      refine V_getI (q := 60) fX8_44 (M.1 0 _ rfl) rfl dX8_undo_57 rfl ?_
      refine V_rw (y := nI c) (by rw [F.2 _ (by omega), hI_s, if_pos ⟨rfl, rfl⟩]) ?_
      refine V_iret rfl dX8_undo_60 rfl rfl ?_
      rw [show unR (P, K, c + 1) = (nI c, K c, K, c) from if_neg (Nat.succ_ne_zero c)]
      have F2 : FB h (sI h m 2 (nI c)) m := (FB.rf m).set
      refine ⟨rfl, ⟨⟨F.1.1.trans F2.1.1, F.1.2.1.trans F2.1.2.1, F.1.2.2.trans F2.1.2.2⟩, fun a ha => by rw [F.2 a (by omega), F2.2 a (by omega)]⟩, RH_s (h := sI h m 2 (nI c)) (P := P) ⟨RF_sM G.1, ?_, ?_⟩ ⟨by rw [hI_s, if_pos ⟨rfl, rfl⟩], by omega, fun j hj => ?_⟩ F o1 (RS_eq o1 o2 (fun x hx => B x (by omega)))⟩
      · obtain ⟨f, hf⟩ := G.2.1; exact ⟨f, BR_ne hf (by omega)⟩
      · obtain ⟨f, hf⟩ := G.2.2; exact ⟨f, BR_ne hf (by omega)⟩
      · rw [hI_n (by omega)]; exact H.2.2 j (by omega)
    · skip
      refine V_aload_n (j := 0) (q := 30) dX8_undo_29 rfl rfl ?_
      refine V_getP (q := 33) (r := (m + 1)) fX8_7 (M.1 0 _ rfl) rfl (M.2 0 _ rfl) dX8_undo_30 rfl ?_
      refine V_iload_n (j := 1) (q := 34) dX8_undo_33 rfl rfl ?_
      refine V_aload_n (j := 0) (q := 35) dX8_undo_34 rfl rfl ?_
      refine V_getP (q := 38) (r := (m + 2)) fX8_13 (M.1 0 _ rfl) rfl (M.2 1 _ rfl) dX8_undo_35 rfl ?_
      refine V_sipush (q := 41) (v := nI 150) dX8_undo_38 rfl (by decide) ?_
      refine V_aload_n (j := 0) (q := 42) dX8_undo_41 rfl rfl ?_
      refine V_getI (q := 45) fX8_44 (M.1 0 _ rfl) rfl dX8_undo_42 rfl ?_
      refine V_rw (y := nI c) (by rw [F.2 _ (by omega), hI_s, if_pos ⟨rfl, rfl⟩]) ?_
      refine V_imulN (q := 46) dX8_undo_45 rfl ?_
      refine V_iload_n (j := 1) (q := 47) dX8_undo_46 rfl rfl ?_
      refine V_iaddN (q := 48) dX8_undo_47 rfl ?_
      refine V_iald (q := 49) (M.1 2 _ rfl) (by omega) (by decide) dX8_undo_48 rfl ?_
      refine V_iast (q := 50) (M.1 1 _ rfl) (by omega) (by decide) dX8_undo_49 rfl ?_
      refine V_iincN (j := 1) (q := 53) (L' := [(1, .int (nI (k + 1))), (0, .ref m)]) dX8_undo_50 rfl rfl rfl rfl ?_
      refine V_goto (q := 22) dX8_undo_53 rfl ?_
      refine V_sub (L' := [(0, .ref m), (1, .int (nI (k + 1)))]) [1, 0] rfl ?_
      refine ih (k + 1) (sI e (m + 1) k (hI e (m + 2) (150 * c + k))) ?_ ?_ ?_ ?_
      · omega
      · exact F.set
      · intro y hy; rw [hI_s]; by_cases z : y = k; (rw [if_pos ⟨rfl, z⟩, z, F.2 _ (by omega), hI_n (by omega)]); (rw [if_neg (fun w => z w.2)]; exact B y (by omega))
      · omega

set_option maxHeartbeats 4000000 in
set_option maxRecDepth 100000 in
theorem c_undo {g : GX} {h : AH} {m : Nat} {σ : GS} (Z : RH h m σ) : Ct g mX8_undo 0 0 0 [.ref m] h (fun ρ η => ρ = some (.int (unR σ).1) ∧ FE h η m ∧ RH η m (unR σ).2) := by
  refine Ct_intro (by decide +kernel) (Nat.le_of_ble_eq_true rfl) ?_
  show V g mX8_undo _ h 0 0 [(0, .ref m)] 0 []
  obtain ⟨P, K, c⟩ := σ
  obtain ⟨G, H⟩ := Z
  have G : RG h m P := G
  have H : HS h m K c := H
  have W := G.1
  have hN := W.2.2.2.2.1
  have hR := W.2.2.1
  have h8 := H.2.1
  refine V_aload_n (j := 0) (q := 1) dX8_undo_0 rfl rfl ?_
  refine V_getI (q := 4) fX8_44 (W.1.1 0 _ rfl) rfl dX8_undo_1 rfl ?_
  refine V_rw (y := nI c) H.1 ?_
  refine V_if_neN (tgt := 10) (q := 7) dX8_undo_4 rfl rfl (by omega) (fun c1 => ?_) (fun c1 => ?_)
  · skip
    refine V_aload_n (j := 0) (q := 11) dX8_undo_10 rfl rfl ?_
    refine V_dup (q := 12) dX8_undo_11 rfl rfl ?_
    refine V_getI (q := 15) fX8_44 (W.1.1 0 _ rfl) rfl dX8_undo_12 rfl ?_
    refine V_rw (y := nI c) H.1 ?_
    refine V_iconst (q := 16) (v := nI 1) dX8_undo_15 rfl rfl ?_
    refine V_isubN (q := 17) dX8_undo_16 rfl (by omega) ?_
    refine V_putI (q := 20) wX8_44 (W.1.1 0 _ rfl) rfl dX8_undo_17 rfl ?_
    refine V_iconst (q := 21) (v := nI 0) dX8_undo_20 rfl rfl ?_
    refine V_istore_n (q := 22) (L' := [(1, .int (nI 0)), (0, .ref m)]) dX8_undo_21 rfl rfl rfl ?_
    refine V_sub (L' := [(0, .ref m), (1, .int (nI 0))]) [1, 0] rfl ?_
    obtain ⟨c1, rfl⟩ : ∃ c1, c = c1 + 1 := ⟨c - 1, by omega⟩
    exact lp_undo ⟨G, H⟩ rfl (150 - 0 + 1) 0 _ (Nat.zero_le _) (FB.rf _) (fun y hy => absurd hy (Nat.not_lt_zero _)) (Nat.lt_succ_self _)
  · skip
    refine V_bipush (q := 9) (v := (-2)) dX8_undo_7 rfl (by decide) ?_
    refine V_iret rfl dX8_undo_9 rfl rfl ?_
    rw [show unR (P, K, c) = (-2, P, K, c) from if_pos c1]
    exact ⟨rfl, FE.rf h m, G, H⟩

set_option maxHeartbeats 4000000 in
set_option maxRecDepth 100000 in
theorem c_recordCount {g : GX} {h : AH} {m : Nat} {σ : GS} (Z : RH h m σ) : Ct g mX8_recordCount 0 0 0 [.ref m] h (fun ρ η => ρ = some (.int (nI (pNr σ.1))) ∧ FE h η m ∧ RH η m σ) := by
  refine Ct_intro (by decide +kernel) (Nat.le_of_ble_eq_true rfl) ?_
  show V g mX8_recordCount _ h 0 0 [(0, .ref m)] 0 []
  obtain ⟨P, K, c⟩ := σ
  obtain ⟨G, H⟩ := Z
  have G : RG h m P := G
  have H : HS h m K c := H
  have W := G.1
  have hN := W.2.2.2.2.1
  have hR := W.2.2.1
  have h8 := H.2.1
  refine V_aload_n (j := 0) (q := 1) dX8_recordCount_0 rfl rfl ?_
  refine V_getP (q := 4) (r := (m + 1)) fX8_7 (W.1.1 0 _ rfl) rfl (W.1.2 0 _ rfl) dX8_recordCount_1 rfl ?_
  refine V_iconst (q := 5) (v := nI 0) dX8_recordCount_4 rfl rfl ?_
  refine V_iald (q := 6) (W.1.1 1 _ rfl) (by omega) (by decide) dX8_recordCount_5 rfl ?_
  refine V_rw (y := nI (pNr P)) W.2.1.1 ?_
  refine V_iret rfl dX8_recordCount_6 rfl rfl ?_
  exact ⟨rfl, FE.rf h m, G, H⟩

set_option maxHeartbeats 4000000 in
set_option maxRecDepth 100000 in
theorem c_instructionCount {g : GX} {h : AH} {m : Nat} {σ : GS} (Z : RH h m σ) : Ct g mX8_instructionCount 0 0 0 [.ref m] h (fun ρ η => ρ = some (.int (nI (pNi σ.1))) ∧ FE h η m ∧ RH η m σ) := by
  refine Ct_intro (by decide +kernel) (Nat.le_of_ble_eq_true rfl) ?_
  show V g mX8_instructionCount _ h 0 0 [(0, .ref m)] 0 []
  obtain ⟨P, K, c⟩ := σ
  obtain ⟨G, H⟩ := Z
  have G : RG h m P := G
  have H : HS h m K c := H
  have W := G.1
  have hN := W.2.2.2.2.1
  have hR := W.2.2.1
  have h8 := H.2.1
  refine V_aload_n (j := 0) (q := 1) dX8_instructionCount_0 rfl rfl ?_
  refine V_getP (q := 4) (r := (m + 1)) fX8_7 (W.1.1 0 _ rfl) rfl (W.1.2 0 _ rfl) dX8_instructionCount_1 rfl ?_
  refine V_iconst (q := 5) (v := nI 5) dX8_instructionCount_4 rfl rfl ?_
  refine V_iald (q := 6) (W.1.1 1 _ rfl) (by omega) (by decide) dX8_instructionCount_5 rfl ?_
  refine V_rw (y := nI (pNi P)) W.2.1.2.2.1 ?_
  refine V_iret rfl dX8_instructionCount_6 rfl rfl ?_
  exact ⟨rfl, FE.rf h m, G, H⟩


def inB (x y z : Int32) : Bool := decide (y.toInt ≤ x.toInt) && decide (x.toInt ≤ z.toInt)
set_option maxHeartbeats 4000000 in
set_option maxRecDepth 100000 in
theorem c_in {g : GX} {h : AH} {x y z : Int32} : Ct g mX8_in 0 0 0 [.int x, .int y, .int z] h (fun ρ η => ρ = some (.int (bi (inB x y z))) ∧ η = h) := by
  refine Ct_intro (by decide +kernel) (Nat.le_of_ble_eq_true rfl) ?_
  show V g mX8_in _ h 0 0 [(0, .int x), (1, .int y), (2, .int z)] 0 []
  refine V_iload_n (j := 0) (q := 1) dX8_in_0 rfl rfl ?_
  refine V_iload_n (j := 1) (q := 2) dX8_in_1 rfl rfl ?_
  refine V_icmp_lt (tgt := 14) (q := 5) dX8_in_2 rfl rfl (fun c1 => ?_) (fun c1 => ?_)
  · skip
    refine V_iconst (q := 15) (v := nI 0) dX8_in_14 rfl rfl ?_
    refine V_rw (y := bi false) rfl ?_
    refine V_zret (b := false) rfl dX8_in_15 rfl rfl ?_
    exact ⟨pvb (by simp only [i_lt, i_le] at *; simp [inB]; omega), rfl⟩
  · skip
    refine V_iload_n (j := 0) (q := 6) dX8_in_5 rfl rfl ?_
    refine V_iload_n (j := 2) (q := 7) dX8_in_6 rfl rfl ?_
    refine V_icmp_gt (tgt := 14) (q := 10) dX8_in_7 rfl rfl (fun c2 => ?_) (fun c2 => ?_)
    · skip
      refine V_iconst (q := 15) (v := nI 0) dX8_in_14 rfl rfl ?_
      refine V_rw (y := bi false) rfl ?_
      refine V_zret (b := false) rfl dX8_in_15 rfl rfl ?_
      exact ⟨pvb (by simp only [i_lt, i_le] at *; simp [inB]; omega), rfl⟩
    · skip
      refine V_iconst (q := 11) (v := nI 1) dX8_in_10 rfl rfl ?_
      refine V_goto (q := 15) dX8_in_11 rfl ?_
      refine V_rw (y := bi true) rfl ?_
      refine V_zret (b := true) rfl dX8_in_15 rfl rfl ?_
      exact ⟨pvb (by simp only [i_lt, i_le] at *; simp [inB]; omega), rfl⟩

def isR (P : PG) (x : Int32) : Bool := decide (0 ≤ x.toInt ∧ x.toInt < pNr P)
theorem inB_rec {P : PG} (h : pNr P ≤ 4) (x : Int32) : inB x (nI 0) (nI (pNr P) - nI 1) = isR P x := by
  have e : (nI (pNr P) - nI 1).toInt = pNr P - 1 := by
    rw [i_sub, i_n (by omega), i_n (by omega)]
    · rfl
    · rw [i_n (by omega), i_n (by omega)]; omega
  unfold inB isR
  rw [e, i_n (by omega), ← Bool.decide_and]
  congr 1
  apply propext
  omega
set_option maxHeartbeats 4000000 in
set_option maxRecDepth 100000 in
theorem c_isRecord {g : GX} {h : AH} {m : Nat} {P : PG} (W : RF h m P) {x : Int32} : Ct g mX8_isRecord 1 0 0 [.ref m, .int x] h (fun ρ η => ρ = some (.int (bi (isR P x))) ∧ η = h) := by
  refine Ct_intro (by decide +kernel) (Nat.le_of_ble_eq_true rfl) ?_
  show V g mX8_isRecord _ h 0 0 [(0, .ref m), (1, .int x)] 0 []
  refine V_iload_n (j := 1) (q := 1) dX8_isRecord_0 rfl rfl ?_
  refine V_iconst (q := 2) (v := nI 0) dX8_isRecord_1 rfl rfl ?_
  refine V_aload_n (j := 0) (q := 3) dX8_isRecord_2 rfl rfl ?_
  refine V_getP (q := 6) (r := (m + 1)) fX8_7 (W.1.1 0 _ rfl) rfl (W.1.2 0 _ rfl) dX8_isRecord_3 rfl ?_
  refine V_iconst (q := 7) (v := nI 0) dX8_isRecord_6 rfl rfl ?_
  refine V_iald (q := 8) (W.1.1 1 _ rfl) (by omega) (by decide) dX8_isRecord_7 rfl ?_
  refine V_rw (y := nI (pNr P)) W.2.1.1 ?_
  refine V_iconst (q := 9) (v := nI 1) dX8_isRecord_8 rfl rfl ?_
  refine V_isub (q := 10) dX8_isRecord_9 rfl ?_
  refine V_cpS (q := 13) (S := []) (v := .int (bi (inB x (nI 0) ((nI (pNr P)) - (nI 1))))) kX8_48 c_in rfl rfl rfl dX8_isRecord_10 rfl ?_
  refine V_zret (b := (inB x (nI 0) ((nI (pNr P)) - (nI 1)))) rfl dX8_isRecord_13 rfl rfl ?_
  exact ⟨pvb (inB_rec W.2.2.1 x), rfl⟩

def isG (x : Int32) : Bool := decide (0 ≤ x.toInt ∧ x.toInt < 8)
def isW (x : Int32) : Bool := decide (x.toInt = 1 ∨ x.toInt = 2 ∨ x.toInt = 4)
set_option maxHeartbeats 4000000 in
set_option maxRecDepth 100000 in
theorem c_isRegister {g : GX} {h : AH} {x : Int32} : Ct g mX8_isRegister 1 0 0 [.int x] h (fun ρ η => ρ = some (.int (bi (isG x))) ∧ η = h) := by
  refine Ct_intro (by decide +kernel) (Nat.le_of_ble_eq_true rfl) ?_
  show V g mX8_isRegister _ h 0 0 [(0, .int x)] 0 []
  refine V_iload_n (j := 0) (q := 1) dX8_isRegister_0 rfl rfl ?_
  refine V_iconst (q := 2) (v := nI 0) dX8_isRegister_1 rfl rfl ?_
  refine V_bipush (q := 4) (v := nI 7) dX8_isRegister_2 rfl (by decide) ?_
  refine V_cpS (q := 7) (S := []) (v := .int (bi (inB x (nI 0) (nI 7)))) kX8_48 c_in rfl rfl rfl dX8_isRegister_4 rfl ?_
  refine V_zret (b := (inB x (nI 0) (nI 7))) rfl dX8_isRegister_7 rfl rfl ?_
  exact ⟨pvb (by simp only [inB, isG, i_n (show 0 < 2 ^ 31 by decide), i_n (show 7 < 2 ^ 31 by decide), ← Bool.decide_and]; congr 1; apply propext; omega), rfl⟩

set_option maxHeartbeats 4000000 in
set_option maxRecDepth 100000 in
theorem c_isWidth {g : GX} {h : AH} {x : Int32} : Ct g mX8_isWidth 0 0 0 [.int x] h (fun ρ η => ρ = some (.int (bi (isW x))) ∧ η = h) := by
  refine Ct_intro (by decide +kernel) (Nat.le_of_ble_eq_true rfl) ?_
  show V g mX8_isWidth _ h 0 0 [(0, .int x)] 0 []
  refine V_iload_n (j := 0) (q := 1) dX8_isWidth_0 rfl rfl ?_
  refine V_iconst (q := 2) (v := nI 1) dX8_isWidth_1 rfl rfl ?_
  refine V_icmp_eq (tgt := 15) (q := 5) dX8_isWidth_2 rfl rfl (fun c1 => ?_) (fun c1 => ?_)
  · skip
    refine V_iconst (q := 16) (v := nI 1) dX8_isWidth_15 rfl rfl ?_
    refine V_goto (q := 20) dX8_isWidth_16 rfl ?_
    refine V_rw (y := bi true) rfl ?_
    refine V_zret (b := true) rfl dX8_isWidth_20 rfl rfl ?_
    exact ⟨pvb (by simp only [i_eq, i_n (show 1 < 2 ^ 31 by decide), i_n (show 2 < 2 ^ 31 by decide), i_n (show 4 < 2 ^ 31 by decide)] at *; simp [isW]; omega), rfl⟩
  · skip
    refine V_iload_n (j := 0) (q := 6) dX8_isWidth_5 rfl rfl ?_
    refine V_iconst (q := 7) (v := nI 2) dX8_isWidth_6 rfl rfl ?_
    refine V_icmp_eq (tgt := 15) (q := 10) dX8_isWidth_7 rfl rfl (fun c2 => ?_) (fun c2 => ?_)
    · skip
      refine V_iconst (q := 16) (v := nI 1) dX8_isWidth_15 rfl rfl ?_
      refine V_goto (q := 20) dX8_isWidth_16 rfl ?_
      refine V_rw (y := bi true) rfl ?_
      refine V_zret (b := true) rfl dX8_isWidth_20 rfl rfl ?_
      exact ⟨pvb (by simp only [i_eq, i_n (show 1 < 2 ^ 31 by decide), i_n (show 2 < 2 ^ 31 by decide), i_n (show 4 < 2 ^ 31 by decide)] at *; simp [isW]; omega), rfl⟩
    · skip
      refine V_iload_n (j := 0) (q := 11) dX8_isWidth_10 rfl rfl ?_
      refine V_iconst (q := 12) (v := nI 4) dX8_isWidth_11 rfl rfl ?_
      refine V_icmp_ne (tgt := 19) (q := 15) dX8_isWidth_12 rfl rfl (fun c3 => ?_) (fun c3 => ?_)
      · skip
        refine V_iconst (q := 20) (v := nI 0) dX8_isWidth_19 rfl rfl ?_
        refine V_rw (y := bi false) rfl ?_
        refine V_zret (b := false) rfl dX8_isWidth_20 rfl rfl ?_
        exact ⟨pvb (by simp only [i_eq, i_n (show 1 < 2 ^ 31 by decide), i_n (show 2 < 2 ^ 31 by decide), i_n (show 4 < 2 ^ 31 by decide)] at *; simp [isW]; omega), rfl⟩
      · skip
        refine V_iconst (q := 16) (v := nI 1) dX8_isWidth_15 rfl rfl ?_
        refine V_goto (q := 20) dX8_isWidth_16 rfl ?_
        refine V_rw (y := bi true) rfl ?_
        refine V_zret (b := true) rfl dX8_isWidth_20 rfl rfl ?_
        exact ⟨pvb (by simp only [i_eq, i_n (show 1 < 2 ^ 31 by decide), i_n (show 2 < 2 ^ 31 by decide), i_n (show 4 < 2 ^ 31 by decide)] at *; simp [isW]; omega), rfl⟩

set_option maxHeartbeats 4000000 in
set_option maxRecDepth 100000 in
theorem c_of {g : GX} {h : AH} {m : Nat} {P : PG} (W : RF h m P) {i w : Nat} (hi : i < pNi P) (hw : w < 6) : Ct g mX8_of 0 0 0 [.ref m, .int (nI i), .int (nI w)] h (fun ρ η => ρ = some (.int (nI (pFd P i w))) ∧ η = h) := by
  refine Ct_intro (by decide +kernel) (Nat.le_of_ble_eq_true rfl) ?_
  show V g mX8_of _ h 0 0 [(0, .ref m), (1, .int (nI i)), (2, .int (nI w))] 0 []
  have hN := W.2.2.2.2.1
  refine V_aload_n (j := 0) (q := 1) dX8_of_0 rfl rfl ?_
  refine V_getP (q := 4) (r := (m + 1)) fX8_7 (W.1.1 0 _ rfl) rfl (W.1.2 0 _ rfl) dX8_of_1 rfl ?_
  refine V_bipush (q := 6) (v := nI 6) dX8_of_4 rfl (by decide) ?_
  refine V_bipush (q := 8) (v := nI 6) dX8_of_6 rfl (by decide) ?_
  refine V_iload_n (j := 1) (q := 9) dX8_of_8 rfl rfl ?_
  refine V_imulN (q := 10) dX8_of_9 rfl ?_
  refine V_iaddN (q := 11) dX8_of_10 rfl ?_
  refine V_iload_n (j := 2) (q := 12) dX8_of_11 rfl rfl ?_
  refine V_iaddN (q := 13) dX8_of_12 rfl ?_
  refine V_iald (q := 14) (W.1.1 1 _ rfl) (by omega) (by decide) dX8_of_13 rfl ?_
  refine V_iret rfl dX8_of_14 rfl rfl ?_
  exact ⟨pv (by exact W.2.1.2.2.2 i hi w hw), rfl⟩


set_option maxHeartbeats 4000000 in
set_option maxRecDepth 100000 in
theorem d_isRegister {g : GX} {h : AH} {x : Int32} : Ct g mX7_isRegister 0 0 0 [.int x] h (fun ρ η => ρ = some (.int (bi (isG x))) ∧ η = h) := by
  refine Ct_intro (by decide +kernel) (Nat.le_of_ble_eq_true rfl) ?_
  show V g mX7_isRegister _ h 0 0 [(0, .int x)] 0 []
  refine V_iload_n (j := 0) (q := 1) dX7_isRegister_0 rfl rfl ?_
  refine V_if_lt (tgt := 14) (q := 4) dX7_isRegister_1 rfl rfl (fun c1 => ?_) (fun c1 => ?_)
  · skip
    refine V_iconst (q := 15) (v := nI 0) dX7_isRegister_14 rfl rfl ?_
    refine V_rw (y := bi false) rfl ?_
    refine V_zret (b := false) rfl dX7_isRegister_15 rfl rfl ?_
    exact ⟨pvb (by simp only [i_lt, i_le, i_0, i_n (show 8 < 2 ^ 31 by decide)] at *; simp [isG]; omega), rfl⟩
  · skip
    refine V_iload_n (j := 0) (q := 5) dX7_isRegister_4 rfl rfl ?_
    refine V_bipush (q := 7) (v := nI 8) dX7_isRegister_5 rfl (by decide) ?_
    refine V_icmp_ge (tgt := 14) (q := 10) dX7_isRegister_7 rfl rfl (fun c2 => ?_) (fun c2 => ?_)
    · skip
      refine V_iconst (q := 15) (v := nI 0) dX7_isRegister_14 rfl rfl ?_
      refine V_rw (y := bi false) rfl ?_
      refine V_zret (b := false) rfl dX7_isRegister_15 rfl rfl ?_
      exact ⟨pvb (by simp only [i_lt, i_le, i_0, i_n (show 8 < 2 ^ 31 by decide)] at *; simp [isG]; omega), rfl⟩
    · skip
      refine V_iconst (q := 11) (v := nI 1) dX7_isRegister_10 rfl rfl ?_
      refine V_goto (q := 15) dX7_isRegister_11 rfl ?_
      refine V_rw (y := bi true) rfl ?_
      refine V_zret (b := true) rfl dX7_isRegister_15 rfl rfl ?_
      exact ⟨pvb (by simp only [i_lt, i_le, i_0, i_n (show 8 < 2 ^ 31 by decide)] at *; simp [isG]; omega), rfl⟩

set_option maxHeartbeats 4000000 in
set_option maxRecDepth 100000 in
theorem d_isForm {g : GX} {h : AH} {x : Int32} : Ct g mX7_isForm 0 0 0 [.int x] h (fun ρ η => ρ = some (.int (bi (isT x))) ∧ η = h) := by
  refine Ct_intro (by decide +kernel) (Nat.le_of_ble_eq_true rfl) ?_
  show V g mX7_isForm _ h 0 0 [(0, .int x)] 0 []
  refine V_iload_n (j := 0) (q := 1) dX7_isForm_0 rfl rfl ?_
  refine V_if_eq (tgt := 9) (q := 4) dX7_isForm_1 rfl rfl (fun c1 => ?_) (fun c1 => ?_)
  · skip
    refine V_iconst (q := 10) (v := nI 1) dX7_isForm_9 rfl rfl ?_
    refine V_goto (q := 14) dX7_isForm_10 rfl ?_
    refine V_rw (y := bi true) rfl ?_
    refine V_zret (b := true) rfl dX7_isForm_14 rfl rfl ?_
    exact ⟨pvb (by simp only [i_eq, i_0, i_n (show 1 < 2 ^ 31 by decide)] at *; simp [isT]; omega), rfl⟩
  · skip
    refine V_iload_n (j := 0) (q := 5) dX7_isForm_4 rfl rfl ?_
    refine V_iconst (q := 6) (v := nI 1) dX7_isForm_5 rfl rfl ?_
    refine V_icmp_ne (tgt := 13) (q := 9) dX7_isForm_6 rfl rfl (fun c2 => ?_) (fun c2 => ?_)
    · skip
      refine V_iconst (q := 14) (v := nI 0) dX7_isForm_13 rfl rfl ?_
      refine V_rw (y := bi false) rfl ?_
      refine V_zret (b := false) rfl dX7_isForm_14 rfl rfl ?_
      exact ⟨pvb (by simp only [i_eq, i_0, i_n (show 1 < 2 ^ 31 by decide)] at *; simp [isT]; omega), rfl⟩
    · skip
      refine V_iconst (q := 10) (v := nI 1) dX7_isForm_9 rfl rfl ?_
      refine V_goto (q := 14) dX7_isForm_10 rfl ?_
      refine V_rw (y := bi true) rfl ?_
      refine V_zret (b := true) rfl dX7_isForm_14 rfl rfl ?_
      exact ⟨pvb (by simp only [i_eq, i_0, i_n (show 1 < 2 ^ 31 by decide)] at *; simp [isT]; omega), rfl⟩

set_option maxHeartbeats 4000000 in
set_option maxRecDepth 100000 in
theorem d_isScalarLength {g : GX} {h : AH} {x : Int32} : Ct g mX7_isScalarLength 0 0 0 [.int x] h (fun ρ η => ρ = some (.int (bi (isW x))) ∧ η = h) := by
  refine Ct_intro (by decide +kernel) (Nat.le_of_ble_eq_true rfl) ?_
  show V g mX7_isScalarLength _ h 0 0 [(0, .int x)] 0 []
  refine V_iload_n (j := 0) (q := 1) dX7_isScalarLength_0 rfl rfl ?_
  refine V_iconst (q := 2) (v := nI 1) dX7_isScalarLength_1 rfl rfl ?_
  refine V_icmp_eq (tgt := 15) (q := 5) dX7_isScalarLength_2 rfl rfl (fun c1 => ?_) (fun c1 => ?_)
  · skip
    refine V_iconst (q := 16) (v := nI 1) dX7_isScalarLength_15 rfl rfl ?_
    refine V_goto (q := 20) dX7_isScalarLength_16 rfl ?_
    refine V_rw (y := bi true) rfl ?_
    refine V_zret (b := true) rfl dX7_isScalarLength_20 rfl rfl ?_
    exact ⟨pvb (by simp only [i_eq, i_n (show 1 < 2 ^ 31 by decide), i_n (show 2 < 2 ^ 31 by decide), i_n (show 4 < 2 ^ 31 by decide)] at *; simp [isW]; omega), rfl⟩
  · skip
    refine V_iload_n (j := 0) (q := 6) dX7_isScalarLength_5 rfl rfl ?_
    refine V_iconst (q := 7) (v := nI 2) dX7_isScalarLength_6 rfl rfl ?_
    refine V_icmp_eq (tgt := 15) (q := 10) dX7_isScalarLength_7 rfl rfl (fun c2 => ?_) (fun c2 => ?_)
    · skip
      refine V_iconst (q := 16) (v := nI 1) dX7_isScalarLength_15 rfl rfl ?_
      refine V_goto (q := 20) dX7_isScalarLength_16 rfl ?_
      refine V_rw (y := bi true) rfl ?_
      refine V_zret (b := true) rfl dX7_isScalarLength_20 rfl rfl ?_
      exact ⟨pvb (by simp only [i_eq, i_n (show 1 < 2 ^ 31 by decide), i_n (show 2 < 2 ^ 31 by decide), i_n (show 4 < 2 ^ 31 by decide)] at *; simp [isW]; omega), rfl⟩
    · skip
      refine V_iload_n (j := 0) (q := 11) dX7_isScalarLength_10 rfl rfl ?_
      refine V_iconst (q := 12) (v := nI 4) dX7_isScalarLength_11 rfl rfl ?_
      refine V_icmp_ne (tgt := 19) (q := 15) dX7_isScalarLength_12 rfl rfl (fun c3 => ?_) (fun c3 => ?_)
      · skip
        refine V_iconst (q := 20) (v := nI 0) dX7_isScalarLength_19 rfl rfl ?_
        refine V_rw (y := bi false) rfl ?_
        refine V_zret (b := false) rfl dX7_isScalarLength_20 rfl rfl ?_
        exact ⟨pvb (by simp only [i_eq, i_n (show 1 < 2 ^ 31 by decide), i_n (show 2 < 2 ^ 31 by decide), i_n (show 4 < 2 ^ 31 by decide)] at *; simp [isW]; omega), rfl⟩
      · skip
        refine V_iconst (q := 16) (v := nI 1) dX7_isScalarLength_15 rfl rfl ?_
        refine V_goto (q := 20) dX7_isScalarLength_16 rfl ?_
        refine V_rw (y := bi true) rfl ?_
        refine V_zret (b := true) rfl dX7_isScalarLength_20 rfl rfl ?_
        exact ⟨pvb (by simp only [i_eq, i_n (show 1 < 2 ^ 31 by decide), i_n (show 2 < 2 ^ 31 by decide), i_n (show 4 < 2 ^ 31 by decide)] at *; simp [isW]; omega), rfl⟩

set_option maxHeartbeats 4000000 in
set_option maxRecDepth 100000 in
theorem d_oneIf {g : GX} {h : AH} {b : Bool} : Ct g mX7_oneIf 0 0 0 [.int (bi b)] h (fun ρ η => ρ = some (.int (bi b)) ∧ η = h) := by
  refine Ct_intro (by decide +kernel) (Nat.le_of_ble_eq_true rfl) ?_
  show V g mX7_oneIf _ h 0 0 [(0, .int (bi b))] 0 []
  refine V_iload_n (j := 0) (q := 1) dX7_oneIf_0 rfl rfl ?_
  refine V_if_eqB (tgt := 8) (q := 4) dX7_oneIf_1 rfl rfl (fun c1 => ?_) (fun c1 => ?_)
  · skip
    refine V_iconst (q := 9) (v := nI 0) dX7_oneIf_8 rfl rfl ?_
    refine V_iret rfl dX7_oneIf_9 rfl rfl ?_
    exact ⟨pv (by simp [c1, bi]; try rfl), rfl⟩
  · skip
    refine V_iconst (q := 5) (v := nI 1) dX7_oneIf_4 rfl rfl ?_
    refine V_goto (q := 9) dX7_oneIf_5 rfl ?_
    refine V_iret rfl dX7_oneIf_9 rfl rfl ?_
    exact ⟨pv (by simp [c1, bi]; try rfl), rfl⟩

set_option maxHeartbeats 4000000 in
set_option maxRecDepth 100000 in
theorem d_Iinit {g : GX} {h : AH} {a : Nat} {x : Int32} (hs : h.1[a]? = some (2, 10)) : Ct g mX2_init 1 0 0 [.ref a, .int x] h (fun ρ η => ρ = none ∧ η = sI h a 0 x) := by
  refine Ct_intro (by decide +kernel) (Nat.le_of_ble_eq_true rfl) ?_
  show V g mX2_init _ h 0 0 [(0, .ref a), (1, .int x)] 0 []
  refine V_aload_n (j := 0) (q := 1) dX2_init_0 rfl rfl ?_
  refine V_objInit (q := 4) kX2_3 rfl rfl rfl dX2_init_1 rfl ?_
  refine V_aload_n (j := 0) (q := 5) dX2_init_4 rfl rfl ?_
  refine V_iload_n (j := 1) (q := 6) dX2_init_5 rfl rfl ?_
  refine V_putFI (q := 9) wX2_9 rfl hs rfl dX2_init_6 rfl ?_
  refine V_vret rfl dX2_init_9 rfl rfl ?_
  exact ⟨rfl, rfl⟩

set_option maxHeartbeats 4000000 in
set_option maxRecDepth 100000 in
theorem d_ofAccess1 {g : GX} {h : AH} {a b c d : Nat} (hl : 171 ≤ h.1.length) : Ct g mX2_ofAccess 2 1 10 [.int (nI 1), .int (nI a), .int (nI b), .int (nI c), .int (nI d)] h (fun ρ η => ρ = some (.ref h.1.length) ∧ FNw h η ∧ IN η h.1.length (f6 1 a b c d 0)) := by
  refine Ct_intro (by decide +kernel) (Nat.le_of_ble_eq_true rfl) ?_
  show V g mX2_ofAccess _ h 0 0 [(0, .int (nI 1)), (1, .int (nI a)), (2, .int (nI b)), (3, .int (nI c)), (4, .int (nI d))] 0 []
  refine V_new (q := 3) (ci := 2) (N := 10) dv_2 rfl (fun r hr => by cases hr; exact nX2_10) rfl dX2_ofAccess_0 rfl ?_
  refine V_dup (q := 4) dX2_ofAccess_3 rfl rfl ?_
  refine V_iload_n (j := 0) (q := 5) dX2_ofAccess_4 rfl rfl ?_
  refine V_callI (q := 8) (S := [.ref h.1.length]) kX2_15 (d_Iinit (nw_at _ _)) rfl rfl rfl dX2_ofAccess_5 rfl (fun r1 h2 p3 => ?_)
  obtain ⟨rfl, rfl⟩ := p3
  refine V_astore (q := 10) (L' := [(5, .ref h.1.length), (0, .int (nI 1)), (1, .int (nI a)), (2, .int (nI b)), (3, .int (nI c)), (4, .int (nI d))]) dX2_ofAccess_8 rfl rfl rfl ?_
  refine V_aload (j := 0) (q := 12) dX2_ofAccess_10 rfl rfl ?_
  refine V_iload_n (j := 2) (q := 13) dX2_ofAccess_12 rfl rfl ?_
  refine V_putI (q := 16) wX2_18 (nw_at _ _) rfl dX2_ofAccess_13 rfl ?_
  refine V_aload (j := 0) (q := 18) dX2_ofAccess_16 rfl rfl ?_
  refine V_iload_n (j := 3) (q := 19) dX2_ofAccess_18 rfl rfl ?_
  refine V_putI (q := 22) wX2_21 (nw_at _ _) rfl dX2_ofAccess_19 rfl ?_
  refine V_aload (j := 0) (q := 24) dX2_ofAccess_22 rfl rfl ?_
  refine V_iload_n (j := 4) (q := 25) dX2_ofAccess_24 rfl rfl ?_
  refine V_putI (q := 28) wX2_24 (nw_at _ _) rfl dX2_ofAccess_25 rfl ?_
  refine V_aload (j := 0) (q := 30) dX2_ofAccess_28 rfl rfl ?_
  refine V_iload (j := 5) (q := 32) dX2_ofAccess_30 rfl rfl ?_
  refine V_putI (q := 35) wX2_27 (nw_at _ _) rfl dX2_ofAccess_32 rfl ?_
  refine V_aload (j := 0) (q := 37) dX2_ofAccess_35 rfl rfl ?_
  refine V_aret rfl dX2_ofAccess_37 rfl rfl ?_
  refine ⟨rfl, (FNw.nw h).set.set.set.set.set, Or.inr hl, nw_at _ _, fun q hq => ?_⟩
  rcases (show q = 0 ∨ q = 1 ∨ q = 2 ∨ q = 3 ∨ q = 4 ∨ q = 5 ∨ q = 6 ∨ q = 7 ∨ q = 8 ∨ q = 9 by omega) with rfl | rfl | rfl | rfl | rfl | rfl | rfl | rfl | rfl | rfl
  all_goals simp [hI_s, nw_0, ifd, f6]

set_option maxHeartbeats 4000000 in
set_option maxRecDepth 100000 in
theorem d_ofAccess2 {g : GX} {h : AH} {a b c d : Nat} (hl : 171 ≤ h.1.length) : Ct g mX2_ofAccess 2 1 10 [.int (nI 2), .int (nI a), .int (nI b), .int (nI c), .int (nI d)] h (fun ρ η => ρ = some (.ref h.1.length) ∧ FNw h η ∧ IN η h.1.length (f6 2 a b c d 0)) := by
  refine Ct_intro (by decide +kernel) (Nat.le_of_ble_eq_true rfl) ?_
  show V g mX2_ofAccess _ h 0 0 [(0, .int (nI 2)), (1, .int (nI a)), (2, .int (nI b)), (3, .int (nI c)), (4, .int (nI d))] 0 []
  refine V_new (q := 3) (ci := 2) (N := 10) dv_2 rfl (fun r hr => by cases hr; exact nX2_10) rfl dX2_ofAccess_0 rfl ?_
  refine V_dup (q := 4) dX2_ofAccess_3 rfl rfl ?_
  refine V_iload_n (j := 0) (q := 5) dX2_ofAccess_4 rfl rfl ?_
  refine V_callI (q := 8) (S := [.ref h.1.length]) kX2_15 (d_Iinit (nw_at _ _)) rfl rfl rfl dX2_ofAccess_5 rfl (fun r1 h2 p3 => ?_)
  obtain ⟨rfl, rfl⟩ := p3
  refine V_astore (q := 10) (L' := [(5, .ref h.1.length), (0, .int (nI 2)), (1, .int (nI a)), (2, .int (nI b)), (3, .int (nI c)), (4, .int (nI d))]) dX2_ofAccess_8 rfl rfl rfl ?_
  refine V_aload (j := 0) (q := 12) dX2_ofAccess_10 rfl rfl ?_
  refine V_iload_n (j := 2) (q := 13) dX2_ofAccess_12 rfl rfl ?_
  refine V_putI (q := 16) wX2_18 (nw_at _ _) rfl dX2_ofAccess_13 rfl ?_
  refine V_aload (j := 0) (q := 18) dX2_ofAccess_16 rfl rfl ?_
  refine V_iload_n (j := 3) (q := 19) dX2_ofAccess_18 rfl rfl ?_
  refine V_putI (q := 22) wX2_21 (nw_at _ _) rfl dX2_ofAccess_19 rfl ?_
  refine V_aload (j := 0) (q := 24) dX2_ofAccess_22 rfl rfl ?_
  refine V_iload_n (j := 4) (q := 25) dX2_ofAccess_24 rfl rfl ?_
  refine V_putI (q := 28) wX2_24 (nw_at _ _) rfl dX2_ofAccess_25 rfl ?_
  refine V_aload (j := 0) (q := 30) dX2_ofAccess_28 rfl rfl ?_
  refine V_iload (j := 5) (q := 32) dX2_ofAccess_30 rfl rfl ?_
  refine V_putI (q := 35) wX2_27 (nw_at _ _) rfl dX2_ofAccess_32 rfl ?_
  refine V_aload (j := 0) (q := 37) dX2_ofAccess_35 rfl rfl ?_
  refine V_aret rfl dX2_ofAccess_37 rfl rfl ?_
  refine ⟨rfl, (FNw.nw h).set.set.set.set.set, Or.inr hl, nw_at _ _, fun q hq => ?_⟩
  rcases (show q = 0 ∨ q = 1 ∨ q = 2 ∨ q = 3 ∨ q = 4 ∨ q = 5 ∨ q = 6 ∨ q = 7 ∨ q = 8 ∨ q = 9 by omega) with rfl | rfl | rfl | rfl | rfl | rfl | rfl | rfl | rfl | rfl
  all_goals simp [hI_s, nw_0, ifd, f6]

set_option maxHeartbeats 4000000 in
set_option maxRecDepth 100000 in
theorem d_ofCopy {g : GX} {h : AH} {a b c d e : Nat} (hl : 171 ≤ h.1.length) : Ct g mX2_ofCopy 2 1 10 [.int (nI a), .int (nI b), .int (nI c), .int (nI d), .int (nI e)] h (fun ρ η => ρ = some (.ref h.1.length) ∧ FNw h η ∧ IN η h.1.length (f6 3 a b c d e)) := by
  refine Ct_intro (by decide +kernel) (Nat.le_of_ble_eq_true rfl) ?_
  show V g mX2_ofCopy _ h 0 0 [(0, .int (nI a)), (1, .int (nI b)), (2, .int (nI c)), (3, .int (nI d)), (4, .int (nI e))] 0 []
  refine V_new (q := 3) (ci := 2) (N := 10) dv_2 rfl (fun r hr => by cases hr; exact nX2_10) rfl dX2_ofCopy_0 rfl ?_
  refine V_dup (q := 4) dX2_ofCopy_3 rfl rfl ?_
  refine V_iconst (q := 5) (v := nI 3) dX2_ofCopy_4 rfl rfl ?_
  refine V_callI (q := 8) (S := [.ref h.1.length]) kX2_15 (d_Iinit (nw_at _ _)) rfl rfl rfl dX2_ofCopy_5 rfl (fun r1 h2 p3 => ?_)
  obtain ⟨rfl, rfl⟩ := p3
  refine V_astore (q := 10) (L' := [(5, .ref h.1.length), (0, .int (nI a)), (1, .int (nI b)), (2, .int (nI c)), (3, .int (nI d)), (4, .int (nI e))]) dX2_ofCopy_8 rfl rfl rfl ?_
  refine V_aload (j := 0) (q := 12) dX2_ofCopy_10 rfl rfl ?_
  refine V_iload_n (j := 1) (q := 13) dX2_ofCopy_12 rfl rfl ?_
  refine V_putI (q := 16) wX2_18 (nw_at _ _) rfl dX2_ofCopy_13 rfl ?_
  refine V_aload (j := 0) (q := 18) dX2_ofCopy_16 rfl rfl ?_
  refine V_iload_n (j := 2) (q := 19) dX2_ofCopy_18 rfl rfl ?_
  refine V_putI (q := 22) wX2_21 (nw_at _ _) rfl dX2_ofCopy_19 rfl ?_
  refine V_aload (j := 0) (q := 24) dX2_ofCopy_22 rfl rfl ?_
  refine V_iload_n (j := 3) (q := 25) dX2_ofCopy_24 rfl rfl ?_
  refine V_putI (q := 28) wX2_30 (nw_at _ _) rfl dX2_ofCopy_25 rfl ?_
  refine V_aload (j := 0) (q := 30) dX2_ofCopy_28 rfl rfl ?_
  refine V_iload_n (j := 4) (q := 31) dX2_ofCopy_30 rfl rfl ?_
  refine V_putI (q := 34) wX2_33 (nw_at _ _) rfl dX2_ofCopy_31 rfl ?_
  refine V_aload (j := 0) (q := 36) dX2_ofCopy_34 rfl rfl ?_
  refine V_iload (j := 5) (q := 38) dX2_ofCopy_36 rfl rfl ?_
  refine V_putI (q := 41) wX2_24 (nw_at _ _) rfl dX2_ofCopy_38 rfl ?_
  refine V_aload (j := 0) (q := 43) dX2_ofCopy_41 rfl rfl ?_
  refine V_aret rfl dX2_ofCopy_43 rfl rfl ?_
  refine ⟨rfl, (FNw.nw h).set.set.set.set.set.set, Or.inr hl, nw_at _ _, fun q hq => ?_⟩
  rcases (show q = 0 ∨ q = 1 ∨ q = 2 ∨ q = 3 ∨ q = 4 ∨ q = 5 ∨ q = 6 ∨ q = 7 ∨ q = 8 ∨ q = 9 by omega) with rfl | rfl | rfl | rfl | rfl | rfl | rfl | rfl | rfl | rfl
  all_goals simp [hI_s, nw_0, ifd, f6]

set_option maxHeartbeats 4000000 in
set_option maxRecDepth 100000 in
theorem d_ofEscape {g : GX} {h : AH} {a : Nat} (hl : 171 ≤ h.1.length) : Ct g mX2_ofEscape 2 1 10 [.int (nI a)] h (fun ρ η => ρ = some (.ref h.1.length) ∧ FNw h η ∧ IN η h.1.length (f6 4 a 0 0 0 0)) := by
  refine Ct_intro (by decide +kernel) (Nat.le_of_ble_eq_true rfl) ?_
  show V g mX2_ofEscape _ h 0 0 [(0, .int (nI a))] 0 []
  refine V_new (q := 3) (ci := 2) (N := 10) dv_2 rfl (fun r hr => by cases hr; exact nX2_10) rfl dX2_ofEscape_0 rfl ?_
  refine V_dup (q := 4) dX2_ofEscape_3 rfl rfl ?_
  refine V_iconst (q := 5) (v := nI 4) dX2_ofEscape_4 rfl rfl ?_
  refine V_callI (q := 8) (S := [.ref h.1.length]) kX2_15 (d_Iinit (nw_at _ _)) rfl rfl rfl dX2_ofEscape_5 rfl (fun r1 h2 p3 => ?_)
  obtain ⟨rfl, rfl⟩ := p3
  refine V_astore_n (q := 9) (L' := [(1, .ref h.1.length), (0, .int (nI a))]) dX2_ofEscape_8 rfl rfl rfl ?_
  refine V_aload_n (j := 0) (q := 10) dX2_ofEscape_9 rfl rfl ?_
  refine V_iload_n (j := 1) (q := 11) dX2_ofEscape_10 rfl rfl ?_
  refine V_putI (q := 14) wX2_18 (nw_at _ _) rfl dX2_ofEscape_11 rfl ?_
  refine V_aload_n (j := 0) (q := 15) dX2_ofEscape_14 rfl rfl ?_
  refine V_aret rfl dX2_ofEscape_15 rfl rfl ?_
  refine ⟨rfl, (FNw.nw h).set.set, Or.inr hl, nw_at _ _, fun q hq => ?_⟩
  rcases (show q = 0 ∨ q = 1 ∨ q = 2 ∨ q = 3 ∨ q = 4 ∨ q = 5 ∨ q = 6 ∨ q = 7 ∨ q = 8 ∨ q = 9 by omega) with rfl | rfl | rfl | rfl | rfl | rfl | rfl | rfl | rfl | rfl
  all_goals simp [hI_s, nw_0, ifd, f6]

set_option maxHeartbeats 4000000 in
set_option maxRecDepth 100000 in
theorem d_ofAdd {g : GX} {h : AH} {a b c : Nat} (hl : 171 ≤ h.1.length) : Ct g mX2_ofAdd 2 1 10 [.int (nI a), .int (nI b), .int (nI c)] h (fun ρ η => ρ = some (.ref h.1.length) ∧ FNw h η ∧ IN η h.1.length (f6 6 a b c 0 0)) := by
  refine Ct_intro (by decide +kernel) (Nat.le_of_ble_eq_true rfl) ?_
  show V g mX2_ofAdd _ h 0 0 [(0, .int (nI a)), (1, .int (nI b)), (2, .int (nI c))] 0 []
  refine V_new (q := 3) (ci := 2) (N := 10) dv_2 rfl (fun r hr => by cases hr; exact nX2_10) rfl dX2_ofAdd_0 rfl ?_
  refine V_dup (q := 4) dX2_ofAdd_3 rfl rfl ?_
  refine V_bipush (q := 6) (v := nI 6) dX2_ofAdd_4 rfl (by decide) ?_
  refine V_callI (q := 9) (S := [.ref h.1.length]) kX2_15 (d_Iinit (nw_at _ _)) rfl rfl rfl dX2_ofAdd_6 rfl (fun r1 h2 p3 => ?_)
  obtain ⟨rfl, rfl⟩ := p3
  refine V_astore_n (q := 10) (L' := [(3, .ref h.1.length), (0, .int (nI a)), (1, .int (nI b)), (2, .int (nI c))]) dX2_ofAdd_9 rfl rfl rfl ?_
  refine V_aload_n (j := 0) (q := 11) dX2_ofAdd_10 rfl rfl ?_
  refine V_iload_n (j := 1) (q := 12) dX2_ofAdd_11 rfl rfl ?_
  refine V_putI (q := 15) wX2_27 (nw_at _ _) rfl dX2_ofAdd_12 rfl ?_
  refine V_aload_n (j := 0) (q := 16) dX2_ofAdd_15 rfl rfl ?_
  refine V_iload_n (j := 2) (q := 17) dX2_ofAdd_16 rfl rfl ?_
  refine V_putI (q := 20) wX2_36 (nw_at _ _) rfl dX2_ofAdd_17 rfl ?_
  refine V_aload_n (j := 0) (q := 21) dX2_ofAdd_20 rfl rfl ?_
  refine V_iload_n (j := 3) (q := 22) dX2_ofAdd_21 rfl rfl ?_
  refine V_putI (q := 25) wX2_39 (nw_at _ _) rfl dX2_ofAdd_22 rfl ?_
  refine V_aload_n (j := 0) (q := 26) dX2_ofAdd_25 rfl rfl ?_
  refine V_aret rfl dX2_ofAdd_26 rfl rfl ?_
  refine ⟨rfl, (FNw.nw h).set.set.set.set, Or.inr hl, nw_at _ _, fun q hq => ?_⟩
  rcases (show q = 0 ∨ q = 1 ∨ q = 2 ∨ q = 3 ∨ q = 4 ∨ q = 5 ∨ q = 6 ∨ q = 7 ∨ q = 8 ∨ q = 9 by omega) with rfl | rfl | rfl | rfl | rfl | rfl | rfl | rfl | rfl | rfl
  all_goals simp [hI_s, nw_0, ifd, f6]

set_option maxHeartbeats 4000000 in
set_option maxRecDepth 100000 in
theorem d_ofNumber5 {g : GX} {h : AH} {a b : Nat} (hl : 171 ≤ h.1.length) : Ct g mX2_ofNumber 2 1 10 [.int (nI 5), .int (nI a), .int (nI b)] h (fun ρ η => ρ = some (.ref h.1.length) ∧ FNw h η ∧ IN η h.1.length (f6 5 a b 0 0 0)) := by
  refine Ct_intro (by decide +kernel) (Nat.le_of_ble_eq_true rfl) ?_
  show V g mX2_ofNumber _ h 0 0 [(0, .int (nI 5)), (1, .int (nI a)), (2, .int (nI b))] 0 []
  refine V_new (q := 3) (ci := 2) (N := 10) dv_2 rfl (fun r hr => by cases hr; exact nX2_10) rfl dX2_ofNumber_0 rfl ?_
  refine V_dup (q := 4) dX2_ofNumber_3 rfl rfl ?_
  refine V_iload_n (j := 0) (q := 5) dX2_ofNumber_4 rfl rfl ?_
  refine V_callI (q := 8) (S := [.ref h.1.length]) kX2_15 (d_Iinit (nw_at _ _)) rfl rfl rfl dX2_ofNumber_5 rfl (fun r1 h2 p3 => ?_)
  obtain ⟨rfl, rfl⟩ := p3
  refine V_astore_n (q := 9) (L' := [(3, .ref h.1.length), (0, .int (nI 5)), (1, .int (nI a)), (2, .int (nI b))]) dX2_ofNumber_8 rfl rfl rfl ?_
  refine V_aload_n (j := 0) (q := 10) dX2_ofNumber_9 rfl rfl ?_
  refine V_iload_n (j := 2) (q := 11) dX2_ofNumber_10 rfl rfl ?_
  refine V_putI (q := 14) wX2_27 (nw_at _ _) rfl dX2_ofNumber_11 rfl ?_
  refine V_aload_n (j := 0) (q := 15) dX2_ofNumber_14 rfl rfl ?_
  refine V_iload_n (j := 3) (q := 16) dX2_ofNumber_15 rfl rfl ?_
  refine V_putI (q := 19) wX2_42 (nw_at _ _) rfl dX2_ofNumber_16 rfl ?_
  refine V_aload_n (j := 0) (q := 20) dX2_ofNumber_19 rfl rfl ?_
  refine V_aret rfl dX2_ofNumber_20 rfl rfl ?_
  refine ⟨rfl, (FNw.nw h).set.set.set, Or.inr hl, nw_at _ _, fun q hq => ?_⟩
  rcases (show q = 0 ∨ q = 1 ∨ q = 2 ∨ q = 3 ∨ q = 4 ∨ q = 5 ∨ q = 6 ∨ q = 7 ∨ q = 8 ∨ q = 9 by omega) with rfl | rfl | rfl | rfl | rfl | rfl | rfl | rfl | rfl | rfl
  all_goals simp [hI_s, nw_0, ifd, f6]

set_option maxHeartbeats 4000000 in
set_option maxRecDepth 100000 in
theorem d_ofNumber7 {g : GX} {h : AH} {a b : Nat} (hl : 171 ≤ h.1.length) : Ct g mX2_ofNumber 2 1 10 [.int (nI 7), .int (nI a), .int (nI b)] h (fun ρ η => ρ = some (.ref h.1.length) ∧ FNw h η ∧ IN η h.1.length (f6 7 a b 0 0 0)) := by
  refine Ct_intro (by decide +kernel) (Nat.le_of_ble_eq_true rfl) ?_
  show V g mX2_ofNumber _ h 0 0 [(0, .int (nI 7)), (1, .int (nI a)), (2, .int (nI b))] 0 []
  refine V_new (q := 3) (ci := 2) (N := 10) dv_2 rfl (fun r hr => by cases hr; exact nX2_10) rfl dX2_ofNumber_0 rfl ?_
  refine V_dup (q := 4) dX2_ofNumber_3 rfl rfl ?_
  refine V_iload_n (j := 0) (q := 5) dX2_ofNumber_4 rfl rfl ?_
  refine V_callI (q := 8) (S := [.ref h.1.length]) kX2_15 (d_Iinit (nw_at _ _)) rfl rfl rfl dX2_ofNumber_5 rfl (fun r1 h2 p3 => ?_)
  obtain ⟨rfl, rfl⟩ := p3
  refine V_astore_n (q := 9) (L' := [(3, .ref h.1.length), (0, .int (nI 7)), (1, .int (nI a)), (2, .int (nI b))]) dX2_ofNumber_8 rfl rfl rfl ?_
  refine V_aload_n (j := 0) (q := 10) dX2_ofNumber_9 rfl rfl ?_
  refine V_iload_n (j := 2) (q := 11) dX2_ofNumber_10 rfl rfl ?_
  refine V_putI (q := 14) wX2_27 (nw_at _ _) rfl dX2_ofNumber_11 rfl ?_
  refine V_aload_n (j := 0) (q := 15) dX2_ofNumber_14 rfl rfl ?_
  refine V_iload_n (j := 3) (q := 16) dX2_ofNumber_15 rfl rfl ?_
  refine V_putI (q := 19) wX2_42 (nw_at _ _) rfl dX2_ofNumber_16 rfl ?_
  refine V_aload_n (j := 0) (q := 20) dX2_ofNumber_19 rfl rfl ?_
  refine V_aret rfl dX2_ofNumber_20 rfl rfl ?_
  refine ⟨rfl, (FNw.nw h).set.set.set, Or.inr hl, nw_at _ _, fun q hq => ?_⟩
  rcases (show q = 0 ∨ q = 1 ∨ q = 2 ∨ q = 3 ∨ q = 4 ∨ q = 5 ∨ q = 6 ∨ q = 7 ∨ q = 8 ∨ q = 9 by omega) with rfl | rfl | rfl | rfl | rfl | rfl | rfl | rfl | rfl | rfl
  all_goals simp [hI_s, nw_0, ifd, f6]

set_option maxHeartbeats 4000000 in
set_option maxRecDepth 100000 in
theorem d_ofNumber8 {g : GX} {h : AH} {a : Nat} (hl : 171 ≤ h.1.length) : Ct g mX2_ofNumber 2 1 10 [.int (nI 8), .int (nI a), .int (nI 0)] h (fun ρ η => ρ = some (.ref h.1.length) ∧ FNw h η ∧ IN η h.1.length (f6 8 a 0 0 0 0)) := by
  refine Ct_intro (by decide +kernel) (Nat.le_of_ble_eq_true rfl) ?_
  show V g mX2_ofNumber _ h 0 0 [(0, .int (nI 8)), (1, .int (nI a)), (2, .int (nI 0))] 0 []
  refine V_new (q := 3) (ci := 2) (N := 10) dv_2 rfl (fun r hr => by cases hr; exact nX2_10) rfl dX2_ofNumber_0 rfl ?_
  refine V_dup (q := 4) dX2_ofNumber_3 rfl rfl ?_
  refine V_iload_n (j := 0) (q := 5) dX2_ofNumber_4 rfl rfl ?_
  refine V_callI (q := 8) (S := [.ref h.1.length]) kX2_15 (d_Iinit (nw_at _ _)) rfl rfl rfl dX2_ofNumber_5 rfl (fun r1 h2 p3 => ?_)
  obtain ⟨rfl, rfl⟩ := p3
  refine V_astore_n (q := 9) (L' := [(3, .ref h.1.length), (0, .int (nI 8)), (1, .int (nI a)), (2, .int (nI 0))]) dX2_ofNumber_8 rfl rfl rfl ?_
  refine V_aload_n (j := 0) (q := 10) dX2_ofNumber_9 rfl rfl ?_
  refine V_iload_n (j := 2) (q := 11) dX2_ofNumber_10 rfl rfl ?_
  refine V_putI (q := 14) wX2_27 (nw_at _ _) rfl dX2_ofNumber_11 rfl ?_
  refine V_aload_n (j := 0) (q := 15) dX2_ofNumber_14 rfl rfl ?_
  refine V_iload_n (j := 3) (q := 16) dX2_ofNumber_15 rfl rfl ?_
  refine V_putI (q := 19) wX2_42 (nw_at _ _) rfl dX2_ofNumber_16 rfl ?_
  refine V_aload_n (j := 0) (q := 20) dX2_ofNumber_19 rfl rfl ?_
  refine V_aret rfl dX2_ofNumber_20 rfl rfl ?_
  refine ⟨rfl, (FNw.nw h).set.set.set, Or.inr hl, nw_at _ _, fun q hq => ?_⟩
  rcases (show q = 0 ∨ q = 1 ∨ q = 2 ∨ q = 3 ∨ q = 4 ∨ q = 5 ∨ q = 6 ∨ q = 7 ∨ q = 8 ∨ q = 9 by omega) with rfl | rfl | rfl | rfl | rfl | rfl | rfl | rfl | rfl | rfl
  all_goals simp [hI_s, nw_0, ifd, f6]

set_option maxHeartbeats 4000000 in
set_option maxRecDepth 100000 in
theorem d_isLoadOrStore {g : GX} {h : AH} {u : Nat} {f : Nat → Nat} (N : IN h u f) (hf : f 0 ≤ 8) : Ct g mX2_isLoadOrStore 0 0 0 [.ref u] h (fun ρ η => ρ = some (.int (bi (decide (f 0 = 1) || decide (f 0 = 2)))) ∧ η = h) := by
  refine Ct_intro (by decide +kernel) (Nat.le_of_ble_eq_true rfl) ?_
  show V g mX2_isLoadOrStore _ h 0 0 [(0, .ref u)] 0 []
  refine V_aload_n (j := 0) (q := 1) dX2_isLoadOrStore_0 rfl rfl ?_
  refine V_getI (q := 4) fX2_9 N.2.1 rfl dX2_isLoadOrStore_1 rfl ?_
  refine V_rw (y := nI (ifd f 0)) (N.2.2 0 (by decide)) ?_
  refine V_rw (y := nI (f 0)) rfl ?_
  refine V_iconst (q := 5) (v := nI 2) dX2_isLoadOrStore_4 rfl rfl ?_
  refine V_icmp_eqN (tgt := 16) (q := 8) dX2_isLoadOrStore_5 rfl rfl (by omega) (by omega) (fun c1 => ?_) (fun c1 => ?_)
  · skip
    refine V_iconst (q := 17) (v := nI 1) dX2_isLoadOrStore_16 rfl rfl ?_
    refine V_goto (q := 21) dX2_isLoadOrStore_17 rfl ?_
    refine V_rw (y := bi true) rfl ?_
    refine V_zret (b := true) rfl dX2_isLoadOrStore_21 rfl rfl ?_
    exact ⟨pvb (by simp [c1]), rfl⟩
  · skip
    refine V_aload_n (j := 0) (q := 9) dX2_isLoadOrStore_8 rfl rfl ?_
    refine V_getI (q := 12) fX2_9 N.2.1 rfl dX2_isLoadOrStore_9 rfl ?_
    refine V_rw (y := nI (ifd f 0)) (N.2.2 0 (by decide)) ?_
    refine V_rw (y := nI (f 0)) rfl ?_
    refine V_iconst (q := 13) (v := nI 1) dX2_isLoadOrStore_12 rfl rfl ?_
    refine V_icmp_neN (tgt := 20) (q := 16) dX2_isLoadOrStore_13 rfl rfl (by omega) (by omega) (fun c2 => ?_) (fun c2 => ?_)
    · skip
      refine V_iconst (q := 21) (v := nI 0) dX2_isLoadOrStore_20 rfl rfl ?_
      refine V_rw (y := bi false) rfl ?_
      refine V_zret (b := false) rfl dX2_isLoadOrStore_21 rfl rfl ?_
      exact ⟨pvb (by simp [c1, c2]), rfl⟩
    · skip
      refine V_iconst (q := 17) (v := nI 1) dX2_isLoadOrStore_16 rfl rfl ?_
      refine V_goto (q := 21) dX2_isLoadOrStore_17 rfl ?_
      refine V_rw (y := bi true) rfl ?_
      refine V_zret (b := true) rfl dX2_isLoadOrStore_21 rfl rfl ?_
      exact ⟨pvb (by simp [c1, c2]), rfl⟩

set_option maxHeartbeats 4000000 in
set_option maxRecDepth 100000 in
theorem d_hasRecord {g : GX} {h : AH} {P : PG} {U : Nat → Nat} (X : CX h P U) {x : Int32} : Ct g mX5_hasRecord 0 0 0 [.ref 1, .int x] h (fun ρ η => ρ = some (.int (bi (isR P x))) ∧ η = h) := by
  refine Ct_intro (by decide +kernel) (Nat.le_of_ble_eq_true rfl) ?_
  show V g mX5_hasRecord _ h 0 0 [(0, .ref 1), (1, .int x)] 0 []
  have hN := X.2.2.2.2.1
  have hR := X.2.2.1
  refine V_iload_n (j := 1) (q := 1) dX5_hasRecord_0 rfl rfl ?_
  refine V_if_lt (tgt := 16) (q := 4) dX5_hasRecord_1 rfl rfl (fun c1 => ?_) (fun c1 => ?_)
  · skip
    refine V_iconst (q := 17) (v := nI 0) dX5_hasRecord_16 rfl rfl ?_
    refine V_rw (y := bi false) rfl ?_
    refine V_zret (b := false) rfl dX5_hasRecord_17 rfl rfl ?_
    exact ⟨pvb (by have e := i_n (n := pNr P) (by omega); simp only [i_lt, i_le, i_0, e] at *; simp [isR]; omega), rfl⟩
  · skip
    refine V_iload_n (j := 1) (q := 5) dX5_hasRecord_4 rfl rfl ?_
    refine V_aload_n (j := 0) (q := 6) dX5_hasRecord_5 rfl rfl ?_
    refine V_getI (q := 9) fX5_28 (X.1.1 1 _ s_1) rfl dX5_hasRecord_6 rfl ?_
    refine V_rw (y := nI (pNr P)) X.2.1.1 ?_
    refine V_icmp_ge (tgt := 16) (q := 12) dX5_hasRecord_9 rfl rfl (fun c2 => ?_) (fun c2 => ?_)
    · skip
      refine V_iconst (q := 17) (v := nI 0) dX5_hasRecord_16 rfl rfl ?_
      refine V_rw (y := bi false) rfl ?_
      refine V_zret (b := false) rfl dX5_hasRecord_17 rfl rfl ?_
      exact ⟨pvb (by have e := i_n (n := pNr P) (by omega); simp only [i_lt, i_le, i_0, e] at *; simp [isR]; omega), rfl⟩
    · skip
      refine V_iconst (q := 13) (v := nI 1) dX5_hasRecord_12 rfl rfl ?_
      refine V_goto (q := 17) dX5_hasRecord_13 rfl ?_
      refine V_rw (y := bi true) rfl ?_
      refine V_zret (b := true) rfl dX5_hasRecord_17 rfl rfl ?_
      exact ⟨pvb (by have e := i_n (n := pNr P) (by omega); simp only [i_lt, i_le, i_0, e] at *; simp [isR]; omega), rfl⟩

def isI (P : PG) (x : Int32) : Bool := decide (0 ≤ x.toInt ∧ x.toInt < pNi P)
set_option maxHeartbeats 4000000 in
set_option maxRecDepth 100000 in
theorem d_hasInstruction {g : GX} {h : AH} {P : PG} {U : Nat → Nat} (X : CX h P U) {x : Int32} : Ct g mX5_hasInstruction 0 0 0 [.ref 1, .int x] h (fun ρ η => ρ = some (.int (bi (isI P x))) ∧ η = h) := by
  refine Ct_intro (by decide +kernel) (Nat.le_of_ble_eq_true rfl) ?_
  show V g mX5_hasInstruction _ h 0 0 [(0, .ref 1), (1, .int x)] 0 []
  have hN := X.2.2.2.2.1
  have hR := X.2.2.1
  refine V_iload_n (j := 1) (q := 1) dX5_hasInstruction_0 rfl rfl ?_
  refine V_if_lt (tgt := 16) (q := 4) dX5_hasInstruction_1 rfl rfl (fun c1 => ?_) (fun c1 => ?_)
  · skip
    refine V_iconst (q := 17) (v := nI 0) dX5_hasInstruction_16 rfl rfl ?_
    refine V_rw (y := bi false) rfl ?_
    refine V_zret (b := false) rfl dX5_hasInstruction_17 rfl rfl ?_
    exact ⟨pvb (by have e := i_n (n := pNi P) (by omega); simp only [i_lt, i_le, i_0, e] at *; simp [isI]; omega), rfl⟩
  · skip
    refine V_iload_n (j := 1) (q := 5) dX5_hasInstruction_4 rfl rfl ?_
    refine V_aload_n (j := 0) (q := 6) dX5_hasInstruction_5 rfl rfl ?_
    refine V_getI (q := 9) fX5_32 (X.1.1 1 _ s_1) rfl dX5_hasInstruction_6 rfl ?_
    refine V_rw (y := nI (pNi P)) X.2.1.2.1 ?_
    refine V_icmp_ge (tgt := 16) (q := 12) dX5_hasInstruction_9 rfl rfl (fun c2 => ?_) (fun c2 => ?_)
    · skip
      refine V_iconst (q := 17) (v := nI 0) dX5_hasInstruction_16 rfl rfl ?_
      refine V_rw (y := bi false) rfl ?_
      refine V_zret (b := false) rfl dX5_hasInstruction_17 rfl rfl ?_
      exact ⟨pvb (by have e := i_n (n := pNi P) (by omega); simp only [i_lt, i_le, i_0, e] at *; simp [isI]; omega), rfl⟩
    · skip
      refine V_iconst (q := 13) (v := nI 1) dX5_hasInstruction_12 rfl rfl ?_
      refine V_goto (q := 17) dX5_hasInstruction_13 rfl ?_
      refine V_rw (y := bi true) rfl ?_
      refine V_zret (b := true) rfl dX5_hasInstruction_17 rfl rfl ?_
      exact ⟨pvb (by have e := i_n (n := pNi P) (by omega); simp only [i_lt, i_le, i_0, e] at *; simp [isI]; omega), rfl⟩

set_option maxHeartbeats 4000000 in
set_option maxRecDepth 100000 in
theorem d_sizeOf {g : GX} {h : AH} {P : PG} {U : Nat → Nat} (X : CX h P U) {x : Int32} : Ct g mX5_sizeOf 1 0 0 [.ref 1, .int x] h (fun ρ η => ρ = some (.int (nI (szR P x))) ∧ η = h) := by
  refine Ct_intro (by decide +kernel) (Nat.le_of_ble_eq_true rfl) ?_
  show V g mX5_sizeOf _ h 0 0 [(0, .ref 1), (1, .int x)] 0 []
  have hN := X.2.2.2.2.1
  have hR := X.2.2.1
  refine V_aload_n (j := 0) (q := 1) dX5_sizeOf_0 rfl rfl ?_
  refine V_iload_n (j := 1) (q := 2) dX5_sizeOf_1 rfl rfl ?_
  refine V_cpV (q := 5) (S := []) (v := .int (bi (isR P x))) kX5_35 (d_hasRecord (x := x) X) (X.1.1 1 _ s_1) rfl rfl rfl dX5_sizeOf_2 rfl ?_
  refine V_if_eqB (tgt := 17) (q := 8) dX5_sizeOf_5 rfl rfl (fun c1 => ?_) (fun c1 => ?_)
  · skip
    refine V_iconst (q := 18) (v := nI 0) dX5_sizeOf_17 rfl rfl ?_
    refine V_iret rfl dX5_sizeOf_18 rfl rfl ?_
    exact ⟨pv (by first | (simp [szR, c1]; done) | (simp [szR, c1, nx])), rfl⟩
  · skip
    obtain ⟨r, hr, rfl⟩ := isR_of c1
    have nx := nt_n (n := r) (by omega)
    refine V_aload_n (j := 0) (q := 9) dX5_sizeOf_8 rfl rfl ?_
    refine V_getP (q := 12) (r := 2) fX5_9 (X.1.1 1 _ s_1) rfl (X.1.2.1 1 0 _ rfl) dX5_sizeOf_9 rfl ?_
    refine V_iload_n (j := 1) (q := 13) dX5_sizeOf_12 rfl rfl ?_
    refine V_iald (q := 14) (X.1.1 2 _ s_2) (by omega) (by decide) dX5_sizeOf_13 rfl ?_
    refine V_rw (y := nI (pSz P r)) (X.2.1.2.2.1 _ (by omega)) ?_
    refine V_goto (q := 18) dX5_sizeOf_14 rfl ?_
    refine V_iret rfl dX5_sizeOf_18 rfl rfl ?_
    exact ⟨pv (by first | (simp [szR, c1]; done) | (simp [szR, c1, nx])), rfl⟩

theorem szR_le {P : PG} (ok : OkP P) (x : Int32) : szR P x ≤ 16 := by
  unfold szR
  split
  · rename_i h
    obtain ⟨r, hr, rfl⟩ := isR_of h
    have := ok.1
    rw [nt_n (by omega)]
    exact (ok.2.1 r hr).2
  · omega
theorem rngB_sz {P : PG} {x y z : Int32} : rngB P x y z = true ↔ 1 ≤ z.toInt ∧ 0 ≤ y.toInt ∧ y.toInt + z.toInt ≤ szR P x := by
  simp only [rngB, decide_eq_true_eq, szR, isR]
  by_cases h : 0 ≤ x.toInt ∧ x.toInt < pNr P
  · rw [if_pos h]; omega
  · rw [if_neg h]; omega
theorem szR_n {P : PG} (ok : OkP P) (r : Nat) (hr : r < 2 ^ 31) : szR P (nI r) = szx P r := by
  unfold szR szx
  rw [nt_n hr]
  by_cases h : r < pNr P
  · rw [if_pos h, if_pos (isR_n ok h)]
  · rw [if_neg h, if_neg]
    simp only [isR, decide_eq_true_eq]
    rw [i_n hr]; omega
set_option maxHeartbeats 4000000 in
set_option maxRecDepth 100000 in
theorem d_holdsRange {g : GX} {h : AH} {P : PG} {U : Nat → Nat} (X : CX h P U) {x y z : Int32} : Ct g mX5_holdsRange 2 0 0 [.ref 1, .int x, .int y, .int z] h (fun ρ η => ρ = some (.int (bi (rngB P x y z))) ∧ η = h) := by
  refine Ct_intro (by decide +kernel) (Nat.le_of_ble_eq_true rfl) ?_
  show V g mX5_holdsRange _ h 0 0 [(0, .ref 1), (1, .int x), (2, .int y), (3, .int z)] 0 []
  have hN := X.2.2.2.2.1
  have hR := X.2.2.1
  have hz := szR_le X.2.2 x
  refine V_aload_n (j := 0) (q := 1) dX5_holdsRange_0 rfl rfl ?_
  refine V_iload_n (j := 1) (q := 2) dX5_holdsRange_1 rfl rfl ?_
  refine V_cpV (q := 5) (S := []) (v := .int (nI (szR P x))) kX5_39 (d_sizeOf (x := x) X) (X.1.1 1 _ s_1) rfl rfl rfl dX5_holdsRange_2 rfl ?_
  refine V_istore (q := 7) (L' := [(4, .int (nI (szR P x))), (0, .ref 1), (1, .int x), (2, .int y), (3, .int z)]) dX5_holdsRange_5 rfl rfl rfl ?_
  refine V_iload_n (j := 4) (q := 8) dX5_holdsRange_7 rfl rfl ?_
  refine V_iconst (q := 9) (v := nI 1) dX5_holdsRange_8 rfl rfl ?_
  refine V_icmp_lt (tgt := 34) (q := 12) dX5_holdsRange_9 rfl rfl (fun c1 => ?_) (fun c1 => ?_)
  · skip
    rw [i_lt, i_n (show 1 < 2 ^ 31 by decide)] at c1
    refine V_iconst (q := 35) (v := nI 0) dX5_holdsRange_34 rfl rfl ?_
    refine V_rw (y := bi false) rfl ?_
    refine V_zret (b := false) rfl dX5_holdsRange_35 rfl rfl ?_
    exact ⟨pvb (by cases hb : rngB P x y z with | false => rfl | true => (have := rngB_sz.mp hb; omega)), rfl⟩
  · skip
    rw [i_lt, i_n (show 1 < 2 ^ 31 by decide)] at c1
    refine V_iload_n (j := 4) (q := 13) dX5_holdsRange_12 rfl rfl ?_
    refine V_iload (j := 0) (q := 15) dX5_holdsRange_13 rfl rfl ?_
    refine V_icmp_gt (tgt := 34) (q := 18) dX5_holdsRange_15 rfl rfl (fun c2 => ?_) (fun c2 => ?_)
    · skip
      rw [i_lt, i_n (by omega)] at c2
      refine V_iconst (q := 35) (v := nI 0) dX5_holdsRange_34 rfl rfl ?_
      refine V_rw (y := bi false) rfl ?_
      refine V_zret (b := false) rfl dX5_holdsRange_35 rfl rfl ?_
      exact ⟨pvb (by cases hb : rngB P x y z with | false => rfl | true => (have := rngB_sz.mp hb; omega)), rfl⟩
    · skip
      rw [i_lt, i_n (by omega)] at c2
      refine V_iload_n (j := 3) (q := 19) dX5_holdsRange_18 rfl rfl ?_
      refine V_if_lt (tgt := 34) (q := 22) dX5_holdsRange_19 rfl rfl (fun c3 => ?_) (fun c3 => ?_)
      · skip
        rw [i_lt, i_0] at c3
        refine V_iconst (q := 35) (v := nI 0) dX5_holdsRange_34 rfl rfl ?_
        refine V_rw (y := bi false) rfl ?_
        refine V_zret (b := false) rfl dX5_holdsRange_35 rfl rfl ?_
        exact ⟨pvb (by cases hb : rngB P x y z with | false => rfl | true => (have := rngB_sz.mp hb; omega)), rfl⟩
      · skip
        rw [i_lt, i_0] at c3
        refine V_iload_n (j := 3) (q := 23) dX5_holdsRange_22 rfl rfl ?_
        refine V_iload (j := 0) (q := 25) dX5_holdsRange_23 rfl rfl ?_
        refine V_iload_n (j := 4) (q := 26) dX5_holdsRange_25 rfl rfl ?_
        refine V_isub (q := 27) dX5_holdsRange_26 rfl ?_
        refine V_icmp_gt (tgt := 34) (q := 30) dX5_holdsRange_27 rfl rfl (fun c4 => ?_) (fun c4 => ?_)
        · skip
          have es : (nI (szR P x) - z).toInt = szR P x - z.toInt := by rw [i_sub, i_n (by omega)]; rw [i_n (by omega)]; omega
          rw [i_lt, es] at c4
          refine V_iconst (q := 35) (v := nI 0) dX5_holdsRange_34 rfl rfl ?_
          refine V_rw (y := bi false) rfl ?_
          refine V_zret (b := false) rfl dX5_holdsRange_35 rfl rfl ?_
          exact ⟨pvb (by cases hb : rngB P x y z with | false => rfl | true => (have := rngB_sz.mp hb; omega)), rfl⟩
        · skip
          have es : (nI (szR P x) - z).toInt = szR P x - z.toInt := by rw [i_sub, i_n (by omega)]; rw [i_n (by omega)]; omega
          rw [i_lt, es] at c4
          refine V_iconst (q := 31) (v := nI 1) dX5_holdsRange_30 rfl rfl ?_
          refine V_goto (q := 35) dX5_holdsRange_31 rfl ?_
          refine V_rw (y := bi true) rfl ?_
          refine V_zret (b := true) rfl dX5_holdsRange_35 rfl rfl ?_
          exact ⟨pvb (rngB_sz.mpr (by omega)).symm, rfl⟩

def uat (P : PG) (U : Nat → Nat) (x : Int32) : Nat := if isI P x = true then U (nt x) else 4
theorem isI_n {P : PG} {i : Nat} (hi : i < pNi P) (h : i < 2 ^ 31) : isI P (nI i) = true := by
  simp only [isI, decide_eq_true_eq]
  rw [i_n h]; omega
theorem uat_n {P : PG} {U : Nat → Nat} {i : Nat} (hi : i < pNi P) (h : i < 2 ^ 31) : uat P U (nI i) = U i := by
  unfold uat
  rw [if_pos (isI_n hi h), nt_n h]
theorem pva {x y : Nat} (e : x = y) : some (Value.ref x) = some (Value.ref y) := by rw [e]
set_option maxHeartbeats 4000000 in
set_option maxRecDepth 100000 in
theorem d_at {g : GX} {h : AH} {P : PG} {U : Nat → Nat} (X : CX h P U) {x : Int32} : Ct g mX5_at 1 0 0 [.ref 1, .int x] h (fun ρ η => ρ = some (.ref (uat P U x)) ∧ η = h) := by
  refine Ct_intro (by decide +kernel) (Nat.le_of_ble_eq_true rfl) ?_
  show V g mX5_at _ h 0 0 [(0, .ref 1), (1, .int x)] 0 []
  have hN := X.2.2.2.2.1
  have hR := X.2.2.1
  refine V_aload_n (j := 0) (q := 1) dX5_at_0 rfl rfl ?_
  refine V_iload_n (j := 1) (q := 2) dX5_at_1 rfl rfl ?_
  refine V_cpV (q := 5) (S := []) (v := .int (bi (isI P x))) kX5_43 (d_hasInstruction (x := x) X) (X.1.1 1 _ s_1) rfl rfl rfl dX5_at_2 rfl ?_
  refine V_if_eqB (tgt := 17) (q := 8) dX5_at_5 rfl rfl (fun c1 => ?_) (fun c1 => ?_)
  · skip
    refine V_aload_n (j := 0) (q := 18) dX5_at_17 rfl rfl ?_
    refine V_getP (q := 21) (r := 4) fX5_24 (X.1.1 1 _ s_1) rfl (X.1.2.1 1 2 _ rfl) dX5_at_18 rfl ?_
    refine V_aret rfl dX5_at_21 rfl rfl ?_
    exact ⟨pva (by first | (simp [uat, c1]; done) | (simp [uat, c1, nx])), rfl⟩
  · skip
    obtain ⟨i, hi, rfl⟩ := i_of (of_decide_eq_true c1).1 (of_decide_eq_true c1).2
    have nx := nt_n (n := i) (by omega)
    refine V_aload_n (j := 0) (q := 9) dX5_at_8 rfl rfl ?_
    refine V_getP (q := 12) (r := 3) fX5_17 (X.1.1 1 _ s_1) rfl (X.1.2.1 1 1 _ rfl) dX5_at_9 rfl ?_
    refine V_iload_n (j := 1) (q := 13) dX5_at_12 rfl rfl ?_
    refine V_aald (q := 14) (c := 12) (r := (U i)) (by decide) (X.1.1 3 _ s_3) (by omega) (by decide) ((X.2.1.2.2.2.1 _ (by omega)).1) dX5_at_13 rfl ?_
    refine V_goto (q := 21) dX5_at_14 rfl ?_
    refine V_aret rfl dX5_at_21 rfl rfl ?_
    exact ⟨pva (by first | (simp [uat, c1]; done) | (simp [uat, c1, nx])), rfl⟩


/-! one instruction of the class's run -/
def rsm (P : PG) (n rs : Nat) (s : RSt) : Nat := if pFd P n 0 = 7 ∧ sG s (pFd P n 1) = 0 then n + 1 + pFd P n 2 else rs
theorem rsm_n {P : PG} {n rs : Nat} {s : RSt} (h : ¬ pFd P n 0 = 7) : rsm P n rs s = rs := if_neg (fun w => h w.1)
theorem a_0 (x : Int32) : x + nI 0 = x := Int32.add_zero x
theorem CR_st {P : PG} {h η : AH} {tr : Bool} {rs n : Nat} {s : RSt} (R : CR h tr rs s) (hk : pFd P n 0 = 1) (z : (tr = true ∧ liv P (acP P n) = false ∧ η = h) ∨ (¬ (tr = true ∧ liv P (acP P n) = false) ∧ ∃ e, FBy h e ∧ BY e (stoB (16 * pFd P n 1 + pFd P n 2) (sG s (pFd P n 4)) (pFd P n 3) (sB s)) ∧ η = sI e 151 8 (sC s + nI (if tr = true ∧ prm P (acP P n) = true then 0 else 1)))) : FRn h η ∧ CR η tr rs (stp P tr n s) := by
  obtain ⟨r1, r2, r3, r4, r5, r6, r7, r8, r9⟩ := R
  unfold stp
  rw [if_pos hk]
  rcases z with ⟨z1, z2, rfl⟩ | ⟨z1, e, F, Be, rfl⟩
  · refine ⟨FRn.rf _, ?_, r2, r3, r4, r5, ?_, r7, r8, r9⟩
    · show BY η (if tr = true ∧ liv P (acP P n) = false then sB s else _)
      rw [if_pos ⟨z1, z2⟩]; exact r1
    · show hI η 151 8 = sC s + nI (acC P tr n)
      have : acC P tr n = 0 := by unfold acC; rw [if_pos ⟨z1, Or.inr z2⟩]
      rw [this, a_0]; exact r6
  · have e151 : ∀ k, k ≠ 8 → hI (sI e 151 8 (sC s + nI (if tr = true ∧ prm P (acP P n) = true then 0 else 1))) 151 k = hI h 151 k := fun k hk => by rw [hI_s, if_neg (fun w => hk w.2), F.2 151 (by decide)]
    refine ⟨F.rn.set (by decide), ?_, ?_, ?_, ?_, ?_, ?_, ?_, ?_, ?_⟩
    · show BY _ (if tr = true ∧ liv P (acP P n) = false then sB s else _)
      rw [if_neg z1]
      intro q hq j hj
      rw [hI_n (by omega)]; exact Be q hq j hj
    · intro x hx; rw [hI_n (by decide), F.2 152 (by decide)]; exact r2 x hx
    · intro x hx; rw [hI_n (by decide), F.2 158 (by decide)]; exact r3 x hx
    · rw [e151 _ (by decide)]; exact r4
    · rw [e151 _ (by decide)]; exact r5
    · rw [hI_s, if_pos ⟨rfl, rfl⟩]
      show sC s + nI _ = sC s + nI (acC P tr n)
      congr 2
      unfold acC
      by_cases y : tr = true ∧ prm P (acP P n) = true
      · rw [if_pos y, if_pos ⟨y.1, Or.inl y.2⟩]
      · rw [if_neg y, if_neg]
        rintro ⟨w1, w2 | w2⟩
        · exact y ⟨w1, w2⟩
        · exact z1 ⟨w1, w2⟩
    · rw [e151 _ (by decide)]; exact r7
    · rw [e151 _ (by decide)]; exact r8
    · rw [e151 _ (by decide)]; exact r9
theorem liv_ldc {P : PG} (ok : OkP P) {n : Nat} (hn : n < pNi P) (hk : pFd P n 0 = 2) : liv P (acP P n) = true := @decide_eq_true _ (Classical.propDecidable _) (LV_bs (Or.inr ⟨n, hn, hk, rfl⟩))
theorem CR_ld {P : PG} (ok : OkP P) {h : AH} {tr : Bool} {rs n : Nat} {s : RSt} (hn : n < pNi P) (R : CR h tr rs s) (hk : pFd P n 0 = 2) (h8 : pFd P n 4 < 8) : FRn h (sI (sI h 152 (pFd P n 4) (ldV (sB s) (16 * pFd P n 1 + pFd P n 2) (pFd P n 3))) 151 8 (sC s + nI (if tr = true ∧ prm P (acP P n) = true then 0 else 1))) ∧ CR (sI (sI h 152 (pFd P n 4) (ldV (sB s) (16 * pFd P n 1 + pFd P n 2) (pFd P n 3))) 151 8 (sC s + nI (if tr = true ∧ prm P (acP P n) = true then 0 else 1))) tr rs (stp P tr n s) := by
  obtain ⟨r1, r2, r3, r4, r5, r6, r7, r8, r9⟩ := R
  have hl := liv_ldc ok hn hk
  have es : stp P tr n s = (sB s, upd (sG s) (pFd P n 4) (ldV (sB s) (16 * pFd P n 1 + pFd P n 2) (pFd P n 3)), sO s, sN s, sS s, sC s + nI (acC P tr n), sT s) := by
    unfold stp
    rw [if_neg (by omega), if_pos hk]
  rw [es]
  refine ⟨((FRn.rf h).set (by decide)).set (by decide), ?_, ?_, ?_, ?_, ?_, ?_, ?_, ?_, ?_⟩
  · intro q hq j hj; rw [hI_n (by omega), hI_n (by omega)]; exact r1 q hq j hj
  · intro x hx
    rw [hI_n (by decide), hI_s]
    show _ = upd (sG s) (pFd P n 4) _ x
    rw [upd_at]
    by_cases y : x = pFd P n 4
    · rw [if_pos ⟨rfl, y⟩, if_pos y]
    · rw [if_neg (fun w => y w.2), if_neg y]; exact r2 x hx
  · intro x hx; rw [hI_n (by decide), hI_n (by decide)]; exact r3 x hx
  · rw [hI_s, if_neg (by decide), hI_n (by decide)]; exact r4
  · rw [hI_s, if_neg (by decide), hI_n (by decide)]; exact r5
  · rw [hI_s, if_pos ⟨rfl, rfl⟩]
    show sC s + nI _ = sC s + nI (acC P tr n)
    congr 2
    unfold acC
    by_cases y : tr = true ∧ prm P (acP P n) = true
    · rw [if_pos y, if_pos ⟨y.1, Or.inl y.2⟩]
    · rw [if_neg y, if_neg]
      rintro ⟨w1, w2 | w2⟩
      · exact y ⟨w1, w2⟩
      · rw [hl] at w2; cases w2
  · rw [hI_s, if_neg (by decide), hI_n (by decide)]; exact r7
  · rw [hI_s, if_neg (by decide), hI_n (by decide)]; exact r8
  · rw [hI_s, if_neg (by decide), hI_n (by decide)]; exact r9

theorem CR_cw {P : PG} {h e : AH} {tr : Bool} {rs n : Nat} {s : RSt} (R : CR h tr rs s) (hk : pFd P n 0 = 3) (ht : tr = false) (F : FBy h e) (Be : BY e (cpB (16 * pFd P n 1 + pFd P n 2 + 0) (16 * pFd P n 3 + pFd P n 4 + 0) (pFd P n 5) (sB s))) : FRn h (sI e 151 8 (sC s + nI (pFd P n 5))) ∧ CR (sI e 151 8 (sC s + nI (pFd P n 5))) tr rs (stp P tr n s) := by
  obtain ⟨r1, r2, r3, r4, r5, r6, r7, r8, r9⟩ := R
  have es : stp P tr n s = (cpB (16 * pFd P n 1 + pFd P n 2) (16 * pFd P n 3 + pFd P n 4) (pFd P n 5) (sB s), sG s, sO s, sN s, sS s, sC s + nI (pFd P n 5), sT s) := by
    unfold stp
    rw [if_neg (by omega), if_neg (by omega), if_pos hk, if_neg (by rw [ht]; decide)]
  rw [es]
  have e151 : ∀ k, k ≠ 8 → hI (sI e 151 8 (sC s + nI (pFd P n 5))) 151 k = hI h 151 k := fun k hk => by rw [hI_s, if_neg (fun w => hk w.2), F.2 151 (by decide)]
  refine ⟨F.rn.set (by decide), ?_, ?_, ?_, ?_, ?_, ?_, ?_, ?_, ?_⟩
  · intro q hq j hj
    rw [hI_n (by omega)]; exact Be q hq j hj
  · intro x hx; rw [hI_n (by decide), F.2 152 (by decide)]; exact r2 x hx
  · intro x hx; rw [hI_n (by decide), F.2 158 (by decide)]; exact r3 x hx
  · rw [e151 _ (by decide)]; exact r4
  · rw [e151 _ (by decide)]; exact r5
  · rw [hI_s, if_pos ⟨rfl, rfl⟩]
  · rw [e151 _ (by decide)]; exact r7
  · rw [e151 _ (by decide)]; exact r8
  · rw [e151 _ (by decide)]; exact r9
theorem CR_cl {P : PG} {h η : AH} {tr : Bool} {rs n : Nat} {s : RSt} (R : CR h tr rs s) (hk : pFd P n 0 = 3) (ht : tr = true) (F : FC h η) (Be : BY η (cpS P n (pFd P n 5) (sB s, sC s)).1) (Ce : hI η 151 8 = (cpS P n (pFd P n 5) (sB s, sC s)).2) : FRn h η ∧ CR η tr rs (stp P tr n s) := by
  obtain ⟨r1, r2, r3, r4, r5, r6, r7, r8, r9⟩ := R
  have es : stp P tr n s = ((cpS P n (pFd P n 5) (sB s, sC s)).1, sG s, sO s, sN s, sS s, (cpS P n (pFd P n 5) (sB s, sC s)).2, sT s) := by
    unfold stp
    rw [if_neg (by omega), if_neg (by omega), if_pos hk, if_pos ht]
  rw [es]
  have e151 := F.2.1
  refine ⟨F.1, Be, ?_, ?_, ?_, ?_, Ce, ?_, ?_, ?_⟩
  · intro x hx; rw [F.2.2.1]; exact r2 x hx
  · intro x hx; rw [F.2.2.2]; exact r3 x hx
  · rw [e151 _ (by decide)]; exact r4
  · rw [e151 _ (by decide)]; exact r5
  · rw [e151 _ (by decide)]; exact r7
  · rw [e151 _ (by decide)]; exact r8
  · rw [e151 _ (by decide)]; exact r9
theorem CR_es {P : PG} {h : AH} {tr : Bool} {rs n : Nat} {s : RSt} (R : CR h tr rs s) (hk : pFd P n 0 = 4) (hr : pFd P n 1 < 4) : FRn h (sI (sI (sI h 151 7 (esS (sB s) (16 * pFd P n 1) (sS s) (pSz P (pFd P n 1)))) (154 + pFd P n 1) 0 ((sB s (16 * pFd P n 1) + nI 1) &&& nI 255)) 151 8 (sC s + nI (pSz P (pFd P n 1)))) ∧ CR (sI (sI (sI h 151 7 (esS (sB s) (16 * pFd P n 1) (sS s) (pSz P (pFd P n 1)))) (154 + pFd P n 1) 0 ((sB s (16 * pFd P n 1) + nI 1) &&& nI 255)) 151 8 (sC s + nI (pSz P (pFd P n 1)))) tr rs (stp P tr n s) := by
  obtain ⟨r1, r2, r3, r4, r5, r6, r7, r8, r9⟩ := R
  have es : stp P tr n s = (upd (sB s) (16 * pFd P n 1) ((sB s (16 * pFd P n 1) + nI 1) &&& nI 255), sG s, sO s, sN s, esS (sB s) (16 * pFd P n 1) (sS s) (pSz P (pFd P n 1)), sC s + nI (pSz P (pFd P n 1)), sT s) := by
    unfold stp
    rw [if_neg (by omega), if_neg (by omega), if_neg (by omega), if_pos hk]
  rw [es]
  refine ⟨(((FRn.rf h).set (by decide)).set (by omega)).set (by decide), ?_, ?_, ?_, ?_, ?_, ?_, ?_, ?_, ?_⟩
  · have B1 : BY (sI h 151 7 (esS (sB s) (16 * pFd P n 1) (sS s) (pSz P (pFd P n 1)))) (sB s) := fun q hq j hj => by rw [hI_n (by omega)]; exact r1 q hq j hj
    have B2 := BY_set (v := (sB s (16 * pFd P n 1) + nI 1) &&& nI 255) B1 hr (k := 0) (by decide)
    intro q hq j hj
    rw [hI_n (by omega)]; exact B2 q hq j hj
  · intro x hx; rw [hI_n (by decide), hI_n (by omega), hI_n (by decide)]; exact r2 x hx
  · intro x hx; rw [hI_n (by decide), hI_n (by omega), hI_n (by decide)]; exact r3 x hx
  · rw [hI_s, if_neg (by decide), hI_n (by omega), hI_s, if_neg (by decide)]; exact r4
  · rw [hI_s, if_neg (by decide), hI_n (by omega), hI_s, if_pos ⟨rfl, rfl⟩]
  · rw [hI_s, if_pos ⟨rfl, rfl⟩]
  · rw [hI_s, if_neg (by decide), hI_n (by omega), hI_s, if_neg (by decide)]; exact r7
  · rw [hI_s, if_neg (by decide), hI_n (by omega), hI_s, if_neg (by decide)]; exact r8
  · rw [hI_s, if_neg (by decide), hI_n (by omega), hI_s, if_neg (by decide)]; exact r9
/-- a register set -/
theorem CR_g {h : AH} {tr : Bool} {rs x : Nat} {v : Int32} {s s' : RSt} (R : CR h tr rs s) (e : s' = (sB s, upd (sG s) x v, sO s, sN s, sS s, sC s, sT s)) : FRn h (sI h 152 x v) ∧ CR (sI h 152 x v) tr rs s' := by
  obtain ⟨r1, r2, r3, r4, r5, r6, r7, r8, r9⟩ := R
  rw [e]
  refine ⟨(FRn.rf h).set (by decide), ?_, ?_, ?_, ?_, ?_, ?_, ?_, ?_, ?_⟩
  · intro q hq j hj; rw [hI_n (by omega)]; exact r1 q hq j hj
  · intro y hy
    rw [hI_s]
    show _ = upd (sG s) x v y
    rw [upd_at]
    by_cases z : y = x
    · rw [if_pos ⟨rfl, z⟩, if_pos z]
    · rw [if_neg (fun w => z w.2), if_neg z]; exact r2 y hy
  · intro x hx; rw [hI_n (by decide)]; exact r3 x hx
  all_goals rw [hI_n (by decide)]; assumption
theorem CR_tp {h : AH} {tr : Bool} {rs : Nat} {v : Int32} {s s' : RSt} (R : CR h tr rs s) (e : s' = (sB s, sG s, sO s, sN s, sS s, sC s, v)) : FRn h (sI h 151 9 v) ∧ CR (sI h 151 9 v) tr rs s' := by
  obtain ⟨r1, r2, r3, r4, r5, r6, r7, r8, r9⟩ := R
  rw [e]
  refine ⟨(FRn.rf h).set (by decide), ?_, ?_, ?_, ?_, ?_, ?_, ?_, ?_, ?_⟩
  · intro q hq j hj; rw [hI_n (by omega)]; exact r1 q hq j hj
  · intro x hx; rw [hI_n (by decide)]; exact r2 x hx
  · intro x hx; rw [hI_n (by decide)]; exact r3 x hx
  · rw [hI_s, if_neg (by decide)]; exact r4
  · rw [hI_s, if_neg (by decide)]; exact r5
  · rw [hI_s, if_neg (by decide)]; exact r6
  · rw [hI_s, if_pos ⟨rfl, rfl⟩]
  · rw [hI_s, if_neg (by decide)]; exact r8
  · rw [hI_s, if_neg (by decide)]; exact r9
theorem CR_rs {h : AH} {tr : Bool} {rs x : Nat} {s : RSt} (R : CR h tr rs s) : FRn h (sI h 151 10 (nI x)) ∧ CR (sI h 151 10 (nI x)) tr x s := by
  obtain ⟨r1, r2, r3, r4, r5, r6, r7, r8, r9⟩ := R
  refine ⟨(FRn.rf h).set (by decide), ?_, ?_, ?_, ?_, ?_, ?_, ?_, ?_, ?_⟩
  · intro q hq j hj; rw [hI_n (by omega)]; exact r1 q hq j hj
  · intro x hx; rw [hI_n (by decide)]; exact r2 x hx
  · intro x hx; rw [hI_n (by decide)]; exact r3 x hx
  · rw [hI_s, if_neg (by decide)]; exact r4
  · rw [hI_s, if_neg (by decide)]; exact r5
  · rw [hI_s, if_neg (by decide)]; exact r6
  · rw [hI_s, if_neg (by decide)]; exact r7
  · rw [hI_s, if_neg (by decide)]; exact r8
  · rw [hI_s, if_pos ⟨rfl, rfl⟩]
theorem CR_ou {h : AH} {tr : Bool} {rs : Nat} {v : Int32} {s s' : RSt} (R : CR h tr rs s) (e : s' = (sB s, sG s, upd (sO s) (sN s) v, sN s + 1, sS s, sC s, sT s)) : FRn h (sI (sI h 158 (sN s) v) 151 6 (nI (sN s + 1))) ∧ CR (sI (sI h 158 (sN s) v) 151 6 (nI (sN s + 1))) tr rs s' := by
  obtain ⟨r1, r2, r3, r4, r5, r6, r7, r8, r9⟩ := R
  rw [e]
  refine ⟨((FRn.rf h).set (by decide)).set (by decide), ?_, ?_, ?_, ?_, ?_, ?_, ?_, ?_, ?_⟩
  · intro q hq j hj; rw [hI_n (by omega), hI_n (by omega)]; exact r1 q hq j hj
  · intro x hx; rw [hI_n (by decide), hI_n (by decide)]; exact r2 x hx
  · intro x hx
    have hx : x < sN s + 1 := hx
    rw [hI_n (by decide), hI_s]
    show _ = upd (sO s) (sN s) v x
    rw [upd_at]
    by_cases z : x = sN s
    · rw [if_pos ⟨rfl, z⟩, if_pos z]
    · rw [if_neg (fun w => z w.2), if_neg z]; exact r3 x (by omega)
  · rw [hI_s, if_pos ⟨rfl, rfl⟩]
  · rw [hI_s, if_neg (by decide), hI_n (by decide)]; exact r5
  · rw [hI_s, if_neg (by decide), hI_n (by decide)]; exact r6
  · rw [hI_s, if_neg (by decide), hI_n (by decide)]; exact r7
  · rw [hI_s, if_neg (by decide), hI_n (by decide)]; exact r8
  · rw [hI_s, if_neg (by decide), hI_n (by decide)]; exact r9

theorem sh8 (x : BitVec 32) (m : Nat) (hm : m ≤ 24) : (x >>> m) &&& 255#32 = (x.sshiftRight m) &&& 255#32 := by
  apply BitVec.eq_of_getLsbD_eq
  intro i hi
  rw [BitVec.getLsbD_and, BitVec.getLsbD_and, BitVec.getLsbD_ushiftRight, BitVec.getLsbD_sshiftRight]
  by_cases h : i < 8
  · have h1 : m + i < 32 := by omega
    have h2 : ¬ 32 ≤ i := by omega
    simp [h1, h2]
  · have h1 : ∀ i, i < 32 → ¬ i < 8 → (255#32).getLsbD i = false := by decide
    rw [h1 i hi h]
    simp
/-- the class shifts with no sign, the reference with it: a byte of a word is the same -/
theorem byt_u {v : Int32} {k : Nat} (hk : k < 4) : ((Int32.toUInt32 v >>> (Int32.toUInt32 (nI (8 * k)) &&& Int32.toUInt32 31)).toInt32) &&& nI 255 = byt v k := by
  rcases (show k = 0 ∨ k = 1 ∨ k = 2 ∨ k = 3 by omega) with rfl | rfl | rfl | rfl
  · exact Int32.toBitVec.inj (sh8 v.toBitVec 0 (by decide))
  · exact Int32.toBitVec.inj (sh8 v.toBitVec 8 (by decide))
  · exact Int32.toBitVec.inj (sh8 v.toBitVec 16 (by decide))
  · exact Int32.toBitVec.inj (sh8 v.toBitVec 24 (by decide))

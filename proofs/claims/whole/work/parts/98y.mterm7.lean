/-! terms in math (7): the bytes of a long -/
theorem b255 : ∀ j, j < 64 → (255#64).getLsbD j = decide (j < 8) := by decide
theorem s8a : ∀ k, k < 8 → (((nI (8 * k)).toInt64 &&& 63).toBitVec.smod 64).toNat = 8 * k := by decide
theorem s8b : ∀ k, k < 8 → (((nI (8 * k)).toInt64.toUInt64 &&& Int64.toUInt64 63).toBitVec % 64).toNat = 8 * k := by decide
theorem mb_tm {x : Int64} {k : Nat} (hk : k < 8) : mb_ x k = tm_by x k &&& 255 := by
  unfold mb_ tm_by
  apply Int64.toBitVec_inj.mp
  rw [Int64.toBitVec_and, Int64.toBitVec_and, Int64.toBitVec_shiftRight]
  have e2 : (x.toUInt64 >>> ((nI (8 * k)).toInt64.toUInt64 &&& Int64.toUInt64 63)).toInt64.toBitVec = x.toBitVec >>> (8 * k) := by
    show (x.toUInt64 >>> ((nI (8 * k)).toInt64.toUInt64 &&& Int64.toUInt64 63)).toBitVec = _
    rw [UInt64.toBitVec_shiftRight, BitVec.ushiftRight_eq', s8b k hk]
    rfl
  rw [e2, BitVec.sshiftRight_eq', s8a k hk]
  apply BitVec.eq_of_getLsbD_eq
  intro j hj
  rw [BitVec.getLsbD_and, BitVec.getLsbD_and, show (255 : Int64).toBitVec = 255#64 from rfl, b255 j hj, BitVec.getLsbD_sshiftRight, BitVec.getLsbD_ushiftRight]
  by_cases q : j < 8
  · rw [if_pos (by omega), decide_eq_false (by omega)]; simp
  · rw [decide_eq_false q]; simp

/-! BYTES FED -/
theorem fd_chk : True := by
  have := @sm_who
  have := @sm_look
  have := @sm_of
  trivial
theorem fd_and (x : Int32) : ∃ z, z < 256 ∧ x &&& 255 = nI z := by
  refine ⟨(x.toBitVec &&& 255#32).toNat, ?_, ?_⟩
  · rw [BitVec.toNat_and]
    exact Nat.lt_of_le_of_lt Nat.and_le_right (by decide)
  · apply Int32.toBitVec_inj.mp
    rw [Int32.toBitVec_and]
    show _ = BitVec.ofNat 32 _
    rw [BitVec.ofNat_toNat]
    rfl
theorem fd_bit (w : BitVec 32) (k : Nat) (hk : k ≤ 24) : (w.sshiftRight k) &&& 255#32 = (w >>> k) &&& 255#32 := by
  apply BitVec.eq_of_getLsbD_eq
  intro i hi
  rw [BitVec.getLsbD_and, BitVec.getLsbD_and, BitVec.getLsbD_sshiftRight, BitVec.getLsbD_ushiftRight]
  by_cases h : i < 8
  · rw [if_pos (by omega)]
    have : (decide (32 ≤ i)) = false := by simp; omega
    rw [this]
    rfl
  · have : (255#32).getLsbD i = false := by
      rw [BitVec.getLsbD_ofNat]
      have : Nat.testBit 255 i = false := Nat.testBit_lt_two_pow (Nat.lt_of_lt_of_le (by decide : 255 < 2 ^ 8) (Nat.pow_le_pow_right (by decide) (by omega)))
      rw [this]
      exact Bool.and_false _
    rw [this, Bool.and_false, Bool.and_false]
theorem fd_byte (w : Int32) : ∀ k, k = 0 ∨ k = 8 ∨ k = 16 ∨ k = 24 → (w >>> nI k) &&& 255 = ((w.toUInt32 >>> (nI k).toUInt32).toInt32) &&& 255 := by
  intro k hk
  apply Int32.toBitVec_inj.mp
  rw [Int32.toBitVec_and, Int32.toBitVec_and]
  rcases hk with rfl | rfl | rfl | rfl
  · exact fd_bit w.toBitVec 0 (by decide)
  · exact fd_bit w.toBitVec 8 (by decide)
  · exact fd_bit w.toBitVec 16 (by decide)
  · exact fd_bit w.toBitVec 24 (by decide)

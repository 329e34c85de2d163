theorem byt0 (v : Int32) : (ah_ush v ((8 : Int32) * (0 : Int32))) &&& (255 : Int32) = (v >>> (((8 : Int32) * (0 : Int32)) &&& 31)) &&& (255 : Int32) := by
  apply Int32.toBitVec_inj.mp
  have e : ((ah_ush v ((8 : Int32) * (0 : Int32))) &&& (255 : Int32)).toBitVec = (v.toBitVec >>> (0 : Nat)) &&& 255#32 := rfl
  have e2 : ((v >>> (((8 : Int32) * (0 : Int32)) &&& 31)) &&& (255 : Int32)).toBitVec = (v.toBitVec.sshiftRight 0) &&& 255#32 := rfl
  rw [e, e2]
  apply BitVec.eq_of_getLsbD_eq
  intro i hi
  rw [BitVec.getLsbD_and, BitVec.getLsbD_and, BitVec.getLsbD_ushiftRight, BitVec.getLsbD_sshiftRight]
  by_cases h : i < 8
  · rw [if_pos (by omega)]
    simp [show ¬ 32 ≤ i by omega]
  · have : (255#32).getLsbD i = false := by
      rw [BitVec.getLsbD_ofNat]
      have : Nat.testBit 255 i = false := Nat.testBit_lt_two_pow (Nat.lt_of_lt_of_le (by decide : 255 < 2 ^ 8) (Nat.pow_le_pow_right (by decide) (by omega)))
      simp [this]
    rw [this, Bool.and_false, Bool.and_false]

theorem byt1 (v : Int32) : (ah_ush v ((8 : Int32) * (1 : Int32))) &&& (255 : Int32) = (v >>> (((8 : Int32) * (1 : Int32)) &&& 31)) &&& (255 : Int32) := by
  apply Int32.toBitVec_inj.mp
  have e : ((ah_ush v ((8 : Int32) * (1 : Int32))) &&& (255 : Int32)).toBitVec = (v.toBitVec >>> (8 : Nat)) &&& 255#32 := rfl
  have e2 : ((v >>> (((8 : Int32) * (1 : Int32)) &&& 31)) &&& (255 : Int32)).toBitVec = (v.toBitVec.sshiftRight 8) &&& 255#32 := rfl
  rw [e, e2]
  apply BitVec.eq_of_getLsbD_eq
  intro i hi
  rw [BitVec.getLsbD_and, BitVec.getLsbD_and, BitVec.getLsbD_ushiftRight, BitVec.getLsbD_sshiftRight]
  by_cases h : i < 8
  · rw [if_pos (by omega)]
    simp [show ¬ 32 ≤ i by omega]
  · have : (255#32).getLsbD i = false := by
      rw [BitVec.getLsbD_ofNat]
      have : Nat.testBit 255 i = false := Nat.testBit_lt_two_pow (Nat.lt_of_lt_of_le (by decide : 255 < 2 ^ 8) (Nat.pow_le_pow_right (by decide) (by omega)))
      simp [this]
    rw [this, Bool.and_false, Bool.and_false]

theorem byt2 (v : Int32) : (ah_ush v ((8 : Int32) * (2 : Int32))) &&& (255 : Int32) = (v >>> (((8 : Int32) * (2 : Int32)) &&& 31)) &&& (255 : Int32) := by
  apply Int32.toBitVec_inj.mp
  have e : ((ah_ush v ((8 : Int32) * (2 : Int32))) &&& (255 : Int32)).toBitVec = (v.toBitVec >>> (16 : Nat)) &&& 255#32 := rfl
  have e2 : ((v >>> (((8 : Int32) * (2 : Int32)) &&& 31)) &&& (255 : Int32)).toBitVec = (v.toBitVec.sshiftRight 16) &&& 255#32 := rfl
  rw [e, e2]
  apply BitVec.eq_of_getLsbD_eq
  intro i hi
  rw [BitVec.getLsbD_and, BitVec.getLsbD_and, BitVec.getLsbD_ushiftRight, BitVec.getLsbD_sshiftRight]
  by_cases h : i < 8
  · rw [if_pos (by omega)]
    simp [show ¬ 32 ≤ i by omega]
  · have : (255#32).getLsbD i = false := by
      rw [BitVec.getLsbD_ofNat]
      have : Nat.testBit 255 i = false := Nat.testBit_lt_two_pow (Nat.lt_of_lt_of_le (by decide : 255 < 2 ^ 8) (Nat.pow_le_pow_right (by decide) (by omega)))
      simp [this]
    rw [this, Bool.and_false, Bool.and_false]

theorem byt3 (v : Int32) : (ah_ush v ((8 : Int32) * (3 : Int32))) &&& (255 : Int32) = (v >>> (((8 : Int32) * (3 : Int32)) &&& 31)) &&& (255 : Int32) := by
  apply Int32.toBitVec_inj.mp
  have e : ((ah_ush v ((8 : Int32) * (3 : Int32))) &&& (255 : Int32)).toBitVec = (v.toBitVec >>> (24 : Nat)) &&& 255#32 := rfl
  have e2 : ((v >>> (((8 : Int32) * (3 : Int32)) &&& 31)) &&& (255 : Int32)).toBitVec = (v.toBitVec.sshiftRight 24) &&& 255#32 := rfl
  rw [e, e2]
  apply BitVec.eq_of_getLsbD_eq
  intro i hi
  rw [BitVec.getLsbD_and, BitVec.getLsbD_and, BitVec.getLsbD_ushiftRight, BitVec.getLsbD_sshiftRight]
  by_cases h : i < 8
  · rw [if_pos (by omega)]
    simp [show ¬ 32 ≤ i by omega]
  · have : (255#32).getLsbD i = false := by
      rw [BitVec.getLsbD_ofNat]
      have : Nat.testBit 255 i = false := Nat.testBit_lt_two_pow (Nat.lt_of_lt_of_le (by decide : 255 < 2 ^ 8) (Nat.pow_le_pow_right (by decide) (by omega)))
      simp [this]
    rw [this, Bool.and_false, Bool.and_false]


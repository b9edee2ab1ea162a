theorem cnt_bc (s : Nat) : cntB s 64 = bc 8 s := by
  have a0 := cntB_8 (s) 56
  have a1 := cntB_8 (s / 256) 48
  have a2 := cntB_8 (s / 256 / 256) 40
  have a3 := cntB_8 (s / 256 / 256 / 256) 32
  have a4 := cntB_8 (s / 256 / 256 / 256 / 256) 24
  have a5 := cntB_8 (s / 256 / 256 / 256 / 256 / 256) 16
  have a6 := cntB_8 (s / 256 / 256 / 256 / 256 / 256 / 256) 8
  have a7 := cntB_8 (s / 256 / 256 / 256 / 256 / 256 / 256 / 256) 0
  simp only [Nat.reduceAdd] at a0 a1 a2 a3 a4 a5 a6 a7
  rw [a0, a1, a2, a3, a4, a5, a6, a7]
  simp only [bc, cntB]
theorem bl_ushr {n w : Nat} (hn : n < 9223372036854775808) (hw : w < 64) : ((Int64.ofInt (n : Int)).toUInt64 >>> ((Int32.ofInt (w : Int)).toInt64.toUInt64 &&& Int64.toUInt64 63)).toInt64 = Int64.ofInt ((n / 2 ^ w : Nat) : Int) := by
  apply Int64.toBitVec_inj.mp
  rw [l_bv, UInt64.toBitVec_toInt64, UInt64.toBitVec_shiftRight, BitVec.ushiftRight_eq']
  apply BitVec.eq_of_toNat_eq
  rw [BitVec.toNat_ushiftRight]
  have e := bl_cntU w hw
  rw [show (((Int32.ofInt (w : Int)).toInt64.toUInt64 &&& Int64.toUInt64 63).toBitVec % (64 : BitVec 64)).toNat = w from e, Int64.toBitVec_toUInt64, l_bv, BitVec.toNat_ofNat, BitVec.toNat_ofNat, Nat.shiftRight_eq_div_pow, Nat.mod_eq_of_lt (by omega)]
  have := Nat.div_le_self n (2 ^ w)
  rw [Nat.mod_eq_of_lt (by omega)]
theorem bl_shr {n w : Nat} (hn : n < 9223372036854775808) (hw : w < 64) : Int64.ofInt (n : Int) >>> ((Int32.ofInt (w : Int)).toInt64 &&& 63) = Int64.ofInt ((n / 2 ^ w : Nat) : Int) := by
  apply Int64.toBitVec_inj.mp
  rw [l_bv, Int64.toBitVec_shiftRight, BitVec.sshiftRight_eq']
  have e := bl_cnt w hw
  rw [show ((Int32.ofInt (w : Int)).toInt64 &&& 63).toBitVec.smod (64 : BitVec 64) = BitVec.ofNat 64 w from e, l_bv, BitVec.sshiftRight_eq_of_msb_false (BitVec.msb_eq_false_iff_two_mul_lt.mpr (by rw [BitVec.toNat_ofNat]; omega))]
  apply BitVec.eq_of_toNat_eq
  have := Nat.div_le_self n (2 ^ w)
  rw [BitVec.toNat_ushiftRight, BitVec.toNat_ofNat, BitVec.toNat_ofNat, BitVec.toNat_ofNat, Nat.shiftRight_eq_div_pow, Nat.mod_eq_of_lt (show n < 2 ^ 64 by omega), Nat.mod_eq_of_lt (show w < 2 ^ 64 by omega), Nat.mod_eq_of_lt (show n / 2 ^ w < 2 ^ 64 by omega)]

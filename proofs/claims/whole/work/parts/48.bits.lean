/-! a shift to the left and back is a byte, a short -/
theorem sh8 (v : Int32) : (v <<< (nI 24 &&& 31)) >>> (nI 24 &&& 31) = v.toInt8.toInt32 := by
  apply Int32.toBitVec_inj.mp
  rw [show (nI 24 &&& 31 : Int32) = 24 from by decide]
  simp only [Int32.toBitVec_shiftRight, Int32.toBitVec_shiftLeft, Int8.toBitVec_toInt32, Int32.toBitVec_toInt8]
  rw [show (24 : Int32).toBitVec.smod 32 = 24#32 from by decide]
  simp only [BitVec.shiftLeft_eq', BitVec.sshiftRight_eq', BitVec.toNat_ofNat, Nat.reducePow, Nat.reduceMod]
  apply BitVec.eq_of_getLsbD_eq
  intro i hi
  rw [BitVec.getLsbD_sshiftRight]
  simp only [BitVec.getLsbD_signExtend, BitVec.getLsbD_shiftLeft, BitVec.getLsbD_setWidth, BitVec.msb_eq_getLsbD_last]
  by_cases h : i < 8
  · simp [h, hi, show ¬ 32 ≤ i by omega, show 24 + i < 32 by omega, show ¬ 24 + i < 24 by omega]
  · simp [h, hi, show ¬ 32 ≤ i by omega, show ¬ 24 + i < 32 by omega]
theorem sh16 (v : Int32) : (v <<< (nI 16 &&& 31)) >>> (nI 16 &&& 31) = v.toInt16.toInt32 := by
  apply Int32.toBitVec_inj.mp
  rw [show (nI 16 &&& 31 : Int32) = 16 from by decide]
  simp only [Int32.toBitVec_shiftRight, Int32.toBitVec_shiftLeft, Int16.toBitVec_toInt32, Int32.toBitVec_toInt16]
  rw [show (16 : Int32).toBitVec.smod 32 = 16#32 from by decide]
  simp only [BitVec.shiftLeft_eq', BitVec.sshiftRight_eq', BitVec.toNat_ofNat, Nat.reducePow, Nat.reduceMod]
  apply BitVec.eq_of_getLsbD_eq
  intro i hi
  rw [BitVec.getLsbD_sshiftRight]
  simp only [BitVec.getLsbD_signExtend, BitVec.getLsbD_shiftLeft, BitVec.getLsbD_setWidth, BitVec.msb_eq_getLsbD_last]
  by_cases h : i < 16
  · simp [h, hi, show ¬ 32 ≤ i by omega, show 16 + i < 32 by omega, show ¬ 16 + i < 16 by omega]
  · simp [h, hi, show ¬ 32 ≤ i by omega, show ¬ 16 + i < 32 by omega]
theorem sh32 (v : Int32) : (v <<< (nI 0 &&& 31)) >>> (nI 0 &&& 31) = v := by
  apply Int32.toBitVec_inj.mp
  rw [show (nI 0 &&& 31 : Int32) = 0 from by decide]
  simp only [Int32.toBitVec_shiftRight, Int32.toBitVec_shiftLeft]
  rw [show (0 : Int32).toBitVec.smod 32 = 0#32 from by decide]
  simp

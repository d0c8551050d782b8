/-! bytes of a long -/
def nB (w : Int64) (i : Nat) : Nat := ((w.toBitVec >>> (8 * i)).setWidth 8).toNat
theorem nB_lt (w : Int64) (i : Nat) : nB w i ≤ 255 := by
  have := ((w.toBitVec >>> (8 * i)).setWidth 8).isLt
  unfold nB; omega
theorem by_low (x : Int64) : (x &&& 255).toInt32 = nI (x.toBitVec.setWidth 8).toNat := by
  apply Int32.toBitVec_inj.mp
  apply BitVec.eq_of_toNat_eq
  have h1 : ((x &&& 255).toInt32).toBitVec.toNat = (x.toBitVec.toNat &&& 255) % 2 ^ 32 := by
    rw [Int64.toBitVec_toInt32, Int64.toBitVec_and, BitVec.signExtend_eq_setWidth_of_le _ (by omega), BitVec.toNat_setWidth, BitVec.toNat_and]
    rfl
  have h2 : (nI (x.toBitVec.setWidth 8).toNat).toBitVec.toNat = (x.toBitVec.toNat % 2 ^ 8) % 2 ^ 32 := by
    unfold nI
    rw [BitVec.toNat_setWidth]
    rfl
  rw [h1, h2, show (255 : Nat) = 2 ^ 8 - 1 from rfl, Nat.and_two_pow_sub_one_eq_mod]
theorem cb_0 (w : Int64) : ((w.toUInt64 >>> ((nI 0).toInt64.toUInt64 &&& Int64.toUInt64 63)).toInt64 &&& 255).toInt32 = nI (nB w 0) := by
  rw [by_low, show (nI 0).toInt64.toUInt64 &&& Int64.toUInt64 63 = 0 from by decide]
  rfl
theorem mb_0 (w : Int64) : ((w >>> ((nI 0).toInt64 &&& 63)) &&& 255).toInt32 = nI (nB w 0) := by
  rw [by_low, show (nI 0).toInt64 &&& 63 = 0 from by decide, Int64.toBitVec_shiftRight, show (0 : Int64).toBitVec.smod 64 = 0#64 from by decide, BitVec.sshiftRight_eq', show (0#64).toNat = 8 * 0 from by decide]
  unfold nB
  congr 2
  apply BitVec.eq_of_getLsbD_eq
  intro j hj
  rw [BitVec.getLsbD_setWidth, BitVec.getLsbD_setWidth, BitVec.getLsbD_sshiftRight, BitVec.getLsbD_ushiftRight, if_pos (by omega), decide_eq_false (show ¬ 64 ≤ j by omega), Bool.not_false, Bool.true_and]
theorem cb_1 (w : Int64) : ((w.toUInt64 >>> ((nI 8).toInt64.toUInt64 &&& Int64.toUInt64 63)).toInt64 &&& 255).toInt32 = nI (nB w 1) := by
  rw [by_low, show (nI 8).toInt64.toUInt64 &&& Int64.toUInt64 63 = 8 from by decide]
  rfl
theorem mb_1 (w : Int64) : ((w >>> ((nI 8).toInt64 &&& 63)) &&& 255).toInt32 = nI (nB w 1) := by
  rw [by_low, show (nI 8).toInt64 &&& 63 = 8 from by decide, Int64.toBitVec_shiftRight, show (8 : Int64).toBitVec.smod 64 = 8#64 from by decide, BitVec.sshiftRight_eq', show (8#64).toNat = 8 * 1 from by decide]
  unfold nB
  congr 2
  apply BitVec.eq_of_getLsbD_eq
  intro j hj
  rw [BitVec.getLsbD_setWidth, BitVec.getLsbD_setWidth, BitVec.getLsbD_sshiftRight, BitVec.getLsbD_ushiftRight, if_pos (by omega), decide_eq_false (show ¬ 64 ≤ j by omega), Bool.not_false, Bool.true_and]
theorem cb_2 (w : Int64) : ((w.toUInt64 >>> ((nI 16).toInt64.toUInt64 &&& Int64.toUInt64 63)).toInt64 &&& 255).toInt32 = nI (nB w 2) := by
  rw [by_low, show (nI 16).toInt64.toUInt64 &&& Int64.toUInt64 63 = 16 from by decide]
  rfl
theorem mb_2 (w : Int64) : ((w >>> ((nI 16).toInt64 &&& 63)) &&& 255).toInt32 = nI (nB w 2) := by
  rw [by_low, show (nI 16).toInt64 &&& 63 = 16 from by decide, Int64.toBitVec_shiftRight, show (16 : Int64).toBitVec.smod 64 = 16#64 from by decide, BitVec.sshiftRight_eq', show (16#64).toNat = 8 * 2 from by decide]
  unfold nB
  congr 2
  apply BitVec.eq_of_getLsbD_eq
  intro j hj
  rw [BitVec.getLsbD_setWidth, BitVec.getLsbD_setWidth, BitVec.getLsbD_sshiftRight, BitVec.getLsbD_ushiftRight, if_pos (by omega), decide_eq_false (show ¬ 64 ≤ j by omega), Bool.not_false, Bool.true_and]
theorem cb_3 (w : Int64) : ((w.toUInt64 >>> ((nI 24).toInt64.toUInt64 &&& Int64.toUInt64 63)).toInt64 &&& 255).toInt32 = nI (nB w 3) := by
  rw [by_low, show (nI 24).toInt64.toUInt64 &&& Int64.toUInt64 63 = 24 from by decide]
  rfl
theorem mb_3 (w : Int64) : ((w >>> ((nI 24).toInt64 &&& 63)) &&& 255).toInt32 = nI (nB w 3) := by
  rw [by_low, show (nI 24).toInt64 &&& 63 = 24 from by decide, Int64.toBitVec_shiftRight, show (24 : Int64).toBitVec.smod 64 = 24#64 from by decide, BitVec.sshiftRight_eq', show (24#64).toNat = 8 * 3 from by decide]
  unfold nB
  congr 2
  apply BitVec.eq_of_getLsbD_eq
  intro j hj
  rw [BitVec.getLsbD_setWidth, BitVec.getLsbD_setWidth, BitVec.getLsbD_sshiftRight, BitVec.getLsbD_ushiftRight, if_pos (by omega), decide_eq_false (show ¬ 64 ≤ j by omega), Bool.not_false, Bool.true_and]
theorem cb_4 (w : Int64) : ((w.toUInt64 >>> ((nI 32).toInt64.toUInt64 &&& Int64.toUInt64 63)).toInt64 &&& 255).toInt32 = nI (nB w 4) := by
  rw [by_low, show (nI 32).toInt64.toUInt64 &&& Int64.toUInt64 63 = 32 from by decide]
  rfl
theorem mb_4 (w : Int64) : ((w >>> ((nI 32).toInt64 &&& 63)) &&& 255).toInt32 = nI (nB w 4) := by
  rw [by_low, show (nI 32).toInt64 &&& 63 = 32 from by decide, Int64.toBitVec_shiftRight, show (32 : Int64).toBitVec.smod 64 = 32#64 from by decide, BitVec.sshiftRight_eq', show (32#64).toNat = 8 * 4 from by decide]
  unfold nB
  congr 2
  apply BitVec.eq_of_getLsbD_eq
  intro j hj
  rw [BitVec.getLsbD_setWidth, BitVec.getLsbD_setWidth, BitVec.getLsbD_sshiftRight, BitVec.getLsbD_ushiftRight, if_pos (by omega), decide_eq_false (show ¬ 64 ≤ j by omega), Bool.not_false, Bool.true_and]
theorem cb_5 (w : Int64) : ((w.toUInt64 >>> ((nI 40).toInt64.toUInt64 &&& Int64.toUInt64 63)).toInt64 &&& 255).toInt32 = nI (nB w 5) := by
  rw [by_low, show (nI 40).toInt64.toUInt64 &&& Int64.toUInt64 63 = 40 from by decide]
  rfl
theorem mb_5 (w : Int64) : ((w >>> ((nI 40).toInt64 &&& 63)) &&& 255).toInt32 = nI (nB w 5) := by
  rw [by_low, show (nI 40).toInt64 &&& 63 = 40 from by decide, Int64.toBitVec_shiftRight, show (40 : Int64).toBitVec.smod 64 = 40#64 from by decide, BitVec.sshiftRight_eq', show (40#64).toNat = 8 * 5 from by decide]
  unfold nB
  congr 2
  apply BitVec.eq_of_getLsbD_eq
  intro j hj
  rw [BitVec.getLsbD_setWidth, BitVec.getLsbD_setWidth, BitVec.getLsbD_sshiftRight, BitVec.getLsbD_ushiftRight, if_pos (by omega), decide_eq_false (show ¬ 64 ≤ j by omega), Bool.not_false, Bool.true_and]
theorem cb_6 (w : Int64) : ((w.toUInt64 >>> ((nI 48).toInt64.toUInt64 &&& Int64.toUInt64 63)).toInt64 &&& 255).toInt32 = nI (nB w 6) := by
  rw [by_low, show (nI 48).toInt64.toUInt64 &&& Int64.toUInt64 63 = 48 from by decide]
  rfl
theorem mb_6 (w : Int64) : ((w >>> ((nI 48).toInt64 &&& 63)) &&& 255).toInt32 = nI (nB w 6) := by
  rw [by_low, show (nI 48).toInt64 &&& 63 = 48 from by decide, Int64.toBitVec_shiftRight, show (48 : Int64).toBitVec.smod 64 = 48#64 from by decide, BitVec.sshiftRight_eq', show (48#64).toNat = 8 * 6 from by decide]
  unfold nB
  congr 2
  apply BitVec.eq_of_getLsbD_eq
  intro j hj
  rw [BitVec.getLsbD_setWidth, BitVec.getLsbD_setWidth, BitVec.getLsbD_sshiftRight, BitVec.getLsbD_ushiftRight, if_pos (by omega), decide_eq_false (show ¬ 64 ≤ j by omega), Bool.not_false, Bool.true_and]
theorem cb_7 (w : Int64) : ((w.toUInt64 >>> ((nI 56).toInt64.toUInt64 &&& Int64.toUInt64 63)).toInt64 &&& 255).toInt32 = nI (nB w 7) := by
  rw [by_low, show (nI 56).toInt64.toUInt64 &&& Int64.toUInt64 63 = 56 from by decide]
  rfl
theorem mb_7 (w : Int64) : ((w >>> ((nI 56).toInt64 &&& 63)) &&& 255).toInt32 = nI (nB w 7) := by
  rw [by_low, show (nI 56).toInt64 &&& 63 = 56 from by decide, Int64.toBitVec_shiftRight, show (56 : Int64).toBitVec.smod 64 = 56#64 from by decide, BitVec.sshiftRight_eq', show (56#64).toNat = 8 * 7 from by decide]
  unfold nB
  congr 2
  apply BitVec.eq_of_getLsbD_eq
  intro j hj
  rw [BitVec.getLsbD_setWidth, BitVec.getLsbD_setWidth, BitVec.getLsbD_sshiftRight, BitVec.getLsbD_ushiftRight, if_pos (by omega), decide_eq_false (show ¬ 64 ≤ j by omega), Bool.not_false, Bool.true_and]

/-! ===== sets as bits ===== -/
theorem bi_and (a b : Nat) : nI a &&& nI b = nI (a &&& b) := by
  apply Int32.toBitVec_inj.1
  show BitVec.ofNat 32 a &&& BitVec.ofNat 32 b = BitVec.ofNat 32 (a &&& b)
  apply BitVec.eq_of_getLsbD_eq
  intro i hi
  simp only [BitVec.getLsbD_and, BitVec.getLsbD_ofNat, Nat.testBit_and, hi, decide_true, Bool.true_and]
theorem bi_or (a b : Nat) : nI a ||| nI b = nI (a ||| b) := by
  apply Int32.toBitVec_inj.1
  show BitVec.ofNat 32 a ||| BitVec.ofNat 32 b = BitVec.ofNat 32 (a ||| b)
  apply BitVec.eq_of_getLsbD_eq
  intro i hi
  simp only [BitVec.getLsbD_or, BitVec.getLsbD_ofNat, Nat.testBit_or, hi, decide_true, Bool.true_and]
theorem bi_xor (a b : Nat) : nI a ^^^ nI b = nI (a ^^^ b) := by
  apply Int32.toBitVec_inj.1
  show BitVec.ofNat 32 a ^^^ BitVec.ofNat 32 b = BitVec.ofNat 32 (a ^^^ b)
  apply BitVec.eq_of_getLsbD_eq
  intro i hi
  simp only [BitVec.getLsbD_xor, BitVec.getLsbD_ofNat, Nat.testBit_xor, hi, decide_true, Bool.true_and]
theorem bi_sh : ∀ j, j < 9 → nI 1 <<< (nI j &&& nI 31) = nI (2 ^ j) := by decide +kernel
theorem bi_all {n : Nat} (h : n < 9) : nI 1 <<< (nI n &&& nI 31) - nI 1 = nI (2 ^ n - 1) := by
  rw [bi_sh n h, q_sub (Nat.one_le_two_pow)]
theorem tb_lt {s j : Nat} (h : s < 256) (hj : s.testBit j = true) : j < 8 := by
  by_cases q : j < 8
  · exact q
  · have : s < 2 ^ j := Nat.lt_of_lt_of_le h (by
      have : 2 ^ 8 ≤ 2 ^ j := Nat.pow_le_pow_right (by omega) (by omega)
      omega)
    rw [Nat.testBit_lt_two_pow this] at hj
    cases hj
theorem and_pow {s j : Nat} : s &&& 2 ^ j = if s.testBit j = true then 2 ^ j else 0 := by
  apply Nat.eq_of_testBit_eq
  intro i
  rw [Nat.testBit_and, Nat.testBit_two_pow]
  by_cases e : j = i
  · subst e
    cases hb : s.testBit j
    · simp
    · rw [if_pos rfl, Nat.testBit_two_pow]; simp
  · rw [decide_eq_false e, Bool.and_false]
    by_cases q : s.testBit j = true
    · rw [if_pos q, Nat.testBit_two_pow, decide_eq_false e]
    · rw [if_neg q, Nat.zero_testBit]
theorem bi_t0 {s j : Nat} (hj : j < 8) : (nI s &&& nI 1 <<< (nI j &&& nI 31) = nI 0) = (s.testBit j = false) := by
  rw [bi_sh j (by omega), bi_and, and_pow]
  have h8 : 2 ^ j ≤ 2 ^ 8 := Nat.pow_le_pow_right (by omega) (by omega)
  have h0 : 1 ≤ 2 ^ j := Nat.one_le_two_pow
  cases hb : s.testBit j
  · rw [if_neg (by simp)]; simp
  · rw [if_pos rfl, q_eq (by omega) (by omega)]
    exact propext ⟨fun q => by omega, fun q => by cases q⟩
theorem bi_ord {a j : Nat} (hj : j < 8) : nI a ||| nI 1 <<< (nI j &&& nI 31) = nI (a ||| 2 ^ j) := by rw [bi_sh j (by omega), bi_or]
theorem bi_shr : ∀ s, s < 256 → ∀ j, j < 8 → nI s >>> (nI j &&& nI 31) &&& nI 1 = nI (bN (s.testBit j)) := by decide +kernel
theorem bi_not {s a : Nat} (hs : s < 256) : nI s &&& (nI a ^^^ mI 1) = nI (s &&& (255 ^^^ a)) := by
  apply Int32.toBitVec_inj.1
  show BitVec.ofNat 32 s &&& (BitVec.ofNat 32 a ^^^ BitVec.allOnes 32) = BitVec.ofNat 32 (s &&& (255 ^^^ a))
  apply BitVec.eq_of_getLsbD_eq
  intro i hi
  simp only [BitVec.getLsbD_and, BitVec.getLsbD_xor, BitVec.getLsbD_ofNat, BitVec.getLsbD_allOnes, Nat.testBit_and, Nat.testBit_xor, hi, decide_true, Bool.true_and]
  by_cases h8 : i < 8
  · have h255 : (255 : Nat).testBit i = true := by
      have hh : i = 0 ∨ i = 1 ∨ i = 2 ∨ i = 3 ∨ i = 4 ∨ i = 5 ∨ i = 6 ∨ i = 7 := by omega
      rcases hh with rfl | rfl | rfl | rfl | rfl | rfl | rfl | rfl <;> rfl
    rw [h255, Bool.xor_comm]
  · have : s.testBit i = false := by
      cases hb : s.testBit i
      · rfl
      · exact absurd (tb_lt hs hb) h8
    rw [this, Bool.false_and, Bool.false_and]
theorem bi_sub {s a : Nat} (hs : s < 256) : (nI s &&& (nI a ^^^ mI 1) = nI 0) = (∀ j, s.testBit j = true → a.testBit j = true) := by
  have hle : s &&& (255 ^^^ a) ≤ s := Nat.and_le_left
  rw [bi_not hs, q_eq (by omega) (by omega)]
  refine propext ⟨fun h j hj => ?_, fun h => ?_⟩
  · have e := congrArg (fun x => Nat.testBit x j) h
    simp only [Nat.testBit_and, Nat.testBit_xor, Nat.zero_testBit, hj, Bool.true_and] at e
    have h8 := tb_lt hs hj
    have h255 : (255 : Nat).testBit j = true := by
      have hh : j = 0 ∨ j = 1 ∨ j = 2 ∨ j = 3 ∨ j = 4 ∨ j = 5 ∨ j = 6 ∨ j = 7 := by omega
      rcases hh with rfl | rfl | rfl | rfl | rfl | rfl | rfl | rfl <;> rfl
    rw [h255] at e
    cases hb : a.testBit j
    · rw [hb] at e; cases e
    · rfl
  · apply Nat.eq_of_testBit_eq
    intro j
    rw [Nat.zero_testBit, Nat.testBit_and, Nat.testBit_xor]
    cases hj : s.testBit j
    · rfl
    · have h8 := tb_lt hs hj
      have h255 : (255 : Nat).testBit j = true := by
        have hh : j = 0 ∨ j = 1 ∨ j = 2 ∨ j = 3 ∨ j = 4 ∨ j = 5 ∨ j = 6 ∨ j = 7 := by omega
        rcases hh with rfl | rfl | rfl | rfl | rfl | rfl | rfl | rfl <;> rfl
      rw [h255, h j hj]; rfl
theorem bi_com : ∀ n, n < 9 → ∀ s, s < 2 ^ n → nI (2 ^ n - 1) &&& (nI s ^^^ mI 1) = nI ((2 ^ n - 1) ^^^ s) := by decide +kernel
def pc8 (s : Nat) : Nat := s % 2 + s / 2 % 2 + s / 4 % 2 + s / 8 % 2 + s / 16 % 2 + s / 32 % 2 + s / 64 % 2 + s / 128 % 2
theorem pc8_le (s : Nat) : pc8 s ≤ 8 := by unfold pc8; omega
theorem pc8_st : ∀ s, s < 256 → 0 < s → s &&& (s - 1) < s ∧ pc8 (s &&& (s - 1)) + 1 = pc8 s := by decide +kernel
def b63a (x : Int32) : Int32 := x - ((x.toUInt32 >>> ((nI 1).toUInt32 &&& (nI 31).toUInt32)).toInt32 &&& 1431655765)
def b63b (x : Int32) : Int32 := (x &&& 858993459) + ((x.toUInt32 >>> ((nI 2).toUInt32 &&& (nI 31).toUInt32)).toInt32 &&& 858993459)
def b63c (x : Int32) : Int32 := (x + (x.toUInt32 >>> ((nI 4).toUInt32 &&& (nI 31).toUInt32)).toInt32) &&& 252645135
def b63d (x : Int32) : Int32 := x + (x.toUInt32 >>> ((nI 8).toUInt32 &&& (nI 31).toUInt32)).toInt32
def b63e (x : Int32) : Int32 := x + (x.toUInt32 >>> ((nI 16).toUInt32 &&& (nI 31).toUInt32)).toInt32
theorem b63 : ∀ s, s < 256 → b63e (b63d (b63c (b63b (b63a (nI s))))) &&& nI 63 = nI (pc8 s) := by decide +kernel
section BT
variable {sz us : Nat} {h : rr_H}
set_option maxRecDepth 20000 in
theorem s63 (d s : Nat) (hs : s < 256) : rx d 63 0 [some (.int (nI s))] [] sz us h = some (some (.int (nI (pc8 s))), sz, us, h) := by
  have e := b63 s hs
  unfold b63e b63d b63c b63b b63a at e
  simp (disch := omega) only [x_63_0, x_63_1, x_63_2, x_63_3, x_63_4, x_63_7, x_63_8, x_63_9, x_63_10, x_63_11, x_63_14, x_63_15, x_63_16, x_63_17, x_63_18, x_63_21, x_63_22, x_63_23, x_63_24, x_63_25, x_63_26, x_63_27, x_63_28, x_63_29, x_63_32, x_63_33, x_63_34, x_63_35, x_63_36, x_63_38, x_63_39, x_63_40, x_63_41, x_63_42, x_63_43, x_63_45, x_63_46, x_63_47, x_63_48, x_63_49, x_63_51, x_63_52, e, k0, k1, k2, k3, k4, k5, k6, k7, k8, k9, k10, k11, k12, k13, k14, k15, k16, k20, k24, k30, k32, k46, k56, k60, k69, k88, k99, k100, k125, k255, k338, k398, k422, k17, k18, k19, k21, k22, k23, k25, k26, k27, k28, k29, k31, k33, k34, k35, k36, k37, k38, k39, k40, k41, k42, k43, k44, k45, k47, k48, k49, k50, k51, k52, k53, k54, k55, k57, k58, k59, k61, k62, k63, k64, k70, k71, k96, k109, k114, k115, k119, k124, k128, k216, k256, k999, k1296, k4096, k5184, k9999, k12345, k99999, k100000, k999999999, m_2, m_10, m_999, m_9999, m_999999999, q_in, q_cl, q_mul, q_add, q_sub, q_lt, q_le, q_eq, Nat.reduceAdd, Nat.reduceMul, Nat.reduceSub, Nat.reduceLT, Nat.reduceLeDiff, Nat.reduceEqDiff, Nat.add_zero, Nat.zero_add, Nat.mul_zero, q_addm, q_addn, q_subm, q_0m, q_ngm, sky_0, she_0, sky_1, she_1, sky_2, she_2, sky_3, she_3, m_lt, m_gt, m_eq, m_eq', m_one, m_ng, m_mlt, m_meq, q_sub1, q_sub1m, ↓q_irem, mx0, q_div, lt_T, lt_F, le_T, le_F, eq_T, eq_F, not_true_eq_false, not_false_eq_true, true_and, and_true, false_and, and_false, ↓reduceIte, ↓bz_i, ↓bz_l, ↓bz_v, ↓bz_h, ↓bz_c, zs_i, zs_l, zs_v, zs_h, zs_c, zs_n, zn_i, zn_l, zn_v, zn_h, zn_c, zi_i, zi_l, zi_v, zi_h, zi_c, List.append_nil, rr_nk, if_true, if_false, ite_true, ite_false, i01, i10, i00, ite_self, true_or, or_true, or_false, false_or]
set_option maxRecDepth 20000 in
theorem lp176 (d : Nat) (l0 : Int32) : ∀ (f s k : Nat), s < f → s < 256 → k + pc8 s ≤ 100 → rx d 176 4 [some (.int l0), some (.int (nI k)), some (.int (nI s))] [] sz us h = some (some (.int (nI (k + pc8 s))), sz, us, h) := by
  intro f
  induction f with
  | zero => intro s k hs; omega
  | succ f ih =>
    intro s k hs h256 hk
    by_cases s0 : s = 0
    · subst s0
      have e : pc8 0 = 0 := rfl
      rw [x_176_4, e]
      simp (disch := omega) only [x_176_0, x_176_1, x_176_2, x_176_3, x_176_5, x_176_8, x_176_11, x_176_12, x_176_13, x_176_14, x_176_15, x_176_16, x_176_17, x_176_20, x_176_21, k0, k1, k2, k3, k4, k5, k6, k7, k8, k9, k10, k11, k12, k13, k14, k15, k16, k20, k24, k30, k32, k46, k56, k60, k69, k88, k99, k100, k125, k255, k338, k398, k422, k17, k18, k19, k21, k22, k23, k25, k26, k27, k28, k29, k31, k33, k34, k35, k36, k37, k38, k39, k40, k41, k42, k43, k44, k45, k47, k48, k49, k50, k51, k52, k53, k54, k55, k57, k58, k59, k61, k62, k63, k64, k70, k71, k96, k109, k114, k115, k119, k124, k128, k216, k256, k999, k1296, k4096, k5184, k9999, k12345, k99999, k100000, k999999999, m_2, m_10, m_999, m_9999, m_999999999, q_in, q_cl, q_mul, q_add, q_sub, q_lt, q_le, q_eq, Nat.reduceAdd, Nat.reduceMul, Nat.reduceSub, Nat.reduceLT, Nat.reduceLeDiff, Nat.reduceEqDiff, Nat.add_zero, Nat.zero_add, Nat.mul_zero, q_addm, q_addn, q_subm, q_0m, q_ngm, sky_0, she_0, sky_1, she_1, sky_2, she_2, sky_3, she_3, m_lt, m_gt, m_eq, m_eq', m_one, m_ng, m_mlt, m_meq, q_sub1, q_sub1m, ↓q_irem, mx0, q_div, lt_T, lt_F, le_T, le_F, eq_T, eq_F, not_true_eq_false, not_false_eq_true, true_and, and_true, false_and, and_false, ↓reduceIte, ↓bz_i, ↓bz_l, ↓bz_v, ↓bz_h, ↓bz_c, zs_i, zs_l, zs_v, zs_h, zs_c, zs_n, zn_i, zn_l, zn_v, zn_h, zn_c, zi_i, zi_l, zi_v, zi_h, zi_c, List.append_nil, rr_nk, if_true, if_false, ite_true, ite_false, i01, i10, i00, ite_self, true_or, or_true, or_false, false_or]
    · obtain ⟨h1, h2⟩ := pc8_st s h256 (by omega)
      have e := ih (s &&& (s - 1)) (k + 1) (by omega) (by omega) (by omega)
      rw [show k + pc8 s = k + 1 + pc8 (s &&& (s - 1)) by omega, ← e, x_176_4]
      simp (disch := omega) only [x_176_0, x_176_1, x_176_2, x_176_3, x_176_5, x_176_8, x_176_11, x_176_12, x_176_13, x_176_14, x_176_15, x_176_16, x_176_17, x_176_20, x_176_21, bi_and, k0, k1, k2, k3, k4, k5, k6, k7, k8, k9, k10, k11, k12, k13, k14, k15, k16, k20, k24, k30, k32, k46, k56, k60, k69, k88, k99, k100, k125, k255, k338, k398, k422, k17, k18, k19, k21, k22, k23, k25, k26, k27, k28, k29, k31, k33, k34, k35, k36, k37, k38, k39, k40, k41, k42, k43, k44, k45, k47, k48, k49, k50, k51, k52, k53, k54, k55, k57, k58, k59, k61, k62, k63, k64, k70, k71, k96, k109, k114, k115, k119, k124, k128, k216, k256, k999, k1296, k4096, k5184, k9999, k12345, k99999, k100000, k999999999, m_2, m_10, m_999, m_9999, m_999999999, q_in, q_cl, q_mul, q_add, q_sub, q_lt, q_le, q_eq, Nat.reduceAdd, Nat.reduceMul, Nat.reduceSub, Nat.reduceLT, Nat.reduceLeDiff, Nat.reduceEqDiff, Nat.add_zero, Nat.zero_add, Nat.mul_zero, q_addm, q_addn, q_subm, q_0m, q_ngm, sky_0, she_0, sky_1, she_1, sky_2, she_2, sky_3, she_3, m_lt, m_gt, m_eq, m_eq', m_one, m_ng, m_mlt, m_meq, q_sub1, q_sub1m, ↓q_irem, mx0, q_div, lt_T, lt_F, le_T, le_F, eq_T, eq_F, not_true_eq_false, not_false_eq_true, true_and, and_true, false_and, and_false, ↓reduceIte, ↓bz_i, ↓bz_l, ↓bz_v, ↓bz_h, ↓bz_c, zs_i, zs_l, zs_v, zs_h, zs_c, zs_n, zn_i, zn_l, zn_v, zn_h, zn_c, zi_i, zi_l, zi_v, zi_h, zi_c, List.append_nil, rr_nk, if_true, if_false, ite_true, ite_false, i01, i10, i00, ite_self, true_or, or_true, or_false, false_or]
end BT

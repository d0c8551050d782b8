/-! ===== longs; the greatest common divisor; a row carried over ===== -/
def lJ (n : Nat) : Int64 := Int64.ofNat n
theorem j0 : (0 : Int64) = lJ 0 := rfl
theorem j1 : (1 : Int64) = lJ 1 := rfl
theorem j16 : (16 : Int64) = lJ 16 := rfl
theorem j100 : (100 : Int64) = lJ 100 := rfl
theorem lJ_i {n : Nat} (h : n < 2 ^ 63) : (lJ n).toInt = (n : Int) := by
  unfold lJ
  exact Int64.toInt_ofNat_of_lt h
theorem l_eq {a b : Nat} (ha : a < 2 ^ 63) (hb : b < 2 ^ 63) : (lJ a = lJ b) = (a = b) := by
  refine propext ⟨fun h => ?_, fun h => by rw [h]⟩
  have := congrArg Int64.toInt h
  rw [lJ_i ha, lJ_i hb] at this; omega
theorem l_lt {a b : Nat} (ha : a < 2 ^ 63) (hb : b < 2 ^ 63) : (lJ a < lJ b) = (a < b) := by
  refine propext ?_
  rw [Int64.lt_iff_toInt_lt, lJ_i ha, lJ_i hb]; omega
theorem l_add (a b : Nat) : lJ a + lJ b = lJ (a + b) := (Int64.ofNat_add a b).symm
theorem l_mul (a b : Nat) : lJ a * lJ b = lJ (a * b) := (Int64.ofNat_mul a b).symm
theorem l_sub {a b : Nat} (h : b ≤ a) : lJ a - lJ b = lJ (a - b) := by
  have e : lJ a = lJ (a - b) + lJ b := by rw [l_add]; congr 1; omega
  rw [e]
  exact Int64.add_sub_cancel _ _
theorem l_div {a b : Nat} (h1 : a < 2 ^ 63) (h2 : b < 2 ^ 63) : lJ a / lJ b = lJ (a / b) := by
  apply Int64.toInt_inj.mp
  have h3 : a / b < 2 ^ 63 := Nat.lt_of_le_of_lt (Nat.div_le_self a b) h1
  rw [Int64.toInt_div_of_ne_left _ _ (fun h => by
    have := congrArg Int64.toInt h
    rw [lJ_i h1] at this
    have e : Int64.minValue.toInt = -2 ^ 63 := by decide
    rw [e] at this; omega), lJ_i h1, lJ_i h2, lJ_i h3]
  exact (Int.ofNat_tdiv a b).symm
theorem l_rem {a b : Nat} (h1 : a < 2 ^ 63) (h2 : b < 2 ^ 63) : lJ a - lJ a / lJ b * lJ b = lJ (a % b) := by
  rw [l_div h1 h2, l_mul, l_sub (Nat.div_mul_le_self a b), q_rem]
theorem nI_tl {n : Nat} (h : n < 2 ^ 31) : (nI n).toInt64 = lJ n := by
  apply Int64.toInt_inj.mp
  rw [Int32.toInt_toInt64, nI_i h, lJ_i (by omega)]
theorem lJ_n {n : Nat} (h : n < 2 ^ 31) : (lJ n).toInt32 = nI n := by
  apply Int32.toInt_inj.mp
  rw [Int64.toInt_toInt32, lJ_i (by omega), nI_i h, Int.bmod_eq_of_le (by omega) (by omega)]
theorem lgc_lt {x y : Int64} : (lg_cmp x y < nI 0) = (x < y) := by
  refine propext ?_
  have h1 : ¬ ((1 : Int32) < nI 0) := by decide
  have h2 : ¬ ((0 : Int32) < nI 0) := by decide
  have h3 : (-1 : Int32) < nI 0 := by decide
  unfold lg_cmp
  by_cases a : x > y
  · simp only [a, if_true]
    refine ⟨fun q => ?_, fun q => ?_⟩
    · first | exact absurd q h1 | (split at q <;> first | exact absurd q h1 | exact absurd q h2)
    · exact absurd (Int64.lt_trans q a) Int64.lt_irrefl
  · by_cases b : x = y
    · subst b
      simp only [Int64.lt_irrefl, gt_iff_lt, if_false, if_true, iff_false]
      exact h2
    · have c : x < y := by
        rw [gt_iff_lt, Int64.lt_iff_toInt_lt] at a
        rw [Int64.lt_iff_toInt_lt]
        have : x.toInt ≠ y.toInt := fun q => b (Int64.toInt_inj.mp q)
        omega
      simp only [a, b, if_false, c, iff_true]
      exact h3
section GC
variable {sz us : Nat} {h : rr_H}
set_option maxRecDepth 20000 in
theorem lp84 (d : Nat) (l0 l2 : Int64) : ∀ (j x y i : Nat) (l9 : Option Value) , y < 2 ^ j → j ≤ 40 → x < 2 ^ 62 → i + 2 * j ≤ 100 → rx d 84 9 [some (.long l0), none, some (.long l2), none, some (.long (lJ x)), none, some (.long (lJ y)), none, some (.int (nI i)), l9, none] [] sz us h = some (some (.long (lJ (Nat.gcd y x))), sz, us, h) := by
  intro j
  induction j with
  | zero =>
    intro x y i l9 hy hj hx hi
    have : y = 0 := by omega
    subst this
    rw [x_84_9, Nat.gcd_zero_left]
    by_cases q : i < 100
    · simp (disch := omega) only [x_84_0, x_84_1, x_84_3, x_84_4, x_84_6, x_84_7, x_84_11, x_84_13, x_84_16, x_84_18, x_84_19, x_84_20, x_84_23, x_84_25, x_84_27, x_84_28, x_84_30, x_84_32, x_84_34, x_84_36, x_84_38, x_84_41, x_84_44, x_84_46, j0, lgc0, k0, k1, k2, k3, k4, k5, k6, k7, k8, k9, k10, k11, k12, k13, k14, k15, k16, k20, k24, k30, k32, k46, k56, k60, k69, k88, k99, k100, k125, k255, k338, k398, k422, k17, k18, k19, k21, k22, k23, k25, k26, k27, k28, k29, k31, k33, k34, k35, k36, k37, k38, k39, k40, k41, k42, k43, k44, k45, k47, k48, k49, k50, k51, k52, k53, k54, k55, k57, k58, k59, k61, k62, k63, k64, k70, k71, k96, k109, k114, k115, k119, k124, k128, k216, k256, k999, k1296, k4096, k5184, k9999, k12345, k99999, k100000, k999999999, m_2, m_10, m_999, m_9999, m_999999999, q_in, q_cl, q_mul, q_add, q_sub, q_lt, q_le, q_eq, Nat.reduceAdd, Nat.reduceMul, Nat.reduceSub, Nat.reduceLT, Nat.reduceLeDiff, Nat.reduceEqDiff, Nat.add_zero, Nat.zero_add, Nat.mul_zero, q_addm, q_addn, q_subm, q_0m, q_ngm, sky_0, she_0, sky_1, she_1, sky_2, she_2, sky_3, she_3, m_lt, m_gt, m_eq, m_eq', m_one, m_ng, m_mlt, m_meq, q_sub1, q_sub1m, ↓q_irem, mx0, q_div, lt_T, lt_F, le_T, le_F, eq_T, eq_F, not_true_eq_false, not_false_eq_true, true_and, and_true, false_and, and_false, ↓reduceIte, ↓bz_i, ↓bz_l, ↓bz_v, ↓bz_h, ↓bz_c, zs_i, zs_l, zs_v, zs_h, zs_c, zs_n, zn_i, zn_l, zn_v, zn_h, zn_c, zi_i, zi_l, zi_v, zi_h, zi_c, List.append_nil, rr_nk, if_true, if_false, ite_true, ite_false, i01, i10, i00, ite_self, true_or, or_true, or_false, false_or]
    · simp (disch := omega) only [x_84_0, x_84_1, x_84_3, x_84_4, x_84_6, x_84_7, x_84_11, x_84_13, x_84_16, x_84_18, x_84_19, x_84_20, x_84_23, x_84_25, x_84_27, x_84_28, x_84_30, x_84_32, x_84_34, x_84_36, x_84_38, x_84_41, x_84_44, x_84_46, j0, lgc0, k0, k1, k2, k3, k4, k5, k6, k7, k8, k9, k10, k11, k12, k13, k14, k15, k16, k20, k24, k30, k32, k46, k56, k60, k69, k88, k99, k100, k125, k255, k338, k398, k422, k17, k18, k19, k21, k22, k23, k25, k26, k27, k28, k29, k31, k33, k34, k35, k36, k37, k38, k39, k40, k41, k42, k43, k44, k45, k47, k48, k49, k50, k51, k52, k53, k54, k55, k57, k58, k59, k61, k62, k63, k64, k70, k71, k96, k109, k114, k115, k119, k124, k128, k216, k256, k999, k1296, k4096, k5184, k9999, k12345, k99999, k100000, k999999999, m_2, m_10, m_999, m_9999, m_999999999, q_in, q_cl, q_mul, q_add, q_sub, q_lt, q_le, q_eq, Nat.reduceAdd, Nat.reduceMul, Nat.reduceSub, Nat.reduceLT, Nat.reduceLeDiff, Nat.reduceEqDiff, Nat.add_zero, Nat.zero_add, Nat.mul_zero, q_addm, q_addn, q_subm, q_0m, q_ngm, sky_0, she_0, sky_1, she_1, sky_2, she_2, sky_3, she_3, m_lt, m_gt, m_eq, m_eq', m_one, m_ng, m_mlt, m_meq, q_sub1, q_sub1m, ↓q_irem, mx0, q_div, lt_T, lt_F, le_T, le_F, eq_T, eq_F, not_true_eq_false, not_false_eq_true, true_and, and_true, false_and, and_false, ↓reduceIte, ↓bz_i, ↓bz_l, ↓bz_v, ↓bz_h, ↓bz_c, zs_i, zs_l, zs_v, zs_h, zs_c, zs_n, zn_i, zn_l, zn_v, zn_h, zn_c, zi_i, zi_l, zi_v, zi_h, zi_c, List.append_nil, rr_nk, if_true, if_false, ite_true, ite_false, i01, i10, i00, ite_self, true_or, or_true, or_false, false_or]
  | succ j ih =>
    intro x y i l9 hy hj hx hi
    have hp : 2 ^ (j + 1) ≤ 2 ^ 40 := Nat.pow_le_pow_right (by omega) hj
    rw [Nat.pow_succ] at hy
    rw [Nat.pow_succ] at hp
    by_cases y0 : y = 0
    · subst y0
      rw [x_84_9, Nat.gcd_zero_left]
      simp (disch := omega) only [x_84_0, x_84_1, x_84_3, x_84_4, x_84_6, x_84_7, x_84_11, x_84_13, x_84_16, x_84_18, x_84_19, x_84_20, x_84_23, x_84_25, x_84_27, x_84_28, x_84_30, x_84_32, x_84_34, x_84_36, x_84_38, x_84_41, x_84_44, x_84_46, j0, lgc0, k0, k1, k2, k3, k4, k5, k6, k7, k8, k9, k10, k11, k12, k13, k14, k15, k16, k20, k24, k30, k32, k46, k56, k60, k69, k88, k99, k100, k125, k255, k338, k398, k422, k17, k18, k19, k21, k22, k23, k25, k26, k27, k28, k29, k31, k33, k34, k35, k36, k37, k38, k39, k40, k41, k42, k43, k44, k45, k47, k48, k49, k50, k51, k52, k53, k54, k55, k57, k58, k59, k61, k62, k63, k64, k70, k71, k96, k109, k114, k115, k119, k124, k128, k216, k256, k999, k1296, k4096, k5184, k9999, k12345, k99999, k100000, k999999999, m_2, m_10, m_999, m_9999, m_999999999, q_in, q_cl, q_mul, q_add, q_sub, q_lt, q_le, q_eq, Nat.reduceAdd, Nat.reduceMul, Nat.reduceSub, Nat.reduceLT, Nat.reduceLeDiff, Nat.reduceEqDiff, Nat.add_zero, Nat.zero_add, Nat.mul_zero, q_addm, q_addn, q_subm, q_0m, q_ngm, sky_0, she_0, sky_1, she_1, sky_2, she_2, sky_3, she_3, m_lt, m_gt, m_eq, m_eq', m_one, m_ng, m_mlt, m_meq, q_sub1, q_sub1m, ↓q_irem, mx0, q_div, lt_T, lt_F, le_T, le_F, eq_T, eq_F, not_true_eq_false, not_false_eq_true, true_and, and_true, false_and, and_false, ↓reduceIte, ↓bz_i, ↓bz_l, ↓bz_v, ↓bz_h, ↓bz_c, zs_i, zs_l, zs_v, zs_h, zs_c, zs_n, zn_i, zn_l, zn_v, zn_h, zn_c, zi_i, zi_l, zi_v, zi_h, zi_c, List.append_nil, rr_nk, if_true, if_false, ite_true, ite_false, i01, i10, i00, ite_self, true_or, or_true, or_false, false_or]
    have hr : x % y < y := Nat.mod_lt _ (by omega)
    rw [Nat.gcd_rec]
    by_cases r0 : x % y = 0
    · rw [r0, Nat.gcd_zero_left, x_84_9]
      simp (disch := omega) only [x_84_0, x_84_1, x_84_3, x_84_4, x_84_6, x_84_7, x_84_9, x_84_11, x_84_13, x_84_16, x_84_18, x_84_19, x_84_20, x_84_23, x_84_25, x_84_27, x_84_28, x_84_30, x_84_32, x_84_34, x_84_36, x_84_38, x_84_41, x_84_44, x_84_46, j0, lgc0, l_eq, l_rem, r0, y0, k0, k1, k2, k3, k4, k5, k6, k7, k8, k9, k10, k11, k12, k13, k14, k15, k16, k20, k24, k30, k32, k46, k56, k60, k69, k88, k99, k100, k125, k255, k338, k398, k422, k17, k18, k19, k21, k22, k23, k25, k26, k27, k28, k29, k31, k33, k34, k35, k36, k37, k38, k39, k40, k41, k42, k43, k44, k45, k47, k48, k49, k50, k51, k52, k53, k54, k55, k57, k58, k59, k61, k62, k63, k64, k70, k71, k96, k109, k114, k115, k119, k124, k128, k216, k256, k999, k1296, k4096, k5184, k9999, k12345, k99999, k100000, k999999999, m_2, m_10, m_999, m_9999, m_999999999, q_in, q_cl, q_mul, q_add, q_sub, q_lt, q_le, q_eq, Nat.reduceAdd, Nat.reduceMul, Nat.reduceSub, Nat.reduceLT, Nat.reduceLeDiff, Nat.reduceEqDiff, Nat.add_zero, Nat.zero_add, Nat.mul_zero, q_addm, q_addn, q_subm, q_0m, q_ngm, sky_0, she_0, sky_1, she_1, sky_2, she_2, sky_3, she_3, m_lt, m_gt, m_eq, m_eq', m_one, m_ng, m_mlt, m_meq, q_sub1, q_sub1m, ↓q_irem, mx0, q_div, lt_T, lt_F, le_T, le_F, eq_T, eq_F, not_true_eq_false, not_false_eq_true, true_and, and_true, false_and, and_false, ↓reduceIte, ↓bz_i, ↓bz_l, ↓bz_v, ↓bz_h, ↓bz_c, zs_i, zs_l, zs_v, zs_h, zs_c, zs_n, zn_i, zn_l, zn_v, zn_h, zn_c, zi_i, zi_l, zi_v, zi_h, zi_c, List.append_nil, rr_nk, if_true, if_false, ite_true, ite_false, i01, i10, i00, ite_self, true_or, or_true, or_false, false_or]
    have hr2 : y % (x % y) < x % y := Nat.mod_lt _ (by omega)
    have hr3 : y % (x % y) + x % y ≤ y := by
      have h1 := Nat.div_add_mod y (x % y)
      have h2 : 1 ≤ y / (x % y) := Nat.div_pos (by omega) (by omega)
      have h3 : x % y ≤ (x % y) * (y / (x % y)) := Nat.le_mul_of_pos_right _ (by omega)
      omega
    rw [Nat.gcd_rec, ← ih (x % y) (y % (x % y)) (i + 2) (some (.long (lJ (y % (x % y))))) (by omega) (by omega) (by omega) (by omega), x_84_9]
    obtain ⟨r, er⟩ : ∃ r, x % y = r := ⟨_, rfl⟩
    rw [er] at hr hr2 hr3 r0 ⊢
    obtain ⟨t, et⟩ : ∃ t, y % r = t := ⟨_, rfl⟩
    rw [et] at hr2 hr3 ⊢
    simp (disch := omega) only [x_84_0, x_84_1, x_84_3, x_84_4, x_84_6, x_84_7, x_84_11, x_84_13, x_84_16, x_84_18, x_84_19, x_84_20, x_84_23, x_84_25, x_84_27, x_84_28, x_84_30, x_84_32, x_84_34, x_84_36, x_84_38, x_84_41, x_84_44, x_84_46, j0, lgc0, l_eq, l_rem, er, et, r0, y0, k0, k1, k2, k3, k4, k5, k6, k7, k8, k9, k10, k11, k12, k13, k14, k15, k16, k20, k24, k30, k32, k46, k56, k60, k69, k88, k99, k100, k125, k255, k338, k398, k422, k17, k18, k19, k21, k22, k23, k25, k26, k27, k28, k29, k31, k33, k34, k35, k36, k37, k38, k39, k40, k41, k42, k43, k44, k45, k47, k48, k49, k50, k51, k52, k53, k54, k55, k57, k58, k59, k61, k62, k63, k64, k70, k71, k96, k109, k114, k115, k119, k124, k128, k216, k256, k999, k1296, k4096, k5184, k9999, k12345, k99999, k100000, k999999999, m_2, m_10, m_999, m_9999, m_999999999, q_in, q_cl, q_mul, q_add, q_sub, q_lt, q_le, q_eq, Nat.reduceAdd, Nat.reduceMul, Nat.reduceSub, Nat.reduceLT, Nat.reduceLeDiff, Nat.reduceEqDiff, Nat.add_zero, Nat.zero_add, Nat.mul_zero, q_addm, q_addn, q_subm, q_0m, q_ngm, sky_0, she_0, sky_1, she_1, sky_2, she_2, sky_3, she_3, m_lt, m_gt, m_eq, m_eq', m_one, m_ng, m_mlt, m_meq, q_sub1, q_sub1m, ↓q_irem, mx0, q_div, lt_T, lt_F, le_T, le_F, eq_T, eq_F, not_true_eq_false, not_false_eq_true, true_and, and_true, false_and, and_false, ↓reduceIte, ↓bz_i, ↓bz_l, ↓bz_v, ↓bz_h, ↓bz_c, zs_i, zs_l, zs_v, zs_h, zs_c, zs_n, zn_i, zn_l, zn_v, zn_h, zn_c, zi_i, zi_l, zi_v, zi_h, zi_c, List.append_nil, rr_nk, if_true, if_false, ite_true, ite_false, i01, i10, i00, ite_self, true_or, or_true, or_false, false_or]
    rw [x_84_9]
    simp (disch := omega) only [x_84_0, x_84_1, x_84_3, x_84_4, x_84_6, x_84_7, x_84_11, x_84_13, x_84_16, x_84_18, x_84_19, x_84_20, x_84_23, x_84_25, x_84_27, x_84_28, x_84_30, x_84_32, x_84_34, x_84_36, x_84_38, x_84_41, x_84_44, x_84_46, j0, lgc0, l_eq, l_rem, er, et, r0, y0, k0, k1, k2, k3, k4, k5, k6, k7, k8, k9, k10, k11, k12, k13, k14, k15, k16, k20, k24, k30, k32, k46, k56, k60, k69, k88, k99, k100, k125, k255, k338, k398, k422, k17, k18, k19, k21, k22, k23, k25, k26, k27, k28, k29, k31, k33, k34, k35, k36, k37, k38, k39, k40, k41, k42, k43, k44, k45, k47, k48, k49, k50, k51, k52, k53, k54, k55, k57, k58, k59, k61, k62, k63, k64, k70, k71, k96, k109, k114, k115, k119, k124, k128, k216, k256, k999, k1296, k4096, k5184, k9999, k12345, k99999, k100000, k999999999, m_2, m_10, m_999, m_9999, m_999999999, q_in, q_cl, q_mul, q_add, q_sub, q_lt, q_le, q_eq, Nat.reduceAdd, Nat.reduceMul, Nat.reduceSub, Nat.reduceLT, Nat.reduceLeDiff, Nat.reduceEqDiff, Nat.add_zero, Nat.zero_add, Nat.mul_zero, q_addm, q_addn, q_subm, q_0m, q_ngm, sky_0, she_0, sky_1, she_1, sky_2, she_2, sky_3, she_3, m_lt, m_gt, m_eq, m_eq', m_one, m_ng, m_mlt, m_meq, q_sub1, q_sub1m, ↓q_irem, mx0, q_div, lt_T, lt_F, le_T, le_F, eq_T, eq_F, not_true_eq_false, not_false_eq_true, true_and, and_true, false_and, and_false, ↓reduceIte, ↓bz_i, ↓bz_l, ↓bz_v, ↓bz_h, ↓bz_c, zs_i, zs_l, zs_v, zs_h, zs_c, zs_n, zn_i, zn_l, zn_v, zn_h, zn_c, zi_i, zi_l, zi_v, zi_h, zi_c, List.append_nil, rr_nk, if_true, if_false, ite_true, ite_false, i01, i10, i00, ite_self, true_or, or_true, or_false, false_or]
set_option maxRecDepth 20000 in
theorem lp194 (d : Nat) (l0 l2 : Int64) : ∀ (f x y : Nat) (l8 : Option Value), y < f → y < 2 ^ 62 → x < 2 ^ 62 → rx d 194 17 [some (.long l0), none, some (.long l2), none, some (.long (lJ x)), none, some (.long (lJ y)), none, l8, none] [] sz us h = some (some (.long (lJ (Nat.gcd y x))), sz, us, h) := by
  intro f
  induction f with
  | zero => intro x y l8 hy; omega
  | succ f ih =>
    intro x y l8 hy h62 hx
    by_cases y0 : y = 0
    · subst y0
      rw [x_194_17, Nat.gcd_zero_left]
      simp (disch := omega) only [x_194_0, x_194_1, x_194_2, x_194_3, x_194_6, x_194_7, x_194_8, x_194_11, x_194_12, x_194_14, x_194_15, x_194_19, x_194_20, x_194_21, x_194_24, x_194_26, x_194_28, x_194_29, x_194_31, x_194_33, x_194_35, x_194_37, x_194_39, x_194_42, x_194_44, j0, lgc0, k0, k1, k2, k3, k4, k5, k6, k7, k8, k9, k10, k11, k12, k13, k14, k15, k16, k20, k24, k30, k32, k46, k56, k60, k69, k88, k99, k100, k125, k255, k338, k398, k422, k17, k18, k19, k21, k22, k23, k25, k26, k27, k28, k29, k31, k33, k34, k35, k36, k37, k38, k39, k40, k41, k42, k43, k44, k45, k47, k48, k49, k50, k51, k52, k53, k54, k55, k57, k58, k59, k61, k62, k63, k64, k70, k71, k96, k109, k114, k115, k119, k124, k128, k216, k256, k999, k1296, k4096, k5184, k9999, k12345, k99999, k100000, k999999999, m_2, m_10, m_999, m_9999, m_999999999, q_in, q_cl, q_mul, q_add, q_sub, q_lt, q_le, q_eq, Nat.reduceAdd, Nat.reduceMul, Nat.reduceSub, Nat.reduceLT, Nat.reduceLeDiff, Nat.reduceEqDiff, Nat.add_zero, Nat.zero_add, Nat.mul_zero, q_addm, q_addn, q_subm, q_0m, q_ngm, sky_0, she_0, sky_1, she_1, sky_2, she_2, sky_3, she_3, m_lt, m_gt, m_eq, m_eq', m_one, m_ng, m_mlt, m_meq, q_sub1, q_sub1m, ↓q_irem, mx0, q_div, lt_T, lt_F, le_T, le_F, eq_T, eq_F, not_true_eq_false, not_false_eq_true, true_and, and_true, false_and, and_false, ↓reduceIte, ↓bz_i, ↓bz_l, ↓bz_v, ↓bz_h, ↓bz_c, zs_i, zs_l, zs_v, zs_h, zs_c, zs_n, zn_i, zn_l, zn_v, zn_h, zn_c, zi_i, zi_l, zi_v, zi_h, zi_c, List.append_nil, rr_nk, if_true, if_false, ite_true, ite_false, i01, i10, i00, ite_self, true_or, or_true, or_false, false_or]
    have hr : x % y < y := Nat.mod_lt _ (by omega)
    rw [Nat.gcd_rec, ← ih y (x % y) (some (.long (lJ (x % y)))) (by omega) (by omega) (by omega), x_194_17]
    simp (disch := omega) only [x_194_0, x_194_1, x_194_2, x_194_3, x_194_6, x_194_7, x_194_8, x_194_11, x_194_12, x_194_14, x_194_15, x_194_19, x_194_20, x_194_21, x_194_24, x_194_26, x_194_28, x_194_29, x_194_31, x_194_33, x_194_35, x_194_37, x_194_39, x_194_42, x_194_44, j0, lgc0, l_eq, l_rem, y0, k0, k1, k2, k3, k4, k5, k6, k7, k8, k9, k10, k11, k12, k13, k14, k15, k16, k20, k24, k30, k32, k46, k56, k60, k69, k88, k99, k100, k125, k255, k338, k398, k422, k17, k18, k19, k21, k22, k23, k25, k26, k27, k28, k29, k31, k33, k34, k35, k36, k37, k38, k39, k40, k41, k42, k43, k44, k45, k47, k48, k49, k50, k51, k52, k53, k54, k55, k57, k58, k59, k61, k62, k63, k64, k70, k71, k96, k109, k114, k115, k119, k124, k128, k216, k256, k999, k1296, k4096, k5184, k9999, k12345, k99999, k100000, k999999999, m_2, m_10, m_999, m_9999, m_999999999, q_in, q_cl, q_mul, q_add, q_sub, q_lt, q_le, q_eq, Nat.reduceAdd, Nat.reduceMul, Nat.reduceSub, Nat.reduceLT, Nat.reduceLeDiff, Nat.reduceEqDiff, Nat.add_zero, Nat.zero_add, Nat.mul_zero, q_addm, q_addn, q_subm, q_0m, q_ngm, sky_0, she_0, sky_1, she_1, sky_2, she_2, sky_3, she_3, m_lt, m_gt, m_eq, m_eq', m_one, m_ng, m_mlt, m_meq, q_sub1, q_sub1m, ↓q_irem, mx0, q_div, lt_T, lt_F, le_T, le_F, eq_T, eq_F, not_true_eq_false, not_false_eq_true, true_and, and_true, false_and, and_false, ↓reduceIte, ↓bz_i, ↓bz_l, ↓bz_v, ↓bz_h, ↓bz_c, zs_i, zs_l, zs_v, zs_h, zs_c, zs_n, zn_i, zn_l, zn_v, zn_h, zn_c, zi_i, zi_l, zi_v, zi_h, zi_c, List.append_nil, rr_nk, if_true, if_false, ite_true, ite_false, i01, i10, i00, ite_self, true_or, or_true, or_false, false_or]
def aJ (v : Int64) (a : Nat) : Prop := v = lJ a ∨ (v < lJ 0 ∧ -v = lJ a)
theorem negJ0 : -lJ 0 = lJ 0 := rfl
set_option maxRecDepth 20000 in
theorem s84 (d : Nat) {x y : Nat} (hy : y < 2 ^ 40) (hx : x < 2 ^ 62) : rx d 84 0 [some (.long (lJ x)), none, some (.long (lJ y)), none, none, none, none, none, none, none, none] [] sz us h = some (some (.long (lJ (Nat.gcd y x))), sz, us, h) := by
  rw [← lp84 (us := us) (h := h) d (lJ x) (lJ y) 40 x y 0 none hy (by omega) hx (by omega)]
  simp (disch := omega) only [x_84_0, x_84_1, x_84_3, x_84_4, x_84_6, x_84_7, x_84_11, x_84_13, x_84_16, x_84_18, x_84_19, x_84_20, x_84_23, x_84_25, x_84_27, x_84_28, x_84_30, x_84_32, x_84_34, x_84_36, x_84_38, x_84_41, x_84_44, x_84_46, k0, k1, k2, k3, k4, k5, k6, k7, k8, k9, k10, k11, k12, k13, k14, k15, k16, k20, k24, k30, k32, k46, k56, k60, k69, k88, k99, k100, k125, k255, k338, k398, k422, k17, k18, k19, k21, k22, k23, k25, k26, k27, k28, k29, k31, k33, k34, k35, k36, k37, k38, k39, k40, k41, k42, k43, k44, k45, k47, k48, k49, k50, k51, k52, k53, k54, k55, k57, k58, k59, k61, k62, k63, k64, k70, k71, k96, k109, k114, k115, k119, k124, k128, k216, k256, k999, k1296, k4096, k5184, k9999, k12345, k99999, k100000, k999999999, m_2, m_10, m_999, m_9999, m_999999999, q_in, q_cl, q_mul, q_add, q_sub, q_lt, q_le, q_eq, Nat.reduceAdd, Nat.reduceMul, Nat.reduceSub, Nat.reduceLT, Nat.reduceLeDiff, Nat.reduceEqDiff, Nat.add_zero, Nat.zero_add, Nat.mul_zero, q_addm, q_addn, q_subm, q_0m, q_ngm, ↓reduceIte, ↓bz_i, ↓bz_l, ↓bz_v, ↓bz_h, ↓bz_c, zs_i, zs_l, zs_v, zs_h, zs_c, zs_n, zn_i, zn_l, zn_v, zn_h, zn_c, zi_i, zi_l, zi_v, zi_h, zi_c, List.append_nil, rr_nk, if_true, if_false, ite_true, ite_false, i01, i10, i00, ite_self, true_or, or_true, or_false, false_or]
set_option maxRecDepth 20000 in
theorem s83 (d : Nat) {v : Int64} {a b p : Nat} (hv : aJ v a) (ha : a < 2 ^ 62) (hb1 : 1 ≤ b) (hb : b < 2 ^ 40) (hp : p ≤ 1) : rx (d + 1) 83 0 [some (.long v), none, some (.long (lJ b)), none, some (.int (nI p)), none, none] [] sz us h = some (some (.long (if p = 0 then v / lJ (Nat.gcd b a) else lJ b / lJ (Nat.gcd b a))), sz, us, h) := by
  have e := s84 (us := us) (h := h) (sz := sz) d hb ha
  have g1 : 1 ≤ Nat.gcd b a := Nat.gcd_pos_of_pos_left _ (by omega)
  have g2 : Nat.gcd b a ≤ b := Nat.gcd_le_left _ (by omega)
  obtain ⟨g, hg⟩ : ∃ g, Nat.gcd b a = g := ⟨_, rfl⟩
  rw [hg] at e g1 g2 ⊢
  have hm : (if lJ 1 < lJ g then lJ g else lJ 1) = lJ g := by
    by_cases q : 1 < g
    · rw [if_pos (by rw [l_lt (by omega) (by omega)]; exact q)]
    · rw [if_neg (by rw [l_lt (by omega) (by omega)]; exact q), show g = 1 by omega]
  have hab : (if lJ 0 < v then v else -v) = lJ a := by
    rcases hv with rfl | ⟨h1, h2⟩
    · by_cases q : 0 < a
      · rw [if_pos (by rw [l_lt (by omega) (by omega)]; exact q)]
      · rw [show a = 0 by omega, if_neg (by rw [l_lt (by omega) (by omega)]; omega)]; rfl
    · rw [if_neg (fun q => absurd (Int64.lt_trans q h1) Int64.lt_irrefl), h2]
  have hab0 : (if (0 : Int64) < v then v else -v) = lJ a := hab
  have hp2 : p = 0 ∨ p = 1 := by omega
  rcases hp2 with rfl | rfl
  · simp (disch := omega) only [x_83_0, x_83_1, x_83_2, x_83_5, x_83_6, x_83_9, x_83_12, x_83_14, x_83_16, x_83_19, x_83_20, x_83_23, x_83_24, x_83_26, x_83_27, ↓hab0, j0, j1, hab, e, l_lt, l_eq, k0, k1, k2, k3, k4, k5, k6, k7, k8, k9, k10, k11, k12, k13, k14, k15, k16, k20, k24, k30, k32, k46, k56, k60, k69, k88, k99, k100, k125, k255, k338, k398, k422, k17, k18, k19, k21, k22, k23, k25, k26, k27, k28, k29, k31, k33, k34, k35, k36, k37, k38, k39, k40, k41, k42, k43, k44, k45, k47, k48, k49, k50, k51, k52, k53, k54, k55, k57, k58, k59, k61, k62, k63, k64, k70, k71, k96, k109, k114, k115, k119, k124, k128, k216, k256, k999, k1296, k4096, k5184, k9999, k12345, k99999, k100000, k999999999, m_2, m_10, m_999, m_9999, m_999999999, q_in, q_cl, q_mul, q_add, q_sub, q_lt, q_le, q_eq, Nat.reduceAdd, Nat.reduceMul, Nat.reduceSub, Nat.reduceLT, Nat.reduceLeDiff, Nat.reduceEqDiff, Nat.add_zero, Nat.zero_add, Nat.mul_zero, q_addm, q_addn, q_subm, q_0m, q_ngm, sky_0, she_0, sky_1, she_1, sky_2, she_2, sky_3, she_3, m_lt, m_gt, m_eq, m_eq', m_one, m_ng, m_mlt, m_meq, q_sub1, q_sub1m, ↓q_irem, mx0, q_div, lt_T, lt_F, le_T, le_F, eq_T, eq_F, not_true_eq_false, not_false_eq_true, true_and, and_true, false_and, and_false, ↓reduceIte, ↓bz_i, ↓bz_l, ↓bz_v, ↓bz_h, ↓bz_c, zs_i, zs_l, zs_v, zs_h, zs_c, zs_n, zn_i, zn_l, zn_v, zn_h, zn_c, zi_i, zi_l, zi_v, zi_h, zi_c, List.append_nil, rr_nk, if_true, if_false, ite_true, ite_false, i01, i10, i00, ite_self, true_or, or_true, or_false, false_or]
  · simp (disch := omega) only [x_83_0, x_83_1, x_83_2, x_83_5, x_83_6, x_83_9, x_83_12, x_83_14, x_83_16, x_83_19, x_83_20, x_83_23, x_83_24, x_83_26, x_83_27, ↓hab0, j0, j1, hab, e, l_lt, l_eq, k0, k1, k2, k3, k4, k5, k6, k7, k8, k9, k10, k11, k12, k13, k14, k15, k16, k20, k24, k30, k32, k46, k56, k60, k69, k88, k99, k100, k125, k255, k338, k398, k422, k17, k18, k19, k21, k22, k23, k25, k26, k27, k28, k29, k31, k33, k34, k35, k36, k37, k38, k39, k40, k41, k42, k43, k44, k45, k47, k48, k49, k50, k51, k52, k53, k54, k55, k57, k58, k59, k61, k62, k63, k64, k70, k71, k96, k109, k114, k115, k119, k124, k128, k216, k256, k999, k1296, k4096, k5184, k9999, k12345, k99999, k100000, k999999999, m_2, m_10, m_999, m_9999, m_999999999, q_in, q_cl, q_mul, q_add, q_sub, q_lt, q_le, q_eq, Nat.reduceAdd, Nat.reduceMul, Nat.reduceSub, Nat.reduceLT, Nat.reduceLeDiff, Nat.reduceEqDiff, Nat.add_zero, Nat.zero_add, Nat.mul_zero, q_addm, q_addn, q_subm, q_0m, q_ngm, sky_0, she_0, sky_1, she_1, sky_2, she_2, sky_3, she_3, m_lt, m_gt, m_eq, m_eq', m_one, m_ng, m_mlt, m_meq, q_sub1, q_sub1m, ↓q_irem, mx0, q_div, lt_T, lt_F, le_T, le_F, eq_T, eq_F, not_true_eq_false, not_false_eq_true, true_and, and_true, false_and, and_false, ↓reduceIte, ↓bz_i, ↓bz_l, ↓bz_v, ↓bz_h, ↓bz_c, zs_i, zs_l, zs_v, zs_h, zs_c, zs_n, zn_i, zn_l, zn_v, zn_h, zn_c, zi_i, zi_l, zi_v, zi_h, zi_c, List.append_nil, rr_nk, if_true, if_false, ite_true, ite_false, i01, i10, i00, ite_self, true_or, or_true, or_false, false_or]
set_option maxRecDepth 20000 in
theorem s194 (d : Nat) {v : Int64} {a b : Nat} (hv : aJ v a) (ha : a < 2 ^ 62) (hb : b < 2 ^ 62) : rx d 194 0 [some (.long v), none, some (.long (lJ b)), none, none, none, none, none, none, none] [] sz us h = some (some (.long (lJ (Nat.gcd b a))), sz, us, h) := by
  have e := lp194 (us := us) (h := h) (sz := sz) d v (lJ b) (b + 1) a b none (by omega) hb ha
  rw [← e]
  rcases hv with rfl | ⟨h1, h2⟩
  · have hn : ¬ lJ a < lJ 0 := by rw [l_lt (by omega) (by omega)]; omega
    simp (disch := omega) only [x_194_0, x_194_1, x_194_2, x_194_3, x_194_6, x_194_7, x_194_8, x_194_11, x_194_12, x_194_14, x_194_15, x_194_19, x_194_20, x_194_21, x_194_24, x_194_26, x_194_28, x_194_29, x_194_31, x_194_33, x_194_35, x_194_37, x_194_39, x_194_42, x_194_44, j0, lgc_lt, hn, k0, k1, k2, k3, k4, k5, k6, k7, k8, k9, k10, k11, k12, k13, k14, k15, k16, k20, k24, k30, k32, k46, k56, k60, k69, k88, k99, k100, k125, k255, k338, k398, k422, k17, k18, k19, k21, k22, k23, k25, k26, k27, k28, k29, k31, k33, k34, k35, k36, k37, k38, k39, k40, k41, k42, k43, k44, k45, k47, k48, k49, k50, k51, k52, k53, k54, k55, k57, k58, k59, k61, k62, k63, k64, k70, k71, k96, k109, k114, k115, k119, k124, k128, k216, k256, k999, k1296, k4096, k5184, k9999, k12345, k99999, k100000, k999999999, m_2, m_10, m_999, m_9999, m_999999999, q_in, q_cl, q_mul, q_add, q_sub, q_lt, q_le, q_eq, Nat.reduceAdd, Nat.reduceMul, Nat.reduceSub, Nat.reduceLT, Nat.reduceLeDiff, Nat.reduceEqDiff, Nat.add_zero, Nat.zero_add, Nat.mul_zero, q_addm, q_addn, q_subm, q_0m, q_ngm, sky_0, she_0, sky_1, she_1, sky_2, she_2, sky_3, she_3, m_lt, m_gt, m_eq, m_eq', m_one, m_ng, m_mlt, m_meq, q_sub1, q_sub1m, ↓q_irem, mx0, q_div, lt_T, lt_F, le_T, le_F, eq_T, eq_F, not_true_eq_false, not_false_eq_true, true_and, and_true, false_and, and_false, ↓reduceIte, ↓bz_i, ↓bz_l, ↓bz_v, ↓bz_h, ↓bz_c, zs_i, zs_l, zs_v, zs_h, zs_c, zs_n, zn_i, zn_l, zn_v, zn_h, zn_c, zi_i, zi_l, zi_v, zi_h, zi_c, List.append_nil, rr_nk, if_true, if_false, ite_true, ite_false, i01, i10, i00, ite_self, true_or, or_true, or_false, false_or]
  · simp (disch := omega) only [x_194_0, x_194_1, x_194_2, x_194_3, x_194_6, x_194_7, x_194_8, x_194_11, x_194_12, x_194_14, x_194_15, x_194_19, x_194_20, x_194_21, x_194_24, x_194_26, x_194_28, x_194_29, x_194_31, x_194_33, x_194_35, x_194_37, x_194_39, x_194_42, x_194_44, j0, lgc_lt, h1, h2, k0, k1, k2, k3, k4, k5, k6, k7, k8, k9, k10, k11, k12, k13, k14, k15, k16, k20, k24, k30, k32, k46, k56, k60, k69, k88, k99, k100, k125, k255, k338, k398, k422, k17, k18, k19, k21, k22, k23, k25, k26, k27, k28, k29, k31, k33, k34, k35, k36, k37, k38, k39, k40, k41, k42, k43, k44, k45, k47, k48, k49, k50, k51, k52, k53, k54, k55, k57, k58, k59, k61, k62, k63, k64, k70, k71, k96, k109, k114, k115, k119, k124, k128, k216, k256, k999, k1296, k4096, k5184, k9999, k12345, k99999, k100000, k999999999, m_2, m_10, m_999, m_9999, m_999999999, q_in, q_cl, q_mul, q_add, q_sub, q_lt, q_le, q_eq, Nat.reduceAdd, Nat.reduceMul, Nat.reduceSub, Nat.reduceLT, Nat.reduceLeDiff, Nat.reduceEqDiff, Nat.add_zero, Nat.zero_add, Nat.mul_zero, q_addm, q_addn, q_subm, q_0m, q_ngm, sky_0, she_0, sky_1, she_1, sky_2, she_2, sky_3, she_3, m_lt, m_gt, m_eq, m_eq', m_one, m_ng, m_mlt, m_meq, q_sub1, q_sub1m, ↓q_irem, mx0, q_div, lt_T, lt_F, le_T, le_F, eq_T, eq_F, not_true_eq_false, not_false_eq_true, true_and, and_true, false_and, and_false, ↓reduceIte, ↓bz_i, ↓bz_l, ↓bz_v, ↓bz_h, ↓bz_c, zs_i, zs_l, zs_v, zs_h, zs_c, zs_n, zn_i, zn_l, zn_v, zn_h, zn_c, zi_i, zi_l, zi_v, zi_h, zi_c, List.append_nil, rr_nk, if_true, if_false, ite_true, ite_false, i01, i10, i00, ite_self, true_or, or_true, or_false, false_or]
end GC
theorem aJ_n {j : Nat} (h : j < 2 ^ 31) : aJ (nI j).toInt64 j := Or.inl (nI_tl h)
theorem aJ_m {j : Nat} (h0 : 1 ≤ j) (h : j < 2 ^ 31) : aJ (mI j).toInt64 j := by
  have e : (mI j).toInt64.toInt = -(j : Int) := by rw [Int32.toInt_toInt64, mI_i (by omega)]
  refine Or.inr ⟨?_, ?_⟩
  · rw [Int64.lt_iff_toInt_lt, e, lJ_i (by omega)]; omega
  · apply Int64.toInt_inj.mp
    rw [Int64.toInt_neg, e, lJ_i (by omega), Int.bmod_eq_of_le (by omega) (by omega)]; omega
theorem dv64 {m : Int32} {g : Nat} (hm : sm 1000000000 m) (h0 : 1 ≤ g) (hg : g < 2 ^ 31) : (m.toInt64 / lJ g).toInt32 = m / nI g := by
  unfold sm at hm
  have hn : m.toInt.tdiv (g : Int) ≤ 1000000000 ∧ -1000000000 ≤ m.toInt.tdiv (g : Int) := by
    have h1 := Int.natAbs_tdiv_le_natAbs m.toInt (g : Int)
    omega
  apply Int32.toInt_inj.mp
  rw [Int64.toInt_toInt32, Int64.toInt_div_of_ne_right _ _ (fun h => by
    have := congrArg Int64.toInt h
    rw [lJ_i (by omega), show (-1 : Int64).toInt = -1 by decide] at this; omega), Int32.toInt_toInt64, lJ_i (by omega), Int32.toInt_div_of_ne_right _ _ (fun h => by
    have := congrArg Int32.toInt h
    rw [nI_i (by omega), show (-1 : Int32).toInt = -1 by decide] at this; omega), nI_i hg, Int.bmod_eq_of_le (by omega) (by omega)]
section CY
variable {sz us : Nat} {kq fq : Option Nat} {L : Nat} {xs : Nat → Int32} {A B A' B' : rrA} {J : Nat → Nat → Int64}
set_option maxRecDepth 20000 in
theorem lp193 (d : Nat) {a b : Nat} (ha : ∀ (A : rrA) (k : Int32), rr_ai sz (hp kq fq L xs A B J) a k = if rr_in k 422 = true then some (A a k.toNatClampNeg) else none) (hb : ∀ (A : rrA) (k x : Int32), rr_wi sz (hp kq fq L xs A B J) b k x = if rr_in k 422 = true then some (hp kq fq L xs (u1 A b (upd (A b) k.toNatClampNeg x)) B J) else none) (hab : a ≠ b) : ∀ (m k : Nat) (A : rrA), m + k = 422 → ∃ A', rx d 193 2 [some (.ref a), some (.ref b), some (.int (nI k))] [] sz us (hp kq fq L xs A B J) = some (none, sz, us, hp kq fq L xs A' B J) ∧ (∀ i, i ≠ b → A' i = A i) ∧ ∀ t, A' b t = if k ≤ t ∧ t < 422 then A a t else A b t := by
  intro m
  induction m with
  | zero =>
    intro k A hk
    have : k = 422 := by omega
    subst this
    refine ⟨A, ?_, fun _ _ => rfl, fun t => by rw [if_neg (by omega)]⟩
    rw [x_193_2]
    simp (disch := omega) only [x_193_0, x_193_1, x_193_3, x_193_6, x_193_9, x_193_10, x_193_11, x_193_12, x_193_13, x_193_14, x_193_15, x_193_18, x_193_21, k0, k1, k2, k3, k4, k5, k6, k7, k8, k9, k10, k11, k12, k13, k14, k15, k16, k20, k24, k30, k32, k46, k56, k60, k69, k88, k99, k100, k125, k255, k338, k398, k422, k17, k18, k19, k21, k22, k23, k25, k26, k27, k28, k29, k31, k33, k34, k35, k36, k37, k38, k39, k40, k41, k42, k43, k44, k45, k47, k48, k49, k50, k51, k52, k53, k54, k55, k57, k58, k59, k61, k62, k63, k64, k70, k71, k96, k109, k114, k115, k119, k124, k128, k216, k256, k999, k1296, k4096, k5184, k9999, k12345, k99999, k100000, k999999999, m_2, m_10, m_999, m_9999, m_999999999, q_in, q_cl, q_mul, q_add, q_sub, q_lt, q_le, q_eq, Nat.reduceAdd, Nat.reduceMul, Nat.reduceSub, Nat.reduceLT, Nat.reduceLeDiff, Nat.reduceEqDiff, Nat.add_zero, Nat.zero_add, Nat.mul_zero, q_addm, q_addn, q_subm, q_0m, q_ngm, sky_0, she_0, sky_1, she_1, sky_2, she_2, sky_3, she_3, m_lt, m_gt, m_eq, m_eq', m_one, m_ng, m_mlt, m_meq, q_sub1, q_sub1m, ↓q_irem, mx0, q_div, lt_T, lt_F, le_T, le_F, eq_T, eq_F, not_true_eq_false, not_false_eq_true, true_and, and_true, false_and, and_false, ↓reduceIte, ↓bz_i, ↓bz_l, ↓bz_v, ↓bz_h, ↓bz_c, zs_i, zs_l, zs_v, zs_h, zs_c, zs_n, zn_i, zn_l, zn_v, zn_h, zn_c, zi_i, zi_l, zi_v, zi_h, zi_c, List.append_nil, rr_nk, if_true, if_false, ite_true, ite_false, i01, i10, i00, ite_self, true_or, or_true, or_false, false_or]
  | succ m ih =>
    intro k A hk
    obtain ⟨A', e, h1, h2⟩ := ih (k + 1) (u1 A b (upd (A b) k (A a k))) (by omega)
    refine ⟨A', Eq.trans ?_ e, fun i hi => by rw [h1 i hi, u1_ne hi], fun t => ?_⟩
    · rw [x_193_2]
      simp (disch := omega) only [x_193_0, x_193_1, x_193_3, x_193_6, x_193_9, x_193_10, x_193_11, x_193_12, x_193_13, x_193_14, x_193_15, x_193_18, x_193_21, ha, hb, k0, k1, k2, k3, k4, k5, k6, k7, k8, k9, k10, k11, k12, k13, k14, k15, k16, k20, k24, k30, k32, k46, k56, k60, k69, k88, k99, k100, k125, k255, k338, k398, k422, k17, k18, k19, k21, k22, k23, k25, k26, k27, k28, k29, k31, k33, k34, k35, k36, k37, k38, k39, k40, k41, k42, k43, k44, k45, k47, k48, k49, k50, k51, k52, k53, k54, k55, k57, k58, k59, k61, k62, k63, k64, k70, k71, k96, k109, k114, k115, k119, k124, k128, k216, k256, k999, k1296, k4096, k5184, k9999, k12345, k99999, k100000, k999999999, m_2, m_10, m_999, m_9999, m_999999999, q_in, q_cl, q_mul, q_add, q_sub, q_lt, q_le, q_eq, Nat.reduceAdd, Nat.reduceMul, Nat.reduceSub, Nat.reduceLT, Nat.reduceLeDiff, Nat.reduceEqDiff, Nat.add_zero, Nat.zero_add, Nat.mul_zero, q_addm, q_addn, q_subm, q_0m, q_ngm, sky_0, she_0, sky_1, she_1, sky_2, she_2, sky_3, she_3, m_lt, m_gt, m_eq, m_eq', m_one, m_ng, m_mlt, m_meq, q_sub1, q_sub1m, ↓q_irem, mx0, q_div, lt_T, lt_F, le_T, le_F, eq_T, eq_F, not_true_eq_false, not_false_eq_true, true_and, and_true, false_and, and_false, ↓reduceIte, ↓bz_i, ↓bz_l, ↓bz_v, ↓bz_h, ↓bz_c, zs_i, zs_l, zs_v, zs_h, zs_c, zs_n, zn_i, zn_l, zn_v, zn_h, zn_c, zi_i, zi_l, zi_v, zi_h, zi_c, List.append_nil, rr_nk, if_true, if_false, ite_true, ite_false, i01, i10, i00, ite_self, true_or, or_true, or_false, false_or]
    · rw [h2 t, u1_ne hab, u1_eq]
      by_cases q : t = k
      · subst q; rw [if_neg (by omega), if_pos (by omega), upd_eq']
      · rw [upd_ne' q]
        by_cases q2 : k + 1 ≤ t ∧ t < 422
        · rw [if_pos q2, if_pos (by omega)]
        · rw [if_neg q2, if_neg (by omega)]
set_option maxRecDepth 20000 in
theorem s193 (d : Nat) {a b : Nat} (ha : ∀ x y w, sh kq fq L xs a x y w = rr_cI 422 x) (hb : ∀ x y w, sh kq fq L xs b x y w = rr_cI 422 x) (hza : a < sz) (hzb : b < sz) (hab : a ≠ b) : ∃ A', rx d 193 0 [some (.ref a), some (.ref b), none] [] sz us (hp kq fq L xs A B J) = some (none, sz, us, hp kq fq L xs A' B J) ∧ (∀ i, i ≠ b → A' i = A i) ∧ ∀ t, A' b t = if t < 422 then A a t else A b t := by
  obtain ⟨A', e, h1, h2⟩ := lp193 (kq := kq) (fq := fq) (L := L) (xs := xs) (J := J) (us := us) (B := B) d (fun A k => hp_ai ha hza k) (fun A k x => hp_wi hb hzb k x) hab 422 0 A (by omega)
  refine ⟨A', Eq.trans ?_ e, h1, fun t => ?_⟩
  · simp (disch := omega) only [x_193_0, x_193_1, x_193_3, x_193_6, x_193_9, x_193_10, x_193_11, x_193_12, x_193_13, x_193_14, x_193_15, x_193_18, x_193_21, k0, k1, k2, k3, k4, k5, k6, k7, k8, k9, k10, k11, k12, k13, k14, k15, k16, k20, k24, k30, k32, k46, k56, k60, k69, k88, k99, k100, k125, k255, k338, k398, k422, k17, k18, k19, k21, k22, k23, k25, k26, k27, k28, k29, k31, k33, k34, k35, k36, k37, k38, k39, k40, k41, k42, k43, k44, k45, k47, k48, k49, k50, k51, k52, k53, k54, k55, k57, k58, k59, k61, k62, k63, k64, k70, k71, k96, k109, k114, k115, k119, k124, k128, k216, k256, k999, k1296, k4096, k5184, k9999, k12345, k99999, k100000, k999999999, m_2, m_10, m_999, m_9999, m_999999999, q_in, q_cl, q_mul, q_add, q_sub, q_lt, q_le, q_eq, Nat.reduceAdd, Nat.reduceMul, Nat.reduceSub, Nat.reduceLT, Nat.reduceLeDiff, Nat.reduceEqDiff, Nat.add_zero, Nat.zero_add, Nat.mul_zero, q_addm, q_addn, q_subm, q_0m, q_ngm, ↓reduceIte, ↓bz_i, ↓bz_l, ↓bz_v, ↓bz_h, ↓bz_c, zs_i, zs_l, zs_v, zs_h, zs_c, zs_n, zn_i, zn_l, zn_v, zn_h, zn_c, zi_i, zi_l, zi_v, zi_h, zi_c, List.append_nil, rr_nk, if_true, if_false, ite_true, ite_false, i01, i10, i00, ite_self, true_or, or_true, or_false, false_or]
  · rw [h2 t]
    by_cases q : t < 422
    · rw [if_pos q, if_pos (by omega)]
    · rw [if_neg q, if_neg (by omega)]
end CY

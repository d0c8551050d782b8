/-! more numbers -/
theorem k17 : (17 : Int32) = nI 17 := rfl
theorem k18 : (18 : Int32) = nI 18 := rfl
theorem k19 : (19 : Int32) = nI 19 := rfl
theorem k21 : (21 : Int32) = nI 21 := rfl
theorem k22 : (22 : Int32) = nI 22 := rfl
theorem k23 : (23 : Int32) = nI 23 := rfl
theorem k25 : (25 : Int32) = nI 25 := rfl
theorem k26 : (26 : Int32) = nI 26 := rfl
theorem k27 : (27 : Int32) = nI 27 := rfl
theorem k28 : (28 : Int32) = nI 28 := rfl
theorem k29 : (29 : Int32) = nI 29 := rfl
theorem k31 : (31 : Int32) = nI 31 := rfl
theorem k33 : (33 : Int32) = nI 33 := rfl
theorem k34 : (34 : Int32) = nI 34 := rfl
theorem k35 : (35 : Int32) = nI 35 := rfl
theorem k36 : (36 : Int32) = nI 36 := rfl
theorem k37 : (37 : Int32) = nI 37 := rfl
theorem k38 : (38 : Int32) = nI 38 := rfl
theorem k39 : (39 : Int32) = nI 39 := rfl
theorem k40 : (40 : Int32) = nI 40 := rfl
theorem k41 : (41 : Int32) = nI 41 := rfl
theorem k42 : (42 : Int32) = nI 42 := rfl
theorem k43 : (43 : Int32) = nI 43 := rfl
theorem k44 : (44 : Int32) = nI 44 := rfl
theorem k45 : (45 : Int32) = nI 45 := rfl
theorem k47 : (47 : Int32) = nI 47 := rfl
theorem k48 : (48 : Int32) = nI 48 := rfl
theorem k49 : (49 : Int32) = nI 49 := rfl
theorem k50 : (50 : Int32) = nI 50 := rfl
theorem k51 : (51 : Int32) = nI 51 := rfl
theorem k52 : (52 : Int32) = nI 52 := rfl
theorem k53 : (53 : Int32) = nI 53 := rfl
theorem k54 : (54 : Int32) = nI 54 := rfl
theorem k55 : (55 : Int32) = nI 55 := rfl
theorem k57 : (57 : Int32) = nI 57 := rfl
theorem k58 : (58 : Int32) = nI 58 := rfl
theorem k59 : (59 : Int32) = nI 59 := rfl
theorem k61 : (61 : Int32) = nI 61 := rfl
theorem k62 : (62 : Int32) = nI 62 := rfl
theorem k63 : (63 : Int32) = nI 63 := rfl
theorem k64 : (64 : Int32) = nI 64 := rfl
theorem k70 : (70 : Int32) = nI 70 := rfl
theorem k71 : (71 : Int32) = nI 71 := rfl
theorem k96 : (96 : Int32) = nI 96 := rfl
theorem k109 : (109 : Int32) = nI 109 := rfl
theorem k114 : (114 : Int32) = nI 114 := rfl
theorem k115 : (115 : Int32) = nI 115 := rfl
theorem k119 : (119 : Int32) = nI 119 := rfl
theorem k124 : (124 : Int32) = nI 124 := rfl
theorem k128 : (128 : Int32) = nI 128 := rfl
theorem k216 : (216 : Int32) = nI 216 := rfl
theorem k256 : (256 : Int32) = nI 256 := rfl
theorem k999 : (999 : Int32) = nI 999 := rfl
theorem k1296 : (1296 : Int32) = nI 1296 := rfl
theorem k4096 : (4096 : Int32) = nI 4096 := rfl
theorem k5184 : (5184 : Int32) = nI 5184 := rfl
theorem k9999 : (9999 : Int32) = nI 9999 := rfl
theorem k12345 : (12345 : Int32) = nI 12345 := rfl
theorem k99999 : (99999 : Int32) = nI 99999 := rfl
theorem k100000 : (100000 : Int32) = nI 100000 := rfl
theorem k999999999 : (999999999 : Int32) = nI 999999999 := rfl
theorem m_2 : (-2 : Int32) = mI 2 := rfl
theorem m_10 : (-10 : Int32) = mI 10 := rfl
theorem m_999 : (-999 : Int32) = mI 999 := rfl
theorem m_9999 : (-9999 : Int32) = mI 9999 := rfl
theorem m_999999999 : (-999999999 : Int32) = mI 999999999 := rfl
theorem q_subm {a b : Nat} (h : a < b) (hb : b < 2 ^ 31) : nI a - nI b = mI (b - a) := by
  apply Int32.toInt_inj.mp
  rw [Int32.toInt_sub, nI_i (by omega), nI_i hb, mI_i (by omega), Int.bmod_eq_of_le (by omega) (by omega)]
  omega
theorem dv1 {x : Int32} {j : Nat} (h : j = 1) : x / mI j = -x := by
  subst h
  apply Int32.toInt_inj.mp
  rw [Int32.toInt_div, Int32.toInt_neg, mI_i (by omega), show -((1 : Nat) : Int) = -1 from rfl, Int.tdiv_neg, Int.tdiv_one]
theorem rm1 {x : Int32} : x - x / mI 1 * mI 1 = nI 0 := by
  rw [dv1 rfl, show mI 1 = -1 from rfl, Int32.mul_neg, Int32.neg_mul, Int32.neg_neg, Int32.mul_one, Int32.sub_self]
  rfl
theorem rm1' {x : Int32} : x - -x * mI 1 = nI 0 := by
  rw [show mI 1 = -1 from rfl, Int32.mul_neg, Int32.neg_mul, Int32.neg_neg, Int32.mul_one, Int32.sub_self]
  rfl
theorem q_addm {a b : Nat} (h : b ≤ a) (ha : a < 2 ^ 31) : nI a + mI b = nI (a - b) := by
  apply Int32.toInt_inj.mp
  rw [Int32.toInt_add, nI_i (by omega), mI_i (by omega), nI_i (by omega), Int.bmod_eq_of_le (by omega) (by omega)]
  omega
theorem q_addn {a b : Nat} (h : a < b) (hb : b ≤ 2 ^ 31) : nI a + mI b = mI (b - a) := by
  apply Int32.toInt_inj.mp
  rw [Int32.toInt_add, nI_i (by omega), mI_i (by omega), mI_i (by omega), Int.bmod_eq_of_le (by omega) (by omega)]
  omega
theorem q_0m {a : Nat} (h : a < 2 ^ 31) : nI 0 - mI a = nI a := by
  apply Int32.toInt_inj.mp
  rw [Int32.toInt_sub, nI_i (by omega), mI_i (by omega), nI_i (by omega), Int.bmod_eq_of_le (by omega) (by omega)]
  omega
theorem mI0 : mI 0 = nI 0 := rfl
/-- int to long and back -/
theorem i_lt {x y : Int32} : (x < y) = (x.toInt < y.toInt) := propext Int32.lt_iff_toInt_lt
theorem nI_tc (x : Int32) (h : ¬ x < nI 0) : nI x.toNatClampNeg = x := by
  obtain ⟨j, h1, h2⟩ := nI_of (x := x) h
  subst h2; rw [nI_clamp h1]
theorem q_ngm {a : Nat} (h : a < 2 ^ 31) : -nI a = mI a := by
  apply Int32.toInt_inj.mp
  rw [Int32.toInt_neg, nI_i (by omega), mI_i (by omega), Int.bmod_eq_of_le (by omega) (by omega)]

/-! ===== mean ===== -/
theorem sm_mul {b : Int} {x : Int32} {k : Nat} (hx : sm b x) (hk : k ≤ 1000) (h : b * (k : Int) ≤ 2000000000) (hk2 : k < 2 ^ 31) : (x * nI k).toInt = x.toInt * (k : Int) ∧ sm (b * (k : Int)) (x * nI k) := by
  unfold sm at *
  have h1 : x.toInt * (k : Int) ≤ b * (k : Int) := Int.mul_le_mul_of_nonneg_right hx.2 (by omega)
  have h2 : -b * (k : Int) ≤ x.toInt * (k : Int) := Int.mul_le_mul_of_nonneg_right hx.1 (by omega)
  rw [Int.neg_mul] at h2
  have e : (x * nI k).toInt = x.toInt * (k : Int) := by
    rw [Int32.toInt_mul, nI_i hk2, Int.bmod_eq_of_le (by omega) (by omega)]
  rw [e]
  exact ⟨rfl, by omega, h1⟩
theorem sm_wk {b c : Int} {x : Int32} (h : sm b x) (hbc : b ≤ c) : sm c x := by
  unfold sm at *; omega
theorem sm_sO {F : Nat → Int32} {n : Nat} (hF : ∀ i, i < n → sm 1100 (F i)) (n8 : n ≤ 8) : ∀ k, k ≤ n → sm (1100 * (k : Int)) (sO F k)
  | 0, _ => by unfold sO; exact sm_n (by omega) (by omega)
  | k + 1, hk => by
    have h1 := sm_sO hF n8 k (by omega)
    have h2 := (sm_ad h1 (hF k (by omega)) (by omega)).2
    exact sm_wk h2 (by omega)
theorem sm_py {F : Nat → Int32} {n i : Nat} (hF : ∀ i, i < n → sm 1100 (F i)) (n8 : n ≤ 8) (hi : i < n) : sm 17600 (PY F n i) := by
  have h1 := (sm_mul (k := n) (hF i hi) (by omega) (by omega) (by omega)).2
  have h2 := sm_sO hF n8 n (by omega)
  exact sm_wk (sm_to h1 h2 (by omega)).2 (by omega)
def mb (C : Nat → Nat) (P : Nat → Nat → Int32) : Nat → Nat → Int32
  | 0, _ => nI 0
  | w + 1, i => mb C P w i + nI (C w) * P w i
def sC (C : Nat → Nat) : Nat → Nat
  | 0 => 0
  | w + 1 => sC C w + C w
theorem sm_mb {C : Nat → Nat} {P : Nat → Nat → Int32} {i : Nat} (hP : ∀ w, w < 4 → sm 17600 (P w i)) (h16 : sC C 4 ≤ 16) : ∀ w, w ≤ 4 → sm (17600 * (sC C w : Int)) (mb C P w i)
  | 0, _ => sm_n (by show (0 : Int) ≤ 17600 * ((0 : Nat) : Int); omega) (by omega)
  | w + 1, hw => by
    have h1 := sm_mb hP h16 w (by omega)
    have hle : ∀ a, a + w + 1 ≤ 4 → sC C (w + 1) ≤ sC C (w + 1 + a) := by
      intro a ha
      induction a with
      | zero => exact Nat.le_refl _
      | succ a ih => have := ih (by omega); show sC C (w + 1) ≤ sC C (w + 1 + a) + C (w + 1 + a); omega
    have h3 := hle (3 - w) (by omega)
    rw [show w + 1 + (3 - w) = 4 by omega] at h3
    have hs : sC C (w + 1) = sC C w + C w := rfl
    have h2 := (sm_mul (k := C w) (hP w (by omega)) (by omega) (by omega) (by omega)).2
    have h4 := (sm_ad h1 h2 (by omega)).2
    show sm _ (mb C P w i + nI (C w) * P w i)
    rw [hs, Int32.mul_comm]
    exact sm_wk h4 (by omega)
section MN
variable {sz us : Nat} {kq fq : Option Nat} {L : Nat} {xs : Nat → Int32} {A B A' B' A0 B0 : rrA} {J : Nat → Nat → Int64} {n nl z : Nat} {W D M K V S : Nat → Nat} {law law' : Option Nat} {x : DY}
def MP (n z : Nat) (D M K V W S : Nat → Nat) (law' : Option Nat) (SK : Nat → Nat → Nat) (w i : Nat) : Int32 := PY (OF z D M K V W (SK w) S law') n i
set_option maxRecDepth 20000 in
theorem lp82a (hz : 71 ≤ sz) (d : Nat) (n8 : n ≤ 8) (e5 : B 1 5 = nI n) : ∀ (m k : Nat) (A : rrA), m + k = n → (∀ i, i < k → A 41 i = nI 0) → ∃ A', rx d 82 2 [some (.ref 1), some (.int (lI law')), some (.ref 41), some (.int (nI k)), none] [] sz us (hp kq fq L xs A B J) = rx d 82 20 [some (.ref 1), some (.int (lI law')), some (.ref 41), some (.int (nI n)), none] [] sz us (hp kq fq L xs A' B J) ∧ (∀ i, i ≠ 41 → A' i = A i) ∧ ∀ i, i < n → A' 41 i = nI 0 := by
  intro m
  induction m with
  | zero =>
    intro k A hk hA
    have : k = n := by omega
    subst this
    refine ⟨A, ?_, fun _ _ => rfl, hA⟩
    rw [x_82_2]
    simp (disch := omega) only [x_82_0, x_82_1, x_82_3, x_82_4, x_82_7, x_82_10, x_82_11, x_82_12, x_82_13, x_82_14, x_82_17, x_82_21, x_82_22, x_82_23, x_82_24, x_82_27, x_82_28, x_82_31, x_82_32, x_82_33, x_82_36, x_82_37, x_82_38, x_82_39, x_82_42, x_82_43, x_82_44, x_82_45, x_82_48, x_82_49, x_82_52, x_82_55, x_82_56, x_82_58, x_82_60, x_82_61, x_82_64, x_82_67, x_82_68, x_82_70, x_82_71, x_82_72, x_82_73, x_82_76, x_82_77, x_82_78, x_82_79, x_82_82, x_82_84, x_82_85, x_82_86, x_82_87, x_82_88, x_82_91, x_82_94, x_82_97, x_82_100, Hc0, Hc1, Hc2, Hc3, Hc4, hz, e5, k0, k1, k2, k3, k4, k5, k6, k7, k8, k9, k10, k11, k12, k13, k14, k15, k16, k20, k24, k30, k32, k46, k56, k60, k69, k88, k99, k100, k125, k255, k338, k398, k422, k17, k18, k19, k21, k22, k23, k25, k26, k27, k28, k29, k31, k33, k34, k35, k36, k37, k38, k39, k40, k41, k42, k43, k44, k45, k47, k48, k49, k50, k51, k52, k53, k54, k55, k57, k58, k59, k61, k62, k63, k64, k70, k71, k96, k109, k114, k115, k119, k124, k128, k216, k256, k999, k1296, k4096, k5184, k9999, k12345, k99999, k100000, k999999999, m_2, m_10, m_999, m_9999, m_999999999, q_in, q_cl, q_mul, q_add, q_sub, q_lt, q_le, q_eq, Nat.reduceAdd, Nat.reduceMul, Nat.reduceSub, Nat.reduceLT, Nat.reduceLeDiff, Nat.reduceEqDiff, Nat.add_zero, Nat.zero_add, Nat.mul_zero, q_addm, q_addn, q_subm, q_0m, q_ngm, sky_0, she_0, sky_1, she_1, sky_2, she_2, sky_3, she_3, m_lt, m_gt, m_eq, m_eq', m_one, m_ng, m_mlt, m_meq, q_sub1, q_sub1m, ↓q_irem, mx0, q_div, lt_T, lt_F, le_T, le_F, eq_T, eq_F, not_true_eq_false, not_false_eq_true, true_and, and_true, false_and, and_false, ↓reduceIte, ↓bz_i, ↓bz_l, ↓bz_v, ↓bz_h, ↓bz_c, zs_i, zs_l, zs_v, zs_h, zs_c, zs_n, zn_i, zn_l, zn_v, zn_h, zn_c, zi_i, zi_l, zi_v, zi_h, zi_c, List.append_nil, rr_nk, if_true, if_false, ite_true, ite_false, i01, i10, i00, ite_self, true_or, or_true, or_false, false_or]
  | succ m ih =>
    intro k A hk hA
    obtain ⟨A', e, h1, h2⟩ := ih (k + 1) (u1 A 41 (upd (A 41) k (nI 0))) (by omega) (fun i hi => by
      rw [u1_eq]
      by_cases q : i = k
      · subst q; rw [upd_eq']
      · rw [upd_ne' q]; exact hA i (by omega))
    refine ⟨A', Eq.trans ?_ e, fun i hi => by rw [h1 i hi, u1_ne hi], h2⟩
    rw [x_82_2]
    simp (disch := omega) only [x_82_0, x_82_1, x_82_3, x_82_4, x_82_7, x_82_10, x_82_11, x_82_12, x_82_13, x_82_14, x_82_17, x_82_21, x_82_22, x_82_23, x_82_24, x_82_27, x_82_28, x_82_31, x_82_32, x_82_33, x_82_36, x_82_37, x_82_38, x_82_39, x_82_42, x_82_43, x_82_44, x_82_45, x_82_48, x_82_49, x_82_52, x_82_55, x_82_56, x_82_58, x_82_60, x_82_61, x_82_64, x_82_67, x_82_68, x_82_70, x_82_71, x_82_72, x_82_73, x_82_76, x_82_77, x_82_78, x_82_79, x_82_82, x_82_84, x_82_85, x_82_86, x_82_87, x_82_88, x_82_91, x_82_94, x_82_97, x_82_100, Hc0, Hc1, Hc2, Hc3, Hc4, hz, e5, k0, k1, k2, k3, k4, k5, k6, k7, k8, k9, k10, k11, k12, k13, k14, k15, k16, k20, k24, k30, k32, k46, k56, k60, k69, k88, k99, k100, k125, k255, k338, k398, k422, k17, k18, k19, k21, k22, k23, k25, k26, k27, k28, k29, k31, k33, k34, k35, k36, k37, k38, k39, k40, k41, k42, k43, k44, k45, k47, k48, k49, k50, k51, k52, k53, k54, k55, k57, k58, k59, k61, k62, k63, k64, k70, k71, k96, k109, k114, k115, k119, k124, k128, k216, k256, k999, k1296, k4096, k5184, k9999, k12345, k99999, k100000, k999999999, m_2, m_10, m_999, m_9999, m_999999999, q_in, q_cl, q_mul, q_add, q_sub, q_lt, q_le, q_eq, Nat.reduceAdd, Nat.reduceMul, Nat.reduceSub, Nat.reduceLT, Nat.reduceLeDiff, Nat.reduceEqDiff, Nat.add_zero, Nat.zero_add, Nat.mul_zero, q_addm, q_addn, q_subm, q_0m, q_ngm, sky_0, she_0, sky_1, she_1, sky_2, she_2, sky_3, she_3, m_lt, m_gt, m_eq, m_eq', m_one, m_ng, m_mlt, m_meq, q_sub1, q_sub1m, ↓q_irem, mx0, q_div, lt_T, lt_F, le_T, le_F, eq_T, eq_F, not_true_eq_false, not_false_eq_true, true_and, and_true, false_and, and_false, ↓reduceIte, ↓bz_i, ↓bz_l, ↓bz_v, ↓bz_h, ↓bz_c, zs_i, zs_l, zs_v, zs_h, zs_c, zs_n, zn_i, zn_l, zn_v, zn_h, zn_c, zi_i, zi_l, zi_v, zi_h, zi_c, List.append_nil, rr_nk, if_true, if_false, ite_true, ite_false, i01, i10, i00, ite_self, true_or, or_true, or_false, false_or]
set_option maxRecDepth 20000 in
theorem lp82i (hz : 71 ≤ sz) (d : Nat) (n8 : n ≤ 8) (e5 : B 1 5 = nI n) {w cw : Nat} (hw : w < 4) : ∀ (m k : Nat) (A : rrA), m + k = n → A 9 w = nI cw → ∃ A', rx d 82 58 [some (.ref 1), some (.int (lI law')), some (.ref 41), some (.int (nI w)), some (.int (nI k))] [] sz us (hp kq fq L xs A B J) = rx d 82 94 [some (.ref 1), some (.int (lI law')), some (.ref 41), some (.int (nI w)), some (.int (nI n))] [] sz us (hp kq fq L xs A' B J) ∧ (∀ i, i ≠ 41 → A' i = A i) ∧ ∀ i, A' 41 i = if k ≤ i ∧ i < n then A 41 i + nI cw * A 6 i else A 41 i := by
  intro m
  induction m with
  | zero =>
    intro k A hk hc
    have : k = n := by omega
    subst this
    refine ⟨A, ?_, fun _ _ => rfl, fun i => by rw [if_neg (by omega)]⟩
    rw [x_82_58]
    simp (disch := omega) only [x_82_0, x_82_1, x_82_2, x_82_3, x_82_4, x_82_7, x_82_10, x_82_11, x_82_12, x_82_13, x_82_14, x_82_17, x_82_20, x_82_21, x_82_22, x_82_23, x_82_24, x_82_27, x_82_28, x_82_31, x_82_32, x_82_33, x_82_36, x_82_37, x_82_38, x_82_39, x_82_42, x_82_43, x_82_44, x_82_45, x_82_48, x_82_49, x_82_52, x_82_55, x_82_56, x_82_60, x_82_61, x_82_64, x_82_67, x_82_68, x_82_70, x_82_71, x_82_72, x_82_73, x_82_76, x_82_77, x_82_78, x_82_79, x_82_82, x_82_84, x_82_85, x_82_86, x_82_87, x_82_88, x_82_91, x_82_97, x_82_100, Hc0, Hc1, Hc2, Hc3, Hc4, hz, e5, k0, k1, k2, k3, k4, k5, k6, k7, k8, k9, k10, k11, k12, k13, k14, k15, k16, k20, k24, k30, k32, k46, k56, k60, k69, k88, k99, k100, k125, k255, k338, k398, k422, k17, k18, k19, k21, k22, k23, k25, k26, k27, k28, k29, k31, k33, k34, k35, k36, k37, k38, k39, k40, k41, k42, k43, k44, k45, k47, k48, k49, k50, k51, k52, k53, k54, k55, k57, k58, k59, k61, k62, k63, k64, k70, k71, k96, k109, k114, k115, k119, k124, k128, k216, k256, k999, k1296, k4096, k5184, k9999, k12345, k99999, k100000, k999999999, m_2, m_10, m_999, m_9999, m_999999999, q_in, q_cl, q_mul, q_add, q_sub, q_lt, q_le, q_eq, Nat.reduceAdd, Nat.reduceMul, Nat.reduceSub, Nat.reduceLT, Nat.reduceLeDiff, Nat.reduceEqDiff, Nat.add_zero, Nat.zero_add, Nat.mul_zero, q_addm, q_addn, q_subm, q_0m, q_ngm, sky_0, she_0, sky_1, she_1, sky_2, she_2, sky_3, she_3, m_lt, m_gt, m_eq, m_eq', m_one, m_ng, m_mlt, m_meq, q_sub1, q_sub1m, ↓q_irem, mx0, q_div, lt_T, lt_F, le_T, le_F, eq_T, eq_F, not_true_eq_false, not_false_eq_true, true_and, and_true, false_and, and_false, ↓reduceIte, ↓bz_i, ↓bz_l, ↓bz_v, ↓bz_h, ↓bz_c, zs_i, zs_l, zs_v, zs_h, zs_c, zs_n, zn_i, zn_l, zn_v, zn_h, zn_c, zi_i, zi_l, zi_v, zi_h, zi_c, List.append_nil, rr_nk, if_true, if_false, ite_true, ite_false, i01, i10, i00, ite_self, true_or, or_true, or_false, false_or]
  | succ m ih =>
    intro k A hk hc
    obtain ⟨A', e, h1, h2⟩ := ih (k + 1) (u1 A 41 (upd (A 41) k (A 41 k + nI cw * A 6 k))) (by omega) (by rw [u1_ne (by omega)]; exact hc)
    refine ⟨A', Eq.trans ?_ e, fun i hi => by rw [h1 i hi, u1_ne hi], fun i => ?_⟩
    · rw [x_82_58]
      simp (disch := omega) only [x_82_0, x_82_1, x_82_2, x_82_3, x_82_4, x_82_7, x_82_10, x_82_11, x_82_12, x_82_13, x_82_14, x_82_17, x_82_20, x_82_21, x_82_22, x_82_23, x_82_24, x_82_27, x_82_28, x_82_31, x_82_32, x_82_33, x_82_36, x_82_37, x_82_38, x_82_39, x_82_42, x_82_43, x_82_44, x_82_45, x_82_48, x_82_49, x_82_52, x_82_55, x_82_56, x_82_60, x_82_61, x_82_64, x_82_67, x_82_68, x_82_70, x_82_71, x_82_72, x_82_73, x_82_76, x_82_77, x_82_78, x_82_79, x_82_82, x_82_84, x_82_85, x_82_86, x_82_87, x_82_88, x_82_91, x_82_97, x_82_100, Hc0, Hc1, Hc2, Hc3, Hc4, hz, e5, hc, k0, k1, k2, k3, k4, k5, k6, k7, k8, k9, k10, k11, k12, k13, k14, k15, k16, k20, k24, k30, k32, k46, k56, k60, k69, k88, k99, k100, k125, k255, k338, k398, k422, k17, k18, k19, k21, k22, k23, k25, k26, k27, k28, k29, k31, k33, k34, k35, k36, k37, k38, k39, k40, k41, k42, k43, k44, k45, k47, k48, k49, k50, k51, k52, k53, k54, k55, k57, k58, k59, k61, k62, k63, k64, k70, k71, k96, k109, k114, k115, k119, k124, k128, k216, k256, k999, k1296, k4096, k5184, k9999, k12345, k99999, k100000, k999999999, m_2, m_10, m_999, m_9999, m_999999999, q_in, q_cl, q_mul, q_add, q_sub, q_lt, q_le, q_eq, Nat.reduceAdd, Nat.reduceMul, Nat.reduceSub, Nat.reduceLT, Nat.reduceLeDiff, Nat.reduceEqDiff, Nat.add_zero, Nat.zero_add, Nat.mul_zero, q_addm, q_addn, q_subm, q_0m, q_ngm, sky_0, she_0, sky_1, she_1, sky_2, she_2, sky_3, she_3, m_lt, m_gt, m_eq, m_eq', m_one, m_ng, m_mlt, m_meq, q_sub1, q_sub1m, ↓q_irem, mx0, q_div, lt_T, lt_F, le_T, le_F, eq_T, eq_F, not_true_eq_false, not_false_eq_true, true_and, and_true, false_and, and_false, ↓reduceIte, ↓bz_i, ↓bz_l, ↓bz_v, ↓bz_h, ↓bz_c, zs_i, zs_l, zs_v, zs_h, zs_c, zs_n, zn_i, zn_l, zn_v, zn_h, zn_c, zi_i, zi_l, zi_v, zi_h, zi_c, List.append_nil, rr_nk, if_true, if_false, ite_true, ite_false, i01, i10, i00, ite_self, true_or, or_true, or_false, false_or]
    · rw [h2 i, u1_eq, u1_ne (by omega)]
      by_cases q : i = k
      · subst q; rw [if_neg (by omega), if_pos (by omega), upd_eq']
      · rw [upd_ne' q]
        by_cases q2 : k + 1 ≤ i ∧ i < n
        · rw [if_pos q2, if_pos (by omega)]
        · rw [if_neg q2, if_neg (by omega)]
set_option maxRecDepth 20000 in
set_option maxHeartbeats 2000000 in
theorem lp82o (hz : 71 ≤ sz) (d : Nat) (hl : ∀ l, law' = some l → l < nl) {C : Nat → Nat} {SK : Nat → Nat → Nat} (hSK : ∀ w f, w < 4 → f < 8 → SK w f ≤ 99) (hS9 : ∀ f, f < 8 → S f ≤ 9999) (n8 : n ≤ 8) (e5 : B 1 5 = nI n) (hc16 : ∀ w, w < 4 → C w ≤ 16) : ∀ (m w : Nat) (A : rrA) (l4 : Option Value), m + w = 4 → CX n nl z W D M K V A B → (∀ w f, w < 4 → f < 8 → A (11 + w) f = nI (SK w f)) → (∀ f, f < 8 → A 4 f = nI (S f)) → (∀ w, w < 4 → A 9 w = nI (C w)) → (∀ i, i < n → A 41 i = mb C (MP n z D M K V W S law' SK) w i) → ∃ A', rx (d + 4) 82 22 [some (.ref 1), some (.int (lI law')), some (.ref 41), some (.int (nI w)), l4] [] sz us (hp kq fq L xs A B J) = some (none, sz, us, hp kq fq L xs A' B J) ∧ (∀ i, i ≠ 6 → i ≠ 21 → i ≠ 41 → A' i = A i) ∧ ∀ i, i < n → A' 41 i = mb C (MP n z D M K V W S law' SK) 4 i := by
  intro m
  induction m with
  | zero =>
    intro w A l4 hw hC hS1 hS2 hc hA
    have : w = 4 := by omega
    subst this
    refine ⟨A, ?_, fun _ _ _ _ => rfl, hA⟩
    rw [x_82_22]
    simp (disch := omega) only [x_82_0, x_82_1, x_82_2, x_82_3, x_82_4, x_82_7, x_82_10, x_82_11, x_82_12, x_82_13, x_82_14, x_82_17, x_82_20, x_82_21, x_82_23, x_82_24, x_82_27, x_82_28, x_82_31, x_82_32, x_82_33, x_82_36, x_82_37, x_82_38, x_82_39, x_82_42, x_82_43, x_82_44, x_82_45, x_82_48, x_82_49, x_82_52, x_82_55, x_82_56, x_82_58, x_82_60, x_82_61, x_82_64, x_82_67, x_82_68, x_82_70, x_82_71, x_82_72, x_82_73, x_82_76, x_82_77, x_82_78, x_82_79, x_82_82, x_82_84, x_82_85, x_82_86, x_82_87, x_82_88, x_82_91, x_82_94, x_82_97, x_82_100, Hc0, Hc1, Hc2, Hc3, Hc4, hz, e5, k0, k1, k2, k3, k4, k5, k6, k7, k8, k9, k10, k11, k12, k13, k14, k15, k16, k20, k24, k30, k32, k46, k56, k60, k69, k88, k99, k100, k125, k255, k338, k398, k422, k17, k18, k19, k21, k22, k23, k25, k26, k27, k28, k29, k31, k33, k34, k35, k36, k37, k38, k39, k40, k41, k42, k43, k44, k45, k47, k48, k49, k50, k51, k52, k53, k54, k55, k57, k58, k59, k61, k62, k63, k64, k70, k71, k96, k109, k114, k115, k119, k124, k128, k216, k256, k999, k1296, k4096, k5184, k9999, k12345, k99999, k100000, k999999999, m_2, m_10, m_999, m_9999, m_999999999, q_in, q_cl, q_mul, q_add, q_sub, q_lt, q_le, q_eq, Nat.reduceAdd, Nat.reduceMul, Nat.reduceSub, Nat.reduceLT, Nat.reduceLeDiff, Nat.reduceEqDiff, Nat.add_zero, Nat.zero_add, Nat.mul_zero, q_addm, q_addn, q_subm, q_0m, q_ngm, sky_0, she_0, sky_1, she_1, sky_2, she_2, sky_3, she_3, m_lt, m_gt, m_eq, m_eq', m_one, m_ng, m_mlt, m_meq, q_sub1, q_sub1m, ↓q_irem, mx0, q_div, lt_T, lt_F, le_T, le_F, eq_T, eq_F, not_true_eq_false, not_false_eq_true, true_and, and_true, false_and, and_false, ↓reduceIte, ↓bz_i, ↓bz_l, ↓bz_v, ↓bz_h, ↓bz_c, zs_i, zs_l, zs_v, zs_h, zs_c, zs_n, zn_i, zn_l, zn_v, zn_h, zn_c, zi_i, zi_l, zi_v, zi_h, zi_c, List.append_nil, rr_nk, if_true, if_false, ite_true, ite_false, i01, i10, i00, ite_self, true_or, or_true, or_false, false_or]
  | succ m ih =>
    intro w A l4 hw hC hS1 hS2 hc hA
    have w4 : w < 4 := by omega
    have hcw := hc w w4
    have hc1 := hc16 w w4
    by_cases c0 : C w = 0
    · obtain ⟨A', e, h1, h2⟩ := ih (w + 1) A l4 (by omega) hC hS1 hS2 hc (fun i hi => by
        rw [hA i hi]
        show _ = mb C _ w i + nI (C w) * _
        rw [c0, show nI 0 = (0 : Int32) from rfl, Int32.zero_mul, Int32.add_zero])
      refine ⟨A', Eq.trans ?_ e, h1, h2⟩
      rw [c0] at hcw
      rw [x_82_22]
      simp (disch := omega) only [x_82_0, x_82_1, x_82_2, x_82_3, x_82_4, x_82_7, x_82_10, x_82_11, x_82_12, x_82_13, x_82_14, x_82_17, x_82_20, x_82_21, x_82_23, x_82_24, x_82_27, x_82_28, x_82_31, x_82_32, x_82_33, x_82_36, x_82_37, x_82_38, x_82_39, x_82_42, x_82_43, x_82_44, x_82_45, x_82_48, x_82_49, x_82_52, x_82_55, x_82_56, x_82_58, x_82_60, x_82_61, x_82_64, x_82_67, x_82_68, x_82_70, x_82_71, x_82_72, x_82_73, x_82_76, x_82_77, x_82_78, x_82_79, x_82_82, x_82_84, x_82_85, x_82_86, x_82_87, x_82_88, x_82_91, x_82_94, x_82_97, x_82_100, Hc0, Hc1, Hc2, Hc3, Hc4, hz, e5, hcw, k0, k1, k2, k3, k4, k5, k6, k7, k8, k9, k10, k11, k12, k13, k14, k15, k16, k20, k24, k30, k32, k46, k56, k60, k69, k88, k99, k100, k125, k255, k338, k398, k422, k17, k18, k19, k21, k22, k23, k25, k26, k27, k28, k29, k31, k33, k34, k35, k36, k37, k38, k39, k40, k41, k42, k43, k44, k45, k47, k48, k49, k50, k51, k52, k53, k54, k55, k57, k58, k59, k61, k62, k63, k64, k70, k71, k96, k109, k114, k115, k119, k124, k128, k216, k256, k999, k1296, k4096, k5184, k9999, k12345, k99999, k100000, k999999999, m_2, m_10, m_999, m_9999, m_999999999, q_in, q_cl, q_mul, q_add, q_sub, q_lt, q_le, q_eq, Nat.reduceAdd, Nat.reduceMul, Nat.reduceSub, Nat.reduceLT, Nat.reduceLeDiff, Nat.reduceEqDiff, Nat.add_zero, Nat.zero_add, Nat.mul_zero, q_addm, q_addn, q_subm, q_0m, q_ngm, sky_0, she_0, sky_1, she_1, sky_2, she_2, sky_3, she_3, m_lt, m_gt, m_eq, m_eq', m_one, m_ng, m_mlt, m_meq, q_sub1, q_sub1m, ↓q_irem, mx0, q_div, lt_T, lt_F, le_T, le_F, eq_T, eq_F, not_true_eq_false, not_false_eq_true, true_and, and_true, false_and, and_false, ↓reduceIte, ↓bz_i, ↓bz_l, ↓bz_v, ↓bz_h, ↓bz_c, zs_i, zs_l, zs_v, zs_h, zs_c, zs_n, zn_i, zn_l, zn_v, zn_h, zn_c, zi_i, zi_l, zi_v, zi_h, zi_c, List.append_nil, rr_nk, if_true, if_false, ite_true, ite_false, i01, i10, i00, ite_self, true_or, or_true, or_false, false_or]
    · obtain ⟨A1, a1, g1, g2⟩ := s25 (kq := kq) (fq := fq) (L := L) (xs := xs) (J := J) (us := us) hz d (a := 11 + w) (b := 4) (t := 6) (r8_of (SKs w4) (by omega)) (r8_of (fun _ _ _ => rfl) (by omega)) (r8_of (fun _ _ _ => rfl) (by omega)) (w8_of (fun _ _ _ => rfl) (by omega)) (by omega) (by omega) (by omega) law' hl (SK w) S (fun i hi => ⟨hSK w i w4 (by omega), hS9 i (by omega)⟩) (OF z D M K V W (SK w) S law') (fun _ _ => rfl) hC (fun i hi => hS1 w i w4 (by omega)) (fun i hi => hS2 i (by omega))
      obtain ⟨A2, a2, f1, f2⟩ := lp82i (kq := kq) (fq := fq) (L := L) (xs := xs) (J := J) (us := us) (law' := law') hz (d + 4) n8 e5 (cw := C w) w4 n 0 A1 (by omega) (by rw [g1 9 (by omega) (by omega)]; exact hcw)
      have gf : ∀ i, i ≠ 6 → i ≠ 21 → i ≠ 41 → A2 i = A i := fun i i1 i2 i3 => by rw [f1 i i3, g1 i i2 i1]
      obtain ⟨A', e, h1, h2⟩ := ih (w + 1) A2 (some (.int (nI n))) (by omega) (hC.cg (gf 2 (by omega) (by omega) (by omega)) (gf 8 (by omega) (by omega) (by omega)) (gf 20 (by omega) (by omega) (by omega)) rfl rfl rfl) (fun w f hw hf => by rw [gf _ (by omega) (by omega) (by omega)]; exact hS1 w f hw hf) (fun f hf => by rw [gf _ (by omega) (by omega) (by omega)]; exact hS2 f hf) (fun w hw => by rw [gf _ (by omega) (by omega) (by omega)]; exact hc w hw) (fun i hi => by
        rw [f2 i, if_pos (by omega), g1 41 (by omega) (by omega), hA i hi, g2 i hi]
        rfl)
      refine ⟨A', Eq.trans ?_ e, fun i i1 i2 i3 => by rw [h1 i i1 i2 i3, gf i i1 i2 i3], h2⟩
      rw [x_82_22]
      simp (disch := omega) only [x_82_0, x_82_1, x_82_2, x_82_3, x_82_4, x_82_7, x_82_10, x_82_11, x_82_12, x_82_13, x_82_14, x_82_17, x_82_20, x_82_21, x_82_23, x_82_24, x_82_27, x_82_28, x_82_31, x_82_32, x_82_33, x_82_36, x_82_37, x_82_38, x_82_39, x_82_42, x_82_43, x_82_44, x_82_45, x_82_48, x_82_49, x_82_52, x_82_55, x_82_56, x_82_60, x_82_61, x_82_64, x_82_67, x_82_68, x_82_70, x_82_71, x_82_72, x_82_73, x_82_76, x_82_77, x_82_78, x_82_79, x_82_82, x_82_84, x_82_85, x_82_86, x_82_87, x_82_88, x_82_91, x_82_94, x_82_97, x_82_100, Hc0, Hc1, Hc2, Hc3, Hc4, hz, e5, hcw, SKq, a1, a2, k0, k1, k2, k3, k4, k5, k6, k7, k8, k9, k10, k11, k12, k13, k14, k15, k16, k20, k24, k30, k32, k46, k56, k60, k69, k88, k99, k100, k125, k255, k338, k398, k422, k17, k18, k19, k21, k22, k23, k25, k26, k27, k28, k29, k31, k33, k34, k35, k36, k37, k38, k39, k40, k41, k42, k43, k44, k45, k47, k48, k49, k50, k51, k52, k53, k54, k55, k57, k58, k59, k61, k62, k63, k64, k70, k71, k96, k109, k114, k115, k119, k124, k128, k216, k256, k999, k1296, k4096, k5184, k9999, k12345, k99999, k100000, k999999999, m_2, m_10, m_999, m_9999, m_999999999, q_in, q_cl, q_mul, q_add, q_sub, q_lt, q_le, q_eq, Nat.reduceAdd, Nat.reduceMul, Nat.reduceSub, Nat.reduceLT, Nat.reduceLeDiff, Nat.reduceEqDiff, Nat.add_zero, Nat.zero_add, Nat.mul_zero, q_addm, q_addn, q_subm, q_0m, q_ngm, sky_0, she_0, sky_1, she_1, sky_2, she_2, sky_3, she_3, m_lt, m_gt, m_eq, m_eq', m_one, m_ng, m_mlt, m_meq, q_sub1, q_sub1m, ↓q_irem, mx0, q_div, lt_T, lt_F, le_T, le_F, eq_T, eq_F, not_true_eq_false, not_false_eq_true, true_and, and_true, false_and, and_false, ↓reduceIte, ↓bz_i, ↓bz_l, ↓bz_v, ↓bz_h, ↓bz_c, zs_i, zs_l, zs_v, zs_h, zs_c, zs_n, zn_i, zn_l, zn_v, zn_h, zn_c, zi_i, zi_l, zi_v, zi_h, zi_c, List.append_nil, rr_nk, if_true, if_false, ite_true, ite_false, i01, i10, i00, ite_self, true_or, or_true, or_false, false_or]
set_option maxRecDepth 20000 in
theorem s82 (hz : 71 ≤ sz) (d : Nat) (hl : ∀ l, law' = some l → l < nl) {C : Nat → Nat} {SK : Nat → Nat → Nat} (hSK : ∀ w f, w < 4 → f < 8 → SK w f ≤ 99) (hS9 : ∀ f, f < 8 → S f ≤ 9999) (hc16 : ∀ w, w < 4 → C w ≤ 16) (hC : CX n nl z W D M K V A B) (hS1 : ∀ w f, w < 4 → f < 8 → A (11 + w) f = nI (SK w f)) (hS2 : ∀ f, f < 8 → A 4 f = nI (S f)) (hc : ∀ w, w < 4 → A 9 w = nI (C w)) : ∃ A', rx (d + 4) 82 0 [some (.ref 1), some (.int (lI law')), some (.ref 41), none, none] [] sz us (hp kq fq L xs A B J) = some (none, sz, us, hp kq fq L xs A' B J) ∧ (∀ i, i ≠ 6 → i ≠ 21 → i ≠ 41 → A' i = A i) ∧ ∀ i, i < n → A' 41 i = mb C (MP n z D M K V W S law' SK) 4 i := by
  have n8 := hC.1
  have e5 := hC.2.1
  obtain ⟨A1, a1, h1, h2⟩ := lp82a (kq := kq) (fq := fq) (L := L) (xs := xs) (J := J) (us := us) (law' := law') hz (d + 4) n8 e5 n 0 A (by omega) (fun i hi => absurd hi (by omega))
  obtain ⟨A2, a2, h3, h4⟩ := lp82o (kq := kq) (fq := fq) (L := L) (xs := xs) (J := J) (us := us) hz d hl hSK hS9 n8 e5 hc16 4 0 A1 none (by omega) (hC.cg (h1 2 (by omega)) (h1 8 (by omega)) (h1 20 (by omega)) rfl rfl rfl) (fun w f hw hf => by rw [h1 _ (by omega)]; exact hS1 w f hw hf) (fun f hf => by rw [h1 _ (by omega)]; exact hS2 f hf) (fun w hw => by rw [h1 _ (by omega)]; exact hc w hw) (fun i hi => h2 i hi)
  refine ⟨A2, Eq.trans ?_ a2, fun i i1 i2 i3 => by rw [h3 i i1 i2 i3, h1 i i3], h4⟩
  simp (disch := omega) only [x_82_0, x_82_1, x_82_3, x_82_4, x_82_7, x_82_10, x_82_11, x_82_12, x_82_13, x_82_14, x_82_17, x_82_20, x_82_21, x_82_23, x_82_24, x_82_27, x_82_28, x_82_31, x_82_32, x_82_33, x_82_36, x_82_37, x_82_38, x_82_39, x_82_42, x_82_43, x_82_44, x_82_45, x_82_48, x_82_49, x_82_52, x_82_55, x_82_56, x_82_58, x_82_60, x_82_61, x_82_64, x_82_67, x_82_68, x_82_70, x_82_71, x_82_72, x_82_73, x_82_76, x_82_77, x_82_78, x_82_79, x_82_82, x_82_84, x_82_85, x_82_86, x_82_87, x_82_88, x_82_91, x_82_94, x_82_97, x_82_100, a1, k0, k1, k2, k3, k4, k5, k6, k7, k8, k9, k10, k11, k12, k13, k14, k15, k16, k20, k24, k30, k32, k46, k56, k60, k69, k88, k99, k100, k125, k255, k338, k398, k422, k17, k18, k19, k21, k22, k23, k25, k26, k27, k28, k29, k31, k33, k34, k35, k36, k37, k38, k39, k40, k41, k42, k43, k44, k45, k47, k48, k49, k50, k51, k52, k53, k54, k55, k57, k58, k59, k61, k62, k63, k64, k70, k71, k96, k109, k114, k115, k119, k124, k128, k216, k256, k999, k1296, k4096, k5184, k9999, k12345, k99999, k100000, k999999999, m_2, m_10, m_999, m_9999, m_999999999, q_in, q_cl, q_mul, q_add, q_sub, q_lt, q_le, q_eq, Nat.reduceAdd, Nat.reduceMul, Nat.reduceSub, Nat.reduceLT, Nat.reduceLeDiff, Nat.reduceEqDiff, Nat.add_zero, Nat.zero_add, Nat.mul_zero, q_addm, q_addn, q_subm, q_0m, q_ngm, sky_0, she_0, sky_1, she_1, sky_2, she_2, sky_3, she_3, m_lt, m_gt, m_eq, m_eq', m_one, m_ng, m_mlt, m_meq, q_sub1, q_sub1m, ↓q_irem, mx0, q_div, lt_T, lt_F, le_T, le_F, eq_T, eq_F, not_true_eq_false, not_false_eq_true, true_and, and_true, false_and, and_false, ↓reduceIte, ↓bz_i, ↓bz_l, ↓bz_v, ↓bz_h, ↓bz_c, zs_i, zs_l, zs_v, zs_h, zs_c, zs_n, zn_i, zn_l, zn_v, zn_h, zn_c, zi_i, zi_l, zi_v, zi_h, zi_c, List.append_nil, rr_nk, if_true, if_false, ite_true, ite_false, i01, i10, i00, ite_self, true_or, or_true, or_false, false_or]
/-! the reference -/
set_option maxRecDepth 20000 in
theorem lp192i (hz : 71 ≤ sz) (d : Nat) (n8 : n ≤ 8) {w cw : Nat} (hw : w < 4) : ∀ (m k : Nat) (A : rrA), m + k = n → A 52 0 = nI n → A 52 (10 + w) = nI cw → ∃ A', rx d 192 51 [some (.ref 51), some (.int (lI law')), some (.int (nI w)), some (.int (nI k))] [] sz us (hp kq fq L xs A B J) = rx d 192 92 [some (.ref 51), some (.int (lI law')), some (.int (nI w)), some (.int (nI n))] [] sz us (hp kq fq L xs A' B J) ∧ (∀ i, i ≠ 61 → A' i = A i) ∧ ∀ i, A' 61 i = if k ≤ i ∧ i < n then A 61 i + nI cw * A 59 i else A 61 i := by
  intro m
  induction m with
  | zero =>
    intro k A hk e0 hc
    have : k = n := by omega
    subst this
    refine ⟨A, ?_, fun _ _ => rfl, fun i => by rw [if_neg (by omega)]⟩
    rw [x_192_51]
    simp (disch := omega) only [x_192_0, x_192_1, x_192_2, x_192_3, x_192_5, x_192_8, x_192_9, x_192_12, x_192_13, x_192_14, x_192_15, x_192_18, x_192_21, x_192_22, x_192_25, x_192_26, x_192_29, x_192_32, x_192_33, x_192_34, x_192_35, x_192_36, x_192_39, x_192_40, x_192_41, x_192_44, x_192_45, x_192_46, x_192_49, x_192_50, x_192_52, x_192_53, x_192_56, x_192_57, x_192_58, x_192_61, x_192_62, x_192_65, x_192_66, x_192_67, x_192_68, x_192_69, x_192_72, x_192_74, x_192_75, x_192_76, x_192_77, x_192_78, x_192_81, x_192_82, x_192_83, x_192_84, x_192_85, x_192_86, x_192_89, x_192_95, x_192_98, x_192_99, x_192_102, x_192_103, x_192_106, x_192_109, Hm0, Hm1, hz, e0, k0, k1, k2, k3, k4, k5, k6, k7, k8, k9, k10, k11, k12, k13, k14, k15, k16, k20, k24, k30, k32, k46, k56, k60, k69, k88, k99, k100, k125, k255, k338, k398, k422, k17, k18, k19, k21, k22, k23, k25, k26, k27, k28, k29, k31, k33, k34, k35, k36, k37, k38, k39, k40, k41, k42, k43, k44, k45, k47, k48, k49, k50, k51, k52, k53, k54, k55, k57, k58, k59, k61, k62, k63, k64, k70, k71, k96, k109, k114, k115, k119, k124, k128, k216, k256, k999, k1296, k4096, k5184, k9999, k12345, k99999, k100000, k999999999, m_2, m_10, m_999, m_9999, m_999999999, q_in, q_cl, q_mul, q_add, q_sub, q_lt, q_le, q_eq, Nat.reduceAdd, Nat.reduceMul, Nat.reduceSub, Nat.reduceLT, Nat.reduceLeDiff, Nat.reduceEqDiff, Nat.add_zero, Nat.zero_add, Nat.mul_zero, q_addm, q_addn, q_subm, q_0m, q_ngm, sky_0, she_0, sky_1, she_1, sky_2, she_2, sky_3, she_3, m_lt, m_gt, m_eq, m_eq', m_one, m_ng, m_mlt, m_meq, q_sub1, q_sub1m, ↓q_irem, mx0, q_div, lt_T, lt_F, le_T, le_F, eq_T, eq_F, not_true_eq_false, not_false_eq_true, true_and, and_true, false_and, and_false, ↓reduceIte, ↓bz_i, ↓bz_l, ↓bz_v, ↓bz_h, ↓bz_c, zs_i, zs_l, zs_v, zs_h, zs_c, zs_n, zn_i, zn_l, zn_v, zn_h, zn_c, zi_i, zi_l, zi_v, zi_h, zi_c, List.append_nil, rr_nk, if_true, if_false, ite_true, ite_false, i01, i10, i00, ite_self, true_or, or_true, or_false, false_or]
  | succ m ih =>
    intro k A hk e0 hc
    obtain ⟨A', e, h1, h2⟩ := ih (k + 1) (u1 A 61 (upd (A 61) k (A 61 k + nI cw * A 59 k))) (by omega) (by rw [u1_ne (by omega)]; exact e0) (by rw [u1_ne (by omega)]; exact hc)
    refine ⟨A', Eq.trans ?_ e, fun i hi => by rw [h1 i hi, u1_ne hi], fun i => ?_⟩
    · rw [x_192_51]
      simp (disch := omega) only [x_192_0, x_192_1, x_192_2, x_192_3, x_192_5, x_192_8, x_192_9, x_192_12, x_192_13, x_192_14, x_192_15, x_192_18, x_192_21, x_192_22, x_192_25, x_192_26, x_192_29, x_192_32, x_192_33, x_192_34, x_192_35, x_192_36, x_192_39, x_192_40, x_192_41, x_192_44, x_192_45, x_192_46, x_192_49, x_192_50, x_192_52, x_192_53, x_192_56, x_192_57, x_192_58, x_192_61, x_192_62, x_192_65, x_192_66, x_192_67, x_192_68, x_192_69, x_192_72, x_192_74, x_192_75, x_192_76, x_192_77, x_192_78, x_192_81, x_192_82, x_192_83, x_192_84, x_192_85, x_192_86, x_192_89, x_192_95, x_192_98, x_192_99, x_192_102, x_192_103, x_192_106, x_192_109, Hm0, Hm1, hz, e0, hc, k0, k1, k2, k3, k4, k5, k6, k7, k8, k9, k10, k11, k12, k13, k14, k15, k16, k20, k24, k30, k32, k46, k56, k60, k69, k88, k99, k100, k125, k255, k338, k398, k422, k17, k18, k19, k21, k22, k23, k25, k26, k27, k28, k29, k31, k33, k34, k35, k36, k37, k38, k39, k40, k41, k42, k43, k44, k45, k47, k48, k49, k50, k51, k52, k53, k54, k55, k57, k58, k59, k61, k62, k63, k64, k70, k71, k96, k109, k114, k115, k119, k124, k128, k216, k256, k999, k1296, k4096, k5184, k9999, k12345, k99999, k100000, k999999999, m_2, m_10, m_999, m_9999, m_999999999, q_in, q_cl, q_mul, q_add, q_sub, q_lt, q_le, q_eq, Nat.reduceAdd, Nat.reduceMul, Nat.reduceSub, Nat.reduceLT, Nat.reduceLeDiff, Nat.reduceEqDiff, Nat.add_zero, Nat.zero_add, Nat.mul_zero, q_addm, q_addn, q_subm, q_0m, q_ngm, sky_0, she_0, sky_1, she_1, sky_2, she_2, sky_3, she_3, m_lt, m_gt, m_eq, m_eq', m_one, m_ng, m_mlt, m_meq, q_sub1, q_sub1m, ↓q_irem, mx0, q_div, lt_T, lt_F, le_T, le_F, eq_T, eq_F, not_true_eq_false, not_false_eq_true, true_and, and_true, false_and, and_false, ↓reduceIte, ↓bz_i, ↓bz_l, ↓bz_v, ↓bz_h, ↓bz_c, zs_i, zs_l, zs_v, zs_h, zs_c, zs_n, zn_i, zn_l, zn_v, zn_h, zn_c, zi_i, zi_l, zi_v, zi_h, zi_c, List.append_nil, rr_nk, if_true, if_false, ite_true, ite_false, i01, i10, i00, ite_self, true_or, or_true, or_false, false_or]
    · rw [h2 i, u1_eq, u1_ne (by omega)]
      by_cases q : i = k
      · subst q; rw [if_neg (by omega), if_pos (by omega), upd_eq']
      · rw [upd_ne' q]
        by_cases q2 : k + 1 ≤ i ∧ i < n
        · rw [if_pos q2, if_pos (by omega)]
        · rw [if_neg q2, if_neg (by omega)]
set_option maxRecDepth 20000 in
set_option maxHeartbeats 2000000 in
theorem lp192o (hz : 71 ≤ sz) (d : Nat) (hX : CX n nl z W D M K V A0 B0) (hl : ∀ l, law' = some l → l < nl) {C : Nat → Nat} {SK : Nat → Nat → Nat} (hSK : ∀ w f, w < 4 → f < 8 → SK w f ≤ 99) (hS9 : ∀ f, f < 8 → S f ≤ 9999) (hc16 : ∀ w, w < 4 → C w ≤ 16) : ∀ (m w : Nat) (x : DY) (A : rrA) (l3 : Option Value), m + w = 4 → RD n nl z W D M K V law x A → x.2.1 = S → (∀ w f, w < 4 → f < 8 → A 52 (56 + 8 * w + f) = nI (SK w f)) → (∀ w, w < 4 → A 52 (10 + w) = nI (C w)) → (∀ i, i < n → A 61 i = mb C (MP n z D M K V W S law' SK) w i) → ∃ A' l3', rx (d + 6) 192 34 [some (.ref 51), some (.int (lI law')), some (.int (nI w)), l3] [] sz us (hp kq fq L xs A B J) = rx (d + 6) 192 98 [some (.ref 51), some (.int (lI law')), some (.int (nI 4)), l3'] [] sz us (hp kq fq L xs A' B J) ∧ (∀ i, i ≠ 52 → i ≠ 57 → i ≠ 58 → i ≠ 59 → i ≠ 61 → A' i = A i) ∧ (∀ i, (i < 15 ∨ 46 ≤ i ∨ i % 4 ≠ 3) → A' 52 i = A 52 i) ∧ ∀ i, i < n → A' 61 i = mb C (MP n z D M K V W S law' SK) 4 i := by
  have n8 := hX.1
  intro m
  induction m with
  | zero =>
    intro w x A l3 hw hR hxS hS1 hc hA
    have : w = 4 := by omega
    subst this
    refine ⟨A, l3, ?_, fun _ _ _ _ _ _ => rfl, fun _ _ => rfl, hA⟩
    rw [x_192_34]
    simp (disch := omega) only [x_192_0, x_192_1, x_192_2, x_192_3, x_192_5, x_192_8, x_192_9, x_192_12, x_192_13, x_192_14, x_192_15, x_192_18, x_192_21, x_192_22, x_192_25, x_192_26, x_192_29, x_192_32, x_192_33, x_192_35, x_192_36, x_192_39, x_192_40, x_192_41, x_192_44, x_192_45, x_192_46, x_192_49, x_192_50, x_192_51, x_192_52, x_192_53, x_192_56, x_192_57, x_192_58, x_192_61, x_192_62, x_192_65, x_192_66, x_192_67, x_192_68, x_192_69, x_192_72, x_192_74, x_192_75, x_192_76, x_192_77, x_192_78, x_192_81, x_192_82, x_192_83, x_192_84, x_192_85, x_192_86, x_192_89, x_192_92, x_192_95, x_192_99, x_192_102, x_192_103, x_192_106, x_192_109, Hm0, Hm1, hz, k0, k1, k2, k3, k4, k5, k6, k7, k8, k9, k10, k11, k12, k13, k14, k15, k16, k20, k24, k30, k32, k46, k56, k60, k69, k88, k99, k100, k125, k255, k338, k398, k422, k17, k18, k19, k21, k22, k23, k25, k26, k27, k28, k29, k31, k33, k34, k35, k36, k37, k38, k39, k40, k41, k42, k43, k44, k45, k47, k48, k49, k50, k51, k52, k53, k54, k55, k57, k58, k59, k61, k62, k63, k64, k70, k71, k96, k109, k114, k115, k119, k124, k128, k216, k256, k999, k1296, k4096, k5184, k9999, k12345, k99999, k100000, k999999999, m_2, m_10, m_999, m_9999, m_999999999, q_in, q_cl, q_mul, q_add, q_sub, q_lt, q_le, q_eq, Nat.reduceAdd, Nat.reduceMul, Nat.reduceSub, Nat.reduceLT, Nat.reduceLeDiff, Nat.reduceEqDiff, Nat.add_zero, Nat.zero_add, Nat.mul_zero, q_addm, q_addn, q_subm, q_0m, q_ngm, sky_0, she_0, sky_1, she_1, sky_2, she_2, sky_3, she_3, m_lt, m_gt, m_eq, m_eq', m_one, m_ng, m_mlt, m_meq, q_sub1, q_sub1m, ↓q_irem, mx0, q_div, lt_T, lt_F, le_T, le_F, eq_T, eq_F, not_true_eq_false, not_false_eq_true, true_and, and_true, false_and, and_false, ↓reduceIte, ↓bz_i, ↓bz_l, ↓bz_v, ↓bz_h, ↓bz_c, zs_i, zs_l, zs_v, zs_h, zs_c, zs_n, zn_i, zn_l, zn_v, zn_h, zn_c, zi_i, zi_l, zi_v, zi_h, zi_c, List.append_nil, rr_nk, if_true, if_false, ite_true, ite_false, i01, i10, i00, ite_self, true_or, or_true, or_false, false_or]
  | succ m ih =>
    intro w x A l3 hw hR hxS hS1 hc hA
    have w4 : w < 4 := by omega
    obtain ⟨A1, a1, g1, g2, hR1⟩ := s189 (B := B) (kq := kq) (fq := fq) (L := L) (xs := xs) (J := J) (us := us) hz (d + 4) hX hR w4 (fun f hf => hS1 w f w4 hf)
    have hr : ∀ i, i < n → (srn n (SK w) x).1 i = SK w i := fun i hi => if_pos hi
    obtain ⟨A2, a2, f1, f2⟩ := s151 (B := B) (kq := kq) (fq := fq) (L := L) (xs := xs) (J := J) (us := us) hz d hX law' hl (SK w) S (fun i hi => ⟨hSK w i w4 (by omega), hS9 i (by omega)⟩) (OF z D M K V W (SK w) S law') (fun _ _ => rfl) hR1.1 (fun i hi => ⟨by rw [hR1.2.2.1 i (by omega), hr i hi], by rw [hR1.2.2.2.1 i (by omega)]; show nI (x.2.1 i) = _; rw [hxS]⟩)
    have q52 : A2 52 = A1 52 := f1 52 (by omega) (by omega) (by omega)
    obtain ⟨A3, a3, p1, p2⟩ := lp192i (B := B) (kq := kq) (fq := fq) (L := L) (xs := xs) (J := J) (us := us) (law' := law') hz (d + 6) n8 (cw := C w) w4 n 0 A2 (by omega) (by rw [q52]; exact hR1.1.1) (by rw [q52, g2 _ (by omega)]; exact hc w w4)
    have q52' : A3 52 = A1 52 := by rw [p1 52 (by omega), q52]
    have gf : ∀ i, i ≠ 52 → i ≠ 57 → i ≠ 58 → i ≠ 59 → i ≠ 61 → A3 i = A i := fun i i1 i2 i3 i4 i5 => by rw [p1 i i5, f1 i i2 i3 i4, g1 i i1]
    obtain ⟨A', l3', e, h1, h2, h3⟩ := ih (w + 1) (srn n (SK w) x) A3 (some (.int (nI n))) (by omega) (hR1.cg q52') hxS (fun w f hw hf => by rw [q52', g2 _ (by omega)]; exact hS1 w f hw hf) (fun w hw => by rw [q52', g2 _ (by omega)]; exact hc w hw) (fun i hi => by
      rw [p2 i, if_pos (by omega), f1 61 (by omega) (by omega) (by omega), g1 61 (by omega), hA i hi, f2 i hi]
      rfl)
    refine ⟨A', l3', Eq.trans ?_ e, fun i i1 i2 i3 i4 i5 => by rw [h1 i i1 i2 i3 i4 i5, gf i i1 i2 i3 i4 i5], fun i hi => by rw [h2 i hi, q52', g2 i hi], h3⟩
    rw [x_192_34]
    simp (disch := omega) only [x_192_0, x_192_1, x_192_2, x_192_3, x_192_5, x_192_8, x_192_9, x_192_12, x_192_13, x_192_14, x_192_15, x_192_18, x_192_21, x_192_22, x_192_25, x_192_26, x_192_29, x_192_32, x_192_33, x_192_35, x_192_36, x_192_39, x_192_40, x_192_41, x_192_44, x_192_45, x_192_46, x_192_49, x_192_50, x_192_52, x_192_53, x_192_56, x_192_57, x_192_58, x_192_61, x_192_62, x_192_65, x_192_66, x_192_67, x_192_68, x_192_69, x_192_72, x_192_74, x_192_75, x_192_76, x_192_77, x_192_78, x_192_81, x_192_82, x_192_83, x_192_84, x_192_85, x_192_86, x_192_89, x_192_92, x_192_95, x_192_99, x_192_102, x_192_103, x_192_106, x_192_109, Hm0, Hm1, hz, a1, a2, a3, k0, k1, k2, k3, k4, k5, k6, k7, k8, k9, k10, k11, k12, k13, k14, k15, k16, k20, k24, k30, k32, k46, k56, k60, k69, k88, k99, k100, k125, k255, k338, k398, k422, k17, k18, k19, k21, k22, k23, k25, k26, k27, k28, k29, k31, k33, k34, k35, k36, k37, k38, k39, k40, k41, k42, k43, k44, k45, k47, k48, k49, k50, k51, k52, k53, k54, k55, k57, k58, k59, k61, k62, k63, k64, k70, k71, k96, k109, k114, k115, k119, k124, k128, k216, k256, k999, k1296, k4096, k5184, k9999, k12345, k99999, k100000, k999999999, m_2, m_10, m_999, m_9999, m_999999999, q_in, q_cl, q_mul, q_add, q_sub, q_lt, q_le, q_eq, Nat.reduceAdd, Nat.reduceMul, Nat.reduceSub, Nat.reduceLT, Nat.reduceLeDiff, Nat.reduceEqDiff, Nat.add_zero, Nat.zero_add, Nat.mul_zero, q_addm, q_addn, q_subm, q_0m, q_ngm, sky_0, she_0, sky_1, she_1, sky_2, she_2, sky_3, she_3, m_lt, m_gt, m_eq, m_eq', m_one, m_ng, m_mlt, m_meq, q_sub1, q_sub1m, ↓q_irem, mx0, q_div, lt_T, lt_F, le_T, le_F, eq_T, eq_F, not_true_eq_false, not_false_eq_true, true_and, and_true, false_and, and_false, ↓reduceIte, ↓bz_i, ↓bz_l, ↓bz_v, ↓bz_h, ↓bz_c, zs_i, zs_l, zs_v, zs_h, zs_c, zs_n, zn_i, zn_l, zn_v, zn_h, zn_c, zi_i, zi_l, zi_v, zi_h, zi_c, List.append_nil, rr_nk, if_true, if_false, ite_true, ite_false, i01, i10, i00, ite_self, true_or, or_true, or_false, false_or]
def clI (g : Nat → Int32) : Nat → Int32 := upd (upd (upd (upd (upd (upd (upd (upd g 0 (nI 0)) 1 (nI 0)) 2 (nI 0)) 3 (nI 0)) 4 (nI 0)) 5 (nI 0)) 6 (nI 0)) 7 (nI 0)
theorem clI_0 {g : Nat → Int32} {f : Nat} (hf : f < 8) : clI g f = nI 0 := by
  have h : f = 0 ∨ f = 1 ∨ f = 2 ∨ f = 3 ∨ f = 4 ∨ f = 5 ∨ f = 6 ∨ f = 7 := by omega
  rcases h with rfl | rfl | rfl | rfl | rfl | rfl | rfl | rfl <;> rfl
set_option maxRecDepth 20000 in
theorem s192 (hz : 71 ≤ sz) (d : Nat) (hX : CX n nl z W D M K V A0 B0) (hl : ∀ l, law' = some l → l < nl) {C : Nat → Nat} {SK : Nat → Nat → Nat} (hSK : ∀ w f, w < 4 → f < 8 → SK w f ≤ 99) (hS9 : ∀ f, f < 8 → S f ≤ 9999) (hc16 : ∀ w, w < 4 → C w ≤ 16) (hR : RD n nl z W D M K V law x A) (hxS : x.2.1 = S) (hS1 : ∀ w f, w < 4 → f < 8 → A 52 (56 + 8 * w + f) = nI (SK w f)) (hc : ∀ w, w < 4 → A 52 (10 + w) = nI (C w)) : ∃ A', rx (d + 6) 192 0 [some (.ref 51), some (.int (lI law')), none, none] [] sz us (hp kq fq L xs A B J) = some (none, sz, us, hp kq fq L xs A' B J) ∧ (∀ i, i ≠ 54 → i ≠ 57 → i ≠ 58 → i ≠ 59 → i ≠ 61 → A' i = A i) ∧ ∀ i, i < n → A' 61 i = mb C (MP n z D M K V W S law' SK) 4 i := by
  have n8 := hX.1
  obtain ⟨A1, a1, h1, h2⟩ := s193 (kq := kq) (fq := fq) (L := L) (xs := xs) (J := J) (us := us) (sz := sz) (B := B) (A := u1 A 61 (clI (A 61))) (d + 5) (a := 52) (b := 54) (fun _ _ _ => rfl) (fun _ _ _ => rfl) (by omega) (by omega) (by omega)
  have q52 : A1 52 = A 52 := by rw [h1 52 (by omega), u1_ne (by omega)]
  obtain ⟨A2, l3', a2, f1, f2, f3⟩ := lp192o (B := B) (kq := kq) (fq := fq) (L := L) (xs := xs) (J := J) (us := us) hz d hX hl hSK hS9 hc16 4 0 x A1 none (by omega) (hR.cg q52) hxS (fun w f hw hf => by rw [q52]; exact hS1 w f hw hf) (fun w hw => by rw [q52]; exact hc w hw) (fun i hi => by rw [h1 61 (by omega), u1_eq, clI_0 (by omega)]; rfl)
  obtain ⟨A3, a3, p1, p2⟩ := s193 (kq := kq) (fq := fq) (L := L) (xs := xs) (J := J) (us := us) (sz := sz) (B := B) (A := A2) (d + 5) (a := 54) (b := 52) (fun _ _ _ => rfl) (fun _ _ _ => rfl) (by omega) (by omega) (by omega)
  refine ⟨A3, ?_, fun i i1 i2 i3 i4 i5 => ?_, fun i hi => by rw [p1 61 (by omega)]; exact f3 i hi⟩
  · unfold clI at a1
    simp (disch := omega) only [x_192_0, x_192_1, x_192_2, x_192_3, x_192_5, x_192_8, x_192_9, x_192_12, x_192_13, x_192_14, x_192_15, x_192_18, x_192_21, x_192_22, x_192_25, x_192_26, x_192_29, x_192_32, x_192_33, x_192_35, x_192_36, x_192_39, x_192_40, x_192_41, x_192_44, x_192_45, x_192_46, x_192_49, x_192_50, x_192_51, x_192_52, x_192_53, x_192_56, x_192_57, x_192_58, x_192_61, x_192_62, x_192_65, x_192_66, x_192_67, x_192_68, x_192_69, x_192_72, x_192_74, x_192_75, x_192_76, x_192_77, x_192_78, x_192_81, x_192_82, x_192_83, x_192_84, x_192_85, x_192_86, x_192_89, x_192_92, x_192_95, x_192_98, x_192_99, x_192_102, x_192_103, x_192_106, x_192_109, Hm0, Hm1, hz, u1_u1, u1_eq, a1, a2, a3, k0, k1, k2, k3, k4, k5, k6, k7, k8, k9, k10, k11, k12, k13, k14, k15, k16, k20, k24, k30, k32, k46, k56, k60, k69, k88, k99, k100, k125, k255, k338, k398, k422, k17, k18, k19, k21, k22, k23, k25, k26, k27, k28, k29, k31, k33, k34, k35, k36, k37, k38, k39, k40, k41, k42, k43, k44, k45, k47, k48, k49, k50, k51, k52, k53, k54, k55, k57, k58, k59, k61, k62, k63, k64, k70, k71, k96, k109, k114, k115, k119, k124, k128, k216, k256, k999, k1296, k4096, k5184, k9999, k12345, k99999, k100000, k999999999, m_2, m_10, m_999, m_9999, m_999999999, q_in, q_cl, q_mul, q_add, q_sub, q_lt, q_le, q_eq, Nat.reduceAdd, Nat.reduceMul, Nat.reduceSub, Nat.reduceLT, Nat.reduceLeDiff, Nat.reduceEqDiff, Nat.add_zero, Nat.zero_add, Nat.mul_zero, q_addm, q_addn, q_subm, q_0m, q_ngm, sky_0, she_0, sky_1, she_1, sky_2, she_2, sky_3, she_3, m_lt, m_gt, m_eq, m_eq', m_one, m_ng, m_mlt, m_meq, q_sub1, q_sub1m, ↓q_irem, mx0, q_div, lt_T, lt_F, le_T, le_F, eq_T, eq_F, not_true_eq_false, not_false_eq_true, true_and, and_true, false_and, and_false, ↓reduceIte, ↓bz_i, ↓bz_l, ↓bz_v, ↓bz_h, ↓bz_c, zs_i, zs_l, zs_v, zs_h, zs_c, zs_n, zn_i, zn_l, zn_v, zn_h, zn_c, zi_i, zi_l, zi_v, zi_h, zi_c, List.append_nil, rr_nk, if_true, if_false, ite_true, ite_false, i01, i10, i00, ite_self, true_or, or_true, or_false, false_or]
  · by_cases e : i = 52
    · subst e
      funext t
      rw [p2 t]
      by_cases q : t < 422
      · rw [if_pos q, f1 54 (by omega) (by omega) (by omega) (by omega) (by omega), h2 t, if_pos q, u1_ne (by omega)]
      · rw [if_neg q, f2 t (by omega), q52]
    · rw [p1 i e, f1 i e i2 i3 i4 i5, h1 i i1, u1_ne i5]
end MN

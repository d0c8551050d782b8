/-! ===== what all PAY ===== -/
def sO (F : Nat → Int32) : Nat → Int32
  | 0 => nI 0
  | k + 1 => sO F k + F k
def PY (F : Nat → Int32) (n i : Nat) : Int32 := F i * nI n - sO F n
/-- a row of eight ints, read and written -/
abbrev r8 (sz : Nat) (kq fq : Option Nat) (L : Nat) (xs : Nat → Int32) (B : rrA) (J : Nat → Nat → Int64) (a : Nat) : Prop := ∀ (A : rrA) (k : Int32), rr_ai sz (hp kq fq L xs A B J) a k = if rr_in k 8 = true then some (A a k.toNatClampNeg) else none
abbrev w8 (sz : Nat) (kq fq : Option Nat) (L : Nat) (xs : Nat → Int32) (B : rrA) (J : Nat → Nat → Int64) (a : Nat) : Prop := ∀ (A : rrA) (k x : Int32), rr_wi sz (hp kq fq L xs A B J) a k x = if rr_in k 8 = true then some (hp kq fq L xs (u1 A a (upd (A a) k.toNatClampNeg x)) B J) else none
section PY1
variable {sz us : Nat} {kq fq : Option Nat} {L : Nat} {xs : Nat → Int32} {A B A0 B0 : rrA} {J : Nat → Nat → Int64} {n nl z : Nat} {W D M K V : Nat → Nat}
theorem r8_of {a : Nat} (h : ∀ x y w, sh kq fq L xs a x y w = rr_cI 8 x) (hz : a < sz) : r8 sz kq fq L xs B J a := fun A k => hp_ai h hz k
theorem w8_of {a : Nat} (h : ∀ x y w, sh kq fq L xs a x y w = rr_cI 8 x) (hz : a < sz) : w8 sz kq fq L xs B J a := fun A k x => hp_wi h hz k x
set_option maxRecDepth 20000 in
set_option maxHeartbeats 2000000 in
theorem lp25a (hz : 71 ≤ sz) (d : Nat) {a b t : Nat} (ha : r8 sz kq fq L xs B J a) (hb : r8 sz kq fq L xs B J b) (ht : r8 sz kq fq L xs B J t) (hw : w8 sz kq fq L xs B J t) (t1 : t ≠ 21 ∧ t ≠ 2 ∧ t ≠ 8 ∧ t ≠ 20) (a1 : a ≠ 21 ∧ a ≠ t) (b1 : b ≠ 21 ∧ b ≠ t) (law : Option Nat) (hl : ∀ l, law = some l → l < nl) (R S : Nat → Nat) (hRS : ∀ i, i < n → R i ≤ 99 ∧ S i ≤ 9999) (F : Nat → Int32) (hF : ∀ i, i < n → OW z D M K V law (R i) (W i) (S i) = F i) (n8 : n ≤ 8) (e5 : B 1 5 = nI n) : ∀ (m k : Nat) (A : rrA), m + k = n → CX n nl z W D M K V A B → (∀ i, i < n → A a i = nI (R i)) → (∀ i, i < n → A b i = nI (S i)) → (∀ i, i < k → A t i = F i) → ∃ A', rx (d + 3) 25 6 [some (.ref 1), some (.int (lI law)), some (.ref a), some (.ref b), some (.ref t), some (.int (sO F k)), some (.int (nI k))] [] sz us (hp kq fq L xs A B J) = rx (d + 3) 25 51 [some (.ref 1), some (.int (lI law)), some (.ref a), some (.ref b), some (.ref t), some (.int (sO F n)), some (.int (nI n))] [] sz us (hp kq fq L xs A' B J) ∧ (∀ i, i ≠ 21 → i ≠ t → A' i = A i) ∧ ∀ i, i < n → A' t i = F i := by
  intro m
  induction m with
  | zero =>
    intro k A hk hC hA hB ht'
    have : k = n := by omega
    subst this
    refine ⟨A, ?_, fun _ _ _ => rfl, ht'⟩
    rw [x_25_6]
    simp (disch := omega) only [x_25_0, x_25_1, x_25_3, x_25_4, x_25_8, x_25_9, x_25_12, x_25_15, x_25_17, x_25_19, x_25_20, x_25_21, x_25_23, x_25_24, x_25_26, x_25_27, x_25_28, x_25_30, x_25_31, x_25_34, x_25_35, x_25_37, x_25_39, x_25_41, x_25_42, x_25_43, x_25_45, x_25_48, x_25_52, x_25_54, x_25_56, x_25_57, x_25_60, x_25_63, x_25_65, x_25_67, x_25_69, x_25_71, x_25_72, x_25_73, x_25_76, x_25_77, x_25_79, x_25_80, x_25_81, x_25_84, x_25_87, Hc0, Hc1, Hc2, Hc3, Hc4, hz, e5, k0, k1, k2, k3, k4, k5, k6, k7, k8, k9, k10, k11, k12, k13, k14, k15, k16, k20, k24, k30, k32, k46, k56, k60, k69, k88, k99, k100, k125, k255, k338, k398, k422, k17, k18, k19, k21, k22, k23, k25, k26, k27, k28, k29, k31, k33, k34, k35, k36, k37, k38, k39, k40, k41, k42, k43, k44, k45, k47, k48, k49, k50, k51, k52, k53, k54, k55, k57, k58, k59, k61, k62, k63, k64, k70, k71, k96, k109, k114, k115, k119, k124, k128, k216, k256, k999, k1296, k4096, k5184, k9999, k12345, k99999, k100000, k999999999, m_2, m_10, m_999, m_9999, m_999999999, q_in, q_cl, q_mul, q_add, q_sub, q_lt, q_le, q_eq, Nat.reduceAdd, Nat.reduceMul, Nat.reduceSub, Nat.reduceLT, Nat.reduceLeDiff, Nat.reduceEqDiff, Nat.add_zero, Nat.zero_add, Nat.mul_zero, q_addm, q_addn, q_subm, q_0m, q_ngm, sky_0, she_0, sky_1, she_1, sky_2, she_2, sky_3, she_3, m_lt, m_gt, m_eq, m_eq', m_one, m_ng, m_mlt, m_meq, q_sub1, q_sub1m, ↓q_irem, mx0, q_div, lt_T, lt_F, le_T, le_F, eq_T, eq_F, not_true_eq_false, not_false_eq_true, true_and, and_true, false_and, and_false, ↓reduceIte, ↓bz_i, ↓bz_l, ↓bz_v, ↓bz_h, ↓bz_c, zs_i, zs_l, zs_v, zs_h, zs_c, zs_n, zn_i, zn_l, zn_v, zn_h, zn_c, zi_i, zi_l, zi_v, zi_h, zi_c, List.append_nil, rr_nk, if_true, if_false, ite_true, ite_false, i01, i10, i00, ite_self, true_or, or_true, or_false, false_or]
  | succ m ih =>
    intro k A hk hC hA hB ht'
    have hkn : k < n := by omega
    obtain ⟨r99, s99⟩ := hRS k hkn
    obtain ⟨A1, e, h1⟩ := s17 (kq := kq) (fq := fq) (L := L) (xs := xs) (J := J) (us := us) hz d hC law hl k (R k) (S k) hkn r99 s99
    rw [hF k hkn] at e
    have f21 : u1 A1 t (upd (A1 t) k (F k)) 21 = A1 21 := u1_ne (by omega)
    have g : ∀ i, i ≠ 21 → i ≠ t → u1 A1 t (upd (A1 t) k (F k)) i = A i := fun i h2 h3 => by rw [u1_ne h3, h1 i h2]
    obtain ⟨A', e', h2, h3⟩ := ih (k + 1) (u1 A1 t (upd (A1 t) k (F k))) (by omega) (hC.cg (g 2 (by omega) (by omega)) (g 8 (by omega) (by omega)) (g 20 (by omega) (by omega)) rfl rfl rfl) (fun i hi => by rw [g a a1.1 a1.2]; exact hA i hi) (fun i hi => by rw [g b b1.1 b1.2]; exact hB i hi) (fun i hi => by
      rw [u1_eq]
      by_cases hik : i = k
      · subst hik; rw [upd_eq']
      · rw [upd_ne' hik, h1 t t1.1]; exact ht' i (by omega))
    refine ⟨A', ?_, fun i h4 h5 => by rw [h2 i h4 h5, g i h4 h5], h3⟩
    rw [← e']
    have hAk := hA k hkn
    have hBk := hB k hkn
    have hsk : sO F (k + 1) = sO F k + F k := rfl
    rw [hsk, x_25_6]
    simp (disch := omega) only [x_25_0, x_25_1, x_25_3, x_25_4, x_25_8, x_25_9, x_25_12, x_25_15, x_25_17, x_25_19, x_25_20, x_25_21, x_25_23, x_25_24, x_25_26, x_25_27, x_25_28, x_25_30, x_25_31, x_25_34, x_25_35, x_25_37, x_25_39, x_25_41, x_25_42, x_25_43, x_25_45, x_25_48, x_25_52, x_25_54, x_25_56, x_25_57, x_25_60, x_25_63, x_25_65, x_25_67, x_25_69, x_25_71, x_25_72, x_25_73, x_25_76, x_25_77, x_25_79, x_25_80, x_25_81, x_25_84, x_25_87, Hc0, Hc1, Hc2, Hc3, Hc4, hz, e5, ha, hb, ht, hw, hAk, hBk, e, k0, k1, k2, k3, k4, k5, k6, k7, k8, k9, k10, k11, k12, k13, k14, k15, k16, k20, k24, k30, k32, k46, k56, k60, k69, k88, k99, k100, k125, k255, k338, k398, k422, k17, k18, k19, k21, k22, k23, k25, k26, k27, k28, k29, k31, k33, k34, k35, k36, k37, k38, k39, k40, k41, k42, k43, k44, k45, k47, k48, k49, k50, k51, k52, k53, k54, k55, k57, k58, k59, k61, k62, k63, k64, k70, k71, k96, k109, k114, k115, k119, k124, k128, k216, k256, k999, k1296, k4096, k5184, k9999, k12345, k99999, k100000, k999999999, m_2, m_10, m_999, m_9999, m_999999999, q_in, q_cl, q_mul, q_add, q_sub, q_lt, q_le, q_eq, Nat.reduceAdd, Nat.reduceMul, Nat.reduceSub, Nat.reduceLT, Nat.reduceLeDiff, Nat.reduceEqDiff, Nat.add_zero, Nat.zero_add, Nat.mul_zero, q_addm, q_addn, q_subm, q_0m, q_ngm, sky_0, she_0, sky_1, she_1, sky_2, she_2, sky_3, she_3, m_lt, m_gt, m_eq, m_eq', m_one, m_ng, m_mlt, m_meq, q_sub1, q_sub1m, ↓q_irem, mx0, q_div, lt_T, lt_F, le_T, le_F, eq_T, eq_F, not_true_eq_false, not_false_eq_true, true_and, and_true, false_and, and_false, u1_eq, u1_ne, u2_eq, u2_ne, uJ_eq, uJ_ne, upd_eq', upd_ne', ↓reduceIte, ↓bz_i, ↓bz_l, ↓bz_v, ↓bz_h, ↓bz_c, zs_i, zs_l, zs_v, zs_h, zs_c, zs_n, zn_i, zn_l, zn_v, zn_h, zn_c, zi_i, zi_l, zi_v, zi_h, zi_c, List.append_nil, rr_nk, if_true, if_false, ite_true, ite_false, i01, i10, i00, ite_self, true_or, or_true, or_false, false_or]
set_option maxRecDepth 20000 in
set_option maxHeartbeats 2000000 in
theorem lp25b (hz : 71 ≤ sz) (d : Nat) {t : Nat} (ht : r8 sz kq fq L xs B J t) (hw : w8 sz kq fq L xs B J t) (l1 l2 l3 : Value) (F : Nat → Int32) (n8 : n ≤ 8) (e5 : B 1 5 = nI n) : ∀ (m k : Nat) (A : rrA), m + k = n → (∀ i, i < k → A t i = PY F n i) → (∀ i, k ≤ i → i < n → A t i = F i) → ∃ A', rx (d + 3) 25 54 [some (.ref 1), some l1, some l2, some l3, some (.ref t), some (.int (sO F n)), some (.int (nI k))] [] sz us (hp kq fq L xs A B J) = some (none, sz, us, hp kq fq L xs A' B J) ∧ (∀ i, i ≠ t → A' i = A i) ∧ ∀ i, i < n → A' t i = PY F n i := by
  intro m
  induction m with
  | zero =>
    intro k A hk hA hB
    have : k = n := by omega
    subst this
    refine ⟨A, ?_, fun _ _ => rfl, hA⟩
    rw [x_25_54]
    simp (disch := omega) only [x_25_0, x_25_1, x_25_3, x_25_4, x_25_6, x_25_8, x_25_9, x_25_12, x_25_15, x_25_17, x_25_19, x_25_20, x_25_21, x_25_23, x_25_24, x_25_26, x_25_27, x_25_28, x_25_30, x_25_31, x_25_34, x_25_35, x_25_37, x_25_39, x_25_41, x_25_42, x_25_43, x_25_45, x_25_48, x_25_51, x_25_52, x_25_56, x_25_57, x_25_60, x_25_63, x_25_65, x_25_67, x_25_69, x_25_71, x_25_72, x_25_73, x_25_76, x_25_77, x_25_79, x_25_80, x_25_81, x_25_84, x_25_87, Hc0, Hc1, Hc2, Hc3, Hc4, hz, e5, k0, k1, k2, k3, k4, k5, k6, k7, k8, k9, k10, k11, k12, k13, k14, k15, k16, k20, k24, k30, k32, k46, k56, k60, k69, k88, k99, k100, k125, k255, k338, k398, k422, k17, k18, k19, k21, k22, k23, k25, k26, k27, k28, k29, k31, k33, k34, k35, k36, k37, k38, k39, k40, k41, k42, k43, k44, k45, k47, k48, k49, k50, k51, k52, k53, k54, k55, k57, k58, k59, k61, k62, k63, k64, k70, k71, k96, k109, k114, k115, k119, k124, k128, k216, k256, k999, k1296, k4096, k5184, k9999, k12345, k99999, k100000, k999999999, m_2, m_10, m_999, m_9999, m_999999999, q_in, q_cl, q_mul, q_add, q_sub, q_lt, q_le, q_eq, Nat.reduceAdd, Nat.reduceMul, Nat.reduceSub, Nat.reduceLT, Nat.reduceLeDiff, Nat.reduceEqDiff, Nat.add_zero, Nat.zero_add, Nat.mul_zero, q_addm, q_addn, q_subm, q_0m, q_ngm, sky_0, she_0, sky_1, she_1, sky_2, she_2, sky_3, she_3, m_lt, m_gt, m_eq, m_eq', m_one, m_ng, m_mlt, m_meq, q_sub1, q_sub1m, ↓q_irem, mx0, q_div, lt_T, lt_F, le_T, le_F, eq_T, eq_F, not_true_eq_false, not_false_eq_true, true_and, and_true, false_and, and_false, ↓reduceIte, ↓bz_i, ↓bz_l, ↓bz_v, ↓bz_h, ↓bz_c, zs_i, zs_l, zs_v, zs_h, zs_c, zs_n, zn_i, zn_l, zn_v, zn_h, zn_c, zi_i, zi_l, zi_v, zi_h, zi_c, List.append_nil, rr_nk, if_true, if_false, ite_true, ite_false, i01, i10, i00, ite_self, true_or, or_true, or_false, false_or]
  | succ m ih =>
    intro k A hk hA hB
    have hkn : k < n := by omega
    have hAk := hB k (by omega) hkn
    obtain ⟨A', e', h2, h3⟩ := ih (k + 1) (u1 A t (upd (A t) k (PY F n k))) (by omega) (fun i hi => by
      rw [u1_eq]
      by_cases hik : i = k
      · subst hik; rw [upd_eq']
      · rw [upd_ne' hik]; exact hA i (by omega)) (fun i h1 h2 => by rw [u1_eq, upd_ne' (by omega)]; exact hB i (by omega) h2)
    refine ⟨A', ?_, fun i h4 => by rw [h2 i h4, u1_ne h4], h3⟩
    rw [← e', x_25_54]
    simp (disch := omega) only [x_25_0, x_25_1, x_25_3, x_25_4, x_25_6, x_25_8, x_25_9, x_25_12, x_25_15, x_25_17, x_25_19, x_25_20, x_25_21, x_25_23, x_25_24, x_25_26, x_25_27, x_25_28, x_25_30, x_25_31, x_25_34, x_25_35, x_25_37, x_25_39, x_25_41, x_25_42, x_25_43, x_25_45, x_25_48, x_25_51, x_25_52, x_25_56, x_25_57, x_25_60, x_25_63, x_25_65, x_25_67, x_25_69, x_25_71, x_25_72, x_25_73, x_25_76, x_25_77, x_25_79, x_25_80, x_25_81, x_25_84, x_25_87, Hc0, Hc1, Hc2, Hc3, Hc4, hz, e5, ht, hw, hAk, PY, k0, k1, k2, k3, k4, k5, k6, k7, k8, k9, k10, k11, k12, k13, k14, k15, k16, k20, k24, k30, k32, k46, k56, k60, k69, k88, k99, k100, k125, k255, k338, k398, k422, k17, k18, k19, k21, k22, k23, k25, k26, k27, k28, k29, k31, k33, k34, k35, k36, k37, k38, k39, k40, k41, k42, k43, k44, k45, k47, k48, k49, k50, k51, k52, k53, k54, k55, k57, k58, k59, k61, k62, k63, k64, k70, k71, k96, k109, k114, k115, k119, k124, k128, k216, k256, k999, k1296, k4096, k5184, k9999, k12345, k99999, k100000, k999999999, m_2, m_10, m_999, m_9999, m_999999999, q_in, q_cl, q_mul, q_add, q_sub, q_lt, q_le, q_eq, Nat.reduceAdd, Nat.reduceMul, Nat.reduceSub, Nat.reduceLT, Nat.reduceLeDiff, Nat.reduceEqDiff, Nat.add_zero, Nat.zero_add, Nat.mul_zero, q_addm, q_addn, q_subm, q_0m, q_ngm, sky_0, she_0, sky_1, she_1, sky_2, she_2, sky_3, she_3, m_lt, m_gt, m_eq, m_eq', m_one, m_ng, m_mlt, m_meq, q_sub1, q_sub1m, ↓q_irem, mx0, q_div, lt_T, lt_F, le_T, le_F, eq_T, eq_F, not_true_eq_false, not_false_eq_true, true_and, and_true, false_and, and_false, ↓reduceIte, ↓bz_i, ↓bz_l, ↓bz_v, ↓bz_h, ↓bz_c, zs_i, zs_l, zs_v, zs_h, zs_c, zs_n, zn_i, zn_l, zn_v, zn_h, zn_c, zi_i, zi_l, zi_v, zi_h, zi_c, List.append_nil, rr_nk, if_true, if_false, ite_true, ite_false, i01, i10, i00, ite_self, true_or, or_true, or_false, false_or]
set_option maxRecDepth 20000 in
theorem s25 (hz : 71 ≤ sz) (d : Nat) {a b t : Nat} (ha : r8 sz kq fq L xs B J a) (hb : r8 sz kq fq L xs B J b) (ht : r8 sz kq fq L xs B J t) (hw : w8 sz kq fq L xs B J t) (t1 : t ≠ 21 ∧ t ≠ 2 ∧ t ≠ 8 ∧ t ≠ 20) (a1 : a ≠ 21 ∧ a ≠ t) (b1 : b ≠ 21 ∧ b ≠ t) (law : Option Nat) (hl : ∀ l, law = some l → l < nl) (R S : Nat → Nat) (hRS : ∀ i, i < n → R i ≤ 99 ∧ S i ≤ 9999) (F : Nat → Int32) (hF : ∀ i, i < n → OW z D M K V law (R i) (W i) (S i) = F i) (hC : CX n nl z W D M K V A B) (hA : ∀ i, i < n → A a i = nI (R i)) (hB : ∀ i, i < n → A b i = nI (S i)) : ∃ A', rx (d + 3) 25 0 [some (.ref 1), some (.int (lI law)), some (.ref a), some (.ref b), some (.ref t), none, none] [] sz us (hp kq fq L xs A B J) = some (none, sz, us, hp kq fq L xs A' B J) ∧ (∀ i, i ≠ 21 → i ≠ t → A' i = A i) ∧ ∀ i, i < n → A' t i = PY F n i := by
  obtain ⟨A1, e1, h1, h2⟩ := lp25a (kq := kq) (fq := fq) (L := L) (xs := xs) (J := J) (us := us) hz d ha hb ht hw t1 a1 b1 law hl R S hRS F hF hC.1 hC.2.1 n 0 A (by omega) hC hA hB (fun i hi => absurd hi (by omega))
  obtain ⟨A2, e2, h3, h4⟩ := lp25b (kq := kq) (fq := fq) (L := L) (xs := xs) (J := J) (us := us) hz d ht hw (.int (lI law)) (.ref a) (.ref b) F hC.1 hC.2.1 n 0 A1 (by omega) (fun i hi => absurd hi (by omega)) (fun i _ hi => h2 i hi)
  refine ⟨A2, ?_, fun i h5 h6 => by rw [h3 i h6, h1 i h5 h6], h4⟩
  rw [← e2]
  simp only [sO] at e1
  simp (disch := omega) only [x_25_0, x_25_1, x_25_3, x_25_4, x_25_8, x_25_9, x_25_12, x_25_15, x_25_17, x_25_19, x_25_20, x_25_21, x_25_23, x_25_24, x_25_26, x_25_27, x_25_28, x_25_30, x_25_31, x_25_34, x_25_35, x_25_37, x_25_39, x_25_41, x_25_42, x_25_43, x_25_45, x_25_48, x_25_51, x_25_52, x_25_56, x_25_57, x_25_60, x_25_63, x_25_65, x_25_67, x_25_69, x_25_71, x_25_72, x_25_73, x_25_76, x_25_77, x_25_79, x_25_80, x_25_81, x_25_84, x_25_87, e1, k0, k1, k2, k3, k4, k5, k6, k7, k8, k9, k10, k11, k12, k13, k14, k15, k16, k20, k24, k30, k32, k46, k56, k60, k69, k88, k99, k100, k125, k255, k338, k398, k422, k17, k18, k19, k21, k22, k23, k25, k26, k27, k28, k29, k31, k33, k34, k35, k36, k37, k38, k39, k40, k41, k42, k43, k44, k45, k47, k48, k49, k50, k51, k52, k53, k54, k55, k57, k58, k59, k61, k62, k63, k64, k70, k71, k96, k109, k114, k115, k119, k124, k128, k216, k256, k999, k1296, k4096, k5184, k9999, k12345, k99999, k100000, k999999999, m_2, m_10, m_999, m_9999, m_999999999, q_in, q_cl, q_mul, q_add, q_sub, q_lt, q_le, q_eq, Nat.reduceAdd, Nat.reduceMul, Nat.reduceSub, Nat.reduceLT, Nat.reduceLeDiff, Nat.reduceEqDiff, Nat.add_zero, Nat.zero_add, Nat.mul_zero, q_addm, q_addn, q_subm, q_0m, q_ngm, ↓reduceIte, ↓bz_i, ↓bz_l, ↓bz_v, ↓bz_h, ↓bz_c, zs_i, zs_l, zs_v, zs_h, zs_c, zs_n, zn_i, zn_l, zn_v, zn_h, zn_c, zi_i, zi_l, zi_v, zi_h, zi_c, List.append_nil, rr_nk, if_true, if_false, ite_true, ite_false, i01, i10, i00, ite_self, true_or, or_true, or_false, false_or]
/-! the reference -/
set_option maxRecDepth 20000 in
set_option maxHeartbeats 2000000 in
theorem lp152 (hz : 71 ≤ sz) (d : Nat) (hC : CX n nl z W D M K V A0 B0) (law : Option Nat) (hl : ∀ l, law = some l → l < nl) (R S : Nat → Nat) (hRS : ∀ i, i < n → R i ≤ 99 ∧ S i ≤ 9999) (F : Nat → Int32) (hF : ∀ i, i < n → OW z D M K V law (R i) (W i) (S i) = F i) : ∀ (m k : Nat) (A : rrA), m + k = n → RX n nl z W D M K V A → (∀ i, i < n → A 52 (14 + 4 * i + 1) = nI (R i) ∧ A 52 (14 + 4 * i + 2) = nI (S i)) → ∃ A', rx (d + 4) 152 4 [some (.ref 51), some (.int (lI law)), some (.int (sO F k)), some (.int (nI k))] [] sz us (hp kq fq L xs A B J) = some (some (.int (sO F n)), sz, us, hp kq fq L xs A' B J) ∧ ∀ i, i ≠ 57 → i ≠ 58 → A' i = A i := by
  have n8 := hC.1
  intro m
  induction m with
  | zero =>
    intro k A hk hR hA
    have : k = n := by omega
    subst this
    refine ⟨A, ?_, fun _ _ _ => rfl⟩
    have e0 := hR.1
    rw [x_152_4]
    simp (disch := omega) only [x_152_0, x_152_1, x_152_2, x_152_3, x_152_5, x_152_6, x_152_9, x_152_10, x_152_11, x_152_14, x_152_15, x_152_16, x_152_17, x_152_18, x_152_21, x_152_22, x_152_23, x_152_26, x_152_29, x_152_30, Hm0, Hm1, hz, e0, k0, k1, k2, k3, k4, k5, k6, k7, k8, k9, k10, k11, k12, k13, k14, k15, k16, k20, k24, k30, k32, k46, k56, k60, k69, k88, k99, k100, k125, k255, k338, k398, k422, k17, k18, k19, k21, k22, k23, k25, k26, k27, k28, k29, k31, k33, k34, k35, k36, k37, k38, k39, k40, k41, k42, k43, k44, k45, k47, k48, k49, k50, k51, k52, k53, k54, k55, k57, k58, k59, k61, k62, k63, k64, k70, k71, k96, k109, k114, k115, k119, k124, k128, k216, k256, k999, k1296, k4096, k5184, k9999, k12345, k99999, k100000, k999999999, m_2, m_10, m_999, m_9999, m_999999999, q_in, q_cl, q_mul, q_add, q_sub, q_lt, q_le, q_eq, Nat.reduceAdd, Nat.reduceMul, Nat.reduceSub, Nat.reduceLT, Nat.reduceLeDiff, Nat.reduceEqDiff, Nat.add_zero, Nat.zero_add, Nat.mul_zero, q_addm, q_addn, q_subm, q_0m, q_ngm, sky_0, she_0, sky_1, she_1, sky_2, she_2, sky_3, she_3, m_lt, m_gt, m_eq, m_eq', m_one, m_ng, m_mlt, m_meq, q_sub1, q_sub1m, ↓q_irem, mx0, q_div, lt_T, lt_F, le_T, le_F, eq_T, eq_F, not_true_eq_false, not_false_eq_true, true_and, and_true, false_and, and_false, ↓reduceIte, ↓bz_i, ↓bz_l, ↓bz_v, ↓bz_h, ↓bz_c, zs_i, zs_l, zs_v, zs_h, zs_c, zs_n, zn_i, zn_l, zn_v, zn_h, zn_c, zi_i, zi_l, zi_v, zi_h, zi_c, List.append_nil, rr_nk, if_true, if_false, ite_true, ite_false, i01, i10, i00, ite_self, true_or, or_true, or_false, false_or]
  | succ m ih =>
    intro k A hk hR hA
    have hkn : k < n := by omega
    obtain ⟨r99, s99⟩ := hRS k hkn
    have e0 := hR.1
    obtain ⟨A1, e, h1⟩ := s153 (kq := kq) (fq := fq) (L := L) (xs := xs) (J := J) (us := us) (B := B) hz d hC hR law hl k (R k) (S k) hkn r99 s99 (hA k hkn).1 (hA k hkn).2
    rw [hF k hkn] at e
    have g := h1 52 (by omega) (by omega)
    obtain ⟨A', e', h2⟩ := ih (k + 1) A1 (by omega) (hR.cg g) (fun i hi => by rw [g]; exact hA i hi)
    refine ⟨A', ?_, fun i h4 h5 => by rw [h2 i h4 h5, h1 i h4 h5]⟩
    rw [← e', x_152_4]
    simp (disch := omega) only [x_152_0, x_152_1, x_152_2, x_152_3, x_152_5, x_152_6, x_152_9, x_152_10, x_152_11, x_152_14, x_152_15, x_152_16, x_152_17, x_152_18, x_152_21, x_152_22, x_152_23, x_152_26, x_152_29, x_152_30, Hm0, Hm1, hz, e0, e, sO, k0, k1, k2, k3, k4, k5, k6, k7, k8, k9, k10, k11, k12, k13, k14, k15, k16, k20, k24, k30, k32, k46, k56, k60, k69, k88, k99, k100, k125, k255, k338, k398, k422, k17, k18, k19, k21, k22, k23, k25, k26, k27, k28, k29, k31, k33, k34, k35, k36, k37, k38, k39, k40, k41, k42, k43, k44, k45, k47, k48, k49, k50, k51, k52, k53, k54, k55, k57, k58, k59, k61, k62, k63, k64, k70, k71, k96, k109, k114, k115, k119, k124, k128, k216, k256, k999, k1296, k4096, k5184, k9999, k12345, k99999, k100000, k999999999, m_2, m_10, m_999, m_9999, m_999999999, q_in, q_cl, q_mul, q_add, q_sub, q_lt, q_le, q_eq, Nat.reduceAdd, Nat.reduceMul, Nat.reduceSub, Nat.reduceLT, Nat.reduceLeDiff, Nat.reduceEqDiff, Nat.add_zero, Nat.zero_add, Nat.mul_zero, q_addm, q_addn, q_subm, q_0m, q_ngm, sky_0, she_0, sky_1, she_1, sky_2, she_2, sky_3, she_3, m_lt, m_gt, m_eq, m_eq', m_one, m_ng, m_mlt, m_meq, q_sub1, q_sub1m, ↓q_irem, mx0, q_div, lt_T, lt_F, le_T, le_F, eq_T, eq_F, not_true_eq_false, not_false_eq_true, true_and, and_true, false_and, and_false, ↓reduceIte, ↓bz_i, ↓bz_l, ↓bz_v, ↓bz_h, ↓bz_c, zs_i, zs_l, zs_v, zs_h, zs_c, zs_n, zn_i, zn_l, zn_v, zn_h, zn_c, zi_i, zi_l, zi_v, zi_h, zi_c, List.append_nil, rr_nk, if_true, if_false, ite_true, ite_false, i01, i10, i00, ite_self, true_or, or_true, or_false, false_or]
set_option maxRecDepth 20000 in
theorem s152 (hz : 71 ≤ sz) (d : Nat) (hC : CX n nl z W D M K V A0 B0) (law : Option Nat) (hl : ∀ l, law = some l → l < nl) (R S : Nat → Nat) (hRS : ∀ i, i < n → R i ≤ 99 ∧ S i ≤ 9999) (F : Nat → Int32) (hF : ∀ i, i < n → OW z D M K V law (R i) (W i) (S i) = F i) (hR : RX n nl z W D M K V A) (hA : ∀ i, i < n → A 52 (14 + 4 * i + 1) = nI (R i) ∧ A 52 (14 + 4 * i + 2) = nI (S i)) : ∃ A', rx (d + 4) 152 0 [some (.ref 51), some (.int (lI law)), none, none] [] sz us (hp kq fq L xs A B J) = some (some (.int (sO F n)), sz, us, hp kq fq L xs A' B J) ∧ ∀ i, i ≠ 57 → i ≠ 58 → A' i = A i := by
  obtain ⟨A', e, h⟩ := lp152 (kq := kq) (fq := fq) (L := L) (xs := xs) (J := J) (us := us) (B := B) hz d hC law hl R S hRS F hF n 0 A (by omega) hR hA
  refine ⟨A', ?_, h⟩
  rw [← e]
  simp (disch := omega) only [x_152_0, x_152_1, x_152_2, x_152_3, x_152_5, x_152_6, x_152_9, x_152_10, x_152_11, x_152_14, x_152_15, x_152_16, x_152_17, x_152_18, x_152_21, x_152_22, x_152_23, x_152_26, x_152_29, x_152_30, sO, k0, k1, k2, k3, k4, k5, k6, k7, k8, k9, k10, k11, k12, k13, k14, k15, k16, k20, k24, k30, k32, k46, k56, k60, k69, k88, k99, k100, k125, k255, k338, k398, k422, k17, k18, k19, k21, k22, k23, k25, k26, k27, k28, k29, k31, k33, k34, k35, k36, k37, k38, k39, k40, k41, k42, k43, k44, k45, k47, k48, k49, k50, k51, k52, k53, k54, k55, k57, k58, k59, k61, k62, k63, k64, k70, k71, k96, k109, k114, k115, k119, k124, k128, k216, k256, k999, k1296, k4096, k5184, k9999, k12345, k99999, k100000, k999999999, m_2, m_10, m_999, m_9999, m_999999999, q_in, q_cl, q_mul, q_add, q_sub, q_lt, q_le, q_eq, Nat.reduceAdd, Nat.reduceMul, Nat.reduceSub, Nat.reduceLT, Nat.reduceLeDiff, Nat.reduceEqDiff, Nat.add_zero, Nat.zero_add, Nat.mul_zero, q_addm, q_addn, q_subm, q_0m, q_ngm, ↓reduceIte, ↓bz_i, ↓bz_l, ↓bz_v, ↓bz_h, ↓bz_c, zs_i, zs_l, zs_v, zs_h, zs_c, zs_n, zn_i, zn_l, zn_v, zn_h, zn_c, zi_i, zi_l, zi_v, zi_h, zi_c, List.append_nil, rr_nk, if_true, if_false, ite_true, ite_false, i01, i10, i00, ite_self, true_or, or_true, or_false, false_or]
set_option maxRecDepth 20000 in
set_option maxHeartbeats 2000000 in
theorem lp151 (hz : 71 ≤ sz) (d : Nat) (hC : CX n nl z W D M K V A0 B0) (law : Option Nat) (hl : ∀ l, law = some l → l < nl) (R S : Nat → Nat) (hRS : ∀ i, i < n → R i ≤ 99 ∧ S i ≤ 9999) (F : Nat → Int32) (hF : ∀ i, i < n → OW z D M K V law (R i) (W i) (S i) = F i) : ∀ (m k : Nat) (A : rrA), m + k = n → RX n nl z W D M K V A → (∀ i, i < n → A 52 (14 + 4 * i + 1) = nI (R i) ∧ A 52 (14 + 4 * i + 2) = nI (S i)) → (∀ i, i < k → A 59 i = PY F n i) → ∃ A', rx (d + 5) 151 8 [some (.ref 51), some (.int (lI law)), some (.int (sO F n)), some (.int (nI k))] [] sz us (hp kq fq L xs A B J) = some (none, sz, us, hp kq fq L xs A' B J) ∧ (∀ i, i ≠ 57 → i ≠ 58 → i ≠ 59 → A' i = A i) ∧ ∀ i, i < n → A' 59 i = PY F n i := by
  have n8 := hC.1
  intro m
  induction m with
  | zero =>
    intro k A hk hR hA hP
    have : k = n := by omega
    subst this
    refine ⟨A, ?_, fun _ _ _ _ => rfl, hP⟩
    have e0 := hR.1
    rw [x_151_8]
    simp (disch := omega) only [x_151_0, x_151_1, x_151_2, x_151_5, x_151_6, x_151_7, x_151_9, x_151_10, x_151_13, x_151_14, x_151_15, x_151_18, x_151_19, x_151_22, x_151_23, x_151_24, x_151_25, x_151_26, x_151_29, x_151_30, x_151_33, x_151_34, x_151_35, x_151_36, x_151_37, x_151_38, x_151_39, x_151_42, x_151_45, Hm0, Hm1, hz, e0, k0, k1, k2, k3, k4, k5, k6, k7, k8, k9, k10, k11, k12, k13, k14, k15, k16, k20, k24, k30, k32, k46, k56, k60, k69, k88, k99, k100, k125, k255, k338, k398, k422, k17, k18, k19, k21, k22, k23, k25, k26, k27, k28, k29, k31, k33, k34, k35, k36, k37, k38, k39, k40, k41, k42, k43, k44, k45, k47, k48, k49, k50, k51, k52, k53, k54, k55, k57, k58, k59, k61, k62, k63, k64, k70, k71, k96, k109, k114, k115, k119, k124, k128, k216, k256, k999, k1296, k4096, k5184, k9999, k12345, k99999, k100000, k999999999, m_2, m_10, m_999, m_9999, m_999999999, q_in, q_cl, q_mul, q_add, q_sub, q_lt, q_le, q_eq, Nat.reduceAdd, Nat.reduceMul, Nat.reduceSub, Nat.reduceLT, Nat.reduceLeDiff, Nat.reduceEqDiff, Nat.add_zero, Nat.zero_add, Nat.mul_zero, q_addm, q_addn, q_subm, q_0m, q_ngm, sky_0, she_0, sky_1, she_1, sky_2, she_2, sky_3, she_3, m_lt, m_gt, m_eq, m_eq', m_one, m_ng, m_mlt, m_meq, q_sub1, q_sub1m, ↓q_irem, mx0, q_div, lt_T, lt_F, le_T, le_F, eq_T, eq_F, not_true_eq_false, not_false_eq_true, true_and, and_true, false_and, and_false, ↓reduceIte, ↓bz_i, ↓bz_l, ↓bz_v, ↓bz_h, ↓bz_c, zs_i, zs_l, zs_v, zs_h, zs_c, zs_n, zn_i, zn_l, zn_v, zn_h, zn_c, zi_i, zi_l, zi_v, zi_h, zi_c, List.append_nil, rr_nk, if_true, if_false, ite_true, ite_false, i01, i10, i00, ite_self, true_or, or_true, or_false, false_or]
  | succ m ih =>
    intro k A hk hR hA hP
    have hkn : k < n := by omega
    obtain ⟨r99, s99⟩ := hRS k hkn
    have e0 := hR.1
    obtain ⟨A1, e, h1⟩ := s153 (kq := kq) (fq := fq) (L := L) (xs := xs) (J := J) (us := us) (B := B) hz (d + 1) hC hR law hl k (R k) (S k) hkn r99 s99 (hA k hkn).1 (hA k hkn).2
    rw [hF k hkn] at e
    have g := h1 52 (by omega) (by omega)
    have g0 : A1 52 0 = nI n := by rw [g]; exact e0
    have g2 : ∀ i, i ≠ 57 → i ≠ 58 → i ≠ 59 → u1 A1 59 (upd (A1 59) k (PY F n k)) i = A i := fun i h2 h3 h4 => by rw [u1_ne h4, h1 i h2 h3]
    have g3 := g2 52 (by omega) (by omega) (by omega)
    obtain ⟨A', e', h2, h3⟩ := ih (k + 1) (u1 A1 59 (upd (A1 59) k (PY F n k))) (by omega) (hR.cg g3) (fun i hi => by rw [g3]; exact hA i hi) (fun i hi => by
      rw [u1_eq]
      by_cases hik : i = k
      · subst hik; rw [upd_eq']
      · rw [upd_ne' hik, h1 59 (by omega) (by omega)]; exact hP i (by omega))
    refine ⟨A', ?_, fun i h4 h5 h6 => by rw [h2 i h4 h5 h6, g2 i h4 h5 h6], h3⟩
    rw [← e', x_151_8]
    simp (disch := omega) only [x_151_0, x_151_1, x_151_2, x_151_5, x_151_6, x_151_7, x_151_9, x_151_10, x_151_13, x_151_14, x_151_15, x_151_18, x_151_19, x_151_22, x_151_23, x_151_24, x_151_25, x_151_26, x_151_29, x_151_30, x_151_33, x_151_34, x_151_35, x_151_36, x_151_37, x_151_38, x_151_39, x_151_42, x_151_45, Hm0, Hm1, hz, e0, e, g0, PY, k0, k1, k2, k3, k4, k5, k6, k7, k8, k9, k10, k11, k12, k13, k14, k15, k16, k20, k24, k30, k32, k46, k56, k60, k69, k88, k99, k100, k125, k255, k338, k398, k422, k17, k18, k19, k21, k22, k23, k25, k26, k27, k28, k29, k31, k33, k34, k35, k36, k37, k38, k39, k40, k41, k42, k43, k44, k45, k47, k48, k49, k50, k51, k52, k53, k54, k55, k57, k58, k59, k61, k62, k63, k64, k70, k71, k96, k109, k114, k115, k119, k124, k128, k216, k256, k999, k1296, k4096, k5184, k9999, k12345, k99999, k100000, k999999999, m_2, m_10, m_999, m_9999, m_999999999, q_in, q_cl, q_mul, q_add, q_sub, q_lt, q_le, q_eq, Nat.reduceAdd, Nat.reduceMul, Nat.reduceSub, Nat.reduceLT, Nat.reduceLeDiff, Nat.reduceEqDiff, Nat.add_zero, Nat.zero_add, Nat.mul_zero, q_addm, q_addn, q_subm, q_0m, q_ngm, sky_0, she_0, sky_1, she_1, sky_2, she_2, sky_3, she_3, m_lt, m_gt, m_eq, m_eq', m_one, m_ng, m_mlt, m_meq, q_sub1, q_sub1m, ↓q_irem, mx0, q_div, lt_T, lt_F, le_T, le_F, eq_T, eq_F, not_true_eq_false, not_false_eq_true, true_and, and_true, false_and, and_false, ↓reduceIte, ↓bz_i, ↓bz_l, ↓bz_v, ↓bz_h, ↓bz_c, zs_i, zs_l, zs_v, zs_h, zs_c, zs_n, zn_i, zn_l, zn_v, zn_h, zn_c, zi_i, zi_l, zi_v, zi_h, zi_c, List.append_nil, rr_nk, if_true, if_false, ite_true, ite_false, i01, i10, i00, ite_self, true_or, or_true, or_false, false_or]
set_option maxRecDepth 20000 in
theorem s151 (hz : 71 ≤ sz) (d : Nat) (hC : CX n nl z W D M K V A0 B0) (law : Option Nat) (hl : ∀ l, law = some l → l < nl) (R S : Nat → Nat) (hRS : ∀ i, i < n → R i ≤ 99 ∧ S i ≤ 9999) (F : Nat → Int32) (hF : ∀ i, i < n → OW z D M K V law (R i) (W i) (S i) = F i) (hR : RX n nl z W D M K V A) (hA : ∀ i, i < n → A 52 (14 + 4 * i + 1) = nI (R i) ∧ A 52 (14 + 4 * i + 2) = nI (S i)) : ∃ A', rx (d + 5) 151 0 [some (.ref 51), some (.int (lI law)), none, none] [] sz us (hp kq fq L xs A B J) = some (none, sz, us, hp kq fq L xs A' B J) ∧ (∀ i, i ≠ 57 → i ≠ 58 → i ≠ 59 → A' i = A i) ∧ ∀ i, i < n → A' 59 i = PY F n i := by
  obtain ⟨A1, e1, h1⟩ := s152 (kq := kq) (fq := fq) (L := L) (xs := xs) (J := J) (us := us) (B := B) hz d hC law hl R S hRS F hF hR hA
  have g := h1 52 (by omega) (by omega)
  obtain ⟨A', e, h2, h3⟩ := lp151 (kq := kq) (fq := fq) (L := L) (xs := xs) (J := J) (us := us) (B := B) hz d hC law hl R S hRS F hF n 0 A1 (by omega) (hR.cg g) (fun i hi => by rw [g]; exact hA i hi) (fun i hi => absurd hi (by omega))
  refine ⟨A', ?_, fun i h4 h5 h6 => by rw [h2 i h4 h5 h6, h1 i h4 h5], h3⟩
  rw [← e]
  simp (disch := omega) only [x_151_0, x_151_1, x_151_2, x_151_5, x_151_6, x_151_7, x_151_9, x_151_10, x_151_13, x_151_14, x_151_15, x_151_18, x_151_19, x_151_22, x_151_23, x_151_24, x_151_25, x_151_26, x_151_29, x_151_30, x_151_33, x_151_34, x_151_35, x_151_36, x_151_37, x_151_38, x_151_39, x_151_42, x_151_45, e1, Hm0, Hm1, hz, k0, k1, k2, k3, k4, k5, k6, k7, k8, k9, k10, k11, k12, k13, k14, k15, k16, k20, k24, k30, k32, k46, k56, k60, k69, k88, k99, k100, k125, k255, k338, k398, k422, k17, k18, k19, k21, k22, k23, k25, k26, k27, k28, k29, k31, k33, k34, k35, k36, k37, k38, k39, k40, k41, k42, k43, k44, k45, k47, k48, k49, k50, k51, k52, k53, k54, k55, k57, k58, k59, k61, k62, k63, k64, k70, k71, k96, k109, k114, k115, k119, k124, k128, k216, k256, k999, k1296, k4096, k5184, k9999, k12345, k99999, k100000, k999999999, m_2, m_10, m_999, m_9999, m_999999999, q_in, q_cl, q_mul, q_add, q_sub, q_lt, q_le, q_eq, Nat.reduceAdd, Nat.reduceMul, Nat.reduceSub, Nat.reduceLT, Nat.reduceLeDiff, Nat.reduceEqDiff, Nat.add_zero, Nat.zero_add, Nat.mul_zero, q_addm, q_addn, q_subm, q_0m, q_ngm, ↓reduceIte, ↓bz_i, ↓bz_l, ↓bz_v, ↓bz_h, ↓bz_c, zs_i, zs_l, zs_v, zs_h, zs_c, zs_n, zn_i, zn_l, zn_v, zn_h, zn_c, zi_i, zi_l, zi_v, zi_h, zi_c, List.append_nil, rr_nk, if_true, if_false, ite_true, ite_false, i01, i10, i00, ite_self, true_or, or_true, or_false, false_or]
end PY1

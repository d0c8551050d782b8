/-! ===== wrong gauges ===== -/
def dN (a b : Nat) : Nat := if a ≤ b then b - a else a - b
theorem dN_c (a b : Nat) : dN a b = dN b a := by unfold dN; split <;> split <;> omega
/-- two GAUGES that can both be right -/
def gR (R : Nat → Nat) (off spr i j : Nat) : Bool := decide (dN (R i) (R j) ≤ 2 * off + spr * dN i j)
theorem gR_c {R : Nat → Nat} {off spr i j : Nat} : gR R off spr i j = gR R off spr j i := by unfold gR; rw [dN_c, dN_c i j]
theorem gR_i {R : Nat → Nat} {off spr i : Nat} : gR R off spr i i = true := by
  unfold gR dN
  rw [if_pos (Nat.le_refl _), Nat.sub_self]
  exact decide_eq_true (Nat.zero_le _)
def agf (E : Nat → Bool) : Nat → Nat
  | 0 => 0
  | k + 1 => if E k = true then agf E k ||| 2 ^ k else agf E k
theorem agf_t (E : Nat → Bool) : ∀ k j, (agf E k).testBit j = (decide (j < k) && E j)
  | 0, j => by simp [agf]
  | k + 1, j => by
    unfold agf
    by_cases h : E k = true
    · rw [if_pos h, Nat.testBit_or, agf_t E k j, Nat.testBit_two_pow]
      by_cases e : j = k
      · subst e; simp [h]
      · by_cases q : j < k
        · simp [q, show j < k + 1 by omega, show ¬ k = j by omega]
        · simp [q, show ¬ j < k + 1 by omega, show ¬ k = j by omega]
    · rw [if_neg h, agf_t E k j]
      by_cases e : j = k
      · subst e
        have : E j = false := by cases hb : E j; rfl; exact absurd hb h
        simp [this]
      · by_cases q : j < k
        · simp [q, show j < k + 1 by omega]
        · simp [q, show ¬ j < k + 1 by omega]
theorem agf_lt (E : Nat → Bool) : ∀ k, k ≤ 8 → agf E k < 256 := fun k hk => by
  apply Nat.lt_of_lt_of_le (m := 2 ^ k)
  · apply Nat.lt_pow_two_of_testBit
    intro i hi
    rw [agf_t, decide_eq_false (by omega), Bool.false_and]
  · have : 2 ^ k ≤ 2 ^ 8 := Nat.pow_le_pow_right (by omega) hk
    omega
/-- a set of GAUGES that is RIGHT -/
def RT (R : Nat → Nat) (off spr n s : Nat) : Prop := ∀ i j, i < n → j < n → s.testBit i = true → s.testBit j = true → gR R off spr i j = true
noncomputable def wst (pr : Nat → Prop) (s : Nat) (o : Option (Nat × Nat × Nat × Nat)) : Option (Nat × Nat × Nat × Nat) := @ite _ (pr s) (Classical.propDecidable _) (match o with
  | none => some (pc8 s, s, s, s)
  | some (w, l, a, b) => if pc8 s < w then some (pc8 s, s, s, s) else if pc8 s = w then some (w, l, a &&& s, b ||| s) else some (w, l, a, b)) o
noncomputable def wrn (pr : Nat → Prop) : Nat → Nat → Option (Nat × Nat × Nat × Nat) → Option (Nat × Nat × Nat × Nat)
  | 0, _, o => o
  | m + 1, s, o => wrn pr m (s + 1) (wst pr s o)
theorem nm_lt {j k : Nat} (h1 : j ≤ 2 ^ 31) (h2 : k < 2 ^ 31) : (nI k < mI j) = False := by
  refine eq_false ?_
  rw [Int32.lt_iff_toInt_lt, mI_i h1, nI_i h2]; omega
section WR
variable {sz us : Nat} {kq fq : Option Nat} {L : Nat} {xs : Nat → Int32} {A B A' B' : rrA} {J : Nat → Nat → Int64} {n off spr : Nat} {R : Nat → Nat}
theorem absd {a b : Nat} (ha : a < 2 ^ 31) (hb : b < 2 ^ 31) : (if nI 0 ≤ nI a - nI b then nI a - nI b else nI 0 - (nI a - nI b)) = nI (dN a b) := by
  unfold dN
  by_cases h : a ≤ b
  · rw [if_pos h]
    by_cases e : a = b
    · subst e
      rw [q_sub (Nat.le_refl _), Nat.sub_self, if_pos (by decide)]
    · rw [q_subm (by omega) hb, if_neg (by rw [m_ge (by omega) (by omega) (by omega)]; exact id), q_0m (by omega)]
  · rw [if_neg h, q_sub (by omega), if_pos (by rw [q_le (by omega) (by omega)]; omega)]
set_option maxRecDepth 20000 in
set_option maxHeartbeats 2000000 in
theorem lp70 (hz : 71 ≤ sz) (d : Nat) (n8 : n ≤ 8) (hR : ∀ i, i < 8 → A 3 i = nI (R i) ∧ R i ≤ 99) (e8 : B 1 8 = nI off) (e9 : B 1 9 = nI spr) (o9 : off ≤ 99) (s9 : spr ≤ 99) {i : Nat} (hi : i < n) : ∀ (m k : Nat) (l5 : Option Value), m + k = n → rx (d + 1) 70 5 [some (.ref 1), some (.int (nI i)), some (.int (nI n)), some (.int (nI (agf (gR R off spr i) k))), some (.int (nI k)), l5] [] sz us (hp kq fq L xs A B J) = some (some (.int (nI (agf (gR R off spr i) n))), sz, us, hp kq fq L xs A B J) := by
  intro m
  induction m with
  | zero =>
    intro k l5 hk
    have : k = n := by omega
    subst this
    rw [x_70_5]
    simp (disch := omega) only [x_70_0, x_70_1, x_70_2, x_70_3, x_70_7, x_70_8, x_70_11, x_70_12, x_70_15, x_70_16, x_70_17, x_70_18, x_70_21, x_70_23, x_70_24, x_70_25, x_70_28, x_70_30, x_70_32, x_70_33, x_70_34, x_70_37, x_70_38, x_70_39, x_70_42, x_70_43, x_70_45, x_70_46, x_70_49, x_70_50, x_70_51, x_70_54, x_70_55, x_70_56, x_70_58, x_70_59, x_70_60, x_70_61, x_70_64, x_70_67, x_70_68, k0, k1, k2, k3, k4, k5, k6, k7, k8, k9, k10, k11, k12, k13, k14, k15, k16, k20, k24, k30, k32, k46, k56, k60, k69, k88, k99, k100, k125, k255, k338, k398, k422, k17, k18, k19, k21, k22, k23, k25, k26, k27, k28, k29, k31, k33, k34, k35, k36, k37, k38, k39, k40, k41, k42, k43, k44, k45, k47, k48, k49, k50, k51, k52, k53, k54, k55, k57, k58, k59, k61, k62, k63, k64, k70, k71, k96, k109, k114, k115, k119, k124, k128, k216, k256, k999, k1296, k4096, k5184, k9999, k12345, k99999, k100000, k999999999, m_2, m_10, m_999, m_9999, m_999999999, q_in, q_cl, q_mul, q_add, q_sub, q_lt, q_le, q_eq, Nat.reduceAdd, Nat.reduceMul, Nat.reduceSub, Nat.reduceLT, Nat.reduceLeDiff, Nat.reduceEqDiff, Nat.add_zero, Nat.zero_add, Nat.mul_zero, q_addm, q_addn, q_subm, q_0m, q_ngm, sky_0, she_0, sky_1, she_1, sky_2, she_2, sky_3, she_3, m_lt, m_gt, m_eq, m_eq', m_one, m_ng, m_mlt, m_meq, q_sub1, q_sub1m, ↓q_irem, mx0, q_div, lt_T, lt_F, le_T, le_F, eq_T, eq_F, not_true_eq_false, not_false_eq_true, true_and, and_true, false_and, and_false, ↓reduceIte, ↓bz_i, ↓bz_l, ↓bz_v, ↓bz_h, ↓bz_c, zs_i, zs_l, zs_v, zs_h, zs_c, zs_n, zn_i, zn_l, zn_v, zn_h, zn_c, zi_i, zi_l, zi_v, zi_h, zi_c, List.append_nil, rr_nk, if_true, if_false, ite_true, ite_false, i01, i10, i00, ite_self, true_or, or_true, or_false, false_or]
  | succ m ih =>
    intro k l5 hk
    obtain ⟨eR, r9⟩ := hR i (by omega)
    obtain ⟨eK, k9'⟩ := hR k (by omega)
    have hd1 : dN (R i) (R k) ≤ 99 := by unfold dN; split <;> omega
    have hd2 : dN i k ≤ 8 := by unfold dN; split <;> omega
    have hm : spr * dN i k ≤ 99 * 8 := Nat.mul_le_mul s9 hd2
    have a1 := absd (a := R i) (b := R k) (by omega) (by omega)
    have a2 := absd (a := i) (b := k) (by omega) (by omega)
    have a1' : (if (0 : Int32) ≤ nI (R i) - nI (R k) then nI (R i) - nI (R k) else 0 - (nI (R i) - nI (R k))) = nI (dN (R i) (R k)) := a1
    have a2' : (if (0 : Int32) ≤ nI i - nI k then nI i - nI k else 0 - (nI i - nI k)) = nI (dN i k) := a2
    have e := ih (k + 1) (some (.int (nI (dN (R i) (R k))))) (by omega)
    have ea : agf (gR R off spr i) (k + 1) = if gR R off spr i k = true then agf (gR R off spr i) k ||| 2 ^ k else agf (gR R off spr i) k := rfl
    rw [← e, x_70_5, ea]
    by_cases q : dN (R i) (R k) ≤ 2 * off + spr * dN i k
    · have hg : gR R off spr i k = true := decide_eq_true q
      rw [if_pos hg]
      simp (disch := omega) only [x_70_0, x_70_1, x_70_2, x_70_3, x_70_7, x_70_8, x_70_11, x_70_12, x_70_15, x_70_16, x_70_17, x_70_18, x_70_21, x_70_23, x_70_24, x_70_25, x_70_28, x_70_30, x_70_32, x_70_33, x_70_34, x_70_37, x_70_38, x_70_39, x_70_42, x_70_43, x_70_45, x_70_46, x_70_49, x_70_50, x_70_51, x_70_54, x_70_55, x_70_56, x_70_58, x_70_59, x_70_60, x_70_61, x_70_64, x_70_67, x_70_68, Hc0, Hc1, Hc2, Hc3, Hc4, hz, eR, eK, e8, e9, ↓a1', ↓a2', a1, a2, bi_ord, k0, k1, k2, k3, k4, k5, k6, k7, k8, k9, k10, k11, k12, k13, k14, k15, k16, k20, k24, k30, k32, k46, k56, k60, k69, k88, k99, k100, k125, k255, k338, k398, k422, k17, k18, k19, k21, k22, k23, k25, k26, k27, k28, k29, k31, k33, k34, k35, k36, k37, k38, k39, k40, k41, k42, k43, k44, k45, k47, k48, k49, k50, k51, k52, k53, k54, k55, k57, k58, k59, k61, k62, k63, k64, k70, k71, k96, k109, k114, k115, k119, k124, k128, k216, k256, k999, k1296, k4096, k5184, k9999, k12345, k99999, k100000, k999999999, m_2, m_10, m_999, m_9999, m_999999999, q_in, q_cl, q_mul, q_add, q_sub, q_lt, q_le, q_eq, Nat.reduceAdd, Nat.reduceMul, Nat.reduceSub, Nat.reduceLT, Nat.reduceLeDiff, Nat.reduceEqDiff, Nat.add_zero, Nat.zero_add, Nat.mul_zero, q_addm, q_addn, q_subm, q_0m, q_ngm, sky_0, she_0, sky_1, she_1, sky_2, she_2, sky_3, she_3, m_lt, m_gt, m_eq, m_eq', m_one, m_ng, m_mlt, m_meq, q_sub1, q_sub1m, ↓q_irem, mx0, q_div, lt_T, lt_F, le_T, le_F, eq_T, eq_F, not_true_eq_false, not_false_eq_true, true_and, and_true, false_and, and_false, ↓reduceIte, ↓bz_i, ↓bz_l, ↓bz_v, ↓bz_h, ↓bz_c, zs_i, zs_l, zs_v, zs_h, zs_c, zs_n, zn_i, zn_l, zn_v, zn_h, zn_c, zi_i, zi_l, zi_v, zi_h, zi_c, List.append_nil, rr_nk, if_true, if_false, ite_true, ite_false, i01, i10, i00, ite_self, true_or, or_true, or_false, false_or]
    · have hg : ¬ gR R off spr i k = true := by unfold gR; rw [decide_eq_true_eq]; exact q
      rw [if_neg hg]
      simp (disch := omega) only [x_70_0, x_70_1, x_70_2, x_70_3, x_70_7, x_70_8, x_70_11, x_70_12, x_70_15, x_70_16, x_70_17, x_70_18, x_70_21, x_70_23, x_70_24, x_70_25, x_70_28, x_70_30, x_70_32, x_70_33, x_70_34, x_70_37, x_70_38, x_70_39, x_70_42, x_70_43, x_70_45, x_70_46, x_70_49, x_70_50, x_70_51, x_70_54, x_70_55, x_70_56, x_70_58, x_70_59, x_70_60, x_70_61, x_70_64, x_70_67, x_70_68, Hc0, Hc1, Hc2, Hc3, Hc4, hz, eR, eK, e8, e9, ↓a1', ↓a2', a1, a2, bi_ord, k0, k1, k2, k3, k4, k5, k6, k7, k8, k9, k10, k11, k12, k13, k14, k15, k16, k20, k24, k30, k32, k46, k56, k60, k69, k88, k99, k100, k125, k255, k338, k398, k422, k17, k18, k19, k21, k22, k23, k25, k26, k27, k28, k29, k31, k33, k34, k35, k36, k37, k38, k39, k40, k41, k42, k43, k44, k45, k47, k48, k49, k50, k51, k52, k53, k54, k55, k57, k58, k59, k61, k62, k63, k64, k70, k71, k96, k109, k114, k115, k119, k124, k128, k216, k256, k999, k1296, k4096, k5184, k9999, k12345, k99999, k100000, k999999999, m_2, m_10, m_999, m_9999, m_999999999, q_in, q_cl, q_mul, q_add, q_sub, q_lt, q_le, q_eq, Nat.reduceAdd, Nat.reduceMul, Nat.reduceSub, Nat.reduceLT, Nat.reduceLeDiff, Nat.reduceEqDiff, Nat.add_zero, Nat.zero_add, Nat.mul_zero, q_addm, q_addn, q_subm, q_0m, q_ngm, sky_0, she_0, sky_1, she_1, sky_2, she_2, sky_3, she_3, m_lt, m_gt, m_eq, m_eq', m_one, m_ng, m_mlt, m_meq, q_sub1, q_sub1m, ↓q_irem, mx0, q_div, lt_T, lt_F, le_T, le_F, eq_T, eq_F, not_true_eq_false, not_false_eq_true, true_and, and_true, false_and, and_false, ↓reduceIte, ↓bz_i, ↓bz_l, ↓bz_v, ↓bz_h, ↓bz_c, zs_i, zs_l, zs_v, zs_h, zs_c, zs_n, zn_i, zn_l, zn_v, zn_h, zn_c, zi_i, zi_l, zi_v, zi_h, zi_c, List.append_nil, rr_nk, if_true, if_false, ite_true, ite_false, i01, i10, i00, ite_self, true_or, or_true, or_false, false_or]
theorem alq_F {E : Nat → Bool} {k : Nat} (h : alq E k = false) : ∀ m, alq E (k + m) = false
  | 0 => h
  | m + 1 => by show (alq E (k + m) && E (k + m)) = false; rw [alq_F h m]; rfl
theorem alq_iff {E : Nat → Bool} : ∀ n, alq E n = true ↔ ∀ k, k < n → E k = true
  | 0 => ⟨fun _ k hk => absurd hk (by omega), fun _ => rfl⟩
  | n + 1 => by
    show (alq E n && E n) = true ↔ _
    rw [Bool.and_eq_true, alq_iff n]
    refine ⟨fun h k hk => ?_, fun h => ⟨fun k hk => h k (by omega), h n (by omega)⟩⟩
    by_cases e : k = n
    · subst e; exact h.2
    · exact h.1 k (by omega)
set_option maxRecDepth 20000 in
set_option maxHeartbeats 2000000 in
theorem lp71 (hz : 71 ≤ sz) (d : Nat) (n8 : n ≤ 8) {s : Nat} (hs : s < 256) {G : Nat → Nat} (hG : ∀ i, i < n → A 40 i = nI (G i)) {E : Nat → Bool} (hE : ∀ i, i < n → (E i = true ↔ (s.testBit i = true → ∀ j, s.testBit j = true → (G i).testBit j = true))) : ∀ (m k : Nat), m + k = n → rx d 71 5 [some (.ref 39), some (.int (nI s)), some (.int (nI n)), some (.int (nI (bN (alq E k)))), some (.int (nI k))] [] sz us (hp kq fq L xs A B J) = some (some (.int (nI (bN (alq E n)))), sz, us, hp kq fq L xs A B J) := by
  intro m
  induction m with
  | zero =>
    intro k hk
    have : k = n := by omega
    subst this
    rw [x_71_5]
    cases hb : alq E k <;> simp (disch := omega) only [x_71_0, x_71_1, x_71_2, x_71_3, x_71_7, x_71_8, x_71_11, x_71_12, x_71_15, x_71_16, x_71_17, x_71_19, x_71_20, x_71_21, x_71_24, x_71_25, x_71_26, x_71_29, x_71_31, x_71_32, x_71_33, x_71_34, x_71_35, x_71_38, x_71_39, x_71_42, x_71_43, x_71_44, x_71_47, x_71_50, x_71_51, bN, k0, k1, k2, k3, k4, k5, k6, k7, k8, k9, k10, k11, k12, k13, k14, k15, k16, k20, k24, k30, k32, k46, k56, k60, k69, k88, k99, k100, k125, k255, k338, k398, k422, k17, k18, k19, k21, k22, k23, k25, k26, k27, k28, k29, k31, k33, k34, k35, k36, k37, k38, k39, k40, k41, k42, k43, k44, k45, k47, k48, k49, k50, k51, k52, k53, k54, k55, k57, k58, k59, k61, k62, k63, k64, k70, k71, k96, k109, k114, k115, k119, k124, k128, k216, k256, k999, k1296, k4096, k5184, k9999, k12345, k99999, k100000, k999999999, m_2, m_10, m_999, m_9999, m_999999999, q_in, q_cl, q_mul, q_add, q_sub, q_lt, q_le, q_eq, Nat.reduceAdd, Nat.reduceMul, Nat.reduceSub, Nat.reduceLT, Nat.reduceLeDiff, Nat.reduceEqDiff, Nat.add_zero, Nat.zero_add, Nat.mul_zero, q_addm, q_addn, q_subm, q_0m, q_ngm, sky_0, she_0, sky_1, she_1, sky_2, she_2, sky_3, she_3, m_lt, m_gt, m_eq, m_eq', m_one, m_ng, m_mlt, m_meq, q_sub1, q_sub1m, ↓q_irem, mx0, q_div, lt_T, lt_F, le_T, le_F, eq_T, eq_F, not_true_eq_false, not_false_eq_true, true_and, and_true, false_and, and_false, ↓reduceIte, ↓bz_i, ↓bz_l, ↓bz_v, ↓bz_h, ↓bz_c, zs_i, zs_l, zs_v, zs_h, zs_c, zs_n, zn_i, zn_l, zn_v, zn_h, zn_c, zi_i, zi_l, zi_v, zi_h, zi_c, List.append_nil, rr_nk, if_true, if_false, ite_true, ite_false, i01, i10, i00, ite_self, true_or, or_true, or_false, false_or, if_true, if_false, Bool.false_eq_true]
  | succ m ih =>
    intro k hk
    cases hb : alq E k
    · have hn := alq_F hb (m + 1)
      rw [show k + (m + 1) = n by omega] at hn
      rw [hn, x_71_5]
      simp (disch := omega) only [x_71_0, x_71_1, x_71_2, x_71_3, x_71_7, x_71_8, x_71_11, x_71_12, x_71_15, x_71_16, x_71_17, x_71_19, x_71_20, x_71_21, x_71_24, x_71_25, x_71_26, x_71_29, x_71_31, x_71_32, x_71_33, x_71_34, x_71_35, x_71_38, x_71_39, x_71_42, x_71_43, x_71_44, x_71_47, x_71_50, x_71_51, bN, k0, k1, k2, k3, k4, k5, k6, k7, k8, k9, k10, k11, k12, k13, k14, k15, k16, k20, k24, k30, k32, k46, k56, k60, k69, k88, k99, k100, k125, k255, k338, k398, k422, k17, k18, k19, k21, k22, k23, k25, k26, k27, k28, k29, k31, k33, k34, k35, k36, k37, k38, k39, k40, k41, k42, k43, k44, k45, k47, k48, k49, k50, k51, k52, k53, k54, k55, k57, k58, k59, k61, k62, k63, k64, k70, k71, k96, k109, k114, k115, k119, k124, k128, k216, k256, k999, k1296, k4096, k5184, k9999, k12345, k99999, k100000, k999999999, m_2, m_10, m_999, m_9999, m_999999999, q_in, q_cl, q_mul, q_add, q_sub, q_lt, q_le, q_eq, Nat.reduceAdd, Nat.reduceMul, Nat.reduceSub, Nat.reduceLT, Nat.reduceLeDiff, Nat.reduceEqDiff, Nat.add_zero, Nat.zero_add, Nat.mul_zero, q_addm, q_addn, q_subm, q_0m, q_ngm, sky_0, she_0, sky_1, she_1, sky_2, she_2, sky_3, she_3, m_lt, m_gt, m_eq, m_eq', m_one, m_ng, m_mlt, m_meq, q_sub1, q_sub1m, ↓q_irem, mx0, q_div, lt_T, lt_F, le_T, le_F, eq_T, eq_F, not_true_eq_false, not_false_eq_true, true_and, and_true, false_and, and_false, ↓reduceIte, ↓bz_i, ↓bz_l, ↓bz_v, ↓bz_h, ↓bz_c, zs_i, zs_l, zs_v, zs_h, zs_c, zs_n, zn_i, zn_l, zn_v, zn_h, zn_c, zi_i, zi_l, zi_v, zi_h, zi_c, List.append_nil, rr_nk, if_true, if_false, ite_true, ite_false, i01, i10, i00, ite_self, true_or, or_true, or_false, false_or, Bool.false_eq_true, if_false]
    · have hGk := hG k (by omega)
      have h1 := hE k (by omega)
      have hk8 : k < 8 := by omega
      have ea : alq E (k + 1) = E k := by show (alq E k && E k) = E k; rw [hb]; rfl
      rw [← ih (k + 1) (by omega), ea, x_71_5]
      have ht := bi_t0 (s := s) hk8
      have hsb := bi_sub (s := s) (a := G k) hs
      cases htb : s.testBit k
      · rw [htb] at h1 ht
        have hEk : E k = true := h1.mpr (fun q => by cases q)
        have ht' : nI s &&& nI 1 <<< (nI k &&& nI 31) = nI 0 := by rw [ht]
        rw [hEk]
        simp (disch := omega) only [x_71_0, x_71_1, x_71_2, x_71_3, x_71_7, x_71_8, x_71_11, x_71_12, x_71_15, x_71_16, x_71_17, x_71_19, x_71_20, x_71_21, x_71_24, x_71_25, x_71_26, x_71_29, x_71_31, x_71_32, x_71_33, x_71_34, x_71_35, x_71_38, x_71_39, x_71_42, x_71_43, x_71_44, x_71_47, x_71_50, x_71_51, Hc0, Hc1, Hc2, Hc3, Hc4, hz, ht', bN, k0, k1, k2, k3, k4, k5, k6, k7, k8, k9, k10, k11, k12, k13, k14, k15, k16, k20, k24, k30, k32, k46, k56, k60, k69, k88, k99, k100, k125, k255, k338, k398, k422, k17, k18, k19, k21, k22, k23, k25, k26, k27, k28, k29, k31, k33, k34, k35, k36, k37, k38, k39, k40, k41, k42, k43, k44, k45, k47, k48, k49, k50, k51, k52, k53, k54, k55, k57, k58, k59, k61, k62, k63, k64, k70, k71, k96, k109, k114, k115, k119, k124, k128, k216, k256, k999, k1296, k4096, k5184, k9999, k12345, k99999, k100000, k999999999, m_2, m_10, m_999, m_9999, m_999999999, q_in, q_cl, q_mul, q_add, q_sub, q_lt, q_le, q_eq, Nat.reduceAdd, Nat.reduceMul, Nat.reduceSub, Nat.reduceLT, Nat.reduceLeDiff, Nat.reduceEqDiff, Nat.add_zero, Nat.zero_add, Nat.mul_zero, q_addm, q_addn, q_subm, q_0m, q_ngm, sky_0, she_0, sky_1, she_1, sky_2, she_2, sky_3, she_3, m_lt, m_gt, m_eq, m_eq', m_one, m_ng, m_mlt, m_meq, q_sub1, q_sub1m, ↓q_irem, mx0, q_div, lt_T, lt_F, le_T, le_F, eq_T, eq_F, not_true_eq_false, not_false_eq_true, true_and, and_true, false_and, and_false, ↓reduceIte, ↓bz_i, ↓bz_l, ↓bz_v, ↓bz_h, ↓bz_c, zs_i, zs_l, zs_v, zs_h, zs_c, zs_n, zn_i, zn_l, zn_v, zn_h, zn_c, zi_i, zi_l, zi_v, zi_h, zi_c, List.append_nil, rr_nk, if_true, if_false, ite_true, ite_false, i01, i10, i00, ite_self, true_or, or_true, or_false, false_or, if_true, Bool.false_eq_true]
      · rw [htb] at h1 ht
        have ht' : ¬ nI s &&& nI 1 <<< (nI k &&& nI 31) = nI 0 := by rw [ht]; intro q; cases q
        cases hEk : E k
        · have hx : ¬ (nI s &&& (nI (G k) ^^^ mI 1)) = nI 0 := by
            rw [hsb]; intro q
            rw [h1.mpr (fun _ => q)] at hEk; cases hEk
          simp (disch := omega) only [x_71_0, x_71_1, x_71_2, x_71_3, x_71_7, x_71_8, x_71_11, x_71_12, x_71_15, x_71_16, x_71_17, x_71_19, x_71_20, x_71_21, x_71_24, x_71_25, x_71_26, x_71_29, x_71_31, x_71_32, x_71_33, x_71_34, x_71_35, x_71_38, x_71_39, x_71_42, x_71_43, x_71_44, x_71_47, x_71_50, x_71_51, Hc0, Hc1, Hc2, Hc3, Hc4, hz, ht', hGk, m_one, hx, bN, k0, k1, k2, k3, k4, k5, k6, k7, k8, k9, k10, k11, k12, k13, k14, k15, k16, k20, k24, k30, k32, k46, k56, k60, k69, k88, k99, k100, k125, k255, k338, k398, k422, k17, k18, k19, k21, k22, k23, k25, k26, k27, k28, k29, k31, k33, k34, k35, k36, k37, k38, k39, k40, k41, k42, k43, k44, k45, k47, k48, k49, k50, k51, k52, k53, k54, k55, k57, k58, k59, k61, k62, k63, k64, k70, k71, k96, k109, k114, k115, k119, k124, k128, k216, k256, k999, k1296, k4096, k5184, k9999, k12345, k99999, k100000, k999999999, m_2, m_10, m_999, m_9999, m_999999999, q_in, q_cl, q_mul, q_add, q_sub, q_lt, q_le, q_eq, Nat.reduceAdd, Nat.reduceMul, Nat.reduceSub, Nat.reduceLT, Nat.reduceLeDiff, Nat.reduceEqDiff, Nat.add_zero, Nat.zero_add, Nat.mul_zero, q_addm, q_addn, q_subm, q_0m, q_ngm, sky_0, she_0, sky_1, she_1, sky_2, she_2, sky_3, she_3, m_lt, m_gt, m_eq, m_eq', m_one, m_ng, m_mlt, m_meq, q_sub1, q_sub1m, ↓q_irem, mx0, q_div, lt_T, lt_F, le_T, le_F, eq_T, eq_F, not_true_eq_false, not_false_eq_true, true_and, and_true, false_and, and_false, ↓reduceIte, ↓bz_i, ↓bz_l, ↓bz_v, ↓bz_h, ↓bz_c, zs_i, zs_l, zs_v, zs_h, zs_c, zs_n, zn_i, zn_l, zn_v, zn_h, zn_c, zi_i, zi_l, zi_v, zi_h, zi_c, List.append_nil, rr_nk, if_true, if_false, ite_true, ite_false, i01, i10, i00, ite_self, true_or, or_true, or_false, false_or, if_true, if_false, Bool.false_eq_true]
        · have hx : (nI s &&& (nI (G k) ^^^ mI 1)) = nI 0 := by
            rw [hsb]; exact h1.mp hEk rfl
          simp (disch := omega) only [x_71_0, x_71_1, x_71_2, x_71_3, x_71_7, x_71_8, x_71_11, x_71_12, x_71_15, x_71_16, x_71_17, x_71_19, x_71_20, x_71_21, x_71_24, x_71_25, x_71_26, x_71_29, x_71_31, x_71_32, x_71_33, x_71_34, x_71_35, x_71_38, x_71_39, x_71_42, x_71_43, x_71_44, x_71_47, x_71_50, x_71_51, Hc0, Hc1, Hc2, Hc3, Hc4, hz, ht', hGk, m_one, hx, bN, k0, k1, k2, k3, k4, k5, k6, k7, k8, k9, k10, k11, k12, k13, k14, k15, k16, k20, k24, k30, k32, k46, k56, k60, k69, k88, k99, k100, k125, k255, k338, k398, k422, k17, k18, k19, k21, k22, k23, k25, k26, k27, k28, k29, k31, k33, k34, k35, k36, k37, k38, k39, k40, k41, k42, k43, k44, k45, k47, k48, k49, k50, k51, k52, k53, k54, k55, k57, k58, k59, k61, k62, k63, k64, k70, k71, k96, k109, k114, k115, k119, k124, k128, k216, k256, k999, k1296, k4096, k5184, k9999, k12345, k99999, k100000, k999999999, m_2, m_10, m_999, m_9999, m_999999999, q_in, q_cl, q_mul, q_add, q_sub, q_lt, q_le, q_eq, Nat.reduceAdd, Nat.reduceMul, Nat.reduceSub, Nat.reduceLT, Nat.reduceLeDiff, Nat.reduceEqDiff, Nat.add_zero, Nat.zero_add, Nat.mul_zero, q_addm, q_addn, q_subm, q_0m, q_ngm, sky_0, she_0, sky_1, she_1, sky_2, she_2, sky_3, she_3, m_lt, m_gt, m_eq, m_eq', m_one, m_ng, m_mlt, m_meq, q_sub1, q_sub1m, ↓q_irem, mx0, q_div, lt_T, lt_F, le_T, le_F, eq_T, eq_F, not_true_eq_false, not_false_eq_true, true_and, and_true, false_and, and_false, ↓reduceIte, ↓bz_i, ↓bz_l, ↓bz_v, ↓bz_h, ↓bz_c, zs_i, zs_l, zs_v, zs_h, zs_c, zs_n, zn_i, zn_l, zn_v, zn_h, zn_c, zi_i, zi_l, zi_v, zi_h, zi_c, List.append_nil, rr_nk, if_true, if_false, ite_true, ite_false, i01, i10, i00, ite_self, true_or, or_true, or_false, false_or, if_true, if_false, Bool.false_eq_true]
/-! the reference -/
def fob (E : Nat → Bool) : Nat → Nat → Bool → Bool
  | 0, _, s => s
  | m + 1, b, s => fob E m (b + 1) (s && E b)
def foo (E : Nat → Nat → Bool) (n : Nat) : Nat → Nat → Bool → Bool
  | 0, _, s => s
  | m + 1, a, s => foo E n m (a + 1) (fob (E a) (n - (a + 1)) (a + 1) s)
theorem fob_iff {E : Nat → Bool} : ∀ m b s, fob E m b s = true ↔ s = true ∧ ∀ k, b ≤ k → k < b + m → E k = true
  | 0, b, s => ⟨fun h => ⟨h, fun k h1 h2 => absurd h2 (by omega)⟩, fun h => h.1⟩
  | m + 1, b, s => by
    show fob E m (b + 1) (s && E b) = true ↔ _
    rw [fob_iff m (b + 1), Bool.and_eq_true]
    refine ⟨fun h => ⟨h.1.1, fun k h1 h2 => ?_⟩, fun h => ⟨⟨h.1, h.2 b (by omega) (by omega)⟩, fun k h1 h2 => h.2 k (by omega) (by omega)⟩⟩
    by_cases e : k = b
    · subst e; exact h.1.2
    · exact h.2 k (by omega) (by omega)
theorem foo_iff {E : Nat → Nat → Bool} {n : Nat} : ∀ m a s, m + a = n → (foo E n m a s = true ↔ s = true ∧ ∀ i j, a ≤ i → i < j → j < n → E i j = true)
  | 0, a, s, h => ⟨fun q => ⟨q, fun i j h1 h2 h3 => by omega⟩, fun q => q.1⟩
  | m + 1, a, s, h => by
    show foo E n m (a + 1) (fob (E a) (n - (a + 1)) (a + 1) s) = true ↔ _
    rw [foo_iff m (a + 1) _ (by omega), fob_iff]
    refine ⟨fun q => ⟨q.1.1, fun i j h1 h2 h3 => ?_⟩, fun q => ⟨⟨q.1, fun k h1 h2 => q.2 a k (by omega) (by omega) (by omega)⟩, fun i j h1 h2 h3 => q.2 i j (by omega) h2 h3⟩⟩
    by_cases e : i = a
    · subst e; exact q.1.2 j (by omega) (by omega)
    · exact q.2 i j (by omega) h2 h3
def gE (R : Nat → Nat) (off spr s i j : Nat) : Bool := !(s.testBit i && s.testBit j) || gR R off spr i j
set_option maxRecDepth 20000 in
set_option maxHeartbeats 4000000 in
theorem lp181i (hz : 71 ≤ sz) (d : Nat) (n8 : n ≤ 8) (e0 : A 52 0 = nI n) (hR : ∀ i, i < 8 → A 52 (14 + 4 * i + 1) = nI (R i) ∧ R i ≤ 99) (e4 : A 52 4 = nI off) (e5 : A 52 5 = nI spr) (o9 : off ≤ 99) (s9 : spr ≤ 99) {s : Nat} (hs : s < 256) {a : Nat} (ha : a < n) : ∀ (m b : Nat) (st : Bool) (l5 l6 l7 : Option Value), m + b = n → a < b → ∃ l5' l6' l7', rx (d + 1) 181 19 [some (.ref 51), some (.int (nI s)), some (.int (nI (bN st))), some (.int (nI a)), some (.int (nI b)), l5, l6, l7] [] sz us (hp kq fq L xs A B J) = rx (d + 1) 181 128 [some (.ref 51), some (.int (nI s)), some (.int (nI (bN (fob (gE R off spr s a) m b st)))), some (.int (nI a)), some (.int (nI n)), l5', l6', l7'] [] sz us (hp kq fq L xs A B J) := by
  intro m
  induction m with
  | zero =>
    intro b st l5 l6 l7 hb hab
    have : b = n := by omega
    subst this
    refine ⟨l5, l6, l7, ?_⟩
    rw [x_181_19]
    simp (disch := omega) only [x_181_0, x_181_1, x_181_2, x_181_3, x_181_4, x_181_5, x_181_6, x_181_9, x_181_10, x_181_11, x_181_14, x_181_15, x_181_16, x_181_17, x_181_21, x_181_22, x_181_25, x_181_26, x_181_27, x_181_30, x_181_31, x_181_32, x_181_33, x_181_36, x_181_37, x_181_39, x_181_40, x_181_43, x_181_44, x_181_46, x_181_47, x_181_48, x_181_51, x_181_52, x_181_53, x_181_54, x_181_55, x_181_58, x_181_59, x_181_60, x_181_62, x_181_63, x_181_64, x_181_65, x_181_66, x_181_68, x_181_69, x_181_70, x_181_71, x_181_72, x_181_73, x_181_74, x_181_77, x_181_78, x_181_80, x_181_81, x_181_82, x_181_83, x_181_84, x_181_87, x_181_88, x_181_91, x_181_92, x_181_94, x_181_95, x_181_98, x_181_100, x_181_103, x_181_105, x_181_107, x_181_108, x_181_110, x_181_113, x_181_116, x_181_117, x_181_120, x_181_121, x_181_122, x_181_125, x_181_131, x_181_134, x_181_135, Hm0, Hm1, hz, e0, fob, k0, k1, k2, k3, k4, k5, k6, k7, k8, k9, k10, k11, k12, k13, k14, k15, k16, k20, k24, k30, k32, k46, k56, k60, k69, k88, k99, k100, k125, k255, k338, k398, k422, k17, k18, k19, k21, k22, k23, k25, k26, k27, k28, k29, k31, k33, k34, k35, k36, k37, k38, k39, k40, k41, k42, k43, k44, k45, k47, k48, k49, k50, k51, k52, k53, k54, k55, k57, k58, k59, k61, k62, k63, k64, k70, k71, k96, k109, k114, k115, k119, k124, k128, k216, k256, k999, k1296, k4096, k5184, k9999, k12345, k99999, k100000, k999999999, m_2, m_10, m_999, m_9999, m_999999999, q_in, q_cl, q_mul, q_add, q_sub, q_lt, q_le, q_eq, Nat.reduceAdd, Nat.reduceMul, Nat.reduceSub, Nat.reduceLT, Nat.reduceLeDiff, Nat.reduceEqDiff, Nat.add_zero, Nat.zero_add, Nat.mul_zero, q_addm, q_addn, q_subm, q_0m, q_ngm, sky_0, she_0, sky_1, she_1, sky_2, she_2, sky_3, she_3, m_lt, m_gt, m_eq, m_eq', m_one, m_ng, m_mlt, m_meq, q_sub1, q_sub1m, ↓q_irem, mx0, q_div, lt_T, lt_F, le_T, le_F, eq_T, eq_F, not_true_eq_false, not_false_eq_true, true_and, and_true, false_and, and_false, ↓reduceIte, ↓bz_i, ↓bz_l, ↓bz_v, ↓bz_h, ↓bz_c, zs_i, zs_l, zs_v, zs_h, zs_c, zs_n, zn_i, zn_l, zn_v, zn_h, zn_c, zi_i, zi_l, zi_v, zi_h, zi_c, List.append_nil, rr_nk, if_true, if_false, ite_true, ite_false, i01, i10, i00, ite_self, true_or, or_true, or_false, false_or]
  | succ m ih =>
    intro b st l5 l6 l7 hb hab
    obtain ⟨eA, a9⟩ := hR a (by omega)
    obtain ⟨eB, b9⟩ := hR b (by omega)
    have hm : spr * (b - a) ≤ 99 * 8 := Nat.mul_le_mul s9 (by omega)
    have ta := bi_shr s hs a (by omega)
    have tb := bi_shr s hs b (by omega)
    have hdn : dN a b = b - a := if_pos (by omega)
    obtain ⟨M, hM⟩ : ∃ M, 2 * off + spr * (b - a) = M := ⟨_, rfl⟩
    obtain ⟨l5', l6', l7', e⟩ := ih (b + 1) (st && gE R off spr s a b) (some (.int (nI (R a) - nI (R b)))) (some (.int (nI M))) (some (.int (nI (bN (s.testBit a && s.testBit b))))) (by omega) (by omega)
    refine ⟨l5', l6', l7', Eq.trans ?_ e⟩
    rw [x_181_19]
    have hM9 : M ≤ 1000 := by omega
    by_cases hg : dN (R a) (R b) ≤ M
    · have hgE : gE R off spr s a b = true := by unfold gE gR; rw [hdn, hM, decide_eq_true hg, Bool.or_true]
      rw [hgE, Bool.and_true]
      unfold dN at hg
      by_cases q : R a ≤ R b
      · rw [if_pos q] at hg
        by_cases q2 : R a = R b
        · rw [q2] at eA ⊢
          cases h1 : s.testBit a <;> cases h2 : s.testBit b <;> cases st <;> (rw [h1] at ta; rw [h2] at tb; simp (disch := omega) only [x_181_0, x_181_1, x_181_2, x_181_3, x_181_4, x_181_5, x_181_6, x_181_9, x_181_10, x_181_11, x_181_14, x_181_15, x_181_16, x_181_17, x_181_21, x_181_22, x_181_25, x_181_26, x_181_27, x_181_30, x_181_31, x_181_32, x_181_33, x_181_36, x_181_37, x_181_39, x_181_40, x_181_43, x_181_44, x_181_46, x_181_47, x_181_48, x_181_51, x_181_52, x_181_53, x_181_54, x_181_55, x_181_58, x_181_59, x_181_60, x_181_62, x_181_63, x_181_64, x_181_65, x_181_66, x_181_68, x_181_69, x_181_70, x_181_71, x_181_72, x_181_73, x_181_74, x_181_77, x_181_78, x_181_80, x_181_81, x_181_82, x_181_83, x_181_84, x_181_87, x_181_88, x_181_91, x_181_92, x_181_94, x_181_95, x_181_98, x_181_100, x_181_103, x_181_105, x_181_107, x_181_108, x_181_110, x_181_113, x_181_116, x_181_117, x_181_120, x_181_121, x_181_122, x_181_125, x_181_131, x_181_134, x_181_135, x_154_0, x_154_1, x_154_4, x_154_6, x_154_7, x_154_8, x_154_9, x_154_10, x_154_11, x_154_12, x_154_13, x_132_0, x_132_1, x_132_2, x_132_5, x_132_6, x_132_7, x_132_10, x_132_11, x_132_14, x_132_15, Hm0, Hm1, hz, e0, eA, eB, e4, e5, ta, tb, hM, bN, k0, k1, k2, k3, k4, k5, k6, k7, k8, k9, k10, k11, k12, k13, k14, k15, k16, k20, k24, k30, k32, k46, k56, k60, k69, k88, k99, k100, k125, k255, k338, k398, k422, k17, k18, k19, k21, k22, k23, k25, k26, k27, k28, k29, k31, k33, k34, k35, k36, k37, k38, k39, k40, k41, k42, k43, k44, k45, k47, k48, k49, k50, k51, k52, k53, k54, k55, k57, k58, k59, k61, k62, k63, k64, k70, k71, k96, k109, k114, k115, k119, k124, k128, k216, k256, k999, k1296, k4096, k5184, k9999, k12345, k99999, k100000, k999999999, m_2, m_10, m_999, m_9999, m_999999999, q_in, q_cl, q_mul, q_add, q_sub, q_lt, q_le, q_eq, Nat.reduceAdd, Nat.reduceMul, Nat.reduceSub, Nat.reduceLT, Nat.reduceLeDiff, Nat.reduceEqDiff, Nat.add_zero, Nat.zero_add, Nat.mul_zero, q_addm, q_addn, q_subm, q_0m, q_ngm, sky_0, she_0, sky_1, she_1, sky_2, she_2, sky_3, she_3, m_lt, m_gt, m_eq, m_eq', m_one, m_ng, m_mlt, m_meq, q_sub1, q_sub1m, ↓q_irem, mx0, q_div, lt_T, lt_F, le_T, le_F, eq_T, eq_F, not_true_eq_false, not_false_eq_true, true_and, and_true, false_and, and_false, ↓reduceIte, ↓bz_i, ↓bz_l, ↓bz_v, ↓bz_h, ↓bz_c, zs_i, zs_l, zs_v, zs_h, zs_c, zs_n, zn_i, zn_l, zn_v, zn_h, zn_c, zi_i, zi_l, zi_v, zi_h, zi_c, List.append_nil, rr_nk, if_true, if_false, ite_true, ite_false, i01, i10, i00, ite_self, true_or, or_true, or_false, false_or, Nat.sub_self, if_true, if_false, Bool.false_eq_true, Bool.and_true, Bool.and_false, Bool.true_and, Bool.false_and, nm_lt])
        · cases h1 : s.testBit a <;> cases h2 : s.testBit b <;> cases st <;> (rw [h1] at ta; rw [h2] at tb; simp (disch := omega) only [x_181_0, x_181_1, x_181_2, x_181_3, x_181_4, x_181_5, x_181_6, x_181_9, x_181_10, x_181_11, x_181_14, x_181_15, x_181_16, x_181_17, x_181_21, x_181_22, x_181_25, x_181_26, x_181_27, x_181_30, x_181_31, x_181_32, x_181_33, x_181_36, x_181_37, x_181_39, x_181_40, x_181_43, x_181_44, x_181_46, x_181_47, x_181_48, x_181_51, x_181_52, x_181_53, x_181_54, x_181_55, x_181_58, x_181_59, x_181_60, x_181_62, x_181_63, x_181_64, x_181_65, x_181_66, x_181_68, x_181_69, x_181_70, x_181_71, x_181_72, x_181_73, x_181_74, x_181_77, x_181_78, x_181_80, x_181_81, x_181_82, x_181_83, x_181_84, x_181_87, x_181_88, x_181_91, x_181_92, x_181_94, x_181_95, x_181_98, x_181_100, x_181_103, x_181_105, x_181_107, x_181_108, x_181_110, x_181_113, x_181_116, x_181_117, x_181_120, x_181_121, x_181_122, x_181_125, x_181_131, x_181_134, x_181_135, x_154_0, x_154_1, x_154_4, x_154_6, x_154_7, x_154_8, x_154_9, x_154_10, x_154_11, x_154_12, x_154_13, x_132_0, x_132_1, x_132_2, x_132_5, x_132_6, x_132_7, x_132_10, x_132_11, x_132_14, x_132_15, Hm0, Hm1, hz, e0, eA, eB, e4, e5, ta, tb, hM, bN, k0, k1, k2, k3, k4, k5, k6, k7, k8, k9, k10, k11, k12, k13, k14, k15, k16, k20, k24, k30, k32, k46, k56, k60, k69, k88, k99, k100, k125, k255, k338, k398, k422, k17, k18, k19, k21, k22, k23, k25, k26, k27, k28, k29, k31, k33, k34, k35, k36, k37, k38, k39, k40, k41, k42, k43, k44, k45, k47, k48, k49, k50, k51, k52, k53, k54, k55, k57, k58, k59, k61, k62, k63, k64, k70, k71, k96, k109, k114, k115, k119, k124, k128, k216, k256, k999, k1296, k4096, k5184, k9999, k12345, k99999, k100000, k999999999, m_2, m_10, m_999, m_9999, m_999999999, q_in, q_cl, q_mul, q_add, q_sub, q_lt, q_le, q_eq, Nat.reduceAdd, Nat.reduceMul, Nat.reduceSub, Nat.reduceLT, Nat.reduceLeDiff, Nat.reduceEqDiff, Nat.add_zero, Nat.zero_add, Nat.mul_zero, q_addm, q_addn, q_subm, q_0m, q_ngm, sky_0, she_0, sky_1, she_1, sky_2, she_2, sky_3, she_3, m_lt, m_gt, m_eq, m_eq', m_one, m_ng, m_mlt, m_meq, q_sub1, q_sub1m, ↓q_irem, mx0, q_div, lt_T, lt_F, le_T, le_F, eq_T, eq_F, not_true_eq_false, not_false_eq_true, true_and, and_true, false_and, and_false, ↓reduceIte, ↓bz_i, ↓bz_l, ↓bz_v, ↓bz_h, ↓bz_c, zs_i, zs_l, zs_v, zs_h, zs_c, zs_n, zn_i, zn_l, zn_v, zn_h, zn_c, zi_i, zi_l, zi_v, zi_h, zi_c, List.append_nil, rr_nk, if_true, if_false, ite_true, ite_false, i01, i10, i00, ite_self, true_or, or_true, or_false, false_or, if_true, if_false, Bool.false_eq_true, Bool.and_true, Bool.and_false, Bool.true_and, Bool.false_and, m_gt])
      · rw [if_neg q] at hg
        cases h1 : s.testBit a <;> cases h2 : s.testBit b <;> cases st <;> (rw [h1] at ta; rw [h2] at tb; simp (disch := omega) only [x_181_0, x_181_1, x_181_2, x_181_3, x_181_4, x_181_5, x_181_6, x_181_9, x_181_10, x_181_11, x_181_14, x_181_15, x_181_16, x_181_17, x_181_21, x_181_22, x_181_25, x_181_26, x_181_27, x_181_30, x_181_31, x_181_32, x_181_33, x_181_36, x_181_37, x_181_39, x_181_40, x_181_43, x_181_44, x_181_46, x_181_47, x_181_48, x_181_51, x_181_52, x_181_53, x_181_54, x_181_55, x_181_58, x_181_59, x_181_60, x_181_62, x_181_63, x_181_64, x_181_65, x_181_66, x_181_68, x_181_69, x_181_70, x_181_71, x_181_72, x_181_73, x_181_74, x_181_77, x_181_78, x_181_80, x_181_81, x_181_82, x_181_83, x_181_84, x_181_87, x_181_88, x_181_91, x_181_92, x_181_94, x_181_95, x_181_98, x_181_100, x_181_103, x_181_105, x_181_107, x_181_108, x_181_110, x_181_113, x_181_116, x_181_117, x_181_120, x_181_121, x_181_122, x_181_125, x_181_131, x_181_134, x_181_135, x_154_0, x_154_1, x_154_4, x_154_6, x_154_7, x_154_8, x_154_9, x_154_10, x_154_11, x_154_12, x_154_13, x_132_0, x_132_1, x_132_2, x_132_5, x_132_6, x_132_7, x_132_10, x_132_11, x_132_14, x_132_15, Hm0, Hm1, hz, e0, eA, eB, e4, e5, ta, tb, hM, bN, k0, k1, k2, k3, k4, k5, k6, k7, k8, k9, k10, k11, k12, k13, k14, k15, k16, k20, k24, k30, k32, k46, k56, k60, k69, k88, k99, k100, k125, k255, k338, k398, k422, k17, k18, k19, k21, k22, k23, k25, k26, k27, k28, k29, k31, k33, k34, k35, k36, k37, k38, k39, k40, k41, k42, k43, k44, k45, k47, k48, k49, k50, k51, k52, k53, k54, k55, k57, k58, k59, k61, k62, k63, k64, k70, k71, k96, k109, k114, k115, k119, k124, k128, k216, k256, k999, k1296, k4096, k5184, k9999, k12345, k99999, k100000, k999999999, m_2, m_10, m_999, m_9999, m_999999999, q_in, q_cl, q_mul, q_add, q_sub, q_lt, q_le, q_eq, Nat.reduceAdd, Nat.reduceMul, Nat.reduceSub, Nat.reduceLT, Nat.reduceLeDiff, Nat.reduceEqDiff, Nat.add_zero, Nat.zero_add, Nat.mul_zero, q_addm, q_addn, q_subm, q_0m, q_ngm, sky_0, she_0, sky_1, she_1, sky_2, she_2, sky_3, she_3, m_lt, m_gt, m_eq, m_eq', m_one, m_ng, m_mlt, m_meq, q_sub1, q_sub1m, ↓q_irem, mx0, q_div, lt_T, lt_F, le_T, le_F, eq_T, eq_F, not_true_eq_false, not_false_eq_true, true_and, and_true, false_and, and_false, ↓reduceIte, ↓bz_i, ↓bz_l, ↓bz_v, ↓bz_h, ↓bz_c, zs_i, zs_l, zs_v, zs_h, zs_c, zs_n, zn_i, zn_l, zn_v, zn_h, zn_c, zi_i, zi_l, zi_v, zi_h, zi_c, List.append_nil, rr_nk, if_true, if_false, ite_true, ite_false, i01, i10, i00, ite_self, true_or, or_true, or_false, false_or, if_true, if_false, Bool.false_eq_true, Bool.and_true, Bool.and_false, Bool.true_and, Bool.false_and, nm_lt])
    · have hgR : gR R off spr a b = false := by unfold gR; rw [hdn, hM, decide_eq_false hg]
      have hgE : gE R off spr s a b = !(s.testBit a && s.testBit b) := by unfold gE; rw [hgR, Bool.or_false]
      rw [hgE]
      unfold dN at hg
      by_cases q : R a ≤ R b
      · rw [if_pos q] at hg
        cases h1 : s.testBit a <;> cases h2 : s.testBit b <;> cases st <;> (rw [h1] at ta; rw [h2] at tb; simp (disch := omega) only [x_181_0, x_181_1, x_181_2, x_181_3, x_181_4, x_181_5, x_181_6, x_181_9, x_181_10, x_181_11, x_181_14, x_181_15, x_181_16, x_181_17, x_181_21, x_181_22, x_181_25, x_181_26, x_181_27, x_181_30, x_181_31, x_181_32, x_181_33, x_181_36, x_181_37, x_181_39, x_181_40, x_181_43, x_181_44, x_181_46, x_181_47, x_181_48, x_181_51, x_181_52, x_181_53, x_181_54, x_181_55, x_181_58, x_181_59, x_181_60, x_181_62, x_181_63, x_181_64, x_181_65, x_181_66, x_181_68, x_181_69, x_181_70, x_181_71, x_181_72, x_181_73, x_181_74, x_181_77, x_181_78, x_181_80, x_181_81, x_181_82, x_181_83, x_181_84, x_181_87, x_181_88, x_181_91, x_181_92, x_181_94, x_181_95, x_181_98, x_181_100, x_181_103, x_181_105, x_181_107, x_181_108, x_181_110, x_181_113, x_181_116, x_181_117, x_181_120, x_181_121, x_181_122, x_181_125, x_181_131, x_181_134, x_181_135, x_154_0, x_154_1, x_154_4, x_154_6, x_154_7, x_154_8, x_154_9, x_154_10, x_154_11, x_154_12, x_154_13, x_132_0, x_132_1, x_132_2, x_132_5, x_132_6, x_132_7, x_132_10, x_132_11, x_132_14, x_132_15, Hm0, Hm1, hz, e0, eA, eB, e4, e5, ta, tb, hM, bN, k0, k1, k2, k3, k4, k5, k6, k7, k8, k9, k10, k11, k12, k13, k14, k15, k16, k20, k24, k30, k32, k46, k56, k60, k69, k88, k99, k100, k125, k255, k338, k398, k422, k17, k18, k19, k21, k22, k23, k25, k26, k27, k28, k29, k31, k33, k34, k35, k36, k37, k38, k39, k40, k41, k42, k43, k44, k45, k47, k48, k49, k50, k51, k52, k53, k54, k55, k57, k58, k59, k61, k62, k63, k64, k70, k71, k96, k109, k114, k115, k119, k124, k128, k216, k256, k999, k1296, k4096, k5184, k9999, k12345, k99999, k100000, k999999999, m_2, m_10, m_999, m_9999, m_999999999, q_in, q_cl, q_mul, q_add, q_sub, q_lt, q_le, q_eq, Nat.reduceAdd, Nat.reduceMul, Nat.reduceSub, Nat.reduceLT, Nat.reduceLeDiff, Nat.reduceEqDiff, Nat.add_zero, Nat.zero_add, Nat.mul_zero, q_addm, q_addn, q_subm, q_0m, q_ngm, sky_0, she_0, sky_1, she_1, sky_2, she_2, sky_3, she_3, m_lt, m_gt, m_eq, m_eq', m_one, m_ng, m_mlt, m_meq, q_sub1, q_sub1m, ↓q_irem, mx0, q_div, lt_T, lt_F, le_T, le_F, eq_T, eq_F, not_true_eq_false, not_false_eq_true, true_and, and_true, false_and, and_false, ↓reduceIte, ↓bz_i, ↓bz_l, ↓bz_v, ↓bz_h, ↓bz_c, zs_i, zs_l, zs_v, zs_h, zs_c, zs_n, zn_i, zn_l, zn_v, zn_h, zn_c, zi_i, zi_l, zi_v, zi_h, zi_c, List.append_nil, rr_nk, if_true, if_false, ite_true, ite_false, i01, i10, i00, ite_self, true_or, or_true, or_false, false_or, if_true, if_false, Bool.false_eq_true, Bool.and_true, Bool.and_false, Bool.true_and, Bool.false_and, Bool.not_true, Bool.not_false, m_gt])
      · rw [if_neg q] at hg
        cases h1 : s.testBit a <;> cases h2 : s.testBit b <;> cases st <;> (rw [h1] at ta; rw [h2] at tb; simp (disch := omega) only [x_181_0, x_181_1, x_181_2, x_181_3, x_181_4, x_181_5, x_181_6, x_181_9, x_181_10, x_181_11, x_181_14, x_181_15, x_181_16, x_181_17, x_181_21, x_181_22, x_181_25, x_181_26, x_181_27, x_181_30, x_181_31, x_181_32, x_181_33, x_181_36, x_181_37, x_181_39, x_181_40, x_181_43, x_181_44, x_181_46, x_181_47, x_181_48, x_181_51, x_181_52, x_181_53, x_181_54, x_181_55, x_181_58, x_181_59, x_181_60, x_181_62, x_181_63, x_181_64, x_181_65, x_181_66, x_181_68, x_181_69, x_181_70, x_181_71, x_181_72, x_181_73, x_181_74, x_181_77, x_181_78, x_181_80, x_181_81, x_181_82, x_181_83, x_181_84, x_181_87, x_181_88, x_181_91, x_181_92, x_181_94, x_181_95, x_181_98, x_181_100, x_181_103, x_181_105, x_181_107, x_181_108, x_181_110, x_181_113, x_181_116, x_181_117, x_181_120, x_181_121, x_181_122, x_181_125, x_181_131, x_181_134, x_181_135, x_154_0, x_154_1, x_154_4, x_154_6, x_154_7, x_154_8, x_154_9, x_154_10, x_154_11, x_154_12, x_154_13, x_132_0, x_132_1, x_132_2, x_132_5, x_132_6, x_132_7, x_132_10, x_132_11, x_132_14, x_132_15, Hm0, Hm1, hz, e0, eA, eB, e4, e5, ta, tb, hM, bN, k0, k1, k2, k3, k4, k5, k6, k7, k8, k9, k10, k11, k12, k13, k14, k15, k16, k20, k24, k30, k32, k46, k56, k60, k69, k88, k99, k100, k125, k255, k338, k398, k422, k17, k18, k19, k21, k22, k23, k25, k26, k27, k28, k29, k31, k33, k34, k35, k36, k37, k38, k39, k40, k41, k42, k43, k44, k45, k47, k48, k49, k50, k51, k52, k53, k54, k55, k57, k58, k59, k61, k62, k63, k64, k70, k71, k96, k109, k114, k115, k119, k124, k128, k216, k256, k999, k1296, k4096, k5184, k9999, k12345, k99999, k100000, k999999999, m_2, m_10, m_999, m_9999, m_999999999, q_in, q_cl, q_mul, q_add, q_sub, q_lt, q_le, q_eq, Nat.reduceAdd, Nat.reduceMul, Nat.reduceSub, Nat.reduceLT, Nat.reduceLeDiff, Nat.reduceEqDiff, Nat.add_zero, Nat.zero_add, Nat.mul_zero, q_addm, q_addn, q_subm, q_0m, q_ngm, sky_0, she_0, sky_1, she_1, sky_2, she_2, sky_3, she_3, m_lt, m_gt, m_eq, m_eq', m_one, m_ng, m_mlt, m_meq, q_sub1, q_sub1m, ↓q_irem, mx0, q_div, lt_T, lt_F, le_T, le_F, eq_T, eq_F, not_true_eq_false, not_false_eq_true, true_and, and_true, false_and, and_false, ↓reduceIte, ↓bz_i, ↓bz_l, ↓bz_v, ↓bz_h, ↓bz_c, zs_i, zs_l, zs_v, zs_h, zs_c, zs_n, zn_i, zn_l, zn_v, zn_h, zn_c, zi_i, zi_l, zi_v, zi_h, zi_c, List.append_nil, rr_nk, if_true, if_false, ite_true, ite_false, i01, i10, i00, ite_self, true_or, or_true, or_false, false_or, if_true, if_false, Bool.false_eq_true, Bool.and_true, Bool.and_false, Bool.true_and, Bool.false_and, Bool.not_true, Bool.not_false, nm_lt])
end WR

/-! ===== settling: the reference's heaps ===== -/
def lbf (s : Nat) : Nat := if s % 2 = 1 then 0 else if s / 2 % 2 = 1 then 1 else if s / 4 % 2 = 1 then 2 else if s / 8 % 2 = 1 then 3 else if s / 16 % 2 = 1 then 4 else if s / 32 % 2 = 1 then 5 else if s / 64 % 2 = 1 then 6 else 7
theorem lbf_a : ∀ s, s < 256 → 0 < s → s.testBit (lbf s) = true ∧ (∀ j, j < 8 → s.testBit j = true → lbf s ≤ j) ∧ lbf s < 8 := by decide +kernel
theorem lbf_n : ∀ s, s < 256 → 0 < s → nI s &&& mI s = nI (2 ^ lbf s) := by decide +kernel
theorem lbf_i {s p : Nat} (h : s < 256) (h0 : 0 < s) : nI p &&& nI s &&& mI s = nI (if p.testBit (lbf s) = true then 2 ^ lbf s else 0) := by
  rw [Int32.and_assoc, lbf_n s h h0, bi_and, and_pow]
theorem lb_pos {i : Nat} (h : i < 8) : ∃ q, 2 ^ i = q ∧ 0 < q ∧ q ≤ 128 := ⟨_, rfl, Nat.two_pow_pos i, by
  rw [show 128 = 2 ^ 7 from rfl]; exact Nat.pow_le_pow_right (by omega) (by omega)⟩
/-- the next part of a set, downwards -/
theorem nx_sub {p s : Nat} : sub ((p - 1) &&& s) s := fun i hi => by
  rw [Nat.testBit_and, Bool.and_eq_true] at hi; exact hi.2
theorem sub_half {p s : Nat} (h : sub p s) : sub (p / 2) (s / 2) := fun i hi => by
  rw [← Nat.testBit_succ] at hi ⊢; exact h _ hi
theorem and_half (a b : Nat) : (a &&& b) = 2 * (a / 2 &&& b / 2) + (if a % 2 = 1 ∧ b % 2 = 1 then 1 else 0) := by
  have h1 : (a &&& b) / 2 = a / 2 &&& b / 2 := Nat.and_div_two
  have h2 : (a &&& b) % 2 = if a % 2 = 1 ∧ b % 2 = 1 then 1 else 0 := by
    have t := Nat.testBit_and a b 0
    rw [Nat.testBit_zero, Nat.testBit_zero, Nat.testBit_zero] at t
    by_cases ha : a % 2 = 1
    · by_cases hb : b % 2 = 1
      · rw [decide_eq_true ha, decide_eq_true hb] at t
        rw [if_pos ⟨ha, hb⟩]
        exact of_decide_eq_true t
      · rw [decide_eq_true ha, decide_eq_false hb] at t
        rw [if_neg (fun q => hb q.2)]
        have := of_decide_eq_false t
        omega
    · rw [decide_eq_false ha, Bool.false_and] at t
      rw [if_neg (fun q => ha q.1)]
      have := of_decide_eq_false t
      omega
  omega
theorem sub_bit {p s : Nat} (h : sub p s) (hp : p % 2 = 1) : s % 2 = 1 := by
  have := h 0
  rw [Nat.testBit_zero, Nat.testBit_zero] at this
  simpa using this (by simpa using hp)
theorem nx_le : ∀ n p s q, p ≤ n → sub p s → sub q s → q < p → q ≤ (p - 1) &&& s := by
  intro n
  induction n with
  | zero => intro p s q hp _ _ h; omega
  | succ n ih =>
    intro p s q hp hps hqs hq
    rw [and_half]
    by_cases b : p % 2 = 1
    · have e1 : (p - 1) / 2 = p / 2 := by omega
      have e2 : p / 2 &&& s / 2 = p / 2 := by
        apply Nat.eq_of_testBit_eq
        intro i
        rw [Nat.testBit_and]
        cases hi : (p / 2).testBit i
        · rfl
        · rw [sub_half hps i hi]; rfl
      rw [e1, e2]; omega
    · have e1 : (p - 1) / 2 = p / 2 - 1 := by omega
      have := ih (p / 2) (s / 2) (q / 2) (by omega) (sub_half hps) (sub_half hqs) (by omega)
      rw [e1]
      by_cases c : q % 2 = 1
      · have := sub_bit hqs c
        rw [if_pos ⟨by omega, this⟩]; omega
      · omega
def oI : Option Nat → Int32
  | none => mI 1
  | some k => nI k
def RB (Z : Nat → Prop) (r : Nat → Option Nat) (s : Nat) : Prop := (∀ p k, sub p s → p ≠ 0 → p.testBit (lbf s) = true → Z p → r (s ^^^ p) = some k → ∃ k', r s = some k' ∧ k + 1 ≤ k') ∧ (∀ k', r s = some k' → ∃ p k, sub p s ∧ p ≠ 0 ∧ p.testBit (lbf s) = true ∧ Z p ∧ r (s ^^^ p) = some k ∧ k' = k + 1)
theorem RB_cg {Z : Nat → Prop} {r r' : Nat → Option Nat} {s : Nat} (h : ∀ t, t ≤ s → r' t = r t) (hR : RB Z r s) : RB Z r' s := by
  refine ⟨fun p k h1 h2 h3 h4 h5 => ?_, fun k' h1 => ?_⟩
  · have := xs_lt h1 h2
    rw [h _ (by omega)] at h5
    rw [h _ (Nat.le_refl s)]
    exact hR.1 p k h1 h2 h3 h4 h5
  · rw [h _ (Nat.le_refl s)] at h1
    obtain ⟨p, k, a1, a2, a3, a4, a5, a6⟩ := hR.2 k' h1
    have := xs_lt a1 a2
    exact ⟨p, k, a1, a2, a3, a4, by rw [h _ (by omega)]; exact a5, a6⟩
/-- the reference's table, for the sets below s -/
def TB (Z : Nat → Prop) (r : Nat → Option Nat) (a : Nat → Int32) (s : Nat) : Prop := r 0 = some 0 ∧ ∀ t, t < s → a t = oI (r t) ∧ (∀ k, r t = some k → k ≤ t) ∧ (t ≠ 0 → RB Z r t)
theorem TB_RTb {Z : Nat → Prop} {r : Nat → Option Nat} {a : Nat → Int32} (h : TB Z r a 256) {W : Nat} (hW : W < 256) : RTb Z lbf r W := by
  refine ⟨h.1, fun s hs s0 => ?_⟩
  have := sub_le hs
  obtain ⟨a1, a2, a3⟩ := h.2 s (by omega)
  obtain ⟨b1, b2, b3⟩ := lbf_a s (by omega) (by omega)
  exact ⟨⟨b1, fun j hj => b2 j (tb_lt (s := s) (by omega) hj) hj⟩, a3 s0⟩
theorem upd_sf {f : Nat → Int32} {k : Nat} : upd f k (f k) = f := by
  funext j
  by_cases e : j = k
  · subst e; exact upd_eq'
  · exact upd_ne' e
section SE
variable {sz us : Nat} {kq fq : Option Nat} {L : Nat} {xs : Nat → Int32} {A B A' B' : rrA} {J : Nat → Nat → Int64} {n : Nat} {P : Nat → Int32}
set_option maxRecDepth 20000 in
theorem lp175 (hz : 71 ≤ sz) (d : Nat) (n8 : n ≤ 8) (e0 : A 52 0 = nI n) (hP : ∀ i, i < n → A 59 i = P i) {s : Nat} (hs : s < 256) : ∀ (m k : Nat), m + k = n → rx d 175 4 [some (.ref 51), some (.int (nI s)), some (.int (sS P s k)), some (.int (nI k))] [] sz us (hp kq fq L xs A B J) = some (some (.int (sS P s n)), sz, us, hp kq fq L xs A B J) := by
  intro m
  induction m with
  | zero =>
    intro k hk
    have : k = n := by omega
    subst this
    rw [x_175_4]
    simp (disch := omega) only [x_175_0, x_175_1, x_175_2, x_175_3, x_175_5, x_175_6, x_175_9, x_175_10, x_175_11, x_175_14, x_175_15, x_175_16, x_175_17, x_175_18, x_175_19, x_175_20, x_175_21, x_175_24, x_175_25, x_175_28, x_175_29, x_175_30, x_175_33, x_175_34, x_175_35, x_175_36, x_175_39, x_175_42, x_175_43, Hm0, Hm1, hz, e0, k0, k1, k2, k3, k4, k5, k6, k7, k8, k9, k10, k11, k12, k13, k14, k15, k16, k20, k24, k30, k32, k46, k56, k60, k69, k88, k99, k100, k125, k255, k338, k398, k422, k17, k18, k19, k21, k22, k23, k25, k26, k27, k28, k29, k31, k33, k34, k35, k36, k37, k38, k39, k40, k41, k42, k43, k44, k45, k47, k48, k49, k50, k51, k52, k53, k54, k55, k57, k58, k59, k61, k62, k63, k64, k70, k71, k96, k109, k114, k115, k119, k124, k128, k216, k256, k999, k1296, k4096, k5184, k9999, k12345, k99999, k100000, k999999999, m_2, m_10, m_999, m_9999, m_999999999, q_in, q_cl, q_mul, q_add, q_sub, q_lt, q_le, q_eq, Nat.reduceAdd, Nat.reduceMul, Nat.reduceSub, Nat.reduceLT, Nat.reduceLeDiff, Nat.reduceEqDiff, Nat.add_zero, Nat.zero_add, Nat.mul_zero, q_addm, q_addn, q_subm, q_0m, q_ngm, sky_0, she_0, sky_1, she_1, sky_2, she_2, sky_3, she_3, m_lt, m_gt, m_eq, m_eq', m_one, m_ng, m_mlt, m_meq, q_sub1, q_sub1m, ↓q_irem, mx0, q_div, lt_T, lt_F, le_T, le_F, eq_T, eq_F, not_true_eq_false, not_false_eq_true, true_and, and_true, false_and, and_false, ↓reduceIte, ↓bz_i, ↓bz_l, ↓bz_v, ↓bz_h, ↓bz_c, zs_i, zs_l, zs_v, zs_h, zs_c, zs_n, zn_i, zn_l, zn_v, zn_h, zn_c, zi_i, zi_l, zi_v, zi_h, zi_c, List.append_nil, rr_nk, if_true, if_false, ite_true, ite_false, i01, i10, i00, ite_self, true_or, or_true, or_false, false_or]
  | succ m ih =>
    intro k hk
    have e := ih (k + 1) (by omega)
    have b := bi_shr s hs k (by omega)
    have es : sS P s (k + 1) = sS P s k + (if s.testBit k = true then P k else nI 0) := rfl
    have ep := hP k (by omega)
    rw [← e, x_175_4, es]
    cases hb : s.testBit k
    · rw [hb] at b
      simp (disch := omega) only [x_175_0, x_175_1, x_175_2, x_175_3, x_175_5, x_175_6, x_175_9, x_175_10, x_175_11, x_175_14, x_175_15, x_175_16, x_175_17, x_175_18, x_175_19, x_175_20, x_175_21, x_175_24, x_175_25, x_175_28, x_175_29, x_175_30, x_175_33, x_175_34, x_175_35, x_175_36, x_175_39, x_175_42, x_175_43, Hm0, Hm1, hz, e0, b, bN, Bool.false_eq_true, k0, k1, k2, k3, k4, k5, k6, k7, k8, k9, k10, k11, k12, k13, k14, k15, k16, k20, k24, k30, k32, k46, k56, k60, k69, k88, k99, k100, k125, k255, k338, k398, k422, k17, k18, k19, k21, k22, k23, k25, k26, k27, k28, k29, k31, k33, k34, k35, k36, k37, k38, k39, k40, k41, k42, k43, k44, k45, k47, k48, k49, k50, k51, k52, k53, k54, k55, k57, k58, k59, k61, k62, k63, k64, k70, k71, k96, k109, k114, k115, k119, k124, k128, k216, k256, k999, k1296, k4096, k5184, k9999, k12345, k99999, k100000, k999999999, m_2, m_10, m_999, m_9999, m_999999999, q_in, q_cl, q_mul, q_add, q_sub, q_lt, q_le, q_eq, Nat.reduceAdd, Nat.reduceMul, Nat.reduceSub, Nat.reduceLT, Nat.reduceLeDiff, Nat.reduceEqDiff, Nat.add_zero, Nat.zero_add, Nat.mul_zero, q_addm, q_addn, q_subm, q_0m, q_ngm, sky_0, she_0, sky_1, she_1, sky_2, she_2, sky_3, she_3, m_lt, m_gt, m_eq, m_eq', m_one, m_ng, m_mlt, m_meq, q_sub1, q_sub1m, ↓q_irem, mx0, q_div, lt_T, lt_F, le_T, le_F, eq_T, eq_F, not_true_eq_false, not_false_eq_true, true_and, and_true, false_and, and_false, ↓reduceIte, ↓bz_i, ↓bz_l, ↓bz_v, ↓bz_h, ↓bz_c, zs_i, zs_l, zs_v, zs_h, zs_c, zs_n, zn_i, zn_l, zn_v, zn_h, zn_c, zi_i, zi_l, zi_v, zi_h, zi_c, List.append_nil, rr_nk, if_true, if_false, ite_true, ite_false, i01, i10, i00, ite_self, true_or, or_true, or_false, false_or]
    · rw [hb] at b
      simp (disch := omega) only [x_175_0, x_175_1, x_175_2, x_175_3, x_175_5, x_175_6, x_175_9, x_175_10, x_175_11, x_175_14, x_175_15, x_175_16, x_175_17, x_175_18, x_175_19, x_175_20, x_175_21, x_175_24, x_175_25, x_175_28, x_175_29, x_175_30, x_175_33, x_175_34, x_175_35, x_175_36, x_175_39, x_175_42, x_175_43, Hm0, Hm1, hz, e0, b, ep, bN, Bool.false_eq_true, k0, k1, k2, k3, k4, k5, k6, k7, k8, k9, k10, k11, k12, k13, k14, k15, k16, k20, k24, k30, k32, k46, k56, k60, k69, k88, k99, k100, k125, k255, k338, k398, k422, k17, k18, k19, k21, k22, k23, k25, k26, k27, k28, k29, k31, k33, k34, k35, k36, k37, k38, k39, k40, k41, k42, k43, k44, k45, k47, k48, k49, k50, k51, k52, k53, k54, k55, k57, k58, k59, k61, k62, k63, k64, k70, k71, k96, k109, k114, k115, k119, k124, k128, k216, k256, k999, k1296, k4096, k5184, k9999, k12345, k99999, k100000, k999999999, m_2, m_10, m_999, m_9999, m_999999999, q_in, q_cl, q_mul, q_add, q_sub, q_lt, q_le, q_eq, Nat.reduceAdd, Nat.reduceMul, Nat.reduceSub, Nat.reduceLT, Nat.reduceLeDiff, Nat.reduceEqDiff, Nat.add_zero, Nat.zero_add, Nat.mul_zero, q_addm, q_addn, q_subm, q_0m, q_ngm, sky_0, she_0, sky_1, she_1, sky_2, she_2, sky_3, she_3, m_lt, m_gt, m_eq, m_eq', m_one, m_ng, m_mlt, m_meq, q_sub1, q_sub1m, ↓q_irem, mx0, q_div, lt_T, lt_F, le_T, le_F, eq_T, eq_F, not_true_eq_false, not_false_eq_true, true_and, and_true, false_and, and_false, ↓reduceIte, ↓bz_i, ↓bz_l, ↓bz_v, ↓bz_h, ↓bz_c, zs_i, zs_l, zs_v, zs_h, zs_c, zs_n, zn_i, zn_l, zn_v, zn_h, zn_c, zi_i, zi_l, zi_v, zi_h, zi_c, List.append_nil, rr_nk, if_true, if_false, ite_true, ite_false, i01, i10, i00, ite_self, true_or, or_true, or_false, false_or]
      try rw [Int32.add_comm]
set_option maxRecDepth 20000 in
theorem s175 (hz : 71 ≤ sz) (d : Nat) (n8 : n ≤ 8) (e0 : A 52 0 = nI n) (hP : ∀ i, i < n → A 59 i = P i) {s : Nat} (hs : s < 256) : rx d 175 0 [some (.ref 51), some (.int (nI s)), none, none] [] sz us (hp kq fq L xs A B J) = some (some (.int (sS P s n)), sz, us, hp kq fq L xs A B J) := by
  have e := lp175 (kq := kq) (fq := fq) (L := L) (xs := xs) (J := J) (us := us) (A := A) (B := B) (P := P) hz d n8 e0 hP hs n 0 (by omega)
  rw [← e]
  have e0' : sS P s 0 = nI 0 := rfl
  simp (disch := omega) only [x_175_0, x_175_1, x_175_2, x_175_3, x_175_5, x_175_6, x_175_9, x_175_10, x_175_11, x_175_14, x_175_15, x_175_16, x_175_17, x_175_18, x_175_19, x_175_20, x_175_21, x_175_24, x_175_25, x_175_28, x_175_29, x_175_30, x_175_33, x_175_34, x_175_35, x_175_36, x_175_39, x_175_42, x_175_43, e0', k0, k1, k2, k3, k4, k5, k6, k7, k8, k9, k10, k11, k12, k13, k14, k15, k16, k20, k24, k30, k32, k46, k56, k60, k69, k88, k99, k100, k125, k255, k338, k398, k422, k17, k18, k19, k21, k22, k23, k25, k26, k27, k28, k29, k31, k33, k34, k35, k36, k37, k38, k39, k40, k41, k42, k43, k44, k45, k47, k48, k49, k50, k51, k52, k53, k54, k55, k57, k58, k59, k61, k62, k63, k64, k70, k71, k96, k109, k114, k115, k119, k124, k128, k216, k256, k999, k1296, k4096, k5184, k9999, k12345, k99999, k100000, k999999999, m_2, m_10, m_999, m_9999, m_999999999, q_in, q_cl, q_mul, q_add, q_sub, q_lt, q_le, q_eq, Nat.reduceAdd, Nat.reduceMul, Nat.reduceSub, Nat.reduceLT, Nat.reduceLeDiff, Nat.reduceEqDiff, Nat.add_zero, Nat.zero_add, Nat.mul_zero, q_addm, q_addn, q_subm, q_0m, q_ngm, sky_0, she_0, sky_1, she_1, sky_2, she_2, sky_3, she_3, m_lt, m_gt, m_eq, m_eq', m_one, m_ng, m_mlt, m_meq, q_sub1, q_sub1m, ↓q_irem, mx0, q_div, lt_T, lt_F, le_T, le_F, eq_T, eq_F, not_true_eq_false, not_false_eq_true, true_and, and_true, false_and, and_false, ↓reduceIte, ↓bz_i, ↓bz_l, ↓bz_v, ↓bz_h, ↓bz_c, zs_i, zs_l, zs_v, zs_h, zs_c, zs_n, zn_i, zn_l, zn_v, zn_h, zn_c, zi_i, zi_l, zi_v, zi_h, zi_c, List.append_nil, rr_nk, if_true, if_false, ite_true, ite_false, i01, i10, i00, ite_self, true_or, or_true, or_false, false_or]
def msk (P : Nat → Int32) : Nat → Nat
  | 0 => 0
  | k + 1 => if P k = nI 0 then msk P k else msk P k ||| 2 ^ k
theorem msk_t (P : Nat → Int32) : ∀ k j, (msk P k).testBit j = (decide (j < k) && decide (P j ≠ nI 0)) := by
  intro k
  induction k with
  | zero => intro j; show (0 : Nat).testBit j = _; rw [Nat.zero_testBit]; simp
  | succ k ih =>
    intro j
    unfold msk
    by_cases e : P k = nI 0
    · rw [if_pos e, ih]
      by_cases q : j = k
      · subst q; simp [e]
      · have : (j < k + 1) = (j < k) := propext (by omega)
        simp [this]
    · rw [if_neg e, Nat.testBit_or, ih, Nat.testBit_two_pow]
      by_cases q : j = k
      · subst q; simp [e]
      · have h1 : (j < k + 1) = (j < k) := propext (by omega)
        have h2 : ¬ k = j := fun h => q h.symm
        simp [h1, h2]
theorem msk_lt (P : Nat → Int32) (k : Nat) (hk : k ≤ 8) : msk P k < 256 := by
  have : msk P k < 2 ^ k := by
    apply Nat.lt_pow_two_of_testBit
    intro i hi
    rw [msk_t]
    have : ¬ i < k := by omega
    simp [this]
  have h2 : 2 ^ k ≤ 2 ^ 8 := Nat.pow_le_pow_right (by omega) hk
  omega
set_option maxRecDepth 20000 in
theorem lp173 (hz : 71 ≤ sz) (d : Nat) (n8 : n ≤ 8) (e0 : A 52 0 = nI n) (hP : ∀ i, i < n → A 59 i = P i) : ∀ (m k : Nat), m + k = n → rx d 173 4 [some (.ref 51), some (.int (nI (msk P k))), some (.int (nI k))] [] sz us (hp kq fq L xs A B J) = some (some (.int (nI (msk P n))), sz, us, hp kq fq L xs A B J) := by
  intro m
  induction m with
  | zero =>
    intro k hk
    have : k = n := by omega
    subst this
    rw [x_173_4]
    simp (disch := omega) only [x_173_0, x_173_1, x_173_2, x_173_3, x_173_5, x_173_6, x_173_9, x_173_10, x_173_11, x_173_14, x_173_15, x_173_16, x_173_19, x_173_20, x_173_21, x_173_24, x_173_25, x_173_26, x_173_27, x_173_30, x_173_31, x_173_32, x_173_33, x_173_36, x_173_39, x_173_40, Hm0, Hm1, hz, e0, k0, k1, k2, k3, k4, k5, k6, k7, k8, k9, k10, k11, k12, k13, k14, k15, k16, k20, k24, k30, k32, k46, k56, k60, k69, k88, k99, k100, k125, k255, k338, k398, k422, k17, k18, k19, k21, k22, k23, k25, k26, k27, k28, k29, k31, k33, k34, k35, k36, k37, k38, k39, k40, k41, k42, k43, k44, k45, k47, k48, k49, k50, k51, k52, k53, k54, k55, k57, k58, k59, k61, k62, k63, k64, k70, k71, k96, k109, k114, k115, k119, k124, k128, k216, k256, k999, k1296, k4096, k5184, k9999, k12345, k99999, k100000, k999999999, m_2, m_10, m_999, m_9999, m_999999999, q_in, q_cl, q_mul, q_add, q_sub, q_lt, q_le, q_eq, Nat.reduceAdd, Nat.reduceMul, Nat.reduceSub, Nat.reduceLT, Nat.reduceLeDiff, Nat.reduceEqDiff, Nat.add_zero, Nat.zero_add, Nat.mul_zero, q_addm, q_addn, q_subm, q_0m, q_ngm, sky_0, she_0, sky_1, she_1, sky_2, she_2, sky_3, she_3, m_lt, m_gt, m_eq, m_eq', m_one, m_ng, m_mlt, m_meq, q_sub1, q_sub1m, ↓q_irem, mx0, q_div, lt_T, lt_F, le_T, le_F, eq_T, eq_F, not_true_eq_false, not_false_eq_true, true_and, and_true, false_and, and_false, ↓reduceIte, ↓bz_i, ↓bz_l, ↓bz_v, ↓bz_h, ↓bz_c, zs_i, zs_l, zs_v, zs_h, zs_c, zs_n, zn_i, zn_l, zn_v, zn_h, zn_c, zi_i, zi_l, zi_v, zi_h, zi_c, List.append_nil, rr_nk, if_true, if_false, ite_true, ite_false, i01, i10, i00, ite_self, true_or, or_true, or_false, false_or]
  | succ m ih =>
    intro k hk
    have e := ih (k + 1) (by omega)
    have ep := hP k (by omega)
    have es : msk P (k + 1) = if P k = nI 0 then msk P k else msk P k ||| 2 ^ k := rfl
    rw [← e, x_173_4, es]
    by_cases q : P k = nI 0
    · simp (disch := omega) only [x_173_0, x_173_1, x_173_2, x_173_3, x_173_5, x_173_6, x_173_9, x_173_10, x_173_11, x_173_14, x_173_15, x_173_16, x_173_19, x_173_20, x_173_21, x_173_24, x_173_25, x_173_26, x_173_27, x_173_30, x_173_31, x_173_32, x_173_33, x_173_36, x_173_39, x_173_40, Hm0, Hm1, hz, e0, ep, q, bi_ord, bi_or, Nat.or_zero, k0, k1, k2, k3, k4, k5, k6, k7, k8, k9, k10, k11, k12, k13, k14, k15, k16, k20, k24, k30, k32, k46, k56, k60, k69, k88, k99, k100, k125, k255, k338, k398, k422, k17, k18, k19, k21, k22, k23, k25, k26, k27, k28, k29, k31, k33, k34, k35, k36, k37, k38, k39, k40, k41, k42, k43, k44, k45, k47, k48, k49, k50, k51, k52, k53, k54, k55, k57, k58, k59, k61, k62, k63, k64, k70, k71, k96, k109, k114, k115, k119, k124, k128, k216, k256, k999, k1296, k4096, k5184, k9999, k12345, k99999, k100000, k999999999, m_2, m_10, m_999, m_9999, m_999999999, q_in, q_cl, q_mul, q_add, q_sub, q_lt, q_le, q_eq, Nat.reduceAdd, Nat.reduceMul, Nat.reduceSub, Nat.reduceLT, Nat.reduceLeDiff, Nat.reduceEqDiff, Nat.add_zero, Nat.zero_add, Nat.mul_zero, q_addm, q_addn, q_subm, q_0m, q_ngm, sky_0, she_0, sky_1, she_1, sky_2, she_2, sky_3, she_3, m_lt, m_gt, m_eq, m_eq', m_one, m_ng, m_mlt, m_meq, q_sub1, q_sub1m, ↓q_irem, mx0, q_div, lt_T, lt_F, le_T, le_F, eq_T, eq_F, not_true_eq_false, not_false_eq_true, true_and, and_true, false_and, and_false, ↓reduceIte, ↓bz_i, ↓bz_l, ↓bz_v, ↓bz_h, ↓bz_c, zs_i, zs_l, zs_v, zs_h, zs_c, zs_n, zn_i, zn_l, zn_v, zn_h, zn_c, zi_i, zi_l, zi_v, zi_h, zi_c, List.append_nil, rr_nk, if_true, if_false, ite_true, ite_false, i01, i10, i00, ite_self, true_or, or_true, or_false, false_or]
    · simp (disch := omega) only [x_173_0, x_173_1, x_173_2, x_173_3, x_173_5, x_173_6, x_173_9, x_173_10, x_173_11, x_173_14, x_173_15, x_173_16, x_173_19, x_173_20, x_173_21, x_173_24, x_173_25, x_173_26, x_173_27, x_173_30, x_173_31, x_173_32, x_173_33, x_173_36, x_173_39, x_173_40, Hm0, Hm1, hz, e0, ep, q, bi_ord, bi_or, Nat.or_zero, k0, k1, k2, k3, k4, k5, k6, k7, k8, k9, k10, k11, k12, k13, k14, k15, k16, k20, k24, k30, k32, k46, k56, k60, k69, k88, k99, k100, k125, k255, k338, k398, k422, k17, k18, k19, k21, k22, k23, k25, k26, k27, k28, k29, k31, k33, k34, k35, k36, k37, k38, k39, k40, k41, k42, k43, k44, k45, k47, k48, k49, k50, k51, k52, k53, k54, k55, k57, k58, k59, k61, k62, k63, k64, k70, k71, k96, k109, k114, k115, k119, k124, k128, k216, k256, k999, k1296, k4096, k5184, k9999, k12345, k99999, k100000, k999999999, m_2, m_10, m_999, m_9999, m_999999999, q_in, q_cl, q_mul, q_add, q_sub, q_lt, q_le, q_eq, Nat.reduceAdd, Nat.reduceMul, Nat.reduceSub, Nat.reduceLT, Nat.reduceLeDiff, Nat.reduceEqDiff, Nat.add_zero, Nat.zero_add, Nat.mul_zero, q_addm, q_addn, q_subm, q_0m, q_ngm, sky_0, she_0, sky_1, she_1, sky_2, she_2, sky_3, she_3, m_lt, m_gt, m_eq, m_eq', m_one, m_ng, m_mlt, m_meq, q_sub1, q_sub1m, ↓q_irem, mx0, q_div, lt_T, lt_F, le_T, le_F, eq_T, eq_F, not_true_eq_false, not_false_eq_true, true_and, and_true, false_and, and_false, ↓reduceIte, ↓bz_i, ↓bz_l, ↓bz_v, ↓bz_h, ↓bz_c, zs_i, zs_l, zs_v, zs_h, zs_c, zs_n, zn_i, zn_l, zn_v, zn_h, zn_c, zi_i, zi_l, zi_v, zi_h, zi_c, List.append_nil, rr_nk, if_true, if_false, ite_true, ite_false, i01, i10, i00, ite_self, true_or, or_true, or_false, false_or]
set_option maxRecDepth 20000 in
theorem s173 (hz : 71 ≤ sz) (d : Nat) (n8 : n ≤ 8) (e0 : A 52 0 = nI n) (hP : ∀ i, i < n → A 59 i = P i) : rx d 173 0 [some (.ref 51), none, none] [] sz us (hp kq fq L xs A B J) = some (some (.int (nI (msk P n))), sz, us, hp kq fq L xs A B J) := by
  have e := lp173 (kq := kq) (fq := fq) (L := L) (xs := xs) (J := J) (us := us) (A := A) (B := B) (P := P) hz d n8 e0 hP n 0 (by omega)
  rw [← e]
  have e0' : msk P 0 = 0 := rfl
  simp (disch := omega) only [x_173_0, x_173_1, x_173_2, x_173_3, x_173_5, x_173_6, x_173_9, x_173_10, x_173_11, x_173_14, x_173_15, x_173_16, x_173_19, x_173_20, x_173_21, x_173_24, x_173_25, x_173_26, x_173_27, x_173_30, x_173_31, x_173_32, x_173_33, x_173_36, x_173_39, x_173_40, e0', k0, k1, k2, k3, k4, k5, k6, k7, k8, k9, k10, k11, k12, k13, k14, k15, k16, k20, k24, k30, k32, k46, k56, k60, k69, k88, k99, k100, k125, k255, k338, k398, k422, k17, k18, k19, k21, k22, k23, k25, k26, k27, k28, k29, k31, k33, k34, k35, k36, k37, k38, k39, k40, k41, k42, k43, k44, k45, k47, k48, k49, k50, k51, k52, k53, k54, k55, k57, k58, k59, k61, k62, k63, k64, k70, k71, k96, k109, k114, k115, k119, k124, k128, k216, k256, k999, k1296, k4096, k5184, k9999, k12345, k99999, k100000, k999999999, m_2, m_10, m_999, m_9999, m_999999999, q_in, q_cl, q_mul, q_add, q_sub, q_lt, q_le, q_eq, Nat.reduceAdd, Nat.reduceMul, Nat.reduceSub, Nat.reduceLT, Nat.reduceLeDiff, Nat.reduceEqDiff, Nat.add_zero, Nat.zero_add, Nat.mul_zero, q_addm, q_addn, q_subm, q_0m, q_ngm, sky_0, she_0, sky_1, she_1, sky_2, she_2, sky_3, she_3, m_lt, m_gt, m_eq, m_eq', m_one, m_ng, m_mlt, m_meq, q_sub1, q_sub1m, ↓q_irem, mx0, q_div, lt_T, lt_F, le_T, le_F, eq_T, eq_F, not_true_eq_false, not_false_eq_true, true_and, and_true, false_and, and_false, ↓reduceIte, ↓bz_i, ↓bz_l, ↓bz_v, ↓bz_h, ↓bz_c, zs_i, zs_l, zs_v, zs_h, zs_c, zs_n, zn_i, zn_l, zn_v, zn_h, zn_c, zi_i, zi_l, zi_v, zi_h, zi_c, List.append_nil, rr_nk, if_true, if_false, ite_true, ite_false, i01, i10, i00, ite_self, true_or, or_true, or_false, false_or]
set_option maxRecDepth 20000 in
set_option maxHeartbeats 4000000 in
theorem lp174i (hz : 71 ≤ sz) (d : Nat) (n8 : n ≤ 8) {s : Nat} (hs : s < 256) (s0 : 0 < s) {r : Nat → Option Nat} : ∀ (f p : Nat) (A : rrA) (v : Option Nat) (l3 : Option Value), p ≤ f → sub p s → A 52 0 = nI n → (∀ i, i < n → A 59 i = P i) → (∀ t, t < s → A 60 t = oI (r t) ∧ ∀ k, r t = some k → k ≤ t) → A 60 s = oI v → (∀ k, v = some k → k ≤ s) → ∃ v' l3' a', rx (d + 1) 174 25 [some (.ref 51), some (.int (nI s)), some (.int (nI p)), l3] [] sz us (hp kq fq L xs A B J) = rx (d + 1) 174 127 [some (.ref 51), some (.int (nI s)), some (.int (nI 0)), l3'] [] sz us (hp kq fq L xs (u1 A 60 a') B J) ∧ (∀ t, t ≠ s → a' t = A 60 t) ∧ a' s = oI v' ∧ (∀ k, v = some k → ∃ k', v' = some k' ∧ k ≤ k') ∧ (∀ q k, q ≤ p → sub q s → q ≠ 0 → q.testBit (lbf s) = true → sS P q n = nI 0 → r (s ^^^ q) = some k → ∃ k', v' = some k' ∧ k + 1 ≤ k') ∧ (v' = v ∨ ∃ q k, sub q s ∧ q ≠ 0 ∧ q.testBit (lbf s) = true ∧ sS P q n = nI 0 ∧ r (s ^^^ q) = some k ∧ v' = some (k + 1)) := by
  intro f
  induction f with
  | zero =>
    intro p A v l3 hp hps e0 hP hT hv hb
    have : p = 0 := by omega
    subst this
    refine ⟨v, l3, A 60, ?_, fun _ _ => rfl, hv, fun k e => ⟨k, e, Nat.le_refl _⟩, fun q k h1 _ h3 => by omega, Or.inl rfl⟩
    rw [u1_self, x_174_25]
    simp (disch := omega) only [x_174_0, x_174_1, x_174_4, x_174_5, x_174_6, x_174_7, x_174_8, x_174_9, x_174_10, x_174_13, x_174_16, x_174_17, x_174_20, x_174_21, x_174_22, x_174_23, x_174_24, x_174_26, x_174_29, x_174_30, x_174_31, x_174_32, x_174_33, x_174_34, x_174_35, x_174_38, x_174_39, x_174_40, x_174_43, x_174_46, x_174_47, x_174_50, x_174_51, x_174_52, x_174_53, x_174_54, x_174_55, x_174_56, x_174_57, x_174_60, x_174_61, x_174_64, x_174_65, x_174_66, x_174_67, x_174_70, x_174_71, x_174_72, x_174_75, x_174_76, x_174_79, x_174_80, x_174_81, x_174_82, x_174_83, x_174_84, x_174_85, x_174_86, x_174_87, x_174_88, x_174_91, x_174_92, x_174_93, x_174_96, x_174_97, x_174_100, x_174_101, x_174_102, x_174_103, x_174_104, x_174_105, x_174_106, x_174_107, x_174_108, x_174_111, x_174_112, x_174_115, x_174_116, x_174_117, x_174_118, x_174_119, x_174_120, x_174_121, x_174_122, x_174_123, x_174_124, x_174_130, x_174_133, k0, k1, k2, k3, k4, k5, k6, k7, k8, k9, k10, k11, k12, k13, k14, k15, k16, k20, k24, k30, k32, k46, k56, k60, k69, k88, k99, k100, k125, k255, k338, k398, k422, k17, k18, k19, k21, k22, k23, k25, k26, k27, k28, k29, k31, k33, k34, k35, k36, k37, k38, k39, k40, k41, k42, k43, k44, k45, k47, k48, k49, k50, k51, k52, k53, k54, k55, k57, k58, k59, k61, k62, k63, k64, k70, k71, k96, k109, k114, k115, k119, k124, k128, k216, k256, k999, k1296, k4096, k5184, k9999, k12345, k99999, k100000, k999999999, m_2, m_10, m_999, m_9999, m_999999999, q_in, q_cl, q_mul, q_add, q_sub, q_lt, q_le, q_eq, Nat.reduceAdd, Nat.reduceMul, Nat.reduceSub, Nat.reduceLT, Nat.reduceLeDiff, Nat.reduceEqDiff, Nat.add_zero, Nat.zero_add, Nat.mul_zero, q_addm, q_addn, q_subm, q_0m, q_ngm, sky_0, she_0, sky_1, she_1, sky_2, she_2, sky_3, she_3, m_lt, m_gt, m_eq, m_eq', m_one, m_ng, m_mlt, m_meq, q_sub1, q_sub1m, ↓q_irem, mx0, q_div, lt_T, lt_F, le_T, le_F, eq_T, eq_F, not_true_eq_false, not_false_eq_true, true_and, and_true, false_and, and_false, ↓reduceIte, ↓bz_i, ↓bz_l, ↓bz_v, ↓bz_h, ↓bz_c, zs_i, zs_l, zs_v, zs_h, zs_c, zs_n, zn_i, zn_l, zn_v, zn_h, zn_c, zi_i, zi_l, zi_v, zi_h, zi_c, List.append_nil, rr_nk, if_true, if_false, ite_true, ite_false, i01, i10, i00, ite_self, true_or, or_true, or_false, false_or]
  | succ f ih =>
    intro p A v l3 hpf hps e0 hP hT hv hb
    by_cases p0 : p = 0
    · subst p0
      refine ⟨v, l3, A 60, ?_, fun _ _ => rfl, hv, fun k e => ⟨k, e, Nat.le_refl _⟩, fun q k h1 _ h3 => by omega, Or.inl rfl⟩
      rw [u1_self, x_174_25]
      simp (disch := omega) only [x_174_0, x_174_1, x_174_4, x_174_5, x_174_6, x_174_7, x_174_8, x_174_9, x_174_10, x_174_13, x_174_16, x_174_17, x_174_20, x_174_21, x_174_22, x_174_23, x_174_24, x_174_26, x_174_29, x_174_30, x_174_31, x_174_32, x_174_33, x_174_34, x_174_35, x_174_38, x_174_39, x_174_40, x_174_43, x_174_46, x_174_47, x_174_50, x_174_51, x_174_52, x_174_53, x_174_54, x_174_55, x_174_56, x_174_57, x_174_60, x_174_61, x_174_64, x_174_65, x_174_66, x_174_67, x_174_70, x_174_71, x_174_72, x_174_75, x_174_76, x_174_79, x_174_80, x_174_81, x_174_82, x_174_83, x_174_84, x_174_85, x_174_86, x_174_87, x_174_88, x_174_91, x_174_92, x_174_93, x_174_96, x_174_97, x_174_100, x_174_101, x_174_102, x_174_103, x_174_104, x_174_105, x_174_106, x_174_107, x_174_108, x_174_111, x_174_112, x_174_115, x_174_116, x_174_117, x_174_118, x_174_119, x_174_120, x_174_121, x_174_122, x_174_123, x_174_124, x_174_130, x_174_133, k0, k1, k2, k3, k4, k5, k6, k7, k8, k9, k10, k11, k12, k13, k14, k15, k16, k20, k24, k30, k32, k46, k56, k60, k69, k88, k99, k100, k125, k255, k338, k398, k422, k17, k18, k19, k21, k22, k23, k25, k26, k27, k28, k29, k31, k33, k34, k35, k36, k37, k38, k39, k40, k41, k42, k43, k44, k45, k47, k48, k49, k50, k51, k52, k53, k54, k55, k57, k58, k59, k61, k62, k63, k64, k70, k71, k96, k109, k114, k115, k119, k124, k128, k216, k256, k999, k1296, k4096, k5184, k9999, k12345, k99999, k100000, k999999999, m_2, m_10, m_999, m_9999, m_999999999, q_in, q_cl, q_mul, q_add, q_sub, q_lt, q_le, q_eq, Nat.reduceAdd, Nat.reduceMul, Nat.reduceSub, Nat.reduceLT, Nat.reduceLeDiff, Nat.reduceEqDiff, Nat.add_zero, Nat.zero_add, Nat.mul_zero, q_addm, q_addn, q_subm, q_0m, q_ngm, sky_0, she_0, sky_1, she_1, sky_2, she_2, sky_3, she_3, m_lt, m_gt, m_eq, m_eq', m_one, m_ng, m_mlt, m_meq, q_sub1, q_sub1m, ↓q_irem, mx0, q_div, lt_T, lt_F, le_T, le_F, eq_T, eq_F, not_true_eq_false, not_false_eq_true, true_and, and_true, false_and, and_false, ↓reduceIte, ↓bz_i, ↓bz_l, ↓bz_v, ↓bz_h, ↓bz_c, zs_i, zs_l, zs_v, zs_h, zs_c, zs_n, zn_i, zn_l, zn_v, zn_h, zn_c, zi_i, zi_l, zi_v, zi_h, zi_c, List.append_nil, rr_nk, if_true, if_false, ite_true, ite_false, i01, i10, i00, ite_self, true_or, or_true, or_false, false_or]
    have hple := sub_le hps
    have hlt := xs_lt hps p0
    obtain ⟨eT, eB⟩ := hT (s ^^^ p) hlt
    have hnx : nI (p - 1) &&& nI s = nI ((p - 1) &&& s) := bi_and _ _
    have hnl : (p - 1) &&& s ≤ f := by have := @Nat.and_le_left (p - 1) s; omega
    have hli := lbf_i (p := p) hs s0
    obtain ⟨w, hw1, hw2, hw3⟩ := lb_pos (lbf_a s hs s0).2.2
    rw [hw1] at hli
    have a175 := s175 (kq := kq) (fq := fq) (L := L) (xs := xs) (J := J) (us := us) (A := A) (B := B) (P := P) hz d n8 e0 hP (s := p) (by omega)
    have hnot : nI s &&& (nI p ^^^ mI 1) = nI (s ^^^ p) := by rw [bi_not hs, xs_and hps hs]
    by_cases cand : p.testBit (lbf s) = true ∧ sS P p n = nI 0 ∧ ∃ k, r (s ^^^ p) = some k
    · obtain ⟨c1, c2, k, c3⟩ := cand
      have hk := eB k c3
      rw [c3] at eT
      rw [if_pos c1] at hli
      obtain ⟨v2, hv2, hv3⟩ : ∃ v2 : Nat, (if (match v with | none => true | some u0 => decide (u0 < k + 1)) = true then some (k + 1) else v) = some v2 ∧ v2 ≤ s := by
        cases v with
        | none => exact ⟨k + 1, rfl, by omega⟩
        | some u0 =>
          have := hb u0 rfl
          by_cases q : u0 < k + 1
          · exact ⟨k + 1, by simp [q], by omega⟩
          · exact ⟨u0, by simp [q], by omega⟩
      have hstep : rx (d + 1) 174 25 [some (.ref 51), some (.int (nI s)), some (.int (nI p)), l3] [] sz us (hp kq fq L xs A B J) = rx (d + 1) 174 25 [some (.ref 51), some (.int (nI s)), some (.int (nI ((p - 1) &&& s))), some (.int (nI 1))] [] sz us (hp kq fq L xs (u1 A 60 (upd (A 60) s (nI v2))) B J) := by
        rw [x_174_25]
        have eT' : A 60 (s ^^^ p) = nI k := eT
        cases v with
        | none =>
          have hv' : A 60 s = mI 1 := hv
          cases hv2
          simp (disch := omega) only [x_174_0, x_174_1, x_174_4, x_174_5, x_174_6, x_174_7, x_174_8, x_174_9, x_174_10, x_174_13, x_174_16, x_174_17, x_174_20, x_174_21, x_174_22, x_174_23, x_174_24, x_174_26, x_174_29, x_174_30, x_174_31, x_174_32, x_174_33, x_174_34, x_174_35, x_174_38, x_174_39, x_174_40, x_174_43, x_174_46, x_174_47, x_174_50, x_174_51, x_174_52, x_174_53, x_174_54, x_174_55, x_174_56, x_174_57, x_174_60, x_174_61, x_174_64, x_174_65, x_174_66, x_174_67, x_174_70, x_174_71, x_174_72, x_174_75, x_174_76, x_174_79, x_174_80, x_174_81, x_174_82, x_174_83, x_174_84, x_174_85, x_174_86, x_174_87, x_174_88, x_174_91, x_174_92, x_174_93, x_174_96, x_174_97, x_174_100, x_174_101, x_174_102, x_174_103, x_174_104, x_174_105, x_174_106, x_174_107, x_174_108, x_174_111, x_174_112, x_174_115, x_174_116, x_174_117, x_174_118, x_174_119, x_174_120, x_174_121, x_174_122, x_174_123, x_174_124, x_174_130, x_174_133, Hm0, Hm1, hz, hli, a175, c2, hnot, eT', hv', hnx, k0, k1, k2, k3, k4, k5, k6, k7, k8, k9, k10, k11, k12, k13, k14, k15, k16, k20, k24, k30, k32, k46, k56, k60, k69, k88, k99, k100, k125, k255, k338, k398, k422, k17, k18, k19, k21, k22, k23, k25, k26, k27, k28, k29, k31, k33, k34, k35, k36, k37, k38, k39, k40, k41, k42, k43, k44, k45, k47, k48, k49, k50, k51, k52, k53, k54, k55, k57, k58, k59, k61, k62, k63, k64, k70, k71, k96, k109, k114, k115, k119, k124, k128, k216, k256, k999, k1296, k4096, k5184, k9999, k12345, k99999, k100000, k999999999, m_2, m_10, m_999, m_9999, m_999999999, q_in, q_cl, q_mul, q_add, q_sub, q_lt, q_le, q_eq, Nat.reduceAdd, Nat.reduceMul, Nat.reduceSub, Nat.reduceLT, Nat.reduceLeDiff, Nat.reduceEqDiff, Nat.add_zero, Nat.zero_add, Nat.mul_zero, q_addm, q_addn, q_subm, q_0m, q_ngm, sky_0, she_0, sky_1, she_1, sky_2, she_2, sky_3, she_3, m_lt, m_gt, m_eq, m_eq', m_one, m_ng, m_mlt, m_meq, q_sub1, q_sub1m, ↓q_irem, mx0, q_div, lt_T, lt_F, le_T, le_F, eq_T, eq_F, not_true_eq_false, not_false_eq_true, true_and, and_true, false_and, and_false, u1_eq, u1_ne, u2_eq, u2_ne, uJ_eq, uJ_ne, upd_eq', upd_ne', ↓reduceIte, ↓bz_i, ↓bz_l, ↓bz_v, ↓bz_h, ↓bz_c, zs_i, zs_l, zs_v, zs_h, zs_c, zs_n, zn_i, zn_l, zn_v, zn_h, zn_c, zi_i, zi_l, zi_v, zi_h, zi_c, List.append_nil, rr_nk, if_true, if_false, ite_true, ite_false, i01, i10, i00, ite_self, true_or, or_true, or_false, false_or]
        | some u0 =>
          have hv' : A 60 s = nI u0 := hv
          have := hb u0 rfl
          by_cases q : u0 < k + 1
          · simp [q] at hv2
            subst hv2
            simp (disch := omega) only [x_174_0, x_174_1, x_174_4, x_174_5, x_174_6, x_174_7, x_174_8, x_174_9, x_174_10, x_174_13, x_174_16, x_174_17, x_174_20, x_174_21, x_174_22, x_174_23, x_174_24, x_174_26, x_174_29, x_174_30, x_174_31, x_174_32, x_174_33, x_174_34, x_174_35, x_174_38, x_174_39, x_174_40, x_174_43, x_174_46, x_174_47, x_174_50, x_174_51, x_174_52, x_174_53, x_174_54, x_174_55, x_174_56, x_174_57, x_174_60, x_174_61, x_174_64, x_174_65, x_174_66, x_174_67, x_174_70, x_174_71, x_174_72, x_174_75, x_174_76, x_174_79, x_174_80, x_174_81, x_174_82, x_174_83, x_174_84, x_174_85, x_174_86, x_174_87, x_174_88, x_174_91, x_174_92, x_174_93, x_174_96, x_174_97, x_174_100, x_174_101, x_174_102, x_174_103, x_174_104, x_174_105, x_174_106, x_174_107, x_174_108, x_174_111, x_174_112, x_174_115, x_174_116, x_174_117, x_174_118, x_174_119, x_174_120, x_174_121, x_174_122, x_174_123, x_174_124, x_174_130, x_174_133, Hm0, Hm1, hz, hli, a175, c2, hnot, eT', hv', hnx, k0, k1, k2, k3, k4, k5, k6, k7, k8, k9, k10, k11, k12, k13, k14, k15, k16, k20, k24, k30, k32, k46, k56, k60, k69, k88, k99, k100, k125, k255, k338, k398, k422, k17, k18, k19, k21, k22, k23, k25, k26, k27, k28, k29, k31, k33, k34, k35, k36, k37, k38, k39, k40, k41, k42, k43, k44, k45, k47, k48, k49, k50, k51, k52, k53, k54, k55, k57, k58, k59, k61, k62, k63, k64, k70, k71, k96, k109, k114, k115, k119, k124, k128, k216, k256, k999, k1296, k4096, k5184, k9999, k12345, k99999, k100000, k999999999, m_2, m_10, m_999, m_9999, m_999999999, q_in, q_cl, q_mul, q_add, q_sub, q_lt, q_le, q_eq, Nat.reduceAdd, Nat.reduceMul, Nat.reduceSub, Nat.reduceLT, Nat.reduceLeDiff, Nat.reduceEqDiff, Nat.add_zero, Nat.zero_add, Nat.mul_zero, q_addm, q_addn, q_subm, q_0m, q_ngm, sky_0, she_0, sky_1, she_1, sky_2, she_2, sky_3, she_3, m_lt, m_gt, m_eq, m_eq', m_one, m_ng, m_mlt, m_meq, q_sub1, q_sub1m, ↓q_irem, mx0, q_div, lt_T, lt_F, le_T, le_F, eq_T, eq_F, not_true_eq_false, not_false_eq_true, true_and, and_true, false_and, and_false, u1_eq, u1_ne, u2_eq, u2_ne, uJ_eq, uJ_ne, upd_eq', upd_ne', ↓reduceIte, ↓bz_i, ↓bz_l, ↓bz_v, ↓bz_h, ↓bz_c, zs_i, zs_l, zs_v, zs_h, zs_c, zs_n, zn_i, zn_l, zn_v, zn_h, zn_c, zi_i, zi_l, zi_v, zi_h, zi_c, List.append_nil, rr_nk, if_true, if_false, ite_true, ite_false, i01, i10, i00, ite_self, true_or, or_true, or_false, false_or]
          · simp [q] at hv2
            subst hv2
            simp (disch := omega) only [x_174_0, x_174_1, x_174_4, x_174_5, x_174_6, x_174_7, x_174_8, x_174_9, x_174_10, x_174_13, x_174_16, x_174_17, x_174_20, x_174_21, x_174_22, x_174_23, x_174_24, x_174_26, x_174_29, x_174_30, x_174_31, x_174_32, x_174_33, x_174_34, x_174_35, x_174_38, x_174_39, x_174_40, x_174_43, x_174_46, x_174_47, x_174_50, x_174_51, x_174_52, x_174_53, x_174_54, x_174_55, x_174_56, x_174_57, x_174_60, x_174_61, x_174_64, x_174_65, x_174_66, x_174_67, x_174_70, x_174_71, x_174_72, x_174_75, x_174_76, x_174_79, x_174_80, x_174_81, x_174_82, x_174_83, x_174_84, x_174_85, x_174_86, x_174_87, x_174_88, x_174_91, x_174_92, x_174_93, x_174_96, x_174_97, x_174_100, x_174_101, x_174_102, x_174_103, x_174_104, x_174_105, x_174_106, x_174_107, x_174_108, x_174_111, x_174_112, x_174_115, x_174_116, x_174_117, x_174_118, x_174_119, x_174_120, x_174_121, x_174_122, x_174_123, x_174_124, x_174_130, x_174_133, Hm0, Hm1, hz, hli, a175, c2, hnot, eT', hv', hnx, k0, k1, k2, k3, k4, k5, k6, k7, k8, k9, k10, k11, k12, k13, k14, k15, k16, k20, k24, k30, k32, k46, k56, k60, k69, k88, k99, k100, k125, k255, k338, k398, k422, k17, k18, k19, k21, k22, k23, k25, k26, k27, k28, k29, k31, k33, k34, k35, k36, k37, k38, k39, k40, k41, k42, k43, k44, k45, k47, k48, k49, k50, k51, k52, k53, k54, k55, k57, k58, k59, k61, k62, k63, k64, k70, k71, k96, k109, k114, k115, k119, k124, k128, k216, k256, k999, k1296, k4096, k5184, k9999, k12345, k99999, k100000, k999999999, m_2, m_10, m_999, m_9999, m_999999999, q_in, q_cl, q_mul, q_add, q_sub, q_lt, q_le, q_eq, Nat.reduceAdd, Nat.reduceMul, Nat.reduceSub, Nat.reduceLT, Nat.reduceLeDiff, Nat.reduceEqDiff, Nat.add_zero, Nat.zero_add, Nat.mul_zero, q_addm, q_addn, q_subm, q_0m, q_ngm, sky_0, she_0, sky_1, she_1, sky_2, she_2, sky_3, she_3, m_lt, m_gt, m_eq, m_eq', m_one, m_ng, m_mlt, m_meq, q_sub1, q_sub1m, ↓q_irem, mx0, q_div, lt_T, lt_F, le_T, le_F, eq_T, eq_F, not_true_eq_false, not_false_eq_true, true_and, and_true, false_and, and_false, u1_eq, u1_ne, u2_eq, u2_ne, uJ_eq, uJ_ne, upd_eq', upd_ne', ↓reduceIte, ↓bz_i, ↓bz_l, ↓bz_v, ↓bz_h, ↓bz_c, zs_i, zs_l, zs_v, zs_h, zs_c, zs_n, zn_i, zn_l, zn_v, zn_h, zn_c, zi_i, zi_l, zi_v, zi_h, zi_c, List.append_nil, rr_nk, if_true, if_false, ite_true, ite_false, i01, i10, i00, ite_self, true_or, or_true, or_false, false_or]
      obtain ⟨v', l3', a', g1, g2, g3, g4, g5, g6⟩ := ih ((p - 1) &&& s) (u1 A 60 (upd (A 60) s (nI v2))) (some v2) (some (.int (nI 1))) hnl nx_sub (by rw [u1_ne (by omega)]; exact e0) (fun i hi => by rw [u1_ne (by omega)]; exact hP i hi) (fun t ht => by rw [u1_eq, upd_ne' (by omega)]; exact hT t ht) (by rw [u1_eq, upd_eq']; rfl) (fun k e => by cases e; exact hv3)
      rw [u1_u1] at g1
      have vm : ∀ u0, v = some u0 → u0 ≤ v2 := fun u0 e => by
        subst e
        by_cases q : u0 < k + 1
        · simp [q] at hv2; omega
        · simp [q] at hv2; omega
      have vk : k + 1 ≤ v2 := by
        cases v with
        | none => cases hv2; omega
        | some u0 =>
          by_cases q : u0 < k + 1
          · simp [q] at hv2; omega
          · simp [q] at hv2; omega
      obtain ⟨v3, w1, w2⟩ := g4 v2 rfl
      refine ⟨v', l3', a', hstep.trans g1, fun t ht => by rw [g2 t ht, u1_eq, upd_ne' (by omega)], g3, fun u0 e => ⟨v3, w1, by have := vm u0 e; omega⟩, fun q k1 h1 h2 h3 h4 h5 h6 => ?_, ?_⟩
      · by_cases e : q = p
        · subst e; rw [c3] at h6; cases h6; exact ⟨v3, w1, by omega⟩
        · exact g5 q k1 (nx_le _ p s q (Nat.le_refl p) hps h2 (by omega)) h2 h3 h4 h5 h6
      · rcases g6 with g6 | g6
        · cases v with
          | none => cases hv2; exact Or.inr ⟨p, k, hps, p0, c1, c2, c3, g6⟩
          | some u0 =>
            by_cases q : u0 < k + 1
            · simp [q] at hv2; subst hv2; exact Or.inr ⟨p, k, hps, p0, c1, c2, c3, g6⟩
            · simp [q] at hv2; subst hv2; exact Or.inl g6
        · exact Or.inr g6
    · have hstep : ∃ l3'', rx (d + 1) 174 25 [some (.ref 51), some (.int (nI s)), some (.int (nI p)), l3] [] sz us (hp kq fq L xs A B J) = rx (d + 1) 174 25 [some (.ref 51), some (.int (nI s)), some (.int (nI ((p - 1) &&& s))), l3''] [] sz us (hp kq fq L xs A B J) := by
        refine ⟨some (.int (nI 0)), ?_⟩
        have hsf : u1 A 60 (upd (A 60) s (A 60 s)) = A := by rw [upd_sf, u1_self]
        rw [x_174_25]
        by_cases c1 : p.testBit (lbf s) = true
        · rw [if_pos c1] at hli
          by_cases c2 : sS P p n = nI 0
          · have eT' : A 60 (s ^^^ p) = mI 1 := by
              rw [eT]
              cases hr : r (s ^^^ p) with
              | none => rfl
              | some k => exact absurd ⟨c1, c2, k, hr⟩ cand
            simp (disch := omega) only [x_174_0, x_174_1, x_174_4, x_174_5, x_174_6, x_174_7, x_174_8, x_174_9, x_174_10, x_174_13, x_174_16, x_174_17, x_174_20, x_174_21, x_174_22, x_174_23, x_174_24, x_174_26, x_174_29, x_174_30, x_174_31, x_174_32, x_174_33, x_174_34, x_174_35, x_174_38, x_174_39, x_174_40, x_174_43, x_174_46, x_174_47, x_174_50, x_174_51, x_174_52, x_174_53, x_174_54, x_174_55, x_174_56, x_174_57, x_174_60, x_174_61, x_174_64, x_174_65, x_174_66, x_174_67, x_174_70, x_174_71, x_174_72, x_174_75, x_174_76, x_174_79, x_174_80, x_174_81, x_174_82, x_174_83, x_174_84, x_174_85, x_174_86, x_174_87, x_174_88, x_174_91, x_174_92, x_174_93, x_174_96, x_174_97, x_174_100, x_174_101, x_174_102, x_174_103, x_174_104, x_174_105, x_174_106, x_174_107, x_174_108, x_174_111, x_174_112, x_174_115, x_174_116, x_174_117, x_174_118, x_174_119, x_174_120, x_174_121, x_174_122, x_174_123, x_174_124, x_174_130, x_174_133, Hm0, Hm1, hz, hli, a175, c2, hnot, eT', hnx, hsf, k0, k1, k2, k3, k4, k5, k6, k7, k8, k9, k10, k11, k12, k13, k14, k15, k16, k20, k24, k30, k32, k46, k56, k60, k69, k88, k99, k100, k125, k255, k338, k398, k422, k17, k18, k19, k21, k22, k23, k25, k26, k27, k28, k29, k31, k33, k34, k35, k36, k37, k38, k39, k40, k41, k42, k43, k44, k45, k47, k48, k49, k50, k51, k52, k53, k54, k55, k57, k58, k59, k61, k62, k63, k64, k70, k71, k96, k109, k114, k115, k119, k124, k128, k216, k256, k999, k1296, k4096, k5184, k9999, k12345, k99999, k100000, k999999999, m_2, m_10, m_999, m_9999, m_999999999, q_in, q_cl, q_mul, q_add, q_sub, q_lt, q_le, q_eq, Nat.reduceAdd, Nat.reduceMul, Nat.reduceSub, Nat.reduceLT, Nat.reduceLeDiff, Nat.reduceEqDiff, Nat.add_zero, Nat.zero_add, Nat.mul_zero, q_addm, q_addn, q_subm, q_0m, q_ngm, sky_0, she_0, sky_1, she_1, sky_2, she_2, sky_3, she_3, m_lt, m_gt, m_eq, m_eq', m_one, m_ng, m_mlt, m_meq, q_sub1, q_sub1m, ↓q_irem, mx0, q_div, lt_T, lt_F, le_T, le_F, eq_T, eq_F, not_true_eq_false, not_false_eq_true, true_and, and_true, false_and, and_false, ↓reduceIte, ↓bz_i, ↓bz_l, ↓bz_v, ↓bz_h, ↓bz_c, zs_i, zs_l, zs_v, zs_h, zs_c, zs_n, zn_i, zn_l, zn_v, zn_h, zn_c, zi_i, zi_l, zi_v, zi_h, zi_c, List.append_nil, rr_nk, if_true, if_false, ite_true, ite_false, i01, i10, i00, ite_self, true_or, or_true, or_false, false_or]
          · simp (disch := omega) only [x_174_0, x_174_1, x_174_4, x_174_5, x_174_6, x_174_7, x_174_8, x_174_9, x_174_10, x_174_13, x_174_16, x_174_17, x_174_20, x_174_21, x_174_22, x_174_23, x_174_24, x_174_26, x_174_29, x_174_30, x_174_31, x_174_32, x_174_33, x_174_34, x_174_35, x_174_38, x_174_39, x_174_40, x_174_43, x_174_46, x_174_47, x_174_50, x_174_51, x_174_52, x_174_53, x_174_54, x_174_55, x_174_56, x_174_57, x_174_60, x_174_61, x_174_64, x_174_65, x_174_66, x_174_67, x_174_70, x_174_71, x_174_72, x_174_75, x_174_76, x_174_79, x_174_80, x_174_81, x_174_82, x_174_83, x_174_84, x_174_85, x_174_86, x_174_87, x_174_88, x_174_91, x_174_92, x_174_93, x_174_96, x_174_97, x_174_100, x_174_101, x_174_102, x_174_103, x_174_104, x_174_105, x_174_106, x_174_107, x_174_108, x_174_111, x_174_112, x_174_115, x_174_116, x_174_117, x_174_118, x_174_119, x_174_120, x_174_121, x_174_122, x_174_123, x_174_124, x_174_130, x_174_133, Hm0, Hm1, hz, hli, a175, c2, hnot, hnx, hsf, k0, k1, k2, k3, k4, k5, k6, k7, k8, k9, k10, k11, k12, k13, k14, k15, k16, k20, k24, k30, k32, k46, k56, k60, k69, k88, k99, k100, k125, k255, k338, k398, k422, k17, k18, k19, k21, k22, k23, k25, k26, k27, k28, k29, k31, k33, k34, k35, k36, k37, k38, k39, k40, k41, k42, k43, k44, k45, k47, k48, k49, k50, k51, k52, k53, k54, k55, k57, k58, k59, k61, k62, k63, k64, k70, k71, k96, k109, k114, k115, k119, k124, k128, k216, k256, k999, k1296, k4096, k5184, k9999, k12345, k99999, k100000, k999999999, m_2, m_10, m_999, m_9999, m_999999999, q_in, q_cl, q_mul, q_add, q_sub, q_lt, q_le, q_eq, Nat.reduceAdd, Nat.reduceMul, Nat.reduceSub, Nat.reduceLT, Nat.reduceLeDiff, Nat.reduceEqDiff, Nat.add_zero, Nat.zero_add, Nat.mul_zero, q_addm, q_addn, q_subm, q_0m, q_ngm, sky_0, she_0, sky_1, she_1, sky_2, she_2, sky_3, she_3, m_lt, m_gt, m_eq, m_eq', m_one, m_ng, m_mlt, m_meq, q_sub1, q_sub1m, ↓q_irem, mx0, q_div, lt_T, lt_F, le_T, le_F, eq_T, eq_F, not_true_eq_false, not_false_eq_true, true_and, and_true, false_and, and_false, ↓reduceIte, ↓bz_i, ↓bz_l, ↓bz_v, ↓bz_h, ↓bz_c, zs_i, zs_l, zs_v, zs_h, zs_c, zs_n, zn_i, zn_l, zn_v, zn_h, zn_c, zi_i, zi_l, zi_v, zi_h, zi_c, List.append_nil, rr_nk, if_true, if_false, ite_true, ite_false, i01, i10, i00, ite_self, true_or, or_true, or_false, false_or]
        · rw [if_neg c1] at hli
          simp (disch := omega) only [x_174_0, x_174_1, x_174_4, x_174_5, x_174_6, x_174_7, x_174_8, x_174_9, x_174_10, x_174_13, x_174_16, x_174_17, x_174_20, x_174_21, x_174_22, x_174_23, x_174_24, x_174_26, x_174_29, x_174_30, x_174_31, x_174_32, x_174_33, x_174_34, x_174_35, x_174_38, x_174_39, x_174_40, x_174_43, x_174_46, x_174_47, x_174_50, x_174_51, x_174_52, x_174_53, x_174_54, x_174_55, x_174_56, x_174_57, x_174_60, x_174_61, x_174_64, x_174_65, x_174_66, x_174_67, x_174_70, x_174_71, x_174_72, x_174_75, x_174_76, x_174_79, x_174_80, x_174_81, x_174_82, x_174_83, x_174_84, x_174_85, x_174_86, x_174_87, x_174_88, x_174_91, x_174_92, x_174_93, x_174_96, x_174_97, x_174_100, x_174_101, x_174_102, x_174_103, x_174_104, x_174_105, x_174_106, x_174_107, x_174_108, x_174_111, x_174_112, x_174_115, x_174_116, x_174_117, x_174_118, x_174_119, x_174_120, x_174_121, x_174_122, x_174_123, x_174_124, x_174_130, x_174_133, Hm0, Hm1, hz, hli, hnx, hsf, k0, k1, k2, k3, k4, k5, k6, k7, k8, k9, k10, k11, k12, k13, k14, k15, k16, k20, k24, k30, k32, k46, k56, k60, k69, k88, k99, k100, k125, k255, k338, k398, k422, k17, k18, k19, k21, k22, k23, k25, k26, k27, k28, k29, k31, k33, k34, k35, k36, k37, k38, k39, k40, k41, k42, k43, k44, k45, k47, k48, k49, k50, k51, k52, k53, k54, k55, k57, k58, k59, k61, k62, k63, k64, k70, k71, k96, k109, k114, k115, k119, k124, k128, k216, k256, k999, k1296, k4096, k5184, k9999, k12345, k99999, k100000, k999999999, m_2, m_10, m_999, m_9999, m_999999999, q_in, q_cl, q_mul, q_add, q_sub, q_lt, q_le, q_eq, Nat.reduceAdd, Nat.reduceMul, Nat.reduceSub, Nat.reduceLT, Nat.reduceLeDiff, Nat.reduceEqDiff, Nat.add_zero, Nat.zero_add, Nat.mul_zero, q_addm, q_addn, q_subm, q_0m, q_ngm, sky_0, she_0, sky_1, she_1, sky_2, she_2, sky_3, she_3, m_lt, m_gt, m_eq, m_eq', m_one, m_ng, m_mlt, m_meq, q_sub1, q_sub1m, ↓q_irem, mx0, q_div, lt_T, lt_F, le_T, le_F, eq_T, eq_F, not_true_eq_false, not_false_eq_true, true_and, and_true, false_and, and_false, ↓reduceIte, ↓bz_i, ↓bz_l, ↓bz_v, ↓bz_h, ↓bz_c, zs_i, zs_l, zs_v, zs_h, zs_c, zs_n, zn_i, zn_l, zn_v, zn_h, zn_c, zi_i, zi_l, zi_v, zi_h, zi_c, List.append_nil, rr_nk, if_true, if_false, ite_true, ite_false, i01, i10, i00, ite_self, true_or, or_true, or_false, false_or]
      obtain ⟨l3'', hstep⟩ := hstep
      obtain ⟨v', l3', a', g1, g2, g3, g4, g5, g6⟩ := ih ((p - 1) &&& s) A v l3'' hnl nx_sub e0 hP hT hv hb
      refine ⟨v', l3', a', hstep.trans g1, g2, g3, g4, fun q k1 h1 h2 h3 h4 h5 h6 => ?_, g6⟩
      by_cases e : q = p
      · subst e; exact absurd ⟨h4, h5, k1, h6⟩ cand
      · exact g5 q k1 (nx_le _ p s q (Nat.le_refl p) hps h2 (by omega)) h2 h3 h4 h5 h6
end SE

/-! ===== does what is owed look at SUMS; a Forecast is made ===== -/
theorem sh_fq {f : Nat} {kq : Option Nat} {L : Nat} {xs : Nat → Int32} {j : Nat} {a b : Nat → Int32} {w : Nat → Int64} (h0 : j ≠ 0) (hj : ¬ (f ≤ j ∧ j < f + 7)) : sh kq (some f) L xs j a b w = sh kq none L xs j a b w := by
  unfold sh
  by_cases h : j < 71
  · rw [if_pos h, if_pos h]
    obtain ⟨i, rfl⟩ : ∃ i, j = i + 1 := ⟨j - 1, by omega⟩
    rfl
  · rw [if_neg h, if_neg h]
    by_cases h2 : 1000000 ≤ j ∧ j < 1000004
    · rw [if_pos h2, if_pos h2]
    · rw [if_neg h2, if_neg h2]
      have e : sh_fx (some f) j a b = sh_fx none j a b := by
        unfold sh_fx
        simp only
        rw [if_neg hj]
      unfold sh_kx
      cases kq with
      | none => exact e
      | some q =>
        simp only
        by_cases h3 : q ≤ j ∧ j < q + 24
        · rw [if_pos h3, if_pos h3]
        · rw [if_neg h3, if_neg h3]; exact e
def nwG (f : Nat) (A : rrA) : rrA := fun j => if f ≤ j ∧ j < f + 7 then (fun _ => nI 0) else A j
section NF
variable {us sz : Nat} {kq fq : Option Nat} {L : Nat} {xs : Nat → Int32} {A B A0 B0 : Nat → Nat → Int32} {J : Nat → Nat → Int64} {n nl z : Nat} {W D M K V : Nat → Nat} {law : Option Nat}
set_option maxRecDepth 20000 in
set_option maxHeartbeats 4000000 in
theorem nf71 (d : Nat) : rx (d + 9) 89 0 [some (.ref 0)] [] 71 us (hp none none L xs A B J) = some (some (.ref 71), 78, us + 14701, hp none (some 71) L xs (nwG 71 A) (nwG 71 B) J) := by
  simp (disch := omega) only [x_89_0, x_89_1, xn_89_4, x_89_4, x_89_7, x_89_8, x_89_11, x_89_12, x_89_15, x_89_18, x_89_19, x_89_22, x_90_0, x_90_1, x_90_4, x_90_5, x_90_8, x_90_10, x_90_13, x_90_14, x_90_17, x_90_19, x_90_22, x_90_23, x_90_25, x_90_27, x_90_30, x_90_31, x_90_33, x_90_35, x_90_38, x_90_39, x_90_42, x_90_44, x_90_47, x_90_48, x_90_51, x_90_53, x_90_56, Hc0 none none L xs A B J 71 (by omega), vrn, up_ap, mul_ap, gf_c, gfc_o, pf_c, pfc_o, hp_ap, sh_0, List.set_cons_zero, List.set_cons_succ, List.length_cons, List.length_nil, List.getElem?_cons_zero, List.getElem?_cons_succ, k0, k1, k2, k3, k4, k5, k6, k7, k8, k9, k10, k11, k12, k13, k14, k15, k16, k20, k24, k30, k32, k46, k56, k60, k69, k88, k99, k100, k125, k255, k338, k398, k422, k17, k18, k19, k21, k22, k23, k25, k26, k27, k28, k29, k31, k33, k34, k35, k36, k37, k38, k39, k40, k41, k42, k43, k44, k45, k47, k48, k49, k50, k51, k52, k53, k54, k55, k57, k58, k59, k61, k62, k63, k64, k70, k71, k96, k109, k114, k115, k119, k124, k128, k216, k256, k999, k1296, k4096, k5184, k9999, k12345, k99999, k100000, k999999999, m_2, m_10, m_999, m_9999, m_999999999, q_in, q_cl, q_mul, q_add, q_sub, q_lt, q_le, q_eq, Nat.reduceAdd, Nat.reduceMul, Nat.reduceSub, Nat.reduceLT, Nat.reduceLeDiff, Nat.reduceEqDiff, Nat.add_zero, Nat.zero_add, Nat.mul_zero, q_addm, q_addn, q_subm, q_0m, q_ngm, sky_0, she_0, sky_1, she_1, sky_2, she_2, sky_3, she_3, m_lt, m_gt, m_eq, m_eq', m_one, m_ng, m_mlt, m_meq, q_sub1, q_sub1m, ↓q_irem, mx0, q_div, lt_T, lt_F, le_T, le_F, eq_T, eq_F, not_true_eq_false, not_false_eq_true, true_and, and_true, false_and, and_false, ↓reduceIte, ↓bz_i, ↓bz_l, ↓bz_v, ↓bz_h, ↓bz_c, zs_i, zs_l, zs_v, zs_h, zs_c, zs_n, zn_i, zn_l, zn_v, zn_h, zn_c, zi_i, zi_l, zi_v, zi_h, zi_c, List.append_nil, rr_nk, if_true, if_false, ite_true, ite_false, i01, i10, i00, ite_self, true_or, or_true, or_false, false_or]
  congr 4
  funext j
  by_cases h : 71 ≤ j ∧ j < 71 + 7
  · have h24 : j = 71 ∨ j = 72 ∨ j = 73 ∨ j = 74 ∨ j = 75 ∨ j = 76 ∨ j = 77 := by omega
    rcases h24 with rfl | rfl | rfl | rfl | rfl | rfl | rfl <;> rfl
  · by_cases h0 : j = 0
    · subst h0; rfl
    · simp (disch := omega) only [up_ap, mul_ap, eq_F, lt_F, hp_ap, sh_fq, nwG, if_false, and_false, false_and, if_neg h, ite_self, ↓reduceIte, ↓bz_i, ↓bz_l, ↓bz_v, ↓bz_h, ↓bz_c, zs_i, zs_l, zs_v, zs_h, zs_c, zs_n, zn_i, zn_l, zn_v, zn_h, zn_c, zi_i, zi_l, zi_v, zi_h, zi_c, List.append_nil, rr_nk, if_true, if_false, ite_true, ite_false, i01, i10, i00, ite_self, true_or, or_true, or_false, false_or]
      try rw [if_neg (by omega)]
set_option maxRecDepth 20000 in
set_option maxHeartbeats 4000000 in
theorem nf95 (d : Nat) : rx (d + 9) 89 0 [some (.ref 0)] [] 95 us (hp (some 71) none L xs A B J) = some (some (.ref 95), 102, us + 14701, hp (some 71) (some 95) L xs (nwG 95 A) (nwG 95 B) J) := by
  simp (disch := omega) only [x_89_0, x_89_1, xn_89_4, x_89_4, x_89_7, x_89_8, x_89_11, x_89_12, x_89_15, x_89_18, x_89_19, x_89_22, x_90_0, x_90_1, x_90_4, x_90_5, x_90_8, x_90_10, x_90_13, x_90_14, x_90_17, x_90_19, x_90_22, x_90_23, x_90_25, x_90_27, x_90_30, x_90_31, x_90_33, x_90_35, x_90_38, x_90_39, x_90_42, x_90_44, x_90_47, x_90_48, x_90_51, x_90_53, x_90_56, Hc0 (some 71) none L xs A B J 95 (by omega), vrn, up_ap, mul_ap, gf_c, gfc_o, pf_c, pfc_o, hp_ap, sh_0, List.set_cons_zero, List.set_cons_succ, List.length_cons, List.length_nil, List.getElem?_cons_zero, List.getElem?_cons_succ, k0, k1, k2, k3, k4, k5, k6, k7, k8, k9, k10, k11, k12, k13, k14, k15, k16, k20, k24, k30, k32, k46, k56, k60, k69, k88, k99, k100, k125, k255, k338, k398, k422, k17, k18, k19, k21, k22, k23, k25, k26, k27, k28, k29, k31, k33, k34, k35, k36, k37, k38, k39, k40, k41, k42, k43, k44, k45, k47, k48, k49, k50, k51, k52, k53, k54, k55, k57, k58, k59, k61, k62, k63, k64, k70, k71, k96, k109, k114, k115, k119, k124, k128, k216, k256, k999, k1296, k4096, k5184, k9999, k12345, k99999, k100000, k999999999, m_2, m_10, m_999, m_9999, m_999999999, q_in, q_cl, q_mul, q_add, q_sub, q_lt, q_le, q_eq, Nat.reduceAdd, Nat.reduceMul, Nat.reduceSub, Nat.reduceLT, Nat.reduceLeDiff, Nat.reduceEqDiff, Nat.add_zero, Nat.zero_add, Nat.mul_zero, q_addm, q_addn, q_subm, q_0m, q_ngm, sky_0, she_0, sky_1, she_1, sky_2, she_2, sky_3, she_3, m_lt, m_gt, m_eq, m_eq', m_one, m_ng, m_mlt, m_meq, q_sub1, q_sub1m, ↓q_irem, mx0, q_div, lt_T, lt_F, le_T, le_F, eq_T, eq_F, not_true_eq_false, not_false_eq_true, true_and, and_true, false_and, and_false, ↓reduceIte, ↓bz_i, ↓bz_l, ↓bz_v, ↓bz_h, ↓bz_c, zs_i, zs_l, zs_v, zs_h, zs_c, zs_n, zn_i, zn_l, zn_v, zn_h, zn_c, zi_i, zi_l, zi_v, zi_h, zi_c, List.append_nil, rr_nk, if_true, if_false, ite_true, ite_false, i01, i10, i00, ite_self, true_or, or_true, or_false, false_or]
  congr 4
  funext j
  by_cases h : 95 ≤ j ∧ j < 95 + 7
  · have h24 : j = 95 ∨ j = 96 ∨ j = 97 ∨ j = 98 ∨ j = 99 ∨ j = 100 ∨ j = 101 := by omega
    rcases h24 with rfl | rfl | rfl | rfl | rfl | rfl | rfl <;> rfl
  · by_cases h0 : j = 0
    · subst h0; rfl
    · simp (disch := omega) only [up_ap, mul_ap, eq_F, lt_F, hp_ap, sh_fq, nwG, if_false, and_false, false_and, if_neg h, ite_self, ↓reduceIte, ↓bz_i, ↓bz_l, ↓bz_v, ↓bz_h, ↓bz_c, zs_i, zs_l, zs_v, zs_h, zs_c, zs_n, zn_i, zn_l, zn_v, zn_h, zn_c, zi_i, zi_l, zi_v, zi_h, zi_c, List.append_nil, rr_nk, if_true, if_false, ite_true, ite_false, i01, i10, i00, ite_self, true_or, or_true, or_false, false_or]
      try rw [if_neg (by omega)]
theorem QR.f2 {f : Nat} (h : QR kq (some f) sz us) : 71 ≤ f ∧ f ≤ 95 ∧ f + 7 ≤ sz ∧ ∀ q, kq = some q → q + 24 ≤ f ∨ f + 7 ≤ q := by
  rcases h with h | h | h | h | h
  · cases h.2.1
  · cases h.2.1
  · obtain ⟨h1, h2, h3, h4⟩ := h
    cases h2
    exact ⟨by omega, by omega, by omega, fun q hq => by rw [h1] at hq; cases hq⟩
  · obtain ⟨h1, h2, h3, h4⟩ := h
    cases h2
    exact ⟨by omega, by omega, by omega, fun q hq => by rw [h1] at hq; cases hq; omega⟩
  · obtain ⟨h1, h2, h3, h4⟩ := h
    cases h2
    exact ⟨by omega, by omega, by omega, fun q hq => by rw [h1] at hq; cases hq; omega⟩
theorem nwG_n {f : Nat} {A : rrA} {i : Nat} (h : ¬ (f ≤ i ∧ i < f + 7)) : nwG f A i = A i := if_neg h
/-- with a Forecast made, all is as it was -/
theorem Inv.mkf {c f : Nat} {sz1 us1 : Nat} (h : Inv c kq none sz us A B) (hQ : QR kq (some f) sz1 us1) : Inv c kq (some f) sz1 us1 (nwG f A) (nwG f B) := by
  obtain ⟨hS, hO, ⟨⟨m, n1, b2, b3, b4⟩, hK, hF⟩, hQ0, hz0⟩ := h
  obtain ⟨f1, f2, f3, f4⟩ := hQ.f2
  refine ⟨hS.congr (fun i i1 i2 => nwG_n (by omega)) (fun i i1 i2 => nwG_n (by omega)) (nwG_n (by omega)), hO.congr (fun i hi => nwG_n (by omega)) (fun i hi => nwG_n (by omega)) (by rw [nwG_n (by omega)]), ⟨⟨m, n1, by rw [nwG_n (by omega)]; exact b2, by rw [nwG_n (by omega)]; exact b3, b4⟩, fun q hq => ?_, fun g hg => ?_⟩, ⟨hQ, by rw [nwG_n (by omega)]; exact hz0.1, by rw [nwG_n (by omega)]; exact hz0.2⟩⟩
  · have hq2 := f4 q hq
    have hq3 := hQ.k hq
    rw [nwG_n (by omega)]
    exact (hK q hq).congr (fun i i1 i2 => nwG_n (by omega)) (fun i i1 i2 => nwG_n (by omega)) rfl
  · cases hg
    refine ⟨0, by omega, ?_, fun i hi => ⟨0, by omega, ?_⟩⟩
    · unfold nwG; rw [if_pos (by omega)]
    · unfold nwG; rw [if_pos (by omega)]
theorem ahead {c : Nat} (d : Nat) (hI : Inv c kq fq sz us A B) : ∃ f sz1 us1 A1 B1, rx (d + 9) 89 0 [some (.ref 0)] [] sz us (hp kq fq L xs A B J) = some (some (.ref f), sz1, us1, hp kq (some f) L xs A1 B1 J) ∧ Inv c kq (some f) sz1 us1 A1 B1 ∧ FT kq (some f) L xs f ∧ f + 7 ≤ sz1 ∧ 71 ≤ f ∧ f ≤ 95 ∧ ∀ i, i < 71 → A1 i = A i ∧ B1 i = B i := by
  cases hfq : fq with
  | some f =>
    subst hfq
    obtain ⟨f1, f2, f3, f4⟩ := hI.2.2.2.1.f2
    have hz := hI.2.2.2.z
    refine ⟨f, sz, us, A, B, ?_, hI, FT.mk f1 (by omega) f4, f3, f1, f2, fun _ _ => ⟨rfl, rfl⟩⟩
    simp (disch := omega) only [x_89_0, x_89_1, xn_89_4, x_89_4, x_89_7, x_89_8, x_89_11, x_89_12, x_89_15, x_89_18, x_89_19, x_89_22, Hc0, Hc1, Hc2, Hc3, Hc4, vrs, k0, k1, k2, k3, k4, k5, k6, k7, k8, k9, k10, k11, k12, k13, k14, k15, k16, k20, k24, k30, k32, k46, k56, k60, k69, k88, k99, k100, k125, k255, k338, k398, k422, k17, k18, k19, k21, k22, k23, k25, k26, k27, k28, k29, k31, k33, k34, k35, k36, k37, k38, k39, k40, k41, k42, k43, k44, k45, k47, k48, k49, k50, k51, k52, k53, k54, k55, k57, k58, k59, k61, k62, k63, k64, k70, k71, k96, k109, k114, k115, k119, k124, k128, k216, k256, k999, k1296, k4096, k5184, k9999, k12345, k99999, k100000, k999999999, m_2, m_10, m_999, m_9999, m_999999999, q_in, q_cl, q_mul, q_add, q_sub, q_lt, q_le, q_eq, Nat.reduceAdd, Nat.reduceMul, Nat.reduceSub, Nat.reduceLT, Nat.reduceLeDiff, Nat.reduceEqDiff, Nat.add_zero, Nat.zero_add, Nat.mul_zero, q_addm, q_addn, q_subm, q_0m, q_ngm, sky_0, she_0, sky_1, she_1, sky_2, she_2, sky_3, she_3, m_lt, m_gt, m_eq, m_eq', m_one, m_ng, m_mlt, m_meq, q_sub1, q_sub1m, ↓q_irem, mx0, q_div, lt_T, lt_F, le_T, le_F, eq_T, eq_F, not_true_eq_false, not_false_eq_true, true_and, and_true, false_and, and_false, ↓reduceIte, ↓bz_i, ↓bz_l, ↓bz_v, ↓bz_h, ↓bz_c, zs_i, zs_l, zs_v, zs_h, zs_c, zs_n, zn_i, zn_l, zn_v, zn_h, zn_c, zi_i, zi_l, zi_v, zi_h, zi_c, List.append_nil, rr_nk, if_true, if_false, ite_true, ite_false, i01, i10, i00, ite_self, true_or, or_true, or_false, false_or]
  | none =>
    subst hfq
    rcases hI.2.2.2.1 with h | h | h | h | h
    · obtain ⟨h1, h2, h3, h4⟩ := id h
      subst h1; subst h3
      have hQ : QR none (some 71) 78 (us + 14701) := Or.inr (Or.inr (Or.inl ⟨rfl, rfl, rfl, by omega⟩))
      have hI2 := hI.mkf hQ
      exact ⟨71, 78, us + 14701, _, _, nf71 d, hI2, FT.mk (by omega) (by omega) (fun q hq => by cases hq), by omega, by omega, by omega, fun i hi => ⟨nwG_n (by omega), nwG_n (by omega)⟩⟩
    · obtain ⟨h1, h2, h3, h4⟩ := id h
      subst h1; subst h3
      have hQ : QR (some 71) (some 95) 102 (us + 14701) := Or.inr (Or.inr (Or.inr (Or.inl ⟨rfl, rfl, rfl, by omega⟩)))
      have hI2 := hI.mkf hQ
      exact ⟨95, 102, us + 14701, _, _, nf95 d, hI2, FT.mk (by omega) (by omega) (fun q hq => by cases hq; omega), by omega, by omega, by omega, fun i hi => ⟨nwG_n (by omega), nwG_n (by omega)⟩⟩
    · cases h.2.1
    · cases h.2.1
    · cases h.2.1
/-! what is owed, and SUMS -/
set_option maxRecDepth 20000 in
theorem lp93 (hz : 71 ≤ sz) (d : Nat) (z6 : z ≤ 60) (h19 : B 19 2 = nI z) : ∀ (m k : Nat) (fd : Bool), m + k = z → ∃ r : Bool, rx d 93 4 [some (.ref 19), some (.int (nI 115)), some (.int (nI (bN fd))), some (.int (nI k))] [] sz us (hp kq fq L xs A B J) = some (some (.int (nI (bN r))), sz, us, hp kq fq L xs A B J) ∧ (r = false → fd = false ∧ ∀ i, k ≤ i → i < z → A 20 i ≠ mI 115) := by
  intro m
  induction m with
  | zero =>
    intro k fd hk
    have : k = z := by omega
    subst this
    refine ⟨fd, ?_, fun h => ⟨h, fun i h1 h2 => by omega⟩⟩
    rw [x_93_4]
    cases fd <;> simp (disch := omega) only [x_93_0, x_93_1, x_93_2, x_93_3, x_93_5, x_93_6, x_93_9, x_93_12, x_93_13, x_93_16, x_93_17, x_93_20, x_93_21, x_93_22, x_93_23, x_93_24, x_93_25, x_93_28, x_93_29, x_93_32, x_93_33, x_93_34, x_93_37, x_93_40, x_93_41, Hc0, Hc1, Hc2, Hc3, Hc4, hz, h19, bN, Bool.false_eq_true, if_true, if_false, k0, k1, k2, k3, k4, k5, k6, k7, k8, k9, k10, k11, k12, k13, k14, k15, k16, k20, k24, k30, k32, k46, k56, k60, k69, k88, k99, k100, k125, k255, k338, k398, k422, k17, k18, k19, k21, k22, k23, k25, k26, k27, k28, k29, k31, k33, k34, k35, k36, k37, k38, k39, k40, k41, k42, k43, k44, k45, k47, k48, k49, k50, k51, k52, k53, k54, k55, k57, k58, k59, k61, k62, k63, k64, k70, k71, k96, k109, k114, k115, k119, k124, k128, k216, k256, k999, k1296, k4096, k5184, k9999, k12345, k99999, k100000, k999999999, m_2, m_10, m_999, m_9999, m_999999999, q_in, q_cl, q_mul, q_add, q_sub, q_lt, q_le, q_eq, Nat.reduceAdd, Nat.reduceMul, Nat.reduceSub, Nat.reduceLT, Nat.reduceLeDiff, Nat.reduceEqDiff, Nat.add_zero, Nat.zero_add, Nat.mul_zero, q_addm, q_addn, q_subm, q_0m, q_ngm, sky_0, she_0, sky_1, she_1, sky_2, she_2, sky_3, she_3, m_lt, m_gt, m_eq, m_eq', m_one, m_ng, m_mlt, m_meq, q_sub1, q_sub1m, ↓q_irem, mx0, q_div, lt_T, lt_F, le_T, le_F, eq_T, eq_F, not_true_eq_false, not_false_eq_true, true_and, and_true, false_and, and_false, ↓reduceIte, ↓bz_i, ↓bz_l, ↓bz_v, ↓bz_h, ↓bz_c, zs_i, zs_l, zs_v, zs_h, zs_c, zs_n, zn_i, zn_l, zn_v, zn_h, zn_c, zi_i, zi_l, zi_v, zi_h, zi_c, List.append_nil, rr_nk, if_true, if_false, ite_true, ite_false, i01, i10, i00, ite_self, true_or, or_true, or_false, false_or]
  | succ m ih =>
    intro k fd hk
    cases fd with
    | true =>
      obtain ⟨r, e, h1⟩ := ih (k + 1) true (by omega)
      refine ⟨r, Eq.trans ?_ e, fun h => by have := (h1 h).1; cases this⟩
      rw [x_93_4]
      simp (disch := omega) only [x_93_0, x_93_1, x_93_2, x_93_3, x_93_5, x_93_6, x_93_9, x_93_12, x_93_13, x_93_16, x_93_17, x_93_20, x_93_21, x_93_22, x_93_23, x_93_24, x_93_25, x_93_28, x_93_29, x_93_32, x_93_33, x_93_34, x_93_37, x_93_40, x_93_41, Hc0, Hc1, Hc2, Hc3, Hc4, hz, h19, bN, if_true, k0, k1, k2, k3, k4, k5, k6, k7, k8, k9, k10, k11, k12, k13, k14, k15, k16, k20, k24, k30, k32, k46, k56, k60, k69, k88, k99, k100, k125, k255, k338, k398, k422, k17, k18, k19, k21, k22, k23, k25, k26, k27, k28, k29, k31, k33, k34, k35, k36, k37, k38, k39, k40, k41, k42, k43, k44, k45, k47, k48, k49, k50, k51, k52, k53, k54, k55, k57, k58, k59, k61, k62, k63, k64, k70, k71, k96, k109, k114, k115, k119, k124, k128, k216, k256, k999, k1296, k4096, k5184, k9999, k12345, k99999, k100000, k999999999, m_2, m_10, m_999, m_9999, m_999999999, q_in, q_cl, q_mul, q_add, q_sub, q_lt, q_le, q_eq, Nat.reduceAdd, Nat.reduceMul, Nat.reduceSub, Nat.reduceLT, Nat.reduceLeDiff, Nat.reduceEqDiff, Nat.add_zero, Nat.zero_add, Nat.mul_zero, q_addm, q_addn, q_subm, q_0m, q_ngm, sky_0, she_0, sky_1, she_1, sky_2, she_2, sky_3, she_3, m_lt, m_gt, m_eq, m_eq', m_one, m_ng, m_mlt, m_meq, q_sub1, q_sub1m, ↓q_irem, mx0, q_div, lt_T, lt_F, le_T, le_F, eq_T, eq_F, not_true_eq_false, not_false_eq_true, true_and, and_true, false_and, and_false, ↓reduceIte, ↓bz_i, ↓bz_l, ↓bz_v, ↓bz_h, ↓bz_c, zs_i, zs_l, zs_v, zs_h, zs_c, zs_n, zn_i, zn_l, zn_v, zn_h, zn_c, zi_i, zi_l, zi_v, zi_h, zi_c, List.append_nil, rr_nk, if_true, if_false, ite_true, ite_false, i01, i10, i00, ite_self, true_or, or_true, or_false, false_or]
    | false =>
      by_cases q : A 20 k = mI 115
      · obtain ⟨r, e, h1⟩ := ih (k + 1) true (by omega)
        refine ⟨r, Eq.trans ?_ e, fun h => by have := (h1 h).1; cases this⟩
        rw [x_93_4]
        simp (disch := omega) only [x_93_0, x_93_1, x_93_2, x_93_3, x_93_5, x_93_6, x_93_9, x_93_12, x_93_13, x_93_16, x_93_17, x_93_20, x_93_21, x_93_22, x_93_23, x_93_24, x_93_25, x_93_28, x_93_29, x_93_32, x_93_33, x_93_34, x_93_37, x_93_40, x_93_41, Hc0, Hc1, Hc2, Hc3, Hc4, hz, h19, q, bN, Bool.false_eq_true, if_true, if_false, k0, k1, k2, k3, k4, k5, k6, k7, k8, k9, k10, k11, k12, k13, k14, k15, k16, k20, k24, k30, k32, k46, k56, k60, k69, k88, k99, k100, k125, k255, k338, k398, k422, k17, k18, k19, k21, k22, k23, k25, k26, k27, k28, k29, k31, k33, k34, k35, k36, k37, k38, k39, k40, k41, k42, k43, k44, k45, k47, k48, k49, k50, k51, k52, k53, k54, k55, k57, k58, k59, k61, k62, k63, k64, k70, k71, k96, k109, k114, k115, k119, k124, k128, k216, k256, k999, k1296, k4096, k5184, k9999, k12345, k99999, k100000, k999999999, m_2, m_10, m_999, m_9999, m_999999999, q_in, q_cl, q_mul, q_add, q_sub, q_lt, q_le, q_eq, Nat.reduceAdd, Nat.reduceMul, Nat.reduceSub, Nat.reduceLT, Nat.reduceLeDiff, Nat.reduceEqDiff, Nat.add_zero, Nat.zero_add, Nat.mul_zero, q_addm, q_addn, q_subm, q_0m, q_ngm, sky_0, she_0, sky_1, she_1, sky_2, she_2, sky_3, she_3, m_lt, m_gt, m_eq, m_eq', m_one, m_ng, m_mlt, m_meq, q_sub1, q_sub1m, ↓q_irem, mx0, q_div, lt_T, lt_F, le_T, le_F, eq_T, eq_F, not_true_eq_false, not_false_eq_true, true_and, and_true, false_and, and_false, ↓reduceIte, ↓bz_i, ↓bz_l, ↓bz_v, ↓bz_h, ↓bz_c, zs_i, zs_l, zs_v, zs_h, zs_c, zs_n, zn_i, zn_l, zn_v, zn_h, zn_c, zi_i, zi_l, zi_v, zi_h, zi_c, List.append_nil, rr_nk, if_true, if_false, ite_true, ite_false, i01, i10, i00, ite_self, true_or, or_true, or_false, false_or]
      · obtain ⟨r, e, h1⟩ := ih (k + 1) false (by omega)
        refine ⟨r, Eq.trans ?_ e, fun h => ⟨rfl, fun i i1 i2 => ?_⟩⟩
        · have q' : (A 20 k = mI (115 - 0)) = False := eq_false q
          have q'' : (A 20 k = mI 115) = False := eq_false q
          rw [x_93_4]
          simp (disch := omega) only [x_93_0, x_93_1, x_93_2, x_93_3, x_93_5, x_93_6, x_93_9, x_93_12, x_93_13, x_93_16, x_93_17, x_93_20, x_93_21, x_93_22, x_93_23, x_93_24, x_93_25, x_93_28, x_93_29, x_93_32, x_93_33, x_93_34, x_93_37, x_93_40, x_93_41, Hc0, Hc1, Hc2, Hc3, Hc4, hz, h19, ↓q', ↓q'', bN, Bool.false_eq_true, if_false, k0, k1, k2, k3, k4, k5, k6, k7, k8, k9, k10, k11, k12, k13, k14, k15, k16, k20, k24, k30, k32, k46, k56, k60, k69, k88, k99, k100, k125, k255, k338, k398, k422, k17, k18, k19, k21, k22, k23, k25, k26, k27, k28, k29, k31, k33, k34, k35, k36, k37, k38, k39, k40, k41, k42, k43, k44, k45, k47, k48, k49, k50, k51, k52, k53, k54, k55, k57, k58, k59, k61, k62, k63, k64, k70, k71, k96, k109, k114, k115, k119, k124, k128, k216, k256, k999, k1296, k4096, k5184, k9999, k12345, k99999, k100000, k999999999, m_2, m_10, m_999, m_9999, m_999999999, q_in, q_cl, q_mul, q_add, q_sub, q_lt, q_le, q_eq, Nat.reduceAdd, Nat.reduceMul, Nat.reduceSub, Nat.reduceLT, Nat.reduceLeDiff, Nat.reduceEqDiff, Nat.add_zero, Nat.zero_add, Nat.mul_zero, q_addm, q_addn, q_subm, q_0m, q_ngm, sky_0, she_0, sky_1, she_1, sky_2, she_2, sky_3, she_3, m_lt, m_gt, m_eq, m_eq', m_one, m_ng, m_mlt, m_meq, q_sub1, q_sub1m, ↓q_irem, mx0, q_div, lt_T, lt_F, le_T, le_F, eq_T, eq_F, not_true_eq_false, not_false_eq_true, true_and, and_true, false_and, and_false, ↓reduceIte, ↓bz_i, ↓bz_l, ↓bz_v, ↓bz_h, ↓bz_c, zs_i, zs_l, zs_v, zs_h, zs_c, zs_n, zn_i, zn_l, zn_v, zn_h, zn_c, zi_i, zi_l, zi_v, zi_h, zi_c, List.append_nil, rr_nk, if_true, if_false, ite_true, ite_false, i01, i10, i00, ite_self, true_or, or_true, or_false, false_or]
        · by_cases e : i = k
          · subst e; exact q
          · exact (h1 h).2 i (by omega) i2
theorem OW_in (hT : ∀ k, k < z → okS 0 (K k) (V k) ∧ A 20 k = cS (K k) (V k)) (hd : z = 0 ∨ dTs K z 0 = some 1) {l : Nat} (d6 : D l ≤ 6) (h4 : D l ≠ 4) (h6 : D l = 6 → ∀ i, i < z → A 20 i ≠ mI 115) (r w s s' : Nat) : OW z D M K V (some l) r w s = OW z D M K V (some l) r w s' := by
  show owV (D l) (M l) r w s (toV z K V (M l) r w s) = owV (D l) (M l) r w s' (toV z K V (M l) r w s')
  unfold owV
  by_cases e : D l = 6
  · have : toV z K V (M l) r w s = toV z K V (M l) r w s' := by
      unfold toV
      by_cases z0 : z = 0
      · rw [if_pos z0, if_pos z0]
      · rw [if_neg z0, if_neg z0]
        congr 1
        show (evr (nmF (nI r) (nI w) (nI s) (nI (M l))) K V z 0 (0, fun _ => nI 0)).2 0 = _
        refine tv_of (fun j hj hK => ?_) (hd.resolve_left z0)
        have hv : V j ≠ 115 := fun ev => h6 e j hj (by rw [(hT j hj).2, hK, ev]; rfl)
        unfold nmF
        by_cases v1 : V j = 114
        · rw [if_pos v1, if_pos v1]
        · rw [if_neg v1, if_neg v1]
          by_cases v2 : V j = 119
          · rw [if_pos v2, if_pos v2]
          · rw [if_neg v2, if_neg v2, if_neg hv, if_neg hv]
    rw [this]
    simp only [e, Nat.reduceEqDiff, if_false]
  · by_cases d0 : D l = 0
    · rw [if_pos d0, if_pos d0]
    by_cases d1 : D l = 1
    · rw [if_neg d0, if_neg d0, if_pos d1, if_pos d1]
    by_cases d2 : D l = 2
    · rw [if_neg d0, if_neg d0, if_neg d1, if_neg d1, if_pos d2, if_pos d2]
    by_cases d3 : D l = 3
    · rw [if_neg d0, if_neg d0, if_neg d1, if_neg d1, if_neg d2, if_neg d2, if_pos d3, if_pos d3]
    · have d5 : D l = 5 := by omega
      rw [if_neg d0, if_neg d0, if_neg d1, if_neg d1, if_neg d2, if_neg d2, if_neg d3, if_neg d3, if_neg h4, if_neg h4, if_pos d5, if_pos d5]
set_option maxRecDepth 20000 in
set_option maxHeartbeats 2000000 in
theorem s92 (hz : 71 ≤ sz) (d : Nat) (hC : CX n nl z W D M K V A B) (e7 : B 1 7 = lI law) (hl : ∀ l, law = some l → l < nl) : ∃ sm, sm ≤ 1 ∧ rx (d + 3) 92 0 [some (.ref 1), none] [] sz us (hp kq fq L xs A B J) = some (some (.int (nI sm)), sz, us, hp kq fq L xs A B J) ∧ (sm = 0 → ∀ r w s s', OW z D M K V law r w s = OW z D M K V law r w s') := by
  obtain ⟨n8, e5, -, -, l5, e71, hL, z6, e19, hT, hd⟩ := hC
  cases law with
  | none =>
    have e7' : B 1 7 = mI 1 := e7
    refine ⟨0, by omega, ?_, fun _ _ _ _ _ => rfl⟩
    simp (disch := omega) only [x_92_0, x_92_1, x_92_4, x_92_5, x_92_8, x_92_11, x_92_14, x_92_15, x_92_18, x_92_19, x_92_22, x_92_25, x_92_27, x_92_28, x_92_31, x_92_32, x_92_33, x_92_34, x_92_35, x_92_38, x_92_39, x_92_41, x_92_44, x_92_45, x_92_48, x_92_50, x_92_53, x_92_56, x_92_57, x_92_60, x_92_61, x_18_0, x_18_1, x_18_4, x_18_5, x_18_6, x_18_9, x_18_12, x_18_13, x_18_16, x_18_17, x_19_0, x_19_1, x_19_2, x_19_5, x_19_8, x_19_9, x_19_12, x_19_13, x_19_14, x_19_17, x_19_18, Hc0, Hc1, Hc2, Hc3, Hc4, hz, e7', e71, k0, k1, k2, k3, k4, k5, k6, k7, k8, k9, k10, k11, k12, k13, k14, k15, k16, k20, k24, k30, k32, k46, k56, k60, k69, k88, k99, k100, k125, k255, k338, k398, k422, k17, k18, k19, k21, k22, k23, k25, k26, k27, k28, k29, k31, k33, k34, k35, k36, k37, k38, k39, k40, k41, k42, k43, k44, k45, k47, k48, k49, k50, k51, k52, k53, k54, k55, k57, k58, k59, k61, k62, k63, k64, k70, k71, k96, k109, k114, k115, k119, k124, k128, k216, k256, k999, k1296, k4096, k5184, k9999, k12345, k99999, k100000, k999999999, m_2, m_10, m_999, m_9999, m_999999999, q_in, q_cl, q_mul, q_add, q_sub, q_lt, q_le, q_eq, Nat.reduceAdd, Nat.reduceMul, Nat.reduceSub, Nat.reduceLT, Nat.reduceLeDiff, Nat.reduceEqDiff, Nat.add_zero, Nat.zero_add, Nat.mul_zero, q_addm, q_addn, q_subm, q_0m, q_ngm, sky_0, she_0, sky_1, she_1, sky_2, she_2, sky_3, she_3, m_lt, m_gt, m_eq, m_eq', m_one, m_ng, m_mlt, m_meq, q_sub1, q_sub1m, ↓q_irem, mx0, q_div, lt_T, lt_F, le_T, le_F, eq_T, eq_F, not_true_eq_false, not_false_eq_true, true_and, and_true, false_and, and_false, ↓reduceIte, ↓bz_i, ↓bz_l, ↓bz_v, ↓bz_h, ↓bz_c, zs_i, zs_l, zs_v, zs_h, zs_c, zs_n, zn_i, zn_l, zn_v, zn_h, zn_c, zi_i, zi_l, zi_v, zi_h, zi_c, List.append_nil, rr_nk, if_true, if_false, ite_true, ite_false, i01, i10, i00, ite_self, true_or, or_true, or_false, false_or]
  | some l =>
    have e7' : B 1 7 = nI l := e7
    have hl := hl l rfl
    obtain ⟨d6, m9, e8⟩ := hL l hl
    have h10 : (10 * D l + M l) / 10 = D l := by omega
    obtain ⟨r, e93, hr⟩ := lp93 (kq := kq) (fq := fq) (L := L) (xs := xs) (J := J) (us := us) (A := A) hz (d + 2) z6 e19 z 0 false (by omega)
    have e93' : rx (d + 2) 93 0 [some (.ref 19), some (.int (nI 115)), none, none] [] sz us (hp kq fq L xs A B J) = some (some (.int (nI (bN r))), sz, us, hp kq fq L xs A B J) := by
      rw [← e93]
      simp (disch := omega) only [x_93_0, x_93_1, x_93_2, x_93_3, x_93_5, x_93_6, x_93_9, x_93_12, x_93_13, x_93_16, x_93_17, x_93_20, x_93_21, x_93_22, x_93_23, x_93_24, x_93_25, x_93_28, x_93_29, x_93_32, x_93_33, x_93_34, x_93_37, x_93_40, x_93_41, bN, Bool.false_eq_true, if_false, k0, k1, k2, k3, k4, k5, k6, k7, k8, k9, k10, k11, k12, k13, k14, k15, k16, k20, k24, k30, k32, k46, k56, k60, k69, k88, k99, k100, k125, k255, k338, k398, k422, k17, k18, k19, k21, k22, k23, k25, k26, k27, k28, k29, k31, k33, k34, k35, k36, k37, k38, k39, k40, k41, k42, k43, k44, k45, k47, k48, k49, k50, k51, k52, k53, k54, k55, k57, k58, k59, k61, k62, k63, k64, k70, k71, k96, k109, k114, k115, k119, k124, k128, k216, k256, k999, k1296, k4096, k5184, k9999, k12345, k99999, k100000, k999999999, m_2, m_10, m_999, m_9999, m_999999999, q_in, q_cl, q_mul, q_add, q_sub, q_lt, q_le, q_eq, Nat.reduceAdd, Nat.reduceMul, Nat.reduceSub, Nat.reduceLT, Nat.reduceLeDiff, Nat.reduceEqDiff, Nat.add_zero, Nat.zero_add, Nat.mul_zero, q_addm, q_addn, q_subm, q_0m, q_ngm, sky_0, she_0, sky_1, she_1, sky_2, she_2, sky_3, she_3, m_lt, m_gt, m_eq, m_eq', m_one, m_ng, m_mlt, m_meq, q_sub1, q_sub1m, ↓q_irem, mx0, q_div, lt_T, lt_F, le_T, le_F, eq_T, eq_F, not_true_eq_false, not_false_eq_true, true_and, and_true, false_and, and_false, ↓reduceIte, ↓bz_i, ↓bz_l, ↓bz_v, ↓bz_h, ↓bz_c, zs_i, zs_l, zs_v, zs_h, zs_c, zs_n, zn_i, zn_l, zn_v, zn_h, zn_c, zi_i, zi_l, zi_v, zi_h, zi_c, List.append_nil, rr_nk, if_true, if_false, ite_true, ite_false, i01, i10, i00, ite_self, true_or, or_true, or_false, false_or]
    by_cases h4 : D l = 4
    · refine ⟨1, by omega, ?_, fun h => by omega⟩
      simp (disch := omega) only [x_92_0, x_92_1, x_92_4, x_92_5, x_92_8, x_92_11, x_92_14, x_92_15, x_92_18, x_92_19, x_92_22, x_92_25, x_92_27, x_92_28, x_92_31, x_92_32, x_92_33, x_92_34, x_92_35, x_92_38, x_92_39, x_92_41, x_92_44, x_92_45, x_92_48, x_92_50, x_92_53, x_92_56, x_92_57, x_92_60, x_92_61, x_18_0, x_18_1, x_18_4, x_18_5, x_18_6, x_18_9, x_18_12, x_18_13, x_18_16, x_18_17, x_19_0, x_19_1, x_19_2, x_19_5, x_19_8, x_19_9, x_19_12, x_19_13, x_19_14, x_19_17, x_19_18, Hc0, Hc1, Hc2, Hc3, Hc4, hz, e7', e71, e8, h10, h4, k0, k1, k2, k3, k4, k5, k6, k7, k8, k9, k10, k11, k12, k13, k14, k15, k16, k20, k24, k30, k32, k46, k56, k60, k69, k88, k99, k100, k125, k255, k338, k398, k422, k17, k18, k19, k21, k22, k23, k25, k26, k27, k28, k29, k31, k33, k34, k35, k36, k37, k38, k39, k40, k41, k42, k43, k44, k45, k47, k48, k49, k50, k51, k52, k53, k54, k55, k57, k58, k59, k61, k62, k63, k64, k70, k71, k96, k109, k114, k115, k119, k124, k128, k216, k256, k999, k1296, k4096, k5184, k9999, k12345, k99999, k100000, k999999999, m_2, m_10, m_999, m_9999, m_999999999, q_in, q_cl, q_mul, q_add, q_sub, q_lt, q_le, q_eq, Nat.reduceAdd, Nat.reduceMul, Nat.reduceSub, Nat.reduceLT, Nat.reduceLeDiff, Nat.reduceEqDiff, Nat.add_zero, Nat.zero_add, Nat.mul_zero, q_addm, q_addn, q_subm, q_0m, q_ngm, sky_0, she_0, sky_1, she_1, sky_2, she_2, sky_3, she_3, m_lt, m_gt, m_eq, m_eq', m_one, m_ng, m_mlt, m_meq, q_sub1, q_sub1m, ↓q_irem, mx0, q_div, lt_T, lt_F, le_T, le_F, eq_T, eq_F, not_true_eq_false, not_false_eq_true, true_and, and_true, false_and, and_false, ↓reduceIte, ↓bz_i, ↓bz_l, ↓bz_v, ↓bz_h, ↓bz_c, zs_i, zs_l, zs_v, zs_h, zs_c, zs_n, zn_i, zn_l, zn_v, zn_h, zn_c, zi_i, zi_l, zi_v, zi_h, zi_c, List.append_nil, rr_nk, if_true, if_false, ite_true, ite_false, i01, i10, i00, ite_self, true_or, or_true, or_false, false_or]
    by_cases h6 : D l = 6
    · cases r with
      | true =>
        have e93'' : rx (d + 2) 93 0 [some (.ref 19), some (.int (nI 115)), none, none] [] sz us (hp kq fq L xs A B J) = some (some (.int (nI 1)), sz, us, hp kq fq L xs A B J) := e93'
        refine ⟨1, by omega, ?_, fun h => by omega⟩
        simp (disch := omega) only [x_92_0, x_92_1, x_92_4, x_92_5, x_92_8, x_92_11, x_92_14, x_92_15, x_92_18, x_92_19, x_92_22, x_92_25, x_92_27, x_92_28, x_92_31, x_92_32, x_92_33, x_92_34, x_92_35, x_92_38, x_92_39, x_92_41, x_92_44, x_92_45, x_92_48, x_92_50, x_92_53, x_92_56, x_92_57, x_92_60, x_92_61, x_18_0, x_18_1, x_18_4, x_18_5, x_18_6, x_18_9, x_18_12, x_18_13, x_18_16, x_18_17, x_19_0, x_19_1, x_19_2, x_19_5, x_19_8, x_19_9, x_19_12, x_19_13, x_19_14, x_19_17, x_19_18, Hc0, Hc1, Hc2, Hc3, Hc4, hz, e7', e71, e8, h10, h6, e93'', k0, k1, k2, k3, k4, k5, k6, k7, k8, k9, k10, k11, k12, k13, k14, k15, k16, k20, k24, k30, k32, k46, k56, k60, k69, k88, k99, k100, k125, k255, k338, k398, k422, k17, k18, k19, k21, k22, k23, k25, k26, k27, k28, k29, k31, k33, k34, k35, k36, k37, k38, k39, k40, k41, k42, k43, k44, k45, k47, k48, k49, k50, k51, k52, k53, k54, k55, k57, k58, k59, k61, k62, k63, k64, k70, k71, k96, k109, k114, k115, k119, k124, k128, k216, k256, k999, k1296, k4096, k5184, k9999, k12345, k99999, k100000, k999999999, m_2, m_10, m_999, m_9999, m_999999999, q_in, q_cl, q_mul, q_add, q_sub, q_lt, q_le, q_eq, Nat.reduceAdd, Nat.reduceMul, Nat.reduceSub, Nat.reduceLT, Nat.reduceLeDiff, Nat.reduceEqDiff, Nat.add_zero, Nat.zero_add, Nat.mul_zero, q_addm, q_addn, q_subm, q_0m, q_ngm, sky_0, she_0, sky_1, she_1, sky_2, she_2, sky_3, she_3, m_lt, m_gt, m_eq, m_eq', m_one, m_ng, m_mlt, m_meq, q_sub1, q_sub1m, ↓q_irem, mx0, q_div, lt_T, lt_F, le_T, le_F, eq_T, eq_F, not_true_eq_false, not_false_eq_true, true_and, and_true, false_and, and_false, ↓reduceIte, ↓bz_i, ↓bz_l, ↓bz_v, ↓bz_h, ↓bz_c, zs_i, zs_l, zs_v, zs_h, zs_c, zs_n, zn_i, zn_l, zn_v, zn_h, zn_c, zi_i, zi_l, zi_v, zi_h, zi_c, List.append_nil, rr_nk, if_true, if_false, ite_true, ite_false, i01, i10, i00, ite_self, true_or, or_true, or_false, false_or]
      | false =>
        have e93'' : rx (d + 2) 93 0 [some (.ref 19), some (.int (nI 115)), none, none] [] sz us (hp kq fq L xs A B J) = some (some (.int (nI 0)), sz, us, hp kq fq L xs A B J) := e93'
        refine ⟨0, by omega, ?_, fun _ r w s s' => OW_in hT hd d6 h4 (fun _ i hi => (hr rfl).2 i (by omega) hi) r w s s'⟩
        simp (disch := omega) only [x_92_0, x_92_1, x_92_4, x_92_5, x_92_8, x_92_11, x_92_14, x_92_15, x_92_18, x_92_19, x_92_22, x_92_25, x_92_27, x_92_28, x_92_31, x_92_32, x_92_33, x_92_34, x_92_35, x_92_38, x_92_39, x_92_41, x_92_44, x_92_45, x_92_48, x_92_50, x_92_53, x_92_56, x_92_57, x_92_60, x_92_61, x_18_0, x_18_1, x_18_4, x_18_5, x_18_6, x_18_9, x_18_12, x_18_13, x_18_16, x_18_17, x_19_0, x_19_1, x_19_2, x_19_5, x_19_8, x_19_9, x_19_12, x_19_13, x_19_14, x_19_17, x_19_18, Hc0, Hc1, Hc2, Hc3, Hc4, hz, e7', e71, e8, h10, h6, e93'', k0, k1, k2, k3, k4, k5, k6, k7, k8, k9, k10, k11, k12, k13, k14, k15, k16, k20, k24, k30, k32, k46, k56, k60, k69, k88, k99, k100, k125, k255, k338, k398, k422, k17, k18, k19, k21, k22, k23, k25, k26, k27, k28, k29, k31, k33, k34, k35, k36, k37, k38, k39, k40, k41, k42, k43, k44, k45, k47, k48, k49, k50, k51, k52, k53, k54, k55, k57, k58, k59, k61, k62, k63, k64, k70, k71, k96, k109, k114, k115, k119, k124, k128, k216, k256, k999, k1296, k4096, k5184, k9999, k12345, k99999, k100000, k999999999, m_2, m_10, m_999, m_9999, m_999999999, q_in, q_cl, q_mul, q_add, q_sub, q_lt, q_le, q_eq, Nat.reduceAdd, Nat.reduceMul, Nat.reduceSub, Nat.reduceLT, Nat.reduceLeDiff, Nat.reduceEqDiff, Nat.add_zero, Nat.zero_add, Nat.mul_zero, q_addm, q_addn, q_subm, q_0m, q_ngm, sky_0, she_0, sky_1, she_1, sky_2, she_2, sky_3, she_3, m_lt, m_gt, m_eq, m_eq', m_one, m_ng, m_mlt, m_meq, q_sub1, q_sub1m, ↓q_irem, mx0, q_div, lt_T, lt_F, le_T, le_F, eq_T, eq_F, not_true_eq_false, not_false_eq_true, true_and, and_true, false_and, and_false, ↓reduceIte, ↓bz_i, ↓bz_l, ↓bz_v, ↓bz_h, ↓bz_c, zs_i, zs_l, zs_v, zs_h, zs_c, zs_n, zn_i, zn_l, zn_v, zn_h, zn_c, zi_i, zi_l, zi_v, zi_h, zi_c, List.append_nil, rr_nk, if_true, if_false, ite_true, ite_false, i01, i10, i00, ite_self, true_or, or_true, or_false, false_or]
    · refine ⟨0, by omega, ?_, fun _ r w s s' => OW_in hT hd d6 h4 (fun e => absurd e h6) r w s s'⟩
      simp (disch := omega) only [x_92_0, x_92_1, x_92_4, x_92_5, x_92_8, x_92_11, x_92_14, x_92_15, x_92_18, x_92_19, x_92_22, x_92_25, x_92_27, x_92_28, x_92_31, x_92_32, x_92_33, x_92_34, x_92_35, x_92_38, x_92_39, x_92_41, x_92_44, x_92_45, x_92_48, x_92_50, x_92_53, x_92_56, x_92_57, x_92_60, x_92_61, x_18_0, x_18_1, x_18_4, x_18_5, x_18_6, x_18_9, x_18_12, x_18_13, x_18_16, x_18_17, x_19_0, x_19_1, x_19_2, x_19_5, x_19_8, x_19_9, x_19_12, x_19_13, x_19_14, x_19_17, x_19_18, Hc0, Hc1, Hc2, Hc3, Hc4, hz, e7', e71, e8, h10, h4, k0, k1, k2, k3, k4, k5, k6, k7, k8, k9, k10, k11, k12, k13, k14, k15, k16, k20, k24, k30, k32, k46, k56, k60, k69, k88, k99, k100, k125, k255, k338, k398, k422, k17, k18, k19, k21, k22, k23, k25, k26, k27, k28, k29, k31, k33, k34, k35, k36, k37, k38, k39, k40, k41, k42, k43, k44, k45, k47, k48, k49, k50, k51, k52, k53, k54, k55, k57, k58, k59, k61, k62, k63, k64, k70, k71, k96, k109, k114, k115, k119, k124, k128, k216, k256, k999, k1296, k4096, k5184, k9999, k12345, k99999, k100000, k999999999, m_2, m_10, m_999, m_9999, m_999999999, q_in, q_cl, q_mul, q_add, q_sub, q_lt, q_le, q_eq, Nat.reduceAdd, Nat.reduceMul, Nat.reduceSub, Nat.reduceLT, Nat.reduceLeDiff, Nat.reduceEqDiff, Nat.add_zero, Nat.zero_add, Nat.mul_zero, q_addm, q_addn, q_subm, q_0m, q_ngm, sky_0, she_0, sky_1, she_1, sky_2, she_2, sky_3, she_3, m_lt, m_gt, m_eq, m_eq', m_one, m_ng, m_mlt, m_meq, q_sub1, q_sub1m, ↓q_irem, mx0, q_div, lt_T, lt_F, le_T, le_F, eq_T, eq_F, not_true_eq_false, not_false_eq_true, true_and, and_true, false_and, and_false, ↓reduceIte, ↓bz_i, ↓bz_l, ↓bz_v, ↓bz_h, ↓bz_c, zs_i, zs_l, zs_v, zs_h, zs_c, zs_n, zn_i, zn_l, zn_v, zn_h, zn_c, zi_i, zi_l, zi_v, zi_h, zi_c, List.append_nil, rr_nk, if_true, if_false, ite_true, ite_false, i01, i10, i00, ite_self, true_or, or_true, or_false, false_or]
end NF

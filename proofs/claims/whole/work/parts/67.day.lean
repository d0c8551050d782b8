/-! ===== a day goes by ===== -/
def pcn (Q : Nat → Int32) : Nat → Nat
  | 0 => 0
  | k + 1 => if nI 0 < Q k then pcn Q k + 1 else pcn Q k
theorem pcn_le (Q : Nat → Int32) : ∀ k, pcn Q k ≤ k
  | 0 => Nat.le_refl _
  | k + 1 => by
    have := pcn_le Q k
    unfold pcn
    split <;> omega
abbrev DY : Type := (Nat → Nat) × (Nat → Nat) × (Nat → Int32) × Nat
def dPY (n z : Nat) (D M K V W : Nat → Nat) (law : Option Nat) (x : DY) (i : Nat) : Int32 := PY (OF z D M K V W x.1 x.2.1 law) n i
def dst (n z : Nat) (D M K V W : Nat → Nat) (law : Option Nat) (x : DY) : DY :=
  (fun f => if f < n then 0 else x.1 f, fun f => if f < n then (if (x.2.2.2 + 1) % 7 = 0 then 0 else x.2.1 f + x.1 f) else x.2.1 f, fun f => if f < n then hd 999999999 (x.2.2.1 f - dPY n z D M K V W law x f) else x.2.2.1 f, x.2.2.2 + 1)
def DB (x : DY) : Prop := (∀ f, f < 8 → x.1 f ≤ 99) ∧ (∀ f, f < 8 → x.2.1 f ≤ 99 * (x.2.2.2 % 7)) ∧ x.2.2.2 ≤ 20000
def CD (n nl z : Nat) (W D M K V : Nat → Nat) (law : Option Nat) (x : DY) (A B : rrA) : Prop :=
  CX n nl z W D M K V A B ∧ B 1 7 = lI law ∧ (∀ l, law = some l → l < nl) ∧ (∀ f, f < 8 → A 3 f = nI (x.1 f)) ∧ (∀ f, f < 8 → A 4 f = nI (x.2.1 f)) ∧ (∀ f, f < 8 → A 5 f = x.2.2.1 f) ∧ B 1 12 = nI x.2.2.2
def RD (n nl z : Nat) (W D M K V : Nat → Nat) (law : Option Nat) (x : DY) (A : rrA) : Prop :=
  RX n nl z W D M K V A ∧ A 52 3 = lI law ∧ (∀ f, f < 8 → A 52 (14 + 4 * f + 1) = nI (x.1 f)) ∧ (∀ f, f < 8 → A 52 (14 + 4 * f + 2) = nI (x.2.1 f)) ∧ (∀ f, f < 8 → A 52 (14 + 4 * f + 3) = x.2.2.1 f) ∧ A 52 2 = nI x.2.2.2
theorem DB.st {n z : Nat} {D M K V W : Nat → Nat} {law : Option Nat} {x : DY} (h : DB x) (hd : x.2.2.2 < 20000) (h0 : ∀ f, n ≤ f → f < 8 → x.2.1 f = 0) : DB (dst n z D M K V W law x) := by
  obtain ⟨h1, h2, h3⟩ := h
  refine ⟨fun f hf => ?_, fun f hf => ?_, by show x.2.2.2 + 1 ≤ 20000; omega⟩
  · show (if f < n then 0 else x.1 f) ≤ 99
    have := h1 f hf
    split <;> omega
  · show (if f < n then (if (x.2.2.2 + 1) % 7 = 0 then 0 else x.2.1 f + x.1 f) else x.2.1 f) ≤ 99 * ((x.2.2.2 + 1) % 7)
    have e1 := h1 f hf
    have e2 := h2 f hf
    by_cases q : f < n
    · rw [if_pos q]
      by_cases q2 : (x.2.2.2 + 1) % 7 = 0
      · rw [if_pos q2]; omega
      · rw [if_neg q2]; omega
    · rw [if_neg q, h0 f (by omega) hf]; omega
theorem DB.s {n : Nat} {x : DY} (h : DB x) (n8 : n ≤ 8) : ∀ i, i < n → x.1 i ≤ 99 ∧ x.2.1 i ≤ 9999 := fun i hi => by
  have h1 := h.1 i (by omega)
  have h2 := h.2.1 i (by omega)
  omega
section DAY
variable {sz us : Nat} {kq fq : Option Nat} {L : Nat} {xs : Nat → Int32} {A B A' B' A0 B0 : rrA} {J : Nat → Nat → Int64} {n nl z : Nat} {W D M K V : Nat → Nat} {law : Option Nat} {x : DY}
set_option maxRecDepth 20000 in
set_option maxHeartbeats 2000000 in
theorem lp59 (hz : 71 ≤ sz) (d : Nat) (n8 : n ≤ 8) (e5 : B 1 5 = nI n) (wk : Nat) (hw : wk ≤ 1) : ∀ (m k : Nat) (A : rrA), m + k = n → ∃ A', rx (d + 3) 59 50 [some (.ref 1), some (.int (nI wk)), some (.int (nI (pcn (A 6) k))), some (.int (nI k))] [] sz us (hp kq fq L xs A B J) = some (some (.int (nI (pcn (A 6) n))), sz, us, hp kq fq L xs A' B J) ∧ (∀ i, i ≠ 3 → i ≠ 4 → i ≠ 5 → A' i = A i) ∧ (∀ f, A' 3 f = if k ≤ f ∧ f < n then nI 0 else A 3 f) ∧ (∀ f, A' 4 f = if k ≤ f ∧ f < n then (if wk = 1 then nI 0 else A 4 f + A 3 f) else A 4 f) ∧ (∀ f, A' 5 f = if k ≤ f ∧ f < n then hd 999999999 (A 5 f - A 6 f) else A 5 f) := by
  intro m
  induction m with
  | zero =>
    intro k A hk
    have : k = n := by omega
    subst this
    refine ⟨A, ?_, fun _ _ _ _ => rfl, fun f => by rw [if_neg (by omega)], fun f => by rw [if_neg (by omega)], fun f => by rw [if_neg (by omega)]⟩
    have := pcn_le (A 6) k
    rw [x_59_50]
    simp (disch := omega) only [x_59_0, x_59_1, x_59_2, x_59_5, x_59_6, x_59_9, x_59_10, x_59_13, x_59_14, x_59_17, x_59_20, x_59_21, x_59_22, x_59_25, x_59_26, x_59_27, x_59_30, x_59_31, x_59_34, x_59_36, x_59_37, x_59_40, x_59_41, x_59_44, x_59_45, x_59_46, x_59_47, x_59_48, x_59_49, x_59_51, x_59_52, x_59_55, x_59_58, x_59_59, x_59_60, x_59_63, x_59_64, x_59_65, x_59_68, x_59_69, x_59_72, x_59_73, x_59_74, x_59_75, x_59_76, x_59_79, x_59_80, x_59_81, x_59_84, x_59_85, x_59_86, x_59_87, x_59_90, x_59_91, x_59_92, x_59_93, x_59_95, x_59_98, x_59_99, x_59_100, x_59_103, x_59_104, x_59_105, x_59_108, x_59_109, x_59_112, x_59_113, x_59_116, x_59_117, x_59_118, x_59_119, x_59_122, x_59_123, x_59_124, x_59_125, x_59_126, x_59_127, x_59_130, x_59_131, x_59_132, x_59_133, x_59_136, x_59_139, x_59_140, Hc0, Hc1, Hc2, Hc3, Hc4, hz, e5, k0, k1, k2, k3, k4, k5, k6, k7, k8, k9, k10, k11, k12, k13, k14, k15, k16, k20, k24, k30, k32, k46, k56, k60, k69, k88, k99, k100, k125, k255, k338, k398, k422, k17, k18, k19, k21, k22, k23, k25, k26, k27, k28, k29, k31, k33, k34, k35, k36, k37, k38, k39, k40, k41, k42, k43, k44, k45, k47, k48, k49, k50, k51, k52, k53, k54, k55, k57, k58, k59, k61, k62, k63, k64, k70, k71, k96, k109, k114, k115, k119, k124, k128, k216, k256, k999, k1296, k4096, k5184, k9999, k12345, k99999, k100000, k999999999, m_2, m_10, m_999, m_9999, m_999999999, q_in, q_cl, q_mul, q_add, q_sub, q_lt, q_le, q_eq, Nat.reduceAdd, Nat.reduceMul, Nat.reduceSub, Nat.reduceLT, Nat.reduceLeDiff, Nat.reduceEqDiff, Nat.add_zero, Nat.zero_add, Nat.mul_zero, q_addm, q_addn, q_subm, q_0m, q_ngm, sky_0, she_0, sky_1, she_1, sky_2, she_2, sky_3, she_3, m_lt, m_gt, m_eq, m_eq', m_one, m_ng, m_mlt, m_meq, q_sub1, q_sub1m, ↓q_irem, mx0, q_div, lt_T, lt_F, le_T, le_F, eq_T, eq_F, not_true_eq_false, not_false_eq_true, true_and, and_true, false_and, and_false, ↓reduceIte, ↓bz_i, ↓bz_l, ↓bz_v, ↓bz_h, ↓bz_c, zs_i, zs_l, zs_v, zs_h, zs_c, zs_n, zn_i, zn_l, zn_v, zn_h, zn_c, zi_i, zi_l, zi_v, zi_h, zi_c, List.append_nil, rr_nk, if_true, if_false, ite_true, ite_false, i01, i10, i00, ite_self, true_or, or_true, or_false, false_or]
  | succ m ih =>
    intro k A hk
    have hkn : k < n := by omega
    have hp' := pcn_le (A 6) k
    obtain ⟨v4, hv4⟩ : ∃ v4, v4 = (if wk = 1 then nI 0 else A 4 k + A 3 k) := ⟨_, rfl⟩
    obtain ⟨A', e, h1, h2, h3, h4⟩ := ih (k + 1) (u1 (u1 (u1 A 5 (upd (A 5) k (hd 999999999 (A 5 k - A 6 k)))) 4 (upd (A 4) k v4)) 3 (upd (A 3) k (nI 0))) (by omega)
    refine ⟨A', ?_, fun i i1 i2 i3 => by rw [h1 i i1 i2 i3, u1_ne i1, u1_ne i2, u1_ne i3], fun f => ?_, fun f => ?_, fun f => ?_⟩
    · simp (disch := omega) only [u1_ne] at e
      rw [← e, x_59_50]
      have hw2 : wk = 0 ∨ wk = 1 := by omega
      by_cases q : nI 0 < A 6 k
      · rcases hw2 with rfl | rfl <;> simp (disch := omega) only [x_59_0, x_59_1, x_59_2, x_59_5, x_59_6, x_59_9, x_59_10, x_59_13, x_59_14, x_59_17, x_59_20, x_59_21, x_59_22, x_59_25, x_59_26, x_59_27, x_59_30, x_59_31, x_59_34, x_59_36, x_59_37, x_59_40, x_59_41, x_59_44, x_59_45, x_59_46, x_59_47, x_59_48, x_59_49, x_59_51, x_59_52, x_59_55, x_59_58, x_59_59, x_59_60, x_59_63, x_59_64, x_59_65, x_59_68, x_59_69, x_59_72, x_59_73, x_59_74, x_59_75, x_59_76, x_59_79, x_59_80, x_59_81, x_59_84, x_59_85, x_59_86, x_59_87, x_59_90, x_59_91, x_59_92, x_59_93, x_59_95, x_59_98, x_59_99, x_59_100, x_59_103, x_59_104, x_59_105, x_59_108, x_59_109, x_59_112, x_59_113, x_59_116, x_59_117, x_59_118, x_59_119, x_59_122, x_59_123, x_59_124, x_59_125, x_59_126, x_59_127, x_59_130, x_59_131, x_59_132, x_59_133, x_59_136, x_59_139, x_59_140, Hc0, Hc1, Hc2, Hc3, Hc4, hz, e5, s23, hv4, q, pcn, k0, k1, k2, k3, k4, k5, k6, k7, k8, k9, k10, k11, k12, k13, k14, k15, k16, k20, k24, k30, k32, k46, k56, k60, k69, k88, k99, k100, k125, k255, k338, k398, k422, k17, k18, k19, k21, k22, k23, k25, k26, k27, k28, k29, k31, k33, k34, k35, k36, k37, k38, k39, k40, k41, k42, k43, k44, k45, k47, k48, k49, k50, k51, k52, k53, k54, k55, k57, k58, k59, k61, k62, k63, k64, k70, k71, k96, k109, k114, k115, k119, k124, k128, k216, k256, k999, k1296, k4096, k5184, k9999, k12345, k99999, k100000, k999999999, m_2, m_10, m_999, m_9999, m_999999999, q_in, q_cl, q_mul, q_add, q_sub, q_lt, q_le, q_eq, Nat.reduceAdd, Nat.reduceMul, Nat.reduceSub, Nat.reduceLT, Nat.reduceLeDiff, Nat.reduceEqDiff, Nat.add_zero, Nat.zero_add, Nat.mul_zero, q_addm, q_addn, q_subm, q_0m, q_ngm, sky_0, she_0, sky_1, she_1, sky_2, she_2, sky_3, she_3, m_lt, m_gt, m_eq, m_eq', m_one, m_ng, m_mlt, m_meq, q_sub1, q_sub1m, ↓q_irem, mx0, q_div, lt_T, lt_F, le_T, le_F, eq_T, eq_F, not_true_eq_false, not_false_eq_true, true_and, and_true, false_and, and_false, u1_eq, u1_ne, u2_eq, u2_ne, uJ_eq, uJ_ne, upd_eq', upd_ne', ↓reduceIte, ↓bz_i, ↓bz_l, ↓bz_v, ↓bz_h, ↓bz_c, zs_i, zs_l, zs_v, zs_h, zs_c, zs_n, zn_i, zn_l, zn_v, zn_h, zn_c, zi_i, zi_l, zi_v, zi_h, zi_c, List.append_nil, rr_nk, if_true, if_false, ite_true, ite_false, i01, i10, i00, ite_self, true_or, or_true, or_false, false_or]
      · rcases hw2 with rfl | rfl <;> simp (disch := omega) only [x_59_0, x_59_1, x_59_2, x_59_5, x_59_6, x_59_9, x_59_10, x_59_13, x_59_14, x_59_17, x_59_20, x_59_21, x_59_22, x_59_25, x_59_26, x_59_27, x_59_30, x_59_31, x_59_34, x_59_36, x_59_37, x_59_40, x_59_41, x_59_44, x_59_45, x_59_46, x_59_47, x_59_48, x_59_49, x_59_51, x_59_52, x_59_55, x_59_58, x_59_59, x_59_60, x_59_63, x_59_64, x_59_65, x_59_68, x_59_69, x_59_72, x_59_73, x_59_74, x_59_75, x_59_76, x_59_79, x_59_80, x_59_81, x_59_84, x_59_85, x_59_86, x_59_87, x_59_90, x_59_91, x_59_92, x_59_93, x_59_95, x_59_98, x_59_99, x_59_100, x_59_103, x_59_104, x_59_105, x_59_108, x_59_109, x_59_112, x_59_113, x_59_116, x_59_117, x_59_118, x_59_119, x_59_122, x_59_123, x_59_124, x_59_125, x_59_126, x_59_127, x_59_130, x_59_131, x_59_132, x_59_133, x_59_136, x_59_139, x_59_140, Hc0, Hc1, Hc2, Hc3, Hc4, hz, e5, s23, hv4, q, pcn, k0, k1, k2, k3, k4, k5, k6, k7, k8, k9, k10, k11, k12, k13, k14, k15, k16, k20, k24, k30, k32, k46, k56, k60, k69, k88, k99, k100, k125, k255, k338, k398, k422, k17, k18, k19, k21, k22, k23, k25, k26, k27, k28, k29, k31, k33, k34, k35, k36, k37, k38, k39, k40, k41, k42, k43, k44, k45, k47, k48, k49, k50, k51, k52, k53, k54, k55, k57, k58, k59, k61, k62, k63, k64, k70, k71, k96, k109, k114, k115, k119, k124, k128, k216, k256, k999, k1296, k4096, k5184, k9999, k12345, k99999, k100000, k999999999, m_2, m_10, m_999, m_9999, m_999999999, q_in, q_cl, q_mul, q_add, q_sub, q_lt, q_le, q_eq, Nat.reduceAdd, Nat.reduceMul, Nat.reduceSub, Nat.reduceLT, Nat.reduceLeDiff, Nat.reduceEqDiff, Nat.add_zero, Nat.zero_add, Nat.mul_zero, q_addm, q_addn, q_subm, q_0m, q_ngm, sky_0, she_0, sky_1, she_1, sky_2, she_2, sky_3, she_3, m_lt, m_gt, m_eq, m_eq', m_one, m_ng, m_mlt, m_meq, q_sub1, q_sub1m, ↓q_irem, mx0, q_div, lt_T, lt_F, le_T, le_F, eq_T, eq_F, not_true_eq_false, not_false_eq_true, true_and, and_true, false_and, and_false, u1_eq, u1_ne, u2_eq, u2_ne, uJ_eq, uJ_ne, upd_eq', upd_ne', ↓reduceIte, ↓bz_i, ↓bz_l, ↓bz_v, ↓bz_h, ↓bz_c, zs_i, zs_l, zs_v, zs_h, zs_c, zs_n, zn_i, zn_l, zn_v, zn_h, zn_c, zi_i, zi_l, zi_v, zi_h, zi_c, List.append_nil, rr_nk, if_true, if_false, ite_true, ite_false, i01, i10, i00, ite_self, true_or, or_true, or_false, false_or]
    · rw [h2 f, u1_eq]
      by_cases ef : f = k
      · subst ef; rw [if_neg (by omega), if_pos (by omega), upd_eq']
      · rw [upd_ne' ef]
        by_cases q : k + 1 ≤ f ∧ f < n
        · rw [if_pos q, if_pos (by omega)]
        · rw [if_neg q, if_neg (by omega)]
    · rw [h3 f, u1_ne (by omega), u1_eq, u1_eq]
      by_cases ef : f = k
      · subst ef; rw [if_neg (by omega), if_pos (by omega), upd_eq', hv4]
      · rw [upd_ne' ef, upd_ne' ef]
        by_cases q : k + 1 ≤ f ∧ f < n
        · rw [if_pos q, if_pos (show k ≤ f ∧ f < n by omega)]
        · rw [if_neg q, if_neg (show ¬ (k ≤ f ∧ f < n) by omega)]
    · rw [h4 f, u1_ne (by omega), u1_ne (by omega), u1_eq, u1_ne (by omega), u1_ne (by omega), u1_ne (by omega)]
      by_cases ef : f = k
      · subst ef; rw [if_neg (by omega), if_pos (by omega), upd_eq']
      · rw [upd_ne' ef]
        by_cases q : k + 1 ≤ f ∧ f < n
        · rw [if_pos q, if_pos (by omega)]
        · rw [if_neg q, if_neg (by omega)]
theorem pcn_cg {Q Q' : Nat → Int32} : ∀ n, (∀ i, i < n → Q i = Q' i) → pcn Q n = pcn Q' n
  | 0, _ => rfl
  | n + 1, h => by
    unfold pcn
    rw [h n (by omega), pcn_cg n (fun i hi => h i (by omega))]
set_option maxRecDepth 20000 in
set_option maxHeartbeats 2000000 in
theorem s59 (hz : 71 ≤ sz) (d : Nat) (h : CD n nl z W D M K V law x A B) (hb : DB x) : ∃ A', rx (d + 4) 59 0 [some (.ref 1), none, none, none] [] sz us (hp kq fq L xs A B J) = some (some (.int (nI (pcn (dPY n z D M K V W law x) n))), sz, us, hp kq fq L xs A' (u2 B 1 12 (nI (x.2.2.2 + 1))) J) ∧ (∀ i, i ≠ 3 → i ≠ 4 → i ≠ 5 → i ≠ 6 → i ≠ 21 → A' i = A i) ∧ CD n nl z W D M K V law (dst n z D M K V W law x) A' (u2 B 1 12 (nI (x.2.2.2 + 1))) := by
  obtain ⟨hC, e7, hl, h3, h4, h5, h12⟩ := h
  have n8 := hC.1
  have e5 := hC.2.1
  have d6 := hb.2.2
  obtain ⟨A1, e1, g1, g2⟩ := s25 (kq := kq) (fq := fq) (L := L) (xs := xs) (J := J) (us := us) hz d (a := 3) (b := 4) (t := 6) (r8_of (fun _ _ _ => rfl) (by omega)) (r8_of (fun _ _ _ => rfl) (by omega)) (r8_of (fun _ _ _ => rfl) (by omega)) (w8_of (fun _ _ _ => rfl) (by omega)) (by omega) (by omega) (by omega) law hl x.1 x.2.1 (hb.s n8) (OF z D M K V W x.1 x.2.1 law) (fun _ _ => rfl) hC (fun i hi => h3 i (by omega)) (fun i hi => h4 i (by omega))
  have e5' : u2 B 1 12 (nI (x.2.2.2 + 1)) 1 5 = nI n := by rw [u2_eq, upd_ne' (by omega)]; exact e5
  have hpc : pcn (A1 6) n = pcn (dPY n z D M K V W law x) n := pcn_cg n g2
  obtain ⟨A2, e2, f1, f2, f3, f4⟩ := lp59 (kq := kq) (fq := fq) (L := L) (xs := xs) (J := J) (us := us) hz (d + 1) n8 e5' (if (x.2.2.2 + 1) % 7 = 0 then 1 else 0) (by split <;> omega) n 0 A1 (by omega)
  rw [hpc] at e2
  refine ⟨A2, Eq.trans ?_ e2, fun i i1 i2 i3 i4 i5 => by rw [f1 i i1 i2 i3, g1 i i5 i4], hC.cg (by rw [f1 2 (by omega) (by omega) (by omega), g1 2 (by omega) (by omega)]) (by rw [f1 8 (by omega) (by omega) (by omega), g1 8 (by omega) (by omega)]) (by rw [f1 20 (by omega) (by omega) (by omega), g1 20 (by omega) (by omega)]) (by rw [u2_eq, upd_ne' (by omega)]) (by rw [u2_ne (by omega)]) (by rw [u2_ne (by omega)]), by rw [u2_eq, upd_ne' (by omega)]; exact e7, hl, fun f hf => ?_, fun f hf => ?_, fun f hf => ?_, by rw [u2_eq, upd_eq']; rfl⟩
  · by_cases q : (x.2.2.2 + 1) % 7 = 0
    · simp (disch := omega) only [x_59_0, x_59_1, x_59_2, x_59_5, x_59_6, x_59_9, x_59_10, x_59_13, x_59_14, x_59_17, x_59_20, x_59_21, x_59_22, x_59_25, x_59_26, x_59_27, x_59_30, x_59_31, x_59_34, x_59_36, x_59_37, x_59_40, x_59_41, x_59_44, x_59_45, x_59_46, x_59_47, x_59_48, x_59_49, x_59_51, x_59_52, x_59_55, x_59_58, x_59_59, x_59_60, x_59_63, x_59_64, x_59_65, x_59_68, x_59_69, x_59_72, x_59_73, x_59_74, x_59_75, x_59_76, x_59_79, x_59_80, x_59_81, x_59_84, x_59_85, x_59_86, x_59_87, x_59_90, x_59_91, x_59_92, x_59_93, x_59_95, x_59_98, x_59_99, x_59_100, x_59_103, x_59_104, x_59_105, x_59_108, x_59_109, x_59_112, x_59_113, x_59_116, x_59_117, x_59_118, x_59_119, x_59_122, x_59_123, x_59_124, x_59_125, x_59_126, x_59_127, x_59_130, x_59_131, x_59_132, x_59_133, x_59_136, x_59_139, x_59_140, Hc0, Hc1, Hc2, Hc3, Hc4, hz, e1, e5, e7, h12, q, if_true, pcn, k0, k1, k2, k3, k4, k5, k6, k7, k8, k9, k10, k11, k12, k13, k14, k15, k16, k20, k24, k30, k32, k46, k56, k60, k69, k88, k99, k100, k125, k255, k338, k398, k422, k17, k18, k19, k21, k22, k23, k25, k26, k27, k28, k29, k31, k33, k34, k35, k36, k37, k38, k39, k40, k41, k42, k43, k44, k45, k47, k48, k49, k50, k51, k52, k53, k54, k55, k57, k58, k59, k61, k62, k63, k64, k70, k71, k96, k109, k114, k115, k119, k124, k128, k216, k256, k999, k1296, k4096, k5184, k9999, k12345, k99999, k100000, k999999999, m_2, m_10, m_999, m_9999, m_999999999, q_in, q_cl, q_mul, q_add, q_sub, q_lt, q_le, q_eq, Nat.reduceAdd, Nat.reduceMul, Nat.reduceSub, Nat.reduceLT, Nat.reduceLeDiff, Nat.reduceEqDiff, Nat.add_zero, Nat.zero_add, Nat.mul_zero, q_addm, q_addn, q_subm, q_0m, q_ngm, sky_0, she_0, sky_1, she_1, sky_2, she_2, sky_3, she_3, m_lt, m_gt, m_eq, m_eq', m_one, m_ng, m_mlt, m_meq, q_sub1, q_sub1m, ↓q_irem, mx0, q_div, lt_T, lt_F, le_T, le_F, eq_T, eq_F, not_true_eq_false, not_false_eq_true, true_and, and_true, false_and, and_false, u1_eq, u1_ne, u2_eq, u2_ne, uJ_eq, uJ_ne, upd_eq', upd_ne', ↓reduceIte, ↓bz_i, ↓bz_l, ↓bz_v, ↓bz_h, ↓bz_c, zs_i, zs_l, zs_v, zs_h, zs_c, zs_n, zn_i, zn_l, zn_v, zn_h, zn_c, zi_i, zi_l, zi_v, zi_h, zi_c, List.append_nil, rr_nk, if_true, if_false, ite_true, ite_false, i01, i10, i00, ite_self, true_or, or_true, or_false, false_or]
    · simp (disch := omega) only [x_59_0, x_59_1, x_59_2, x_59_5, x_59_6, x_59_9, x_59_10, x_59_13, x_59_14, x_59_17, x_59_20, x_59_21, x_59_22, x_59_25, x_59_26, x_59_27, x_59_30, x_59_31, x_59_34, x_59_36, x_59_37, x_59_40, x_59_41, x_59_44, x_59_45, x_59_46, x_59_47, x_59_48, x_59_49, x_59_51, x_59_52, x_59_55, x_59_58, x_59_59, x_59_60, x_59_63, x_59_64, x_59_65, x_59_68, x_59_69, x_59_72, x_59_73, x_59_74, x_59_75, x_59_76, x_59_79, x_59_80, x_59_81, x_59_84, x_59_85, x_59_86, x_59_87, x_59_90, x_59_91, x_59_92, x_59_93, x_59_95, x_59_98, x_59_99, x_59_100, x_59_103, x_59_104, x_59_105, x_59_108, x_59_109, x_59_112, x_59_113, x_59_116, x_59_117, x_59_118, x_59_119, x_59_122, x_59_123, x_59_124, x_59_125, x_59_126, x_59_127, x_59_130, x_59_131, x_59_132, x_59_133, x_59_136, x_59_139, x_59_140, Hc0, Hc1, Hc2, Hc3, Hc4, hz, e1, e5, e7, h12, q, if_false, pcn, k0, k1, k2, k3, k4, k5, k6, k7, k8, k9, k10, k11, k12, k13, k14, k15, k16, k20, k24, k30, k32, k46, k56, k60, k69, k88, k99, k100, k125, k255, k338, k398, k422, k17, k18, k19, k21, k22, k23, k25, k26, k27, k28, k29, k31, k33, k34, k35, k36, k37, k38, k39, k40, k41, k42, k43, k44, k45, k47, k48, k49, k50, k51, k52, k53, k54, k55, k57, k58, k59, k61, k62, k63, k64, k70, k71, k96, k109, k114, k115, k119, k124, k128, k216, k256, k999, k1296, k4096, k5184, k9999, k12345, k99999, k100000, k999999999, m_2, m_10, m_999, m_9999, m_999999999, q_in, q_cl, q_mul, q_add, q_sub, q_lt, q_le, q_eq, Nat.reduceAdd, Nat.reduceMul, Nat.reduceSub, Nat.reduceLT, Nat.reduceLeDiff, Nat.reduceEqDiff, Nat.add_zero, Nat.zero_add, Nat.mul_zero, q_addm, q_addn, q_subm, q_0m, q_ngm, sky_0, she_0, sky_1, she_1, sky_2, she_2, sky_3, she_3, m_lt, m_gt, m_eq, m_eq', m_one, m_ng, m_mlt, m_meq, q_sub1, q_sub1m, ↓q_irem, mx0, q_div, lt_T, lt_F, le_T, le_F, eq_T, eq_F, not_true_eq_false, not_false_eq_true, true_and, and_true, false_and, and_false, u1_eq, u1_ne, u2_eq, u2_ne, uJ_eq, uJ_ne, upd_eq', upd_ne', ↓reduceIte, ↓bz_i, ↓bz_l, ↓bz_v, ↓bz_h, ↓bz_c, zs_i, zs_l, zs_v, zs_h, zs_c, zs_n, zn_i, zn_l, zn_v, zn_h, zn_c, zi_i, zi_l, zi_v, zi_h, zi_c, List.append_nil, rr_nk, if_true, if_false, ite_true, ite_false, i01, i10, i00, ite_self, true_or, or_true, or_false, false_or]
  · rw [f2 f]
    show _ = nI (if f < n then 0 else x.1 f)
    by_cases q : f < n
    · rw [if_pos (by omega), if_pos q]
    · rw [if_neg (by omega), if_neg q, g1 3 (by omega) (by omega)]; exact h3 f hf
  · rw [f3 f]
    show _ = nI (if f < n then (if (x.2.2.2 + 1) % 7 = 0 then 0 else x.2.1 f + x.1 f) else x.2.1 f)
    by_cases q : f < n
    · rw [if_pos (by omega), if_pos q]
      by_cases q2 : (x.2.2.2 + 1) % 7 = 0
      · rw [if_pos q2, if_pos q2, if_pos rfl]
      · rw [if_neg q2, if_neg q2, if_neg (by omega), g1 3 (by omega) (by omega), g1 4 (by omega) (by omega), h3 f hf, h4 f hf, nI_add]
    · rw [if_neg (by omega), if_neg q, g1 4 (by omega) (by omega)]; exact h4 f hf
  · rw [f4 f]
    show _ = if f < n then hd 999999999 (x.2.2.1 f - dPY n z D M K V W law x f) else x.2.2.1 f
    by_cases q : f < n
    · rw [if_pos (by omega), if_pos q, g2 f q, g1 5 (by omega) (by omega), h5 f hf]; rfl
    · rw [if_neg (by omega), if_neg q, g1 5 (by omega) (by omega)]; exact h5 f hf
/-! the reference -/
set_option maxRecDepth 20000 in
set_option maxHeartbeats 4000000 in
theorem lp171 (hz : 71 ≤ sz) (d : Nat) (n8 : n ≤ 8) : ∀ (m k : Nat) (A : rrA), m + k = n → A 52 0 = nI n → ∃ A', rx (d + 3) 171 14 [some (.ref 51), some (.int (nI (pcn (A 59) k))), some (.int (nI k))] [] sz us (hp kq fq L xs A B J) = rx (d + 3) 171 99 [some (.ref 51), some (.int (nI (pcn (A 59) n))), some (.int (nI n))] [] sz us (hp kq fq L xs A' B J) ∧ (∀ i, i ≠ 52 → A' i = A i) ∧ (∀ i, (i < 15 ∨ 46 ≤ i ∨ i % 4 = 2) → A' 52 i = A 52 i) ∧ (∀ f, f < 8 → A' 52 (14 + 4 * f + 1) = if k ≤ f ∧ f < n then nI 0 else A 52 (14 + 4 * f + 1)) ∧ (∀ f, f < 8 → A' 52 (14 + 4 * f + 2) = if k ≤ f ∧ f < n then A 52 (14 + 4 * f + 2) + A 52 (14 + 4 * f + 1) else A 52 (14 + 4 * f + 2)) ∧ (∀ f, f < 8 → A' 52 (14 + 4 * f + 3) = if k ≤ f ∧ f < n then hd 999999999 (A 52 (14 + 4 * f + 3) - A 59 f) else A 52 (14 + 4 * f + 3)) := by
  intro m
  induction m with
  | zero =>
    intro k A hk e0
    have : k = n := by omega
    subst this
    refine ⟨A, ?_, fun _ _ => rfl, fun _ _ => rfl, fun f _ => by rw [if_neg (by omega)], fun f _ => by rw [if_neg (by omega)], fun f _ => by rw [if_neg (by omega)]⟩
    rw [x_171_14]
    simp (disch := omega) only [x_171_0, x_171_1, x_171_2, x_171_5, x_171_6, x_171_7, x_171_10, x_171_11, x_171_12, x_171_13, x_171_15, x_171_16, x_171_19, x_171_20, x_171_21, x_171_24, x_171_25, x_171_26, x_171_29, x_171_30, x_171_31, x_171_34, x_171_35, x_171_38, x_171_39, x_171_40, x_171_41, x_171_42, x_171_43, x_171_44, x_171_45, x_171_46, x_171_47, x_171_50, x_171_51, x_171_54, x_171_55, x_171_56, x_171_57, x_171_59, x_171_61, x_171_64, x_171_67, x_171_68, x_171_69, x_171_70, x_171_71, x_171_72, x_171_73, x_171_76, x_171_77, x_171_78, x_171_79, x_171_82, x_171_83, x_171_86, x_171_87, x_171_88, x_171_89, x_171_90, x_171_93, x_171_96, x_171_100, x_171_103, x_171_104, x_171_105, x_171_106, x_171_107, x_171_108, x_171_109, x_171_110, x_171_111, x_171_112, x_171_113, x_171_116, x_171_117, x_171_118, x_171_121, x_171_122, x_171_125, x_171_126, x_171_127, x_171_129, x_171_130, x_171_133, x_171_134, x_171_135, x_171_136, x_171_137, x_171_140, x_171_143, x_171_146, x_171_147, Hm0, Hm1, hz, e0, k0, k1, k2, k3, k4, k5, k6, k7, k8, k9, k10, k11, k12, k13, k14, k15, k16, k20, k24, k30, k32, k46, k56, k60, k69, k88, k99, k100, k125, k255, k338, k398, k422, k17, k18, k19, k21, k22, k23, k25, k26, k27, k28, k29, k31, k33, k34, k35, k36, k37, k38, k39, k40, k41, k42, k43, k44, k45, k47, k48, k49, k50, k51, k52, k53, k54, k55, k57, k58, k59, k61, k62, k63, k64, k70, k71, k96, k109, k114, k115, k119, k124, k128, k216, k256, k999, k1296, k4096, k5184, k9999, k12345, k99999, k100000, k999999999, m_2, m_10, m_999, m_9999, m_999999999, q_in, q_cl, q_mul, q_add, q_sub, q_lt, q_le, q_eq, Nat.reduceAdd, Nat.reduceMul, Nat.reduceSub, Nat.reduceLT, Nat.reduceLeDiff, Nat.reduceEqDiff, Nat.add_zero, Nat.zero_add, Nat.mul_zero, q_addm, q_addn, q_subm, q_0m, q_ngm, sky_0, she_0, sky_1, she_1, sky_2, she_2, sky_3, she_3, m_lt, m_gt, m_eq, m_eq', m_one, m_ng, m_mlt, m_meq, q_sub1, q_sub1m, ↓q_irem, mx0, q_div, lt_T, lt_F, le_T, le_F, eq_T, eq_F, not_true_eq_false, not_false_eq_true, true_and, and_true, false_and, and_false, ↓reduceIte, ↓bz_i, ↓bz_l, ↓bz_v, ↓bz_h, ↓bz_c, zs_i, zs_l, zs_v, zs_h, zs_c, zs_n, zn_i, zn_l, zn_v, zn_h, zn_c, zi_i, zi_l, zi_v, zi_h, zi_c, List.append_nil, rr_nk, if_true, if_false, ite_true, ite_false, i01, i10, i00, ite_self, true_or, or_true, or_false, false_or]
  | succ m ih =>
    intro k A hk e0
    have hkn : k < n := by omega
    have hp' := pcn_le (A 59) k
    obtain ⟨A', e, h1, h2, h3, h4, h5⟩ := ih (k + 1) (u1 A 52 (upd (upd (upd (A 52) (14 + 4 * k + 3) (hd 999999999 (A 52 (14 + 4 * k + 3) - A 59 k))) (14 + 4 * k + 2) (A 52 (14 + 4 * k + 2) + A 52 (14 + 4 * k + 1))) (14 + 4 * k + 1) (nI 0))) (by omega) (by rw [u1_eq, upd_ne' (by omega), upd_ne' (by omega), upd_ne' (by omega)]; exact e0)
    refine ⟨A', ?_, fun i i1 => by rw [h1 i i1, u1_ne i1], fun i hi => by rw [h2 i hi, u1_eq, upd_ne' (by omega), upd_ne' (by omega), upd_ne' (by omega)], fun f hf => ?_, fun f hf => ?_, fun f hf => ?_⟩
    · simp (disch := omega) only [u1_ne] at e
      rw [← e, x_171_14]
      by_cases q : nI 0 < A 59 k
      · simp (disch := omega) only [x_171_0, x_171_1, x_171_2, x_171_5, x_171_6, x_171_7, x_171_10, x_171_11, x_171_12, x_171_13, x_171_15, x_171_16, x_171_19, x_171_20, x_171_21, x_171_24, x_171_25, x_171_26, x_171_29, x_171_30, x_171_31, x_171_34, x_171_35, x_171_38, x_171_39, x_171_40, x_171_41, x_171_42, x_171_43, x_171_44, x_171_45, x_171_46, x_171_47, x_171_50, x_171_51, x_171_54, x_171_55, x_171_56, x_171_57, x_171_59, x_171_61, x_171_64, x_171_67, x_171_68, x_171_69, x_171_70, x_171_71, x_171_72, x_171_73, x_171_76, x_171_77, x_171_78, x_171_79, x_171_82, x_171_83, x_171_86, x_171_87, x_171_88, x_171_89, x_171_90, x_171_93, x_171_96, x_171_100, x_171_103, x_171_104, x_171_105, x_171_106, x_171_107, x_171_108, x_171_109, x_171_110, x_171_111, x_171_112, x_171_113, x_171_116, x_171_117, x_171_118, x_171_121, x_171_122, x_171_125, x_171_126, x_171_127, x_171_129, x_171_130, x_171_133, x_171_134, x_171_135, x_171_136, x_171_137, x_171_140, x_171_143, x_171_146, x_171_147, x_154_0, x_154_1, x_154_4, x_154_6, x_154_7, x_154_8, x_154_9, x_154_10, x_154_11, x_154_12, x_154_13, x_148_0, x_148_1, x_148_4, x_148_6, x_148_7, x_148_8, x_148_9, x_148_10, x_148_11, x_148_12, x_148_13, x_148_14, Hm0, Hm1, hz, e0, s158, q, pcn, u1_u1, k0, k1, k2, k3, k4, k5, k6, k7, k8, k9, k10, k11, k12, k13, k14, k15, k16, k20, k24, k30, k32, k46, k56, k60, k69, k88, k99, k100, k125, k255, k338, k398, k422, k17, k18, k19, k21, k22, k23, k25, k26, k27, k28, k29, k31, k33, k34, k35, k36, k37, k38, k39, k40, k41, k42, k43, k44, k45, k47, k48, k49, k50, k51, k52, k53, k54, k55, k57, k58, k59, k61, k62, k63, k64, k70, k71, k96, k109, k114, k115, k119, k124, k128, k216, k256, k999, k1296, k4096, k5184, k9999, k12345, k99999, k100000, k999999999, m_2, m_10, m_999, m_9999, m_999999999, q_in, q_cl, q_mul, q_add, q_sub, q_lt, q_le, q_eq, Nat.reduceAdd, Nat.reduceMul, Nat.reduceSub, Nat.reduceLT, Nat.reduceLeDiff, Nat.reduceEqDiff, Nat.add_zero, Nat.zero_add, Nat.mul_zero, q_addm, q_addn, q_subm, q_0m, q_ngm, sky_0, she_0, sky_1, she_1, sky_2, she_2, sky_3, she_3, m_lt, m_gt, m_eq, m_eq', m_one, m_ng, m_mlt, m_meq, q_sub1, q_sub1m, ↓q_irem, mx0, q_div, lt_T, lt_F, le_T, le_F, eq_T, eq_F, not_true_eq_false, not_false_eq_true, true_and, and_true, false_and, and_false, u1_eq, u1_ne, u2_eq, u2_ne, uJ_eq, uJ_ne, upd_eq', upd_ne', ↓reduceIte, ↓bz_i, ↓bz_l, ↓bz_v, ↓bz_h, ↓bz_c, zs_i, zs_l, zs_v, zs_h, zs_c, zs_n, zn_i, zn_l, zn_v, zn_h, zn_c, zi_i, zi_l, zi_v, zi_h, zi_c, List.append_nil, rr_nk, if_true, if_false, ite_true, ite_false, i01, i10, i00, ite_self, true_or, or_true, or_false, false_or]
      · simp (disch := omega) only [x_171_0, x_171_1, x_171_2, x_171_5, x_171_6, x_171_7, x_171_10, x_171_11, x_171_12, x_171_13, x_171_15, x_171_16, x_171_19, x_171_20, x_171_21, x_171_24, x_171_25, x_171_26, x_171_29, x_171_30, x_171_31, x_171_34, x_171_35, x_171_38, x_171_39, x_171_40, x_171_41, x_171_42, x_171_43, x_171_44, x_171_45, x_171_46, x_171_47, x_171_50, x_171_51, x_171_54, x_171_55, x_171_56, x_171_57, x_171_59, x_171_61, x_171_64, x_171_67, x_171_68, x_171_69, x_171_70, x_171_71, x_171_72, x_171_73, x_171_76, x_171_77, x_171_78, x_171_79, x_171_82, x_171_83, x_171_86, x_171_87, x_171_88, x_171_89, x_171_90, x_171_93, x_171_96, x_171_100, x_171_103, x_171_104, x_171_105, x_171_106, x_171_107, x_171_108, x_171_109, x_171_110, x_171_111, x_171_112, x_171_113, x_171_116, x_171_117, x_171_118, x_171_121, x_171_122, x_171_125, x_171_126, x_171_127, x_171_129, x_171_130, x_171_133, x_171_134, x_171_135, x_171_136, x_171_137, x_171_140, x_171_143, x_171_146, x_171_147, x_154_0, x_154_1, x_154_4, x_154_6, x_154_7, x_154_8, x_154_9, x_154_10, x_154_11, x_154_12, x_154_13, x_148_0, x_148_1, x_148_4, x_148_6, x_148_7, x_148_8, x_148_9, x_148_10, x_148_11, x_148_12, x_148_13, x_148_14, Hm0, Hm1, hz, e0, s158, q, pcn, u1_u1, k0, k1, k2, k3, k4, k5, k6, k7, k8, k9, k10, k11, k12, k13, k14, k15, k16, k20, k24, k30, k32, k46, k56, k60, k69, k88, k99, k100, k125, k255, k338, k398, k422, k17, k18, k19, k21, k22, k23, k25, k26, k27, k28, k29, k31, k33, k34, k35, k36, k37, k38, k39, k40, k41, k42, k43, k44, k45, k47, k48, k49, k50, k51, k52, k53, k54, k55, k57, k58, k59, k61, k62, k63, k64, k70, k71, k96, k109, k114, k115, k119, k124, k128, k216, k256, k999, k1296, k4096, k5184, k9999, k12345, k99999, k100000, k999999999, m_2, m_10, m_999, m_9999, m_999999999, q_in, q_cl, q_mul, q_add, q_sub, q_lt, q_le, q_eq, Nat.reduceAdd, Nat.reduceMul, Nat.reduceSub, Nat.reduceLT, Nat.reduceLeDiff, Nat.reduceEqDiff, Nat.add_zero, Nat.zero_add, Nat.mul_zero, q_addm, q_addn, q_subm, q_0m, q_ngm, sky_0, she_0, sky_1, she_1, sky_2, she_2, sky_3, she_3, m_lt, m_gt, m_eq, m_eq', m_one, m_ng, m_mlt, m_meq, q_sub1, q_sub1m, ↓q_irem, mx0, q_div, lt_T, lt_F, le_T, le_F, eq_T, eq_F, not_true_eq_false, not_false_eq_true, true_and, and_true, false_and, and_false, u1_eq, u1_ne, u2_eq, u2_ne, uJ_eq, uJ_ne, upd_eq', upd_ne', ↓reduceIte, ↓bz_i, ↓bz_l, ↓bz_v, ↓bz_h, ↓bz_c, zs_i, zs_l, zs_v, zs_h, zs_c, zs_n, zn_i, zn_l, zn_v, zn_h, zn_c, zi_i, zi_l, zi_v, zi_h, zi_c, List.append_nil, rr_nk, if_true, if_false, ite_true, ite_false, i01, i10, i00, ite_self, true_or, or_true, or_false, false_or]
    · rw [h3 f hf, u1_eq]
      by_cases ef : f = k
      · subst ef; rw [if_neg (by omega), if_pos (by omega), upd_eq']
      · rw [upd_ne' (by omega), upd_ne' (by omega), upd_ne' (by omega)]
        by_cases q : k + 1 ≤ f ∧ f < n
        · rw [if_pos q, if_pos (by omega)]
        · rw [if_neg q, if_neg (by omega)]
    · rw [h4 f hf, u1_eq]
      by_cases ef : f = k
      · subst ef; rw [if_neg (by omega), if_pos (by omega), upd_ne' (by omega), upd_eq']
      · rw [upd_ne' (by omega), upd_ne' (by omega), upd_ne' (by omega), upd_ne' (by omega), upd_ne' (by omega), upd_ne' (by omega)]
        by_cases q : k + 1 ≤ f ∧ f < n
        · rw [if_pos q, if_pos (by omega)]
        · rw [if_neg q, if_neg (by omega)]
    · rw [h5 f hf, u1_eq, u1_ne (by omega)]
      by_cases ef : f = k
      · subst ef; rw [if_neg (by omega), if_pos (by omega), upd_ne' (by omega), upd_ne' (by omega), upd_eq']
      · rw [upd_ne' (by omega), upd_ne' (by omega), upd_ne' (by omega)]
        by_cases q : k + 1 ≤ f ∧ f < n
        · rw [if_pos q, if_pos (by omega)]
        · rw [if_neg q, if_neg (by omega)]
set_option maxRecDepth 20000 in
set_option maxHeartbeats 4000000 in
theorem lp171z (hz : 71 ≤ sz) (d : Nat) (n8 : n ≤ 8) (pd : Int32) (dy : Nat) (hd7 : dy % 7 = 0) (hdy : dy ≤ 30000) : ∀ (m k : Nat) (A : rrA), m + k = n → A 52 0 = nI n → A 52 2 = nI dy → ∃ A', rx (d + 3) 171 111 [some (.ref 51), some (.int pd), some (.int (nI k))] [] sz us (hp kq fq L xs A B J) = some (some (.int pd), sz, us, hp kq fq L xs A' B J) ∧ (∀ i, i ≠ 52 → A' i = A i) ∧ (∀ i, (i < 15 ∨ 46 ≤ i ∨ i % 4 ≠ 0) → A' 52 i = A 52 i) ∧ (∀ f, f < 8 → A' 52 (14 + 4 * f + 2) = if k ≤ f ∧ f < n then nI 0 else A 52 (14 + 4 * f + 2)) := by
  intro m
  induction m with
  | zero =>
    intro k A hk e0 e2
    have : k = n := by omega
    subst this
    refine ⟨A, ?_, fun _ _ => rfl, fun _ _ => rfl, fun f _ => by rw [if_neg (by omega)]⟩
    rw [x_171_111]
    simp (disch := omega) only [x_171_0, x_171_1, x_171_2, x_171_5, x_171_6, x_171_7, x_171_10, x_171_11, x_171_12, x_171_13, x_171_14, x_171_15, x_171_16, x_171_19, x_171_20, x_171_21, x_171_24, x_171_25, x_171_26, x_171_29, x_171_30, x_171_31, x_171_34, x_171_35, x_171_38, x_171_39, x_171_40, x_171_41, x_171_42, x_171_43, x_171_44, x_171_45, x_171_46, x_171_47, x_171_50, x_171_51, x_171_54, x_171_55, x_171_56, x_171_57, x_171_59, x_171_61, x_171_64, x_171_67, x_171_68, x_171_69, x_171_70, x_171_71, x_171_72, x_171_73, x_171_76, x_171_77, x_171_78, x_171_79, x_171_82, x_171_83, x_171_86, x_171_87, x_171_88, x_171_89, x_171_90, x_171_93, x_171_96, x_171_99, x_171_100, x_171_103, x_171_104, x_171_105, x_171_106, x_171_107, x_171_108, x_171_109, x_171_110, x_171_112, x_171_113, x_171_116, x_171_117, x_171_118, x_171_121, x_171_122, x_171_125, x_171_126, x_171_127, x_171_129, x_171_130, x_171_133, x_171_134, x_171_135, x_171_136, x_171_137, x_171_140, x_171_143, x_171_146, x_171_147, Hm0, Hm1, hz, e0, k0, k1, k2, k3, k4, k5, k6, k7, k8, k9, k10, k11, k12, k13, k14, k15, k16, k20, k24, k30, k32, k46, k56, k60, k69, k88, k99, k100, k125, k255, k338, k398, k422, k17, k18, k19, k21, k22, k23, k25, k26, k27, k28, k29, k31, k33, k34, k35, k36, k37, k38, k39, k40, k41, k42, k43, k44, k45, k47, k48, k49, k50, k51, k52, k53, k54, k55, k57, k58, k59, k61, k62, k63, k64, k70, k71, k96, k109, k114, k115, k119, k124, k128, k216, k256, k999, k1296, k4096, k5184, k9999, k12345, k99999, k100000, k999999999, m_2, m_10, m_999, m_9999, m_999999999, q_in, q_cl, q_mul, q_add, q_sub, q_lt, q_le, q_eq, Nat.reduceAdd, Nat.reduceMul, Nat.reduceSub, Nat.reduceLT, Nat.reduceLeDiff, Nat.reduceEqDiff, Nat.add_zero, Nat.zero_add, Nat.mul_zero, q_addm, q_addn, q_subm, q_0m, q_ngm, sky_0, she_0, sky_1, she_1, sky_2, she_2, sky_3, she_3, m_lt, m_gt, m_eq, m_eq', m_one, m_ng, m_mlt, m_meq, q_sub1, q_sub1m, ↓q_irem, mx0, q_div, lt_T, lt_F, le_T, le_F, eq_T, eq_F, not_true_eq_false, not_false_eq_true, true_and, and_true, false_and, and_false, ↓reduceIte, ↓bz_i, ↓bz_l, ↓bz_v, ↓bz_h, ↓bz_c, zs_i, zs_l, zs_v, zs_h, zs_c, zs_n, zn_i, zn_l, zn_v, zn_h, zn_c, zi_i, zi_l, zi_v, zi_h, zi_c, List.append_nil, rr_nk, if_true, if_false, ite_true, ite_false, i01, i10, i00, ite_self, true_or, or_true, or_false, false_or]
  | succ m ih =>
    intro k A hk e0 e2
    have hkn : k < n := by omega
    obtain ⟨A', e, h1, h2, h3⟩ := ih (k + 1) (u1 A 52 (upd (A 52) (14 + 4 * k + 2) (nI 0))) (by omega) (by rw [u1_eq, upd_ne' (by omega)]; exact e0) (by rw [u1_eq, upd_ne' (by omega)]; exact e2)
    refine ⟨A', Eq.trans ?_ e, fun i i1 => by rw [h1 i i1, u1_ne i1], fun i hi => by rw [h2 i hi, u1_eq, upd_ne' (by omega)], fun f hf => ?_⟩
    · rw [x_171_111]
      simp (disch := omega) only [x_171_0, x_171_1, x_171_2, x_171_5, x_171_6, x_171_7, x_171_10, x_171_11, x_171_12, x_171_13, x_171_14, x_171_15, x_171_16, x_171_19, x_171_20, x_171_21, x_171_24, x_171_25, x_171_26, x_171_29, x_171_30, x_171_31, x_171_34, x_171_35, x_171_38, x_171_39, x_171_40, x_171_41, x_171_42, x_171_43, x_171_44, x_171_45, x_171_46, x_171_47, x_171_50, x_171_51, x_171_54, x_171_55, x_171_56, x_171_57, x_171_59, x_171_61, x_171_64, x_171_67, x_171_68, x_171_69, x_171_70, x_171_71, x_171_72, x_171_73, x_171_76, x_171_77, x_171_78, x_171_79, x_171_82, x_171_83, x_171_86, x_171_87, x_171_88, x_171_89, x_171_90, x_171_93, x_171_96, x_171_99, x_171_100, x_171_103, x_171_104, x_171_105, x_171_106, x_171_107, x_171_108, x_171_109, x_171_110, x_171_112, x_171_113, x_171_116, x_171_117, x_171_118, x_171_121, x_171_122, x_171_125, x_171_126, x_171_127, x_171_129, x_171_130, x_171_133, x_171_134, x_171_135, x_171_136, x_171_137, x_171_140, x_171_143, x_171_146, x_171_147, x_148_0, x_148_1, x_148_4, x_148_6, x_148_7, x_148_8, x_148_9, x_148_10, x_148_11, x_148_12, x_148_13, x_148_14, Hm0, Hm1, hz, e0, e2, hd7, k0, k1, k2, k3, k4, k5, k6, k7, k8, k9, k10, k11, k12, k13, k14, k15, k16, k20, k24, k30, k32, k46, k56, k60, k69, k88, k99, k100, k125, k255, k338, k398, k422, k17, k18, k19, k21, k22, k23, k25, k26, k27, k28, k29, k31, k33, k34, k35, k36, k37, k38, k39, k40, k41, k42, k43, k44, k45, k47, k48, k49, k50, k51, k52, k53, k54, k55, k57, k58, k59, k61, k62, k63, k64, k70, k71, k96, k109, k114, k115, k119, k124, k128, k216, k256, k999, k1296, k4096, k5184, k9999, k12345, k99999, k100000, k999999999, m_2, m_10, m_999, m_9999, m_999999999, q_in, q_cl, q_mul, q_add, q_sub, q_lt, q_le, q_eq, Nat.reduceAdd, Nat.reduceMul, Nat.reduceSub, Nat.reduceLT, Nat.reduceLeDiff, Nat.reduceEqDiff, Nat.add_zero, Nat.zero_add, Nat.mul_zero, q_addm, q_addn, q_subm, q_0m, q_ngm, sky_0, she_0, sky_1, she_1, sky_2, she_2, sky_3, she_3, m_lt, m_gt, m_eq, m_eq', m_one, m_ng, m_mlt, m_meq, q_sub1, q_sub1m, ↓q_irem, mx0, q_div, lt_T, lt_F, le_T, le_F, eq_T, eq_F, not_true_eq_false, not_false_eq_true, true_and, and_true, false_and, and_false, u1_eq, u1_ne, u2_eq, u2_ne, uJ_eq, uJ_ne, upd_eq', upd_ne', ↓reduceIte, ↓bz_i, ↓bz_l, ↓bz_v, ↓bz_h, ↓bz_c, zs_i, zs_l, zs_v, zs_h, zs_c, zs_n, zn_i, zn_l, zn_v, zn_h, zn_c, zi_i, zi_l, zi_v, zi_h, zi_c, List.append_nil, rr_nk, if_true, if_false, ite_true, ite_false, i01, i10, i00, ite_self, true_or, or_true, or_false, false_or]
    · rw [h3 f hf, u1_eq]
      by_cases ef : f = k
      · subst ef; rw [if_neg (by omega), if_pos (by omega), upd_eq']
      · rw [upd_ne' (by omega)]
        by_cases q : k + 1 ≤ f ∧ f < n
        · rw [if_pos q, if_pos (by omega)]
        · rw [if_neg q, if_neg (by omega)]
end DAY

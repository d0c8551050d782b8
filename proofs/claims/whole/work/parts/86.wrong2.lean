section WR2
variable {sz us : Nat} {kq fq : Option Nat} {L : Nat} {xs : Nat → Int32} {A B A' B' : rrA} {J : Nat → Nat → Int64} {n off spr : Nat} {R : Nat → Nat}
set_option maxRecDepth 20000 in
set_option maxHeartbeats 4000000 in
theorem lp181o (hz : 71 ≤ sz) (d : Nat) (n8 : n ≤ 8) (e0 : A 52 0 = nI n) (hR : ∀ i, i < 8 → A 52 (14 + 4 * i + 1) = nI (R i) ∧ R i ≤ 99) (e4 : A 52 4 = nI off) (e5 : A 52 5 = nI spr) (o9 : off ≤ 99) (s9 : spr ≤ 99) {s : Nat} (hs : s < 256) : ∀ (m a : Nat) (st : Bool) (l4 l5 l6 l7 : Option Value), m + a = n → rx (d + 1) 181 4 [some (.ref 51), some (.int (nI s)), some (.int (nI (bN st))), some (.int (nI a)), l4, l5, l6, l7] [] sz us (hp kq fq L xs A B J) = some (some (.int (nI (bN (foo (gE R off spr s) n m a st)))), sz, us, hp kq fq L xs A B J) := by
  intro m
  induction m with
  | zero =>
    intro a st l4 l5 l6 l7 ha
    have : a = n := by omega
    subst this
    rw [x_181_4]
    cases st <;> simp (disch := omega) only [x_181_0, x_181_1, x_181_2, x_181_3, x_181_5, x_181_6, x_181_9, x_181_10, x_181_11, x_181_14, x_181_15, x_181_16, x_181_17, x_181_21, x_181_22, x_181_25, x_181_26, x_181_27, x_181_30, x_181_31, x_181_32, x_181_33, x_181_36, x_181_37, x_181_39, x_181_40, x_181_43, x_181_44, x_181_46, x_181_47, x_181_48, x_181_51, x_181_52, x_181_53, x_181_54, x_181_55, x_181_58, x_181_59, x_181_60, x_181_62, x_181_63, x_181_64, x_181_65, x_181_66, x_181_68, x_181_69, x_181_70, x_181_71, x_181_72, x_181_73, x_181_74, x_181_77, x_181_78, x_181_80, x_181_81, x_181_82, x_181_83, x_181_84, x_181_87, x_181_88, x_181_91, x_181_92, x_181_94, x_181_95, x_181_98, x_181_100, x_181_103, x_181_105, x_181_107, x_181_108, x_181_110, x_181_113, x_181_116, x_181_117, x_181_120, x_181_121, x_181_122, x_181_125, x_181_128, x_181_131, x_181_134, x_181_135, Hm0, Hm1, hz, e0, foo, bN, k0, k1, k2, k3, k4, k5, k6, k7, k8, k9, k10, k11, k12, k13, k14, k15, k16, k20, k24, k30, k32, k46, k56, k60, k69, k88, k99, k100, k125, k255, k338, k398, k422, k17, k18, k19, k21, k22, k23, k25, k26, k27, k28, k29, k31, k33, k34, k35, k36, k37, k38, k39, k40, k41, k42, k43, k44, k45, k47, k48, k49, k50, k51, k52, k53, k54, k55, k57, k58, k59, k61, k62, k63, k64, k70, k71, k96, k109, k114, k115, k119, k124, k128, k216, k256, k999, k1296, k4096, k5184, k9999, k12345, k99999, k100000, k999999999, m_2, m_10, m_999, m_9999, m_999999999, q_in, q_cl, q_mul, q_add, q_sub, q_lt, q_le, q_eq, Nat.reduceAdd, Nat.reduceMul, Nat.reduceSub, Nat.reduceLT, Nat.reduceLeDiff, Nat.reduceEqDiff, Nat.add_zero, Nat.zero_add, Nat.mul_zero, q_addm, q_addn, q_subm, q_0m, q_ngm, sky_0, she_0, sky_1, she_1, sky_2, she_2, sky_3, she_3, m_lt, m_gt, m_eq, m_eq', m_one, m_ng, m_mlt, m_meq, q_sub1, q_sub1m, ↓q_irem, mx0, q_div, lt_T, lt_F, le_T, le_F, eq_T, eq_F, not_true_eq_false, not_false_eq_true, true_and, and_true, false_and, and_false, ↓reduceIte, ↓bz_i, ↓bz_l, ↓bz_v, ↓bz_h, ↓bz_c, zs_i, zs_l, zs_v, zs_h, zs_c, zs_n, zn_i, zn_l, zn_v, zn_h, zn_c, zi_i, zi_l, zi_v, zi_h, zi_c, List.append_nil, rr_nk, if_true, if_false, ite_true, ite_false, i01, i10, i00, ite_self, true_or, or_true, or_false, false_or, if_true, if_false, Bool.false_eq_true]
  | succ m ih =>
    intro a st l4 l5 l6 l7 ha
    obtain ⟨l5', l6', l7', e⟩ := lp181i (kq := kq) (fq := fq) (L := L) (xs := xs) (J := J) (us := us) (B := B) hz d n8 e0 hR e4 e5 o9 s9 hs (a := a) (by omega) (n - (a + 1)) (a + 1) st l5 l6 l7 (by omega) (by omega)
    have e2 := ih (a + 1) (fob (gE R off spr s a) (n - (a + 1)) (a + 1) st) (some (.int (nI n))) l5' l6' l7' (by omega)
    show _ = some (some (Value.int (nI (bN (foo (gE R off spr s) n m (a + 1) (fob (gE R off spr s a) (n - (a + 1)) (a + 1) st))))), sz, us, hp kq fq L xs A B J)
    rw [← e2, x_181_4]
    simp (disch := omega) only [x_181_0, x_181_1, x_181_2, x_181_3, x_181_5, x_181_6, x_181_9, x_181_10, x_181_11, x_181_14, x_181_15, x_181_16, x_181_17, x_181_21, x_181_22, x_181_25, x_181_26, x_181_27, x_181_30, x_181_31, x_181_32, x_181_33, x_181_36, x_181_37, x_181_39, x_181_40, x_181_43, x_181_44, x_181_46, x_181_47, x_181_48, x_181_51, x_181_52, x_181_53, x_181_54, x_181_55, x_181_58, x_181_59, x_181_60, x_181_62, x_181_63, x_181_64, x_181_65, x_181_66, x_181_68, x_181_69, x_181_70, x_181_71, x_181_72, x_181_73, x_181_74, x_181_77, x_181_78, x_181_80, x_181_81, x_181_82, x_181_83, x_181_84, x_181_87, x_181_88, x_181_91, x_181_92, x_181_94, x_181_95, x_181_98, x_181_100, x_181_103, x_181_105, x_181_107, x_181_108, x_181_110, x_181_113, x_181_116, x_181_117, x_181_120, x_181_121, x_181_122, x_181_125, x_181_128, x_181_131, x_181_134, x_181_135, Hm0, Hm1, hz, e0, e, k0, k1, k2, k3, k4, k5, k6, k7, k8, k9, k10, k11, k12, k13, k14, k15, k16, k20, k24, k30, k32, k46, k56, k60, k69, k88, k99, k100, k125, k255, k338, k398, k422, k17, k18, k19, k21, k22, k23, k25, k26, k27, k28, k29, k31, k33, k34, k35, k36, k37, k38, k39, k40, k41, k42, k43, k44, k45, k47, k48, k49, k50, k51, k52, k53, k54, k55, k57, k58, k59, k61, k62, k63, k64, k70, k71, k96, k109, k114, k115, k119, k124, k128, k216, k256, k999, k1296, k4096, k5184, k9999, k12345, k99999, k100000, k999999999, m_2, m_10, m_999, m_9999, m_999999999, q_in, q_cl, q_mul, q_add, q_sub, q_lt, q_le, q_eq, Nat.reduceAdd, Nat.reduceMul, Nat.reduceSub, Nat.reduceLT, Nat.reduceLeDiff, Nat.reduceEqDiff, Nat.add_zero, Nat.zero_add, Nat.mul_zero, q_addm, q_addn, q_subm, q_0m, q_ngm, sky_0, she_0, sky_1, she_1, sky_2, she_2, sky_3, she_3, m_lt, m_gt, m_eq, m_eq', m_one, m_ng, m_mlt, m_meq, q_sub1, q_sub1m, ↓q_irem, mx0, q_div, lt_T, lt_F, le_T, le_F, eq_T, eq_F, not_true_eq_false, not_false_eq_true, true_and, and_true, false_and, and_false, ↓reduceIte, ↓bz_i, ↓bz_l, ↓bz_v, ↓bz_h, ↓bz_c, zs_i, zs_l, zs_v, zs_h, zs_c, zs_n, zn_i, zn_l, zn_v, zn_h, zn_c, zi_i, zi_l, zi_v, zi_h, zi_c, List.append_nil, rr_nk, if_true, if_false, ite_true, ite_false, i01, i10, i00, ite_self, true_or, or_true, or_false, false_or]
theorem RT_foo {s : Nat} : foo (gE R off spr s) n n 0 true = true ↔ RT R off spr n s := by
  rw [foo_iff n 0 true (by omega)]
  refine ⟨fun h i j hi hj ti tj => ?_, fun h => ⟨rfl, fun i j h1 h2 h3 => ?_⟩⟩
  · by_cases q : i = j
    · subst q; exact gR_i
    · by_cases q2 : i < j
      · have := h.2 i j (by omega) q2 hj
        unfold gE at this
        rw [ti, tj] at this
        exact this
      · have := h.2 j i (by omega) (by omega) hi
        unfold gE at this
        rw [ti, tj] at this
        rw [gR_c]; exact this
  · unfold gE
    cases ti : s.testBit i
    · rfl
    · cases tj : s.testBit j
      · rfl
      · rw [h i j (by omega) h3 ti tj]; rfl
set_option maxRecDepth 20000 in
theorem s181 (hz : 71 ≤ sz) (d : Nat) (n8 : n ≤ 8) (e0 : A 52 0 = nI n) (hR : ∀ i, i < 8 → A 52 (14 + 4 * i + 1) = nI (R i) ∧ R i ≤ 99) (e4 : A 52 4 = nI off) (e5 : A 52 5 = nI spr) (o9 : off ≤ 99) (s9 : spr ≤ 99) {s : Nat} (hs : s < 256) : ∃ b : Bool, rx (d + 1) 181 0 [some (.ref 51), some (.int (nI s)), none, none, none, none, none, none] [] sz us (hp kq fq L xs A B J) = some (some (.int (nI (bN b))), sz, us, hp kq fq L xs A B J) ∧ (b = true ↔ RT R off spr n s) := by
  have e := lp181o (kq := kq) (fq := fq) (L := L) (xs := xs) (J := J) (us := us) (B := B) hz d n8 e0 hR e4 e5 o9 s9 hs n 0 true none none none none (by omega)
  refine ⟨_, Eq.trans ?_ e, RT_foo⟩
  simp (disch := omega) only [x_181_0, x_181_1, x_181_2, x_181_3, x_181_5, x_181_6, x_181_9, x_181_10, x_181_11, x_181_14, x_181_15, x_181_16, x_181_17, x_181_19, x_181_21, x_181_22, x_181_25, x_181_26, x_181_27, x_181_30, x_181_31, x_181_32, x_181_33, x_181_36, x_181_37, x_181_39, x_181_40, x_181_43, x_181_44, x_181_46, x_181_47, x_181_48, x_181_51, x_181_52, x_181_53, x_181_54, x_181_55, x_181_58, x_181_59, x_181_60, x_181_62, x_181_63, x_181_64, x_181_65, x_181_66, x_181_68, x_181_69, x_181_70, x_181_71, x_181_72, x_181_73, x_181_74, x_181_77, x_181_78, x_181_80, x_181_81, x_181_82, x_181_83, x_181_84, x_181_87, x_181_88, x_181_91, x_181_92, x_181_94, x_181_95, x_181_98, x_181_100, x_181_103, x_181_105, x_181_107, x_181_108, x_181_110, x_181_113, x_181_116, x_181_117, x_181_120, x_181_121, x_181_122, x_181_125, x_181_128, x_181_131, x_181_134, x_181_135, bN, if_true, k0, k1, k2, k3, k4, k5, k6, k7, k8, k9, k10, k11, k12, k13, k14, k15, k16, k20, k24, k30, k32, k46, k56, k60, k69, k88, k99, k100, k125, k255, k338, k398, k422, k17, k18, k19, k21, k22, k23, k25, k26, k27, k28, k29, k31, k33, k34, k35, k36, k37, k38, k39, k40, k41, k42, k43, k44, k45, k47, k48, k49, k50, k51, k52, k53, k54, k55, k57, k58, k59, k61, k62, k63, k64, k70, k71, k96, k109, k114, k115, k119, k124, k128, k216, k256, k999, k1296, k4096, k5184, k9999, k12345, k99999, k100000, k999999999, m_2, m_10, m_999, m_9999, m_999999999, q_in, q_cl, q_mul, q_add, q_sub, q_lt, q_le, q_eq, Nat.reduceAdd, Nat.reduceMul, Nat.reduceSub, Nat.reduceLT, Nat.reduceLeDiff, Nat.reduceEqDiff, Nat.add_zero, Nat.zero_add, Nat.mul_zero, q_addm, q_addn, q_subm, q_0m, q_ngm, sky_0, she_0, sky_1, she_1, sky_2, she_2, sky_3, she_3, m_lt, m_gt, m_eq, m_eq', m_one, m_ng, m_mlt, m_meq, q_sub1, q_sub1m, ↓q_irem, mx0, q_div, lt_T, lt_F, le_T, le_F, eq_T, eq_F, not_true_eq_false, not_false_eq_true, true_and, and_true, false_and, and_false, ↓reduceIte, ↓bz_i, ↓bz_l, ↓bz_v, ↓bz_h, ↓bz_c, zs_i, zs_l, zs_v, zs_h, zs_c, zs_n, zn_i, zn_l, zn_v, zn_h, zn_c, zi_i, zi_l, zi_v, zi_h, zi_c, List.append_nil, rr_nk, if_true, if_false, ite_true, ite_false, i01, i10, i00, ite_self, true_or, or_true, or_false, false_or]
set_option maxRecDepth 20000 in
theorem s71 (hz : 71 ≤ sz) (d : Nat) (n8 : n ≤ 8) {s : Nat} (hs : s < 256) (hsn : s < 2 ^ n) (hG : ∀ i, i < n → A 40 i = nI (agf (gR R off spr i) n)) : ∃ b : Bool, rx d 71 0 [some (.ref 39), some (.int (nI s)), some (.int (nI n)), none, none] [] sz us (hp kq fq L xs A B J) = some (some (.int (nI (bN b))), sz, us, hp kq fq L xs A B J) ∧ (b = true ↔ RT R off spr n s) := by
  obtain ⟨E, hE⟩ : ∃ E : Nat → Bool, ∀ i, (E i = true ↔ (s.testBit i = true → ∀ j, s.testBit j = true → (agf (gR R off spr i) n).testBit j = true)) := ⟨fun i => @decide _ (Classical.propDecidable (s.testBit i = true → ∀ j, s.testBit j = true → (agf (gR R off spr i) n).testBit j = true)), fun i => by simp⟩
  have e := lp71 (kq := kq) (fq := fq) (L := L) (xs := xs) (J := J) (us := us) (A := A) (B := B) hz d n8 hs hG (E := E) (fun i _ => hE i) n 0 (by omega)
  refine ⟨_, Eq.trans ?_ e, ?_⟩
  · simp (disch := omega) only [x_71_0, x_71_1, x_71_2, x_71_3, x_71_7, x_71_8, x_71_11, x_71_12, x_71_15, x_71_16, x_71_17, x_71_19, x_71_20, x_71_21, x_71_24, x_71_25, x_71_26, x_71_29, x_71_31, x_71_32, x_71_33, x_71_34, x_71_35, x_71_38, x_71_39, x_71_42, x_71_43, x_71_44, x_71_47, x_71_50, x_71_51, bN, alq, if_true, k0, k1, k2, k3, k4, k5, k6, k7, k8, k9, k10, k11, k12, k13, k14, k15, k16, k20, k24, k30, k32, k46, k56, k60, k69, k88, k99, k100, k125, k255, k338, k398, k422, k17, k18, k19, k21, k22, k23, k25, k26, k27, k28, k29, k31, k33, k34, k35, k36, k37, k38, k39, k40, k41, k42, k43, k44, k45, k47, k48, k49, k50, k51, k52, k53, k54, k55, k57, k58, k59, k61, k62, k63, k64, k70, k71, k96, k109, k114, k115, k119, k124, k128, k216, k256, k999, k1296, k4096, k5184, k9999, k12345, k99999, k100000, k999999999, m_2, m_10, m_999, m_9999, m_999999999, q_in, q_cl, q_mul, q_add, q_sub, q_lt, q_le, q_eq, Nat.reduceAdd, Nat.reduceMul, Nat.reduceSub, Nat.reduceLT, Nat.reduceLeDiff, Nat.reduceEqDiff, Nat.add_zero, Nat.zero_add, Nat.mul_zero, q_addm, q_addn, q_subm, q_0m, q_ngm, sky_0, she_0, sky_1, she_1, sky_2, she_2, sky_3, she_3, m_lt, m_gt, m_eq, m_eq', m_one, m_ng, m_mlt, m_meq, q_sub1, q_sub1m, ↓q_irem, mx0, q_div, lt_T, lt_F, le_T, le_F, eq_T, eq_F, not_true_eq_false, not_false_eq_true, true_and, and_true, false_and, and_false, ↓reduceIte, ↓bz_i, ↓bz_l, ↓bz_v, ↓bz_h, ↓bz_c, zs_i, zs_l, zs_v, zs_h, zs_c, zs_n, zn_i, zn_l, zn_v, zn_h, zn_c, zi_i, zi_l, zi_v, zi_h, zi_c, List.append_nil, rr_nk, if_true, if_false, ite_true, ite_false, i01, i10, i00, ite_self, true_or, or_true, or_false, false_or]
  · rw [alq_iff]
    have hb : ∀ j, s.testBit j = true → j < n := fun j hj => by
      by_cases q : j < n
      · exact q
      · have : s < 2 ^ j := Nat.lt_of_lt_of_le hsn (Nat.pow_le_pow_right (by omega) (by omega))
        rw [Nat.testBit_lt_two_pow this] at hj; cases hj
    refine ⟨fun h i j hi hj ti tj => ?_, fun h k hk => (hE k).mpr (fun tk j tj => ?_)⟩
    · have := (hE i).mp (h i hi) ti j tj
      rw [agf_t, Bool.and_eq_true] at this
      exact this.2
    · rw [agf_t, h k j hk (hb j tj) tk tj, decide_eq_true (hb j tj)]; rfl
/-! the sets, one behind the other -/
def wE0 (n : Nat) : Option (Nat × Nat × Nat × Nat) → Nat
  | none => n
  | some q => q.1
def wE1 : Option (Nat × Nat × Nat × Nat) → Nat
  | none => 0
  | some q => q.2.1
def wE2 : Option (Nat × Nat × Nat × Nat) → Nat
  | none => 0
  | some q => q.2.2.1
def wE3 : Option (Nat × Nat × Nat × Nat) → Nat
  | none => 0
  | some q => q.2.2.2
def gdw (o : Option (Nat × Nat × Nat × Nat)) : Prop := ∀ q, o = some q → q.1 ≤ 8 ∧ q.2.1 < 256 ∧ q.2.2.1 < 256 ∧ q.2.2.2 < 256
theorem gdw_st {pr : Nat → Prop} {s : Nat} {o : Option (Nat × Nat × Nat × Nat)} (h : gdw o) (hs : s < 256) : gdw (wst pr s o) := by
  have h8 := pc8_le s
  unfold wst
  by_cases hp : pr s
  · rw [if_pos hp]
    intro q hq
    cases o with
    | none => cases hq; exact ⟨h8, hs, hs, hs⟩
    | some r =>
      obtain ⟨w, l, a, b⟩ := r
      obtain ⟨g1, g2, g3, g4⟩ := h _ rfl
      change (if pc8 s < w then _ else _) = _ at hq
      by_cases c1 : pc8 s < w
      · rw [if_pos c1] at hq; cases hq; exact ⟨h8, hs, hs, hs⟩
      · rw [if_neg c1] at hq
        by_cases c2 : pc8 s = w
        · rw [if_pos c2] at hq; cases hq
          exact ⟨g1, g2, Nat.lt_of_le_of_lt Nat.and_le_left g3, Nat.or_lt_two_pow (n := 8) g4 hs⟩
        · rw [if_neg c2] at hq; cases hq; exact ⟨g1, g2, g3, g4⟩
  · rw [if_neg hp]; exact h
end WR2

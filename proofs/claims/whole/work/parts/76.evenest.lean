/-! ===== the calls mean and evenest ===== -/
def sqs (P : Nat → Int32) : Nat → Int64
  | 0 => lJ 0
  | k + 1 => sqs P k + (P k).toInt64 * (P k).toInt64
theorem sqs_cg {P Q : Nat → Int32} : ∀ k, (∀ i, i < k → P i = Q i) → sqs P k = sqs Q k
  | 0, _ => rfl
  | k + 1, h => by
    unfold sqs
    rw [sqs_cg k (fun i hi => h i (by omega)), h k (by omega)]
def evst (Q : Nat → Int64) (l : Nat) : Option (Nat × Int64) → Option (Nat × Int64)
  | none => some (l, Q l)
  | some q => if Q l < q.2 then some (l, Q l) else some q
def evn (Q : Nat → Int64) : Nat → Nat → Option (Nat × Int64) → Option (Nat × Int64)
  | 0, _, o => o
  | m + 1, l, o => evn Q m (l + 1) (evst Q l o)
def eN1 : Option (Nat × Int64) → Int32
  | none => nI 0
  | some q => nI q.1
def eL1 : Option (Nat × Int64) → Int64
  | none => lJ 0
  | some q => q.2
def eN2 : Option (Nat × Int64) → Int32
  | none => mI 1
  | some q => nI q.1
theorem evst_s {Q : Nat → Int64} {l : Nat} {o : Option (Nat × Int64)} : (evst Q l o).isSome = true := by
  cases o with
  | none => rfl
  | some q => show (if Q l < q.2 then _ else _ : Option (Nat × Int64)).isSome = true; split <;> rfl
theorem evn_s {Q : Nat → Int64} : ∀ m l o, o.isSome = true ∨ 0 < m → (evn Q m l o).isSome = true
  | 0, _, o, h => h.resolve_right (by omega)
  | m + 1, l, o, _ => evn_s m (l + 1) _ (Or.inl evst_s)
def gd5 (o : Option (Nat × Int64)) : Prop := ∀ q, o = some q → q.1 ≤ 5
theorem gd5_st {Q : Nat → Int64} {l : Nat} {o : Option (Nat × Int64)} (h : gd5 o) (hl : l ≤ 5) : gd5 (evst Q l o) := by
  intro q hq
  cases o with
  | none => cases hq; exact hl
  | some p =>
    change (if Q l < p.2 then _ else _) = _ at hq
    by_cases e : Q l < p.2
    · rw [if_pos e] at hq; cases hq; exact hl
    · rw [if_neg e] at hq; exact h q hq
section EVN
variable {sz us : Nat} {kq fq : Option Nat} {L : Nat} {xs : Nat → Int32} {A B A' B' A0 B0 : rrA} {J : Nat → Nat → Int64} {n nl z : Nat} {W D M K V S : Nat → Nat} {law law' : Option Nat} {x : DY}
set_option maxRecDepth 20000 in
theorem lp86i (hz : 71 ≤ sz) (d : Nat) (n8 : n ≤ 8) (e5 : B 1 5 = nI n) {P : Nat → Int32} (hP : ∀ i, i < n → A 41 i = P i) (e : Int32) (v : Int64) (l : Nat) : ∀ (m k : Nat), m + k = n → rx d 86 32 [some (.ref 1), some (.ref 41), some (.int e), some (.long v), none, some (.int (nI l)), some (.long (sqs P k)), none, some (.int (nI k))] [] sz us (hp kq fq L xs A B J) = rx d 86 63 [some (.ref 1), some (.ref 41), some (.int e), some (.long v), none, some (.int (nI l)), some (.long (sqs P n)), none, some (.int (nI n))] [] sz us (hp kq fq L xs A B J) := by
  intro m
  induction m with
  | zero =>
    intro k hk
    have : k = n := by omega
    subst this
    rw [x_86_32]
    simp (disch := omega) only [x_86_0, x_86_1, x_86_2, x_86_3, x_86_4, x_86_5, x_86_7, x_86_9, x_86_10, x_86_13, x_86_16, x_86_19, x_86_20, x_86_22, x_86_23, x_86_26, x_86_27, x_86_29, x_86_30, x_86_34, x_86_35, x_86_38, x_86_41, x_86_43, x_86_44, x_86_46, x_86_47, x_86_48, x_86_49, x_86_51, x_86_52, x_86_53, x_86_54, x_86_55, x_86_57, x_86_60, x_86_65, x_86_68, x_86_70, x_86_71, x_86_72, x_86_75, x_86_77, x_86_78, x_86_80, x_86_81, x_86_84, x_86_87, x_86_88, Hc0, Hc1, Hc2, Hc3, Hc4, hz, e5, k0, k1, k2, k3, k4, k5, k6, k7, k8, k9, k10, k11, k12, k13, k14, k15, k16, k20, k24, k30, k32, k46, k56, k60, k69, k88, k99, k100, k125, k255, k338, k398, k422, k17, k18, k19, k21, k22, k23, k25, k26, k27, k28, k29, k31, k33, k34, k35, k36, k37, k38, k39, k40, k41, k42, k43, k44, k45, k47, k48, k49, k50, k51, k52, k53, k54, k55, k57, k58, k59, k61, k62, k63, k64, k70, k71, k96, k109, k114, k115, k119, k124, k128, k216, k256, k999, k1296, k4096, k5184, k9999, k12345, k99999, k100000, k999999999, m_2, m_10, m_999, m_9999, m_999999999, q_in, q_cl, q_mul, q_add, q_sub, q_lt, q_le, q_eq, Nat.reduceAdd, Nat.reduceMul, Nat.reduceSub, Nat.reduceLT, Nat.reduceLeDiff, Nat.reduceEqDiff, Nat.add_zero, Nat.zero_add, Nat.mul_zero, q_addm, q_addn, q_subm, q_0m, q_ngm, sky_0, she_0, sky_1, she_1, sky_2, she_2, sky_3, she_3, m_lt, m_gt, m_eq, m_eq', m_one, m_ng, m_mlt, m_meq, q_sub1, q_sub1m, ↓q_irem, mx0, q_div, lt_T, lt_F, le_T, le_F, eq_T, eq_F, not_true_eq_false, not_false_eq_true, true_and, and_true, false_and, and_false, ↓reduceIte, ↓bz_i, ↓bz_l, ↓bz_v, ↓bz_h, ↓bz_c, zs_i, zs_l, zs_v, zs_h, zs_c, zs_n, zn_i, zn_l, zn_v, zn_h, zn_c, zi_i, zi_l, zi_v, zi_h, zi_c, List.append_nil, rr_nk, if_true, if_false, ite_true, ite_false, i01, i10, i00, ite_self, true_or, or_true, or_false, false_or]
  | succ m ih =>
    intro k hk
    have hp' := hP k (by omega)
    rw [← ih (k + 1) (by omega), x_86_32]
    simp (disch := omega) only [x_86_0, x_86_1, x_86_2, x_86_3, x_86_4, x_86_5, x_86_7, x_86_9, x_86_10, x_86_13, x_86_16, x_86_19, x_86_20, x_86_22, x_86_23, x_86_26, x_86_27, x_86_29, x_86_30, x_86_34, x_86_35, x_86_38, x_86_41, x_86_43, x_86_44, x_86_46, x_86_47, x_86_48, x_86_49, x_86_51, x_86_52, x_86_53, x_86_54, x_86_55, x_86_57, x_86_60, x_86_65, x_86_68, x_86_70, x_86_71, x_86_72, x_86_75, x_86_77, x_86_78, x_86_80, x_86_81, x_86_84, x_86_87, x_86_88, Hc0, Hc1, Hc2, Hc3, Hc4, hz, e5, hp', sqs, k0, k1, k2, k3, k4, k5, k6, k7, k8, k9, k10, k11, k12, k13, k14, k15, k16, k20, k24, k30, k32, k46, k56, k60, k69, k88, k99, k100, k125, k255, k338, k398, k422, k17, k18, k19, k21, k22, k23, k25, k26, k27, k28, k29, k31, k33, k34, k35, k36, k37, k38, k39, k40, k41, k42, k43, k44, k45, k47, k48, k49, k50, k51, k52, k53, k54, k55, k57, k58, k59, k61, k62, k63, k64, k70, k71, k96, k109, k114, k115, k119, k124, k128, k216, k256, k999, k1296, k4096, k5184, k9999, k12345, k99999, k100000, k999999999, m_2, m_10, m_999, m_9999, m_999999999, q_in, q_cl, q_mul, q_add, q_sub, q_lt, q_le, q_eq, Nat.reduceAdd, Nat.reduceMul, Nat.reduceSub, Nat.reduceLT, Nat.reduceLeDiff, Nat.reduceEqDiff, Nat.add_zero, Nat.zero_add, Nat.mul_zero, q_addm, q_addn, q_subm, q_0m, q_ngm, sky_0, she_0, sky_1, she_1, sky_2, she_2, sky_3, she_3, m_lt, m_gt, m_eq, m_eq', m_one, m_ng, m_mlt, m_meq, q_sub1, q_sub1m, ↓q_irem, mx0, q_div, lt_T, lt_F, le_T, le_F, eq_T, eq_F, not_true_eq_false, not_false_eq_true, true_and, and_true, false_and, and_false, ↓reduceIte, ↓bz_i, ↓bz_l, ↓bz_v, ↓bz_h, ↓bz_c, zs_i, zs_l, zs_v, zs_h, zs_c, zs_n, zn_i, zn_l, zn_v, zn_h, zn_c, zi_i, zi_l, zi_v, zi_h, zi_c, List.append_nil, rr_nk, if_true, if_false, ite_true, ite_false, i01, i10, i00, ite_self, true_or, or_true, or_false, false_or]
set_option maxRecDepth 20000 in
set_option maxHeartbeats 2000000 in
theorem lp86 (hz : 71 ≤ sz) (d : Nat) {C : Nat → Nat} {SK : Nat → Nat → Nat} (hSK : ∀ w f, w < 4 → f < 8 → SK w f ≤ 99) (hS9 : ∀ f, f < 8 → S f ≤ 9999) (n8 : n ≤ 8) (e5 : B 1 5 = nI n) (l5 : nl ≤ 5) (e7 : B 7 1 = nI nl) (hc16 : ∀ w, w < 4 → C w ≤ 16) : ∀ (m l : Nat) (o : Option (Nat × Int64)) (A : rrA) (v : Option Value) (l8 : Option Value), m + l = nl → (o = none ↔ l = 0) → gd5 o → CX n nl z W D M K V A B → (∀ w f, w < 4 → f < 8 → A (11 + w) f = nI (SK w f)) → (∀ f, f < 8 → A 4 f = nI (S f)) → (∀ w, w < 4 → A 9 w = nI (C w)) → ∃ A', rx (d + 5) 86 7 [some (.ref 1), some (.ref 41), some (.int (eN1 o)), some (.long (eL1 o)), none, some (.int (nI l)), v, none, l8] [] sz us (hp kq fq L xs A B J) = some (some (.int (eN1 (evn (fun l => sqs (mb C (MP n z D M K V W S (some l) SK) 4) n) m l o))), sz, us, hp kq fq L xs A' B J) ∧ (∀ i, i ≠ 6 → i ≠ 21 → i ≠ 41 → A' i = A i) := by
  intro m
  induction m with
  | zero =>
    intro l o A v l8 hl ho hg hC hS1 hS2 hc
    have : l = nl := by omega
    subst this
    refine ⟨A, ?_, fun _ _ _ _ => rfl⟩
    rw [x_86_7]
    simp (disch := omega) only [x_86_0, x_86_1, x_86_2, x_86_3, x_86_4, x_86_5, x_86_9, x_86_10, x_86_13, x_86_16, x_86_19, x_86_20, x_86_22, x_86_23, x_86_26, x_86_27, x_86_29, x_86_30, x_86_34, x_86_35, x_86_38, x_86_41, x_86_43, x_86_44, x_86_46, x_86_47, x_86_48, x_86_49, x_86_51, x_86_52, x_86_53, x_86_54, x_86_55, x_86_57, x_86_60, x_86_63, x_86_65, x_86_68, x_86_70, x_86_71, x_86_72, x_86_75, x_86_77, x_86_78, x_86_80, x_86_81, x_86_84, x_86_87, x_86_88, x_30_0, x_30_1, x_30_4, Hc0, Hc1, Hc2, Hc3, Hc4, hz, e7, evn, k0, k1, k2, k3, k4, k5, k6, k7, k8, k9, k10, k11, k12, k13, k14, k15, k16, k20, k24, k30, k32, k46, k56, k60, k69, k88, k99, k100, k125, k255, k338, k398, k422, k17, k18, k19, k21, k22, k23, k25, k26, k27, k28, k29, k31, k33, k34, k35, k36, k37, k38, k39, k40, k41, k42, k43, k44, k45, k47, k48, k49, k50, k51, k52, k53, k54, k55, k57, k58, k59, k61, k62, k63, k64, k70, k71, k96, k109, k114, k115, k119, k124, k128, k216, k256, k999, k1296, k4096, k5184, k9999, k12345, k99999, k100000, k999999999, m_2, m_10, m_999, m_9999, m_999999999, q_in, q_cl, q_mul, q_add, q_sub, q_lt, q_le, q_eq, Nat.reduceAdd, Nat.reduceMul, Nat.reduceSub, Nat.reduceLT, Nat.reduceLeDiff, Nat.reduceEqDiff, Nat.add_zero, Nat.zero_add, Nat.mul_zero, q_addm, q_addn, q_subm, q_0m, q_ngm, sky_0, she_0, sky_1, she_1, sky_2, she_2, sky_3, she_3, m_lt, m_gt, m_eq, m_eq', m_one, m_ng, m_mlt, m_meq, q_sub1, q_sub1m, ↓q_irem, mx0, q_div, lt_T, lt_F, le_T, le_F, eq_T, eq_F, not_true_eq_false, not_false_eq_true, true_and, and_true, false_and, and_false, ↓reduceIte, ↓bz_i, ↓bz_l, ↓bz_v, ↓bz_h, ↓bz_c, zs_i, zs_l, zs_v, zs_h, zs_c, zs_n, zn_i, zn_l, zn_v, zn_h, zn_c, zi_i, zi_l, zi_v, zi_h, zi_c, List.append_nil, rr_nk, if_true, if_false, ite_true, ite_false, i01, i10, i00, ite_self, true_or, or_true, or_false, false_or]
  | succ m ih =>
    intro l o A v l8 hl ho hg hC hS1 hS2 hc
    obtain ⟨A1, a1, h1, h2⟩ := s82 (kq := kq) (fq := fq) (L := L) (xs := xs) (J := J) (us := us) hz d (law' := some l) (fun k q => by cases q; omega) hSK hS9 hc16 hC hS1 hS2 hc
    have a2 := lp86i (kq := kq) (fq := fq) (L := L) (xs := xs) (J := J) (us := us) (A := A1) hz (d + 5) n8 e5 h2 (eN1 o) (eL1 o) l n 0 (by omega)
    have gf : ∀ i, i ≠ 6 → i ≠ 21 → i ≠ 41 → A1 i = A i := h1
    obtain ⟨A', e, h3⟩ := ih (l + 1) (evst (fun l => sqs (mb C (MP n z D M K V W S (some l) SK) 4) n) l o) A1 (some (.long (sqs (mb C (MP n z D M K V W S (some l) SK) 4) n))) (some (.int (nI n))) (by omega) (by
      constructor
      · intro q; have := evst_s (Q := fun l => sqs (mb C (MP n z D M K V W S (some l) SK) 4) n) (l := l) (o := o); rw [q] at this; cases this
      · intro q; omega) (gd5_st hg (by omega)) (hC.cg (gf 2 (by omega) (by omega) (by omega)) (gf 8 (by omega) (by omega) (by omega)) (gf 20 (by omega) (by omega) (by omega)) rfl rfl rfl) (fun w f hw hf => by rw [gf _ (by omega) (by omega) (by omega)]; exact hS1 w f hw hf) (fun f hf => by rw [gf _ (by omega) (by omega) (by omega)]; exact hS2 f hf) (fun w hw => by rw [gf _ (by omega) (by omega) (by omega)]; exact hc w hw)
    refine ⟨A', Eq.trans ?_ e, fun i i1 i2 i3 => by rw [h3 i i1 i2 i3, gf i i1 i2 i3]⟩
    have z0 : sqs (mb C (MP n z D M K V W S (some l) SK) 4) 0 = lJ 0 := rfl
    rw [z0] at a2
    simp only [lI] at a1
    rw [x_86_7]
    cases o with
    | none =>
      have l0 : l = 0 := ho.mp rfl
      subst l0
      simp (disch := omega) only [x_86_0, x_86_1, x_86_2, x_86_3, x_86_4, x_86_5, x_86_9, x_86_10, x_86_13, x_86_16, x_86_19, x_86_20, x_86_22, x_86_23, x_86_26, x_86_27, x_86_29, x_86_30, x_86_34, x_86_35, x_86_38, x_86_41, x_86_43, x_86_44, x_86_46, x_86_47, x_86_48, x_86_49, x_86_51, x_86_52, x_86_53, x_86_54, x_86_55, x_86_57, x_86_60, x_86_63, x_86_65, x_86_68, x_86_70, x_86_71, x_86_72, x_86_75, x_86_77, x_86_78, x_86_80, x_86_81, x_86_84, x_86_87, x_86_88, x_30_0, x_30_1, x_30_4, Hc0, Hc1, Hc2, Hc3, Hc4, hz, e7, j0, a1, a2, evst, eN1, eL1, k0, k1, k2, k3, k4, k5, k6, k7, k8, k9, k10, k11, k12, k13, k14, k15, k16, k20, k24, k30, k32, k46, k56, k60, k69, k88, k99, k100, k125, k255, k338, k398, k422, k17, k18, k19, k21, k22, k23, k25, k26, k27, k28, k29, k31, k33, k34, k35, k36, k37, k38, k39, k40, k41, k42, k43, k44, k45, k47, k48, k49, k50, k51, k52, k53, k54, k55, k57, k58, k59, k61, k62, k63, k64, k70, k71, k96, k109, k114, k115, k119, k124, k128, k216, k256, k999, k1296, k4096, k5184, k9999, k12345, k99999, k100000, k999999999, m_2, m_10, m_999, m_9999, m_999999999, q_in, q_cl, q_mul, q_add, q_sub, q_lt, q_le, q_eq, Nat.reduceAdd, Nat.reduceMul, Nat.reduceSub, Nat.reduceLT, Nat.reduceLeDiff, Nat.reduceEqDiff, Nat.add_zero, Nat.zero_add, Nat.mul_zero, q_addm, q_addn, q_subm, q_0m, q_ngm, sky_0, she_0, sky_1, she_1, sky_2, she_2, sky_3, she_3, m_lt, m_gt, m_eq, m_eq', m_one, m_ng, m_mlt, m_meq, q_sub1, q_sub1m, ↓q_irem, mx0, q_div, lt_T, lt_F, le_T, le_F, eq_T, eq_F, not_true_eq_false, not_false_eq_true, true_and, and_true, false_and, and_false, ↓reduceIte, ↓bz_i, ↓bz_l, ↓bz_v, ↓bz_h, ↓bz_c, zs_i, zs_l, zs_v, zs_h, zs_c, zs_n, zn_i, zn_l, zn_v, zn_h, zn_c, zi_i, zi_l, zi_v, zi_h, zi_c, List.append_nil, rr_nk, if_true, if_false, ite_true, ite_false, i01, i10, i00, ite_self, true_or, or_true, or_false, false_or] at a2 ⊢
      simp (disch := omega) only [x_86_0, x_86_1, x_86_2, x_86_3, x_86_4, x_86_5, x_86_9, x_86_10, x_86_13, x_86_16, x_86_19, x_86_20, x_86_22, x_86_23, x_86_26, x_86_27, x_86_29, x_86_30, x_86_34, x_86_35, x_86_38, x_86_41, x_86_43, x_86_44, x_86_46, x_86_47, x_86_48, x_86_49, x_86_51, x_86_52, x_86_53, x_86_54, x_86_55, x_86_57, x_86_60, x_86_63, x_86_65, x_86_68, x_86_70, x_86_71, x_86_72, x_86_75, x_86_77, x_86_78, x_86_80, x_86_81, x_86_84, x_86_87, x_86_88, x_30_0, x_30_1, x_30_4, Hc0, Hc1, Hc2, Hc3, Hc4, hz, e7, j0, a1, a2, evst, eN1, eL1, k0, k1, k2, k3, k4, k5, k6, k7, k8, k9, k10, k11, k12, k13, k14, k15, k16, k20, k24, k30, k32, k46, k56, k60, k69, k88, k99, k100, k125, k255, k338, k398, k422, k17, k18, k19, k21, k22, k23, k25, k26, k27, k28, k29, k31, k33, k34, k35, k36, k37, k38, k39, k40, k41, k42, k43, k44, k45, k47, k48, k49, k50, k51, k52, k53, k54, k55, k57, k58, k59, k61, k62, k63, k64, k70, k71, k96, k109, k114, k115, k119, k124, k128, k216, k256, k999, k1296, k4096, k5184, k9999, k12345, k99999, k100000, k999999999, m_2, m_10, m_999, m_9999, m_999999999, q_in, q_cl, q_mul, q_add, q_sub, q_lt, q_le, q_eq, Nat.reduceAdd, Nat.reduceMul, Nat.reduceSub, Nat.reduceLT, Nat.reduceLeDiff, Nat.reduceEqDiff, Nat.add_zero, Nat.zero_add, Nat.mul_zero, q_addm, q_addn, q_subm, q_0m, q_ngm, sky_0, she_0, sky_1, she_1, sky_2, she_2, sky_3, she_3, m_lt, m_gt, m_eq, m_eq', m_one, m_ng, m_mlt, m_meq, q_sub1, q_sub1m, ↓q_irem, mx0, q_div, lt_T, lt_F, le_T, le_F, eq_T, eq_F, not_true_eq_false, not_false_eq_true, true_and, and_true, false_and, and_false, ↓reduceIte, ↓bz_i, ↓bz_l, ↓bz_v, ↓bz_h, ↓bz_c, zs_i, zs_l, zs_v, zs_h, zs_c, zs_n, zn_i, zn_l, zn_v, zn_h, zn_c, zi_i, zi_l, zi_v, zi_h, zi_c, List.append_nil, rr_nk, if_true, if_false, ite_true, ite_false, i01, i10, i00, ite_self, true_or, or_true, or_false, false_or]
    | some q =>
      have l0 : l ≠ 0 := fun e0 => by cases (ho.mpr e0)
      by_cases hq : sqs (mb C (MP n z D M K V W S (some l) SK) 4) n < q.2
      · simp (disch := omega) only [eN1, eL1] at a2 ⊢
        simp (disch := omega) only [x_86_0, x_86_1, x_86_2, x_86_3, x_86_4, x_86_5, x_86_9, x_86_10, x_86_13, x_86_16, x_86_19, x_86_20, x_86_22, x_86_23, x_86_26, x_86_27, x_86_29, x_86_30, x_86_34, x_86_35, x_86_38, x_86_41, x_86_43, x_86_44, x_86_46, x_86_47, x_86_48, x_86_49, x_86_51, x_86_52, x_86_53, x_86_54, x_86_55, x_86_57, x_86_60, x_86_63, x_86_65, x_86_68, x_86_70, x_86_71, x_86_72, x_86_75, x_86_77, x_86_78, x_86_80, x_86_81, x_86_84, x_86_87, x_86_88, x_30_0, x_30_1, x_30_4, Hc0, Hc1, Hc2, Hc3, Hc4, hz, e7, j0, a1, a2, evst, eN1, eL1, lgc_lt, hq, k0, k1, k2, k3, k4, k5, k6, k7, k8, k9, k10, k11, k12, k13, k14, k15, k16, k20, k24, k30, k32, k46, k56, k60, k69, k88, k99, k100, k125, k255, k338, k398, k422, k17, k18, k19, k21, k22, k23, k25, k26, k27, k28, k29, k31, k33, k34, k35, k36, k37, k38, k39, k40, k41, k42, k43, k44, k45, k47, k48, k49, k50, k51, k52, k53, k54, k55, k57, k58, k59, k61, k62, k63, k64, k70, k71, k96, k109, k114, k115, k119, k124, k128, k216, k256, k999, k1296, k4096, k5184, k9999, k12345, k99999, k100000, k999999999, m_2, m_10, m_999, m_9999, m_999999999, q_in, q_cl, q_mul, q_add, q_sub, q_lt, q_le, q_eq, Nat.reduceAdd, Nat.reduceMul, Nat.reduceSub, Nat.reduceLT, Nat.reduceLeDiff, Nat.reduceEqDiff, Nat.add_zero, Nat.zero_add, Nat.mul_zero, q_addm, q_addn, q_subm, q_0m, q_ngm, sky_0, she_0, sky_1, she_1, sky_2, she_2, sky_3, she_3, m_lt, m_gt, m_eq, m_eq', m_one, m_ng, m_mlt, m_meq, q_sub1, q_sub1m, ↓q_irem, mx0, q_div, lt_T, lt_F, le_T, le_F, eq_T, eq_F, not_true_eq_false, not_false_eq_true, true_and, and_true, false_and, and_false, ↓reduceIte, ↓bz_i, ↓bz_l, ↓bz_v, ↓bz_h, ↓bz_c, zs_i, zs_l, zs_v, zs_h, zs_c, zs_n, zn_i, zn_l, zn_v, zn_h, zn_c, zi_i, zi_l, zi_v, zi_h, zi_c, List.append_nil, rr_nk, if_true, if_false, ite_true, ite_false, i01, i10, i00, ite_self, true_or, or_true, or_false, false_or]
      · simp (disch := omega) only [eN1, eL1] at a2 ⊢
        simp (disch := omega) only [x_86_0, x_86_1, x_86_2, x_86_3, x_86_4, x_86_5, x_86_9, x_86_10, x_86_13, x_86_16, x_86_19, x_86_20, x_86_22, x_86_23, x_86_26, x_86_27, x_86_29, x_86_30, x_86_34, x_86_35, x_86_38, x_86_41, x_86_43, x_86_44, x_86_46, x_86_47, x_86_48, x_86_49, x_86_51, x_86_52, x_86_53, x_86_54, x_86_55, x_86_57, x_86_60, x_86_63, x_86_65, x_86_68, x_86_70, x_86_71, x_86_72, x_86_75, x_86_77, x_86_78, x_86_80, x_86_81, x_86_84, x_86_87, x_86_88, x_30_0, x_30_1, x_30_4, Hc0, Hc1, Hc2, Hc3, Hc4, hz, e7, j0, a1, a2, evst, eN1, eL1, lgc_lt, hq, k0, k1, k2, k3, k4, k5, k6, k7, k8, k9, k10, k11, k12, k13, k14, k15, k16, k20, k24, k30, k32, k46, k56, k60, k69, k88, k99, k100, k125, k255, k338, k398, k422, k17, k18, k19, k21, k22, k23, k25, k26, k27, k28, k29, k31, k33, k34, k35, k36, k37, k38, k39, k40, k41, k42, k43, k44, k45, k47, k48, k49, k50, k51, k52, k53, k54, k55, k57, k58, k59, k61, k62, k63, k64, k70, k71, k96, k109, k114, k115, k119, k124, k128, k216, k256, k999, k1296, k4096, k5184, k9999, k12345, k99999, k100000, k999999999, m_2, m_10, m_999, m_9999, m_999999999, q_in, q_cl, q_mul, q_add, q_sub, q_lt, q_le, q_eq, Nat.reduceAdd, Nat.reduceMul, Nat.reduceSub, Nat.reduceLT, Nat.reduceLeDiff, Nat.reduceEqDiff, Nat.add_zero, Nat.zero_add, Nat.mul_zero, q_addm, q_addn, q_subm, q_0m, q_ngm, sky_0, she_0, sky_1, she_1, sky_2, she_2, sky_3, she_3, m_lt, m_gt, m_eq, m_eq', m_one, m_ng, m_mlt, m_meq, q_sub1, q_sub1m, ↓q_irem, mx0, q_div, lt_T, lt_F, le_T, le_F, eq_T, eq_F, not_true_eq_false, not_false_eq_true, true_and, and_true, false_and, and_false, ↓reduceIte, ↓bz_i, ↓bz_l, ↓bz_v, ↓bz_h, ↓bz_c, zs_i, zs_l, zs_v, zs_h, zs_c, zs_n, zn_i, zn_l, zn_v, zn_h, zn_c, zi_i, zi_l, zi_v, zi_h, zi_c, List.append_nil, rr_nk, if_true, if_false, ite_true, ite_false, i01, i10, i00, ite_self, true_or, or_true, or_false, false_or]
end EVN

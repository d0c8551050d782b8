/-! ===== settling: the two runs ===== -/
theorem Inv.same2 {c : Nat} {kq fq : Option Nat} {sz us : Nat} {A B A' B' : rrA} (h : Inv c kq fq sz us A B) (a : ∀ i, i ≠ 6 ∧ i ≠ 21 ∧ i ≠ 24 ∧ i ≠ 32 ∧ i ≠ 33 ∧ i ≠ 35 ∧ i ≠ 40 ∧ i ≠ 41 ∧ i ≠ 54 ∧ i ≠ 56 ∧ i ≠ 57 ∧ i ≠ 58 ∧ i ≠ 59 ∧ i ≠ 60 ∧ i ≠ 61 ∧ i ≠ 62 ∧ i ≠ 63 ∧ i ≠ 64 ∧ i ≠ 69 ∧ i ≠ 37 ∧ i ≠ 38 → A' i = A i) (h37 : A' 37 0 = A 37 0) (h38 : A' 38 0 = A 38 0) (b : ∀ i, i ≠ 27 ∧ i ≠ 30 ∧ i ≠ 31 ∧ i ≠ 34 ∧ i ≠ 36 ∧ i ≠ 39 ∧ i ≠ 51 → B' i = B i) (h3 : B' 51 3 = B 51 3) (h20 : B' 51 20 = B 51 20) : Inv c kq fq sz us A' B' := by
  obtain ⟨h1, h2, hK, hQ⟩ := h
  obtain ⟨p1, p2, p3, p4, p5, p6, p7, p8, p9, p10, p11, p12, p13⟩ := h1
  refine ⟨⟨p1.cg (by rw [b 1 (by omega)]) (a _ (by omega)) (a _ (by omega)) (a _ (by omega)) (by rw [a 52 (by omega)]), p2.cg (a _ (by omega)) (fun _ _ => by rw [a 52 (by omega)]), p3.cg (a _ (by omega)) (fun _ _ => by rw [a 52 (by omega)]), p4.cg (a _ (by omega)) (by rw [a 52 (by omega)]) (fun _ _ => by rw [a 52 (by omega)]), p5.cg (a _ (by omega)) (fun _ _ => by rw [a 52 (by omega)]), p6.cg (by rw [b (1 + 6) (by omega)]) (a _ (by omega)) (by rw [a 52 (by omega)]) (by rw [a 52 (by omega)]) (fun _ _ => by rw [a 52 (by omega)]; exact ⟨rfl, rfl⟩), p7.cg (b 1 (by omega)) (by rw [a 52 (by omega)]) (by rw [a 52 (by omega)]) (by rw [a 52 (by omega)]) (by rw [a 52 (by omega)]) (by rw [a 52 (by omega)]), p8.cg (a _ (by omega)) (fun _ _ => by rw [a 52 (by omega)]), p9.cg (fun w hw => a _ (by omega)) (fun _ _ _ _ => by rw [a 52 (by omega)]), p10.cg (by rw [b (1 + 14) (by omega)]) (a _ (by omega)) (by rw [a 52 (by omega)]) (fun _ _ => by rw [a 52 (by omega)]), p11.cg (by rw [b (1 + 16) (by omega)]) (a _ (by omega)) (by rw [a 52 (by omega)]) (fun _ _ => by rw [a 52 (by omega)]), p12.congr (by rw [b (1 + 18) (by omega)]) (a _ (by omega)) (fun _ _ => by rw [a 52 (by omega)]), p13.congr (by rw [b (1 + 21) (by omega)]) (a _ (by omega)) (fun _ _ => by rw [a 52 (by omega)])⟩, h2.congr (fun i hi => a i (by omega)) (fun i hi => b i (by omega)) h20, hK.congr hQ.1 (by rw [b 0 (by omega)]) h3 (a 53 (by omega)) (fun i hi => a i (by omega)) (fun i hi => b i (by omega)), ⟨hQ.1, h37.trans hQ.2.1, h38.trans hQ.2.2⟩⟩
theorem sS_all {F : Nat → Int32} {n W : Nat} (hW : ∀ k, k < n → (W.testBit k = true ↔ PY F n k ≠ nI 0)) : ∀ k, k ≤ n → sS (PY F n) W k = sO F k * nI n - nI k * sO F n := by
  intro k
  have e0 : nI 0 = (0 : Int32) := rfl
  induction k with
  | zero => intro _; show nI 0 = nI 0 * nI n - nI 0 * sO F n; rw [e0]; grind
  | succ k ih =>
    intro hk
    show sS (PY F n) W k + (if W.testBit k = true then PY F n k else nI 0) = (sO F k + F k) * nI n - nI (k + 1) * sO F n
    have e1 : (if W.testBit k = true then PY F n k else nI 0) = PY F n k := by
      by_cases q : W.testBit k = true
      · rw [if_pos q]
      · rw [if_neg q]
        by_cases q2 : PY F n k = nI 0
        · exact q2.symm
        · exact absurd ((hW k (by omega)).mpr q2) q
    have e2 : nI (k + 1) = nI k + 1 := by
      have h1 : nI (k + 1) = nI k + nI 1 := by
        show Int32.ofNat (k + 1) = Int32.ofNat k + Int32.ofNat 1
        rw [Int32.ofNat_add]
      rw [h1]; rfl
    rw [ih (by omega), e1, e2]
    unfold PY
    grind
def zO (P : Nat → Int32) (n s : Nat) : Prop := sS P s n = nI 0
theorem zO_T (P : Nat → Int32) (n : Nat) : ZT (zO P n) := by
  have e0 : nI 0 = (0 : Int32) := rfl
  refine ⟨sS_0 n, fun p s h hp => ?_⟩
  unfold zO at hp ⊢
  rw [sS_xor h n, hp, e0, Int32.zero_add]
theorem zO_all {F : Nat → Int32} {n : Nat} : zO (PY F n) n (msk (PY F n) n) := by
  have e0 : nI 0 = (0 : Int32) := rfl
  unfold zO
  rw [sS_all (fun k hk => by rw [msk_t]; simp [hk]) n (Nat.le_refl n), e0]
  grind
/-! the class's table -/
def CB (Z : Nat → Prop) (c : Nat → Nat) (s : Nat) : Prop := (∀ i, s.testBit i = true → c (s ^^^ 2 ^ i) ≤ c s ∧ (Z s → c (s ^^^ 2 ^ i) + 1 ≤ c s)) ∧ ∃ i, s.testBit i = true ∧ (Z s → c s = c (s ^^^ 2 ^ i) + 1) ∧ (¬ Z s → c s = c (s ^^^ 2 ^ i))
theorem pw_lt {s i : Nat} (h : s.testBit i = true) : s ^^^ 2 ^ i < s := xs_lt (pw_sub h) (by have := Nat.two_pow_pos i; omega)
theorem CB_cg {Z : Nat → Prop} {c c' : Nat → Nat} {s : Nat} (h : ∀ t, t ≤ s → c' t = c t) (hR : CB Z c s) : CB Z c' s := by
  obtain ⟨h1, i, h2, h3, h4⟩ := hR
  refine ⟨fun j hj => ?_, i, h2, ?_, ?_⟩
  · have := pw_lt hj
    rw [h s (Nat.le_refl s), h _ (by omega)]; exact h1 j hj
  · have := pw_lt h2
    rw [h s (Nat.le_refl s), h _ (by omega)]; exact h3
  · have := pw_lt h2
    rw [h s (Nat.le_refl s), h _ (by omega)]; exact h4
def CTB (P : Nat → Int32) (n W : Nat) (c : Nat → Nat) (a37 a38 : Nat → Int32) (s : Nat) : Prop := c 0 = 0 ∧ ∀ t, t < s → sub t W → a38 t = nI (c t) ∧ a37 t = sS P t n ∧ c t ≤ t ∧ (t ≠ 0 → CB (zO P n) c t)
def FST (Z : Nat → Prop) (W f s : Nat) : Prop := (f = 0 ∧ ∀ t, sub t W → t ≠ 0 → t < s → ¬ Z t) ∨ (f ≠ 0 ∧ sub f W ∧ Z f ∧ f < s ∧ ∀ t, sub t W → t ≠ 0 → t < f → ¬ Z t)
section SC
variable {sz us : Nat} {kq fq : Option Nat} {L : Nat} {xs : Nat → Int32} {A B A' B' : rrA} {J : Nat → Nat → Int64} {n : Nat} {P : Nat → Int32}
set_option maxRecDepth 20000 in
set_option maxHeartbeats 4000000 in
theorem lp174o (hz : 71 ≤ sz) (d : Nat) (n8 : n ≤ 8) : ∀ (m s : Nat) (A : rrA) (r : Nat → Option Nat) (l2 l3 : Option Value), m + s = 256 → 1 ≤ s → A 52 0 = nI n → (∀ i, i < n → A 59 i = P i) → TB (zO P n) r (A 60) s → ∃ r' a', rx (d + 1) 174 9 [some (.ref 51), some (.int (nI s)), l2, l3] [] sz us (hp kq fq L xs A B J) = some (none, sz, us, hp kq fq L xs (u1 A 60 a') B J) ∧ TB (zO P n) r' a' 256 := by
  intro m
  induction m with
  | zero =>
    intro s A r l2 l3 hm h1 e0 hP hT
    have : s = 256 := by omega
    subst this
    refine ⟨r, A 60, ?_, hT⟩
    rw [u1_self, x_174_9]
    simp (disch := omega) only [x_174_0, x_174_1, x_174_4, x_174_5, x_174_6, x_174_7, x_174_8, x_174_10, x_174_13, x_174_16, x_174_17, x_174_20, x_174_21, x_174_22, x_174_23, x_174_24, x_174_25, x_174_26, x_174_29, x_174_30, x_174_31, x_174_32, x_174_33, x_174_34, x_174_35, x_174_38, x_174_39, x_174_40, x_174_43, x_174_46, x_174_47, x_174_50, x_174_51, x_174_52, x_174_53, x_174_54, x_174_55, x_174_56, x_174_57, x_174_60, x_174_61, x_174_64, x_174_65, x_174_66, x_174_67, x_174_70, x_174_71, x_174_72, x_174_75, x_174_76, x_174_79, x_174_80, x_174_81, x_174_82, x_174_83, x_174_84, x_174_85, x_174_86, x_174_87, x_174_88, x_174_91, x_174_92, x_174_93, x_174_96, x_174_97, x_174_100, x_174_101, x_174_102, x_174_103, x_174_104, x_174_105, x_174_106, x_174_107, x_174_108, x_174_111, x_174_112, x_174_115, x_174_116, x_174_117, x_174_118, x_174_119, x_174_120, x_174_121, x_174_122, x_174_123, x_174_124, x_174_127, x_174_130, x_174_133, k0, k1, k2, k3, k4, k5, k6, k7, k8, k9, k10, k11, k12, k13, k14, k15, k16, k20, k24, k30, k32, k46, k56, k60, k69, k88, k99, k100, k125, k255, k338, k398, k422, k17, k18, k19, k21, k22, k23, k25, k26, k27, k28, k29, k31, k33, k34, k35, k36, k37, k38, k39, k40, k41, k42, k43, k44, k45, k47, k48, k49, k50, k51, k52, k53, k54, k55, k57, k58, k59, k61, k62, k63, k64, k70, k71, k96, k109, k114, k115, k119, k124, k128, k216, k256, k999, k1296, k4096, k5184, k9999, k12345, k99999, k100000, k999999999, m_2, m_10, m_999, m_9999, m_999999999, q_in, q_cl, q_mul, q_add, q_sub, q_lt, q_le, q_eq, Nat.reduceAdd, Nat.reduceMul, Nat.reduceSub, Nat.reduceLT, Nat.reduceLeDiff, Nat.reduceEqDiff, Nat.add_zero, Nat.zero_add, Nat.mul_zero, q_addm, q_addn, q_subm, q_0m, q_ngm, sky_0, she_0, sky_1, she_1, sky_2, she_2, sky_3, she_3, m_lt, m_gt, m_eq, m_eq', m_one, m_ng, m_mlt, m_meq, q_sub1, q_sub1m, ↓q_irem, mx0, q_div, lt_T, lt_F, le_T, le_F, eq_T, eq_F, not_true_eq_false, not_false_eq_true, true_and, and_true, false_and, and_false, ↓reduceIte, ↓bz_i, ↓bz_l, ↓bz_v, ↓bz_h, ↓bz_c, zs_i, zs_l, zs_v, zs_h, zs_c, zs_n, zn_i, zn_l, zn_v, zn_h, zn_c, zi_i, zi_l, zi_v, zi_h, zi_c, List.append_nil, rr_nk, if_true, if_false, ite_true, ite_false, i01, i10, i00, ite_self, true_or, or_true, or_false, false_or]
  | succ m ih =>
    intro s A r l2 l3 hm h1 e0 hP hT
    obtain ⟨v', l3', a', g1, g2, g3, g4, g5, g6⟩ := lp174i (kq := kq) (fq := fq) (L := L) (xs := xs) (J := J) (us := us) (B := B) (P := P) hz d n8 (s := s) (by omega) (by omega) (r := r) s s (u1 A 60 (upd (A 60) s (mI 1))) none l3 (Nat.le_refl s) (fun _ h => h) (by rw [u1_ne (by omega)]; exact e0) (fun i hi => by rw [u1_ne (by omega)]; exact hP i hi) (fun t ht => by rw [u1_eq, upd_ne' (by omega)]; exact ⟨(hT.2 t ht).1, (hT.2 t ht).2.1⟩) (by rw [u1_eq, upd_eq']; rfl) (fun k e => by cases e)
    rw [u1_u1] at g1
    obtain ⟨r2, hr2⟩ : ∃ r2 : Nat → Option Nat, r2 = fun t => if t = s then v' else r t := ⟨_, rfl⟩
    have r2s : r2 s = v' := by rw [hr2]; exact if_pos rfl
    have r2n : ∀ t, t ≠ s → r2 t = r t := fun t ht => by rw [hr2]; exact if_neg ht
    have hT2 : TB (zO P n) r2 a' (s + 1) := by
      refine ⟨by rw [r2n 0 (by omega)]; exact hT.1, fun t ht => ?_⟩
      by_cases e : t = s
      · subst e
        refine ⟨by rw [r2s]; exact g3, fun k hk => ?_, fun _ => ⟨fun p k q1 q2 q3 q4 q5 => ?_, fun k' hk' => ?_⟩⟩
        · rw [r2s] at hk
          rcases g6 with g6 | ⟨q, k1, q1, q2, q3, q4, q5, q6⟩
          · rw [g6] at hk; cases hk
          · have b1 := xs_lt q1 q2
            have b2 := (hT.2 _ b1).2.1 k1 q5
            rw [q6] at hk; cases hk; omega
        · have b1 := xs_lt q1 q2
          rw [r2n _ (by omega)] at q5
          rw [r2s]
          exact g5 p k (sub_le q1) q1 q2 q3 q4 q5
        · rw [r2s] at hk'
          rcases g6 with g6 | ⟨q, k1, q1, q2, q3, q4, q5, q6⟩
          · rw [g6] at hk'; cases hk'
          · have b1 := xs_lt q1 q2
            rw [q6] at hk'; cases hk'
            exact ⟨q, k1, q1, q2, q3, q4, by rw [r2n _ (by omega)]; exact q5, rfl⟩
      · have hts : t < s := by omega
        obtain ⟨b1, b2, b3⟩ := hT.2 t hts
        refine ⟨by rw [g2 t e, u1_eq, upd_ne' e, b1, r2n t e], fun k hk => by rw [r2n t e] at hk; exact b2 k hk, fun t0 => RB_cg (fun w hw => r2n w (by omega)) (b3 t0)⟩
    obtain ⟨r3, a3, f1, f2⟩ := ih (s + 1) (u1 A 60 a') r2 (some (.int (nI 0))) l3' (by omega) (by omega) (by rw [u1_ne (by omega)]; exact e0) (fun i hi => by rw [u1_ne (by omega)]; exact hP i hi) (by rw [u1_eq]; exact hT2)
    rw [u1_u1] at f1
    refine ⟨r3, a3, ?_, f2⟩
    rw [← f1, x_174_9]
    simp (disch := omega) only [x_174_0, x_174_1, x_174_4, x_174_5, x_174_6, x_174_7, x_174_8, x_174_10, x_174_13, x_174_16, x_174_17, x_174_20, x_174_21, x_174_22, x_174_23, x_174_24, x_174_26, x_174_29, x_174_30, x_174_31, x_174_32, x_174_33, x_174_34, x_174_35, x_174_38, x_174_39, x_174_40, x_174_43, x_174_46, x_174_47, x_174_50, x_174_51, x_174_52, x_174_53, x_174_54, x_174_55, x_174_56, x_174_57, x_174_60, x_174_61, x_174_64, x_174_65, x_174_66, x_174_67, x_174_70, x_174_71, x_174_72, x_174_75, x_174_76, x_174_79, x_174_80, x_174_81, x_174_82, x_174_83, x_174_84, x_174_85, x_174_86, x_174_87, x_174_88, x_174_91, x_174_92, x_174_93, x_174_96, x_174_97, x_174_100, x_174_101, x_174_102, x_174_103, x_174_104, x_174_105, x_174_106, x_174_107, x_174_108, x_174_111, x_174_112, x_174_115, x_174_116, x_174_117, x_174_118, x_174_119, x_174_120, x_174_121, x_174_122, x_174_123, x_174_124, x_174_127, x_174_130, x_174_133, Hm0, Hm1, hz, g1, k0, k1, k2, k3, k4, k5, k6, k7, k8, k9, k10, k11, k12, k13, k14, k15, k16, k20, k24, k30, k32, k46, k56, k60, k69, k88, k99, k100, k125, k255, k338, k398, k422, k17, k18, k19, k21, k22, k23, k25, k26, k27, k28, k29, k31, k33, k34, k35, k36, k37, k38, k39, k40, k41, k42, k43, k44, k45, k47, k48, k49, k50, k51, k52, k53, k54, k55, k57, k58, k59, k61, k62, k63, k64, k70, k71, k96, k109, k114, k115, k119, k124, k128, k216, k256, k999, k1296, k4096, k5184, k9999, k12345, k99999, k100000, k999999999, m_2, m_10, m_999, m_9999, m_999999999, q_in, q_cl, q_mul, q_add, q_sub, q_lt, q_le, q_eq, Nat.reduceAdd, Nat.reduceMul, Nat.reduceSub, Nat.reduceLT, Nat.reduceLeDiff, Nat.reduceEqDiff, Nat.add_zero, Nat.zero_add, Nat.mul_zero, q_addm, q_addn, q_subm, q_0m, q_ngm, sky_0, she_0, sky_1, she_1, sky_2, she_2, sky_3, she_3, m_lt, m_gt, m_eq, m_eq', m_one, m_ng, m_mlt, m_meq, q_sub1, q_sub1m, ↓q_irem, mx0, q_div, lt_T, lt_F, le_T, le_F, eq_T, eq_F, not_true_eq_false, not_false_eq_true, true_and, and_true, false_and, and_false, u1_eq, u1_ne, u2_eq, u2_ne, uJ_eq, uJ_ne, upd_eq', upd_ne', ↓reduceIte, ↓bz_i, ↓bz_l, ↓bz_v, ↓bz_h, ↓bz_c, zs_i, zs_l, zs_v, zs_h, zs_c, zs_n, zn_i, zn_l, zn_v, zn_h, zn_c, zi_i, zi_l, zi_v, zi_h, zi_c, List.append_nil, rr_nk, if_true, if_false, ite_true, ite_false, i01, i10, i00, ite_self, true_or, or_true, or_false, false_or]
set_option maxRecDepth 20000 in
theorem s174 (hz : 71 ≤ sz) (d : Nat) (n8 : n ≤ 8) (e0 : A 52 0 = nI n) (hP : ∀ i, i < n → A 59 i = P i) : ∃ r a', rx (d + 1) 174 0 [some (.ref 51), none, none, none] [] sz us (hp kq fq L xs A B J) = some (none, sz, us, hp kq fq L xs (u1 A 60 a') B J) ∧ TB (zO P n) r a' 256 := by
  obtain ⟨r, a', e, h⟩ := lp174o (kq := kq) (fq := fq) (L := L) (xs := xs) (J := J) (us := us) (B := B) (P := P) hz d n8 255 1 (u1 A 60 (upd (A 60) 0 (nI 0))) (fun t => if t = 0 then some 0 else none) none none (by omega) (by omega) (by rw [u1_ne (by omega)]; exact e0) (fun i hi => by rw [u1_ne (by omega)]; exact hP i hi) ⟨rfl, fun t ht => by
    have : t = 0 := by omega
    subst this
    refine ⟨by rw [u1_eq, upd_eq']; rfl, fun k hk => ?_, fun h => absurd rfl h⟩
    have hk' : some 0 = some k := hk
    cases hk'; exact Nat.le_refl 0⟩
  rw [u1_u1] at e
  refine ⟨r, a', ?_, h⟩
  rw [← e]
  simp (disch := omega) only [x_174_0, x_174_1, x_174_4, x_174_5, x_174_6, x_174_7, x_174_8, x_174_10, x_174_13, x_174_16, x_174_17, x_174_20, x_174_21, x_174_22, x_174_23, x_174_24, x_174_25, x_174_26, x_174_29, x_174_30, x_174_31, x_174_32, x_174_33, x_174_34, x_174_35, x_174_38, x_174_39, x_174_40, x_174_43, x_174_46, x_174_47, x_174_50, x_174_51, x_174_52, x_174_53, x_174_54, x_174_55, x_174_56, x_174_57, x_174_60, x_174_61, x_174_64, x_174_65, x_174_66, x_174_67, x_174_70, x_174_71, x_174_72, x_174_75, x_174_76, x_174_79, x_174_80, x_174_81, x_174_82, x_174_83, x_174_84, x_174_85, x_174_86, x_174_87, x_174_88, x_174_91, x_174_92, x_174_93, x_174_96, x_174_97, x_174_100, x_174_101, x_174_102, x_174_103, x_174_104, x_174_105, x_174_106, x_174_107, x_174_108, x_174_111, x_174_112, x_174_115, x_174_116, x_174_117, x_174_118, x_174_119, x_174_120, x_174_121, x_174_122, x_174_123, x_174_124, x_174_127, x_174_130, x_174_133, Hm0, Hm1, hz, k0, k1, k2, k3, k4, k5, k6, k7, k8, k9, k10, k11, k12, k13, k14, k15, k16, k20, k24, k30, k32, k46, k56, k60, k69, k88, k99, k100, k125, k255, k338, k398, k422, k17, k18, k19, k21, k22, k23, k25, k26, k27, k28, k29, k31, k33, k34, k35, k36, k37, k38, k39, k40, k41, k42, k43, k44, k45, k47, k48, k49, k50, k51, k52, k53, k54, k55, k57, k58, k59, k61, k62, k63, k64, k70, k71, k96, k109, k114, k115, k119, k124, k128, k216, k256, k999, k1296, k4096, k5184, k9999, k12345, k99999, k100000, k999999999, m_2, m_10, m_999, m_9999, m_999999999, q_in, q_cl, q_mul, q_add, q_sub, q_lt, q_le, q_eq, Nat.reduceAdd, Nat.reduceMul, Nat.reduceSub, Nat.reduceLT, Nat.reduceLeDiff, Nat.reduceEqDiff, Nat.add_zero, Nat.zero_add, Nat.mul_zero, q_addm, q_addn, q_subm, q_0m, q_ngm, sky_0, she_0, sky_1, she_1, sky_2, she_2, sky_3, she_3, m_lt, m_gt, m_eq, m_eq', m_one, m_ng, m_mlt, m_meq, q_sub1, q_sub1m, ↓q_irem, mx0, q_div, lt_T, lt_F, le_T, le_F, eq_T, eq_F, not_true_eq_false, not_false_eq_true, true_and, and_true, false_and, and_false, u1_eq, u1_ne, u2_eq, u2_ne, uJ_eq, uJ_ne, upd_eq', upd_ne', ↓reduceIte, ↓bz_i, ↓bz_l, ↓bz_v, ↓bz_h, ↓bz_c, zs_i, zs_l, zs_v, zs_h, zs_c, zs_n, zn_i, zn_l, zn_v, zn_h, zn_c, zi_i, zi_l, zi_v, zi_h, zi_c, List.append_nil, rr_nk, if_true, if_false, ite_true, ite_false, i01, i10, i00, ite_self, true_or, or_true, or_false, false_or]
set_option maxRecDepth 20000 in
theorem lp172 (hz : 71 ≤ sz) (d : Nat) {W f : Nat} (hW : W < 256) (n8 : n ≤ 8) {r : Nat → Option Nat} (hT : TB (zO P n) r (A 60) 256) (hF : FST (zO P n) W f (W + 1)) (k : Int32) : ∀ (m s : Nat), m + s = W + 1 → 1 ≤ s → (∀ t, sub t W → t ≠ 0 → t < s → ¬ zO P n t) → rx d 172 67 [some (.ref 51), some (.int k), some (.int (nI W)), some (.int (nI s))] [] sz us (hp kq fq L xs A B J) = some (some (.int (nI f)), sz, us, hp kq fq L xs A B J) := by
  intro m
  induction m with
  | zero =>
    intro s hm h1 hl
    have : f = 0 := by
      rcases hF with h | ⟨q1, q2, q3, q4, q5⟩
      · exact h.1
      · exact absurd q3 (hl f q2 q1 (by omega))
    subst this
    rw [x_172_67]
    simp (disch := omega) only [x_172_0, x_172_1, x_172_2, x_172_3, x_172_6, x_172_9, x_172_10, x_172_11, x_172_14, x_172_15, x_172_16, x_172_17, x_172_20, x_172_21, x_172_22, x_172_25, x_172_26, x_172_29, x_172_30, x_172_31, x_172_34, x_172_35, x_172_36, x_172_39, x_172_40, x_172_41, x_172_44, x_172_45, x_172_48, x_172_49, x_172_50, x_172_53, x_172_54, x_172_57, x_172_58, x_172_61, x_172_62, x_172_63, x_172_64, x_172_65, x_172_66, x_172_68, x_172_69, x_172_72, x_172_73, x_172_74, x_172_75, x_172_76, x_172_77, x_172_80, x_172_81, x_172_84, x_172_85, x_172_86, x_172_87, x_172_90, x_172_91, x_172_92, x_172_95, x_172_98, x_172_99, k0, k1, k2, k3, k4, k5, k6, k7, k8, k9, k10, k11, k12, k13, k14, k15, k16, k20, k24, k30, k32, k46, k56, k60, k69, k88, k99, k100, k125, k255, k338, k398, k422, k17, k18, k19, k21, k22, k23, k25, k26, k27, k28, k29, k31, k33, k34, k35, k36, k37, k38, k39, k40, k41, k42, k43, k44, k45, k47, k48, k49, k50, k51, k52, k53, k54, k55, k57, k58, k59, k61, k62, k63, k64, k70, k71, k96, k109, k114, k115, k119, k124, k128, k216, k256, k999, k1296, k4096, k5184, k9999, k12345, k99999, k100000, k999999999, m_2, m_10, m_999, m_9999, m_999999999, q_in, q_cl, q_mul, q_add, q_sub, q_lt, q_le, q_eq, Nat.reduceAdd, Nat.reduceMul, Nat.reduceSub, Nat.reduceLT, Nat.reduceLeDiff, Nat.reduceEqDiff, Nat.add_zero, Nat.zero_add, Nat.mul_zero, q_addm, q_addn, q_subm, q_0m, q_ngm, sky_0, she_0, sky_1, she_1, sky_2, she_2, sky_3, she_3, m_lt, m_gt, m_eq, m_eq', m_one, m_ng, m_mlt, m_meq, q_sub1, q_sub1m, ↓q_irem, mx0, q_div, lt_T, lt_F, le_T, le_F, eq_T, eq_F, not_true_eq_false, not_false_eq_true, true_and, and_true, false_and, and_false, ↓reduceIte, ↓bz_i, ↓bz_l, ↓bz_v, ↓bz_h, ↓bz_c, zs_i, zs_l, zs_v, zs_h, zs_c, zs_n, zn_i, zn_l, zn_v, zn_h, zn_c, zi_i, zi_l, zi_v, zi_h, zi_c, List.append_nil, rr_nk, if_true, if_false, ite_true, ite_false, i01, i10, i00, ite_self, true_or, or_true, or_false, false_or]
  | succ m ih =>
    intro s hm h1 hl
    rw [x_172_67]
    have hbs : (nI s &&& (nI W ^^^ mI 1) = nI 0) = sub s W := bi_sub (by omega)
    have e60 : A 60 s = oI (r s) := (hT.2 s (by omega)).1
    by_cases hs : sub s W
    · have hbs' : (nI s &&& (nI W ^^^ mI 1) = nI 0) = True := by rw [hbs]; exact eq_true hs
      have hrf := rF (TB_RTb hT hW) (zO_T P n) hs (by omega) hl
      by_cases hz0 : zO P n s
      · have hf : f = s := by
          rcases hF with h | ⟨q1, q2, q3, q4, q5⟩
          · exact absurd hz0 (h.2 s hs (by omega) (by omega))
          · by_cases q : f < s
            · exact absurd q3 (hl f q2 q1 q)
            · by_cases q' : s < f
              · exact absurd hz0 (q5 s hs (by omega) q')
              · omega
        subst hf
        rw [hrf.mpr hz0] at e60
        have e60' : A 60 f = nI 1 := e60
        simp (disch := omega) only [x_172_0, x_172_1, x_172_2, x_172_3, x_172_6, x_172_9, x_172_10, x_172_11, x_172_14, x_172_15, x_172_16, x_172_17, x_172_20, x_172_21, x_172_22, x_172_25, x_172_26, x_172_29, x_172_30, x_172_31, x_172_34, x_172_35, x_172_36, x_172_39, x_172_40, x_172_41, x_172_44, x_172_45, x_172_48, x_172_49, x_172_50, x_172_53, x_172_54, x_172_57, x_172_58, x_172_61, x_172_62, x_172_63, x_172_64, x_172_65, x_172_66, x_172_68, x_172_69, x_172_72, x_172_73, x_172_74, x_172_75, x_172_76, x_172_77, x_172_80, x_172_81, x_172_84, x_172_85, x_172_86, x_172_87, x_172_90, x_172_91, x_172_92, x_172_95, x_172_98, x_172_99, Hm0, Hm1, hz, hbs', e60', k0, k1, k2, k3, k4, k5, k6, k7, k8, k9, k10, k11, k12, k13, k14, k15, k16, k20, k24, k30, k32, k46, k56, k60, k69, k88, k99, k100, k125, k255, k338, k398, k422, k17, k18, k19, k21, k22, k23, k25, k26, k27, k28, k29, k31, k33, k34, k35, k36, k37, k38, k39, k40, k41, k42, k43, k44, k45, k47, k48, k49, k50, k51, k52, k53, k54, k55, k57, k58, k59, k61, k62, k63, k64, k70, k71, k96, k109, k114, k115, k119, k124, k128, k216, k256, k999, k1296, k4096, k5184, k9999, k12345, k99999, k100000, k999999999, m_2, m_10, m_999, m_9999, m_999999999, q_in, q_cl, q_mul, q_add, q_sub, q_lt, q_le, q_eq, Nat.reduceAdd, Nat.reduceMul, Nat.reduceSub, Nat.reduceLT, Nat.reduceLeDiff, Nat.reduceEqDiff, Nat.add_zero, Nat.zero_add, Nat.mul_zero, q_addm, q_addn, q_subm, q_0m, q_ngm, sky_0, she_0, sky_1, she_1, sky_2, she_2, sky_3, she_3, m_lt, m_gt, m_eq, m_eq', m_one, m_ng, m_mlt, m_meq, q_sub1, q_sub1m, ↓q_irem, mx0, q_div, lt_T, lt_F, le_T, le_F, eq_T, eq_F, not_true_eq_false, not_false_eq_true, true_and, and_true, false_and, and_false, ↓reduceIte, ↓bz_i, ↓bz_l, ↓bz_v, ↓bz_h, ↓bz_c, zs_i, zs_l, zs_v, zs_h, zs_c, zs_n, zn_i, zn_l, zn_v, zn_h, zn_c, zi_i, zi_l, zi_v, zi_h, zi_c, List.append_nil, rr_nk, if_true, if_false, ite_true, ite_false, i01, i10, i00, ite_self, true_or, or_true, or_false, false_or]
      · have hne : (A 60 s = nI 1) = False := by
          refine eq_false (fun e => hz0 (hrf.mp ?_))
          rw [e60] at e
          have hb := (hT.2 s (by omega)).2.1
          cases hr : r s with
          | none => rw [hr] at e; exact absurd e (by decide)
          | some k =>
            rw [hr] at e
            have := hb k hr
            have : k = 1 := (nI_eq (by omega) (by omega)).mp e
            rw [this]
        have e := ih (s + 1) (by omega) (by omega) (fun t h2 h3 h4 => by
          by_cases q : t = s
          · subst q; exact hz0
          · exact hl t h2 h3 (by omega))
        rw [← e]
        simp (disch := omega) only [x_172_0, x_172_1, x_172_2, x_172_3, x_172_6, x_172_9, x_172_10, x_172_11, x_172_14, x_172_15, x_172_16, x_172_17, x_172_20, x_172_21, x_172_22, x_172_25, x_172_26, x_172_29, x_172_30, x_172_31, x_172_34, x_172_35, x_172_36, x_172_39, x_172_40, x_172_41, x_172_44, x_172_45, x_172_48, x_172_49, x_172_50, x_172_53, x_172_54, x_172_57, x_172_58, x_172_61, x_172_62, x_172_63, x_172_64, x_172_65, x_172_66, x_172_68, x_172_69, x_172_72, x_172_73, x_172_74, x_172_75, x_172_76, x_172_77, x_172_80, x_172_81, x_172_84, x_172_85, x_172_86, x_172_87, x_172_90, x_172_91, x_172_92, x_172_95, x_172_98, x_172_99, Hm0, Hm1, hz, hbs', hne, k0, k1, k2, k3, k4, k5, k6, k7, k8, k9, k10, k11, k12, k13, k14, k15, k16, k20, k24, k30, k32, k46, k56, k60, k69, k88, k99, k100, k125, k255, k338, k398, k422, k17, k18, k19, k21, k22, k23, k25, k26, k27, k28, k29, k31, k33, k34, k35, k36, k37, k38, k39, k40, k41, k42, k43, k44, k45, k47, k48, k49, k50, k51, k52, k53, k54, k55, k57, k58, k59, k61, k62, k63, k64, k70, k71, k96, k109, k114, k115, k119, k124, k128, k216, k256, k999, k1296, k4096, k5184, k9999, k12345, k99999, k100000, k999999999, m_2, m_10, m_999, m_9999, m_999999999, q_in, q_cl, q_mul, q_add, q_sub, q_lt, q_le, q_eq, Nat.reduceAdd, Nat.reduceMul, Nat.reduceSub, Nat.reduceLT, Nat.reduceLeDiff, Nat.reduceEqDiff, Nat.add_zero, Nat.zero_add, Nat.mul_zero, q_addm, q_addn, q_subm, q_0m, q_ngm, sky_0, she_0, sky_1, she_1, sky_2, she_2, sky_3, she_3, m_lt, m_gt, m_eq, m_eq', m_one, m_ng, m_mlt, m_meq, q_sub1, q_sub1m, ↓q_irem, mx0, q_div, lt_T, lt_F, le_T, le_F, eq_T, eq_F, not_true_eq_false, not_false_eq_true, true_and, and_true, false_and, and_false, ↓reduceIte, ↓bz_i, ↓bz_l, ↓bz_v, ↓bz_h, ↓bz_c, zs_i, zs_l, zs_v, zs_h, zs_c, zs_n, zn_i, zn_l, zn_v, zn_h, zn_c, zi_i, zi_l, zi_v, zi_h, zi_c, List.append_nil, rr_nk, if_true, if_false, ite_true, ite_false, i01, i10, i00, ite_self, true_or, or_true, or_false, false_or]
    · have hbs' : (nI s &&& (nI W ^^^ mI 1) = nI 0) = False := by rw [hbs]; exact eq_false hs
      have e := ih (s + 1) (by omega) (by omega) (fun t h2 h3 h4 => by
          by_cases q : t = s
          · subst q; exact absurd h2 hs
          · exact hl t h2 h3 (by omega))
      rw [← e]
      simp (disch := omega) only [x_172_0, x_172_1, x_172_2, x_172_3, x_172_6, x_172_9, x_172_10, x_172_11, x_172_14, x_172_15, x_172_16, x_172_17, x_172_20, x_172_21, x_172_22, x_172_25, x_172_26, x_172_29, x_172_30, x_172_31, x_172_34, x_172_35, x_172_36, x_172_39, x_172_40, x_172_41, x_172_44, x_172_45, x_172_48, x_172_49, x_172_50, x_172_53, x_172_54, x_172_57, x_172_58, x_172_61, x_172_62, x_172_63, x_172_64, x_172_65, x_172_66, x_172_68, x_172_69, x_172_72, x_172_73, x_172_74, x_172_75, x_172_76, x_172_77, x_172_80, x_172_81, x_172_84, x_172_85, x_172_86, x_172_87, x_172_90, x_172_91, x_172_92, x_172_95, x_172_98, x_172_99, Hm0, Hm1, hz, hbs', k0, k1, k2, k3, k4, k5, k6, k7, k8, k9, k10, k11, k12, k13, k14, k15, k16, k20, k24, k30, k32, k46, k56, k60, k69, k88, k99, k100, k125, k255, k338, k398, k422, k17, k18, k19, k21, k22, k23, k25, k26, k27, k28, k29, k31, k33, k34, k35, k36, k37, k38, k39, k40, k41, k42, k43, k44, k45, k47, k48, k49, k50, k51, k52, k53, k54, k55, k57, k58, k59, k61, k62, k63, k64, k70, k71, k96, k109, k114, k115, k119, k124, k128, k216, k256, k999, k1296, k4096, k5184, k9999, k12345, k99999, k100000, k999999999, m_2, m_10, m_999, m_9999, m_999999999, q_in, q_cl, q_mul, q_add, q_sub, q_lt, q_le, q_eq, Nat.reduceAdd, Nat.reduceMul, Nat.reduceSub, Nat.reduceLT, Nat.reduceLeDiff, Nat.reduceEqDiff, Nat.add_zero, Nat.zero_add, Nat.mul_zero, q_addm, q_addn, q_subm, q_0m, q_ngm, sky_0, she_0, sky_1, she_1, sky_2, she_2, sky_3, she_3, m_lt, m_gt, m_eq, m_eq', m_one, m_ng, m_mlt, m_meq, q_sub1, q_sub1m, ↓q_irem, mx0, q_div, lt_T, lt_F, le_T, le_F, eq_T, eq_F, not_true_eq_false, not_false_eq_true, true_and, and_true, false_and, and_false, ↓reduceIte, ↓bz_i, ↓bz_l, ↓bz_v, ↓bz_h, ↓bz_c, zs_i, zs_l, zs_v, zs_h, zs_c, zs_n, zn_i, zn_l, zn_v, zn_h, zn_c, zi_i, zi_l, zi_v, zi_h, zi_c, List.append_nil, rr_nk, if_true, if_false, ite_true, ite_false, i01, i10, i00, ite_self, true_or, or_true, or_false, false_or]
end SC

/-! ===== restore; image where one stands already ===== -/
def CPd (q p m6 m14 m16 : Nat) (A B A' B' : rrA) : Prop := ((∀ k, k < 8 → A' (q + 1) k = A (p + 1) k) ∧ (∀ k, k < 8 → A' (q + 2) k = A (p + 2) k) ∧ (∀ k, k < 8 → A' (q + 3) k = A (p + 3) k) ∧ (∀ k, k < 8 → A' (q + 4) k = A (p + 4) k) ∧ (∀ k, k < m6 → A' (q + 7) k = A (p + 7) k) ∧ (∀ k, k < 4 → A' (q + 8) k = A (p + 8) k) ∧ (∀ w, w < 4 → ∀ k, k < 8 → A' (q + 10 + w) k = A (p + 10 + w) k) ∧ (∀ k, k < m14 → A' (q + 15) k = A (p + 15) k) ∧ (∀ k, k < m16 → A' (q + 17) k = A (p + 17) k) ∧ (∀ k, k < 60 → A' (q + 19) k = A (p + 19) k) ∧ (∀ k, k < 60 → A' (q + 22) k = A (p + 22) k)) ∧ (B' q 5 = B p 5 ∧ B' q 7 = B p 7 ∧ B' q 8 = B p 8 ∧ B' q 9 = B p 9 ∧ B' q 12 = B p 12 ∧ B' q 13 = B p 13 ∧ B' (q + 6) 1 = B (p + 6) 1 ∧ B' (q + 14) 1 = B (p + 14) 1 ∧ B' (q + 16) 1 = B (p + 16) 1 ∧ B' (q + 18) 2 = B (p + 18) 2 ∧ B' (q + 21) 2 = B (p + 21) 2)
theorem TR.cpy {u : Nat} {z z' : Int32} {f f' s s' : Nat → Int32} {p : Nat} (h : TR u z f s p) (hz : z' = z) (hf : ∀ k, k < 60 → f' k = f k) (hs : ∀ k, k < 125 → s' (p + k) = s (p + k)) : TR u z' f' s' p := by
  obtain ⟨n, K, V, h1, h2, h3, h4, h5⟩ := h
  subst hz
  refine ⟨n, K, V, h1, h2, ?_, fun k hk => ?_, h5⟩
  · have := hs 0 (by omega); rw [Nat.add_zero] at this; rw [this]; exact h3
  · have e1 := hs (1 + 2 * k) (by omega)
    have e2 := hs (2 + 2 * k) (by omega)
    rw [← Nat.add_assoc] at e1 e2
    rw [e1, e2, hf k (by omega)]; exact h4 k hk
theorem SR.cpy {q p m6 m14 m16 : Nat} {A B A' B' : rrA} {s s' : Nat → Int32} (h : SR p A B s) (h6 : B (p + 6) 1 = nI m6) (h14 : B (p + 14) 1 = nI m14) (h16 : B (p + 16) 1 = nI m16) (l6 : m6 ≤ 5) (l14 : m14 ≤ 60) (l16 : m16 ≤ 24) (hc : CPd q p m6 m14 m16 A B A' B') (hs : ∀ t, t < 422 → s' t = s t) : SR q A' B' s' := by
  obtain ⟨⟨a1, a2, a3, a4, a7, a8, a10, a15, a17, a19, a22⟩, ⟨b5, b7, b8, b9, b12, b13, b6, b14, b16, b18, b21⟩⟩ := hc
  obtain ⟨h1, h2, h3, h4, h5, g6, h7, h8, h9, h10, h11, h12, h13⟩ := h
  refine ⟨?_, fun f hf => ?_, fun f hf => ?_, ?_, fun f hf => ?_, ?_, ?_, ?_, fun w hw f hf => ?_, ?_, ?_, h12.cpy b18 a19 (fun k hk => hs _ (by omega)), h13.cpy b21 a22 (fun k hk => hs _ (by omega))⟩
  · obtain ⟨n, n8, e1, e2, e3⟩ := h1
    refine ⟨n, n8, b5.trans e1, (hs 0 (by omega)).trans e2, fun f f1 f2 => ?_⟩
    rw [a2 f f2, a3 f f2, a4 f f2]; exact e3 f f1 f2
  · rw [a1 f hf, hs _ (by omega)]; exact h2 f hf
  · rw [a2 f hf, hs _ (by omega)]; exact h3 f hf
  · obtain ⟨dy, e1, e2, e3⟩ := h4
    refine ⟨dy, e1, (hs 2 (by omega)).trans e2, fun f hf => ?_⟩
    rw [a3 f hf, hs _ (by omega)]; exact e3 f hf
  · rw [a4 f hf, hs _ (by omega)]; exact h5 f hf
  · obtain ⟨l, e1, e2, e3, e4, e5⟩ := g6
    have el : l = m6 := (nI_eq (by omega) (by omega)).mp (e2.symm.trans h6)
    subst el
    refine ⟨l, e1, b6.trans e2, (hs 1 (by omega)).trans e3, fun k hk => ?_, by rw [hs 3 (by omega)]; exact e5⟩
    rw [a7 k hk, hs _ (by omega), hs _ (by omega)]; exact e4 k hk
  · obtain ⟨e1, ⟨e2, e3⟩, ⟨e4, e5⟩, e6, e7⟩ := h7
    rw [show (SP7 q B' s') = (B' q 7 = s' 3 ∧ (B' q 8 = s' 4 ∧ ∃ j, j ≤ 99 ∧ s' 4 = nI j) ∧ (B' q 9 = s' 5 ∧ ∃ j, j ≤ 99 ∧ s' 5 = nI j) ∧ B' q 12 = s' 2 ∧ B' q 13 = s' 8) from rfl]
    rw [b7, b8, b9, b12, b13, hs 3 (by omega), hs 4 (by omega), hs 5 (by omega), hs 2 (by omega), hs 8 (by omega)]
    exact ⟨e1, ⟨e2, e3⟩, ⟨e4, e5⟩, e6, e7⟩
  · obtain ⟨c, e1, e2⟩ := h8
    refine ⟨c, fun w hw => ?_, e2⟩
    rw [a8 w hw, hs _ (by omega)]; exact e1 w hw
  · rw [a10 w hw f hf, hs _ (by omega)]; exact h9 w hw f hf
  · obtain ⟨t, e1, e2, e3, e4⟩ := h10
    have el : t = m14 := (nI_eq (by omega) (by omega)).mp (e2.symm.trans h14)
    subst el
    refine ⟨t, e1, b14.trans e2, (hs 6 (by omega)).trans e3, fun k hk => ?_⟩
    rw [a15 k hk, hs _ (by omega)]; exact e4 k hk
  · obtain ⟨t, e1, e2, e3, e4⟩ := h11
    have el : t = m16 := (nI_eq (by omega) (by omega)).mp (e2.symm.trans h16)
    subst el
    refine ⟨t, e1, b16.trans e2, (hs 7 (by omega)).trans e3, fun k hk => ?_⟩
    rw [a17 k hk, hs _ (by omega)]; exact e4 k hk
theorem SR.sizes {p : Nat} {A B : rrA} {s : Nat → Int32} (h : SR p A B s) : ∃ m6 m14 m16 m18 m21 : Nat, m6 ≤ 5 ∧ m14 ≤ 60 ∧ m16 ≤ 24 ∧ m18 ≤ 60 ∧ m21 ≤ 60 ∧ B (p + 6) 1 = nI m6 ∧ B (p + 14) 1 = nI m14 ∧ B (p + 16) 1 = nI m16 ∧ B (p + 18) 2 = nI m18 ∧ B (p + 21) 2 = nI m21 := by
  obtain ⟨h1, h2, h3, h4, h5, ⟨l, e1, e2, -⟩, h7, h8, h9, ⟨t, f1, f2, -⟩, ⟨w, g1, g2, -⟩, ⟨n, K, V, k1', k2', -⟩, ⟨n', K', V', k3', k4', -⟩⟩ := h
  exact ⟨l, t, w, n, n', e1, f1, g1, k1', k3', e2, f2, g2, k2', k4'⟩
def OpK (c d k : Nat) (X : List (Option Value)) (m : Nat) (Y : List (Option Value)) (sz us : Nat) (kq fq : Option Nat) (L : Nat) (xs : Nat → Int32) (A B : Nat → Nat → Int32) (J : Nat → Nat → Int64) : Prop :=
    ∃ v kq1 fq1 sz1 us1 A1 B1 J1, rx d k 0 X [] sz us (hp kq fq L xs A B J) = some (some v, sz1, us1, hp kq1 fq1 L xs A1 B1 J1) ∧
    ∃ A2 B2 J2, rx d m 0 Y [] sz1 us1 (hp kq1 fq1 L xs A1 B1 J1) = some (some v, sz1, us1, hp kq1 fq1 L xs A2 B2 J2) ∧ Inv (c + 1) kq1 fq1 sz1 us1 A2 B2
theorem Inv.up {c : Nat} {kq fq : Option Nat} {sz us : Nat} {A B : rrA} (h : Inv c kq fq sz us A B) : Inv (c + 1) kq fq sz us A B := by
  obtain ⟨h1, h2, ⟨⟨n, e1, e2⟩, h4, h5⟩, h6⟩ := h
  refine ⟨h1, h2, ⟨⟨n, by omega, e2⟩, h4, fun f hf => ?_⟩, h6⟩
  obtain ⟨m, m1, m2⟩ := h5 f hf
  exact ⟨m, by omega, m2⟩
theorem Op.k {c d k m sz us : Nat} {X Y : List (Option Value)} {kq fq : Option Nat} {L : Nat} {xs : Nat → Int32} {A B : Nat → Nat → Int32} {J : Nat → Nat → Int64} (h : Op c d k X m Y sz us kq fq L xs A B J) : OpK c d k X m Y sz us kq fq L xs A B J := by
  obtain ⟨v, A1, B1, J1, h1, A2, B2, J2, h2, h3⟩ := h
  exact ⟨_, _, _, _, _, _, _, _, h1, _, _, _, h2, h3.up⟩
theorem vrs (q : Nat) : va_rf (some q) = .ref q := rfl
theorem vrn : va_rf none = .null := rfl
theorem QR.k2 {kq fq : Option Nat} {sz us q : Nat} (h : QR kq fq sz us) (hq : kq = some q) : 71 ≤ q ∧ q ≤ 100 ∧ q + 24 ≤ sz ∧ (∀ f, fq = some f → 71 ≤ f ∧ (f + 7 ≤ q ∨ q + 24 ≤ f)) := by
  subst hq
  rcases h with h | h | h | h | h
  · cases h.1
  · obtain ⟨h1, h2, h3, h4⟩ := h
    cases h1
    exact ⟨by omega, by omega, by omega, fun f hf => by rw [h2] at hf; cases hf⟩
  · cases h.1
  · obtain ⟨h1, h2, h3, h4⟩ := h
    cases h1
    exact ⟨by omega, by omega, by omega, fun f hf => by rw [h2] at hf; cases hf; omega⟩
  · obtain ⟨h1, h2, h3, h4⟩ := h
    cases h1
    exact ⟨by omega, by omega, by omega, fun f hf => by rw [h2] at hf; cases hf; omega⟩
section OPS20
variable {c d sz us : Nat} {kq fq : Option Nat} {L : Nat} {xs : Nat → Int32} {A B : Nat → Nat → Int32} {J : Nat → Nat → Int64}
set_option maxRecDepth 20000 in
set_option maxHeartbeats 2000000 in
theorem op_restore (hI : Inv c kq fq sz us A B) (hc : c ≤ 100000) : Op c (d + 9) 125 [some (.ref 0)] 222 [some (.ref 51)] sz us kq fq L xs A B J := by
  have hz := hI.2.2.2.z
  obtain ⟨⟨n, n1, b2, b3, b4⟩, hK, hF⟩ := id hI.2.2.1
  cases hkq : kq with
  | none =>
    have n0 := b4.mp hkq
    subst n0
    subst hkq
    (refine ⟨_, _, _, _, (by (simp (disch := omega) only [x_125_0, x_125_1, xn_125_4, x_125_4, x_125_7, x_125_8, x_125_9, x_125_12, x_125_13, x_125_14, x_125_17, x_125_18, x_125_21, x_125_24, x_125_25, x_125_28, x_125_31, x_10_0, x_10_1, x_10_2, x_10_5, x_10_6, x_10_7, x_10_10, x_10_11, x_10_14, x_10_15, x_11_0, x_11_1, x_11_2, x_11_5, x_11_8, x_11_9, x_11_10, x_12_0, x_12_1, x_12_2, x_12_4, x_12_7, x_12_10, x_12_11, x_12_14, x_12_15, x_12_16, x_12_17, x_12_18, x_12_19, x_12_20, Hc0, Hc1, Hc2, Hc3, Hc4, vrn, b2, b3, k0, k1, k2, k3, k4, k5, k6, k7, k8, k9, k10, k11, k12, k13, k14, k15, k16, k20, k24, k30, k32, k46, k56, k60, k69, k88, k99, k100, k125, k255, k338, k398, k422, k17, k18, k19, k21, k22, k23, k25, k26, k27, k28, k29, k31, k33, k34, k35, k36, k37, k38, k39, k40, k41, k42, k43, k44, k45, k47, k48, k49, k50, k51, k52, k53, k54, k55, k57, k58, k59, k61, k62, k63, k64, k70, k71, k96, k109, k114, k115, k119, k124, k128, k216, k256, k999, k1296, k4096, k5184, k9999, k12345, k99999, k100000, k999999999, m_2, m_10, m_999, m_9999, m_999999999, q_in, q_cl, q_mul, q_add, q_sub, q_lt, q_le, q_eq, Nat.reduceAdd, Nat.reduceMul, Nat.reduceSub, Nat.reduceLT, Nat.reduceLeDiff, Nat.reduceEqDiff, Nat.add_zero, Nat.zero_add, Nat.mul_zero, q_addm, q_addn, q_subm, q_0m, q_ngm, sky_0, she_0, sky_1, she_1, sky_2, she_2, sky_3, she_3, m_lt, m_gt, m_eq, m_eq', m_one, m_ng, m_mlt, m_meq, q_sub1, q_sub1m, ↓q_irem, mx0, q_div, lt_T, lt_F, le_T, le_F, eq_T, eq_F, not_true_eq_false, not_false_eq_true, true_and, and_true, false_and, and_false, u1_eq, u1_ne, u2_eq, u2_ne, uJ_eq, uJ_ne, upd_eq', upd_ne', ↓reduceIte, ↓bz_i, ↓bz_l, ↓bz_v, ↓bz_h, ↓bz_c, zs_i, zs_l, zs_v, zs_h, zs_c, zs_n, zn_i, zn_l, zn_v, zn_h, zn_c, zi_i, zi_l, zi_v, zi_h, zi_c, List.append_nil, rr_nk, if_true, if_false, ite_true, ite_false, i01, i10, i00, ite_self, true_or, or_true, or_false, false_or]); rfl), ?_⟩; refine ⟨_, _, _, (by (simp (disch := omega) only [x_222_0, x_222_1, x_222_4, x_222_7, x_222_8, x_222_9, x_222_12, x_222_13, x_222_14, x_222_17, x_222_18, x_222_21, x_222_24, x_222_25, x_222_28, x_222_29, x_222_30, x_132_0, x_132_1, x_132_2, x_132_5, x_132_6, x_132_7, x_132_10, x_132_11, x_132_14, x_132_15, x_133_0, x_133_1, x_133_4, x_133_5, x_133_6, x_133_7, x_133_8, x_133_9, x_133_10, x_133_12, x_133_13, x_133_14, Hm0, Hm1, vrn, b2, b3, k0, k1, k2, k3, k4, k5, k6, k7, k8, k9, k10, k11, k12, k13, k14, k15, k16, k20, k24, k30, k32, k46, k56, k60, k69, k88, k99, k100, k125, k255, k338, k398, k422, k17, k18, k19, k21, k22, k23, k25, k26, k27, k28, k29, k31, k33, k34, k35, k36, k37, k38, k39, k40, k41, k42, k43, k44, k45, k47, k48, k49, k50, k51, k52, k53, k54, k55, k57, k58, k59, k61, k62, k63, k64, k70, k71, k96, k109, k114, k115, k119, k124, k128, k216, k256, k999, k1296, k4096, k5184, k9999, k12345, k99999, k100000, k999999999, m_2, m_10, m_999, m_9999, m_999999999, q_in, q_cl, q_mul, q_add, q_sub, q_lt, q_le, q_eq, Nat.reduceAdd, Nat.reduceMul, Nat.reduceSub, Nat.reduceLT, Nat.reduceLeDiff, Nat.reduceEqDiff, Nat.add_zero, Nat.zero_add, Nat.mul_zero, q_addm, q_addn, q_subm, q_0m, q_ngm, sky_0, she_0, sky_1, she_1, sky_2, she_2, sky_3, she_3, m_lt, m_gt, m_eq, m_eq', m_one, m_ng, m_mlt, m_meq, q_sub1, q_sub1m, ↓q_irem, mx0, q_div, lt_T, lt_F, le_T, le_F, eq_T, eq_F, not_true_eq_false, not_false_eq_true, true_and, and_true, false_and, and_false, u1_eq, u1_ne, u2_eq, u2_ne, uJ_eq, uJ_ne, upd_eq', upd_ne', ↓reduceIte, ↓bz_i, ↓bz_l, ↓bz_v, ↓bz_h, ↓bz_c, zs_i, zs_l, zs_v, zs_h, zs_c, zs_n, zn_i, zn_l, zn_v, zn_h, zn_c, zi_i, zi_l, zi_v, zi_h, zi_c, List.append_nil, rr_nk, if_true, if_false, ite_true, ite_false, i01, i10, i00, ite_self, true_or, or_true, or_false, false_or]); rfl), ?_⟩)
    (first | exact hI.err (k := 1) rfl rfl rfl | exact hI.err (k := 2) rfl rfl rfl | exact hI.err (k := 3) rfl rfl rfl | exact hI.err (k := 4) rfl rfl rfl | exact hI.err (k := 5) rfl rfl rfl)
  | some q =>
    have n0 : n ≠ 0 := fun e => by rw [b4.mpr e] at hkq; cases hkq
    obtain ⟨q1, q2, q3, q4⟩ := hI.2.2.2.1.k2 hkq
    have hSK := hK q hkq
    subst hkq
    obtain ⟨m6, m14, m16, m18, m21, l6, l14, l16, l18, l21, h6, h14, h16, h18, h21⟩ := hSK.sizes
    obtain ⟨A1, B1, a1, g1, g2, g3⟩ := s124 (us := us) (A := A) (B := B) (J := J) (sz := sz) (L := L) (xs := xs) (fq := fq) (kq := some q) (d + 6) (q := 1) (p := q) ST.one (ST.kept q1 (by omega)) (by omega) q3 (by omega) l6 l14 l16 l18 l21 h6 h14 h16 h18 h21
    obtain ⟨A2, a2, f1, f2⟩ := s193 (kq := some q) (fq := fq) (L := L) (xs := xs) (J := J) (us := us) (sz := sz) (B := B1) (A := A1) (d + 8) (a := 53) (b := 52) (fun _ _ _ => rfl) (fun _ _ _ => rfl) (by omega) (by omega) (by omega)
    have e12 : B1 1 12 = B q 12 := g3.2.2.2.2.1
    have hA : ∀ i, 25 ≤ i → i ≠ 52 → A2 i = A i := fun i i1 i2 => by rw [f1 i i2, (g1 i (by omega)).1]
    have hs : ∀ t, t < 422 → A2 52 t = A 53 t := fun t ht => by rw [f2 t, if_pos ht, (g1 53 (by omega)).1]
    have hd2 : A2 52 2 = B q 12 := by rw [hs 2 (by omega)]; exact (hSK.2.2.2.2.2.2.1.2.2.2.1).symm
    have b3' : B1 51 3 = nI n := by rw [(g1 51 (by omega)).2]; exact b3
    (refine ⟨_, _, _, _, (by (simp (disch := omega) only [x_125_0, x_125_1, xn_125_4, x_125_4, x_125_7, x_125_8, x_125_9, x_125_12, x_125_13, x_125_14, x_125_17, x_125_18, x_125_21, x_125_24, x_125_25, x_125_28, x_125_31, Hc0, Hc1, Hc2, Hc3, Hc4, vrs, b2, b3', a1, a2, e12, hd2, n0, k0, k1, k2, k3, k4, k5, k6, k7, k8, k9, k10, k11, k12, k13, k14, k15, k16, k20, k24, k30, k32, k46, k56, k60, k69, k88, k99, k100, k125, k255, k338, k398, k422, k17, k18, k19, k21, k22, k23, k25, k26, k27, k28, k29, k31, k33, k34, k35, k36, k37, k38, k39, k40, k41, k42, k43, k44, k45, k47, k48, k49, k50, k51, k52, k53, k54, k55, k57, k58, k59, k61, k62, k63, k64, k70, k71, k96, k109, k114, k115, k119, k124, k128, k216, k256, k999, k1296, k4096, k5184, k9999, k12345, k99999, k100000, k999999999, m_2, m_10, m_999, m_9999, m_999999999, q_in, q_cl, q_mul, q_add, q_sub, q_lt, q_le, q_eq, Nat.reduceAdd, Nat.reduceMul, Nat.reduceSub, Nat.reduceLT, Nat.reduceLeDiff, Nat.reduceEqDiff, Nat.add_zero, Nat.zero_add, Nat.mul_zero, q_addm, q_addn, q_subm, q_0m, q_ngm, sky_0, she_0, sky_1, she_1, sky_2, she_2, sky_3, she_3, m_lt, m_gt, m_eq, m_eq', m_one, m_ng, m_mlt, m_meq, q_sub1, q_sub1m, ↓q_irem, mx0, q_div, lt_T, lt_F, le_T, le_F, eq_T, eq_F, not_true_eq_false, not_false_eq_true, true_and, and_true, false_and, and_false, u1_eq, u1_ne, u2_eq, u2_ne, uJ_eq, uJ_ne, upd_eq', upd_ne', ↓reduceIte, ↓bz_i, ↓bz_l, ↓bz_v, ↓bz_h, ↓bz_c, zs_i, zs_l, zs_v, zs_h, zs_c, zs_n, zn_i, zn_l, zn_v, zn_h, zn_c, zi_i, zi_l, zi_v, zi_h, zi_c, List.append_nil, rr_nk, if_true, if_false, ite_true, ite_false, i01, i10, i00, ite_self, true_or, or_true, or_false, false_or]); rfl), ?_⟩; refine ⟨_, _, _, (by (simp (disch := omega) only [x_222_0, x_222_1, x_222_4, x_222_7, x_222_8, x_222_9, x_222_12, x_222_13, x_222_14, x_222_17, x_222_18, x_222_21, x_222_24, x_222_25, x_222_28, x_222_29, x_222_30, Hm0, Hm1, vrs, b2, b3', a1, a2, e12, hd2, n0, k0, k1, k2, k3, k4, k5, k6, k7, k8, k9, k10, k11, k12, k13, k14, k15, k16, k20, k24, k30, k32, k46, k56, k60, k69, k88, k99, k100, k125, k255, k338, k398, k422, k17, k18, k19, k21, k22, k23, k25, k26, k27, k28, k29, k31, k33, k34, k35, k36, k37, k38, k39, k40, k41, k42, k43, k44, k45, k47, k48, k49, k50, k51, k52, k53, k54, k55, k57, k58, k59, k61, k62, k63, k64, k70, k71, k96, k109, k114, k115, k119, k124, k128, k216, k256, k999, k1296, k4096, k5184, k9999, k12345, k99999, k100000, k999999999, m_2, m_10, m_999, m_9999, m_999999999, q_in, q_cl, q_mul, q_add, q_sub, q_lt, q_le, q_eq, Nat.reduceAdd, Nat.reduceMul, Nat.reduceSub, Nat.reduceLT, Nat.reduceLeDiff, Nat.reduceEqDiff, Nat.add_zero, Nat.zero_add, Nat.mul_zero, q_addm, q_addn, q_subm, q_0m, q_ngm, sky_0, she_0, sky_1, she_1, sky_2, she_2, sky_3, she_3, m_lt, m_gt, m_eq, m_eq', m_one, m_ng, m_mlt, m_meq, q_sub1, q_sub1m, ↓q_irem, mx0, q_div, lt_T, lt_F, le_T, le_F, eq_T, eq_F, not_true_eq_false, not_false_eq_true, true_and, and_true, false_and, and_false, u1_eq, u1_ne, u2_eq, u2_ne, uJ_eq, uJ_ne, upd_eq', upd_ne', ↓reduceIte, ↓bz_i, ↓bz_l, ↓bz_v, ↓bz_h, ↓bz_c, zs_i, zs_l, zs_v, zs_h, zs_c, zs_n, zn_i, zn_l, zn_v, zn_h, zn_c, zi_i, zi_l, zi_v, zi_h, zi_c, List.append_nil, rr_nk, if_true, if_false, ite_true, ite_false, i01, i10, i00, ite_self, true_or, or_true, or_false, false_or]); rfl), ?_⟩)
    have hS : SR 1 A2 B1 (A2 52) := (hSK.cpy (A' := A1) (B' := B1) h6 h14 h16 l6 l14 l16 ⟨g2, g3⟩ hs).congr (fun i i1 i2 => f1 i (by omega)) (fun _ _ _ => rfl) rfl
    exact hI.now hS hA (fun i hi => (g1 i (by omega)).2)
end OPS20

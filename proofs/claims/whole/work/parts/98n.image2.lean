section OPS25
variable {c d sz us : Nat} {kq fq : Option Nat} {L : Nat} {xs : Nat → Int32} {A B : Nat → Nat → Int32} {J : Nat → Nat → Int64}
set_option maxRecDepth 20000 in
set_option maxHeartbeats 2000000 in
theorem op_image2 (hI : Inv c kq fq sz us A B) (hc : c ≤ 100000) : OpI c (d + 9) 123 [some (.ref 0)] 221 [some (.ref 51)] sz us kq fq L xs A B J := by
  obtain ⟨hS, hO, ⟨⟨n, n1, b2, b3, b4⟩, hK, hF⟩, hQ, hz0⟩ := hI
  cases kq with
  | some q =>
    obtain ⟨v, A1, B1, J1, a1, A2, B2, J2, a2, hI2⟩ := im_core (d := d) (L := L) (xs := xs) (J := J) hS hO hQ n1 b2 b3 hF hc hz0
    have hz := hQ.z
    refine ⟨_, _, _, _, _, _, _, _, Eq.trans ?_ a1, _, _, _, a2, hI2⟩
    simp (disch := omega) only [x_123_0, x_123_1, xn_123_4, x_123_4, x_123_7, x_123_8, x_123_11, x_123_12, x_123_15, x_123_19, x_123_22, x_123_23, x_123_26, x_123_29, x_123_30, x_123_31, x_123_34, x_123_35, x_123_36, x_123_39, x_123_40, x_123_43, Hc0, Hc1, Hc2, Hc3, Hc4, vrs, k0, k1, k2, k3, k4, k5, k6, k7, k8, k9, k10, k11, k12, k13, k14, k15, k16, k20, k24, k30, k32, k46, k56, k60, k69, k88, k99, k100, k125, k255, k338, k398, k422, k17, k18, k19, k21, k22, k23, k25, k26, k27, k28, k29, k31, k33, k34, k35, k36, k37, k38, k39, k40, k41, k42, k43, k44, k45, k47, k48, k49, k50, k51, k52, k53, k54, k55, k57, k58, k59, k61, k62, k63, k64, k70, k71, k96, k109, k114, k115, k119, k124, k128, k216, k256, k999, k1296, k4096, k5184, k9999, k12345, k99999, k100000, k999999999, m_2, m_10, m_999, m_9999, m_999999999, q_in, q_cl, q_mul, q_add, q_sub, q_lt, q_le, q_eq, Nat.reduceAdd, Nat.reduceMul, Nat.reduceSub, Nat.reduceLT, Nat.reduceLeDiff, Nat.reduceEqDiff, Nat.add_zero, Nat.zero_add, Nat.mul_zero, q_addm, q_addn, q_subm, q_0m, q_ngm, sky_0, she_0, sky_1, she_1, sky_2, she_2, sky_3, she_3, m_lt, m_gt, m_eq, m_eq', m_one, m_ng, m_mlt, m_meq, q_sub1, q_sub1m, ↓q_irem, mx0, q_div, lt_T, lt_F, le_T, le_F, eq_T, eq_F, not_true_eq_false, not_false_eq_true, true_and, and_true, false_and, and_false, u1_eq, u1_ne, u2_eq, u2_ne, uJ_eq, uJ_ne, upd_eq', upd_ne', ↓reduceIte, ↓bz_i, ↓bz_l, ↓bz_v, ↓bz_h, ↓bz_c, zs_i, zs_l, zs_v, zs_h, zs_c, zs_n, zn_i, zn_l, zn_v, zn_h, zn_c, zi_i, zi_l, zi_v, zi_h, zi_c, List.append_nil, rr_nk, if_true, if_false, ite_true, ite_false, i01, i10, i00, ite_self, true_or, or_true, or_false, false_or]
  | none =>
    rcases hQ with h | h | h | h | h
    · obtain ⟨-, h2, h3, h4⟩ := h
      subst h2; subst h3
      obtain ⟨v, A1, B1, J1, a1, A2, B2, J2, a2, hI2⟩ := im_core (c := c) (n := n) (sz := 95) (us := us + 439) (fq := none) (q := 71) (d := d) (L := L) (xs := xs) (J := J) (A := nwA 71 A) (B := nwB 71 B) (hS.congr (fun i i1 i2 => if_neg (by omega)) (fun i i1 i2 => by unfold nwB; rw [if_neg (by omega), if_neg (by omega)]) (if_neg (by omega))) (hO.congr (fun i hi => if_neg (by omega)) (fun i hi => by unfold nwB; rw [if_neg (by omega), if_neg (by omega)]) (by unfold nwB; rw [if_neg (by omega), if_neg (by omega)])) (Or.inr (Or.inl ⟨rfl, rfl, rfl, by omega⟩)) n1 (by unfold nwB; rw [if_neg (by omega), if_neg (by omega)]; exact b2) (by unfold nwB; rw [if_neg (by omega), if_neg (by omega)]; exact b3) (fun f hf => by cases hf) hc hz0
      exact ⟨_, _, _, _, _, _, _, _, (nw71 d).trans a1, _, _, _, a2, hI2⟩
    · cases h.1
    · obtain ⟨-, h2, h3, h4⟩ := h
      subst h2; subst h3
      obtain ⟨v, A1, B1, J1, a1, A2, B2, J2, a2, hI2⟩ := im_core (c := c) (n := n) (sz := 102) (us := us + 439) (fq := some 71) (q := 78) (d := d) (L := L) (xs := xs) (J := J) (A := nwA 78 A) (B := nwB 78 B) (hS.congr (fun i i1 i2 => if_neg (by omega)) (fun i i1 i2 => by unfold nwB; rw [if_neg (by omega), if_neg (by omega)]) (if_neg (by omega))) (hO.congr (fun i hi => if_neg (by omega)) (fun i hi => by unfold nwB; rw [if_neg (by omega), if_neg (by omega)]) (by unfold nwB; rw [if_neg (by omega), if_neg (by omega)])) (Or.inr (Or.inr (Or.inr (Or.inr ⟨rfl, rfl, rfl, by omega⟩)))) n1 (by unfold nwB; rw [if_neg (by omega), if_neg (by omega)]; exact b2) (by unfold nwB; rw [if_neg (by omega), if_neg (by omega)]; exact b3) (fun f hf => by
        cases hf
        have := hF 71 rfl
        unfold nwB nwA
        rw [if_neg (by omega), if_neg (by omega), if_neg (by omega)]
        exact this) hc hz0
      exact ⟨_, _, _, _, _, _, _, _, (nw78 d).trans a1, _, _, _, a2, hI2⟩
    · cases h.1
    · cases h.1
end OPS25

/-! ===== written by program: a State at a base q; copying one into the other ===== -/
abbrev ST (kq fq : Option Nat) (L : Nat) (xs : Nat → Int32) (q : Nat) : Prop := ∀ j, j < 24 → ∀ a b w, sh kq fq L xs (q + j) a b w = (sh_st q a b).getD j sh_no
theorem ST.one {kq fq : Option Nat} {L : Nat} {xs : Nat → Int32} : ST kq fq L xs 1 := by
  intro j hj a b w
  have h : j = 0 ∨ j = 1 ∨ j = 2 ∨ j = 3 ∨ j = 4 ∨ j = 5 ∨ j = 6 ∨ j = 7 ∨ j = 8 ∨ j = 9 ∨ j = 10 ∨ j = 11 ∨ j = 12 ∨ j = 13 ∨ j = 14 ∨ j = 15 ∨ j = 16 ∨ j = 17 ∨ j = 18 ∨ j = 19 ∨ j = 20 ∨ j = 21 ∨ j = 22 ∨ j = 23 := by omega
  rcases h with rfl | rfl | rfl | rfl | rfl | rfl | rfl | rfl | rfl | rfl | rfl | rfl | rfl | rfl | rfl | rfl | rfl | rfl | rfl | rfl | rfl | rfl | rfl | rfl <;> rfl
theorem ST.kept {q : Nat} {fq : Option Nat} {L : Nat} {xs : Nat → Int32} (h : 71 ≤ q) (h2 : q ≤ 1000) : ST (some q) fq L xs q := by
  intro j hj a b w
  unfold sh
  rw [if_neg (by omega), if_neg (by omega)]
  unfold sh_kx
  simp only
  rw [if_pos (by omega), Nat.add_sub_cancel_left]
section STR
variable {kq fq : Option Nat} {L : Nat} {xs : Nat → Int32} {A B : Nat → Nat → Int32} {J : Nat → Nat → Int64} {sz q p : Nat}
theorem Hs0 (h : ST kq fq L xs q) (hz : q + 24 ≤ sz) :
  rr_is sz (hp kq fq L xs A B J) 6 q = true ∧
  rr_gf sz (hp kq fq L xs A B J) q 6 0 = some (.ref (q + 1)) ∧
  rr_gf sz (hp kq fq L xs A B J) q 6 1 = some (.ref (q + 2)) ∧
  rr_gf sz (hp kq fq L xs A B J) q 6 2 = some (.ref (q + 3)) ∧
  rr_gf sz (hp kq fq L xs A B J) q 6 3 = some (.ref (q + 4)) ∧
  rr_gf sz (hp kq fq L xs A B J) q 6 4 = some (.ref (q + 5)) ∧
  rr_gf sz (hp kq fq L xs A B J) q 6 5 = some (.int (B q 5)) ∧
  (∀ x, rr_pf sz (hp kq fq L xs A B J) q 6 5 (.int x) = some (hp kq fq L xs A (u2 B q 5 x) J)) ∧
  rr_gf sz (hp kq fq L xs A B J) q 6 6 = some (.ref (q + 6)) ∧
  rr_gf sz (hp kq fq L xs A B J) q 6 7 = some (.int (B q 7)) ∧
  (∀ x, rr_pf sz (hp kq fq L xs A B J) q 6 7 (.int x) = some (hp kq fq L xs A (u2 B q 7 x) J)) ∧
  rr_gf sz (hp kq fq L xs A B J) q 6 8 = some (.int (B q 8)) ∧
  (∀ x, rr_pf sz (hp kq fq L xs A B J) q 6 8 (.int x) = some (hp kq fq L xs A (u2 B q 8 x) J)) ∧
  rr_gf sz (hp kq fq L xs A B J) q 6 9 = some (.int (B q 9)) ∧
  (∀ x, rr_pf sz (hp kq fq L xs A B J) q 6 9 (.int x) = some (hp kq fq L xs A (u2 B q 9 x) J)) ∧
  rr_gf sz (hp kq fq L xs A B J) q 6 10 = some (.ref (q + 8)) ∧
  rr_gf sz (hp kq fq L xs A B J) q 6 11 = some (.ref (q + 9)) ∧
  rr_gf sz (hp kq fq L xs A B J) q 6 12 = some (.int (B q 12)) ∧
  (∀ x, rr_pf sz (hp kq fq L xs A B J) q 6 12 (.int x) = some (hp kq fq L xs A (u2 B q 12 x) J)) ∧
  rr_gf sz (hp kq fq L xs A B J) q 6 13 = some (.int (B q 13)) ∧
  (∀ x, rr_pf sz (hp kq fq L xs A B J) q 6 13 (.int x) = some (hp kq fq L xs A (u2 B q 13 x) J)) ∧
  rr_gf sz (hp kq fq L xs A B J) q 6 14 = some (.ref (q + 14)) ∧
  rr_gf sz (hp kq fq L xs A B J) q 6 15 = some (.ref (q + 16)) ∧
  rr_gf sz (hp kq fq L xs A B J) q 6 16 = some (.ref (q + 18)) ∧
  rr_gf sz (hp kq fq L xs A B J) q 6 17 = some (.ref (q + 21)) ∧
  rr_is sz (hp kq fq L xs A B J) 3 (q + 6) = true ∧
  rr_gf sz (hp kq fq L xs A B J) (q + 6) 3 0 = some (.ref (q + 7)) ∧
  rr_gf sz (hp kq fq L xs A B J) (q + 6) 3 1 = some (.int (B (q + 6) 1)) ∧
  (∀ x, rr_pf sz (hp kq fq L xs A B J) (q + 6) 3 1 (.int x) = some (hp kq fq L xs A (u2 B (q + 6) 1 x) J)) ∧
  rr_al sz (hp kq fq L xs A B J) (q + 7) = some (nI 5) :=
  ⟨hp_is (h 0 (by omega) _ _ _) (by omega),
  hp_gf (h 0 (by omega) _ _ _) (by omega) rfl,
  hp_gf (h 0 (by omega) _ _ _) (by omega) rfl,
  hp_gf (h 0 (by omega) _ _ _) (by omega) rfl,
  hp_gf (h 0 (by omega) _ _ _) (by omega) rfl,
  hp_gf (h 0 (by omega) _ _ _) (by omega) rfl,
  hp_gf (h 0 (by omega) _ _ _) (by omega) rfl,
  fun x => hp_pf (h 0 (by omega) _ _ _) (by omega) (Nat.le_of_ble_eq_true rfl) rfl (h 0 (by omega) _ _ _),
  hp_gf (h 0 (by omega) _ _ _) (by omega) rfl,
  hp_gf (h 0 (by omega) _ _ _) (by omega) rfl,
  fun x => hp_pf (h 0 (by omega) _ _ _) (by omega) (Nat.le_of_ble_eq_true rfl) rfl (h 0 (by omega) _ _ _),
  hp_gf (h 0 (by omega) _ _ _) (by omega) rfl,
  fun x => hp_pf (h 0 (by omega) _ _ _) (by omega) (Nat.le_of_ble_eq_true rfl) rfl (h 0 (by omega) _ _ _),
  hp_gf (h 0 (by omega) _ _ _) (by omega) rfl,
  fun x => hp_pf (h 0 (by omega) _ _ _) (by omega) (Nat.le_of_ble_eq_true rfl) rfl (h 0 (by omega) _ _ _),
  hp_gf (h 0 (by omega) _ _ _) (by omega) rfl,
  hp_gf (h 0 (by omega) _ _ _) (by omega) rfl,
  hp_gf (h 0 (by omega) _ _ _) (by omega) rfl,
  fun x => hp_pf (h 0 (by omega) _ _ _) (by omega) (Nat.le_of_ble_eq_true rfl) rfl (h 0 (by omega) _ _ _),
  hp_gf (h 0 (by omega) _ _ _) (by omega) rfl,
  fun x => hp_pf (h 0 (by omega) _ _ _) (by omega) (Nat.le_of_ble_eq_true rfl) rfl (h 0 (by omega) _ _ _),
  hp_gf (h 0 (by omega) _ _ _) (by omega) rfl,
  hp_gf (h 0 (by omega) _ _ _) (by omega) rfl,
  hp_gf (h 0 (by omega) _ _ _) (by omega) rfl,
  hp_gf (h 0 (by omega) _ _ _) (by omega) rfl,
  hp_is (h 6 (by omega) _ _ _) (by omega),
  hp_gf (h 6 (by omega) _ _ _) (by omega) rfl,
  hp_gf (h 6 (by omega) _ _ _) (by omega) rfl,
  fun x => hp_pf (h 6 (by omega) _ _ _) (by omega) (Nat.le_of_ble_eq_true rfl) rfl (h 6 (by omega) _ _ _),
  hp_al (n := 5) (h 7 (by omega)) (by omega)⟩
theorem Hs1 (h : ST kq fq L xs q) (hz : q + 24 ≤ sz) :
  rr_is sz (hp kq fq L xs A B J) 3 (q + 14) = true ∧
  rr_gf sz (hp kq fq L xs A B J) (q + 14) 3 0 = some (.ref (q + 15)) ∧
  rr_gf sz (hp kq fq L xs A B J) (q + 14) 3 1 = some (.int (B (q + 14) 1)) ∧
  (∀ x, rr_pf sz (hp kq fq L xs A B J) (q + 14) 3 1 (.int x) = some (hp kq fq L xs A (u2 B (q + 14) 1 x) J)) ∧
  rr_al sz (hp kq fq L xs A B J) (q + 15) = some (nI 60) ∧
  rr_is sz (hp kq fq L xs A B J) 3 (q + 16) = true ∧
  rr_gf sz (hp kq fq L xs A B J) (q + 16) 3 0 = some (.ref (q + 17)) ∧
  rr_gf sz (hp kq fq L xs A B J) (q + 16) 3 1 = some (.int (B (q + 16) 1)) ∧
  (∀ x, rr_pf sz (hp kq fq L xs A B J) (q + 16) 3 1 (.int x) = some (hp kq fq L xs A (u2 B (q + 16) 1 x) J)) ∧
  rr_al sz (hp kq fq L xs A B J) (q + 17) = some (nI 24) ∧
  rr_is sz (hp kq fq L xs A B J) 7 (q + 18) = true ∧
  rr_gf sz (hp kq fq L xs A B J) (q + 18) 7 0 = some (.ref (q + 19)) ∧
  rr_gf sz (hp kq fq L xs A B J) (q + 18) 7 2 = some (.int (B (q + 18) 2)) ∧
  (∀ x, rr_pf sz (hp kq fq L xs A B J) (q + 18) 7 2 (.int x) = some (hp kq fq L xs A (u2 B (q + 18) 2 x) J)) ∧
  rr_is sz (hp kq fq L xs A B J) 7 (q + 21) = true ∧
  rr_gf sz (hp kq fq L xs A B J) (q + 21) 7 0 = some (.ref (q + 22)) ∧
  rr_gf sz (hp kq fq L xs A B J) (q + 21) 7 2 = some (.int (B (q + 21) 2)) ∧
  (∀ x, rr_pf sz (hp kq fq L xs A B J) (q + 21) 7 2 (.int x) = some (hp kq fq L xs A (u2 B (q + 21) 2 x) J)) ∧
  rr_aq sz (hp kq fq L xs A B J) (q + 9) (nI 0) = some (.ref (q + 10)) ∧
  rr_aq sz (hp kq fq L xs A B J) (q + 9) (nI 1) = some (.ref (q + 11)) ∧
  rr_aq sz (hp kq fq L xs A B J) (q + 9) (nI 2) = some (.ref (q + 12)) ∧
  rr_aq sz (hp kq fq L xs A B J) (q + 9) (nI 3) = some (.ref (q + 13)) :=
  ⟨hp_is (h 14 (by omega) _ _ _) (by omega),
  hp_gf (h 14 (by omega) _ _ _) (by omega) rfl,
  hp_gf (h 14 (by omega) _ _ _) (by omega) rfl,
  fun x => hp_pf (h 14 (by omega) _ _ _) (by omega) (Nat.le_of_ble_eq_true rfl) rfl (h 14 (by omega) _ _ _),
  hp_al (n := 60) (h 15 (by omega)) (by omega),
  hp_is (h 16 (by omega) _ _ _) (by omega),
  hp_gf (h 16 (by omega) _ _ _) (by omega) rfl,
  hp_gf (h 16 (by omega) _ _ _) (by omega) rfl,
  fun x => hp_pf (h 16 (by omega) _ _ _) (by omega) (Nat.le_of_ble_eq_true rfl) rfl (h 16 (by omega) _ _ _),
  hp_al (n := 24) (h 17 (by omega)) (by omega),
  hp_is (h 18 (by omega) _ _ _) (by omega),
  hp_gf (h 18 (by omega) _ _ _) (by omega) rfl,
  hp_gf (h 18 (by omega) _ _ _) (by omega) rfl,
  fun x => hp_pf (h 18 (by omega) _ _ _) (by omega) (Nat.le_of_ble_eq_true rfl) rfl (h 18 (by omega) _ _ _),
  hp_is (h 21 (by omega) _ _ _) (by omega),
  hp_gf (h 21 (by omega) _ _ _) (by omega) rfl,
  hp_gf (h 21 (by omega) _ _ _) (by omega) rfl,
  fun x => hp_pf (h 21 (by omega) _ _ _) (by omega) (Nat.le_of_ble_eq_true rfl) rfl (h 21 (by omega) _ _ _),
  (hp_aq (t := 1) (n := 4) (h 9 (by omega) _ _ _) (by omega) (by omega) (nI 0)).trans ((if_pos (show rr_in (nI 0) 4 = true from by decide)).trans rfl),
  (hp_aq (t := 1) (n := 4) (h 9 (by omega) _ _ _) (by omega) (by omega) (nI 1)).trans ((if_pos (show rr_in (nI 1) 4 = true from by decide)).trans rfl),
  (hp_aq (t := 1) (n := 4) (h 9 (by omega) _ _ _) (by omega) (by omega) (nI 2)).trans ((if_pos (show rr_in (nI 2) 4 = true from by decide)).trans rfl),
  (hp_aq (t := 1) (n := 4) (h 9 (by omega) _ _ _) (by omega) (by omega) (nI 3)).trans ((if_pos (show rr_in (nI 3) 4 = true from by decide)).trans rfl)⟩
theorem Hcp (hq : ST kq fq L xs q) (hp0 : ST kq fq L xs p) (zq : q + 24 ≤ sz) (zp : p + 24 ≤ sz) (j n : Nat) (hj : j < 24) (hj1 : ∀ q a b, (sh_st q a b).getD j sh_no = rr_cI n a) (m : Nat) (hm : m ≤ n) (hn : n ≤ 100) : rr_cp sz (hp kq fq L xs A B J) (p + j) (nI 0) (q + j) (nI 0) (nI m) = some (hp kq fq L xs (u1 A (q + j) (va_cpy (A (p + j)) (A (q + j)) 0 0 m)) B J) := by
  rw [hp_cp (n0 := n) (n1 := n) (fun a b w => (hp0 j hj a b w).trans (hj1 p a b)) (fun a b w => (hq j hj a b w).trans (hj1 q a b)) (by omega) (by omega), if_pos]
  · rw [nI_clamp (by omega), nI_clamp (by omega)]
  · rw [nI_clamp (by omega), nI_clamp (by omega), k0, q_le (by omega) (by omega), q_le (by omega) (by omega)]
    omega
end STR
section CPY
variable {us : Nat} {kq fq : Option Nat} {L : Nat} {xs : Nat → Int32} {A B : Nat → Nat → Int32} {J : Nat → Nat → Int64} {sz q p : Nat}
set_option maxRecDepth 20000 in
theorem s41_6 (d : Nat) (hq : ST kq fq L xs q) (hp0 : ST kq fq L xs p) (zq : q + 24 ≤ sz) (zp : p + 24 ≤ sz) {m : Nat} (hm : m ≤ 5) (hB : B (p + 6) 1 = nI m) : rx (d + 1) 41 0 [some (.ref (q + 6)), some (.ref (p + 6))] [] sz us (hp kq fq L xs A B J) = some (none, sz, us, hp kq fq L xs (u1 A (q + 7) (va_cpy (A (p + 7)) (A (q + 7)) 0 0 m)) (u2 B (q + 6) 1 (nI m)) J) := by
  have e1 := Hcp (A := A) (B := u2 B (q + 6) 1 (nI m)) (J := J) hq hp0 zq zp 7 5 (by omega) (fun _ _ _ => rfl) m hm (by omega)
  simp (disch := omega) only [x_41_0, x_41_1, x_41_2, x_41_5, x_41_6, x_41_9, x_41_10, x_41_13, x_41_16, x_41_17, x_41_20, x_41_21, x_41_22, x_41_25, x_41_26, x_41_27, x_41_30, x_41_33, Hs0 hq zq, Hs0 hp0 zp, Hs1 hq zq, Hs1 hp0 zp, hB, e1, k0, k1, k2, k3, k4, k5, k6, k7, k8, k9, k10, k11, k12, k13, k14, k15, k16, k20, k24, k30, k32, k46, k56, k60, k69, k88, k99, k100, k125, k255, k338, k398, k422, k17, k18, k19, k21, k22, k23, k25, k26, k27, k28, k29, k31, k33, k34, k35, k36, k37, k38, k39, k40, k41, k42, k43, k44, k45, k47, k48, k49, k50, k51, k52, k53, k54, k55, k57, k58, k59, k61, k62, k63, k64, k70, k71, k96, k109, k114, k115, k119, k124, k128, k216, k256, k999, k1296, k4096, k5184, k9999, k12345, k99999, k100000, k999999999, m_2, m_10, m_999, m_9999, m_999999999, q_in, q_cl, q_mul, q_add, q_sub, q_lt, q_le, q_eq, Nat.reduceAdd, Nat.reduceMul, Nat.reduceSub, Nat.reduceLT, Nat.reduceLeDiff, Nat.reduceEqDiff, Nat.add_zero, Nat.zero_add, Nat.mul_zero, q_addm, q_addn, q_subm, q_0m, q_ngm, sky_0, she_0, sky_1, she_1, sky_2, she_2, sky_3, she_3, m_lt, m_gt, m_eq, m_eq', m_one, m_ng, m_mlt, m_meq, q_sub1, q_sub1m, ↓q_irem, mx0, q_div, lt_T, lt_F, le_T, le_F, eq_T, eq_F, not_true_eq_false, not_false_eq_true, true_and, and_true, false_and, and_false, u1_eq, u1_ne, u2_eq, u2_ne, uJ_eq, uJ_ne, upd_eq', upd_ne', ↓reduceIte, ↓bz_i, ↓bz_l, ↓bz_v, ↓bz_h, ↓bz_c, zs_i, zs_l, zs_v, zs_h, zs_c, zs_n, zn_i, zn_l, zn_v, zn_h, zn_c, zi_i, zi_l, zi_v, zi_h, zi_c, List.append_nil, rr_nk, if_true, if_false, ite_true, ite_false, i01, i10, i00, ite_self, true_or, or_true, or_false, false_or]
set_option maxRecDepth 20000 in
theorem s41_14 (d : Nat) (hq : ST kq fq L xs q) (hp0 : ST kq fq L xs p) (zq : q + 24 ≤ sz) (zp : p + 24 ≤ sz) {m : Nat} (hm : m ≤ 60) (hB : B (p + 14) 1 = nI m) : rx (d + 1) 41 0 [some (.ref (q + 14)), some (.ref (p + 14))] [] sz us (hp kq fq L xs A B J) = some (none, sz, us, hp kq fq L xs (u1 A (q + 15) (va_cpy (A (p + 15)) (A (q + 15)) 0 0 m)) (u2 B (q + 14) 1 (nI m)) J) := by
  have e1 := Hcp (A := A) (B := u2 B (q + 14) 1 (nI m)) (J := J) hq hp0 zq zp 15 60 (by omega) (fun _ _ _ => rfl) m hm (by omega)
  simp (disch := omega) only [x_41_0, x_41_1, x_41_2, x_41_5, x_41_6, x_41_9, x_41_10, x_41_13, x_41_16, x_41_17, x_41_20, x_41_21, x_41_22, x_41_25, x_41_26, x_41_27, x_41_30, x_41_33, Hs0 hq zq, Hs0 hp0 zp, Hs1 hq zq, Hs1 hp0 zp, hB, e1, k0, k1, k2, k3, k4, k5, k6, k7, k8, k9, k10, k11, k12, k13, k14, k15, k16, k20, k24, k30, k32, k46, k56, k60, k69, k88, k99, k100, k125, k255, k338, k398, k422, k17, k18, k19, k21, k22, k23, k25, k26, k27, k28, k29, k31, k33, k34, k35, k36, k37, k38, k39, k40, k41, k42, k43, k44, k45, k47, k48, k49, k50, k51, k52, k53, k54, k55, k57, k58, k59, k61, k62, k63, k64, k70, k71, k96, k109, k114, k115, k119, k124, k128, k216, k256, k999, k1296, k4096, k5184, k9999, k12345, k99999, k100000, k999999999, m_2, m_10, m_999, m_9999, m_999999999, q_in, q_cl, q_mul, q_add, q_sub, q_lt, q_le, q_eq, Nat.reduceAdd, Nat.reduceMul, Nat.reduceSub, Nat.reduceLT, Nat.reduceLeDiff, Nat.reduceEqDiff, Nat.add_zero, Nat.zero_add, Nat.mul_zero, q_addm, q_addn, q_subm, q_0m, q_ngm, sky_0, she_0, sky_1, she_1, sky_2, she_2, sky_3, she_3, m_lt, m_gt, m_eq, m_eq', m_one, m_ng, m_mlt, m_meq, q_sub1, q_sub1m, ↓q_irem, mx0, q_div, lt_T, lt_F, le_T, le_F, eq_T, eq_F, not_true_eq_false, not_false_eq_true, true_and, and_true, false_and, and_false, u1_eq, u1_ne, u2_eq, u2_ne, uJ_eq, uJ_ne, upd_eq', upd_ne', ↓reduceIte, ↓bz_i, ↓bz_l, ↓bz_v, ↓bz_h, ↓bz_c, zs_i, zs_l, zs_v, zs_h, zs_c, zs_n, zn_i, zn_l, zn_v, zn_h, zn_c, zi_i, zi_l, zi_v, zi_h, zi_c, List.append_nil, rr_nk, if_true, if_false, ite_true, ite_false, i01, i10, i00, ite_self, true_or, or_true, or_false, false_or]
set_option maxRecDepth 20000 in
theorem s41_16 (d : Nat) (hq : ST kq fq L xs q) (hp0 : ST kq fq L xs p) (zq : q + 24 ≤ sz) (zp : p + 24 ≤ sz) {m : Nat} (hm : m ≤ 24) (hB : B (p + 16) 1 = nI m) : rx (d + 1) 41 0 [some (.ref (q + 16)), some (.ref (p + 16))] [] sz us (hp kq fq L xs A B J) = some (none, sz, us, hp kq fq L xs (u1 A (q + 17) (va_cpy (A (p + 17)) (A (q + 17)) 0 0 m)) (u2 B (q + 16) 1 (nI m)) J) := by
  have e1 := Hcp (A := A) (B := u2 B (q + 16) 1 (nI m)) (J := J) hq hp0 zq zp 17 24 (by omega) (fun _ _ _ => rfl) m hm (by omega)
  simp (disch := omega) only [x_41_0, x_41_1, x_41_2, x_41_5, x_41_6, x_41_9, x_41_10, x_41_13, x_41_16, x_41_17, x_41_20, x_41_21, x_41_22, x_41_25, x_41_26, x_41_27, x_41_30, x_41_33, Hs0 hq zq, Hs0 hp0 zp, Hs1 hq zq, Hs1 hp0 zp, hB, e1, k0, k1, k2, k3, k4, k5, k6, k7, k8, k9, k10, k11, k12, k13, k14, k15, k16, k20, k24, k30, k32, k46, k56, k60, k69, k88, k99, k100, k125, k255, k338, k398, k422, k17, k18, k19, k21, k22, k23, k25, k26, k27, k28, k29, k31, k33, k34, k35, k36, k37, k38, k39, k40, k41, k42, k43, k44, k45, k47, k48, k49, k50, k51, k52, k53, k54, k55, k57, k58, k59, k61, k62, k63, k64, k70, k71, k96, k109, k114, k115, k119, k124, k128, k216, k256, k999, k1296, k4096, k5184, k9999, k12345, k99999, k100000, k999999999, m_2, m_10, m_999, m_9999, m_999999999, q_in, q_cl, q_mul, q_add, q_sub, q_lt, q_le, q_eq, Nat.reduceAdd, Nat.reduceMul, Nat.reduceSub, Nat.reduceLT, Nat.reduceLeDiff, Nat.reduceEqDiff, Nat.add_zero, Nat.zero_add, Nat.mul_zero, q_addm, q_addn, q_subm, q_0m, q_ngm, sky_0, she_0, sky_1, she_1, sky_2, she_2, sky_3, she_3, m_lt, m_gt, m_eq, m_eq', m_one, m_ng, m_mlt, m_meq, q_sub1, q_sub1m, ↓q_irem, mx0, q_div, lt_T, lt_F, le_T, le_F, eq_T, eq_F, not_true_eq_false, not_false_eq_true, true_and, and_true, false_and, and_false, u1_eq, u1_ne, u2_eq, u2_ne, uJ_eq, uJ_ne, upd_eq', upd_ne', ↓reduceIte, ↓bz_i, ↓bz_l, ↓bz_v, ↓bz_h, ↓bz_c, zs_i, zs_l, zs_v, zs_h, zs_c, zs_n, zn_i, zn_l, zn_v, zn_h, zn_c, zi_i, zi_l, zi_v, zi_h, zi_c, List.append_nil, rr_nk, if_true, if_false, ite_true, ite_false, i01, i10, i00, ite_self, true_or, or_true, or_false, false_or]
set_option maxRecDepth 20000 in
theorem s56_18 (d : Nat) (hq : ST kq fq L xs q) (hp0 : ST kq fq L xs p) (zq : q + 24 ≤ sz) (zp : p + 24 ≤ sz) {m : Nat} (hm : m ≤ 60) (hB : B (p + 18) 2 = nI m) : rx (d + 1) 56 0 [some (.ref (q + 18)), some (.ref (p + 18))] [] sz us (hp kq fq L xs A B J) = some (none, sz, us, hp kq fq L xs (u1 A (q + 19) (va_cpy (A (p + 19)) (A (q + 19)) 0 0 60)) (u2 B (q + 18) 2 (nI m)) J) := by
  have e1 := Hcp (A := A) (B := u2 B (q + 18) 2 (nI m)) (J := J) hq hp0 zq zp 19 60 (by omega) (fun _ _ _ => rfl) 60 (by omega) (by omega)
  simp (disch := omega) only [x_56_0, x_56_1, x_56_2, x_56_5, x_56_8, x_56_9, x_56_12, x_56_13, x_56_14, x_56_17, x_56_18, x_56_20, x_56_23, Hs0 hq zq, Hs0 hp0 zp, Hs1 hq zq, Hs1 hp0 zp, hB, e1, k0, k1, k2, k3, k4, k5, k6, k7, k8, k9, k10, k11, k12, k13, k14, k15, k16, k20, k24, k30, k32, k46, k56, k60, k69, k88, k99, k100, k125, k255, k338, k398, k422, k17, k18, k19, k21, k22, k23, k25, k26, k27, k28, k29, k31, k33, k34, k35, k36, k37, k38, k39, k40, k41, k42, k43, k44, k45, k47, k48, k49, k50, k51, k52, k53, k54, k55, k57, k58, k59, k61, k62, k63, k64, k70, k71, k96, k109, k114, k115, k119, k124, k128, k216, k256, k999, k1296, k4096, k5184, k9999, k12345, k99999, k100000, k999999999, m_2, m_10, m_999, m_9999, m_999999999, q_in, q_cl, q_mul, q_add, q_sub, q_lt, q_le, q_eq, Nat.reduceAdd, Nat.reduceMul, Nat.reduceSub, Nat.reduceLT, Nat.reduceLeDiff, Nat.reduceEqDiff, Nat.add_zero, Nat.zero_add, Nat.mul_zero, q_addm, q_addn, q_subm, q_0m, q_ngm, sky_0, she_0, sky_1, she_1, sky_2, she_2, sky_3, she_3, m_lt, m_gt, m_eq, m_eq', m_one, m_ng, m_mlt, m_meq, q_sub1, q_sub1m, ↓q_irem, mx0, q_div, lt_T, lt_F, le_T, le_F, eq_T, eq_F, not_true_eq_false, not_false_eq_true, true_and, and_true, false_and, and_false, u1_eq, u1_ne, u2_eq, u2_ne, uJ_eq, uJ_ne, upd_eq', upd_ne', ↓reduceIte, ↓bz_i, ↓bz_l, ↓bz_v, ↓bz_h, ↓bz_c, zs_i, zs_l, zs_v, zs_h, zs_c, zs_n, zn_i, zn_l, zn_v, zn_h, zn_c, zi_i, zi_l, zi_v, zi_h, zi_c, List.append_nil, rr_nk, if_true, if_false, ite_true, ite_false, i01, i10, i00, ite_self, true_or, or_true, or_false, false_or]
set_option maxRecDepth 20000 in
theorem s56_21 (d : Nat) (hq : ST kq fq L xs q) (hp0 : ST kq fq L xs p) (zq : q + 24 ≤ sz) (zp : p + 24 ≤ sz) {m : Nat} (hm : m ≤ 60) (hB : B (p + 21) 2 = nI m) : rx (d + 1) 56 0 [some (.ref (q + 21)), some (.ref (p + 21))] [] sz us (hp kq fq L xs A B J) = some (none, sz, us, hp kq fq L xs (u1 A (q + 22) (va_cpy (A (p + 22)) (A (q + 22)) 0 0 60)) (u2 B (q + 21) 2 (nI m)) J) := by
  have e1 := Hcp (A := A) (B := u2 B (q + 21) 2 (nI m)) (J := J) hq hp0 zq zp 22 60 (by omega) (fun _ _ _ => rfl) 60 (by omega) (by omega)
  simp (disch := omega) only [x_56_0, x_56_1, x_56_2, x_56_5, x_56_8, x_56_9, x_56_12, x_56_13, x_56_14, x_56_17, x_56_18, x_56_20, x_56_23, Hs0 hq zq, Hs0 hp0 zp, Hs1 hq zq, Hs1 hp0 zp, hB, e1, k0, k1, k2, k3, k4, k5, k6, k7, k8, k9, k10, k11, k12, k13, k14, k15, k16, k20, k24, k30, k32, k46, k56, k60, k69, k88, k99, k100, k125, k255, k338, k398, k422, k17, k18, k19, k21, k22, k23, k25, k26, k27, k28, k29, k31, k33, k34, k35, k36, k37, k38, k39, k40, k41, k42, k43, k44, k45, k47, k48, k49, k50, k51, k52, k53, k54, k55, k57, k58, k59, k61, k62, k63, k64, k70, k71, k96, k109, k114, k115, k119, k124, k128, k216, k256, k999, k1296, k4096, k5184, k9999, k12345, k99999, k100000, k999999999, m_2, m_10, m_999, m_9999, m_999999999, q_in, q_cl, q_mul, q_add, q_sub, q_lt, q_le, q_eq, Nat.reduceAdd, Nat.reduceMul, Nat.reduceSub, Nat.reduceLT, Nat.reduceLeDiff, Nat.reduceEqDiff, Nat.add_zero, Nat.zero_add, Nat.mul_zero, q_addm, q_addn, q_subm, q_0m, q_ngm, sky_0, she_0, sky_1, she_1, sky_2, she_2, sky_3, she_3, m_lt, m_gt, m_eq, m_eq', m_one, m_ng, m_mlt, m_meq, q_sub1, q_sub1m, ↓q_irem, mx0, q_div, lt_T, lt_F, le_T, le_F, eq_T, eq_F, not_true_eq_false, not_false_eq_true, true_and, and_true, false_and, and_false, u1_eq, u1_ne, u2_eq, u2_ne, uJ_eq, uJ_ne, upd_eq', upd_ne', ↓reduceIte, ↓bz_i, ↓bz_l, ↓bz_v, ↓bz_h, ↓bz_c, zs_i, zs_l, zs_v, zs_h, zs_c, zs_n, zn_i, zn_l, zn_v, zn_h, zn_c, zi_i, zi_l, zi_v, zi_h, zi_c, List.append_nil, rr_nk, if_true, if_false, ite_true, ite_false, i01, i10, i00, ite_self, true_or, or_true, or_false, false_or]
theorem va_c0 {f g : Nat → Int32} {n k : Nat} (h : k < n) : va_cpy f g 0 0 n k = f k := by
  unfold va_cpy
  rw [if_pos (by omega), show 0 + (k - 0) = k by omega]
set_option maxRecDepth 20000 in
set_option maxHeartbeats 4000000 in
theorem s124 (d : Nat) (hq : ST kq fq L xs q) (hp0 : ST kq fq L xs p) (zq : q + 24 ≤ sz) (zp : p + 24 ≤ sz) (hpq : p + 24 ≤ q ∨ q + 24 ≤ p) {m6 m14 m16 m18 m21 : Nat} (l6 : m6 ≤ 5) (l14 : m14 ≤ 60) (l16 : m16 ≤ 24) (l18 : m18 ≤ 60) (l21 : m21 ≤ 60) (h6 : B (p + 6) 1 = nI m6) (h14 : B (p + 14) 1 = nI m14) (h16 : B (p + 16) 1 = nI m16) (h18 : B (p + 18) 2 = nI m18) (h21 : B (p + 21) 2 = nI m21) : ∃ A' B', rx (d + 2) 124 0 [some (.ref q), some (.ref p), none] [] sz us (hp kq fq L xs A B J) = some (none, sz, us, hp kq fq L xs A' B' J) ∧ (∀ i, i < q ∨ q + 24 ≤ i → A' i = A i ∧ B' i = B i) ∧ ((∀ k, k < 8 → A' (q + 1) k = A (p + 1) k) ∧ (∀ k, k < 8 → A' (q + 2) k = A (p + 2) k) ∧ (∀ k, k < 8 → A' (q + 3) k = A (p + 3) k) ∧ (∀ k, k < 8 → A' (q + 4) k = A (p + 4) k) ∧ (∀ k, k < m6 → A' (q + 7) k = A (p + 7) k) ∧ (∀ k, k < 4 → A' (q + 8) k = A (p + 8) k) ∧ (∀ w, w < 4 → ∀ k, k < 8 → A' (q + 10 + w) k = A (p + 10 + w) k) ∧ (∀ k, k < m14 → A' (q + 15) k = A (p + 15) k) ∧ (∀ k, k < m16 → A' (q + 17) k = A (p + 17) k) ∧ (∀ k, k < 60 → A' (q + 19) k = A (p + 19) k) ∧ (∀ k, k < 60 → A' (q + 22) k = A (p + 22) k)) ∧ (B' q 5 = B p 5 ∧ B' q 7 = B p 7 ∧ B' q 8 = B p 8 ∧ B' q 9 = B p 9 ∧ B' q 12 = B p 12 ∧ B' q 13 = B p 13 ∧ B' (q + 6) 1 = B (p + 6) 1 ∧ B' (q + 14) 1 = B (p + 14) 1 ∧ B' (q + 16) 1 = B (p + 16) 1 ∧ B' (q + 18) 2 = B (p + 18) 2 ∧ B' (q + 21) 2 = B (p + 21) 2) := by
  have c := fun (A : rrA) (B : rrA) j n hj hj1 m hm hn => Hcp (A := A) (B := B) (J := J) hq hp0 zq zp j n hj hj1 m hm hn
  have c1 := fun (A : rrA) (B : rrA) => c A B 1 8 (by omega) (fun _ _ _ => rfl) 8 (by omega) (by omega)
  have c2 := fun (A : rrA) (B : rrA) => c A B 2 8 (by omega) (fun _ _ _ => rfl) 8 (by omega) (by omega)
  have c3 := fun (A : rrA) (B : rrA) => c A B 3 8 (by omega) (fun _ _ _ => rfl) 8 (by omega) (by omega)
  have c4 := fun (A : rrA) (B : rrA) => c A B 4 8 (by omega) (fun _ _ _ => rfl) 8 (by omega) (by omega)
  have c8 := fun (A : rrA) (B : rrA) => c A B 8 4 (by omega) (fun _ _ _ => rfl) 4 (by omega) (by omega)
  have c10 := fun (A : rrA) (B : rrA) => c A B 10 8 (by omega) (fun _ _ _ => rfl) 8 (by omega) (by omega)
  have c11 := fun (A : rrA) (B : rrA) => c A B 11 8 (by omega) (fun _ _ _ => rfl) 8 (by omega) (by omega)
  have c12 := fun (A : rrA) (B : rrA) => c A B 12 8 (by omega) (fun _ _ _ => rfl) 8 (by omega) (by omega)
  have c13 := fun (A : rrA) (B : rrA) => c A B 13 8 (by omega) (fun _ _ _ => rfl) 8 (by omega) (by omega)
  refine ⟨_, _, (by (simp (disch := first | omega | (simp (disch := omega) only [u2_ne, h6, h14, h16, h18, h21])) only [x_124_0, x_124_1, x_124_4, x_124_5, x_124_6, x_124_9, x_124_10, x_124_12, x_124_15, x_124_16, x_124_19, x_124_20, x_124_21, x_124_24, x_124_25, x_124_27, x_124_30, x_124_31, x_124_34, x_124_35, x_124_36, x_124_39, x_124_40, x_124_42, x_124_45, x_124_46, x_124_49, x_124_50, x_124_51, x_124_54, x_124_55, x_124_57, x_124_60, x_124_61, x_124_64, x_124_65, x_124_66, x_124_69, x_124_70, x_124_71, x_124_74, x_124_75, x_124_76, x_124_77, x_124_78, x_124_81, x_124_82, x_124_85, x_124_86, x_124_87, x_124_88, x_124_89, x_124_92, x_124_93, x_124_94, x_124_95, x_124_97, x_124_100, x_124_103, x_124_106, x_124_107, x_124_108, x_124_111, x_124_114, x_124_115, x_124_118, x_124_119, x_124_122, x_124_125, x_124_126, x_124_127, x_124_130, x_124_133, x_124_134, x_124_135, x_124_138, x_124_141, x_124_142, x_124_143, x_124_146, x_124_149, x_124_150, x_124_151, x_124_154, x_124_157, x_124_158, x_124_159, x_124_162, x_124_165, x_124_166, x_124_169, x_124_170, x_124_173, x_124_176, x_124_177, x_124_180, x_124_181, x_124_184, x_124_187, x_124_188, x_124_191, x_124_192, x_124_195, x_124_198, x_124_199, x_124_202, x_124_203, x_124_206, x_124_209, Hs0 hq zq, Hs0 hp0 zp, Hs1 hq zq, Hs1 hp0 zp, c1, c2, c3, c4, c8, c10, c11, c12, c13, s41_6 (m := m6), s41_14 (m := m14), s41_16 (m := m16), s56_18 (m := m18), s56_21 (m := m21), hq, hp0, zq, zp, k0, k1, k2, k3, k4, k5, k6, k7, k8, k9, k10, k11, k12, k13, k14, k15, k16, k20, k24, k30, k32, k46, k56, k60, k69, k88, k99, k100, k125, k255, k338, k398, k422, k17, k18, k19, k21, k22, k23, k25, k26, k27, k28, k29, k31, k33, k34, k35, k36, k37, k38, k39, k40, k41, k42, k43, k44, k45, k47, k48, k49, k50, k51, k52, k53, k54, k55, k57, k58, k59, k61, k62, k63, k64, k70, k71, k96, k109, k114, k115, k119, k124, k128, k216, k256, k999, k1296, k4096, k5184, k9999, k12345, k99999, k100000, k999999999, m_2, m_10, m_999, m_9999, m_999999999, q_in, q_cl, q_mul, q_add, q_sub, q_lt, q_le, q_eq, Nat.reduceAdd, Nat.reduceMul, Nat.reduceSub, Nat.reduceLT, Nat.reduceLeDiff, Nat.reduceEqDiff, Nat.add_zero, Nat.zero_add, Nat.mul_zero, q_addm, q_addn, q_subm, q_0m, q_ngm, sky_0, she_0, sky_1, she_1, sky_2, she_2, sky_3, she_3, m_lt, m_gt, m_eq, m_eq', m_one, m_ng, m_mlt, m_meq, q_sub1, q_sub1m, ↓q_irem, mx0, q_div, lt_T, lt_F, le_T, le_F, eq_T, eq_F, not_true_eq_false, not_false_eq_true, true_and, and_true, false_and, and_false, u1_eq, u1_ne, u2_eq, u2_ne, uJ_eq, uJ_ne, upd_eq', upd_ne', ↓reduceIte, ↓bz_i, ↓bz_l, ↓bz_v, ↓bz_h, ↓bz_c, zs_i, zs_l, zs_v, zs_h, zs_c, zs_n, zn_i, zn_l, zn_v, zn_h, zn_c, zi_i, zi_l, zi_v, zi_h, zi_c, List.append_nil, rr_nk, if_true, if_false, ite_true, ite_false, i01, i10, i00, ite_self, true_or, or_true, or_false, false_or]); rfl), ?_, ?_, ?_⟩
  · intro i hi
    constructor
    · simp (disch := omega) only [u1_ne]
    · simp (disch := omega) only [u2_ne]
  · refine ⟨fun k hk => ?_, fun k hk => ?_, fun k hk => ?_, fun k hk => ?_, fun k hk => ?_, fun k hk => ?_, fun w hw k hk => ?_, fun k hk => ?_, fun k hk => ?_, fun k hk => ?_, fun k hk => ?_⟩
    all_goals first | (simp (disch := omega) only [u1_ne, u1_eq, va_c0]; done) | skip
    have h4 : w = 0 ∨ w = 1 ∨ w = 2 ∨ w = 3 := by omega
    rcases h4 with rfl | rfl | rfl | rfl <;> simp (disch := omega) only [Nat.add_zero, Nat.add_assoc, Nat.reduceAdd, u1_ne, u1_eq, va_c0]
  · refine ⟨?_, ?_, ?_, ?_, ?_, ?_, ?_, ?_, ?_, ?_, ?_⟩ <;> simp (disch := omega) only [u2_ne, u2_eq, upd_ne', upd_eq', h6, h14, h16, h18, h21]
end CPY

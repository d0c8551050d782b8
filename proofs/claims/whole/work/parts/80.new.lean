/-! ===== cells that are made: rows for the constructors ===== -/
theorem up_ap (h : rr_H) (k : Nat) (c : rr_C) (j : Nat) : rr_up h k c j = if j = k then c else h j := rfl
theorem mul_ap (h : rr_H) (sz n k j : Nat) : rr_mul h sz n k j = if j = sz then rr_cQ 1 n (fun i => if i < n then some (sz + 1 + i) else none) else if sz < j ∧ j < sz + 1 + n then rr_cI k (fun _ => 0) else h j := rfl
def gfc (sz a ci k : Nat) : rr_C → Option Value
  | .inr (.inr (.inr (cj, fs))) => if cj = ci ∧ a < sz then fs[k]? else none
  | _ => none
theorem gf_c (sz : Nat) (h : rr_H) (a ci k : Nat) : rr_gf sz h a ci k = gfc sz a ci k (h a) := rfl
theorem gfc_o (sz a ci k cj : Nat) (fs : List Value) : gfc sz a ci k (rr_cO cj fs) = if cj = ci ∧ a < sz then fs[k]? else none := rfl
def pfc (sz : Nat) (h : rr_H) (a ci k : Nat) (v : Value) : rr_C → Option rr_H
  | .inr (.inr (.inr (cj, fs))) => if cj = ci ∧ a < sz ∧ k < fs.length then some (rr_up h a (rr_cO cj (fs.set k v))) else none
  | _ => none
theorem pf_c (sz : Nat) (h : rr_H) (a ci k : Nat) (v : Value) : rr_pf sz h a ci k v = pfc sz h a ci k v (h a) := rfl
theorem pfc_o (sz : Nat) (h : rr_H) (a ci k cj : Nat) (v : Value) (fs : List Value) : pfc sz h a ci k v (rr_cO cj fs) = if cj = ci ∧ a < sz ∧ k < fs.length then some (rr_up h a (rr_cO cj (fs.set k v))) else none := rfl
theorem hp_ap (kq fq : Option Nat) (L : Nat) (xs : Nat → Int32) (A B : Nat → Nat → Int32) (J : Nat → Nat → Int64) (j : Nat) : hp kq fq L xs A B J j = sh kq fq L xs j (A j) (B j) (J j) := rfl
theorem sh_0 (kq fq : Option Nat) (L : Nat) (xs : Nat → Int32) (a b : Nat → Int32) (w : Nat → Int64) : sh kq fq L xs 0 a b w = rr_cO 9 [.ref 1, va_rf kq, .int (b 2), .ref 25, .ref 26, .ref 27, .ref 30, .ref 36, .ref 39, .ref 41, .ref 42, va_rf fq] := rfl
def nwA (q : Nat) (A : rrA) : rrA := fun j => if q ≤ j ∧ j < q + 24 then (fun _ => nI 0) else A j
def nwB (q : Nat) (B : rrA) : rrA := fun j => if j = q then (fun k => if k = 7 then mI 1 else if k = 8 then nI 2 else if k = 9 then nI 10 else if k = 13 then nI 1 else nI 0) else if q ≤ j ∧ j < q + 24 then (fun _ => nI 0) else B j
theorem sh_kq {q : Nat} {fq : Option Nat} {L : Nat} {xs : Nat → Int32} {j : Nat} {a b : Nat → Int32} {w : Nat → Int64} (h0 : j ≠ 0) (hj : ¬ (q ≤ j ∧ j < q + 24)) : sh (some q) fq L xs j a b w = sh none fq L xs j a b w := by
  unfold sh
  by_cases h : j < 71
  · rw [if_pos h, if_pos h]
    obtain ⟨i, rfl⟩ : ∃ i, j = i + 1 := ⟨j - 1, by omega⟩
    rfl
  · rw [if_neg h, if_neg h]
    by_cases h2 : 1000000 ≤ j ∧ j < 1000004
    · rw [if_pos h2, if_pos h2]
    · rw [if_neg h2, if_neg h2]
      unfold sh_kx
      simp only
      rw [if_neg hj]
theorem skf (a : Nat) : (fun i => if i < 4 then some (a + 1 + i) else none) = fun i => ([a + 1, a + 2, a + 3, a + 4] : List Nat)[i]? := by
  funext i
  by_cases h : i < 4
  · have h4 : i = 0 ∨ i = 1 ∨ i = 2 ∨ i = 3 := by omega
    rcases h4 with rfl | rfl | rfl | rfl <;> rfl
  · rw [if_neg h]
    exact (List.getElem?_eq_none (by show 4 ≤ i; omega)).symm
section NW
variable {us : Nat} {L : Nat} {xs : Nat → Int32} {A B : Nat → Nat → Int32} {J : Nat → Nat → Int64}
set_option maxRecDepth 20000 in
set_option maxHeartbeats 4000000 in
theorem nw71 (d : Nat) : rx (d + 9) 123 0 [some (.ref 0)] [] 71 us (hp none none L xs A B J) = rx (d + 9) 123 18 [some (.ref 0)] [] 95 (us + 439) (hp (some 71) none L xs (nwA 71 A) (nwB 71 B) J) := by
  simp (disch := omega) only [x_123_0, x_123_1, xn_123_4, x_123_4, x_123_7, x_123_8, x_123_11, x_123_12, x_123_15, x_123_19, x_123_22, x_123_23, x_123_26, x_123_29, x_123_30, x_123_31, x_123_34, x_123_35, x_123_36, x_123_39, x_123_40, x_123_43, x_1_0, x_1_1, x_1_4, x_1_5, x_1_7, x_1_9, x_1_12, x_1_13, x_1_15, x_1_17, x_1_20, x_1_21, x_1_23, x_1_25, x_1_28, x_1_29, x_1_31, x_1_33, x_1_36, x_1_37, x_1_39, x_1_41, x_1_44, x_1_45, x_1_48, x_1_49, x_1_50, x_1_53, x_1_56, x_1_57, x_1_58, x_1_61, x_1_62, x_1_63, x_1_66, x_1_67, x_1_69, x_1_72, x_1_73, x_1_74, x_1_76, x_1_79, x_1_80, x_1_81, x_1_83, x_1_87, x_1_90, x_1_91, x_1_92, x_1_95, x_1_96, x_1_99, x_1_100, x_1_102, x_1_105, x_1_108, x_1_109, x_1_112, x_1_113, x_1_115, x_1_118, x_1_121, x_1_122, x_1_125, x_1_126, x_1_129, x_1_132, x_1_133, x_1_136, x_1_137, x_1_140, x_1_143, x_2_0, x_2_1, x_2_4, x_2_5, x_2_6, x_2_7, x_2_10, x_2_12, x_2_15, x_3_0, x_3_1, x_3_4, x_3_5, x_3_7, x_3_9, x_3_12, x_3_13, x_3_15, x_3_17, x_3_20, Hc0 none none L xs A B J 71 (by omega), vrn, up_ap, mul_ap, gf_c, gfc_o, pf_c, pfc_o, hp_ap, sh_0, List.set_cons_zero, List.set_cons_succ, List.length_cons, List.length_nil, List.getElem?_cons_zero, List.getElem?_cons_succ, k0, k1, k2, k3, k4, k5, k6, k7, k8, k9, k10, k11, k12, k13, k14, k15, k16, k20, k24, k30, k32, k46, k56, k60, k69, k88, k99, k100, k125, k255, k338, k398, k422, k17, k18, k19, k21, k22, k23, k25, k26, k27, k28, k29, k31, k33, k34, k35, k36, k37, k38, k39, k40, k41, k42, k43, k44, k45, k47, k48, k49, k50, k51, k52, k53, k54, k55, k57, k58, k59, k61, k62, k63, k64, k70, k71, k96, k109, k114, k115, k119, k124, k128, k216, k256, k999, k1296, k4096, k5184, k9999, k12345, k99999, k100000, k999999999, m_2, m_10, m_999, m_9999, m_999999999, q_in, q_cl, q_mul, q_add, q_sub, q_lt, q_le, q_eq, Nat.reduceAdd, Nat.reduceMul, Nat.reduceSub, Nat.reduceLT, Nat.reduceLeDiff, Nat.reduceEqDiff, Nat.add_zero, Nat.zero_add, Nat.mul_zero, q_addm, q_addn, q_subm, q_0m, q_ngm, sky_0, she_0, sky_1, she_1, sky_2, she_2, sky_3, she_3, m_lt, m_gt, m_eq, m_eq', m_one, m_ng, m_mlt, m_meq, q_sub1, q_sub1m, ↓q_irem, mx0, q_div, lt_T, lt_F, le_T, le_F, eq_T, eq_F, not_true_eq_false, not_false_eq_true, true_and, and_true, false_and, and_false, ↓reduceIte, ↓bz_i, ↓bz_l, ↓bz_v, ↓bz_h, ↓bz_c, zs_i, zs_l, zs_v, zs_h, zs_c, zs_n, zn_i, zn_l, zn_v, zn_h, zn_c, zi_i, zi_l, zi_v, zi_h, zi_c, List.append_nil, rr_nk, if_true, if_false, ite_true, ite_false, i01, i10, i00, ite_self, true_or, or_true, or_false, false_or]
  congr 1
  funext j
  by_cases h : 71 ≤ j ∧ j < 71 + 24
  · have h24 : j = 71 ∨ j = 72 ∨ j = 73 ∨ j = 74 ∨ j = 75 ∨ j = 76 ∨ j = 77 ∨ j = 78 ∨ j = 79 ∨ j = 80 ∨ j = 81 ∨ j = 82 ∨ j = 83 ∨ j = 84 ∨ j = 85 ∨ j = 86 ∨ j = 87 ∨ j = 88 ∨ j = 89 ∨ j = 90 ∨ j = 91 ∨ j = 92 ∨ j = 93 ∨ j = 94 := by omega
    rcases h24 with rfl | rfl | rfl | rfl | rfl | rfl | rfl | rfl | rfl | rfl | rfl | rfl | rfl | rfl | rfl | rfl | rfl | rfl | rfl | rfl | rfl | rfl | rfl | rfl <;> first | rfl | exact congrArg (rr_cQ 1 4) (skf 80)
  · by_cases h0 : j = 0 
    · subst h0; rfl
    · simp (disch := omega) only [up_ap, mul_ap, eq_F, lt_F, hp_ap, sh_kq, nwA, nwB, if_false, and_false, false_and, if_neg h, ite_self, ↓reduceIte, ↓bz_i, ↓bz_l, ↓bz_v, ↓bz_h, ↓bz_c, zs_i, zs_l, zs_v, zs_h, zs_c, zs_n, zn_i, zn_l, zn_v, zn_h, zn_c, zi_i, zi_l, zi_v, zi_h, zi_c, List.append_nil, rr_nk, if_true, if_false, ite_true, ite_false, i01, i10, i00, ite_self, true_or, or_true, or_false, false_or]
      rw [if_neg (by omega)]
set_option maxRecDepth 20000 in
set_option maxHeartbeats 4000000 in
theorem nw78 (d : Nat) : rx (d + 9) 123 0 [some (.ref 0)] [] 78 us (hp none (some 71) L xs A B J) = rx (d + 9) 123 18 [some (.ref 0)] [] 102 (us + 439) (hp (some 78) (some 71) L xs (nwA 78 A) (nwB 78 B) J) := by
  simp (disch := omega) only [x_123_0, x_123_1, xn_123_4, x_123_4, x_123_7, x_123_8, x_123_11, x_123_12, x_123_15, x_123_19, x_123_22, x_123_23, x_123_26, x_123_29, x_123_30, x_123_31, x_123_34, x_123_35, x_123_36, x_123_39, x_123_40, x_123_43, x_1_0, x_1_1, x_1_4, x_1_5, x_1_7, x_1_9, x_1_12, x_1_13, x_1_15, x_1_17, x_1_20, x_1_21, x_1_23, x_1_25, x_1_28, x_1_29, x_1_31, x_1_33, x_1_36, x_1_37, x_1_39, x_1_41, x_1_44, x_1_45, x_1_48, x_1_49, x_1_50, x_1_53, x_1_56, x_1_57, x_1_58, x_1_61, x_1_62, x_1_63, x_1_66, x_1_67, x_1_69, x_1_72, x_1_73, x_1_74, x_1_76, x_1_79, x_1_80, x_1_81, x_1_83, x_1_87, x_1_90, x_1_91, x_1_92, x_1_95, x_1_96, x_1_99, x_1_100, x_1_102, x_1_105, x_1_108, x_1_109, x_1_112, x_1_113, x_1_115, x_1_118, x_1_121, x_1_122, x_1_125, x_1_126, x_1_129, x_1_132, x_1_133, x_1_136, x_1_137, x_1_140, x_1_143, x_2_0, x_2_1, x_2_4, x_2_5, x_2_6, x_2_7, x_2_10, x_2_12, x_2_15, x_3_0, x_3_1, x_3_4, x_3_5, x_3_7, x_3_9, x_3_12, x_3_13, x_3_15, x_3_17, x_3_20, Hc0 none (some 71) L xs A B J 78 (by omega), vrn, up_ap, mul_ap, gf_c, gfc_o, pf_c, pfc_o, hp_ap, sh_0, List.set_cons_zero, List.set_cons_succ, List.length_cons, List.length_nil, List.getElem?_cons_zero, List.getElem?_cons_succ, k0, k1, k2, k3, k4, k5, k6, k7, k8, k9, k10, k11, k12, k13, k14, k15, k16, k20, k24, k30, k32, k46, k56, k60, k69, k88, k99, k100, k125, k255, k338, k398, k422, k17, k18, k19, k21, k22, k23, k25, k26, k27, k28, k29, k31, k33, k34, k35, k36, k37, k38, k39, k40, k41, k42, k43, k44, k45, k47, k48, k49, k50, k51, k52, k53, k54, k55, k57, k58, k59, k61, k62, k63, k64, k70, k71, k96, k109, k114, k115, k119, k124, k128, k216, k256, k999, k1296, k4096, k5184, k9999, k12345, k99999, k100000, k999999999, m_2, m_10, m_999, m_9999, m_999999999, q_in, q_cl, q_mul, q_add, q_sub, q_lt, q_le, q_eq, Nat.reduceAdd, Nat.reduceMul, Nat.reduceSub, Nat.reduceLT, Nat.reduceLeDiff, Nat.reduceEqDiff, Nat.add_zero, Nat.zero_add, Nat.mul_zero, q_addm, q_addn, q_subm, q_0m, q_ngm, sky_0, she_0, sky_1, she_1, sky_2, she_2, sky_3, she_3, m_lt, m_gt, m_eq, m_eq', m_one, m_ng, m_mlt, m_meq, q_sub1, q_sub1m, ↓q_irem, mx0, q_div, lt_T, lt_F, le_T, le_F, eq_T, eq_F, not_true_eq_false, not_false_eq_true, true_and, and_true, false_and, and_false, ↓reduceIte, ↓bz_i, ↓bz_l, ↓bz_v, ↓bz_h, ↓bz_c, zs_i, zs_l, zs_v, zs_h, zs_c, zs_n, zn_i, zn_l, zn_v, zn_h, zn_c, zi_i, zi_l, zi_v, zi_h, zi_c, List.append_nil, rr_nk, if_true, if_false, ite_true, ite_false, i01, i10, i00, ite_self, true_or, or_true, or_false, false_or]
  congr 1
  funext j
  by_cases h : 78 ≤ j ∧ j < 78 + 24
  · have h24 : j = 78 ∨ j = 79 ∨ j = 80 ∨ j = 81 ∨ j = 82 ∨ j = 83 ∨ j = 84 ∨ j = 85 ∨ j = 86 ∨ j = 87 ∨ j = 88 ∨ j = 89 ∨ j = 90 ∨ j = 91 ∨ j = 92 ∨ j = 93 ∨ j = 94 ∨ j = 95 ∨ j = 96 ∨ j = 97 ∨ j = 98 ∨ j = 99 ∨ j = 100 ∨ j = 101 := by omega
    rcases h24 with rfl | rfl | rfl | rfl | rfl | rfl | rfl | rfl | rfl | rfl | rfl | rfl | rfl | rfl | rfl | rfl | rfl | rfl | rfl | rfl | rfl | rfl | rfl | rfl <;> first | rfl | exact congrArg (rr_cQ 1 4) (skf 87)
  · by_cases h0 : j = 0 
    · subst h0; rfl
    · simp (disch := omega) only [up_ap, mul_ap, eq_F, lt_F, hp_ap, sh_kq, nwA, nwB, if_false, and_false, false_and, if_neg h, ite_self, ↓reduceIte, ↓bz_i, ↓bz_l, ↓bz_v, ↓bz_h, ↓bz_c, zs_i, zs_l, zs_v, zs_h, zs_c, zs_n, zn_i, zn_l, zn_v, zn_h, zn_c, zi_i, zi_l, zi_v, zi_h, zi_c, List.append_nil, rr_nk, if_true, if_false, ite_true, ite_false, i01, i10, i00, ite_self, true_or, or_true, or_false, false_or]
      rw [if_neg (by omega)]
end NW

/-! ===== the two objects are made ===== -/
def wqc (sz : Nat) (h : rr_H) (a : Nat) (i : Int32) (v : Nat) : rr_C → rr_C → Option rr_H
  | .inr (.inr (.inl (t, n, f))), .inr (.inr (.inr (cj, _))) => if a < sz ∧ v < sz ∧ t = 0 ∧ cj = 5 ∧ rr_in i n = true then some (rr_up h a (rr_cQ t n (va_up f i.toNatClampNeg (some v)))) else none
  | _, _ => none
theorem wq_c (sz : Nat) (h : rr_H) (a : Nat) (i : Int32) (v : Nat) : rr_wq sz h a i v = wqc sz h a i v (h a) (h v) := rfl
theorem wqc_o (sz : Nat) (h : rr_H) (a : Nat) (i : Int32) (v t n cj : Nat) (f : Nat → Option Nat) (fs : List Value) : wqc sz h a i v (rr_cQ t n f) (rr_cO cj fs) = if a < sz ∧ v < sz ∧ t = 0 ∧ cj = 5 ∧ rr_in i n = true then some (rr_up h a (rr_cQ t n (va_up f i.toNatClampNeg (some v)))) else none := rfl
def wic (sz : Nat) (h : rr_H) (a : Nat) (i x : Int32) : rr_C → Option rr_H
  | .inl (n, f) => if a < sz ∧ rr_in i n = true then some (rr_up h a (rr_cI n (upd f i.toNatClampNeg x))) else none
  | _ => none
theorem wi_c (sz : Nat) (h : rr_H) (a : Nat) (i x : Int32) : rr_wi sz h a i x = wic sz h a i x (h a) := rfl
theorem wic_o (sz : Nat) (h : rr_H) (a : Nat) (i x : Int32) (n : Nat) (f : Nat → Int32) : wic sz h a i x (rr_cI n f) = if a < sz ∧ rr_in i n = true then some (rr_up h a (rr_cI n (upd f i.toNatClampNeg x))) else none := rfl
def A00 : rrA := fun j => if j = 52 then upd (upd (upd (upd (fun _ => nI 0) 8 (nI 1)) 3 (mI 1)) 4 (nI 2)) 5 (nI 10) else fun _ => nI 0
def B00 : rrA := fun j => if j = 1 then (fun k => if k = 7 then mI 1 else if k = 8 then nI 2 else if k = 9 then nI 10 else if k = 13 then nI 1 else nI 0) else fun _ => nI 0
def J00 : Nat → Nat → Int64 := fun _ _ => 0
def hcl (L : Nat) (xs : Nat → Int32) : rr_H := fun j => if j < 51 then hp none none L xs A00 B00 J00 j else rr_h0 L xs j
theorem sq4 : va_up (va_up (va_up (va_up (fun _ => (none : Option Nat)) 0 (some 43)) 1 (some 45)) 2 (some 47)) 3 (some 49) = fun i => ([43, 45, 47, 49] : List Nat)[i]? := by
  funext i
  by_cases h : i < 4
  · have h4 : i = 0 ∨ i = 1 ∨ i = 2 ∨ i = 3 := by omega
    rcases h4 with rfl | rfl | rfl | rfl <;> rfl
  · have e : ([43, 45, 47, 49] : List Nat)[i]? = none := List.getElem?_eq_none (by show 4 ≤ i; omega)
    rw [e]
    unfold va_up
    rw [if_neg (by omega), if_neg (by omega), if_neg (by omega), if_neg (by omega)]
section CT
variable {L : Nat} {xs : Nat → Int32}
set_option maxRecDepth 40000 in
set_option maxHeartbeats 16000000 in
theorem ct0 : rx 300 500 0 [some (.ref 1000003), none, none, none] [] 0 0 (rr_h0 L xs) = rx 300 500 8 [some (.ref 1000003), some (.ref 0), none, none] [] 51 1342 (hcl L xs) := by
  simp (disch := omega) only [x_500_0, x_500_3, x_500_4, x_500_7, x_0_0, x_0_1, x_0_4, x_0_5, x_0_8, x_0_9, x_0_12, x_0_15, x_0_16, x_0_18, x_0_20, x_0_23, x_0_24, x_0_25, x_0_28, x_0_31, x_0_32, x_0_35, x_0_36, x_0_39, x_0_42, x_0_43, x_0_46, x_0_47, x_0_50, x_0_53, x_0_54, x_0_57, x_0_58, x_0_61, x_0_64, x_0_65, x_0_68, x_0_69, x_0_72, x_0_75, x_0_76, x_0_78, x_0_80, x_0_83, x_0_84, x_0_86, x_0_88, x_0_91, x_0_92, x_0_93, x_0_94, x_0_95, x_0_98, x_0_99, x_0_102, x_0_103, x_0_106, x_0_107, x_0_110, x_0_111, x_0_114, x_0_117, x_1_0, x_1_1, x_1_4, x_1_5, x_1_7, x_1_9, x_1_12, x_1_13, x_1_15, x_1_17, x_1_20, x_1_21, x_1_23, x_1_25, x_1_28, x_1_29, x_1_31, x_1_33, x_1_36, x_1_37, x_1_39, x_1_41, x_1_44, x_1_45, x_1_48, x_1_49, x_1_50, x_1_53, x_1_56, x_1_57, x_1_58, x_1_61, x_1_62, x_1_63, x_1_66, x_1_67, x_1_69, x_1_72, x_1_73, x_1_74, x_1_76, x_1_79, x_1_80, x_1_81, x_1_83, x_1_87, x_1_90, x_1_91, x_1_92, x_1_95, x_1_96, x_1_99, x_1_100, x_1_102, x_1_105, x_1_108, x_1_109, x_1_112, x_1_113, x_1_115, x_1_118, x_1_121, x_1_122, x_1_125, x_1_126, x_1_129, x_1_132, x_1_133, x_1_136, x_1_137, x_1_140, x_1_143, x_2_0, x_2_1, x_2_4, x_2_5, x_2_6, x_2_7, x_2_10, x_2_12, x_2_15, x_3_0, x_3_1, x_3_4, x_3_5, x_3_7, x_3_9, x_3_12, x_3_13, x_3_15, x_3_17, x_3_20, x_4_0, x_4_1, x_4_4, x_4_5, x_4_8, x_4_9, x_4_11, x_4_14, x_4_17, x_5_0, x_5_1, x_5_4, x_5_5, x_5_8, x_5_9, x_5_12, x_5_15, x_5_16, x_5_19, x_5_20, x_5_22, x_5_25, x_5_28, x_6_0, x_6_1, x_6_4, x_6_5, x_6_8, x_6_10, x_6_13, x_6_14, x_6_17, x_6_19, x_6_22, x_7_0, x_7_1, x_7_4, x_7_5, x_7_7, x_7_9, x_7_12, x_8_0, x_8_1, x_8_4, x_8_5, x_8_7, x_8_9, x_8_12, up_ap, mul_ap, gf_c, gfc_o, pf_c, pfc_o, wq_c, wqc_o, List.set_cons_zero, List.set_cons_succ, List.length_cons, List.length_nil, List.getElem?_cons_zero, List.getElem?_cons_succ, k0, k1, k2, k3, k4, k5, k6, k7, k8, k9, k10, k11, k12, k13, k14, k15, k16, k20, k24, k30, k32, k46, k56, k60, k69, k88, k99, k100, k125, k255, k338, k398, k422, k17, k18, k19, k21, k22, k23, k25, k26, k27, k28, k29, k31, k33, k34, k35, k36, k37, k38, k39, k40, k41, k42, k43, k44, k45, k47, k48, k49, k50, k51, k52, k53, k54, k55, k57, k58, k59, k61, k62, k63, k64, k70, k71, k96, k109, k114, k115, k119, k124, k128, k216, k256, k999, k1296, k4096, k5184, k9999, k12345, k99999, k100000, k999999999, m_2, m_10, m_999, m_9999, m_999999999, q_in, q_cl, q_mul, q_add, q_sub, q_lt, q_le, q_eq, Nat.reduceAdd, Nat.reduceMul, Nat.reduceSub, Nat.reduceLT, Nat.reduceLeDiff, Nat.reduceEqDiff, Nat.add_zero, Nat.zero_add, Nat.mul_zero, q_addm, q_addn, q_subm, q_0m, q_ngm, sky_0, she_0, sky_1, she_1, sky_2, she_2, sky_3, she_3, m_lt, m_gt, m_eq, m_eq', m_one, m_ng, m_mlt, m_meq, q_sub1, q_sub1m, ↓q_irem, mx0, q_div, lt_T, lt_F, le_T, le_F, eq_T, eq_F, not_true_eq_false, not_false_eq_true, true_and, and_true, false_and, and_false, ↓reduceIte, ↓bz_i, ↓bz_l, ↓bz_v, ↓bz_h, ↓bz_c, zs_i, zs_l, zs_v, zs_h, zs_c, zs_n, zn_i, zn_l, zn_v, zn_h, zn_c, zi_i, zi_l, zi_v, zi_h, zi_c, List.append_nil, rr_nk, if_true, if_false, ite_true, ite_false, i01, i10, i00, ite_self, true_or, or_true, or_false, false_or]
  congr 1
  funext j
  by_cases h : j < 51
  · show _ = if j < 51 then hp none none L xs A00 B00 J00 j else rr_h0 L xs j
    rw [if_pos h]
    have hc : j = 0 ∨ j = 1 ∨ j = 2 ∨ j = 3 ∨ j = 4 ∨ j = 5 ∨ j = 6 ∨ j = 7 ∨ j = 8 ∨ j = 9 ∨ j = 10 ∨ j = 11 ∨ j = 12 ∨ j = 13 ∨ j = 14 ∨ j = 15 ∨ j = 16 ∨ j = 17 ∨ j = 18 ∨ j = 19 ∨ j = 20 ∨ j = 21 ∨ j = 22 ∨ j = 23 ∨ j = 24 ∨ j = 25 ∨ j = 26 ∨ j = 27 ∨ j = 28 ∨ j = 29 ∨ j = 30 ∨ j = 31 ∨ j = 32 ∨ j = 33 ∨ j = 34 ∨ j = 35 ∨ j = 36 ∨ j = 37 ∨ j = 38 ∨ j = 39 ∨ j = 40 ∨ j = 41 ∨ j = 42 ∨ j = 43 ∨ j = 44 ∨ j = 45 ∨ j = 46 ∨ j = 47 ∨ j = 48 ∨ j = 49 ∨ j = 50 := by omega
    rcases hc with rfl | rfl | rfl | rfl | rfl | rfl | rfl | rfl | rfl | rfl | rfl | rfl | rfl | rfl | rfl | rfl | rfl | rfl | rfl | rfl | rfl | rfl | rfl | rfl | rfl | rfl | rfl | rfl | rfl | rfl | rfl | rfl | rfl | rfl | rfl | rfl | rfl | rfl | rfl | rfl | rfl | rfl | rfl | rfl | rfl | rfl | rfl | rfl | rfl | rfl | rfl <;> first | rfl | exact congrArg (rr_cQ 1 4) (skf 10) | exact congrArg (rr_cQ 0 4) sq4
  · show _ = if j < 51 then hp none none L xs A00 B00 J00 j else rr_h0 L xs j
    rw [if_neg h]
    simp (disch := omega) only [up_ap, mul_ap, eq_F, lt_F, if_false, and_false, false_and, ↓reduceIte, ↓bz_i, ↓bz_l, ↓bz_v, ↓bz_h, ↓bz_c, zs_i, zs_l, zs_v, zs_h, zs_c, zs_n, zn_i, zn_l, zn_v, zn_h, zn_c, zi_i, zi_l, zi_v, zi_h, zi_c, List.append_nil, rr_nk, if_true, if_false, ite_true, ite_false, i01, i10, i00, ite_self, true_or, or_true, or_false, false_or]
    try rw [if_neg (by omega)]
set_option maxRecDepth 40000 in
set_option maxHeartbeats 16000000 in
theorem ct1 : rx 300 500 8 [some (.ref 1000003), some (.ref 0), none, none] [] 51 1342 (hcl L xs) = rx 300 500 18 [some (.ref 1000003), some (.ref 0), some (.ref 51), some (.int (nI 0))] [] 71 15685 (hp none none L xs A00 B00 J00) := by
  simp (disch := omega) only [x_500_8, x_500_11, x_500_12, x_500_15, x_500_16, x_500_17, x_130_0, x_130_1, x_130_4, x_130_5, x_130_8, x_130_10, x_130_13, x_130_14, x_130_17, x_130_19, x_130_22, x_130_23, x_130_26, x_130_28, x_130_31, x_130_32, x_130_34, x_130_36, x_130_39, x_130_40, x_130_42, x_130_44, x_130_47, x_130_48, x_130_51, x_130_53, x_130_56, x_130_57, x_130_59, x_130_61, x_130_64, x_130_65, x_130_67, x_130_69, x_130_72, x_130_73, x_130_76, x_130_78, x_130_81, x_130_82, x_130_84, x_130_86, x_130_89, x_130_90, x_130_93, x_130_95, x_130_98, x_130_99, x_130_102, x_130_104, x_130_107, x_130_108, x_130_111, x_130_113, x_130_116, x_130_117, x_130_119, x_130_121, x_130_124, x_130_125, x_130_126, x_130_128, x_130_131, x_130_132, x_130_133, x_130_135, x_130_138, x_130_139, x_130_141, x_130_143, x_130_146, x_130_147, x_130_149, x_130_151, x_130_154, x_130_155, x_130_157, x_130_159, x_130_162, x_130_163, x_130_166, x_130_168, x_130_169, x_130_170, x_130_171, x_130_174, x_130_175, x_130_176, x_130_177, x_130_178, x_130_181, x_130_182, x_130_183, x_130_184, x_130_185, x_130_188, x_130_189, x_130_191, x_130_192, up_ap, mul_ap, gf_c, gfc_o, pf_c, pfc_o, wi_c, wic_o, List.set_cons_zero, List.set_cons_succ, List.length_cons, List.length_nil, List.getElem?_cons_zero, List.getElem?_cons_succ, m_one, k0, k1, k2, k3, k4, k5, k6, k7, k8, k9, k10, k11, k12, k13, k14, k15, k16, k20, k24, k30, k32, k46, k56, k60, k69, k88, k99, k100, k125, k255, k338, k398, k422, k17, k18, k19, k21, k22, k23, k25, k26, k27, k28, k29, k31, k33, k34, k35, k36, k37, k38, k39, k40, k41, k42, k43, k44, k45, k47, k48, k49, k50, k51, k52, k53, k54, k55, k57, k58, k59, k61, k62, k63, k64, k70, k71, k96, k109, k114, k115, k119, k124, k128, k216, k256, k999, k1296, k4096, k5184, k9999, k12345, k99999, k100000, k999999999, m_2, m_10, m_999, m_9999, m_999999999, q_in, q_cl, q_mul, q_add, q_sub, q_lt, q_le, q_eq, Nat.reduceAdd, Nat.reduceMul, Nat.reduceSub, Nat.reduceLT, Nat.reduceLeDiff, Nat.reduceEqDiff, Nat.add_zero, Nat.zero_add, Nat.mul_zero, q_addm, q_addn, q_subm, q_0m, q_ngm, sky_0, she_0, sky_1, she_1, sky_2, she_2, sky_3, she_3, m_lt, m_gt, m_eq, m_eq', m_one, m_ng, m_mlt, m_meq, q_sub1, q_sub1m, ↓q_irem, mx0, q_div, lt_T, lt_F, le_T, le_F, eq_T, eq_F, not_true_eq_false, not_false_eq_true, true_and, and_true, false_and, and_false, ↓reduceIte, ↓bz_i, ↓bz_l, ↓bz_v, ↓bz_h, ↓bz_c, zs_i, zs_l, zs_v, zs_h, zs_c, zs_n, zn_i, zn_l, zn_v, zn_h, zn_c, zi_i, zi_l, zi_v, zi_h, zi_c, List.append_nil, rr_nk, if_true, if_false, ite_true, ite_false, i01, i10, i00, ite_self, true_or, or_true, or_false, false_or]
  congr 1
  funext j
  by_cases h : 51 ≤ j ∧ j < 71
  · have hc : j = 51 ∨ j = 52 ∨ j = 53 ∨ j = 54 ∨ j = 55 ∨ j = 56 ∨ j = 57 ∨ j = 58 ∨ j = 59 ∨ j = 60 ∨ j = 61 ∨ j = 62 ∨ j = 63 ∨ j = 64 ∨ j = 65 ∨ j = 66 ∨ j = 67 ∨ j = 68 ∨ j = 69 ∨ j = 70 := by omega
    rcases hc with rfl | rfl | rfl | rfl | rfl | rfl | rfl | rfl | rfl | rfl | rfl | rfl | rfl | rfl | rfl | rfl | rfl | rfl | rfl | rfl <;> rfl
  · simp (disch := omega) only [up_ap, mul_ap, eq_F, lt_F, if_false, and_false, false_and, ↓reduceIte, ↓bz_i, ↓bz_l, ↓bz_v, ↓bz_h, ↓bz_c, zs_i, zs_l, zs_v, zs_h, zs_c, zs_n, zn_i, zn_l, zn_v, zn_h, zn_c, zi_i, zi_l, zi_v, zi_h, zi_c, List.append_nil, rr_nk, if_true, if_false, ite_true, ite_false, i01, i10, i00, ite_self, true_or, or_true, or_false, false_or]
    show (if j < 51 then hp none none L xs A00 B00 J00 j else rr_h0 L xs j) = _
    by_cases q : j < 51
    · rw [if_pos q]
    · rw [if_neg q]
      show rr_h0 L xs j = sh none none L xs j (A00 j) (B00 j) (J00 j)
      unfold sh rr_h0
      rw [if_neg (show ¬ j < 71 by omega)]
      by_cases q2 : 1000000 ≤ j ∧ j < 1000004
      · rw [if_pos q2, if_pos q2]
      · rw [if_neg q2, if_neg q2]; rfl
theorem inv0 : Inv 0 none none 71 15685 A00 B00 := by
  have hA : ∀ j k, j ≠ 52 → A00 j k = nI 0 := fun j k hj => by unfold A00; rw [if_neg hj]
  have hB : ∀ j k, j ≠ 1 → B00 j k = nI 0 := fun j k hj => by unfold B00; rw [if_neg hj]
  have hS : ∀ k, k ≠ 8 → k ≠ 3 → k ≠ 4 → k ≠ 5 → A00 52 k = nI 0 := fun k h1 h2 h3 h4 => by
    unfold A00
    rw [if_pos rfl, upd_ne' h4, upd_ne' h3, upd_ne' h2, upd_ne' h1]
  have e0 : (0 : Int32) = nI 0 := rfl
  refine ⟨⟨⟨0, by omega, rfl, hS 0 (by omega) (by omega) (by omega) (by omega), fun f _ _ => ⟨rfl, rfl, rfl⟩⟩, fun f hf => ?_, fun f hf => ?_, ⟨0, by omega, hS 2 (by omega) (by omega) (by omega) (by omega), fun f hf => ?_⟩, fun f hf => ?_, ⟨0, by omega, rfl, hS 1 (by omega) (by omega) (by omega) (by omega), fun k hk => absurd hk (by omega), Or.inl rfl⟩, ⟨rfl, ⟨rfl, 2, by omega, rfl⟩, ⟨rfl, 10, by omega, rfl⟩, rfl, rfl⟩, ⟨fun _ => 0, fun w hw => ⟨rfl, hS (10 + w) (by omega) (by omega) (by omega) (by omega)⟩, (by decide)⟩, fun w hw f hf => ?_, ⟨0, by omega, rfl, hS 6 (by omega) (by omega) (by omega) (by omega), fun k hk => absurd hk (by omega)⟩, ⟨0, by omega, rfl, hS 7 (by omega) (by omega) (by omega) (by omega), fun k hk => absurd hk (by omega)⟩, ⟨0, fun _ => 0, fun _ => 0, by omega, rfl, hS 88 (by omega) (by omega) (by omega) (by omega), fun k hk => absurd hk (by omega), Or.inl rfl⟩, ⟨0, fun _ => 0, fun _ => 0, by omega, rfl, hS 213 (by omega) (by omega) (by omega) (by omega), fun k hk => absurd hk (by omega), Or.inl rfl⟩⟩, ⟨fun k _ => rfl, ⟨0, by omega, rfl, rfl, fun k hk => absurd hk (by omega)⟩, fun k hk => ?_⟩, ⟨⟨0, by omega, rfl, rfl, fun _ => rfl, fun _ => rfl⟩, (fun q hq => by cases hq), (fun f hf => by cases hf)⟩, Or.inl ⟨rfl, rfl, rfl, by omega⟩, rfl, rfl⟩
  · have h := hS (14 + 4 * f) (by omega) (by omega) (by omega) (by omega)
    rw [h, hA _ _ (by omega)]; exact ⟨rfl, 0, by omega, rfl⟩
  · have h := hS (15 + 4 * f) (by omega) (by omega) (by omega) (by omega)
    rw [h, hA _ _ (by omega)]; exact ⟨rfl, 0, by omega, rfl⟩
  · have h := hS (16 + 4 * f) (by omega) (by omega) (by omega) (by omega)
    rw [h, hA _ _ (by omega)]; exact ⟨rfl, 0, by omega, rfl⟩
  · have h := hS (17 + 4 * f) (by omega) (by omega) (by omega) (by omega)
    rw [h, hA _ _ (by omega)]; exact ⟨rfl, by decide, by decide⟩
  · have h := hS (56 + 8 * w + f) (by omega) (by omega) (by omega) (by omega)
    rw [h, hA _ _ (by omega)]; exact ⟨rfl, 0, by omega, rfl⟩
  · rw [hB (43 + 2 * k) 0 (by omega), hB (43 + 2 * k) 1 (by omega), hA 66 k (by omega), hA 67 k (by omega)]
    exact ⟨rfl, Or.inl rfl, ⟨0, by omega, rfl, rfl⟩, fun i hi => by rw [hA _ i (by omega), hA 68 _ (by omega)]⟩
end CT

/-! ===== evening; a day of weather ===== -/
def ZB (n : Nat) (x : DY) : Prop := ∀ f, n ≤ f → f < 8 → x.1 f = 0 ∧ x.2.1 f = 0 ∧ x.2.2.1 f = nI 0
def PB (x : DY) : Prop := ∀ f, f < 8 → -999999999 ≤ (x.2.2.1 f).toInt ∧ (x.2.2.1 f).toInt ≤ 999999999
def srn (n : Nat) (r : Nat → Nat) (x : DY) : DY := (fun f => if f < n then r f else x.1 f, x.2.1, x.2.2.1, x.2.2.2)
section EV0
variable {n z : Nat} {D M K V W : Nat → Nat} {law : Option Nat} {x : DY}
theorem ZB.st (h : ZB n x) : ZB n (dst n z D M K V W law x) := fun f f1 f2 => by
  obtain ⟨a, b, c⟩ := h f f1 f2
  refine ⟨?_, ?_, ?_⟩
  · show (if f < n then 0 else x.1 f) = 0
    rw [if_neg (by omega)]; exact a
  · show (if f < n then _ else x.2.1 f) = 0
    rw [if_neg (by omega)]; exact b
  · show (if f < n then _ else x.2.2.1 f) = nI 0
    rw [if_neg (by omega)]; exact c
theorem PB.st (h : PB x) : PB (dst n z D M K V W law x) := fun f f1 => by
  show -999999999 ≤ (if f < n then hd 999999999 (x.2.2.1 f - dPY n z D M K V W law x f) else x.2.2.1 f).toInt ∧ (if f < n then hd 999999999 (x.2.2.1 f - dPY n z D M K V W law x f) else x.2.2.1 f).toInt ≤ 999999999
  by_cases q : f < n
  · rw [if_pos q]; exact sm_hd (m := 999999999) (b := 999999999) _ (by omega) (by omega)
  · rw [if_neg q]; exact h f f1
theorem ZB.rn {r : Nat → Nat} (h : ZB n x) : ZB n (srn n r x) := fun f f1 f2 => by
  obtain ⟨a, b, c⟩ := h f f1 f2
  exact ⟨by show (if f < n then r f else x.1 f) = 0; rw [if_neg (by omega)]; exact a, b, c⟩
theorem DB.rn {r : Nat → Nat} (h : DB x) (hr : ∀ f, f < 8 → r f ≤ 99) : DB (srn n r x) := ⟨fun f hf => by
  show (if f < n then r f else x.1 f) ≤ 99
  have h1 := h.1 f hf
  have h2 := hr f hf
  split <;> omega, h.2.1, h.2.2⟩
end EV0
section EV
variable {sz us : Nat} {kq fq : Option Nat} {L : Nat} {xs : Nat → Int32} {A B A' B' A0 B0 : rrA} {J : Nat → Nat → Int64} {n nl z : Nat} {W D M K V : Nat → Nat} {law : Option Nat} {x : DY}
theorem RX.keep (h : RX n nl z W D M K V A) (hC : CX n nl z W D M K V A0 B0) (hs : ∀ i, i ≠ 2 → (i < 15 ∨ 46 ≤ i ∨ i % 4 = 2) → A' 52 i = A 52 i) : RX n nl z W D M K V A' := by
  obtain ⟨g1, g2, g3, g4, g5, g6⟩ := h
  have l5 := hC.2.2.2.2.1
  refine ⟨?_, fun i hi => ?_, ?_, fun i hi => ?_, ?_, fun i hi => ?_⟩
  · rw [hs _ (by omega) (by omega)]; exact g1
  · rw [hs _ (by omega) (by omega)]; exact g2 i hi
  · rw [hs _ (by omega) (by omega)]; exact g3
  · rw [hs _ (by omega) (by omega), hs _ (by omega) (by omega)]; exact g4 i hi
  · rw [hs _ (by omega) (by omega)]; exact g5
  · rw [hs _ (by omega) (by omega), hs _ (by omega) (by omega)]; exact g6 i hi
set_option maxRecDepth 20000 in
set_option maxHeartbeats 4000000 in
theorem s171 (hz : 71 ≤ sz) (d : Nat) (hC : CX n nl z W D M K V A0 B0) (hl : ∀ l, law = some l → l < nl) (h : RD n nl z W D M K V law x A) (hb : DB x) : ∃ A', rx (d + 6) 171 0 [some (.ref 51), none, none] [] sz us (hp kq fq L xs A B J) = some (some (.int (nI (pcn (dPY n z D M K V W law x) n))), sz, us, hp kq fq L xs A' B J) ∧ (∀ i, i ≠ 52 → i ≠ 57 → i ≠ 58 → i ≠ 59 → A' i = A i) ∧ (∀ i, i ≠ 2 → (i < 15 ∨ 46 ≤ i ∨ i % 4 = 2) → A' 52 i = A 52 i) ∧ RD n nl z W D M K V law (dst n z D M K V W law x) A' ∧ ∀ i, i < n → A' 59 i = dPY n z D M K V W law x i := by
  obtain ⟨hR, e3, h1, h2, h3, ed⟩ := h
  have n8 := hC.1
  have d6 := hb.2.2
  obtain ⟨A1, a1, g1, g2⟩ := s151 (B := B) (kq := kq) (fq := fq) (L := L) (xs := xs) (J := J) (us := us) hz d hC law hl x.1 x.2.1 (hb.s n8) (OF z D M K V W x.1 x.2.1 law) (fun _ _ => rfl) hR (fun i hi => ⟨h1 i (by omega), h2 i (by omega)⟩)
  have g52 := g1 52 (by omega) (by omega) (by omega)
  have hpc : pcn (A1 59) n = pcn (dPY n z D M K V W law x) n := pcn_cg n g2
  obtain ⟨A2, a2, f1, f2, f3, f4, f5⟩ := lp171 (B := B) (kq := kq) (fq := fq) (L := L) (xs := xs) (J := J) (us := us) hz (d + 3) n8 n 0 A1 (by omega) (by rw [g52]; exact hR.1)
  rw [hpc, show pcn (A1 59) 0 = 0 from rfl] at a2
  have i2 : A2 52 2 = nI x.2.2.2 := by rw [f2 2 (by omega), g52]; exact ed
  have i0 : A2 52 0 = nI n := by rw [f2 0 (by omega), g52]; exact hR.1
  by_cases q : (x.2.2.2 + 1) % 7 = 0
  · obtain ⟨A3, a3, p1, p2, p3⟩ := lp171z (B := B) (kq := kq) (fq := fq) (L := L) (xs := xs) (J := J) (us := us) hz (d + 3) n8 (nI (pcn (dPY n z D M K V W law x) n)) (x.2.2.2 + 1) q (by omega) n 0 (u1 A2 52 (upd (A2 52) 2 (nI (x.2.2.2 + 1)))) (by omega) (by rw [u1_eq, upd_ne' (by omega)]; exact i0) (by rw [u1_eq, upd_eq'])
    have hs : ∀ i, i ≠ 2 → (i < 15 ∨ 46 ≤ i ∨ i % 4 = 2) → A3 52 i = A 52 i := fun i j1 j2 => by rw [p2 i (by omega), u1_eq, upd_ne' j1, f2 i (by omega), g52]
    refine ⟨A3, Eq.trans ?_ a3, fun i j1 j2 j3 j4 => by rw [p1 i j1, u1_ne j1, f1 i j1, g1 i j2 j3 j4], hs, ⟨hR.keep hC hs, by rw [hs 3 (by omega) (by omega)]; exact e3, fun f hf => ?_, fun f hf => ?_, fun f hf => ?_, ?_⟩, fun i hi => by rw [p1 59 (by omega), u1_ne (by omega), f1 59 (by omega)]; exact g2 i hi⟩
    · have a3' := e3
      rw [← g52] at a3'
      simp (disch := omega) only [x_171_0, x_171_1, x_171_2, x_171_5, x_171_6, x_171_7, x_171_10, x_171_11, x_171_12, x_171_13, x_171_15, x_171_16, x_171_19, x_171_20, x_171_21, x_171_24, x_171_25, x_171_26, x_171_29, x_171_30, x_171_31, x_171_34, x_171_35, x_171_38, x_171_39, x_171_40, x_171_41, x_171_42, x_171_43, x_171_44, x_171_45, x_171_46, x_171_47, x_171_50, x_171_51, x_171_54, x_171_55, x_171_56, x_171_57, x_171_59, x_171_61, x_171_64, x_171_67, x_171_68, x_171_69, x_171_70, x_171_71, x_171_72, x_171_73, x_171_76, x_171_77, x_171_78, x_171_79, x_171_82, x_171_83, x_171_86, x_171_87, x_171_88, x_171_89, x_171_90, x_171_93, x_171_96, x_171_99, x_171_100, x_171_103, x_171_104, x_171_105, x_171_106, x_171_107, x_171_108, x_171_109, x_171_110, x_171_112, x_171_113, x_171_116, x_171_117, x_171_118, x_171_121, x_171_122, x_171_125, x_171_126, x_171_127, x_171_129, x_171_130, x_171_133, x_171_134, x_171_135, x_171_136, x_171_137, x_171_140, x_171_143, x_171_146, x_171_147, Hm0, Hm1, hz, e3, a1, a2, i2, pcn, k0, k1, k2, k3, k4, k5, k6, k7, k8, k9, k10, k11, k12, k13, k14, k15, k16, k20, k24, k30, k32, k46, k56, k60, k69, k88, k99, k100, k125, k255, k338, k398, k422, k17, k18, k19, k21, k22, k23, k25, k26, k27, k28, k29, k31, k33, k34, k35, k36, k37, k38, k39, k40, k41, k42, k43, k44, k45, k47, k48, k49, k50, k51, k52, k53, k54, k55, k57, k58, k59, k61, k62, k63, k64, k70, k71, k96, k109, k114, k115, k119, k124, k128, k216, k256, k999, k1296, k4096, k5184, k9999, k12345, k99999, k100000, k999999999, m_2, m_10, m_999, m_9999, m_999999999, q_in, q_cl, q_mul, q_add, q_sub, q_lt, q_le, q_eq, Nat.reduceAdd, Nat.reduceMul, Nat.reduceSub, Nat.reduceLT, Nat.reduceLeDiff, Nat.reduceEqDiff, Nat.add_zero, Nat.zero_add, Nat.mul_zero, q_addm, q_addn, q_subm, q_0m, q_ngm, sky_0, she_0, sky_1, she_1, sky_2, she_2, sky_3, she_3, m_lt, m_gt, m_eq, m_eq', m_one, m_ng, m_mlt, m_meq, q_sub1, q_sub1m, ↓q_irem, mx0, q_div, lt_T, lt_F, le_T, le_F, eq_T, eq_F, not_true_eq_false, not_false_eq_true, true_and, and_true, false_and, and_false, u1_eq, u1_ne, u2_eq, u2_ne, uJ_eq, uJ_ne, upd_eq', upd_ne', ↓reduceIte, ↓bz_i, ↓bz_l, ↓bz_v, ↓bz_h, ↓bz_c, zs_i, zs_l, zs_v, zs_h, zs_c, zs_n, zn_i, zn_l, zn_v, zn_h, zn_c, zi_i, zi_l, zi_v, zi_h, zi_c, List.append_nil, rr_nk, if_true, if_false, ite_true, ite_false, i01, i10, i00, ite_self, true_or, or_true, or_false, false_or]
    · rw [p2 _ (by omega), u1_eq, upd_ne' (by omega), f3 f hf, g52]
      show _ = nI (if f < n then 0 else x.1 f)
      by_cases q2 : f < n
      · rw [if_pos (by omega), if_pos q2]
      · rw [if_neg (by omega), if_neg q2]; exact h1 f hf
    · rw [p3 f hf, u1_eq, upd_ne' (by omega), f4 f hf, g52]
      show _ = nI (if f < n then (if (x.2.2.2 + 1) % 7 = 0 then 0 else x.2.1 f + x.1 f) else x.2.1 f)
      by_cases q2 : f < n
      · rw [if_pos (by omega), if_pos q2, if_pos q]
      · rw [if_neg (by omega), if_neg (by omega), if_neg q2]; exact h2 f hf
    · rw [p2 _ (by omega), u1_eq, upd_ne' (by omega), f5 f hf, g52]
      show _ = if f < n then hd 999999999 (x.2.2.1 f - dPY n z D M K V W law x f) else x.2.2.1 f
      by_cases q2 : f < n
      · rw [if_pos (by omega), if_pos q2, g2 f q2, h3 f hf]; rfl
      · rw [if_neg (by omega), if_neg q2]; exact h3 f hf
    · rw [p2 2 (by omega), u1_eq, upd_eq']; rfl
  · have hs : ∀ i, i ≠ 2 → (i < 15 ∨ 46 ≤ i ∨ i % 4 = 2) → u1 A2 52 (upd (A2 52) 2 (nI (x.2.2.2 + 1))) 52 i = A 52 i := fun i j1 j2 => by rw [u1_eq, upd_ne' j1, f2 i (by omega), g52]
    refine ⟨u1 A2 52 (upd (A2 52) 2 (nI (x.2.2.2 + 1))), ?_, fun i j1 j2 j3 j4 => by rw [u1_ne j1, f1 i j1, g1 i j2 j3 j4], hs, ⟨hR.keep hC hs, by rw [hs 3 (by omega) (by omega)]; exact e3, fun f hf => ?_, fun f hf => ?_, fun f hf => ?_, ?_⟩, fun i hi => by rw [u1_ne (by omega), f1 59 (by omega)]; exact g2 i hi⟩
    · have a3' := e3
      rw [← g52] at a3'
      by_cases n0 : n = 0
      · subst n0
        simp (disch := omega) only [x_171_0, x_171_1, x_171_2, x_171_5, x_171_6, x_171_7, x_171_10, x_171_11, x_171_12, x_171_13, x_171_15, x_171_16, x_171_19, x_171_20, x_171_21, x_171_24, x_171_25, x_171_26, x_171_29, x_171_30, x_171_31, x_171_34, x_171_35, x_171_38, x_171_39, x_171_40, x_171_41, x_171_42, x_171_43, x_171_44, x_171_45, x_171_46, x_171_47, x_171_50, x_171_51, x_171_54, x_171_55, x_171_56, x_171_57, x_171_59, x_171_61, x_171_64, x_171_67, x_171_68, x_171_69, x_171_70, x_171_71, x_171_72, x_171_73, x_171_76, x_171_77, x_171_78, x_171_79, x_171_82, x_171_83, x_171_86, x_171_87, x_171_88, x_171_89, x_171_90, x_171_93, x_171_96, x_171_99, x_171_100, x_171_103, x_171_104, x_171_105, x_171_106, x_171_107, x_171_108, x_171_109, x_171_110, x_171_111, x_171_112, x_171_113, x_171_116, x_171_117, x_171_118, x_171_121, x_171_122, x_171_125, x_171_126, x_171_127, x_171_129, x_171_130, x_171_133, x_171_134, x_171_135, x_171_136, x_171_137, x_171_140, x_171_143, x_171_146, x_171_147, Hm0, Hm1, hz, e3, a1, a2, i2, i0, pcn, q, k0, k1, k2, k3, k4, k5, k6, k7, k8, k9, k10, k11, k12, k13, k14, k15, k16, k20, k24, k30, k32, k46, k56, k60, k69, k88, k99, k100, k125, k255, k338, k398, k422, k17, k18, k19, k21, k22, k23, k25, k26, k27, k28, k29, k31, k33, k34, k35, k36, k37, k38, k39, k40, k41, k42, k43, k44, k45, k47, k48, k49, k50, k51, k52, k53, k54, k55, k57, k58, k59, k61, k62, k63, k64, k70, k71, k96, k109, k114, k115, k119, k124, k128, k216, k256, k999, k1296, k4096, k5184, k9999, k12345, k99999, k100000, k999999999, m_2, m_10, m_999, m_9999, m_999999999, q_in, q_cl, q_mul, q_add, q_sub, q_lt, q_le, q_eq, Nat.reduceAdd, Nat.reduceMul, Nat.reduceSub, Nat.reduceLT, Nat.reduceLeDiff, Nat.reduceEqDiff, Nat.add_zero, Nat.zero_add, Nat.mul_zero, q_addm, q_addn, q_subm, q_0m, q_ngm, sky_0, she_0, sky_1, she_1, sky_2, she_2, sky_3, she_3, m_lt, m_gt, m_eq, m_eq', m_one, m_ng, m_mlt, m_meq, q_sub1, q_sub1m, ↓q_irem, mx0, q_div, lt_T, lt_F, le_T, le_F, eq_T, eq_F, not_true_eq_false, not_false_eq_true, true_and, and_true, false_and, and_false, u1_eq, u1_ne, u2_eq, u2_ne, uJ_eq, uJ_ne, upd_eq', upd_ne', ↓reduceIte, ↓bz_i, ↓bz_l, ↓bz_v, ↓bz_h, ↓bz_c, zs_i, zs_l, zs_v, zs_h, zs_c, zs_n, zn_i, zn_l, zn_v, zn_h, zn_c, zi_i, zi_l, zi_v, zi_h, zi_c, List.append_nil, rr_nk, if_true, if_false, ite_true, ite_false, i01, i10, i00, ite_self, true_or, or_true, or_false, false_or]
      · simp (disch := omega) only [x_171_0, x_171_1, x_171_2, x_171_5, x_171_6, x_171_7, x_171_10, x_171_11, x_171_12, x_171_13, x_171_15, x_171_16, x_171_19, x_171_20, x_171_21, x_171_24, x_171_25, x_171_26, x_171_29, x_171_30, x_171_31, x_171_34, x_171_35, x_171_38, x_171_39, x_171_40, x_171_41, x_171_42, x_171_43, x_171_44, x_171_45, x_171_46, x_171_47, x_171_50, x_171_51, x_171_54, x_171_55, x_171_56, x_171_57, x_171_59, x_171_61, x_171_64, x_171_67, x_171_68, x_171_69, x_171_70, x_171_71, x_171_72, x_171_73, x_171_76, x_171_77, x_171_78, x_171_79, x_171_82, x_171_83, x_171_86, x_171_87, x_171_88, x_171_89, x_171_90, x_171_93, x_171_96, x_171_99, x_171_100, x_171_103, x_171_104, x_171_105, x_171_106, x_171_107, x_171_108, x_171_109, x_171_110, x_171_111, x_171_112, x_171_113, x_171_116, x_171_117, x_171_118, x_171_121, x_171_122, x_171_125, x_171_126, x_171_127, x_171_129, x_171_130, x_171_133, x_171_134, x_171_135, x_171_136, x_171_137, x_171_140, x_171_143, x_171_146, x_171_147, Hm0, Hm1, hz, e3, a1, a2, i2, i0, pcn, q, k0, k1, k2, k3, k4, k5, k6, k7, k8, k9, k10, k11, k12, k13, k14, k15, k16, k20, k24, k30, k32, k46, k56, k60, k69, k88, k99, k100, k125, k255, k338, k398, k422, k17, k18, k19, k21, k22, k23, k25, k26, k27, k28, k29, k31, k33, k34, k35, k36, k37, k38, k39, k40, k41, k42, k43, k44, k45, k47, k48, k49, k50, k51, k52, k53, k54, k55, k57, k58, k59, k61, k62, k63, k64, k70, k71, k96, k109, k114, k115, k119, k124, k128, k216, k256, k999, k1296, k4096, k5184, k9999, k12345, k99999, k100000, k999999999, m_2, m_10, m_999, m_9999, m_999999999, q_in, q_cl, q_mul, q_add, q_sub, q_lt, q_le, q_eq, Nat.reduceAdd, Nat.reduceMul, Nat.reduceSub, Nat.reduceLT, Nat.reduceLeDiff, Nat.reduceEqDiff, Nat.add_zero, Nat.zero_add, Nat.mul_zero, q_addm, q_addn, q_subm, q_0m, q_ngm, sky_0, she_0, sky_1, she_1, sky_2, she_2, sky_3, she_3, m_lt, m_gt, m_eq, m_eq', m_one, m_ng, m_mlt, m_meq, q_sub1, q_sub1m, ↓q_irem, mx0, q_div, lt_T, lt_F, le_T, le_F, eq_T, eq_F, not_true_eq_false, not_false_eq_true, true_and, and_true, false_and, and_false, u1_eq, u1_ne, u2_eq, u2_ne, uJ_eq, uJ_ne, upd_eq', upd_ne', ↓reduceIte, ↓bz_i, ↓bz_l, ↓bz_v, ↓bz_h, ↓bz_c, zs_i, zs_l, zs_v, zs_h, zs_c, zs_n, zn_i, zn_l, zn_v, zn_h, zn_c, zi_i, zi_l, zi_v, zi_h, zi_c, List.append_nil, rr_nk, if_true, if_false, ite_true, ite_false, i01, i10, i00, ite_self, true_or, or_true, or_false, false_or]
    · rw [u1_eq, upd_ne' (by omega), f3 f hf, g52]
      show _ = nI (if f < n then 0 else x.1 f)
      by_cases q2 : f < n
      · rw [if_pos (by omega), if_pos q2]
      · rw [if_neg (by omega), if_neg q2]; exact h1 f hf
    · rw [u1_eq, upd_ne' (by omega), f4 f hf, g52]
      show _ = nI (if f < n then (if (x.2.2.2 + 1) % 7 = 0 then 0 else x.2.1 f + x.1 f) else x.2.1 f)
      by_cases q2 : f < n
      · rw [if_pos (by omega), if_pos q2, if_neg q, h1 f hf, h2 f hf, nI_add]
      · rw [if_neg (by omega), if_neg q2]; exact h2 f hf
    · rw [u1_eq, upd_ne' (by omega), f5 f hf, g52]
      show _ = if f < n then hd 999999999 (x.2.2.1 f - dPY n z D M K V W law x f) else x.2.2.1 f
      by_cases q2 : f < n
      · rw [if_pos (by omega), if_pos q2, g2 f q2, h3 f hf]; rfl
      · rw [if_neg (by omega), if_neg q2]; exact h3 f hf
    · rw [u1_eq, upd_eq']; rfl
/-- the same day on both sides -/
theorem SR.day (h : SR 1 A B (A 52)) (hn : A 52 0 = nI n) (hC : CD n nl z W D M K V law x A' B') (hR : RD n nl z W D M K V law x A') (hb : DB x) (hd9 : x.2.2.2 ≤ 9999) (hz0 : ZB n x) (hp : PB x) (a : ∀ i, i = 9 ∨ i = 11 ∨ i = 12 ∨ i = 13 ∨ i = 14 ∨ i = 16 ∨ i = 18 ∨ i = 2 ∨ i = 8 ∨ i = 20 ∨ i = 23 → A' i = A i) (b1 : ∀ i, i ≠ 12 → B' 1 i = B 1 i) (b : ∀ i, i = 7 ∨ i = 15 ∨ i = 17 ∨ i = 19 ∨ i = 22 → B' i = B i) (hs : ∀ i, i ≠ 2 → (i < 15 ∨ 46 ≤ i ∨ i % 4 = 2) → A' 52 i = A 52 i) : SR 1 A' B' (A' 52) := by
  obtain ⟨c1, c2, c3, c4, c5, c6, c7⟩ := hC
  obtain ⟨r1, r2, r3, r4, r5, r6⟩ := hR
  exact h.fld (R := x.1) (S := x.2.1) (P := x.2.2.1) hn c1.1 hd9 (fun i hi => a i (by omega)) b1 b c7 r6 hs (fun f hf => ⟨c4 f hf, by rw [show 15 + 4 * f = 14 + 4 * f + 1 by omega]; exact r3 f hf, hb.1 f hf⟩) (fun f hf => ⟨c5 f hf, by rw [show 16 + 4 * f = 14 + 4 * f + 2 by omega]; exact r4 f hf, hb.2.1 f hf⟩) (fun f hf => ⟨c6 f hf, by rw [show 17 + 4 * f = 14 + 4 * f + 3 by omega]; exact r5 f hf, hp f hf⟩) hz0
/-- the first day's numbers -/
theorem VW.dy {zc dy : Nat} {Kc Vc R S : Nat → Nat} (h : VW n nl z zc dy W D M K V Kc Vc R S law A B) (hS : SR 1 A B (A 52)) : CD n nl z W D M K V law (R, S, A 5, dy) A B ∧ RD n nl z W D M K V law (R, S, A 5, dy) A ∧ DB (R, S, A 5, dy) ∧ ZB n (R, S, A 5, dy) ∧ PB (R, S, A 5, dy) := by
  obtain ⟨hC, hR, e1, e2, e3, e4, e5, ⟨e6, e7, e8⟩, e9, -⟩ := h
  have h0 := sr_0 hS hR.1 hC.1
  refine ⟨⟨hC, e1, e3, fun f hf => (e4 f hf).1, fun f hf => (e5 f hf).1, fun _ _ => rfl, e7⟩, ⟨hR, e2, fun f hf => (e4 f hf).2.1, fun f hf => (e5 f hf).2.1, fun f hf => (e9 f hf).symm, e8⟩, ⟨fun f hf => (e4 f hf).2.2, fun f hf => (e5 f hf).2.2, by show dy ≤ 20000; omega⟩, fun f f1 f2 => ?_, fun f hf => sr_P hS f hf⟩
  obtain ⟨z1, z2, z3⟩ := h0 f f1 f2
  have e4f := e4 f f2
  have e5f := e5 f f2
  exact ⟨show R f = 0 from (nI_eq (by omega) (by omega)).mp (e4f.1.symm.trans z1), show S f = 0 from (nI_eq (by omega) (by omega)).mp (e5f.1.symm.trans z2), z3⟩
theorem CD.cg (h : CD n nl z W D M K V law x A B) (hA : ∀ i, i = 2 ∨ i = 3 ∨ i = 4 ∨ i = 5 ∨ i = 8 ∨ i = 20 → A' i = A i) (hB : ∀ i, i = 1 ∨ i = 7 ∨ i = 19 → B' i = B i) : CD n nl z W D M K V law x A' B' := by
  obtain ⟨hC, h⟩ := h
  refine ⟨hC.cg (hA 2 (by omega)) (hA 8 (by omega)) (hA 20 (by omega)) (by rw [hB 1 (by omega)]) (by rw [hB 7 (by omega)]) (by rw [hB 19 (by omega)]), ?_⟩
  rw [hB 1 (by omega), hA 3 (by omega), hA 4 (by omega), hA 5 (by omega)]
  exact h
theorem RD.cg (h : RD n nl z W D M K V law x A) (hA : A' 52 = A 52) : RD n nl z W D M K V law x A' := by
  obtain ⟨hR, h⟩ := h
  refine ⟨hR.cg hA, ?_⟩
  rw [hA]
  exact h
end EV
section OPS15
variable {c d sz us : Nat} {kq fq : Option Nat} {L : Nat} {xs : Nat → Int32} {A B : Nat → Nat → Int32} {J : Nat → Nat → Int64}
set_option maxRecDepth 20000 in
set_option maxHeartbeats 2000000 in
theorem op_evening (hI : Inv c kq fq sz us A B) : Op c (d + 9) 58 [some (.ref 0)] 170 [some (.ref 51)] sz us kq fq L xs A B J := by
  obtain ⟨n, nl, z, zc, dy, W, D, M, K, V, Kc, Vc, R, S, law, hV⟩ := hI.1.vw
  have hz := hI.2.2.2.z
  obtain ⟨y1, y2, y3⟩ := hV.2.2.2.2.2.2.2.1
  by_cases q : dy = 9999
  · subst q
    (refine ⟨_, _, _, _, (by (simp (disch := omega) only [x_58_0, x_58_1, x_58_4, x_58_7, x_58_10, x_58_13, x_58_14, x_58_15, x_58_18, x_58_19, x_58_20, x_58_23, x_58_26, x_10_0, x_10_1, x_10_2, x_10_5, x_10_6, x_10_7, x_10_10, x_10_11, x_10_14, x_10_15, x_11_0, x_11_1, x_11_2, x_11_5, x_11_8, x_11_9, x_11_10, x_12_0, x_12_1, x_12_2, x_12_4, x_12_7, x_12_10, x_12_11, x_12_14, x_12_15, x_12_16, x_12_17, x_12_18, x_12_19, x_12_20, Hc0, Hc1, Hc2, Hc3, Hc4, y2, y3, k0, k1, k2, k3, k4, k5, k6, k7, k8, k9, k10, k11, k12, k13, k14, k15, k16, k20, k24, k30, k32, k46, k56, k60, k69, k88, k99, k100, k125, k255, k338, k398, k422, k17, k18, k19, k21, k22, k23, k25, k26, k27, k28, k29, k31, k33, k34, k35, k36, k37, k38, k39, k40, k41, k42, k43, k44, k45, k47, k48, k49, k50, k51, k52, k53, k54, k55, k57, k58, k59, k61, k62, k63, k64, k70, k71, k96, k109, k114, k115, k119, k124, k128, k216, k256, k999, k1296, k4096, k5184, k9999, k12345, k99999, k100000, k999999999, m_2, m_10, m_999, m_9999, m_999999999, q_in, q_cl, q_mul, q_add, q_sub, q_lt, q_le, q_eq, Nat.reduceAdd, Nat.reduceMul, Nat.reduceSub, Nat.reduceLT, Nat.reduceLeDiff, Nat.reduceEqDiff, Nat.add_zero, Nat.zero_add, Nat.mul_zero, q_addm, q_addn, q_subm, q_0m, q_ngm, sky_0, she_0, sky_1, she_1, sky_2, she_2, sky_3, she_3, m_lt, m_gt, m_eq, m_eq', m_one, m_ng, m_mlt, m_meq, q_sub1, q_sub1m, ↓q_irem, mx0, q_div, lt_T, lt_F, le_T, le_F, eq_T, eq_F, not_true_eq_false, not_false_eq_true, true_and, and_true, false_and, and_false, u1_eq, u1_ne, u2_eq, u2_ne, uJ_eq, uJ_ne, upd_eq', upd_ne', ↓reduceIte, ↓bz_i, ↓bz_l, ↓bz_v, ↓bz_h, ↓bz_c, zs_i, zs_l, zs_v, zs_h, zs_c, zs_n, zn_i, zn_l, zn_v, zn_h, zn_c, zi_i, zi_l, zi_v, zi_h, zi_c, List.append_nil, rr_nk, if_true, if_false, ite_true, ite_false, i01, i10, i00, ite_self, true_or, or_true, or_false, false_or]); rfl), ?_⟩; refine ⟨_, _, _, (by (simp (disch := omega) only [x_170_0, x_170_1, x_170_4, x_170_5, x_170_6, x_170_9, x_170_12, x_170_13, x_170_14, x_170_17, x_170_20, x_170_21, x_170_24, x_132_0, x_132_1, x_132_2, x_132_5, x_132_6, x_132_7, x_132_10, x_132_11, x_132_14, x_132_15, x_133_0, x_133_1, x_133_4, x_133_5, x_133_6, x_133_7, x_133_8, x_133_9, x_133_10, x_133_12, x_133_13, x_133_14, Hm0, Hm1, y2, y3, k0, k1, k2, k3, k4, k5, k6, k7, k8, k9, k10, k11, k12, k13, k14, k15, k16, k20, k24, k30, k32, k46, k56, k60, k69, k88, k99, k100, k125, k255, k338, k398, k422, k17, k18, k19, k21, k22, k23, k25, k26, k27, k28, k29, k31, k33, k34, k35, k36, k37, k38, k39, k40, k41, k42, k43, k44, k45, k47, k48, k49, k50, k51, k52, k53, k54, k55, k57, k58, k59, k61, k62, k63, k64, k70, k71, k96, k109, k114, k115, k119, k124, k128, k216, k256, k999, k1296, k4096, k5184, k9999, k12345, k99999, k100000, k999999999, m_2, m_10, m_999, m_9999, m_999999999, q_in, q_cl, q_mul, q_add, q_sub, q_lt, q_le, q_eq, Nat.reduceAdd, Nat.reduceMul, Nat.reduceSub, Nat.reduceLT, Nat.reduceLeDiff, Nat.reduceEqDiff, Nat.add_zero, Nat.zero_add, Nat.mul_zero, q_addm, q_addn, q_subm, q_0m, q_ngm, sky_0, she_0, sky_1, she_1, sky_2, she_2, sky_3, she_3, m_lt, m_gt, m_eq, m_eq', m_one, m_ng, m_mlt, m_meq, q_sub1, q_sub1m, ↓q_irem, mx0, q_div, lt_T, lt_F, le_T, le_F, eq_T, eq_F, not_true_eq_false, not_false_eq_true, true_and, and_true, false_and, and_false, u1_eq, u1_ne, u2_eq, u2_ne, uJ_eq, uJ_ne, upd_eq', upd_ne', ↓reduceIte, ↓bz_i, ↓bz_l, ↓bz_v, ↓bz_h, ↓bz_c, zs_i, zs_l, zs_v, zs_h, zs_c, zs_n, zn_i, zn_l, zn_v, zn_h, zn_c, zi_i, zi_l, zi_v, zi_h, zi_c, List.append_nil, rr_nk, if_true, if_false, ite_true, ite_false, i01, i10, i00, ite_self, true_or, or_true, or_false, false_or]); rfl), ?_⟩)
    (first | exact hI.err (k := 1) rfl rfl rfl | exact hI.err (k := 2) rfl rfl rfl | exact hI.err (k := 3) rfl rfl rfl | exact hI.err (k := 4) rfl rfl rfl | exact hI.err (k := 5) rfl rfl rfl)
  obtain ⟨hC, hR, hb, hz0, hpb⟩ := hV.dy hI.1
  obtain ⟨A1, a1, h1, hC1⟩ := s59 (kq := kq) (fq := fq) (L := L) (xs := xs) (J := J) (us := us) hz (d + 4) hC hb
  obtain ⟨A2, a2, h2, h3, hR2, -⟩ := s171 (B := u2 B 1 12 (nI (dy + 1))) (kq := kq) (fq := fq) (L := L) (xs := xs) (J := J) (us := us) hz (d + 2) hV.1 hV.2.2.2.2.1 (hR.cg (A' := A1) (h1 52 (by omega) (by omega) (by omega) (by omega) (by omega))) hb
  have y3' : A1 52 2 = nI dy := by rw [h1 52 (by omega) (by omega) (by omega) (by omega) (by omega)]; exact y3
  (refine ⟨_, _, _, _, (by (simp (disch := omega) only [x_58_0, x_58_1, x_58_4, x_58_7, x_58_10, x_58_13, x_58_14, x_58_15, x_58_18, x_58_19, x_58_20, x_58_23, x_58_26, x_10_0, x_10_1, x_10_2, x_10_5, x_10_6, x_10_7, x_10_10, x_10_11, x_10_14, x_10_15, x_11_0, x_11_1, x_11_2, x_11_5, x_11_8, x_11_9, x_11_10, x_12_0, x_12_1, x_12_2, x_12_4, x_12_7, x_12_10, x_12_11, x_12_14, x_12_15, x_12_16, x_12_17, x_12_18, x_12_19, x_12_20, Hc0, Hc1, Hc2, Hc3, Hc4, y2, y3', a1, a2, k0, k1, k2, k3, k4, k5, k6, k7, k8, k9, k10, k11, k12, k13, k14, k15, k16, k20, k24, k30, k32, k46, k56, k60, k69, k88, k99, k100, k125, k255, k338, k398, k422, k17, k18, k19, k21, k22, k23, k25, k26, k27, k28, k29, k31, k33, k34, k35, k36, k37, k38, k39, k40, k41, k42, k43, k44, k45, k47, k48, k49, k50, k51, k52, k53, k54, k55, k57, k58, k59, k61, k62, k63, k64, k70, k71, k96, k109, k114, k115, k119, k124, k128, k216, k256, k999, k1296, k4096, k5184, k9999, k12345, k99999, k100000, k999999999, m_2, m_10, m_999, m_9999, m_999999999, q_in, q_cl, q_mul, q_add, q_sub, q_lt, q_le, q_eq, Nat.reduceAdd, Nat.reduceMul, Nat.reduceSub, Nat.reduceLT, Nat.reduceLeDiff, Nat.reduceEqDiff, Nat.add_zero, Nat.zero_add, Nat.mul_zero, q_addm, q_addn, q_subm, q_0m, q_ngm, sky_0, she_0, sky_1, she_1, sky_2, she_2, sky_3, she_3, m_lt, m_gt, m_eq, m_eq', m_one, m_ng, m_mlt, m_meq, q_sub1, q_sub1m, ↓q_irem, mx0, q_div, lt_T, lt_F, le_T, le_F, eq_T, eq_F, not_true_eq_false, not_false_eq_true, true_and, and_true, false_and, and_false, u1_eq, u1_ne, u2_eq, u2_ne, uJ_eq, uJ_ne, upd_eq', upd_ne', ↓reduceIte, ↓bz_i, ↓bz_l, ↓bz_v, ↓bz_h, ↓bz_c, zs_i, zs_l, zs_v, zs_h, zs_c, zs_n, zn_i, zn_l, zn_v, zn_h, zn_c, zi_i, zi_l, zi_v, zi_h, zi_c, List.append_nil, rr_nk, if_true, if_false, ite_true, ite_false, i01, i10, i00, ite_self, true_or, or_true, or_false, false_or]); rfl), ?_⟩; refine ⟨_, _, _, (by (simp (disch := omega) only [x_170_0, x_170_1, x_170_4, x_170_5, x_170_6, x_170_9, x_170_12, x_170_13, x_170_14, x_170_17, x_170_20, x_170_21, x_170_24, x_132_0, x_132_1, x_132_2, x_132_5, x_132_6, x_132_7, x_132_10, x_132_11, x_132_14, x_132_15, x_133_0, x_133_1, x_133_4, x_133_5, x_133_6, x_133_7, x_133_8, x_133_9, x_133_10, x_133_12, x_133_13, x_133_14, Hm0, Hm1, y2, y3', a1, a2, k0, k1, k2, k3, k4, k5, k6, k7, k8, k9, k10, k11, k12, k13, k14, k15, k16, k20, k24, k30, k32, k46, k56, k60, k69, k88, k99, k100, k125, k255, k338, k398, k422, k17, k18, k19, k21, k22, k23, k25, k26, k27, k28, k29, k31, k33, k34, k35, k36, k37, k38, k39, k40, k41, k42, k43, k44, k45, k47, k48, k49, k50, k51, k52, k53, k54, k55, k57, k58, k59, k61, k62, k63, k64, k70, k71, k96, k109, k114, k115, k119, k124, k128, k216, k256, k999, k1296, k4096, k5184, k9999, k12345, k99999, k100000, k999999999, m_2, m_10, m_999, m_9999, m_999999999, q_in, q_cl, q_mul, q_add, q_sub, q_lt, q_le, q_eq, Nat.reduceAdd, Nat.reduceMul, Nat.reduceSub, Nat.reduceLT, Nat.reduceLeDiff, Nat.reduceEqDiff, Nat.add_zero, Nat.zero_add, Nat.mul_zero, q_addm, q_addn, q_subm, q_0m, q_ngm, sky_0, she_0, sky_1, she_1, sky_2, she_2, sky_3, she_3, m_lt, m_gt, m_eq, m_eq', m_one, m_ng, m_mlt, m_meq, q_sub1, q_sub1m, ↓q_irem, mx0, q_div, lt_T, lt_F, le_T, le_F, eq_T, eq_F, not_true_eq_false, not_false_eq_true, true_and, and_true, false_and, and_false, u1_eq, u1_ne, u2_eq, u2_ne, uJ_eq, uJ_ne, upd_eq', upd_ne', ↓reduceIte, ↓bz_i, ↓bz_l, ↓bz_v, ↓bz_h, ↓bz_c, zs_i, zs_l, zs_v, zs_h, zs_c, zs_n, zn_i, zn_l, zn_v, zn_h, zn_c, zi_i, zi_l, zi_v, zi_h, zi_c, List.append_nil, rr_nk, if_true, if_false, ite_true, ite_false, i01, i10, i00, ite_self, true_or, or_true, or_false, false_or]); rfl), ?_⟩)
  have hC2 : CD n nl z W D M K V law (dst n z D M K V W law (R, S, A 5, dy)) A2 (u2 B 1 12 (nI (dy + 1))) := hC1.cg (fun i hi => h2 i (by omega) (by omega) (by omega) (by omega)) (fun _ _ => rfl)
  have hS := hI.1.day (A' := A2) (B' := u2 B 1 12 (nI (dy + 1))) hV.2.1.1 hC2 hR2 (hb.st (by show dy < 20000; omega) (fun f f1 f2 => (hz0 f f1 f2).2.1)) (by show dy + 1 ≤ 9999; omega) hz0.st hpb.st (fun i hi => by rw [h2 i (by omega) (by omega) (by omega) (by omega), h1 i (by omega) (by omega) (by omega) (by omega) (by omega)]) (fun i hi => by rw [u2_eq, upd_ne' hi]) (fun i hi => u2_ne (by omega)) (fun i j1 j2 => by rw [h3 i j1 j2, h1 52 (by omega) (by omega) (by omega) (by omega) (by omega)])
  have hI1 : Inv c kq fq sz us (fun i => if i = 57 ∨ i = 58 ∨ i = 59 then A i else A2 i) (u2 B 1 12 (nI (dy + 1))) := by
    refine hI.now ?_ (fun i j1 j2 => ?_) (fun i j1 => u2_ne (by omega))
    · exact hS.congr (fun i j1 j2 => if_neg (by omega)) (fun _ _ _ => rfl) (if_neg (by omega))
    · show (if i = 57 ∨ i = 58 ∨ i = 59 then A i else A2 i) = A i
      by_cases e : i = 57 ∨ i = 58 ∨ i = 59
      · rw [if_pos e]
      · rw [if_neg e, h2 i j2 (by omega) (by omega) (by omega), h1 i (by omega) (by omega) (by omega) (by omega) (by omega)]
  exact hI1.same (by intros; rw [if_neg (by omega)]) (by intros; rfl) rfl rfl
end OPS15

/-! ===== a call that may make cells, with an int or a long as its answer ===== -/
def OpI (c d k : Nat) (X : List (Option Value)) (m : Nat) (Y : List (Option Value)) (sz us : Nat) (kq fq : Option Nat) (L : Nat) (xs : Nat → Int32) (A B : Nat → Nat → Int32) (J : Nat → Nat → Int64) : Prop :=
    ∃ (v : Int32) (kq1 fq1 : Option Nat) (sz1 us1 : Nat) (A1 B1 : rrA) (J1 : Nat → Nat → Int64), rx d k 0 X [] sz us (hp kq fq L xs A B J) = some (some (.int v), sz1, us1, hp kq1 fq1 L xs A1 B1 J1) ∧
    ∃ (A2 B2 : rrA) (J2 : Nat → Nat → Int64), rx d m 0 Y [] sz1 us1 (hp kq1 fq1 L xs A1 B1 J1) = some (some (.int v), sz1, us1, hp kq1 fq1 L xs A2 B2 J2) ∧ Inv (c + 1) kq1 fq1 sz1 us1 A2 B2
def OpJ (c d k : Nat) (X : List (Option Value)) (m : Nat) (Y : List (Option Value)) (sz us : Nat) (kq fq : Option Nat) (L : Nat) (xs : Nat → Int32) (A B : Nat → Nat → Int32) (J : Nat → Nat → Int64) : Prop :=
    ∃ (v : Int64) (kq1 fq1 : Option Nat) (sz1 us1 : Nat) (A1 B1 : rrA) (J1 : Nat → Nat → Int64), rx d k 0 X [] sz us (hp kq fq L xs A B J) = some (some (.long v), sz1, us1, hp kq1 fq1 L xs A1 B1 J1) ∧
    ∃ (A2 B2 : rrA) (J2 : Nat → Nat → Int64), rx d m 0 Y [] sz1 us1 (hp kq1 fq1 L xs A1 B1 J1) = some (some (.long v), sz1, us1, hp kq1 fq1 L xs A2 B2 J2) ∧ Inv (c + 1) kq1 fq1 sz1 us1 A2 B2
theorem Op.i {c d k m sz us : Nat} {X Y : List (Option Value)} {kq fq : Option Nat} {L : Nat} {xs : Nat → Int32} {A B : Nat → Nat → Int32} {J : Nat → Nat → Int64} (h : Op c d k X m Y sz us kq fq L xs A B J) : OpI c d k X m Y sz us kq fq L xs A B J := by
  obtain ⟨v, A1, B1, J1, h1, A2, B2, J2, h2, h3⟩ := h
  exact ⟨_, _, _, _, _, _, _, _, h1, _, _, _, h2, h3.up⟩
/-! ===== the three calls ===== -/
theorem u2_self {B : rrA} {i k : Nat} : u2 B i k (B i k) = B := by
  funext j
  unfold u2
  by_cases h : j = i
  · subst h; rw [if_pos rfl]; exact upd_sf
  · rw [if_neg h]
section OPSF
variable {c d sz us : Nat} {kq fq : Option Nat} {L : Nat} {xs : Nat → Int32} {A B : Nat → Nat → Int32} {J : Nat → Nat → Int64}
set_option maxRecDepth 20000 in
set_option maxHeartbeats 4000000 in
theorem looked {n nl z zc dy : Nat} {W D M K V Kc Vc R S C : Nat → Nat} {SK : Nat → Nat → Nat} {law : Option Nat} {fld N : Nat} (hI : Inv c kq fq sz us A B) (hcc : c ≤ 100000) (hV : VW n nl z zc dy W D M K V Kc Vc R S law A B) (hC : ∀ w, w < 4 → A 9 w = nI (C w) ∧ A 52 (10 + w) = nI (C w)) (hC16 : C 0 + C 1 + C 2 + C 3 ≤ 16) (s1' : ∀ w f, w < 4 → f < 8 → SK w f ≤ 99) (s2' : ∀ w f, w < 4 → f < 8 → A (11 + w) f = nI (SK w f)) (s3' : ∀ w f, w < 4 → f < 8 → A 52 (56 + 8 * w + f) = nI (SK w f)) (hfl : fld < n) (hN : N ≤ 6) (p : Int32) (wf : Nat → rrA → Int32) : ∃ f sz1 us1 A1 B1 smm lk A' B' rows A2 B2,
    rx (d + 98) 89 0 [some (.ref 0)] [] sz us (hp kq fq L xs A B J) = some (some (.ref f), sz1, us1, hp kq (some f) L xs A1 B1 J) ∧
    (FT kq (some f) L xs f ∧ f + 7 ≤ sz1 ∧ 71 ≤ f ∧ f ≤ 95 ∧ 71 ≤ sz1) ∧ (∀ i, i < 71 → A1 i = A i ∧ B1 i = B i) ∧
    smm ≤ 1 ∧ rx (d + 97) 92 0 [some (.ref 1), none] [] sz1 us1 (hp kq (some f) L xs A1 B1 J) = some (some (.int (nI smm)), sz1, us1, hp kq (some f) L xs A1 B1 J) ∧
    (B1 f 2 = nI lk ∧ lk ≤ 100000) ∧
    rx (d + 97) 95 0 [some (.ref f), some (.ref 1), some (.int (nI 0)), some (.int (nI 0)), some (.int p), some (.int (nI 0)), some (.int (nI 1)), none, none, none, none, none] [] sz1 us1 (hp kq (some f) L xs A1 (u2 (u2 (u2 (u2 (u2 (u2 (u2 B1 f 10 (nI fld)) f 11 (nI N)) f 12 (nI smm)) f 7 (nI 0)) f 8 (nI 0)) f 2 (nI (lk + 1))) f 9 (wf f B1)) J) = some (none, sz1, us1, hp kq (some f) L xs A' B' J) ∧
    LKD n z D M K V W law C SK fld N f lk (wf f B1) (R, S, A 5, dy) p A1 B1 A' B' rows ∧
    rx (d + 98) 197 0 [some (.ref 51), some (.int (nI fld)), some (.int (nI N)), none] [] sz1 us1 (hp kq (some f) L xs A' B' J) = some (none, sz1, us1, hp kq (some f) L xs A2 B2 J) ∧
    B2 51 18 = nI (4 ^ N) ∧ (A' 52 = A 52 ∧ A2 52 = A 52) ∧
    (∀ q, q < 4 ^ N → A2 62 q = nI (rV C (pyD n z D M K V W law SK fld) (nxD n z D M K V W law SK) N q (R, S, A 5, dy) 1 (nI 0) (nI 0)).2.1 ∧ A2 63 q = (rV C (pyD n z D M K V W law SK fld) (nxD n z D M K V W law SK) N q (R, S, A 5, dy) 1 (nI 0) (nI 0)).2.2 ∧ A2 64 q = (rV C (pyD n z D M K V W law SK fld) (nxD n z D M K V W law SK) N q (R, S, A 5, dy) 1 (nI 0) (nI 0)).1.2.2.1 fld) ∧
    GOOD n N (R, S, A 5, dy) ∧ Inv (c + 1) kq (some f) sz1 us1 A2 B2 := by
  obtain ⟨f, sz1, us1, A1, B1, a1, hI1, hF, hfz, f71, f95, hAB⟩ := ahead (L := L) (xs := xs) (J := J) (d + 89) hI
  have hz := hI1.2.2.2.z
  have n8 := hV.1.1
  have hV1 : VW n nl z zc dy W D M K V Kc Vc R S law A1 B1 := hV.cg (fun i hi => (hAB i (by omega)).1) (fun i hi => (hAB i (by omega)).2)
  have a5 : A1 5 = A 5 := (hAB 5 (by omega)).1
  have a52 : A1 52 = A 52 := (hAB 52 (by omega)).1
  obtain ⟨hCD, hR, hdb, hz0, hpb⟩ := hV1.dy hI1.1
  rw [a5] at hR hdb hz0
  have hdy : dy ≤ 9999 := hV.2.2.2.2.2.2.2.1.1
  have hG : GOOD n N (R, S, A 5, dy) := ⟨hdb, fun i i1 i2 => (hz0 i i1 i2).2.1, by show dy + N ≤ 20000; omega⟩
  have hc16 : ∀ w, w < 4 → C w ≤ 16 := fun w hw => by
    have h4 : w = 0 ∨ w = 1 ∨ w = 2 ∨ w = 3 := by omega
    rcases h4 with rfl | rfl | rfl | rfl <;> omega
  obtain ⟨smm, hsm, e92, hin⟩ := s92 (L := L) (xs := xs) (kq := kq) (fq := some f) (J := J) (us := us1) hz (d + 94) hV1.1 hV1.2.2.1 hV1.2.2.2.2.1
  obtain ⟨lk, lk1, lk2, lk3⟩ := hI1.2.2.1.2.2 f rfl
  obtain ⟨A', B', rows, a95, hL⟩ := s95 (us := us1) (J := J) (C := C) (SK := SK) (S0 := S) hz hF hfz f71 f95 (d + 80) hV1.2.2.2.2.1 s1' hc16 hfl hdy hN (by omega) hV1.1 hV1.2.2.1 (fun w hw => by rw [(hAB 9 (by omega)).1]; exact (hC w hw).1) (fun w i hw hi => by rw [(hAB (11 + w) (by omega)).1]; exact s2' w i hw hi) (fun i hi => (hV1.2.2.2.2.2.2.1 i hi).1) hV1.2.2.2.2.2.2.2.1.2.1 lk3 (x := (R, S, A 5, dy)) rfl rfl hG hsm hin p (wf f B1)
  have q52 : A' 52 = A 52 := by rw [hL.1 52 (by omega) (by omega), a52]
  obtain ⟨A2, B2, a197, g1, g2, g3, g4, g5⟩ := s197 (us := us1) (sz := sz1) (kq := kq) (fq := some f) (L := L) (xs := xs) (J := J) (A := A') (B := B') hz (d + 89) hV1.1 hV1.2.2.2.2.1 s1' hfl hN hG (hR.cg (by rw [q52, a52])) (fun w f hw hf => by rw [q52]; exact s3' w f hw hf) (fun w hw => by rw [q52]; exact (hC w hw).2)
  have q2 : A2 52 = A 52 := by rw [g4 52 (by omega) (by omega) (by omega) (by omega) (by omega) (by omega) (by omega), q52]
  refine ⟨f, sz1, us1, A1, B1, smm, lk, A', B', rows, A2, B2, a1, ⟨hF, hfz, f71, f95, hz⟩, hAB, hsm, e92, ⟨lk2, by omega⟩, a95, hL, a197, g1, ⟨q52, q2⟩, g5, hG, ?_⟩
  refine hI1.lkd (fun i i1 i2 i3 i4 i5 i6 i7 i8 i9 => ?_) (fun i i1 i2 => ?_) ?_ ?_ ⟨lk + 1, by omega, ?_, fun i hi => ?_⟩
  · rw [g4 i i2 i3 i4 i5 i6 i7 i8, hL.1 i i1 i9]
  · rw [g2 i i2, hL.2.1 i i1]
  · rw [g3 3 (by omega), hL.2.1 51 (by omega)]
  · rw [g3 20 (by omega), hL.2.1 51 (by omega)]
  · rw [g2 f (by omega)]; exact hL.2.2.1
  · rw [g4 (f + 2) (by omega) (by omega) (by omega) (by omega) (by omega) (by omega) (by omega)]
    exact hL.2.2.2.1 i hi
set_option maxRecDepth 20000 in
theorem lp202 (hz : 71 ≤ sz) (d : Nat) {R4 : Nat} (hr : R4 ≤ 4096) (h18 : B 51 18 = nI R4) {wq : Nat → Nat} (hw : ∀ i, i < R4 → A 62 i = nI (wq i) ∧ wq i ≤ 16777216) (e : Int32) (l1 l2 : Option Value) {g : Nat → Nat} (hg : ∀ i, g i = if 0 < wq i ∧ A 64 i = e then 1 else 0) : ∀ (m k : Nat), m + k = R4 → rx d 202 36 [some (.ref 51), l1, l2, some (.int e), some (.int (nI (sN g k))), some (.int (nI k))] [] sz us (hp kq fq L xs A B J) = some (some (.int (nI (sN g R4))), sz, us, hp kq fq L xs A B J) := by
  intro m
  induction m with
  | zero =>
    intro k hk
    have : k = R4 := by omega
    subst this
    rw [x_202_36]
    simp (disch := omega) only [x_202_0, x_202_1, x_202_2, x_202_5, x_202_8, x_202_9, x_202_10, x_202_12, x_202_15, x_202_18, x_202_19, x_202_20, x_202_23, x_202_24, x_202_25, x_202_26, x_202_27, x_202_30, x_202_31, x_202_33, x_202_34, x_202_38, x_202_39, x_202_42, x_202_45, x_202_47, x_202_48, x_202_51, x_202_53, x_202_54, x_202_57, x_202_58, x_202_61, x_202_63, x_202_64, x_202_65, x_202_68, x_202_69, x_202_72, x_202_73, x_202_74, x_202_76, x_202_79, x_202_82, x_202_84, Hm0, Hm1, hz, h18, k0, k1, k2, k3, k4, k5, k6, k7, k8, k9, k10, k11, k12, k13, k14, k15, k16, k20, k24, k30, k32, k46, k56, k60, k69, k88, k99, k100, k125, k255, k338, k398, k422, k17, k18, k19, k21, k22, k23, k25, k26, k27, k28, k29, k31, k33, k34, k35, k36, k37, k38, k39, k40, k41, k42, k43, k44, k45, k47, k48, k49, k50, k51, k52, k53, k54, k55, k57, k58, k59, k61, k62, k63, k64, k70, k71, k96, k109, k114, k115, k119, k124, k128, k216, k256, k999, k1296, k4096, k5184, k9999, k12345, k99999, k100000, k999999999, m_2, m_10, m_999, m_9999, m_999999999, q_in, q_cl, q_mul, q_add, q_sub, q_lt, q_le, q_eq, Nat.reduceAdd, Nat.reduceMul, Nat.reduceSub, Nat.reduceLT, Nat.reduceLeDiff, Nat.reduceEqDiff, Nat.add_zero, Nat.zero_add, Nat.mul_zero, q_addm, q_addn, q_subm, q_0m, q_ngm, sky_0, she_0, sky_1, she_1, sky_2, she_2, sky_3, she_3, m_lt, m_gt, m_eq, m_eq', m_one, m_ng, m_mlt, m_meq, q_sub1, q_sub1m, ↓q_irem, mx0, q_div, lt_T, lt_F, le_T, le_F, eq_T, eq_F, not_true_eq_false, not_false_eq_true, true_and, and_true, false_and, and_false, ↓reduceIte, ↓bz_i, ↓bz_l, ↓bz_v, ↓bz_h, ↓bz_c, zs_i, zs_l, zs_v, zs_h, zs_c, zs_n, zn_i, zn_l, zn_v, zn_h, zn_c, zi_i, zi_l, zi_v, zi_h, zi_c, List.append_nil, rr_nk, if_true, if_false, ite_true, ite_false, i01, i10, i00, ite_self, true_or, or_true, or_false, false_or]
  | succ m ih =>
    intro k hk
    obtain ⟨w1, w2⟩ := hw k (by omega)
    have e1 := ih (k + 1) (by omega)
    have eg := hg k
    have es : sN g (k + 1) = sN g k + g k := rfl
    rw [← e1, x_202_36, es]
    by_cases q : 0 < wq k
    · by_cases q2 : A 64 k = e
      · rw [if_pos ⟨q, q2⟩] at eg
        rw [eg]
        simp (disch := omega) only [x_202_0, x_202_1, x_202_2, x_202_5, x_202_8, x_202_9, x_202_10, x_202_12, x_202_15, x_202_18, x_202_19, x_202_20, x_202_23, x_202_24, x_202_25, x_202_26, x_202_27, x_202_30, x_202_31, x_202_33, x_202_34, x_202_38, x_202_39, x_202_42, x_202_45, x_202_47, x_202_48, x_202_51, x_202_53, x_202_54, x_202_57, x_202_58, x_202_61, x_202_63, x_202_64, x_202_65, x_202_68, x_202_69, x_202_72, x_202_73, x_202_74, x_202_76, x_202_79, x_202_82, x_202_84, Hm0, Hm1, hz, h18, w1, q2, k0, k1, k2, k3, k4, k5, k6, k7, k8, k9, k10, k11, k12, k13, k14, k15, k16, k20, k24, k30, k32, k46, k56, k60, k69, k88, k99, k100, k125, k255, k338, k398, k422, k17, k18, k19, k21, k22, k23, k25, k26, k27, k28, k29, k31, k33, k34, k35, k36, k37, k38, k39, k40, k41, k42, k43, k44, k45, k47, k48, k49, k50, k51, k52, k53, k54, k55, k57, k58, k59, k61, k62, k63, k64, k70, k71, k96, k109, k114, k115, k119, k124, k128, k216, k256, k999, k1296, k4096, k5184, k9999, k12345, k99999, k100000, k999999999, m_2, m_10, m_999, m_9999, m_999999999, q_in, q_cl, q_mul, q_add, q_sub, q_lt, q_le, q_eq, Nat.reduceAdd, Nat.reduceMul, Nat.reduceSub, Nat.reduceLT, Nat.reduceLeDiff, Nat.reduceEqDiff, Nat.add_zero, Nat.zero_add, Nat.mul_zero, q_addm, q_addn, q_subm, q_0m, q_ngm, sky_0, she_0, sky_1, she_1, sky_2, she_2, sky_3, she_3, m_lt, m_gt, m_eq, m_eq', m_one, m_ng, m_mlt, m_meq, q_sub1, q_sub1m, ↓q_irem, mx0, q_div, lt_T, lt_F, le_T, le_F, eq_T, eq_F, not_true_eq_false, not_false_eq_true, true_and, and_true, false_and, and_false, ↓reduceIte, ↓bz_i, ↓bz_l, ↓bz_v, ↓bz_h, ↓bz_c, zs_i, zs_l, zs_v, zs_h, zs_c, zs_n, zn_i, zn_l, zn_v, zn_h, zn_c, zi_i, zi_l, zi_v, zi_h, zi_c, List.append_nil, rr_nk, if_true, if_false, ite_true, ite_false, i01, i10, i00, ite_self, true_or, or_true, or_false, false_or]
      · rw [if_neg (fun h => q2 h.2)] at eg
        rw [eg]
        simp (disch := omega) only [x_202_0, x_202_1, x_202_2, x_202_5, x_202_8, x_202_9, x_202_10, x_202_12, x_202_15, x_202_18, x_202_19, x_202_20, x_202_23, x_202_24, x_202_25, x_202_26, x_202_27, x_202_30, x_202_31, x_202_33, x_202_34, x_202_38, x_202_39, x_202_42, x_202_45, x_202_47, x_202_48, x_202_51, x_202_53, x_202_54, x_202_57, x_202_58, x_202_61, x_202_63, x_202_64, x_202_65, x_202_68, x_202_69, x_202_72, x_202_73, x_202_74, x_202_76, x_202_79, x_202_82, x_202_84, Hm0, Hm1, hz, h18, w1, q2, k0, k1, k2, k3, k4, k5, k6, k7, k8, k9, k10, k11, k12, k13, k14, k15, k16, k20, k24, k30, k32, k46, k56, k60, k69, k88, k99, k100, k125, k255, k338, k398, k422, k17, k18, k19, k21, k22, k23, k25, k26, k27, k28, k29, k31, k33, k34, k35, k36, k37, k38, k39, k40, k41, k42, k43, k44, k45, k47, k48, k49, k50, k51, k52, k53, k54, k55, k57, k58, k59, k61, k62, k63, k64, k70, k71, k96, k109, k114, k115, k119, k124, k128, k216, k256, k999, k1296, k4096, k5184, k9999, k12345, k99999, k100000, k999999999, m_2, m_10, m_999, m_9999, m_999999999, q_in, q_cl, q_mul, q_add, q_sub, q_lt, q_le, q_eq, Nat.reduceAdd, Nat.reduceMul, Nat.reduceSub, Nat.reduceLT, Nat.reduceLeDiff, Nat.reduceEqDiff, Nat.add_zero, Nat.zero_add, Nat.mul_zero, q_addm, q_addn, q_subm, q_0m, q_ngm, sky_0, she_0, sky_1, she_1, sky_2, she_2, sky_3, she_3, m_lt, m_gt, m_eq, m_eq', m_one, m_ng, m_mlt, m_meq, q_sub1, q_sub1m, ↓q_irem, mx0, q_div, lt_T, lt_F, le_T, le_F, eq_T, eq_F, not_true_eq_false, not_false_eq_true, true_and, and_true, false_and, and_false, ↓reduceIte, ↓bz_i, ↓bz_l, ↓bz_v, ↓bz_h, ↓bz_c, zs_i, zs_l, zs_v, zs_h, zs_c, zs_n, zn_i, zn_l, zn_v, zn_h, zn_c, zi_i, zi_l, zi_v, zi_h, zi_c, List.append_nil, rr_nk, if_true, if_false, ite_true, ite_false, i01, i10, i00, ite_self, true_or, or_true, or_false, false_or]
    · rw [if_neg (fun h => q h.1)] at eg
      rw [eg]
      simp (disch := omega) only [x_202_0, x_202_1, x_202_2, x_202_5, x_202_8, x_202_9, x_202_10, x_202_12, x_202_15, x_202_18, x_202_19, x_202_20, x_202_23, x_202_24, x_202_25, x_202_26, x_202_27, x_202_30, x_202_31, x_202_33, x_202_34, x_202_38, x_202_39, x_202_42, x_202_45, x_202_47, x_202_48, x_202_51, x_202_53, x_202_54, x_202_57, x_202_58, x_202_61, x_202_63, x_202_64, x_202_65, x_202_68, x_202_69, x_202_72, x_202_73, x_202_74, x_202_76, x_202_79, x_202_82, x_202_84, Hm0, Hm1, hz, h18, w1, k0, k1, k2, k3, k4, k5, k6, k7, k8, k9, k10, k11, k12, k13, k14, k15, k16, k20, k24, k30, k32, k46, k56, k60, k69, k88, k99, k100, k125, k255, k338, k398, k422, k17, k18, k19, k21, k22, k23, k25, k26, k27, k28, k29, k31, k33, k34, k35, k36, k37, k38, k39, k40, k41, k42, k43, k44, k45, k47, k48, k49, k50, k51, k52, k53, k54, k55, k57, k58, k59, k61, k62, k63, k64, k70, k71, k96, k109, k114, k115, k119, k124, k128, k216, k256, k999, k1296, k4096, k5184, k9999, k12345, k99999, k100000, k999999999, m_2, m_10, m_999, m_9999, m_999999999, q_in, q_cl, q_mul, q_add, q_sub, q_lt, q_le, q_eq, Nat.reduceAdd, Nat.reduceMul, Nat.reduceSub, Nat.reduceLT, Nat.reduceLeDiff, Nat.reduceEqDiff, Nat.add_zero, Nat.zero_add, Nat.mul_zero, q_addm, q_addn, q_subm, q_0m, q_ngm, sky_0, she_0, sky_1, she_1, sky_2, she_2, sky_3, she_3, m_lt, m_gt, m_eq, m_eq', m_one, m_ng, m_mlt, m_meq, q_sub1, q_sub1m, ↓q_irem, mx0, q_div, lt_T, lt_F, le_T, le_F, eq_T, eq_F, not_true_eq_false, not_false_eq_true, true_and, and_true, false_and, and_false, ↓reduceIte, ↓bz_i, ↓bz_l, ↓bz_v, ↓bz_h, ↓bz_c, zs_i, zs_l, zs_v, zs_h, zs_c, zs_n, zn_i, zn_l, zn_v, zn_h, zn_c, zi_i, zi_l, zi_v, zi_h, zi_c, List.append_nil, rr_nk, if_true, if_false, ite_true, ite_false, i01, i10, i00, ite_self, true_or, or_true, or_false, false_or]
/-- what stands of the rows behind a look from an empty purse -/
theorem rows_ok {n z nl : Nat} {W D M K V C : Nat → Nat} {SK : Nat → Nat → Nat} {law : Option Nat} {fld N f lk rows : Nat} {wanted : Int32} {x : DY} {A1 B1 A' B' : rrA} (n8 : n ≤ 8) (hl : ∀ l, law = some l → l < nl) (hD : ∀ k, k < nl → D k ≤ 6 ∧ M k ≤ 9) (hW' : ∀ f, f < 8 → W f ≤ 20) (hSK : ∀ w f, w < 4 → f < 8 → SK w f ≤ 99) (hc16 : ∀ w, w < 4 → C w ≤ 16) (hfl : fld < n) (hN : N ≤ 6) (hG : GOOD n N x) (hL : LKD n z D M K V W law C SK fld N f lk wanted x (nI 0) A1 B1 A' B' rows) : ∃ lq : Nat → Nat, (∀ i, i < rows → A' (f + 6) i = nI (nT (A' (f + 6) i)) ∧ nT (A' (f + 6) i) ≤ 16777216) ∧ (∀ i, i < rows → A' (f + 5) i = nI 0 - nI (lq i) ∧ lq i ≤ 99999) ∧ ∀ b, b ≤ 1000000 → sN (fun q => if nI b < (rV C (pyD n z D M K V W law SK fld) (nxD n z D M K V W law SK) N q x 1 (nI 0) (nI 0)).2.2 then (rV C (pyD n z D M K V W law SK fld) (nxD n z D M K V W law SK) N q x 1 (nI 0) (nI 0)).2.1 else 0) (4 ^ N) = sN (fun i => if nI b + A' (f + 5) i < nI 0 then nT (A' (f + 6) i) else 0) rows := by
  obtain ⟨o1, o2⟩ := odds (z := z) (K := K) (V := V) (C := C) n8 hl hD hW' hSK hc16 hfl hN hG
  obtain ⟨h1, h2, h3, h4, h5, h6, h7, h8, h9⟩ := hL
  have hw : ∀ i, i < rows → Wok (A' (f + 5) i) (A' (f + 6) i) := fun i hi => by
    have e := h9 (fun l w => hW (nI 0) l w)
    have e2 : (fun _ l w => hW (nI 0) l w) = (hW : Int32 → Int32 → Int32 → Nat) := by funext a b c; rfl
    rw [e2, o2] at e
    have := sN_z rows e i hi
    apply Classical.byContradiction
    intro hn
    have h1 : hW (nI 0) (A' (f + 5) i) (A' (f + 6) i) = 1 := if_neg hn
    omega
  refine ⟨fun i => nT (nI 0 - A' (f + 5) i), fun i hi => ?_, fun i hi => ?_, fun b hb => ?_⟩
  · obtain ⟨⟨k, k1, k2⟩, -⟩ := hw i hi
    exact nT_n k2 k1 (by omega)
  · obtain ⟨-, j, j1, j2⟩ := hw i hi
    have e1 : nI 0 - A' (f + 5) i = nI j := by
      rw [j2]
      have : ∀ a : Int32, (0 : Int32) - (0 - a) = a := fun a => by grind
      exact this _
    have e2 : nT (nI 0 - A' (f + 5) i) = j := by rw [e1]; exact nI_clamp (by omega)
    dsimp only
    rw [e2]
    exact ⟨j2, j1⟩
  · rw [o1 b hb, ← h9]
theorem fit1 {m : Nat} (h : m ≤ 1) : rr_fit 1 (.int (nI m)) = true := by
  have h2 : m = 0 ∨ m = 1 := by omega
  rcases h2 with rfl | rfl <;> rfl
end OPSF

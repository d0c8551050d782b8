/-! what follows a look-up, kept shut until the look-up is known -/
abbrev rrQ : Type := Option Value × Nat × Nat × rr_H
noncomputable def rz_i (o : Option Int32) (d m p : Nat) (L : rr_L) (S : List Value) (sz us : Nat) (h : rr_H) : Option rrQ := o.bind fun v => rx d m p L (.int v :: S) sz us h
noncomputable def rz_l (o : Option Int64) (d m p : Nat) (L : rr_L) (S : List Value) (sz us : Nat) (h : rr_H) : Option rrQ := o.bind fun v => rx d m p L (.long v :: S) sz us h
noncomputable def rz_v (o : Option Value) (d m p : Nat) (L : rr_L) (S : List Value) (sz us : Nat) (h : rr_H) : Option rrQ := o.bind fun v => rx d m p L (v :: S) sz us h
noncomputable def rz_h (o : Option rr_H) (d m p : Nat) (L : rr_L) (S : List Value) (sz us : Nat) : Option rrQ := o.bind fun h' => rx d m p L S sz us h'
noncomputable def rz_c (o : Option rrQ) (d m p : Nat) (L : rr_L) (S : List Value) : Option rrQ := o.bind fun r => rx d m p L (r.1.toList ++ S) r.2.1 r.2.2.1 r.2.2.2
section RZ
variable (d m p : Nat) (L : rr_L) (S : List Value) (sz us : Nat) (h : rr_H)
theorem bz_i (o : Option Int32) : (o.bind fun v => rx d m p L (.int v :: S) sz us h) = rz_i o d m p L S sz us h := rfl
theorem bz_l (o : Option Int64) : (o.bind fun v => rx d m p L (.long v :: S) sz us h) = rz_l o d m p L S sz us h := rfl
theorem bz_v (o : Option Value) : (o.bind fun v => rx d m p L (v :: S) sz us h) = rz_v o d m p L S sz us h := rfl
theorem bz_h (o : Option rr_H) : (o.bind fun h' => rx d m p L S sz us h') = rz_h o d m p L S sz us := rfl
theorem bz_c (o : Option rrQ) : (o.bind fun r => rx d m p L (r.1.toList ++ S) r.2.1 r.2.2.1 r.2.2.2) = rz_c o d m p L S := rfl
theorem zs_i (v : Int32) : rz_i (some v) d m p L S sz us h = rx d m p L (.int v :: S) sz us h := rfl
theorem zs_l (v : Int64) : rz_l (some v) d m p L S sz us h = rx d m p L (.long v :: S) sz us h := rfl
theorem zs_v (v : Value) : rz_v (some v) d m p L S sz us h = rx d m p L (v :: S) sz us h := rfl
theorem zs_h (h' : rr_H) : rz_h (some h') d m p L S sz us = rx d m p L S sz us h' := rfl
theorem zs_c (v : Value) : rz_c (some (some v, sz, us, h)) d m p L S = rx d m p L (v :: S) sz us h := rfl
theorem zs_n : rz_c (some (none, sz, us, h)) d m p L S = rx d m p L S sz us h := rfl
theorem zn_i : rz_i none d m p L S sz us h = none := rfl
theorem zn_l : rz_l none d m p L S sz us h = none := rfl
theorem zn_v : rz_v none d m p L S sz us h = none := rfl
theorem zn_h : rz_h none d m p L S sz us = none := rfl
theorem zn_c : rz_c none d m p L S = none := rfl
theorem zi_i {c : Prop} [Decidable c] (a b : Option Int32) : rz_i (if c then a else b) d m p L S sz us h = if c then rz_i a d m p L S sz us h else rz_i b d m p L S sz us h := by by_cases e : c <;> simp only [e, if_true, if_false]
theorem zi_l {c : Prop} [Decidable c] (a b : Option Int64) : rz_l (if c then a else b) d m p L S sz us h = if c then rz_l a d m p L S sz us h else rz_l b d m p L S sz us h := by by_cases e : c <;> simp only [e, if_true, if_false]
theorem zi_v {c : Prop} [Decidable c] (a b : Option Value) : rz_v (if c then a else b) d m p L S sz us h = if c then rz_v a d m p L S sz us h else rz_v b d m p L S sz us h := by by_cases e : c <;> simp only [e, if_true, if_false]
theorem zi_h {c : Prop} [Decidable c] (a b : Option rr_H) : rz_h (if c then a else b) d m p L S sz us = if c then rz_h a d m p L S sz us else rz_h b d m p L S sz us := by by_cases e : c <;> simp only [e, if_true, if_false]
theorem zi_c {c : Prop} [Decidable c] (a b : Option rrQ) : rz_c (if c then a else b) d m p L S = if c then rz_c a d m p L S else rz_c b d m p L S := by by_cases e : c <;> simp only [e, if_true, if_false]
end RZ
/-! ===== truths as ints; small methods ===== -/
noncomputable def bb (p : Prop) : Int32 := @ite Int32 p (Classical.propDecidable p) (nI 1) (nI 0)
theorem bb_T {p : Prop} (h : p) : bb p = nI 1 := if_pos h
theorem bb_F {p : Prop} (h : ¬ p) : bb p = nI 0 := if_neg h
theorem if_bb0 {α : Type} {p : Prop} {j : Decidable (bb p = nI 0)} (a b : α) : @ite α (bb p = nI 0) j a b = @ite α p (Classical.propDecidable p) b a := by
  by_cases h : p
  · rw [if_pos h]; exact if_neg (by rw [bb_T h]; decide)
  · rw [if_neg h]; exact if_pos (bb_F h)
theorem if_bb1 {α : Type} {p : Prop} {j : Decidable (bb p = nI 1)} (a b : α) : @ite α (bb p = nI 1) j a b = @ite α p (Classical.propDecidable p) a b := by
  by_cases h : p
  · rw [if_pos h]; exact if_pos (bb_T h)
  · rw [if_neg h]; exact if_neg (by rw [bb_F h]; decide)
theorem if_bb01 {α : Type} {p : Prop} {j : Decidable (bb p = nI 0 ∨ bb p = nI 1)} (a b : α) : @ite α (bb p = nI 0 ∨ bb p = nI 1) j a b = a := by
  refine if_pos ?_
  by_cases h : p
  · exact Or.inr (bb_T h)
  · exact Or.inl (bb_F h)
theorem if_bb0L {α : Type} {p : Prop} {j : Decidable (bb p = 0)} (a b : α) : @ite α (bb p = 0) j a b = @ite α p (Classical.propDecidable p) b a := if_bb0 a b
theorem if_bb1L {α : Type} {p : Prop} {j : Decidable (bb p = 1)} (a b : α) : @ite α (bb p = 1) j a b = @ite α p (Classical.propDecidable p) a b := if_bb1 a b
theorem if_bb01L {α : Type} {p : Prop} {j : Decidable (bb p = 0 ∨ bb p = 1)} (a b : α) : @ite α (bb p = 0 ∨ bb p = 1) j a b = a := if_bb01 a b
section BS
variable (d sz us : Nat) (h : rr_H)
theorem s10 (v lo hi : Int32) : rx d 10 0 [some (.int v), some (.int lo), some (.int hi)] [] sz us h = some (some (.int (bb (¬ v < lo ∧ ¬ hi < v))), sz, us, h) := by
  simp (disch := omega) only [x_10_0, x_10_1, x_10_2, x_10_5, x_10_6, x_10_7, x_10_10, x_10_11, x_10_14, x_10_15, k0, k1, k2, k3, k4, k5, k6, k7, k8, k9, k10, k11, k12, k13, k14, k15, k16, k20, k24, k30, k32, k46, k56, k60, k69, k88, k99, k100, k125, k255, k338, k398, k422, q_in, q_cl, q_mul, q_add, q_sub, q_lt, q_le, q_eq, Nat.reduceAdd, Nat.reduceMul, Nat.reduceSub, Nat.reduceLT, Nat.reduceLeDiff, Nat.reduceEqDiff, Nat.add_zero, Nat.zero_add, Nat.mul_zero, ↓reduceIte, ↓bz_i, ↓bz_l, ↓bz_v, ↓bz_h, ↓bz_c, zs_i, zs_l, zs_v, zs_h, zs_c, zs_n, zn_i, zn_l, zn_v, zn_h, zn_c, zi_i, zi_l, zi_v, zi_h, zi_c, List.append_nil, rr_nk, if_true, if_false, ite_true, ite_false, i01, i10, i00, ite_self, true_or, or_true, or_false, false_or]
  by_cases h1 : v < lo
  · rw [if_pos h1, bb_F (fun q => q.1 h1)]
  · rw [if_neg h1]
    by_cases h2 : hi < v
    · rw [if_pos h2, bb_F (fun q => q.2 h2)]
    · rw [if_neg h2, bb_T ⟨h1, h2⟩]
theorem s132 (v lo hi : Int32) : rx d 132 0 [some (.int v), some (.int lo), some (.int hi)] [] sz us h = some (some (.int (bb (¬ v < lo ∧ ¬ hi < v))), sz, us, h) := by
  simp (disch := omega) only [x_132_0, x_132_1, x_132_2, x_132_5, x_132_6, x_132_7, x_132_10, x_132_11, x_132_14, x_132_15, k0, k1, k2, k3, k4, k5, k6, k7, k8, k9, k10, k11, k12, k13, k14, k15, k16, k20, k24, k30, k32, k46, k56, k60, k69, k88, k99, k100, k125, k255, k338, k398, k422, q_in, q_cl, q_mul, q_add, q_sub, q_lt, q_le, q_eq, Nat.reduceAdd, Nat.reduceMul, Nat.reduceSub, Nat.reduceLT, Nat.reduceLeDiff, Nat.reduceEqDiff, Nat.add_zero, Nat.zero_add, Nat.mul_zero, ↓reduceIte, ↓bz_i, ↓bz_l, ↓bz_v, ↓bz_h, ↓bz_c, zs_i, zs_l, zs_v, zs_h, zs_c, zs_n, zn_i, zn_l, zn_v, zn_h, zn_c, zi_i, zi_l, zi_v, zi_h, zi_c, List.append_nil, rr_nk, if_true, if_false, ite_true, ite_false, i01, i10, i00, ite_self, true_or, or_true, or_false, false_or]
  by_cases h1 : v < lo
  · rw [if_pos h1, bb_F (fun q => q.1 h1)]
  · rw [if_neg h1]
    by_cases h2 : hi < v
    · rw [if_pos h2, bb_F (fun q => q.2 h2)]
    · rw [if_neg h2, bb_T ⟨h1, h2⟩]
end BS
section BS2
variable (d sz us : Nat) (kq fq : Option Nat) (L : Nat) (xs : Nat → Int32) (A B : Nat → Nat → Int32) (J : Nat → Nat → Int64)
theorem s15 (hz : 71 ≤ sz) (f : Int32) : rx d 15 0 [some (.ref 1), some (.int f)] [] sz us (hp kq fq L xs A B J) = some (some (.int (bb (¬ f < nI 0 ∧ f < B 1 5))), sz, us, hp kq fq L xs A B J) := by
  simp (disch := omega) only [x_15_0, x_15_1, x_15_4, x_15_5, x_15_6, x_15_9, x_15_12, x_15_13, x_15_16, x_15_17, Hc0, Hc1, Hc2, Hc3, Hc4, hz, k0, k1, k2, k3, k4, k5, k6, k7, k8, k9, k10, k11, k12, k13, k14, k15, k16, k20, k24, k30, k32, k46, k56, k60, k69, k88, k99, k100, k125, k255, k338, k398, k422, q_in, q_cl, q_mul, q_add, q_sub, q_lt, q_le, q_eq, Nat.reduceAdd, Nat.reduceMul, Nat.reduceSub, Nat.reduceLT, Nat.reduceLeDiff, Nat.reduceEqDiff, Nat.add_zero, Nat.zero_add, Nat.mul_zero, ↓reduceIte, ↓bz_i, ↓bz_l, ↓bz_v, ↓bz_h, ↓bz_c, zs_i, zs_l, zs_v, zs_h, zs_c, zs_n, zn_i, zn_l, zn_v, zn_h, zn_c, zi_i, zi_l, zi_v, zi_h, zi_c, List.append_nil, rr_nk, if_true, if_false, ite_true, ite_false, i01, i10, i00, ite_self, true_or, or_true, or_false, false_or]
  by_cases h1 : f < nI 0
  · rw [if_pos h1, bb_F (fun q => q.1 h1)]
  · rw [if_neg h1]
    by_cases h2 : f < B 1 5
    · rw [if_pos h2, bb_T ⟨h1, h2⟩]
    · rw [if_neg h2, bb_F (fun q => h2 q.2)]
theorem s18_7 (hz : 71 ≤ sz) (f : Int32) : rx d 18 0 [some (.ref 7), some (.int f)] [] sz us (hp kq fq L xs A B J) = some (some (.int (bb (¬ f < nI 0 ∧ f < B 7 1))), sz, us, hp kq fq L xs A B J) := by
  simp (disch := omega) only [x_18_0, x_18_1, x_18_4, x_18_5, x_18_6, x_18_9, x_18_12, x_18_13, x_18_16, x_18_17, Hc0, Hc1, Hc2, Hc3, Hc4, hz, k0, k1, k2, k3, k4, k5, k6, k7, k8, k9, k10, k11, k12, k13, k14, k15, k16, k20, k24, k30, k32, k46, k56, k60, k69, k88, k99, k100, k125, k255, k338, k398, k422, q_in, q_cl, q_mul, q_add, q_sub, q_lt, q_le, q_eq, Nat.reduceAdd, Nat.reduceMul, Nat.reduceSub, Nat.reduceLT, Nat.reduceLeDiff, Nat.reduceEqDiff, Nat.add_zero, Nat.zero_add, Nat.mul_zero, ↓reduceIte, ↓bz_i, ↓bz_l, ↓bz_v, ↓bz_h, ↓bz_c, zs_i, zs_l, zs_v, zs_h, zs_c, zs_n, zn_i, zn_l, zn_v, zn_h, zn_c, zi_i, zi_l, zi_v, zi_h, zi_c, List.append_nil, rr_nk, if_true, if_false, ite_true, ite_false, i01, i10, i00, ite_self, true_or, or_true, or_false, false_or]
  by_cases h1 : f < nI 0
  · rw [if_pos h1, bb_F (fun q => q.1 h1)]
  · rw [if_neg h1]
    by_cases h2 : f < B 7 1
    · rw [if_pos h2, bb_T ⟨h1, h2⟩]
    · rw [if_neg h2, bb_F (fun q => h2 q.2)]
theorem s18_15 (hz : 71 ≤ sz) (f : Int32) : rx d 18 0 [some (.ref 15), some (.int f)] [] sz us (hp kq fq L xs A B J) = some (some (.int (bb (¬ f < nI 0 ∧ f < B 15 1))), sz, us, hp kq fq L xs A B J) := by
  simp (disch := omega) only [x_18_0, x_18_1, x_18_4, x_18_5, x_18_6, x_18_9, x_18_12, x_18_13, x_18_16, x_18_17, Hc0, Hc1, Hc2, Hc3, Hc4, hz, k0, k1, k2, k3, k4, k5, k6, k7, k8, k9, k10, k11, k12, k13, k14, k15, k16, k20, k24, k30, k32, k46, k56, k60, k69, k88, k99, k100, k125, k255, k338, k398, k422, q_in, q_cl, q_mul, q_add, q_sub, q_lt, q_le, q_eq, Nat.reduceAdd, Nat.reduceMul, Nat.reduceSub, Nat.reduceLT, Nat.reduceLeDiff, Nat.reduceEqDiff, Nat.add_zero, Nat.zero_add, Nat.mul_zero, ↓reduceIte, ↓bz_i, ↓bz_l, ↓bz_v, ↓bz_h, ↓bz_c, zs_i, zs_l, zs_v, zs_h, zs_c, zs_n, zn_i, zn_l, zn_v, zn_h, zn_c, zi_i, zi_l, zi_v, zi_h, zi_c, List.append_nil, rr_nk, if_true, if_false, ite_true, ite_false, i01, i10, i00, ite_self, true_or, or_true, or_false, false_or]
  by_cases h1 : f < nI 0
  · rw [if_pos h1, bb_F (fun q => q.1 h1)]
  · rw [if_neg h1]
    by_cases h2 : f < B 15 1
    · rw [if_pos h2, bb_T ⟨h1, h2⟩]
    · rw [if_neg h2, bb_F (fun q => h2 q.2)]
theorem s18_17 (hz : 71 ≤ sz) (f : Int32) : rx d 18 0 [some (.ref 17), some (.int f)] [] sz us (hp kq fq L xs A B J) = some (some (.int (bb (¬ f < nI 0 ∧ f < B 17 1))), sz, us, hp kq fq L xs A B J) := by
  simp (disch := omega) only [x_18_0, x_18_1, x_18_4, x_18_5, x_18_6, x_18_9, x_18_12, x_18_13, x_18_16, x_18_17, Hc0, Hc1, Hc2, Hc3, Hc4, hz, k0, k1, k2, k3, k4, k5, k6, k7, k8, k9, k10, k11, k12, k13, k14, k15, k16, k20, k24, k30, k32, k46, k56, k60, k69, k88, k99, k100, k125, k255, k338, k398, k422, q_in, q_cl, q_mul, q_add, q_sub, q_lt, q_le, q_eq, Nat.reduceAdd, Nat.reduceMul, Nat.reduceSub, Nat.reduceLT, Nat.reduceLeDiff, Nat.reduceEqDiff, Nat.add_zero, Nat.zero_add, Nat.mul_zero, ↓reduceIte, ↓bz_i, ↓bz_l, ↓bz_v, ↓bz_h, ↓bz_c, zs_i, zs_l, zs_v, zs_h, zs_c, zs_n, zn_i, zn_l, zn_v, zn_h, zn_c, zi_i, zi_l, zi_v, zi_h, zi_c, List.append_nil, rr_nk, if_true, if_false, ite_true, ite_false, i01, i10, i00, ite_self, true_or, or_true, or_false, false_or]
  by_cases h1 : f < nI 0
  · rw [if_pos h1, bb_F (fun q => q.1 h1)]
  · rw [if_neg h1]
    by_cases h2 : f < B 17 1
    · rw [if_pos h2, bb_T ⟨h1, h2⟩]
    · rw [if_neg h2, bb_F (fun q => h2 q.2)]
theorem s18_28 (hz : 71 ≤ sz) (f : Int32) : rx d 18 0 [some (.ref 28), some (.int f)] [] sz us (hp kq fq L xs A B J) = some (some (.int (bb (¬ f < nI 0 ∧ f < B 28 1))), sz, us, hp kq fq L xs A B J) := by
  simp (disch := omega) only [x_18_0, x_18_1, x_18_4, x_18_5, x_18_6, x_18_9, x_18_12, x_18_13, x_18_16, x_18_17, Hc0, Hc1, Hc2, Hc3, Hc4, hz, k0, k1, k2, k3, k4, k5, k6, k7, k8, k9, k10, k11, k12, k13, k14, k15, k16, k20, k24, k30, k32, k46, k56, k60, k69, k88, k99, k100, k125, k255, k338, k398, k422, q_in, q_cl, q_mul, q_add, q_sub, q_lt, q_le, q_eq, Nat.reduceAdd, Nat.reduceMul, Nat.reduceSub, Nat.reduceLT, Nat.reduceLeDiff, Nat.reduceEqDiff, Nat.add_zero, Nat.zero_add, Nat.mul_zero, ↓reduceIte, ↓bz_i, ↓bz_l, ↓bz_v, ↓bz_h, ↓bz_c, zs_i, zs_l, zs_v, zs_h, zs_c, zs_n, zn_i, zn_l, zn_v, zn_h, zn_c, zi_i, zi_l, zi_v, zi_h, zi_c, List.append_nil, rr_nk, if_true, if_false, ite_true, ite_false, i01, i10, i00, ite_self, true_or, or_true, or_false, false_or]
  by_cases h1 : f < nI 0
  · rw [if_pos h1, bb_F (fun q => q.1 h1)]
  · rw [if_neg h1]
    by_cases h2 : f < B 28 1
    · rw [if_pos h2, bb_T ⟨h1, h2⟩]
    · rw [if_neg h2, bb_F (fun q => h2 q.2)]
theorem s18_34 (hz : 71 ≤ sz) (f : Int32) : rx d 18 0 [some (.ref 34), some (.int f)] [] sz us (hp kq fq L xs A B J) = some (some (.int (bb (¬ f < nI 0 ∧ f < B 34 1))), sz, us, hp kq fq L xs A B J) := by
  simp (disch := omega) only [x_18_0, x_18_1, x_18_4, x_18_5, x_18_6, x_18_9, x_18_12, x_18_13, x_18_16, x_18_17, Hc0, Hc1, Hc2, Hc3, Hc4, hz, k0, k1, k2, k3, k4, k5, k6, k7, k8, k9, k10, k11, k12, k13, k14, k15, k16, k20, k24, k30, k32, k46, k56, k60, k69, k88, k99, k100, k125, k255, k338, k398, k422, q_in, q_cl, q_mul, q_add, q_sub, q_lt, q_le, q_eq, Nat.reduceAdd, Nat.reduceMul, Nat.reduceSub, Nat.reduceLT, Nat.reduceLeDiff, Nat.reduceEqDiff, Nat.add_zero, Nat.zero_add, Nat.mul_zero, ↓reduceIte, ↓bz_i, ↓bz_l, ↓bz_v, ↓bz_h, ↓bz_c, zs_i, zs_l, zs_v, zs_h, zs_c, zs_n, zn_i, zn_l, zn_v, zn_h, zn_c, zi_i, zi_l, zi_v, zi_h, zi_c, List.append_nil, rr_nk, if_true, if_false, ite_true, ite_false, i01, i10, i00, ite_self, true_or, or_true, or_false, false_or]
  by_cases h1 : f < nI 0
  · rw [if_pos h1, bb_F (fun q => q.1 h1)]
  · rw [if_neg h1]
    by_cases h2 : f < B 34 1
    · rw [if_pos h2, bb_T ⟨h1, h2⟩]
    · rw [if_neg h2, bb_F (fun q => h2 q.2)]
theorem s150 (hz : 71 ≤ sz) (f : Int32) : rx (d + 1) 150 0 [some (.ref 51), some (.int f)] [] sz us (hp kq fq L xs A B J) = some (some (.int (bb (¬ f < nI 0 ∧ ¬ (A 52 0 - nI 1) < f))), sz, us, hp kq fq L xs A B J) := by
  simp (disch := omega) only [x_150_0, x_150_1, x_150_2, x_150_3, x_150_6, x_150_7, x_150_8, x_150_9, x_150_10, x_150_13, s132, Hm0, Hm1, hz, k0, k1, k2, k3, k4, k5, k6, k7, k8, k9, k10, k11, k12, k13, k14, k15, k16, k20, k24, k30, k32, k46, k56, k60, k69, k88, k99, k100, k125, k255, k338, k398, k422, q_in, q_cl, q_mul, q_add, q_sub, q_lt, q_le, q_eq, Nat.reduceAdd, Nat.reduceMul, Nat.reduceSub, Nat.reduceLT, Nat.reduceLeDiff, Nat.reduceEqDiff, Nat.add_zero, Nat.zero_add, Nat.mul_zero, ↓reduceIte, ↓bz_i, ↓bz_l, ↓bz_v, ↓bz_h, ↓bz_c, zs_i, zs_l, zs_v, zs_h, zs_c, zs_n, zn_i, zn_l, zn_v, zn_h, zn_c, zi_i, zi_l, zi_v, zi_h, zi_c, List.append_nil, rr_nk, if_true, if_false, ite_true, ite_false, i01, i10, i00, ite_self, true_or, or_true, or_false, false_or, ↓if_bb01L, ↓if_bb0L]
theorem s165 (hz : 71 ≤ sz) (f : Int32) : rx (d + 1) 165 0 [some (.ref 51), some (.int f)] [] sz us (hp kq fq L xs A B J) = some (some (.int (bb (¬ f < nI 0 ∧ ¬ (A 52 1 - nI 1) < f))), sz, us, hp kq fq L xs A B J) := by
  simp (disch := omega) only [x_165_0, x_165_1, x_165_2, x_165_3, x_165_6, x_165_7, x_165_8, x_165_9, x_165_10, x_165_13, s132, Hm0, Hm1, hz, k0, k1, k2, k3, k4, k5, k6, k7, k8, k9, k10, k11, k12, k13, k14, k15, k16, k20, k24, k30, k32, k46, k56, k60, k69, k88, k99, k100, k125, k255, k338, k398, k422, q_in, q_cl, q_mul, q_add, q_sub, q_lt, q_le, q_eq, Nat.reduceAdd, Nat.reduceMul, Nat.reduceSub, Nat.reduceLT, Nat.reduceLeDiff, Nat.reduceEqDiff, Nat.add_zero, Nat.zero_add, Nat.mul_zero, ↓reduceIte, ↓bz_i, ↓bz_l, ↓bz_v, ↓bz_h, ↓bz_c, zs_i, zs_l, zs_v, zs_h, zs_c, zs_n, zn_i, zn_l, zn_v, zn_h, zn_c, zi_i, zi_l, zi_v, zi_h, zi_c, List.append_nil, rr_nk, if_true, if_false, ite_true, ite_false, i01, i10, i00, ite_self, true_or, or_true, or_false, false_or, ↓if_bb01L, ↓if_bb0L]
theorem s183 (f : Int32) (h : rr_H) : rx (d + 1) 183 0 [some (.int f)] [] sz us h = some (some (.int (bb (¬ f < nI 0 ∧ ¬ nI 3 < f))), sz, us, h) := by
  simp (disch := omega) only [x_183_0, x_183_1, x_183_2, x_183_3, x_183_6, s132, k0, k1, k2, k3, k4, k5, k6, k7, k8, k9, k10, k11, k12, k13, k14, k15, k16, k20, k24, k30, k32, k46, k56, k60, k69, k88, k99, k100, k125, k255, k338, k398, k422, q_in, q_cl, q_mul, q_add, q_sub, q_lt, q_le, q_eq, Nat.reduceAdd, Nat.reduceMul, Nat.reduceSub, Nat.reduceLT, Nat.reduceLeDiff, Nat.reduceEqDiff, Nat.add_zero, Nat.zero_add, Nat.mul_zero, ↓reduceIte, ↓bz_i, ↓bz_l, ↓bz_v, ↓bz_h, ↓bz_c, zs_i, zs_l, zs_v, zs_h, zs_c, zs_n, zn_i, zn_l, zn_v, zn_h, zn_c, zi_i, zi_l, zi_v, zi_h, zi_c, List.append_nil, rr_nk, if_true, if_false, ite_true, ite_false, i01, i10, i00, ite_self, true_or, or_true, or_false, false_or, ↓if_bb01L, ↓if_bb0L]
theorem s214 (f : Int32) (h : rr_H) : rx (d + 1) 214 0 [some (.int f)] [] sz us h = some (some (.int (bb (¬ f < nI 0 ∧ ¬ nI 3 < f))), sz, us, h) := by
  simp (disch := omega) only [x_214_0, x_214_1, x_214_2, x_214_3, x_214_6, s132, k0, k1, k2, k3, k4, k5, k6, k7, k8, k9, k10, k11, k12, k13, k14, k15, k16, k20, k24, k30, k32, k46, k56, k60, k69, k88, k99, k100, k125, k255, k338, k398, k422, q_in, q_cl, q_mul, q_add, q_sub, q_lt, q_le, q_eq, Nat.reduceAdd, Nat.reduceMul, Nat.reduceSub, Nat.reduceLT, Nat.reduceLeDiff, Nat.reduceEqDiff, Nat.add_zero, Nat.zero_add, Nat.mul_zero, ↓reduceIte, ↓bz_i, ↓bz_l, ↓bz_v, ↓bz_h, ↓bz_c, zs_i, zs_l, zs_v, zs_h, zs_c, zs_n, zn_i, zn_l, zn_v, zn_h, zn_c, zi_i, zi_l, zi_v, zi_h, zi_c, List.append_nil, rr_nk, if_true, if_false, ite_true, ite_false, i01, i10, i00, ite_self, true_or, or_true, or_false, false_or, ↓if_bb01L, ↓if_bb0L]
end BS2
/-! numbers below 0; what omega sees -/
theorem mI_i {j : Nat} (h : j ≤ 2 ^ 31) : (mI j).toInt = -(j : Int) := by
  unfold mI
  exact Int32.toInt_ofInt_of_le (by omega) (by omega)
theorem nn (x : Int32) : (∃ j, 1 ≤ j ∧ j ≤ 2 ^ 31 ∧ x = mI j) ∨ ∃ j, j < 2 ^ 31 ∧ x = nI j := by
  by_cases h : x < 0
  · left
    have h1 := x.le_toInt
    have h2 : x.toInt < 0 := by rw [Int32.lt_iff_toInt_lt] at h; exact h
    refine ⟨x.toInt.natAbs, by omega, by omega, ?_⟩
    apply Int32.toInt_inj.mp
    rw [mI_i (by omega)]; omega
  · right
    obtain ⟨j, h1, h2⟩ := nI_of (x := x) h
    exact ⟨j, h1, h2⟩
theorem nI_i {j : Nat} (h : j < 2 ^ 31) : (nI j).toInt = (j : Int) := by
  unfold nI
  exact Int32.toInt_ofNat_of_lt h
theorem m_lt {j k : Nat} (h1 : 1 ≤ j) (h2 : j ≤ 2 ^ 31) (h3 : k < 2 ^ 31) : (mI j < nI k) = True := by
  refine eq_true ?_
  rw [Int32.lt_iff_toInt_lt, mI_i h2, nI_i h3]; omega
theorem m_gt {j k : Nat} (h1 : 1 ≤ j) (h2 : j ≤ 2 ^ 31) (h3 : k < 2 ^ 31) : (nI k < mI j) = False := by
  refine eq_false ?_
  rw [Int32.lt_iff_toInt_lt, mI_i h2, nI_i h3]; omega
theorem m_eq {j k : Nat} (h1 : 1 ≤ j) (h2 : j ≤ 2 ^ 31) (h3 : k < 2 ^ 31) : (mI j = nI k) = False := by
  refine eq_false (fun h => ?_)
  have := congrArg Int32.toInt h
  rw [mI_i h2, nI_i h3] at this; omega
theorem m_eq' {j k : Nat} (h1 : 1 ≤ j) (h2 : j ≤ 2 ^ 31) (h3 : k < 2 ^ 31) : (nI k = mI j) = False := by
  refine eq_false (fun h => ?_)
  have := congrArg Int32.toInt h
  rw [mI_i h2, nI_i h3] at this; omega
theorem m_one : (-1 : Int32) = mI 1 := rfl
theorem m_mlt {j k : Nat} (h2 : j ≤ 2 ^ 31) (h3 : k ≤ 2 ^ 31) : (mI j < mI k) = (k < j) := by
  refine propext ?_
  rw [Int32.lt_iff_toInt_lt, mI_i h2, mI_i h3]; omega
theorem m_meq {j k : Nat} (h2 : j ≤ 2 ^ 31) (h3 : k ≤ 2 ^ 31) : (mI j = mI k) = (j = k) := by
  refine propext ⟨fun h => ?_, fun h => by rw [h]⟩
  have := congrArg Int32.toInt h
  rw [mI_i h2, mI_i h3] at this; omega
theorem q_sub1 {n f : Nat} (h : n < 2 ^ 31) (h2 : f < 2 ^ 31) : (nI n - nI 1 < nI f) = (n ≤ f) := by
  by_cases h0 : 1 ≤ n
  · rw [q_sub h0, q_lt (by omega) h2]; exact propext ⟨fun _ => by omega, fun _ => by omega⟩
  · have : n = 0 := by omega
    subst this
    rw [show nI 0 - nI 1 = mI 1 from rfl, m_lt (by omega) (by omega) h2]
    exact (eq_true (by omega)).symm
theorem q_sub1m {n f : Nat} (h : n < 2 ^ 31) (h1 : 1 ≤ f) (h2 : f ≤ 2 ^ 31) : (nI n - nI 1 < mI f) = False := by
  by_cases h0 : 1 ≤ n
  · rw [q_sub h0, m_gt h1 h2 (by omega)]
  · have : n = 0 := by omega
    subst this
    rw [show nI 0 - nI 1 = mI 1 from rfl, m_mlt (by omega) h2]
    exact eq_false (by omega)
theorem q_div {a b : Nat} (h1 : a < 2 ^ 31) (h2 : b < 2 ^ 31) : nI a / nI b = nI (a / b) := by
  apply Int32.toInt_inj.mp
  have h3 : a / b < 2 ^ 31 := Nat.lt_of_le_of_lt (Nat.div_le_self a b) h1
  rw [Int32.toInt_div_of_ne_left _ _ (by rw [show Int32.minValue = mI (2 ^ 31) from rfl]; exact fun h => by rw [m_eq' (by omega) (by omega) h1] at h; exact h), nI_i h1, nI_i h2, nI_i h3]
  exact (Int.ofNat_tdiv a b).symm
theorem q_rem {a b : Nat} : a - a / b * b = a % b := by
  have := Nat.div_add_mod a b
  rw [Nat.mul_comm] at this; omega
theorem lt_T {a b : Nat} (h : a < b) : (a < b) = True := eq_true h
theorem lt_F {a b : Nat} (h : ¬ a < b) : (a < b) = False := eq_false h
theorem le_T {a b : Nat} (h : a ≤ b) : (a ≤ b) = True := eq_true h
theorem le_F {a b : Nat} (h : ¬ a ≤ b) : (a ≤ b) = False := eq_false h
theorem eq_T {a b : Nat} (h : a = b) : (a = b) = True := eq_true h
theorem eq_F {a b : Nat} (h : ¬ a = b) : (a = b) = False := eq_false h
theorem m_ng : -nI 1 = mI 1 := rfl
section CON
variable {sz : Nat} {kq fq : Option Nat} {L : Nat} {xs : Nat → Int32} {A B : Nat → Nat → Int32} {J : Nat → Nat → Int64}
theorem ka_0 : rr_ai sz (hp kq fq L xs A B J) 1000000 (nI 0) = some (mI 1) := (hp_ro (k := 0) (by omega) (nI 0)).trans ((if_pos (show rr_in (nI 0) 7 = true from by decide)).trans rfl)
theorem ka_1 : rr_ai sz (hp kq fq L xs A B J) 1000000 (nI 1) = some (nI 0) := (hp_ro (k := 0) (by omega) (nI 1)).trans ((if_pos (show rr_in (nI 1) 7 = true from by decide)).trans rfl)
theorem ka_2 : rr_ai sz (hp kq fq L xs A B J) 1000000 (nI 2) = some (nI 0) := (hp_ro (k := 0) (by omega) (nI 2)).trans ((if_pos (show rr_in (nI 2) 7 = true from by decide)).trans rfl)
theorem ka_3 : rr_ai sz (hp kq fq L xs A B J) 1000000 (nI 3) = some (nI 1) := (hp_ro (k := 0) (by omega) (nI 3)).trans ((if_pos (show rr_in (nI 3) 7 = true from by decide)).trans rfl)
theorem ka_4 : rr_ai sz (hp kq fq L xs A B J) 1000000 (nI 4) = some (nI 1) := (hp_ro (k := 0) (by omega) (nI 4)).trans ((if_pos (show rr_in (nI 4) 7 = true from by decide)).trans rfl)
theorem ka_5 : rr_ai sz (hp kq fq L xs A B J) 1000000 (nI 5) = some (nI 2) := (hp_ro (k := 0) (by omega) (nI 5)).trans ((if_pos (show rr_in (nI 5) 7 = true from by decide)).trans rfl)
theorem ka_6 : rr_ai sz (hp kq fq L xs A B J) 1000000 (nI 6) = some (nI 0) := (hp_ro (k := 0) (by omega) (nI 6)).trans ((if_pos (show rr_in (nI 6) 7 = true from by decide)).trans rfl)
theorem ka_l : rr_al sz (hp kq fq L xs A B J) 1000000 = some (nI 7) := (hp_rl (k := 0) (by omega)).trans rfl
theorem bo_0 : rr_ai sz (hp kq fq L xs A B J) 1000001 (nI 0) = some (nI 10) := (hp_ro (k := 1) (by omega) (nI 0)).trans ((if_pos (show rr_in (nI 0) 28 = true from by decide)).trans rfl)
theorem bo_1 : rr_ai sz (hp kq fq L xs A B J) 1000001 (nI 1) = some (nI 11) := (hp_ro (k := 1) (by omega) (nI 1)).trans ((if_pos (show rr_in (nI 1) 28 = true from by decide)).trans rfl)
theorem bo_2 : rr_ai sz (hp kq fq L xs A B J) 1000001 (nI 2) = some (nI 12) := (hp_ro (k := 1) (by omega) (nI 2)).trans ((if_pos (show rr_in (nI 2) 28 = true from by decide)).trans rfl)
theorem bo_3 : rr_ai sz (hp kq fq L xs A B J) 1000001 (nI 3) = some (nI 13) := (hp_ro (k := 1) (by omega) (nI 3)).trans ((if_pos (show rr_in (nI 3) 28 = true from by decide)).trans rfl)
theorem bo_4 : rr_ai sz (hp kq fq L xs A B J) 1000001 (nI 4) = some (nI 20) := (hp_ro (k := 1) (by omega) (nI 4)).trans ((if_pos (show rr_in (nI 4) 28 = true from by decide)).trans rfl)
theorem bo_5 : rr_ai sz (hp kq fq L xs A B J) 1000001 (nI 5) = some (nI 0) := (hp_ro (k := 1) (by omega) (nI 5)).trans ((if_pos (show rr_in (nI 5) 28 = true from by decide)).trans rfl)
theorem bo_6 : rr_ai sz (hp kq fq L xs A B J) 1000001 (nI 6) = some (nI 0) := (hp_ro (k := 1) (by omega) (nI 6)).trans ((if_pos (show rr_in (nI 6) 28 = true from by decide)).trans rfl)
theorem bo_7 : rr_ai sz (hp kq fq L xs A B J) 1000001 (nI 7) = some (nI 21) := (hp_ro (k := 1) (by omega) (nI 7)).trans ((if_pos (show rr_in (nI 7) 28 = true from by decide)).trans rfl)
theorem bo_8 : rr_ai sz (hp kq fq L xs A B J) 1000001 (nI 8) = some (nI 0) := (hp_ro (k := 1) (by omega) (nI 8)).trans ((if_pos (show rr_in (nI 8) 28 = true from by decide)).trans rfl)
theorem bo_9 : rr_ai sz (hp kq fq L xs A B J) 1000001 (nI 9) = some (nI 30) := (hp_ro (k := 1) (by omega) (nI 9)).trans ((if_pos (show rr_in (nI 9) 28 = true from by decide)).trans rfl)
theorem bo_10 : rr_ai sz (hp kq fq L xs A B J) 1000001 (nI 10) = some (nI 0) := (hp_ro (k := 1) (by omega) (nI 10)).trans ((if_pos (show rr_in (nI 10) 28 = true from by decide)).trans rfl)
theorem bo_11 : rr_ai sz (hp kq fq L xs A B J) 1000001 (nI 11) = some (nI 0) := (hp_ro (k := 1) (by omega) (nI 11)).trans ((if_pos (show rr_in (nI 11) 28 = true from by decide)).trans rfl)
theorem bo_12 : rr_ai sz (hp kq fq L xs A B J) 1000001 (nI 12) = some (nI 40) := (hp_ro (k := 1) (by omega) (nI 12)).trans ((if_pos (show rr_in (nI 12) 28 = true from by decide)).trans rfl)
theorem bo_13 : rr_ai sz (hp kq fq L xs A B J) 1000001 (nI 13) = some (nI 0) := (hp_ro (k := 1) (by omega) (nI 13)).trans ((if_pos (show rr_in (nI 13) 28 = true from by decide)).trans rfl)
theorem bo_14 : rr_ai sz (hp kq fq L xs A B J) 1000001 (nI 14) = some (nI 41) := (hp_ro (k := 1) (by omega) (nI 14)).trans ((if_pos (show rr_in (nI 14) 28 = true from by decide)).trans rfl)
theorem bo_15 : rr_ai sz (hp kq fq L xs A B J) 1000001 (nI 15) = some (nI 0) := (hp_ro (k := 1) (by omega) (nI 15)).trans ((if_pos (show rr_in (nI 15) 28 = true from by decide)).trans rfl)
theorem bo_16 : rr_ai sz (hp kq fq L xs A B J) 1000001 (nI 16) = some (nI 0) := (hp_ro (k := 1) (by omega) (nI 16)).trans ((if_pos (show rr_in (nI 16) 28 = true from by decide)).trans rfl)
theorem bo_17 : rr_ai sz (hp kq fq L xs A B J) 1000001 (nI 17) = some (nI 0) := (hp_ro (k := 1) (by omega) (nI 17)).trans ((if_pos (show rr_in (nI 17) 28 = true from by decide)).trans rfl)
theorem bo_18 : rr_ai sz (hp kq fq L xs A B J) 1000001 (nI 18) = some (nI 50) := (hp_ro (k := 1) (by omega) (nI 18)).trans ((if_pos (show rr_in (nI 18) 28 = true from by decide)).trans rfl)
theorem bo_19 : rr_ai sz (hp kq fq L xs A B J) 1000001 (nI 19) = some (nI 0) := (hp_ro (k := 1) (by omega) (nI 19)).trans ((if_pos (show rr_in (nI 19) 28 = true from by decide)).trans rfl)
theorem bo_20 : rr_ai sz (hp kq fq L xs A B J) 1000001 (nI 20) = some (nI 0) := (hp_ro (k := 1) (by omega) (nI 20)).trans ((if_pos (show rr_in (nI 20) 28 = true from by decide)).trans rfl)
theorem bo_21 : rr_ai sz (hp kq fq L xs A B J) 1000001 (nI 21) = some (nI 60) := (hp_ro (k := 1) (by omega) (nI 21)).trans ((if_pos (show rr_in (nI 21) 28 = true from by decide)).trans rfl)
theorem bo_22 : rr_ai sz (hp kq fq L xs A B J) 1000001 (nI 22) = some (nI 0) := (hp_ro (k := 1) (by omega) (nI 22)).trans ((if_pos (show rr_in (nI 22) 28 = true from by decide)).trans rfl)
theorem bo_23 : rr_ai sz (hp kq fq L xs A B J) 1000001 (nI 23) = some (nI 0) := (hp_ro (k := 1) (by omega) (nI 23)).trans ((if_pos (show rr_in (nI 23) 28 = true from by decide)).trans rfl)
theorem bo_24 : rr_ai sz (hp kq fq L xs A B J) 1000001 (nI 24) = some (nI 70) := (hp_ro (k := 1) (by omega) (nI 24)).trans ((if_pos (show rr_in (nI 24) 28 = true from by decide)).trans rfl)
theorem bo_25 : rr_ai sz (hp kq fq L xs A B J) 1000001 (nI 25) = some (nI 71) := (hp_ro (k := 1) (by omega) (nI 25)).trans ((if_pos (show rr_in (nI 25) 28 = true from by decide)).trans rfl)
theorem bo_26 : rr_ai sz (hp kq fq L xs A B J) 1000001 (nI 26) = some (nI 0) := (hp_ro (k := 1) (by omega) (nI 26)).trans ((if_pos (show rr_in (nI 26) 28 = true from by decide)).trans rfl)
theorem bo_27 : rr_ai sz (hp kq fq L xs A B J) 1000001 (nI 27) = some (nI 0) := (hp_ro (k := 1) (by omega) (nI 27)).trans ((if_pos (show rr_in (nI 27) 28 = true from by decide)).trans rfl)
theorem bo_l : rr_al sz (hp kq fq L xs A B J) 1000001 = some (nI 28) := (hp_rl (k := 1) (by omega)).trans rfl
theorem ns_0 : rr_ai sz (hp kq fq L xs A B J) 1000002 (nI 0) = some (nI 0) := (hp_ro (k := 2) (by omega) (nI 0)).trans ((if_pos (show rr_in (nI 0) 4 = true from by decide)).trans rfl)
theorem ns_1 : rr_ai sz (hp kq fq L xs A B J) 1000002 (nI 1) = some (nI 1) := (hp_ro (k := 2) (by omega) (nI 1)).trans ((if_pos (show rr_in (nI 1) 4 = true from by decide)).trans rfl)
theorem ns_2 : rr_ai sz (hp kq fq L xs A B J) 1000002 (nI 2) = some (nI 6) := (hp_ro (k := 2) (by omega) (nI 2)).trans ((if_pos (show rr_in (nI 2) 4 = true from by decide)).trans rfl)
theorem ns_3 : rr_ai sz (hp kq fq L xs A B J) 1000002 (nI 3) = some (nI 36) := (hp_ro (k := 2) (by omega) (nI 3)).trans ((if_pos (show rr_in (nI 3) 4 = true from by decide)).trans rfl)
theorem ns_l : rr_al sz (hp kq fq L xs A B J) 1000002 = some (nI 4) := (hp_rl (k := 2) (by omega)).trans rfl
end CON
theorem q_irem {a b : Nat} (h1 : a < 2 ^ 31) (h2 : b < 2 ^ 31) : nI a - nI a / nI b * nI b = nI (a % b) := by
  rw [q_div h1 h2, q_mul, q_sub (Nat.div_mul_le_self a b), q_rem]
section CON2
variable {sz : Nat} {kq fq : Option Nat} {L : Nat} {xs : Nat → Int32} {A B : Nat → Nat → Int32} {J : Nat → Nat → Int64}
theorem hp_aq {i n t : Nat} {f : Nat → Option Nat} (hs : sh kq fq L xs i (A i) (B i) (J i) = rr_cQ t n f) (ht : t ≤ 1) (hz : i < sz) (k : Int32) : rr_aq sz (hp kq fq L xs A B J) i k = if rr_in k n = true then some (va_rf (f k.toNatClampNeg)) else none := by
  have e : hp kq fq L xs A B J i = rr_cQ t n f := hs
  unfold rr_aq
  rw [e]
  show (if t ≤ 1 ∧ i < sz ∧ rr_in k n = true then _ else _) = _
  simp only [ht, hz, true_and]
theorem sky_0 (hz : 71 ≤ sz) : rr_aq sz (hp kq fq L xs A B J) 10 (nI 0) = some (.ref 11) := (hp_aq (t := 1) (n := 4) rfl (by omega) (by omega) (nI 0)).trans ((if_pos (show rr_in (nI 0) 4 = true from by decide)).trans rfl)
theorem she_0 (hz : 71 ≤ sz) : rr_aq sz (hp kq fq L xs A B J) 26 (nI 0) = some (.ref 43) := (hp_aq (t := 0) (n := 4) rfl (by omega) (by omega) (nI 0)).trans ((if_pos (show rr_in (nI 0) 4 = true from by decide)).trans rfl)
theorem sky_1 (hz : 71 ≤ sz) : rr_aq sz (hp kq fq L xs A B J) 10 (nI 1) = some (.ref 12) := (hp_aq (t := 1) (n := 4) rfl (by omega) (by omega) (nI 1)).trans ((if_pos (show rr_in (nI 1) 4 = true from by decide)).trans rfl)
theorem she_1 (hz : 71 ≤ sz) : rr_aq sz (hp kq fq L xs A B J) 26 (nI 1) = some (.ref 45) := (hp_aq (t := 0) (n := 4) rfl (by omega) (by omega) (nI 1)).trans ((if_pos (show rr_in (nI 1) 4 = true from by decide)).trans rfl)
theorem sky_2 (hz : 71 ≤ sz) : rr_aq sz (hp kq fq L xs A B J) 10 (nI 2) = some (.ref 13) := (hp_aq (t := 1) (n := 4) rfl (by omega) (by omega) (nI 2)).trans ((if_pos (show rr_in (nI 2) 4 = true from by decide)).trans rfl)
theorem she_2 (hz : 71 ≤ sz) : rr_aq sz (hp kq fq L xs A B J) 26 (nI 2) = some (.ref 47) := (hp_aq (t := 0) (n := 4) rfl (by omega) (by omega) (nI 2)).trans ((if_pos (show rr_in (nI 2) 4 = true from by decide)).trans rfl)
theorem sky_3 (hz : 71 ≤ sz) : rr_aq sz (hp kq fq L xs A B J) 10 (nI 3) = some (.ref 14) := (hp_aq (t := 1) (n := 4) rfl (by omega) (by omega) (nI 3)).trans ((if_pos (show rr_in (nI 3) 4 = true from by decide)).trans rfl)
theorem she_3 (hz : 71 ≤ sz) : rr_aq sz (hp kq fq L xs A B J) 26 (nI 3) = some (.ref 49) := (hp_aq (t := 0) (n := 4) rfl (by omega) (by omega) (nI 3)).trans ((if_pos (show rr_in (nI 3) 4 = true from by decide)).trans rfl)
end CON2
theorem mx0 {j : Nat} : (if 0 < j then nI j else nI 0) = nI j := by
  by_cases h : 0 < j
  · exact if_pos h
  · rw [if_neg h, show j = 0 by omega]

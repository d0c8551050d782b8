/-! ===== settling: what is nought together (pure) ===== -/
def sub (p s : Nat) : Prop := ∀ i, p.testBit i = true → s.testBit i = true
theorem sub_le {p s : Nat} (h : sub p s) : p ≤ s := by
  have e : p &&& s = p := by
    apply Nat.eq_of_testBit_eq
    intro i
    rw [Nat.testBit_and]
    cases hp : p.testBit i
    · rfl
    · rw [h i hp]; rfl
  rw [← e]; exact Nat.and_le_right
theorem xs_t {p s i : Nat} (h : sub p s) : (s ^^^ p).testBit i = (s.testBit i && !p.testBit i) := by
  rw [Nat.testBit_xor]
  cases hp : p.testBit i
  · simp
  · rw [h i hp]; rfl
theorem xs_sub {p s : Nat} (h : sub p s) : sub (s ^^^ p) s := fun i hi => by
  rw [xs_t h, Bool.and_eq_true] at hi; exact hi.1
theorem xs_xs {p s : Nat} : s ^^^ (s ^^^ p) = p := by rw [← Nat.xor_assoc, Nat.xor_self, Nat.zero_xor]
theorem xs_and {p s : Nat} (h : sub p s) (hs : s < 256) : s &&& (255 ^^^ p) = s ^^^ p := by
  apply Nat.eq_of_testBit_eq
  intro i
  rw [xs_t h, Nat.testBit_and, Nat.testBit_xor]
  cases hb : s.testBit i
  · rfl
  · have h8 := tb_lt hs hb
    have h255 : (255 : Nat).testBit i = true := by
      have hh : i = 0 ∨ i = 1 ∨ i = 2 ∨ i = 3 ∨ i = 4 ∨ i = 5 ∨ i = 6 ∨ i = 7 := by omega
      rcases hh with rfl | rfl | rfl | rfl | rfl | rfl | rfl | rfl <;> rfl
    rw [h255, Bool.true_xor]
theorem ex_t {p : Nat} (h : p ≠ 0) : ∃ i, p.testBit i = true := by
  apply Classical.byContradiction
  intro hn
  apply h
  apply Nat.eq_of_testBit_eq
  intro i
  rw [Nat.zero_testBit]
  cases hb : p.testBit i
  · rfl
  · exact absurd ⟨i, hb⟩ hn
theorem pw_sub {s i : Nat} (h : s.testBit i = true) : sub (2 ^ i) s := fun j hj => by
  rw [Nat.testBit_two_pow, decide_eq_true_eq] at hj
  subst hj; exact h
theorem xs_lt {p s : Nat} (h : sub p s) (h0 : p ≠ 0) : s ^^^ p < s := by
  have h1 := sub_le (xs_sub h)
  have h2 : s ^^^ p ≠ s := fun e => by
    obtain ⟨i, hi⟩ := ex_t h0
    have : (s ^^^ p).testBit i = s.testBit i := by rw [e]
    rw [xs_t h, h i hi, hi] at this; cases this
  omega
/-- the sum of a set -/
def sS (P : Nat → Int32) (s : Nat) : Nat → Int32
  | 0 => nI 0
  | k + 1 => sS P s k + (if s.testBit k = true then P k else nI 0)
theorem sS_xor {P : Nat → Int32} {p s : Nat} (h : sub p s) : ∀ k, sS P s k = sS P p k + sS P (s ^^^ p) k
  | 0 => by show nI 0 = nI 0 + nI 0; rfl
  | k + 1 => by
    show sS P s k + _ = (sS P p k + _) + (sS P (s ^^^ p) k + _)
    rw [sS_xor h k, xs_t h]
    have e0 : nI 0 = (0 : Int32) := rfl
    cases hp : p.testBit k
    · cases hs : s.testBit k
      · simp only [Bool.false_eq_true, if_false, Bool.false_and]; rw [e0]; grind
      · simp only [Bool.false_eq_true, if_false, if_true, Bool.not_false, Bool.true_and]; rw [e0]; grind
    · rw [h k hp]
      simp only [Bool.false_eq_true, if_false, if_true, Bool.not_true, Bool.and_false]; rw [e0]; grind
theorem sS_0 {P : Nat → Int32} : ∀ k, sS P 0 k = nI 0
  | 0 => rfl
  | k + 1 => by
    show sS P 0 k + _ = nI 0
    rw [sS_0 k, Nat.zero_testBit]; rfl
theorem sS_pw {P : Nat → Int32} {i : Nat} : ∀ k, sS P (2 ^ i) k = if i < k then P i else nI 0
  | 0 => by simp only [Nat.not_lt_zero, if_false]; rfl
  | k + 1 => by
    show sS P (2 ^ i) k + (if (2 ^ i).testBit k = true then P k else nI 0) = _
    have e0 : nI 0 = (0 : Int32) := rfl
    rw [sS_pw k, Nat.testBit_two_pow]
    by_cases e : i = k
    · subst e
      simp only [Nat.lt_irrefl, if_false, decide_true, if_true, Nat.lt_succ_self]; rw [e0]; grind
    · by_cases q : i < k
      · have q' : i < k + 1 := by omega
        simp only [e, q, q', decide_false, if_true, if_false, Bool.false_eq_true]; rw [e0]; grind
      · have q' : ¬ i < k + 1 := by omega
        simp only [e, q, q', decide_false, if_false, Bool.false_eq_true]; rw [e0]; grind
section HEAPS
variable {Z : Nat → Prop} {c : Nat → Nat} {r : Nat → Option Nat} {lb : Nat → Nat}
/-- the class's and the reference's tables, as far as a set W; Z: what is nought together -/
def CT (Z : Nat → Prop) (c : Nat → Nat) (W : Nat) : Prop := c 0 = 0 ∧ ∀ s, sub s W → s ≠ 0 → (∀ i, s.testBit i = true → c (s ^^^ 2 ^ i) ≤ c s ∧ (Z s → c (s ^^^ 2 ^ i) + 1 ≤ c s)) ∧ ∃ i, s.testBit i = true ∧ (Z s → c s = c (s ^^^ 2 ^ i) + 1) ∧ (¬ Z s → c s = c (s ^^^ 2 ^ i))
def RTb (Z : Nat → Prop) (lb : Nat → Nat) (r : Nat → Option Nat) (W : Nat) : Prop := r 0 = some 0 ∧ ∀ s, sub s W → s ≠ 0 → (s.testBit (lb s) = true ∧ ∀ j, s.testBit j = true → lb s ≤ j) ∧ (∀ p k, sub p s → p ≠ 0 → p.testBit (lb s) = true → Z p → r (s ^^^ p) = some k → ∃ k', r s = some k' ∧ k + 1 ≤ k') ∧ (∀ k', r s = some k' → ∃ p k, sub p s ∧ p ≠ 0 ∧ p.testBit (lb s) = true ∧ Z p ∧ r (s ^^^ p) = some k ∧ k' = k + 1)
def ZT (Z : Nat → Prop) : Prop := Z 0 ∧ ∀ p s, sub p s → Z p → (Z s ↔ Z (s ^^^ p))
theorem sub_tr {a b d : Nat} (h1 : sub a b) (h2 : sub b d) : sub a d := fun i hi => h2 i (h1 i hi)
theorem cSt {W : Nat} (hC : CT Z c W) : ∀ n s t, s ≤ n → sub t s → sub s W → c t ≤ c s := by
  intro n
  induction n with
  | zero =>
    intro s t hs ht hsw
    have : s = 0 := by omega
    subst this
    have := sub_le ht
    have : t = 0 := by omega
    subst this; exact Nat.le_refl _
  | succ n ih =>
    intro s t hs ht hsw
    by_cases e : s ^^^ t = 0
    · have : s = t := by rw [← xs_xs (p := t) (s := s), e, Nat.xor_zero]
      subst this; exact Nat.le_refl _
    · obtain ⟨i, hi⟩ := ex_t e
      rw [xs_t ht, Bool.and_eq_true] at hi
      have hp := pw_sub hi.1
      have hlt := xs_lt hp (by have := Nat.two_pow_pos i; omega)
      have hts : sub t (s ^^^ 2 ^ i) := fun j hj => by
        rw [xs_t hp, ht j hj, Nat.testBit_two_pow]
        have : i ≠ j := fun q => by subst q; rw [hj] at hi; simp at hi
        simp [this]
      have := ih (s ^^^ 2 ^ i) t (by omega) hts (sub_tr (xs_sub hp) hsw)
      have s0 : s ≠ 0 := fun q => by subst q; simp at hi
      have := ((hC.2 s hsw s0).1 i hi.1).1
      omega
theorem cM {W : Nat} (hC : CT Z c W) (s t : Nat) (ht : sub t s) (hsw : sub s W) (hz : Z s) (hlt : t < s) : c t + 1 ≤ c s := by
  have e : s ^^^ t ≠ 0 := fun e => by
    have : s = t := by rw [← xs_xs (p := t) (s := s), e, Nat.xor_zero]
    omega
  obtain ⟨i, hi⟩ := ex_t e
  rw [xs_t ht, Bool.and_eq_true] at hi
  have hp := pw_sub hi.1
  have hts : sub t (s ^^^ 2 ^ i) := fun j hj => by
    rw [xs_t hp, ht j hj, Nat.testBit_two_pow]
    have : i ≠ j := fun q => by subst q; rw [hj] at hi; simp at hi
    simp [this]
  have h1 := cSt hC _ _ t (Nat.le_refl _) hts (sub_tr (xs_sub hp) hsw)
  have s0 : s ≠ 0 := fun q => by subst q; simp at hi
  have := ((hC.2 s hsw s0).1 i hi.1).2 hz
  omega
theorem rA {W : Nat} (hZ : ZT Z) (hR : RTb Z lb r W) : ∀ n s k, s ≤ n → sub s W → r s = some k → Z s := by
  intro n
  induction n with
  | zero =>
    intro s k hs hsw hr
    have : s = 0 := by omega
    subst this; exact hZ.1
  | succ n ih =>
    intro s k hs hsw hr
    by_cases s0 : s = 0
    · subst s0; exact hZ.1
    · obtain ⟨p, k', h1, h2, h3, h4, h5, h6⟩ := (hR.2 s hsw s0).2.2 k hr
      have := xs_lt h1 h2
      exact (hZ.2 p s h1 h4).mpr (ih _ k' (by omega) (sub_tr (xs_sub h1) hsw) h5)
theorem rB {W s : Nat} (hR : RTb Z lb r W) (hs : sub s W) (s0 : s ≠ 0) (hz : Z s) : ∃ k, r s = some k ∧ 1 ≤ k := by
  obtain ⟨h1, h2, h3⟩ := hR.2 s hs s0
  obtain ⟨k', e1, e2⟩ := h2 s 0 (fun i hi => hi) s0 h1.1 hz (by rw [Nat.xor_self]; exact hR.1)
  exact ⟨k', e1, by omega⟩
/-- two that have nothing in common, together -/
theorem rC {W : Nat} (hR : RTb Z lb r W) : ∀ n s t a b, s ≤ n → sub s W → sub t s → r t = some a → r (s ^^^ t) = some b → ∃ k, r s = some k ∧ a + b ≤ k := by
  intro n
  induction n with
  | zero =>
    intro s t a b hs hsw ht ha hb
    have s0 : s = 0 := by omega
    subst s0
    have t0 : t = 0 := by have := sub_le ht; omega
    subst t0
    rw [Nat.xor_self] at hb
    rw [hR.1] at ha hb
    cases ha; cases hb
    exact ⟨0, hR.1, by omega⟩
  | succ n ih =>
    intro s t a b hs hsw ht ha hb
    by_cases t0 : t = 0
    · subst t0
      rw [hR.1] at ha; cases ha
      rw [Nat.xor_zero] at hb
      exact ⟨b, hb, by omega⟩
    by_cases u0 : s ^^^ t = 0
    · rw [u0, hR.1] at hb; cases hb
      have : s = t := by rw [← xs_xs (p := t) (s := s), u0, Nat.xor_zero]
      subst this
      exact ⟨a, ha, by omega⟩
    have s0 : s ≠ 0 := fun e => by subst e; have := sub_le ht; omega
    obtain ⟨hlb, hup, -⟩ := hR.2 s hsw s0
    -- one half whose least is the least of all
    have half : ∀ t a b, sub t s → t ≠ 0 → t.testBit (lb s) = true → r t = some a → r (s ^^^ t) = some b → lb t = lb s → ∃ k, r s = some k ∧ a + b ≤ k := by
      intro t a b ht t0 htb ha hb hlbt
      obtain ⟨p, k, h1, h2, h3, h4, h5, h6⟩ := (hR.2 t (sub_tr ht hsw) t0).2.2 a ha
      have hps := sub_tr h1 ht
      have hlt := xs_lt hps h2
      have hsub : sub (t ^^^ p) (s ^^^ p) := fun i hi => by
        rw [xs_t h1, Bool.and_eq_true] at hi
        rw [xs_t hps, ht i hi.1, hi.2]; rfl
      have hx : (s ^^^ p) ^^^ (t ^^^ p) = s ^^^ t := by
        apply Nat.eq_of_testBit_eq; intro i
        simp only [Nat.testBit_xor]
        cases s.testBit i <;> cases t.testBit i <;> cases p.testBit i <;> rfl
      obtain ⟨k2, e1, e2⟩ := ih (s ^^^ p) (t ^^^ p) k b (by omega) (sub_tr (xs_sub hps) hsw) hsub h5 (by rw [hx]; exact hb)
      obtain ⟨k3, f1, f2⟩ := hup p k2 hps h2 (by rw [← hlbt]; exact h3) h4 e1
      exact ⟨k3, f1, by omega⟩
    have hl : ∀ t, sub t s → t ≠ 0 → t.testBit (lb s) = true → lb t = lb s := fun t ht t0 hb => by
      have h1 := (hR.2 t (sub_tr ht hsw) t0).1
      have a1 := h1.2 _ hb
      have a2 := hlb.2 _ (ht _ h1.1)
      omega
    cases hb1 : t.testBit (lb s)
    · have hx : (s ^^^ t).testBit (lb s) = true := by rw [xs_t ht, hlb.1, hb1]; rfl
      have hh := half (s ^^^ t) b a (xs_sub ht) u0 hx hb (by rw [xs_xs]; exact ha) (hl _ (xs_sub ht) u0 hx)
      obtain ⟨k, e1, e2⟩ := hh
      exact ⟨k, e1, by omega⟩
    · exact half t a b ht t0 hb1 ha hb (hl t ht t0 hb1)
/-- what the class says of a set is never more than what the reference says of some set in it -/
theorem rD {W : Nat} (hZ : ZT Z) (hC : CT Z c W) (hR : RTb Z lb r W) : ∀ n s k, s ≤ n → sub s W → r s = some k → k ≤ c s := by
  intro n
  induction n with
  | zero =>
    intro s k hs hsw hr
    have : s = 0 := by omega
    subst this
    rw [hR.1] at hr; cases hr; omega
  | succ n ih =>
    intro s k hs hsw hr
    by_cases s0 : s = 0
    · subst s0; rw [hR.1] at hr; cases hr; omega
    · have hz := rA hZ hR _ s k (Nat.le_refl s) hsw hr
      obtain ⟨p, k', h1, h2, h3, h4, h5, h6⟩ := (hR.2 s hsw s0).2.2 k hr
      have hlt := xs_lt h1 h2
      have e1 := ih _ k' (by omega) (sub_tr (xs_sub h1) hsw) h5
      have e2 := cM hC s (s ^^^ p) (xs_sub h1) hsw hz hlt
      omega
theorem rE {W : Nat} (hC : CT Z c W) (hR : RTb Z lb r W) (hZ : ZT Z) : ∀ n s, s ≤ n → sub s W → ∃ t k, sub t s ∧ r t = some k ∧ c s ≤ k := by
  intro n
  induction n with
  | zero =>
    intro s hs hsw
    have : s = 0 := by omega
    subst this
    exact ⟨0, 0, fun i hi => hi, hR.1, by rw [hC.1]; omega⟩
  | succ n ih =>
    intro s hs hsw
    by_cases s0 : s = 0
    · subst s0; exact ⟨0, 0, fun i hi => hi, hR.1, by rw [hC.1]; omega⟩
    · obtain ⟨-, i, hi, h1, h2⟩ := hC.2 s hsw s0
      have hp := pw_sub hi
      have hlt := xs_lt hp (by have := Nat.two_pow_pos i; omega)
      obtain ⟨t, k, e1, e2, e3⟩ := ih (s ^^^ 2 ^ i) (by omega) (sub_tr (xs_sub hp) hsw)
      have hts := sub_tr e1 (xs_sub hp)
      by_cases hz : Z s
      · have zt := rA hZ hR _ t k (Nat.le_refl t) (sub_tr hts hsw) e2
        have zr := (hZ.2 t s hts zt).mp hz
        have hr0 : s ^^^ t ≠ 0 := fun e => by
          have : (s ^^^ t).testBit i = false := by rw [e, Nat.zero_testBit]
          rw [xs_t hts, hi] at this
          have hti : t.testBit i = true := by cases h : t.testBit i <;> simp_all
          have := e1 i hti
          rw [xs_t hp, Nat.testBit_two_pow, hi] at this
          simp at this
        obtain ⟨k2, f1, f2⟩ := rB hR (sub_tr (xs_sub hts) hsw) hr0 zr
        obtain ⟨k3, g1, g2⟩ := rC hR _ s t k k2 (Nat.le_refl s) hsw hts e2 f1
        exact ⟨s, k3, fun i hi => hi, g1, by rw [h1 hz]; omega⟩
      · exact ⟨t, k, hts, e2, by rw [h2 hz]; exact e3⟩
theorem rEq {W : Nat} (hC : CT Z c W) (hR : RTb Z lb r W) (hZ : ZT Z) (hW : Z W) : r W = some (c W) := by
  obtain ⟨t, k, h1, h2, h3⟩ := rE hC hR hZ _ W (Nat.le_refl W) (fun i hi => hi)
  have zt := rA hZ hR _ t k (Nat.le_refl t) h1 h2
  have zr := (hZ.2 t W h1 zt).mp hW
  have hb : ∃ k2, r (W ^^^ t) = some k2 := by
    by_cases e : W ^^^ t = 0
    · exact ⟨0, by rw [e]; exact hR.1⟩
    · obtain ⟨k2, f1, -⟩ := rB hR (xs_sub h1) e zr; exact ⟨k2, f1⟩
  obtain ⟨k2, f1⟩ := hb
  obtain ⟨k3, g1, g2⟩ := rC hR _ W t k k2 (Nat.le_refl W) (fun i hi => hi) h1 h2 f1
  have := rD hZ hC hR _ W k3 (Nat.le_refl W) (fun i hi => hi) g1
  rw [g1]; congr 1; omega
/-- the least that is nought -/
theorem rF {W s : Nat} (hR : RTb Z lb r W) (hZ : ZT Z) (hs : sub s W) (s0 : s ≠ 0) (hl : ∀ t, sub t W → t ≠ 0 → t < s → ¬ Z t) : r s = some 1 ↔ Z s := by
  constructor
  · exact fun h => rA hZ hR _ s 1 (Nat.le_refl s) hs h
  · intro hz
    obtain ⟨k, e1, e2⟩ := rB hR hs s0 hz
    obtain ⟨p, k', h1, h2, h3, h4, h5, h6⟩ := (hR.2 s hs s0).2.2 k e1
    have hlt := xs_lt h1 h2
    by_cases u0 : s ^^^ p = 0
    · rw [u0, hR.1] at h5; cases h5; rw [e1, h6]
    · exact absurd ((hZ.2 p s h1 h4).mp hz) (hl _ (sub_tr (xs_sub h1) hs) u0 hlt)
end HEAPS


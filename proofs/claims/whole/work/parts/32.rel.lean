/-! ===== what ties the class's state to the reference's row ===== -/
/-- a step of a TEXT: the class's number c, the reference's pair (w, v) -/
def rT (c w v : Int32) : Prop := (w = 0 ∧ v = c ∧ 0 ≤ c ∧ c ≤ 9999) ∨ (w = 1 ∧ v = 0 - c ∧ (c = -114 ∨ c = -119 ∨ c = -115 ∨ c = -109 ∨ c = -100)) ∨ (w = 2 ∧ c = -33) ∨ (w = 3 ∧ v = 0 - c ∧ (c = -124 ∨ c = -38 ∨ c = -60 ∨ c = -61 ∨ c = -62 ∨ c = -43 ∨ c = -45 ∨ c = -42 ∨ c = -47 ∨ c = -37))
/-- how many values stand on the stack behind a step -/
def dT (c : Int32) (n : Nat) : Option Nat :=
  if 0 ≤ c ∨ c = -114 ∨ c = -119 ∨ c = -115 ∨ c = -109 ∨ c = -100 then some (n + 1)
  else if c = -33 then (if 1 ≤ n then some n else none)
  else if 2 ≤ n then some (n - 1) else none
def dTs (f : Nat → Int32) : Nat → Nat → Option Nat
  | 0, n => some n
  | k + 1, n => (dTs f k n).bind (dT (f k))
/-- a TEXT as the class has it (size z, steps f), and the reference, from place p of its row on -/
def TR (z : Int32) (f s : Nat → Int32) (p : Nat) : Prop :=
  ∃ n, n ≤ 60 ∧ z = nI n ∧ s p = nI n ∧ (∀ k, k < n → rT (f k) (s (p + 1 + 2 * k)) (s (p + 2 + 2 * k))) ∧ (n = 0 ∨ dTs f n 0 = some 1)
def SR (q : Nat) (A B : Nat → Nat → Int32) (s : Nat → Int32) : Prop :=
  (∃ n, n ≤ 8 ∧ B q 5 = nI n ∧ s 0 = nI n ∧ ∀ f, n ≤ f → f < 8 → A (q + 2) f = 0 ∧ A (q + 3) f = 0 ∧ A (q + 4) f = 0) ∧
  (∀ f, f < 8 → A (q + 1) f = s (14 + 4 * f) ∧ 0 ≤ s (14 + 4 * f) ∧ s (14 + 4 * f) ≤ 20) ∧
  (∀ f, f < 8 → A (q + 2) f = s (15 + 4 * f) ∧ 0 ≤ s (15 + 4 * f) ∧ s (15 + 4 * f) ≤ 99) ∧
  (∀ f, f < 8 → A (q + 3) f = s (16 + 4 * f) ∧ 0 ≤ (s (16 + 4 * f)).toInt ∧ (s (16 + 4 * f)).toInt ≤ 99 * ((s 2).toInt % 7)) ∧
  (∀ f, f < 8 → A (q + 4) f = s (17 + 4 * f) ∧ -999999999 ≤ s (17 + 4 * f) ∧ s (17 + 4 * f) ≤ 999999999) ∧
  (∃ l, l ≤ 5 ∧ B (q + 6) 1 = nI l ∧ s 1 = nI l ∧ (∀ k, k < l → ∃ kd m : Nat, kd ≤ 6 ∧ m ≤ 9 ∧ A (q + 7) k = nI (10 * kd + m) ∧ s (46 + 2 * k) = nI kd ∧ s (47 + 2 * k) = nI m) ∧ (s 3 = -1 ∨ ∃ k, k < l ∧ s 3 = nI k)) ∧
  B q 7 = s 3 ∧
  (B q 8 = s 4 ∧ 0 ≤ s 4 ∧ s 4 ≤ 99) ∧
  (B q 9 = s 5 ∧ 0 ≤ s 5 ∧ s 5 ≤ 99) ∧
  (∃ c : Nat → Nat, (∀ w, w < 4 → A (q + 8) w = nI (c w) ∧ s (10 + w) = nI (c w)) ∧ c 0 + c 1 + c 2 + c 3 ≤ 16) ∧
  (∀ w, w < 4 → ∀ f, f < 8 → A (q + 10 + w) f = s (56 + 8 * w + f) ∧ 0 ≤ s (56 + 8 * w + f) ∧ s (56 + 8 * w + f) ≤ 99) ∧
  (∃ dy, dy ≤ 9999 ∧ B q 12 = nI dy ∧ s 2 = nI dy) ∧
  B q 13 = s 8 ∧
  (∃ t, t ≤ 60 ∧ B (q + 14) 1 = nI t ∧ s 6 = nI t ∧ ∀ k, k < t → A (q + 15) k = s (338 + k) ∧ 0 ≤ s (338 + k) ∧ s (338 + k) ≤ 255) ∧
  (∃ w, w ≤ 24 ∧ B (q + 16) 1 = nI w ∧ s 7 = nI w ∧ ∀ k, k < w → A (q + 17) k = s (398 + k)) ∧
  TR (B (q + 18) 2) (A (q + 19)) s 88 ∧
  TR (B (q + 21) 2) (A (q + 22)) s 213
/-- what stands beside the state -/
def OR (A B : Nat → Nat → Int32) : Prop :=
  (∀ k, k < 7 → A 25 k = A 55 k) ∧
  (∃ t, t ≤ 30 ∧ B 28 1 = nI t ∧ B 51 20 = nI t ∧ ∀ k, k < t → A 29 k = A 65 k) ∧
  (∀ k, k < 4 → B (43 + 2 * k) 0 = A 66 k ∧ (A 66 k = 0 ∨ A 66 k = 8 ∨ A 66 k = 16 ∨ A 66 k = 32) ∧ (∃ n, n ≤ 24 ∧ B (43 + 2 * k) 1 = nI n ∧ A 67 k = nI n) ∧ ∀ i, i < 24 → A (44 + 2 * k) i = A 68 (24 * k + i))
/-- kept: as many images as calls at most; forecast: its looks are counted -/
def KR (c : Nat) (kq fq : Option Nat) (A B : Nat → Nat → Int32) : Prop :=
  (∃ n, n ≤ c ∧ B 0 2 = nI n ∧ B 51 3 = nI n ∧ (kq = none ↔ n = 0)) ∧
  (∀ q, kq = some q → SR q A B (A 53)) ∧
  (∀ f, fq = some f → ∃ n, n ≤ c ∧ B f 2 = nI n ∧ ∀ i, i < 1296 → ∃ j, j ≤ n ∧ A (f + 2) i = nI j)
/-- where kept and forecast stand, and how much is made -/
def QR (kq fq : Option Nat) (sz us : Nat) : Prop :=
  (kq = none ∧ fq = none ∧ sz = 71 ∧ us ≤ 30000) ∨ (kq = some 71 ∧ fq = none ∧ sz = 95 ∧ us ≤ 31000) ∨ (kq = none ∧ fq = some 71 ∧ sz = 78 ∧ us ≤ 50000) ∨
  (kq = some 71 ∧ fq = some 95 ∧ sz = 102 ∧ us ≤ 51000) ∨ (kq = some 78 ∧ fq = some 71 ∧ sz = 102 ∧ us ≤ 51000)
theorem QR.z {kq fq : Option Nat} {sz us : Nat} (h : QR kq fq sz us) : 71 ≤ sz := by
  rcases h with h | h | h | h | h <;> omega
theorem QR.k {kq fq : Option Nat} {sz us q : Nat} (h : QR kq fq sz us) (hq : kq = some q) : 71 ≤ q := by
  subst hq
  rcases h with h | h | h | h | h
  · cases h.1
  · have := Option.some.inj h.1; omega
  · cases h.1
  · have := Option.some.inj h.1; omega
  · have := Option.some.inj h.1; omega
theorem QR.f {kq fq : Option Nat} {sz us f : Nat} (h : QR kq fq sz us) (hf : fq = some f) : 71 ≤ f := by
  subst hf
  rcases h with h | h | h | h | h
  · cases h.2.1
  · cases h.2.1
  · have := Option.some.inj h.2.1; omega
  · have := Option.some.inj h.2.1; omega
  · have := Option.some.inj h.2.1; omega
theorem TR.congr {z z' : Int32} {f f' s s' : Nat → Int32} {p : Nat} (h : TR z f s p) (hz : z' = z) (hf : f' = f) (hs : ∀ k, k < 125 → s' (p + k) = s (p + k)) : TR z' f' s' p := by
  obtain ⟨n, h1, h2, h3, h4, h5⟩ := h
  subst hz; subst hf
  refine ⟨n, h1, h2, ?_, fun k hk => ?_, h5⟩
  · have := hs 0 (by omega); rw [Nat.add_zero] at this; rw [this]; exact h3
  · have e1 := hs (1 + 2 * k) (by omega)
    have e2 := hs (2 + 2 * k) (by omega)
    rw [← Nat.add_assoc] at e1 e2
    rw [e1, e2]; exact h4 k hk
/-- the relation looks at its own cells alone -/
theorem SR.congr {q : Nat} {A B A' B' : Nat → Nat → Int32} {s s' : Nat → Int32} (h : SR q A B s) (hA : ∀ i, q ≤ i → i < q + 24 → A' i = A i) (hB : ∀ i, q ≤ i → i < q + 24 → B' i = B i) (hs : s' = s) : SR q A' B' s' := by
  subst hs
  obtain ⟨h1, h2, h3, h4, h5, h6, h7, h8, h9, h10, h11, h12, h13, h14, h15, h16, h17⟩ := h
  refine ⟨?_, ?_, ?_, ?_, ?_, ?_, ?_, ?_, ?_, ?_, ?_, ?_, ?_, ?_, ?_, ?_, ?_⟩
  · rw [hB q (by omega) (by omega), hA (q + 2) (by omega) (by omega), hA (q + 3) (by omega) (by omega), hA (q + 4) (by omega) (by omega)]; exact h1
  · rw [hA (q + 1) (by omega) (by omega)]; exact h2
  · rw [hA (q + 2) (by omega) (by omega)]; exact h3
  · rw [hA (q + 3) (by omega) (by omega)]; exact h4
  · rw [hA (q + 4) (by omega) (by omega)]; exact h5
  · rw [hB (q + 6) (by omega) (by omega), hA (q + 7) (by omega) (by omega)]; exact h6
  · rw [hB q (by omega) (by omega)]; exact h7
  · rw [hB q (by omega) (by omega)]; exact h8
  · rw [hB q (by omega) (by omega)]; exact h9
  · rw [hA (q + 8) (by omega) (by omega)]; exact h10
  · intro w hw; rw [hA (q + 10 + w) (by omega) (by omega)]; exact h11 w hw
  · rw [hB q (by omega) (by omega)]; exact h12
  · rw [hB q (by omega) (by omega)]; exact h13
  · rw [hB (q + 14) (by omega) (by omega), hA (q + 15) (by omega) (by omega)]; exact h14
  · rw [hB (q + 16) (by omega) (by omega), hA (q + 17) (by omega) (by omega)]; exact h15
  · rw [hB (q + 18) (by omega) (by omega), hA (q + 19) (by omega) (by omega)]; exact h16
  · rw [hB (q + 21) (by omega) (by omega), hA (q + 22) (by omega) (by omega)]; exact h17
theorem KR.congr {c : Nat} {kq fq : Option Nat} {sz us : Nat} {A B A' B' : Nat → Nat → Int32} (h : KR c kq fq A B) (hQ : QR kq fq sz us) (h1 : B' 0 2 = B 0 2) (h2 : B' 51 3 = B 51 3) (h3 : A' 53 = A 53) (hA : ∀ i, 71 ≤ i → A' i = A i) (hB : ∀ i, 71 ≤ i → B' i = B i) : KR c kq fq A' B' := by
  obtain ⟨g1, g2, g3⟩ := h
  refine ⟨by rw [h1, h2]; exact g1, fun q hq => ?_, fun f hf => ?_⟩
  · have hz := hQ.k hq
    rw [h3]
    exact (g2 q hq).congr (fun i h _ => hA i (by omega)) (fun i h _ => hB i (by omega)) rfl
  · have hz := hQ.f hf
    rw [hB f hz, hA (f + 2) (by omega)]
    exact g3 f hf
theorem OR.congr {A B A' B' : Nat → Nat → Int32} (h : OR A B) (hA : ∀ i, i = 25 ∨ i = 55 ∨ i = 29 ∨ i = 65 ∨ i = 66 ∨ i = 67 ∨ i = 68 ∨ i = 44 ∨ i = 46 ∨ i = 48 ∨ i = 50 → A' i = A i) (hB : ∀ i, i = 28 ∨ i = 43 ∨ i = 45 ∨ i = 47 ∨ i = 49 → B' i = B i) (h51 : B' 51 20 = B 51 20) : OR A' B' := by
  obtain ⟨g1, g2, g3⟩ := h
  refine ⟨?_, ?_, fun k hk => ?_⟩
  · rw [hA 25 (by omega), hA 55 (by omega)]; exact g1
  · rw [hB 28 (by omega), h51, hA 29 (by omega), hA 65 (by omega)]; exact g2
  · rw [hB (43 + 2 * k) (by omega), hA 66 (by omega), hA 67 (by omega), hA 68 (by omega), hA (44 + 2 * k) (by omega)]; exact g3 k hk
def Inv (c : Nat) (kq fq : Option Nat) (sz us : Nat) (A B : Nat → Nat → Int32) : Prop := SR 1 A B (A 52) ∧ OR A B ∧ KR c kq fq A B ∧ QR kq fq sz us
/-- an ERROR is counted on both sides -/
theorem Inv.err {c : Nat} {kq fq : Option Nat} {sz us : Nat} {A B A' : Nat → Nat → Int32} (h : Inv c kq fq sz us A B) {k : Nat} {x y : Int32} (hx : x = A 25 k + nI 1) (hy : y = A 55 k + nI 1) (hA : A' = u1 (u1 A 25 (upd (A 25) k x)) 55 (upd (A 55) k y)) : Inv c kq fq sz us A' B := by
  subst hA
  have ne : ∀ i, i ≠ 25 → i ≠ 55 → u1 (u1 A 25 (upd (A 25) k x)) 55 (upd (A 55) k y) i = A i := fun i h1 h2 => by rw [u1_ne h2, u1_ne h1]
  refine ⟨h.1.congr (fun i h1 h2 => ne i (by omega) (by omega)) (fun _ _ _ => rfl) (ne 52 (by omega) (by omega)), ⟨fun j hj => ?_, ?_, ?_⟩, h.2.2.1.congr h.2.2.2 rfl rfl (ne 53 (by omega) (by omega)) (fun i hi => ne i (by omega) (by omega)) (fun _ _ => rfl), h.2.2.2⟩
  · rw [u1_eq, u1_ne (by omega), u1_eq]
    by_cases hjk : j = k
    · subst hjk; rw [upd_eq', upd_eq', hx, hy, h.2.1.1 j hj]
    · rw [upd_ne' hjk, upd_ne' hjk]; exact h.2.1.1 j hj
  · rw [ne 29 (by omega) (by omega), ne 65 (by omega) (by omega)]; exact h.2.1.2.1
  · intro j hj
    rw [ne 66 (by omega) (by omega), ne 67 (by omega) (by omega), ne 68 (by omega) (by omega), ne (44 + 2 * j) (by omega) (by omega)]
    exact h.2.1.2.2 j hj

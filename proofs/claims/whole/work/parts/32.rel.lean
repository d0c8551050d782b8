/-! ===== what ties the class's state to the reference's row ===== -/
/-- a number below 0 -/
def mI (j : Nat) : Int32 := Int32.ofInt (-(j : Int))
/-- a step of a TEXT: its sort k (0 number, 1 NAME, 2 !, 3 a sign between two) and what it is of -/
def okS (u k v : Nat) : Prop := (k = 0 ∧ v ≤ 9999) ∨ (k = 1 ∧ (v = 114 ∨ v = 119 ∨ (u = 0 ∧ (v = 115 ∨ v = 109)) ∨ (u = 1 ∧ v = 100))) ∨ (k = 2 ∧ v = 0) ∨ (k = 3 ∧ (v = 124 ∨ v = 38 ∨ v = 60 ∨ v = 61 ∨ v = 62 ∨ v = 43 ∨ v = 45 ∨ v = 42 ∨ v = 47 ∨ v = 37))
/-- the class's number for it -/
def cS (k v : Nat) : Int32 := if k = 0 then nI v else if k = 2 then mI 33 else mI v
/-- how many values stand on the stack behind a step -/
def dT (k n : Nat) : Option Nat := if k ≤ 1 then some (n + 1) else if k = 2 then (if 1 ≤ n then some n else none) else if 2 ≤ n then some (n - 1) else none
def dTs (K : Nat → Nat) : Nat → Nat → Option Nat
  | 0, n => some n
  | k + 1, n => (dTs K k n).bind (dT (K k))
/-- a TEXT as the class has it (size z, steps f), and the reference, from place p of its row on -/
def TR (u : Nat) (z : Int32) (f s : Nat → Int32) (p : Nat) : Prop :=
  ∃ (n : Nat) (K V : Nat → Nat), n ≤ 60 ∧ z = nI n ∧ s p = nI n ∧ (∀ k, k < n → okS u (K k) (V k) ∧ f k = cS (K k) (V k) ∧ s (p + 1 + 2 * k) = nI (K k) ∧ s (p + 2 + 2 * k) = nI (V k)) ∧ (n = 0 ∨ dTs K n 0 = some 1)
abbrev rrA : Type := Nat → Nat → Int32
def SP1 (q : Nat) (A B : rrA) (s : Nat → Int32) : Prop := ∃ n, n ≤ 8 ∧ B q 5 = nI n ∧ s 0 = nI n ∧ ∀ f, n ≤ f → f < 8 → A (q + 2) f = 0 ∧ A (q + 3) f = 0 ∧ A (q + 4) f = 0
def SP2 (q : Nat) (A : rrA) (s : Nat → Int32) : Prop := ∀ f, f < 8 → A (q + 1) f = s (14 + 4 * f) ∧ ∃ j, j ≤ 20 ∧ s (14 + 4 * f) = nI j
def SP3 (q : Nat) (A : rrA) (s : Nat → Int32) : Prop := ∀ f, f < 8 → A (q + 2) f = s (15 + 4 * f) ∧ ∃ j, j ≤ 99 ∧ s (15 + 4 * f) = nI j
def SP4 (q : Nat) (A : rrA) (s : Nat → Int32) : Prop := ∃ dy, dy ≤ 9999 ∧ s 2 = nI dy ∧ ∀ f, f < 8 → A (q + 3) f = s (16 + 4 * f) ∧ ∃ j, j ≤ 99 * (dy % 7) ∧ s (16 + 4 * f) = nI j
def SP5 (q : Nat) (A : rrA) (s : Nat → Int32) : Prop := ∀ f, f < 8 → A (q + 4) f = s (17 + 4 * f) ∧ -999999999 ≤ (s (17 + 4 * f)).toInt ∧ (s (17 + 4 * f)).toInt ≤ 999999999
def SP6 (q : Nat) (A B : rrA) (s : Nat → Int32) : Prop := ∃ l, l ≤ 5 ∧ B (q + 6) 1 = nI l ∧ s 1 = nI l ∧ (∀ k, k < l → ∃ kd m : Nat, kd ≤ 6 ∧ m ≤ 9 ∧ A (q + 7) k = nI (10 * kd + m) ∧ s (46 + 2 * k) = nI kd ∧ s (47 + 2 * k) = nI m) ∧ (s 3 = -1 ∨ ∃ k, k < l ∧ s 3 = nI k)
def SP7 (q : Nat) (B : rrA) (s : Nat → Int32) : Prop := B q 7 = s 3 ∧ (B q 8 = s 4 ∧ ∃ j, j ≤ 99 ∧ s 4 = nI j) ∧ (B q 9 = s 5 ∧ ∃ j, j ≤ 99 ∧ s 5 = nI j) ∧ B q 12 = s 2 ∧ B q 13 = s 8
def SP8 (q : Nat) (A : rrA) (s : Nat → Int32) : Prop := ∃ c : Nat → Nat, (∀ w, w < 4 → A (q + 8) w = nI (c w) ∧ s (10 + w) = nI (c w)) ∧ c 0 + c 1 + c 2 + c 3 ≤ 16
def SP9 (q : Nat) (A : rrA) (s : Nat → Int32) : Prop := ∀ w, w < 4 → ∀ f, f < 8 → A (q + 10 + w) f = s (56 + 8 * w + f) ∧ ∃ j, j ≤ 99 ∧ s (56 + 8 * w + f) = nI j
def SP10 (q : Nat) (A B : rrA) (s : Nat → Int32) : Prop := ∃ t, t ≤ 60 ∧ B (q + 14) 1 = nI t ∧ s 6 = nI t ∧ ∀ k, k < t → A (q + 15) k = s (338 + k) ∧ ∃ j, j ≤ 255 ∧ s (338 + k) = nI j
def SP11 (q : Nat) (A B : rrA) (s : Nat → Int32) : Prop := ∃ w, w ≤ 24 ∧ B (q + 16) 1 = nI w ∧ s 7 = nI w ∧ ∀ k, k < w → A (q + 17) k = s (398 + k)
def SR (q : Nat) (A B : rrA) (s : Nat → Int32) : Prop :=
  SP1 q A B s ∧ SP2 q A s ∧ SP3 q A s ∧ SP4 q A s ∧ SP5 q A s ∧ SP6 q A B s ∧ SP7 q B s ∧ SP8 q A s ∧ SP9 q A s ∧ SP10 q A B s ∧ SP11 q A B s ∧ TR 0 (B (q + 18) 2) (A (q + 19)) s 88 ∧ TR 1 (B (q + 21) 2) (A (q + 22)) s 213
/-- what stands beside the state -/
def OR (A B : Nat → Nat → Int32) : Prop :=
  (∀ k, k < 7 → A 25 k = A 55 k) ∧
  (∃ t, t ≤ 30 ∧ B 28 1 = nI t ∧ B 51 20 = nI t ∧ ∀ k, k < t → A 29 k = A 65 k) ∧
  (∀ k, k < 4 → B (43 + 2 * k) 0 = A 66 k ∧ (A 66 k = 0 ∨ A 66 k = 8 ∨ A 66 k = 16 ∨ A 66 k = 32) ∧ (∃ n, n ≤ 24 ∧ B (43 + 2 * k) 1 = nI n ∧ A 67 k = nI n) ∧ ∀ i, i < 24 → A (44 + 2 * k) i = A 68 (24 * k + i))
/-- kept: as many images as calls at most; forecast: its looks are counted -/
def KR (c : Nat) (kq fq : Option Nat) (A B : Nat → Nat → Int32) : Prop :=
  (∃ n, n ≤ c ∧ B 0 2 = nI n ∧ B 51 3 = nI n ∧ (kq = none ↔ n = 0)) ∧
  (∀ q, kq = some q → SR q A B (A 53)) ∧
  (∀ f, fq = some f → ∃ n, n ≤ c ∧ B f 2 = nI n ∧ ∀ i, i < 1296 → ∃ j, j ≤ n ∧ A (f + 2) i = nI j)
/-- where kept and forecast stand, and how much is made -/
def QR (kq fq : Option Nat) (sz us : Nat) : Prop :=
  (kq = none ∧ fq = none ∧ sz = 71 ∧ us ≤ 30000) ∨ (kq = some 71 ∧ fq = none ∧ sz = 95 ∧ us ≤ 31000) ∨ (kq = none ∧ fq = some 71 ∧ sz = 78 ∧ us ≤ 50000) ∨
  (kq = some 71 ∧ fq = some 95 ∧ sz = 102 ∧ us ≤ 51000) ∨ (kq = some 78 ∧ fq = some 71 ∧ sz = 102 ∧ us ≤ 51000)
theorem QR.z {kq fq : Option Nat} {sz us : Nat} (h : QR kq fq sz us) : 71 ≤ sz := by
  rcases h with h | h | h | h | h <;> omega
theorem QR.k {kq fq : Option Nat} {sz us q : Nat} (h : QR kq fq sz us) (hq : kq = some q) : 71 ≤ q := by
  subst hq
  rcases h with h | h | h | h | h
  · cases h.1
  · have := Option.some.inj h.1; omega
  · cases h.1
  · have := Option.some.inj h.1; omega
  · have := Option.some.inj h.1; omega
theorem QR.f {kq fq : Option Nat} {sz us f : Nat} (h : QR kq fq sz us) (hf : fq = some f) : 71 ≤ f := by
  subst hf
  rcases h with h | h | h | h | h
  · cases h.2.1
  · cases h.2.1
  · have := Option.some.inj h.2.1; omega
  · have := Option.some.inj h.2.1; omega
  · have := Option.some.inj h.2.1; omega
theorem TR.congr {u : Nat} {z z' : Int32} {f f' s s' : Nat → Int32} {p : Nat} (h : TR u z f s p) (hz : z' = z) (hf : f' = f) (hs : ∀ k, k < 125 → s' (p + k) = s (p + k)) : TR u z' f' s' p := by
  obtain ⟨n, K, V, h1, h2, h3, h4, h5⟩ := h
  subst hz; subst hf
  refine ⟨n, K, V, h1, h2, ?_, fun k hk => ?_, h5⟩
  · have := hs 0 (by omega); rw [Nat.add_zero] at this; rw [this]; exact h3
  · have e1 := hs (1 + 2 * k) (by omega)
    have e2 := hs (2 + 2 * k) (by omega)
    rw [← Nat.add_assoc] at e1 e2
    rw [e1, e2]; exact h4 k hk
section CG
variable {q : Nat} {A B A' B' : rrA} {s s' : Nat → Int32}
theorem SP1.cg (h : SP1 q A B s) (b1 : B' q 5 = B q 5) (a1 : A' (q + 2) = A (q + 2)) (a2 : A' (q + 3) = A (q + 3)) (a3 : A' (q + 4) = A (q + 4)) (s1 : s' 0 = s 0) : SP1 q A' B' s' := by
  unfold SP1; rw [b1, a1, a2, a3, s1]; exact h
theorem SP2.cg (h : SP2 q A s) (a1 : A' (q + 1) = A (q + 1)) (s1 : ∀ f, f < 8 → s' (14 + 4 * f) = s (14 + 4 * f)) : SP2 q A' s' := fun f hf => by rw [a1, s1 f hf]; exact h f hf
theorem SP3.cg (h : SP3 q A s) (a1 : A' (q + 2) = A (q + 2)) (s1 : ∀ f, f < 8 → s' (15 + 4 * f) = s (15 + 4 * f)) : SP3 q A' s' := fun f hf => by rw [a1, s1 f hf]; exact h f hf
theorem SP4.cg (h : SP4 q A s) (a1 : A' (q + 3) = A (q + 3)) (s0 : s' 2 = s 2) (s1 : ∀ f, f < 8 → s' (16 + 4 * f) = s (16 + 4 * f)) : SP4 q A' s' := by
  obtain ⟨dy, h1, h2, h3⟩ := h
  exact ⟨dy, h1, by rw [s0]; exact h2, fun f hf => by rw [a1, s1 f hf]; exact h3 f hf⟩
theorem SP5.cg (h : SP5 q A s) (a1 : A' (q + 4) = A (q + 4)) (s1 : ∀ f, f < 8 → s' (17 + 4 * f) = s (17 + 4 * f)) : SP5 q A' s' := fun f hf => by rw [a1, s1 f hf]; exact h f hf
theorem SP6.cg (h : SP6 q A B s) (b1 : B' (q + 6) 1 = B (q + 6) 1) (a1 : A' (q + 7) = A (q + 7)) (s0 : s' 1 = s 1) (s3 : s' 3 = s 3) (s1 : ∀ k, k < 5 → s' (46 + 2 * k) = s (46 + 2 * k) ∧ s' (47 + 2 * k) = s (47 + 2 * k)) : SP6 q A' B' s' := by
  obtain ⟨l, h1, h2, h3, h4, h5⟩ := h
  refine ⟨l, h1, by rw [b1]; exact h2, by rw [s0]; exact h3, fun k hk => ?_, by rw [s3]; exact h5⟩
  rw [a1, (s1 k (by omega)).1, (s1 k (by omega)).2]; exact h4 k hk
theorem SP7.cg (h : SP7 q B s) (b1 : B' q = B q) (s2 : s' 2 = s 2) (s3 : s' 3 = s 3) (s4 : s' 4 = s 4) (s5 : s' 5 = s 5) (s8 : s' 8 = s 8) : SP7 q B' s' := by
  unfold SP7; rw [b1, s2, s3, s4, s5, s8]; exact h
theorem SP7.cg' (h : SP7 q B s) (b7 : B' q 7 = B q 7) (b8 : B' q 8 = B q 8) (b9 : B' q 9 = B q 9) (b12 : B' q 12 = B q 12) (b13 : B' q 13 = B q 13) (s2 : s' 2 = s 2) (s3 : s' 3 = s 3) (s4 : s' 4 = s 4) (s5 : s' 5 = s 5) (s8 : s' 8 = s 8) : SP7 q B' s' := by
  unfold SP7; rw [b7, b8, b9, b12, b13, s2, s3, s4, s5, s8]; exact h
theorem SP8.cg (h : SP8 q A s) (a1 : A' (q + 8) = A (q + 8)) (s1 : ∀ w, w < 4 → s' (10 + w) = s (10 + w)) : SP8 q A' s' := by
  obtain ⟨c, h1, h2⟩ := h
  exact ⟨c, fun w hw => by rw [a1, s1 w hw]; exact h1 w hw, h2⟩
theorem SP9.cg (h : SP9 q A s) (a1 : ∀ w, w < 4 → A' (q + 10 + w) = A (q + 10 + w)) (s1 : ∀ w, w < 4 → ∀ f, f < 8 → s' (56 + 8 * w + f) = s (56 + 8 * w + f)) : SP9 q A' s' := fun w hw f hf => by rw [a1 w hw, s1 w hw f hf]; exact h w hw f hf
theorem SP10.cg (h : SP10 q A B s) (b1 : B' (q + 14) 1 = B (q + 14) 1) (a1 : A' (q + 15) = A (q + 15)) (s0 : s' 6 = s 6) (s1 : ∀ k, k < 60 → s' (338 + k) = s (338 + k)) : SP10 q A' B' s' := by
  obtain ⟨t, h1, h2, h3, h4⟩ := h
  exact ⟨t, h1, by rw [b1]; exact h2, by rw [s0]; exact h3, fun k hk => by rw [a1, s1 k (by omega)]; exact h4 k hk⟩
theorem SP11.cg (h : SP11 q A B s) (b1 : B' (q + 16) 1 = B (q + 16) 1) (a1 : A' (q + 17) = A (q + 17)) (s0 : s' 7 = s 7) (s1 : ∀ k, k < 24 → s' (398 + k) = s (398 + k)) : SP11 q A' B' s' := by
  obtain ⟨t, h1, h2, h3, h4⟩ := h
  exact ⟨t, h1, by rw [b1]; exact h2, by rw [s0]; exact h3, fun k hk => by rw [a1, s1 k (by omega)]; exact h4 k hk⟩
/-- the relation looks at its own cells alone -/
theorem SR.congr (h : SR q A B s) (hA : ∀ i, q ≤ i → i < q + 24 → A' i = A i) (hB : ∀ i, q ≤ i → i < q + 24 → B' i = B i) (hs : s' = s) : SR q A' B' s' := by
  subst hs
  obtain ⟨h1, h2, h3, h4, h5, h6, h7, h8, h9, h10, h11, h12, h13⟩ := h
  have a : ∀ i, i < 24 → A' (q + i) = A (q + i) := fun i hi => hA _ (by omega) (by omega)
  have b : ∀ i, i < 24 → B' (q + i) = B (q + i) := fun i hi => hB _ (by omega) (by omega)
  have b0 : B' q = B q := hB q (by omega) (by omega)
  exact ⟨h1.cg (by rw [b0]) (a 2 (by omega)) (a 3 (by omega)) (a 4 (by omega)) rfl, h2.cg (a 1 (by omega)) (fun _ _ => rfl), h3.cg (a 2 (by omega)) (fun _ _ => rfl), h4.cg (a 3 (by omega)) rfl (fun _ _ => rfl), h5.cg (a 4 (by omega)) (fun _ _ => rfl), h6.cg (by rw [b 6 (by omega)]) (a 7 (by omega)) rfl rfl (fun _ _ => ⟨rfl, rfl⟩), h7.cg b0 rfl rfl rfl rfl rfl, h8.cg (a 8 (by omega)) (fun _ _ => rfl), h9.cg (fun w hw => hA _ (by omega) (by omega)) (fun _ _ _ _ => rfl), h10.cg (by rw [b 14 (by omega)]) (a 15 (by omega)) rfl (fun _ _ => rfl), h11.cg (by rw [b 16 (by omega)]) (a 17 (by omega)) rfl (fun _ _ => rfl), h12.congr (by rw [b 18 (by omega)]) (a 19 (by omega)) (fun _ _ => rfl), h13.congr (by rw [b 21 (by omega)]) (a 22 (by omega)) (fun _ _ => rfl)⟩
end CG
theorem KR.congr {c : Nat} {kq fq : Option Nat} {sz us : Nat} {A B A' B' : Nat → Nat → Int32} (h : KR c kq fq A B) (hQ : QR kq fq sz us) (h1 : B' 0 2 = B 0 2) (h2 : B' 51 3 = B 51 3) (h3 : A' 53 = A 53) (hA : ∀ i, 71 ≤ i → A' i = A i) (hB : ∀ i, 71 ≤ i → B' i = B i) : KR c kq fq A' B' := by
  obtain ⟨g1, g2, g3⟩ := h
  refine ⟨by rw [h1, h2]; exact g1, fun q hq => ?_, fun f hf => ?_⟩
  · have hz := hQ.k hq
    rw [h3]
    exact (g2 q hq).congr (fun i h _ => hA i (by omega)) (fun i h _ => hB i (by omega)) rfl
  · have hz := hQ.f hf
    rw [hB f hz, hA (f + 2) (by omega)]
    exact g3 f hf
theorem OR.congr {A B A' B' : Nat → Nat → Int32} (h : OR A B) (hA : ∀ i, i = 25 ∨ i = 55 ∨ i = 29 ∨ i = 65 ∨ i = 66 ∨ i = 67 ∨ i = 68 ∨ i = 44 ∨ i = 46 ∨ i = 48 ∨ i = 50 → A' i = A i) (hB : ∀ i, i = 28 ∨ i = 43 ∨ i = 45 ∨ i = 47 ∨ i = 49 → B' i = B i) (h51 : B' 51 20 = B 51 20) : OR A' B' := by
  obtain ⟨g1, g2, g3⟩ := h
  refine ⟨?_, ?_, fun k hk => ?_⟩
  · rw [hA 25 (by omega), hA 55 (by omega)]; exact g1
  · rw [hB 28 (by omega), h51, hA 29 (by omega), hA 65 (by omega)]; exact g2
  · rw [hB (43 + 2 * k) (by omega), hA 66 (by omega), hA 67 (by omega), hA 68 (by omega), hA (44 + 2 * k) (by omega)]; exact g3 k hk
/-- and the sums of no FIELD at all -/
def QZ (kq fq : Option Nat) (sz us : Nat) (A : Nat → Nat → Int32) : Prop := QR kq fq sz us ∧ A 37 0 = nI 0 ∧ A 38 0 = nI 0
theorem QZ.z {kq fq : Option Nat} {sz us : Nat} {A : Nat → Nat → Int32} (h : QZ kq fq sz us A) : 71 ≤ sz := h.1.z
theorem QZ.cg {kq fq : Option Nat} {sz us : Nat} {A A' : Nat → Nat → Int32} (h : QZ kq fq sz us A) (a : A' 37 = A 37) (b : A' 38 = A 38) : QZ kq fq sz us A' := ⟨h.1, by rw [a]; exact h.2.1, by rw [b]; exact h.2.2⟩
def Inv (c : Nat) (kq fq : Option Nat) (sz us : Nat) (A B : Nat → Nat → Int32) : Prop := SR 1 A B (A 52) ∧ OR A B ∧ KR c kq fq A B ∧ QZ kq fq sz us A
/-- an ERROR is counted on both sides -/
theorem Inv.err {c : Nat} {kq fq : Option Nat} {sz us : Nat} {A B A' : Nat → Nat → Int32} (h : Inv c kq fq sz us A B) {k : Nat} {x y : Int32} (hx : x = A 25 k + nI 1) (hy : y = A 55 k + nI 1) (hA : A' = u1 (u1 A 25 (upd (A 25) k x)) 55 (upd (A 55) k y)) : Inv c kq fq sz us A' B := by
  subst hA
  have ne : ∀ i, i ≠ 25 → i ≠ 55 → u1 (u1 A 25 (upd (A 25) k x)) 55 (upd (A 55) k y) i = A i := fun i h1 h2 => by rw [u1_ne h2, u1_ne h1]
  refine ⟨h.1.congr (fun i h1 h2 => ne i (by omega) (by omega)) (fun _ _ _ => rfl) (ne 52 (by omega) (by omega)), ⟨fun j hj => ?_, ?_, ?_⟩, h.2.2.1.congr h.2.2.2.1 rfl rfl (ne 53 (by omega) (by omega)) (fun i hi => ne i (by omega) (by omega)) (fun _ _ => rfl), h.2.2.2.cg (ne 37 (by omega) (by omega)) (ne 38 (by omega) (by omega))⟩
  · rw [u1_eq, u1_ne (by omega), u1_eq]
    by_cases hjk : j = k
    · subst hjk; rw [upd_eq', upd_eq', hx, hy, h.2.1.1 j hj]
    · rw [upd_ne' hjk, upd_ne' hjk]; exact h.2.1.1 j hj
  · rw [ne 29 (by omega) (by omega), ne 65 (by omega) (by omega)]; exact h.2.1.2.1
  · intro j hj
    rw [ne 66 (by omega) (by omega), ne 67 (by omega) (by omega), ne 68 (by omega) (by omega), ne (44 + 2 * j) (by omega) (by omega)]
    exact h.2.1.2.2 j hj

/-- the state is another one, all beside it stays -/
theorem Inv.now {c : Nat} {kq fq : Option Nat} {sz us : Nat} {A B A' B' : rrA} (h : Inv c kq fq sz us A B) (hS : SR 1 A' B' (A' 52)) (hA : ∀ i, 25 ≤ i → i ≠ 52 → A' i = A i) (hB : ∀ i, i = 0 ∨ 25 ≤ i → B' i = B i) : Inv c kq fq sz us A' B' :=
  ⟨hS, h.2.1.congr (fun i hi => hA i (by omega) (by omega)) (fun i hi => hB i (by omega)) (by rw [hB 51 (by omega)]), h.2.2.1.congr h.2.2.2.1 (by rw [hB 0 (by omega)]) (by rw [hB 51 (by omega)]) (hA 53 (by omega) (by omega)) (fun i hi => hA i (by omega) (by omega)) (fun i hi => hB i (by omega)), h.2.2.2.cg (hA 37 (by omega) (by omega)) (hA 38 (by omega) (by omega))⟩
theorem u1_u1 {A : rrA} {i : Nat} {f g : Nat → Int32} : u1 (u1 A i f) i g = u1 A i g := by
  funext j
  unfold u1
  by_cases h : j = i
  · rw [if_pos h, if_pos h]
  · rw [if_neg h, if_neg h, if_neg h]
theorem upd_same {f : Nat → Int32} {k : Nat} {x : Int32} (h : f k = x) : upd f k x = f := by
  funext j
  unfold upd
  by_cases hj : j = k
  · rw [if_pos hj, hj, h]
  · rw [if_neg hj]
/-! elementary changes of the state, on both sides -/
section EL
variable {A B : rrA} {s : Nat → Int32}
theorem SR.worth (h : SR 1 A B s) {f j : Nat} (hf : f < 8) (hj : j ≤ 20) : SR 1 (u1 A 2 (upd (A 2) f (nI j))) B (upd s (14 + 4 * f) (nI j)) := by
  obtain ⟨h1, h2, h3, h4, h5, h6, h7, h8, h9, h10, h11, h12, h13⟩ := h
  refine ⟨h1.cg rfl rfl rfl rfl (upd_ne' (by omega)), fun g hg => ?_, h3.cg rfl (fun g hg => upd_ne' (by omega)), h4.cg rfl (upd_ne' (by omega)) (fun g hg => upd_ne' (by omega)), h5.cg rfl (fun g hg => upd_ne' (by omega)), h6.cg rfl rfl (upd_ne' (by omega)) (upd_ne' (by omega)) (fun k hk => ⟨upd_ne' (by omega), upd_ne' (by omega)⟩), h7.cg rfl (upd_ne' (by omega)) (upd_ne' (by omega)) (upd_ne' (by omega)) (upd_ne' (by omega)) (upd_ne' (by omega)), h8.cg rfl (fun w hw => upd_ne' (by omega)), h9.cg (fun w hw => u1_ne (by omega)) (fun w hw g hg => upd_ne' (by omega)), h10.cg rfl rfl (upd_ne' (by omega)) (fun k hk => upd_ne' (by omega)), h11.cg rfl rfl (upd_ne' (by omega)) (fun k hk => upd_ne' (by omega)), h12.congr rfl rfl (fun k hk => upd_ne' (by omega)), h13.congr rfl rfl (fun k hk => upd_ne' (by omega))⟩
  show u1 A 2 _ 2 g = _ ∧ _
  rw [u1_eq]
  by_cases hgf : g = f
  · subst hgf; rw [upd_eq', upd_eq']; exact ⟨rfl, j, hj, rfl⟩
  · rw [upd_ne' hgf, upd_ne' (by omega)]; exact h2 g hg
theorem SR.size (h : SR 1 A B s) {n : Nat} (hn : n < 8) (hs : s 0 = nI n) : SR 1 A (u2 B 1 5 (nI (n + 1))) (upd s 0 (nI (n + 1))) := by
  obtain ⟨⟨m, m1, m2, m3, m4⟩, h2, h3, h4, h5, h6, h7, h8, h9, h10, h11, h12, h13⟩ := h
  have hm : m = n := (nI_eq (by omega) (by omega)).mp (m3.symm.trans hs)
  subst hm
  refine ⟨⟨m + 1, by omega, ?_, upd_eq', fun f a b => m4 f (by omega) b⟩, h2.cg rfl (fun g hg => upd_ne' (by omega)), h3.cg rfl (fun g hg => upd_ne' (by omega)), h4.cg rfl (upd_ne' (by omega)) (fun g hg => upd_ne' (by omega)), h5.cg rfl (fun g hg => upd_ne' (by omega)), h6.cg rfl rfl (upd_ne' (by omega)) (upd_ne' (by omega)) (fun k hk => ⟨upd_ne' (by omega), upd_ne' (by omega)⟩), h7.cg' rfl rfl rfl rfl rfl (upd_ne' (by omega)) (upd_ne' (by omega)) (upd_ne' (by omega)) (upd_ne' (by omega)) (upd_ne' (by omega)), h8.cg rfl (fun w hw => upd_ne' (by omega)), h9.cg (fun w hw => rfl) (fun w hw g hg => upd_ne' (by omega)), h10.cg rfl rfl (upd_ne' (by omega)) (fun k hk => upd_ne' (by omega)), h11.cg rfl rfl (upd_ne' (by omega)) (fun k hk => upd_ne' (by omega)), h12.congr rfl rfl (fun k hk => upd_ne' (by omega)), h13.congr rfl rfl (fun k hk => upd_ne' (by omega))⟩
  rw [u2_eq, upd_eq']
end EL

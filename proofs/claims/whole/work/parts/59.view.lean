/-! ===== the two states, seen as numbers ===== -/
def nT (x : Int32) : Nat := x.toNatClampNeg
theorem nT_n {x : Int32} {j b : Nat} (h : x = nI j) (hj : j ≤ b) (hb : b < 2 ^ 31) : x = nI (nT x) ∧ nT x ≤ b := by
  subst h
  unfold nT
  rw [nI_clamp (by omega)]
  exact ⟨rfl, hj⟩
def VW (n nl z zc dy : Nat) (W D M K V Kc Vc R S : Nat → Nat) (law : Option Nat) (A B : rrA) : Prop :=
  CX n nl z W D M K V A B ∧ RX n nl z W D M K V A ∧ B 1 7 = lI law ∧ A 52 3 = lI law ∧ (∀ l, law = some l → l < nl) ∧ (∀ f, f < 8 → A 3 f = nI (R f) ∧ A 52 (14 + 4 * f + 1) = nI (R f) ∧ R f ≤ 99) ∧ (∀ f, f < 8 → A 4 f = nI (S f) ∧ A 52 (14 + 4 * f + 2) = nI (S f) ∧ S f ≤ 99 * (dy % 7)) ∧ (dy ≤ 9999 ∧ B 1 12 = nI dy ∧ A 52 2 = nI dy) ∧ (∀ f, f < 8 → A 5 f = A 52 (14 + 4 * f + 3)) ∧ (zc ≤ 60 ∧ B 22 2 = nI zc ∧ A 52 213 = nI zc ∧ (∀ j, j < zc → okS 1 (Kc j) (Vc j) ∧ A 23 j = cS (Kc j) (Vc j) ∧ A 52 (214 + 2 * j) = nI (Kc j) ∧ A 52 (215 + 2 * j) = nI (Vc j)) ∧ (zc = 0 ∨ dTs Kc zc 0 = some 1))
theorem SR.vw {A B : rrA} (h : SR 1 A B (A 52)) : ∃ (n nl z zc dy : Nat) (W D M K V Kc Vc R S : Nat → Nat) (law : Option Nat), VW n nl z zc dy W D M K V Kc Vc R S law A B := by
  obtain ⟨⟨n, n8, b1, b2, -⟩, h2, h3, ⟨dy, y1, y2, h4⟩, h5, ⟨l, l5, c1, c2, c3, c4⟩, ⟨f1, -, -, f4, -⟩, -, -, -, -, ⟨z, K, V, z1, z2, z3, z4, z5⟩, ⟨zc, Kc, Vc, q1, q2, q3, q4, q5⟩⟩ := h
  obtain ⟨law, hlaw, hlaw2⟩ : ∃ law : Option Nat, A 52 3 = lI law ∧ ∀ k, law = some k → k < l := by
    rcases c4 with e | ⟨k, e1, e2⟩
    · exact ⟨none, e, fun k q => by cases q⟩
    · exact ⟨some k, e2, fun k' q => by cases q; exact e1⟩
  refine ⟨n, l, z, zc, dy, fun f => nT (A 2 f), fun k => nT (A 52 (46 + 2 * k)), fun k => nT (A 52 (47 + 2 * k)), K, V, Kc, Vc, fun f => nT (A 3 f), fun f => nT (A 4 f), law, ⟨n8, b1, ?_, ?_, l5, c1, ?_, z1, z2, fun k hk => ⟨(z4 k hk).1, (z4 k hk).2.1⟩, z5⟩, ⟨b2, ?_, c2, ?_, z3, fun k hk => (z4 k hk).2.2⟩, f1.trans hlaw, hlaw, hlaw2, ?_, ?_, ⟨y1, f4.trans y2, y2⟩, ?_, ⟨q1, q2, q3, q4, q5⟩⟩
  · intro f hf
    obtain ⟨e, j, hj, e2⟩ := h2 f hf
    exact (nT_n (e.trans e2) hj (by omega)).1
  · intro f hf
    obtain ⟨e, j, hj, e2⟩ := h2 f hf
    exact (nT_n (e.trans e2) hj (by omega)).2
  · intro k hk
    obtain ⟨kd, m, k6, m9, e1, e2, e3⟩ := c3 k hk
    obtain ⟨g1, g2⟩ := nT_n e2 k6 (by omega)
    obtain ⟨g3, g4⟩ := nT_n e3 m9 (by omega)
    refine ⟨g2, g4, ?_⟩
    rw [e2] at g1 g2
    rw [e3] at g3 g4
    have i1 := (nI_eq (by omega) (by omega)).mp g1
    have i2 := (nI_eq (by omega) (by omega)).mp g3
    show A 8 k = nI (10 * nT (A 52 (46 + 2 * k)) + nT (A 52 (47 + 2 * k)))
    rw [e2, e3, ← i1, ← i2]
    exact e1
  · intro f hf
    obtain ⟨e, j, hj, e2⟩ := h2 f hf
    show _ = nI (nT (A (1 + 1) f))
    rw [e]
    exact (nT_n e2 hj (by omega)).1
  · intro k hk
    obtain ⟨kd, m, k6, m9, e1, e2, e3⟩ := c3 k hk
    refine ⟨(nT_n e2 k6 (by omega)).1, ?_⟩
    rw [show 46 + 2 * k + 1 = 47 + 2 * k by omega]
    exact (nT_n e3 m9 (by omega)).1
  · intro f hf
    obtain ⟨e, j, hj, e2⟩ := h3 f hf
    rw [show 14 + 4 * f + 1 = 15 + 4 * f by omega]
    show A (1 + 2) f = nI (nT (A (1 + 2) f)) ∧ _ = nI (nT (A (1 + 2) f)) ∧ nT (A (1 + 2) f) ≤ 99
    rw [e]
    exact ⟨(nT_n e2 hj (by omega)).1, nT_n e2 hj (by omega)⟩
  · intro f hf
    obtain ⟨e, j, hj, e2⟩ := h4 f hf
    rw [show 14 + 4 * f + 2 = 16 + 4 * f by omega]
    show A (1 + 3) f = nI (nT (A (1 + 3) f)) ∧ _ = nI (nT (A (1 + 3) f)) ∧ nT (A (1 + 3) f) ≤ _
    rw [e]
    exact ⟨(nT_n e2 hj (by omega)).1, nT_n e2 hj (by omega)⟩
  · intro f hf
    rw [show 14 + 4 * f + 3 = 17 + 4 * f by omega]
    exact (h5 f hf).1
/-- what nobody looks at may be anything -/
theorem Inv.same {c : Nat} {kq fq : Option Nat} {sz us : Nat} {A B A' B' : rrA} (h : Inv c kq fq sz us A B) (hA : ∀ i, i ≠ 6 → i ≠ 21 → i ≠ 24 → i ≠ 32 → i ≠ 33 → i ≠ 35 → i ≠ 40 → i ≠ 41 → i ≠ 54 → i ≠ 56 → i ≠ 57 → i ≠ 58 → i ≠ 59 → i ≠ 60 → i ≠ 61 → i ≠ 62 → i ≠ 63 → i ≠ 64 → i ≠ 69 → A' i = A i) (hB : ∀ i, i ≠ 27 → i ≠ 30 → i ≠ 31 → i ≠ 34 → i ≠ 36 → i ≠ 39 → i ≠ 51 → B' i = B i) (h3 : B' 51 3 = B 51 3) (h20 : B' 51 20 = B 51 20) : Inv c kq fq sz us A' B' := by
  have a : ∀ i, i ≠ 6 ∧ i ≠ 21 ∧ i ≠ 24 ∧ i ≠ 32 ∧ i ≠ 33 ∧ i ≠ 35 ∧ i ≠ 40 ∧ i ≠ 41 ∧ i ≠ 54 ∧ i ≠ 56 ∧ i ≠ 57 ∧ i ≠ 58 ∧ i ≠ 59 ∧ i ≠ 60 ∧ i ≠ 61 ∧ i ≠ 62 ∧ i ≠ 63 ∧ i ≠ 64 ∧ i ≠ 69 → A' i = A i := fun i q => hA i q.1 q.2.1 q.2.2.1 q.2.2.2.1 q.2.2.2.2.1 q.2.2.2.2.2.1 q.2.2.2.2.2.2.1 q.2.2.2.2.2.2.2.1 q.2.2.2.2.2.2.2.2.1 q.2.2.2.2.2.2.2.2.2.1 q.2.2.2.2.2.2.2.2.2.2.1 q.2.2.2.2.2.2.2.2.2.2.2.1 q.2.2.2.2.2.2.2.2.2.2.2.2.1 q.2.2.2.2.2.2.2.2.2.2.2.2.2.1 q.2.2.2.2.2.2.2.2.2.2.2.2.2.2.1 q.2.2.2.2.2.2.2.2.2.2.2.2.2.2.2.1 q.2.2.2.2.2.2.2.2.2.2.2.2.2.2.2.2.1 q.2.2.2.2.2.2.2.2.2.2.2.2.2.2.2.2.2.1 q.2.2.2.2.2.2.2.2.2.2.2.2.2.2.2.2.2.2
  have b : ∀ i, i ≠ 27 ∧ i ≠ 30 ∧ i ≠ 31 ∧ i ≠ 34 ∧ i ≠ 36 ∧ i ≠ 39 ∧ i ≠ 51 → B' i = B i := fun i q => hB i q.1 q.2.1 q.2.2.1 q.2.2.2.1 q.2.2.2.2.1 q.2.2.2.2.2.1 q.2.2.2.2.2.2
  obtain ⟨h1, h2, hK, hQ⟩ := h
  obtain ⟨p1, p2, p3, p4, p5, p6, p7, p8, p9, p10, p11, p12, p13⟩ := h1
  refine ⟨⟨p1.cg (by rw [b 1 (by omega)]) (a _ (by omega)) (a _ (by omega)) (a _ (by omega)) (by rw [a 52 (by omega)]), p2.cg (a _ (by omega)) (fun _ _ => by rw [a 52 (by omega)]), p3.cg (a _ (by omega)) (fun _ _ => by rw [a 52 (by omega)]), p4.cg (a _ (by omega)) (by rw [a 52 (by omega)]) (fun _ _ => by rw [a 52 (by omega)]), p5.cg (a _ (by omega)) (fun _ _ => by rw [a 52 (by omega)]), p6.cg (by rw [b (1 + 6) (by omega)]) (a _ (by omega)) (by rw [a 52 (by omega)]) (by rw [a 52 (by omega)]) (fun _ _ => by rw [a 52 (by omega)]; exact ⟨rfl, rfl⟩), p7.cg (b 1 (by omega)) (by rw [a 52 (by omega)]) (by rw [a 52 (by omega)]) (by rw [a 52 (by omega)]) (by rw [a 52 (by omega)]) (by rw [a 52 (by omega)]), p8.cg (a _ (by omega)) (fun _ _ => by rw [a 52 (by omega)]), p9.cg (fun w hw => a _ (by omega)) (fun _ _ _ _ => by rw [a 52 (by omega)]), p10.cg (by rw [b (1 + 14) (by omega)]) (a _ (by omega)) (by rw [a 52 (by omega)]) (fun _ _ => by rw [a 52 (by omega)]), p11.cg (by rw [b (1 + 16) (by omega)]) (a _ (by omega)) (by rw [a 52 (by omega)]) (fun _ _ => by rw [a 52 (by omega)]), p12.congr (by rw [b (1 + 18) (by omega)]) (a _ (by omega)) (fun _ _ => by rw [a 52 (by omega)]), p13.congr (by rw [b (1 + 21) (by omega)]) (a _ (by omega)) (fun _ _ => by rw [a 52 (by omega)])⟩, h2.congr (fun i hi => a i (by omega)) (fun i hi => b i (by omega)) h20, hK.congr hQ.1 (by rw [b 0 (by omega)]) h3 (a 53 (by omega)) (fun i hi => a i (by omega)) (fun i hi => b i (by omega)), hQ.cg (a 37 (by omega)) (a 38 (by omega))⟩

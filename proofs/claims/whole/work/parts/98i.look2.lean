/-! ===== looking ahead: the calls of the class and of the reference, whole ===== -/
section AH
variable {sz us : Nat} {kq : Option Nat} {L : Nat} {xs : Nat → Int32} {A B A' B' : rrA} {J : Nat → Nat → Int64} {n nl z : Nat} {W D M K V : Nat → Nat} {law : Option Nat} {C : Nat → Nat} {SK : Nat → Nat → Nat} {S0 : Nat → Nat} {dy f fld N lk : Nat}
/-- what a look leaves behind -/
def LKD (n z : Nat) (D M K V W : Nat → Nat) (law : Option Nat) (C : Nat → Nat) (SK : Nat → Nat → Nat) (fld N f lk : Nat) (wanted : Int32) (x : DY) (p : Int32) (A B A' B' : rrA) (rows : Nat) : Prop :=
  (∀ i, i ≠ 21 → (i < f + 1 ∨ f + 6 < i) → A' i = A i) ∧ (∀ i, i ≠ f → B' i = B i) ∧ B' f 2 = nI (lk + 1) ∧ (∀ i, i < 1296 → ∃ j, j ≤ lk + 1 ∧ A' (f + 2) i = nI j) ∧ B' f 11 = nI N ∧ rows ≤ 4096 ∧ B' f 7 = nI rows ∧ B' f 8 = nI (fS C (pyD n z D M K V W law SK fld) (nxD n z D M K V W law SK) (fun p _ _ => if p = wanted then 1 else 0) N x p (nI 0) 1) ∧ ∀ h : Int32 → Int32 → Nat, sN (fun i => h (A' (f + 5) i) (A' (f + 6) i)) rows = fS C (pyD n z D M K V W law SK fld) (nxD n z D M K V W law SK) (fun _ l w => h l w) N x p (nI 0) 1
set_option maxRecDepth 20000 in
set_option maxHeartbeats 4000000 in
theorem s95 (hz : 71 ≤ sz) (hF : FT kq (some f) L xs f) (hfz : f + 7 ≤ sz) (f71 : 71 ≤ f) (f95 : f ≤ 95) (d : Nat) (hl : ∀ l, law = some l → l < nl) (hSK : ∀ w f, w < 4 → f < 8 → SK w f ≤ 99) (hc16 : ∀ w, w < 4 → C w ≤ 16) (hfl : fld < n) (dy9 : dy ≤ 9999) (hN : N ≤ 6) (hlk : lk ≤ 1000000) (hC : CX n nl z W D M K V A B) (e7 : B 1 7 = lI law) (h9 : ∀ w, w < 4 → A 9 w = nI (C w)) (h11 : ∀ w i, w < 4 → i < 8 → A (11 + w) i = nI (SK w i)) (h4 : ∀ i, i < 8 → A 4 i = nI (S0 i)) (h12 : B 1 12 = nI dy) (hm : ∀ i, i < 1296 → ∃ j, j ≤ lk ∧ A (f + 2) i = nI j) {x : DY} (hx1 : x.2.1 = S0) (hx2 : x.2.2.2 = dy) (hG : GOOD n N x) {smm : Nat} (hsm : smm ≤ 1) (hin : smm = 0 → ∀ r w s s', OW z D M K V law r w s = OW z D M K V law r w s') (p wanted : Int32) : ∃ A' B' rows, rx (d + 17) 95 0 [some (.ref f), some (.ref 1), some (.int (nI 0)), some (.int (nI 0)), some (.int p), some (.int (nI 0)), some (.int (nI 1)), none, none, none, none, none] [] sz us (hp kq (some f) L xs A (u2 (u2 (u2 (u2 (u2 (u2 (u2 B f 10 (nI fld)) f 11 (nI N)) f 12 (nI smm)) f 7 (nI 0)) f 8 (nI 0)) f 2 (nI (lk + 1))) f 9 wanted) J) = some (none, sz, us, hp kq (some f) L xs A' B' J) ∧ LKD n z D M K V W law C SK fld N f lk wanted x p A B A' B' rows := by
  obtain ⟨Bb, hBb⟩ : ∃ Bb, Bb = u2 (u2 (u2 (u2 (u2 (u2 (u2 B f 10 (nI fld)) f 11 (nI N)) f 12 (nI smm)) f 7 (nI 0)) f 8 (nI 0)) f 2 (nI (lk + 1))) f 9 wanted := ⟨_, rfl⟩
  have hBi : ∀ i, i ≠ f → Bb i = B i := fun i hi => by rw [hBb]; simp (disch := omega) only [u2_ne]
  have b10 : Bb f 10 = nI fld := by rw [hBb]; simp (disch := omega) only [u2_eq, upd_eq', upd_ne']
  have b11 : Bb f 11 = nI N := by rw [hBb]; simp (disch := omega) only [u2_eq, upd_eq', upd_ne']
  have b12 : Bb f 12 = nI smm := by rw [hBb]; simp (disch := omega) only [u2_eq, upd_eq', upd_ne']
  have b7 : Bb f 7 = nI 0 := by rw [hBb]; simp (disch := omega) only [u2_eq, upd_eq', upd_ne']
  have b8 : Bb f 8 = nI 0 := by rw [hBb]; simp (disch := omega) only [u2_eq, upd_eq', upd_ne']
  have b2 : Bb f 2 = nI (lk + 1) := by rw [hBb]; simp (disch := omega) only [u2_eq, upd_eq', upd_ne']
  have b9 : Bb f 9 = wanted := by rw [hBb]; simp (disch := omega) only [u2_eq, upd_eq', upd_ne']
  have hFC : FC n nl z W D M K V law C SK S0 dy f fld N smm (lk + 1) wanted (QPf n z D M K V W law SK S0 dy fld) A Bb := ⟨hC.cg rfl rfl rfl (by rw [hBi 1 (by omega)]) (by rw [hBi 7 (by omega)]) (by rw [hBi 19 (by omega)]), by rw [hBi 1 (by omega)]; exact e7, h9, h11, h4, by rw [hBi 1 (by omega)]; exact h12, b10, b11, b12, b2, b9, fun i hi => by
    obtain ⟨j, j1, j2⟩ := hm i hi
    exact ⟨j, by omega, j2, fun e => by omega⟩⟩
  have hP : PTH n S0 SK dy 0 0 x := ⟨hx2, fun _ => ⟨0, 0, 0, rfl, Nat.zero_le _, fun i hi => by
    have w1 : swk dy 0 = 1 := if_pos (by omega)
    have w2 : sdk dy 0 = 0 := if_pos (by omega)
    rw [hx1, w1, w2]
    unfold sSum
    simp only [if_true, Nat.zero_sub, Nat.zero_mul, Nat.add_zero]⟩⟩
  have hp4 := p4_6 hN
  obtain ⟨A', B', rows, cnt, a1, g1, g2, g3, g4, g5, g6, g7, g8, g9⟩ := flw (us := us) (J := J) hz hF hfz f71 f95 hl hSK hc16 hfl dy9 hsm hN (by omega) (hQP_of hfl hsm hin) N 0 0 1 x p (nI 0) A Bb 0 0 (d + 17) (by omega) (by omega) hFC hP hG b7 b8 (by omega) (by omega)
  rw [← hBb]
  refine ⟨A', B', rows, a1, g3, fun i hi => by rw [g4 i hi, hBi i hi], g1.2.2.2.2.2.2.2.2.2.1, fun i hi => ?_, g1.2.2.2.2.2.2.2.1, by omega, g5, ?_, fun h => ?_⟩
  · obtain ⟨j, j1, j2, -⟩ := g1.2.2.2.2.2.2.2.2.2.2.2 i hi
    exact ⟨j, j1, j2⟩
  · rw [g6, g8, Nat.zero_add]
  · rw [g9 h]
    show 0 + _ = _
    rw [Nat.zero_add]
/-- a look changed nothing else -/
theorem Inv.lkd {c f : Nat} (h : Inv c kq (some f) sz us A B) (hA : ∀ i, i ≠ 21 → i ≠ 54 → i ≠ 57 → i ≠ 58 → i ≠ 59 → i ≠ 62 → i ≠ 63 → i ≠ 64 → (i < f + 1 ∨ f + 6 < i) → A' i = A i) (hB : ∀ i, i ≠ f → i ≠ 51 → B' i = B i) (h3 : B' 51 3 = B 51 3) (h20 : B' 51 20 = B 51 20) (h2 : ∃ m, m ≤ c + 1 ∧ B' f 2 = nI m ∧ ∀ i, i < 1296 → ∃ j, j ≤ m ∧ A' (f + 2) i = nI j) : Inv (c + 1) kq (some f) sz us A' B' := by
  obtain ⟨f1, f2, f3, f4⟩ := h.2.2.2.1.f2
  have hN : Inv c kq (some f) sz us (fun i => if f ≤ i ∧ i < f + 7 then A i else A' i) (fun i => if f ≤ i ∧ i < f + 7 then B i else B' i) := by
    refine h.same (fun i i1 i2 i3 i4 i5 i6 i7 i8 i9 i10 i11 i12 i13 i14 i15 i16 i17 i18 i19 => ?_) (fun i i1 i2 i3 i4 i5 i6 i7 => ?_) ?_ ?_
    · by_cases q : f ≤ i ∧ i < f + 7
      · exact if_pos q
      · exact (if_neg q).trans (hA i i2 i9 i11 i12 i13 i16 i17 i18 (by omega))
    · by_cases q : f ≤ i ∧ i < f + 7
      · exact if_pos q
      · exact (if_neg q).trans (hB i (by omega) i7)
    · show (if f ≤ 51 ∧ 51 < f + 7 then B 51 else B' 51) 3 = _
      rw [if_neg (by omega)]; exact h3
    · show (if f ≤ 51 ∧ 51 < f + 7 then B 51 else B' 51) 20 = _
      rw [if_neg (by omega)]; exact h20
  have nA : ∀ i, ¬ (f ≤ i ∧ i < f + 7) → A' i = (fun i => if f ≤ i ∧ i < f + 7 then A i else A' i) i := fun i hi => (if_neg hi).symm
  have nB : ∀ i, ¬ (f ≤ i ∧ i < f + 7) → B' i = (fun i => if f ≤ i ∧ i < f + 7 then B i else B' i) i := fun i hi => (if_neg hi).symm
  obtain ⟨hS, hO, ⟨⟨m, n1, b2, b3, b4⟩, hK, hF⟩, hQ0, hz0⟩ := hN
  have e52 := nA 52 (by omega)
  refine ⟨by rw [e52]; exact hS.congr (fun i i1 i2 => nA i (by omega)) (fun i i1 i2 => nB i (by omega)) rfl, hO.congr (fun i hi => nA i (by omega)) (fun i hi => nB i (by omega)) (congrFun (nB 51 (by omega)) 20), ⟨⟨m, by omega, by rw [nB 0 (by omega)]; exact b2, by rw [nB 51 (by omega)]; exact b3, b4⟩, fun q hq => ?_, fun g hg => ?_⟩, ⟨hQ0, by rw [nA 37 (by omega)]; exact hz0.1, by rw [nA 38 (by omega)]; exact hz0.2⟩⟩
  · have hq2 := f4 q hq
    have hq3 := hQ0.k hq
    rw [nA 53 (by omega)]
    exact (hK q hq).congr (fun i i1 i2 => nA i (by omega)) (fun i i1 i2 => nB i (by omega)) rfl
  · cases hg
    exact h2
end AH

/-! ===== the law's run, from its entry ===== -/
def R_law : String := "RainPurseLaw"
def rr_KA : List Int32 := [-1, 0, 0, 1, 1, 2, 0]
def rr_BO : List Int32 := [10, 11, 12, 13, 20, 0, 0, 21, 0, 30, 0, 0, 40, 0, 41, 0, 0, 0, 50, 0, 0, 60, 0, 0, 70, 71, 0, 0]
def rr_NS : List Int32 := [0, 1, 6, 36]
def rr_N0 (L : Nat) (k : Nat) : Nat := match k with | 0 => 7 | 1 => 28 | 2 => 4 | _ => L
def rr_f0 (xs : Nat → Int32) (k : Nat) : Nat → Int32 := match k with | 0 => fun j => rr_KA.getD j 0 | 1 => fun j => rr_BO.getD j 0 | 2 => fun j => rr_NS.getD j 0 | _ => xs
def rr_h0 (L : Nat) (xs : Nat → Int32) : rr_H := fun j => if 1000000 ≤ j ∧ j < 1000004 then rr_cI (rr_N0 L (j - 1000000)) (rr_f0 xs (j - 1000000)) else rr_cI 0 (fun _ => 0)
theorem rr_arrs {s : State} {args : Array Value} (hts : ∀ w ∈ rr_WS, w.before args s = true) (hAO : va_AO "RainPurse$Sheet" s) (hAA : (Cond.arrayOver (.array .int)).before args s = true) : ∃ cA : Nat → ClassId, rr_cs cA s := by
  have hA0 := rr_okX
  simp only [Bool.and_eq_true] at hA0
  obtain ⟨c0, k0, m0, a1, a2, a3⟩ := Cond.arrayClass_spec (hts _ (rr_at_mem hA0.1.1.1.1.1.1.1.1))
  obtain ⟨c1, k1, m1, b1, b2, b3⟩ := Cond.arrayClass_spec (hts _ (rr_at_mem hA0.1.1.1.1.1.1.1.2))
  obtain ⟨m2, c2, k2, d1, -, d3, d4, d5⟩ := Cond.arrayOver_spec (va_AO.use (A := args) hAO)
  obtain ⟨m3, c3, k3, e1, -, e3, e4, e5⟩ := arrayOverA_spec hAA
  refine ⟨fun k => match k with | 0 => c0 | 1 => c1 | 2 => c2 | _ => c3, ⟨fun n z => ⟨fun k h => (by cases h), k0, a2, m0, a3⟩, a1⟩, ⟨fun n z => ⟨fun k h => (by cases h), k1, b2, m1, b3⟩, b1⟩, ⟨fun n z => ⟨fun k h => (by cases h), k2, d3, m2, d4⟩, k2, m2, d3, d4, d1, d5⟩, fun n z => ⟨fun k h => (by cases h), k3, e3, m3, e4⟩, e5⟩
theorem rr_known {s : State} {args : Array Value} (hts : ∀ w ∈ rr_WS, w.before args s = true) : ∃ D : va_G, va_K D vwCl [] s := by
  have h : ∀ ci : Nat, ∃ (cC : ClassId) (iS : Nat → Nat), ∀ q : vw_C, vwCl[ci]? = some q → u_Kn s q.1 q.2.1 q.2.2 cC iS := by
    intro ci
    cases hv : vwCl[ci]? with
    | none => exact ⟨0, fun _ => 0, fun q hq => by cases hq⟩
    | some q =>
      obtain ⟨C, T, M⟩ := q
      have hlt : ci < 11 := (List.getElem?_eq_some_iff.mp hv).1
      have h5 := List.all_eq_true.mp rr_okI_all _ (List.mem_range.mpr hlt)
      rw [hv] at h5
      simp only [Bool.and_eq_true, decide_eq_true_eq] at h5
      obtain ⟨cC, iS, hK⟩ := u_known (T := T) (N := M) hts (rr_lays_ok hv) (hts _ (rr_at_mem h5.1.1))
      exact ⟨cC, iS, fun q hq => by cases hq; exact hK⟩
  exact ⟨(fun ci => Classical.choose (h ci), fun ci => Classical.choose (Classical.choose_spec (h ci))), fun ci q hq => Classical.choose_spec (Classical.choose_spec (h ci)) q hq, fun k q hq => by simp at hq⟩
def lw_P (b : Addr) (xs : List Int32) (args : Array Value) (s : State) : Prop := args = #[.ref b] ∧ s.IntsAt b xs ∧ xs.length ≤ 3072 ∧ (Jvm.Cond.and given_1 narrow_1).before args s = true
def lw_Q (_ : Array Value) (s : State) (o : Outcome) (t : State) : Prop := o = .returned (some (.int 1)) ∧ Framed s o t [] 600000 7302250
def lw_Z (below : List Frame) (a : Array Value) (s : State) : State → Prop := fun t => ∃ o, t.status = .running ∧ Ended t below o ∧ lw_Q a s o t
theorem rr_stat {args : Array Value} {s : State} {b : Addr} (hg : (Jvm.Cond.and given_1 narrow_1).before #[Value.ref b] s = true) {C n : String} {M : Nat} {vs : List Int32} (hM : vs.length = M) (hM2 : M < 2 ^ 31) (hl : (Cond.laysStatic C n "[I").before #[Value.ref b] s = true) (hini : (Cond.initialized C).before #[Value.ref b] s = true)
    (harr : (Cond.arrayOf (.static C n "[I") .int) ∈ flatC (Jvm.Cond.and given_1 narrow_1)) (hlen : (Cond.eq (.length (.static C n "[I")) (.int (Int32.ofNat M))) ∈ flatC (Jvm.Cond.and given_1 narrow_1)) (hel : ∀ j, j < M → (Cond.eq (.elem (.static C n "[I") (.int (Int32.ofNat j))) (.int (vs.getD j 0))) ∈ flatC (Jvm.Cond.and given_1 narrow_1)) :
    ∃ t : Nat, va_Z C n "[I" (.ref t) (fun q => s.heap.size ≤ q) s s.heap ∧ va_T .int t M (fun j => .int (vs.getD j 0)) (fun q => s.heap.size ≤ q) s s.heap := by
  have hs := flat_of_before _ hg
  have hA : ∀ a : Nat, a < s.heap.size → ¬ s.heap.size ≤ a := fun a h => Nat.not_le.mpr h
  obtain ⟨t, h1, h2⟩ := va_Tof (args := #[Value.ref b]) (s := s) (tm := .static C n "[I") (ty := .int) (N := M) (f := fun j => .int (vs.getD j 0)) (A := fun q => s.heap.size ≤ q) hM2 (hs _ harr) (va_eqt (hs _ hlen)) (fun j hj => va_eqt (hs _ (hel j hj))) hA
  exact ⟨t, va_Zof hl hini h1 hA, h2⟩

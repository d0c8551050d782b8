/-! ===== plain rows for the symbolic runs ===== -/
theorem ob_ite {α β : Type} {c : Prop} [Decidable c] (a b : Option α) (f : α → Option β) : (if c then a else b).bind f = if c then a.bind f else b.bind f := by
  by_cases h : c
  · rw [if_pos h, if_pos h]
  · rw [if_neg h, if_neg h]
theorem i01 : ((0 : Int32) = 1) = False := eq_false (by decide)
theorem i10 : ((1 : Int32) = 0) = False := eq_false (by decide)
theorem i00 : ((0 : Int32) = 0) = True := eq_true rfl
theorem ifT {α : Type} (a b : α) : (if True then a else b) = a := if_pos trivial
theorem ifF {α : Type} (a b : α) : (if False then a else b) = b := if_neg id
/-! numbers from 0 on: nI -/
theorem q_in {j N : Nat} (h : j < N) (hN : N < 2 ^ 31) : rr_in (nI j) N = true := by
  unfold rr_in
  rw [nI_clamp (by omega), decide_eq_true (nI_pos' (by omega)), decide_eq_true h]; rfl
theorem q_out {j N : Nat} (h : N ≤ j) (hN : j < 2 ^ 31) : rr_in (nI j) N = false := by
  unfold rr_in
  rw [nI_clamp hN, decide_eq_false (by omega : ¬ j < N), Bool.and_false]
theorem q_cl {j : Nat} (h : j < 2 ^ 31) : (nI j).toNatClampNeg = j := nI_clamp h
theorem q_mul (a b : Nat) : nI a * nI b = nI (a * b) := by
  unfold nI
  exact (Int32.ofNat_mul a b).symm
theorem q_add (a b : Nat) : nI a + nI b = nI (a + b) := nI_add a b
theorem q_sub {a b : Nat} (h : b ≤ a) : nI a - nI b = nI (a - b) := by
  have e : nI a = nI (a - b) + nI b := by rw [nI_add]; congr 1; omega
  rw [e]
  exact Int32.add_sub_cancel _ _
theorem q_lt {a b : Nat} (ha : a < 2 ^ 31) (hb : b < 2 ^ 31) : (nI a < nI b) = (a < b) := propext (nI_ltI ha hb)
theorem q_le {a b : Nat} (ha : a < 2 ^ 31) (hb : b < 2 ^ 31) : (nI a ≤ nI b) = (a ≤ b) := propext (nI_leI ha hb)
theorem q_eq {a b : Nat} (ha : a < 2 ^ 31) (hb : b < 2 ^ 31) : (nI a = nI b) = (a = b) := propext (nI_eq ha hb)
theorem q_neg {a : Nat} (h : a < 2 ^ 31) : (nI a < 0) = False := eq_false (nI_pos h)
theorem q_inT {i : Int32} {N : Nat} (h : rr_in i N = true) : ∃ j, j < N ∧ i = nI j := by
  unfold rr_in at h
  simp only [Bool.and_eq_true, decide_eq_true_eq] at h
  obtain ⟨j, h1, h2⟩ := nI_of (x := i) (Int32.not_lt.mpr h.1)
  subst h2
  rw [nI_clamp h1] at h
  exact ⟨j, h.2, rfl⟩
theorem k0 : (0 : Int32) = nI 0 := rfl
theorem k1 : (1 : Int32) = nI 1 := rfl
theorem k2 : (2 : Int32) = nI 2 := rfl
theorem k3 : (3 : Int32) = nI 3 := rfl
theorem k4 : (4 : Int32) = nI 4 := rfl
theorem k5 : (5 : Int32) = nI 5 := rfl
theorem k6 : (6 : Int32) = nI 6 := rfl
theorem k7 : (7 : Int32) = nI 7 := rfl
theorem k8 : (8 : Int32) = nI 8 := rfl
theorem k9 : (9 : Int32) = nI 9 := rfl
theorem k10 : (10 : Int32) = nI 10 := rfl
theorem k11 : (11 : Int32) = nI 11 := rfl
theorem k12 : (12 : Int32) = nI 12 := rfl
theorem k13 : (13 : Int32) = nI 13 := rfl
theorem k14 : (14 : Int32) = nI 14 := rfl
theorem k15 : (15 : Int32) = nI 15 := rfl
theorem k16 : (16 : Int32) = nI 16 := rfl
theorem k20 : (20 : Int32) = nI 20 := rfl
theorem k24 : (24 : Int32) = nI 24 := rfl
theorem k30 : (30 : Int32) = nI 30 := rfl
theorem k32 : (32 : Int32) = nI 32 := rfl
theorem k46 : (46 : Int32) = nI 46 := rfl
theorem k56 : (56 : Int32) = nI 56 := rfl
theorem k60 : (60 : Int32) = nI 60 := rfl
theorem k69 : (69 : Int32) = nI 69 := rfl
theorem k88 : (88 : Int32) = nI 88 := rfl
theorem k99 : (99 : Int32) = nI 99 := rfl
theorem k100 : (100 : Int32) = nI 100 := rfl
theorem k125 : (125 : Int32) = nI 125 := rfl
theorem k255 : (255 : Int32) = nI 255 := rfl
theorem k338 : (338 : Int32) = nI 338 := rfl
theorem k398 : (398 : Int32) = nI 398 := rfl
theorem k422 : (422 : Int32) = nI 422 := rfl

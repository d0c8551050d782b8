/-! ===== written by program: the heap as a function of its contents ===== -/
def sh_st (q : Nat) (a b : Nat → Int32) : List rr_C := [
  rr_cO 6 [.ref (q + 1), .ref (q + 2), .ref (q + 3), .ref (q + 4), .ref (q + 5), .int (b 5), .ref (q + 6), .int (b 7), .int (b 8), .int (b 9), .ref (q + 8), .ref (q + 9), .int (b 12), .int (b 13), .ref (q + 14), .ref (q + 16), .ref (q + 18), .ref (q + 21)],
  rr_cI 8 a,
  rr_cI 8 a,
  rr_cI 8 a,
  rr_cI 8 a,
  rr_cI 8 a,
  rr_cO 3 [.ref (q + 7), .int (b 1)],
  rr_cI 5 a,
  rr_cI 4 a,
  rr_cQ 1 4 (fun i => ([(q + 10), (q + 11), (q + 12), (q + 13)] : List Nat)[i]?),
  rr_cI 8 a,
  rr_cI 8 a,
  rr_cI 8 a,
  rr_cI 8 a,
  rr_cO 3 [.ref (q + 15), .int (b 1)],
  rr_cI 60 a,
  rr_cO 3 [.ref (q + 17), .int (b 1)],
  rr_cI 24 a,
  rr_cO 7 [.ref (q + 19), .ref (q + 20), .int (b 2)],
  rr_cI 60 a,
  rr_cI 60 a,
  rr_cO 7 [.ref (q + 22), .ref (q + 23), .int (b 2)],
  rr_cI 60 a,
  rr_cI 60 a]
def sh_fc (f : Nat) (a b : Nat → Int32) : List rr_C := [
  rr_cO 0 [.ref (f + 1), .ref (f + 2), .int (b 2), .ref (f + 3), .ref (f + 4), .ref (f + 5), .ref (f + 6), .int (b 7), .int (b 8), .int (b 9), .int (b 10), .int (b 11), .int (b 12)],
  rr_cI 5184 a,
  rr_cI 1296 a,
  rr_cI 8 a,
  rr_cI 8 a,
  rr_cI 4096 a,
  rr_cI 4096 a]
def sh_tb (kq fq : Option Nat) (a b : Nat → Int32) (w : Nat → Int64) : List rr_C := [
  rr_cO 9 [.ref 1, va_rf kq, .int (b 2), .ref 25, .ref 26, .ref 27, .ref 30, .ref 36, .ref 39, .ref 41, .ref 42, va_rf fq],
  rr_cO 6 [.ref 2, .ref 3, .ref 4, .ref 5, .ref 6, .int (b 5), .ref 7, .int (b 7), .int (b 8), .int (b 9), .ref 9, .ref 10, .int (b 12), .int (b 13), .ref 15, .ref 17, .ref 19, .ref 22],
  rr_cI 8 a,
  rr_cI 8 a,
  rr_cI 8 a,
  rr_cI 8 a,
  rr_cI 8 a,
  rr_cO 3 [.ref 8, .int (b 1)],
  rr_cI 5 a,
  rr_cI 4 a,
  rr_cQ 1 4 (fun i => ([11, 12, 13, 14] : List Nat)[i]?),
  rr_cI 8 a,
  rr_cI 8 a,
  rr_cI 8 a,
  rr_cI 8 a,
  rr_cO 3 [.ref 16, .int (b 1)],
  rr_cI 60 a,
  rr_cO 3 [.ref 18, .int (b 1)],
  rr_cI 24 a,
  rr_cO 7 [.ref 20, .ref 21, .int (b 2)],
  rr_cI 60 a,
  rr_cI 60 a,
  rr_cO 7 [.ref 23, .ref 24, .int (b 2)],
  rr_cI 60 a,
  rr_cI 60 a,
  rr_cI 7 a,
  rr_cQ 0 4 (fun i => ([43, 45, 47, 49] : List Nat)[i]?),
  rr_cO 8 [.ref 28, .int (b 1), .int (b 2), .int (b 3), .int (b 4)],
  rr_cO 3 [.ref 29, .int (b 1)],
  rr_cI 30 a,
  rr_cO 2 [.ref 31, .ref 34, .int (b 2), .int (b 3)],
  rr_cO 7 [.ref 32, .ref 33, .int (b 2)],
  rr_cI 60 a,
  rr_cI 60 a,
  rr_cO 3 [.ref 35, .int (b 1)],
  rr_cI 60 a,
  rr_cO 4 [.int (b 0), .int (b 1), .int (b 2), .ref 37, .ref 38],
  rr_cI 256 a,
  rr_cI 256 a,
  rr_cO 1 [.int (b 0), .int (b 1), .int (b 2), .int (b 3), .ref 40],
  rr_cI 8 a,
  rr_cI 8 a,
  rr_cJ 8 w,
  rr_cO 5 [.int (b 0), .int (b 1), .ref 44],
  rr_cI 24 a,
  rr_cO 5 [.int (b 0), .int (b 1), .ref 46],
  rr_cI 24 a,
  rr_cO 5 [.int (b 0), .int (b 1), .ref 48],
  rr_cI 24 a,
  rr_cO 5 [.int (b 0), .int (b 1), .ref 50],
  rr_cI 24 a,
  rr_cO 10 [.ref 52, .ref 53, .ref 54, .int (b 3), .ref 55, .int (b 5), .int (b 6), .int (b 7), .int (b 8), .ref 56, .ref 57, .ref 58, .ref 59, .ref 60, .ref 61, .ref 62, .ref 63, .ref 64, .int (b 18), .ref 65, .int (b 20), .int (b 21), .int (b 22), .ref 66, .ref 67, .ref 68, .ref 69, .ref 70],
  rr_cI 422 a,
  rr_cI 422 a,
  rr_cI 422 a,
  rr_cI 7 a,
  rr_cI 124 a,
  rr_cI 128 a,
  rr_cI 64 a,
  rr_cI 8 a,
  rr_cI 256 a,
  rr_cI 8 a,
  rr_cI 4096 a,
  rr_cI 4096 a,
  rr_cI 4096 a,
  rr_cI 30 a,
  rr_cI 4 a,
  rr_cI 4 a,
  rr_cI 96 a,
  rr_cI 24 a,
  rr_cJ 8 w]
def sh_no : rr_C := rr_cI 0 (fun _ => 0)
def sh_fx (fq : Option Nat) (j : Nat) (a b : Nat → Int32) : rr_C := match fq with
  | some f => if f ≤ j ∧ j < f + 7 then (sh_fc f a b).getD (j - f) sh_no else sh_no
  | none => sh_no
def sh_kx (kq fq : Option Nat) (j : Nat) (a b : Nat → Int32) : rr_C := match kq with
  | some q => if q ≤ j ∧ j < q + 24 then (sh_st q a b).getD (j - q) sh_no else sh_fx fq j a b
  | none => sh_fx fq j a b
def sh (kq fq : Option Nat) (L : Nat) (xs : Nat → Int32) (j : Nat) (a b : Nat → Int32) (w : Nat → Int64) : rr_C :=
  if j < 71 then (sh_tb kq fq a b w).getD j sh_no else if 1000000 ≤ j ∧ j < 1000004 then rr_cI (rr_N0 L (j - 1000000)) (rr_f0 xs (j - 1000000)) else sh_kx kq fq j a b
/-- the heap: kept and forecast stand at kq, fq (where they are made); contents by cell -/
def hp (kq fq : Option Nat) (L : Nat) (xs : Nat → Int32) (A B : Nat → Nat → Int32) (J : Nat → Nat → Int64) : rr_H := fun j => sh kq fq L xs j (A j) (B j) (J j)
def u1 (A : Nat → Nat → Int32) (i : Nat) (g : Nat → Int32) : Nat → Nat → Int32 := fun j => if j = i then g else A j
def u2 (B : Nat → Nat → Int32) (i k : Nat) (x : Int32) : Nat → Nat → Int32 := fun j => if j = i then upd (B i) k x else B j
def uJ (J : Nat → Nat → Int64) (i : Nat) (g : Nat → Int64) : Nat → Nat → Int64 := fun j => if j = i then g else J j
theorem u1_eq {A : Nat → Nat → Int32} {i : Nat} {g : Nat → Int32} : u1 A i g i = g := if_pos rfl
theorem u1_ne {A : Nat → Nat → Int32} {i j : Nat} {g : Nat → Int32} (h : j ≠ i) : u1 A i g j = A j := if_neg h
theorem u2_eq {B : Nat → Nat → Int32} {i k : Nat} {x : Int32} : u2 B i k x i = upd (B i) k x := if_pos rfl
theorem u2_ne {B : Nat → Nat → Int32} {i j k : Nat} {x : Int32} (h : j ≠ i) : u2 B i k x j = B j := if_neg h
theorem uJ_eq {J : Nat → Nat → Int64} {i : Nat} {g : Nat → Int64} : uJ J i g i = g := if_pos rfl
theorem uJ_ne {J : Nat → Nat → Int64} {i j : Nat} {g : Nat → Int64} (h : j ≠ i) : uJ J i g j = J j := if_neg h
theorem upd_eq' {f : Nat → Int32} {k : Nat} {x : Int32} : upd f k x k = x := if_pos rfl
theorem upd_ne' {f : Nat → Int32} {k j : Nat} {x : Int32} (h : j ≠ k) : upd f k x j = f j := if_neg h
section HP
variable {kq fq : Option Nat} {L : Nat} {xs : Nat → Int32} {A B : Nat → Nat → Int32} {J : Nat → Nat → Int64} {sz : Nat}
theorem hp_upA {i : Nat} {g : Nat → Int32} {c : rr_C} (hc : sh kq fq L xs i g (B i) (J i) = c) : rr_up (hp kq fq L xs A B J) i c = hp kq fq L xs (u1 A i g) B J := by
  funext j
  unfold rr_up hp
  by_cases hj : j = i
  · subst hj; rw [if_pos rfl, u1_eq, hc]
  · rw [if_neg hj, u1_ne hj]
theorem hp_upB {i : Nat} {g : Nat → Int32} {c : rr_C} {B' : Nat → Nat → Int32} (hB : ∀ j, j ≠ i → B' j = B j) (hc : sh kq fq L xs i (A i) (B' i) (J i) = c) : rr_up (hp kq fq L xs A B J) i c = hp kq fq L xs A B' J := by
  funext j
  unfold rr_up hp
  by_cases hj : j = i
  · subst hj; rw [if_pos rfl, hc]
  · rw [if_neg hj, hB j hj]
theorem hp_upJ {i : Nat} {g : Nat → Int64} {c : rr_C} (hc : sh kq fq L xs i (A i) (B i) g = c) : rr_up (hp kq fq L xs A B J) i c = hp kq fq L xs A B (uJ J i g) := by
  funext j
  unfold rr_up hp
  by_cases hj : j = i
  · subst hj; rw [if_pos rfl, uJ_eq, hc]
  · rw [if_neg hj, uJ_ne hj]
theorem hp_ai {i n : Nat} (hs : ∀ a b w, sh kq fq L xs i a b w = rr_cI n a) (hz : i < sz) (k : Int32) : rr_ai sz (hp kq fq L xs A B J) i k = if rr_in k n = true then some (A i k.toNatClampNeg) else none := by
  have e : hp kq fq L xs A B J i = rr_cI n (A i) := hs _ _ _
  unfold rr_ai
  rw [e]
  have hr : rr_rd sz i = true := by unfold rr_rd; rw [decide_eq_true hz]; rfl
  simp only [hr, true_and]
theorem hp_al {i n : Nat} (hs : ∀ a b w, sh kq fq L xs i a b w = rr_cI n a) (hz : i < sz) : rr_al sz (hp kq fq L xs A B J) i = some (Int32.ofNat n) := by
  have e : hp kq fq L xs A B J i = rr_cI n (A i) := hs _ _ _
  unfold rr_al
  rw [e]
  have hr : rr_rd sz i = true := by unfold rr_rd; rw [decide_eq_true hz]; rfl
  simp only [hr, if_true]
theorem hp_wi {i n : Nat} (hs : ∀ a b w, sh kq fq L xs i a b w = rr_cI n a) (hz : i < sz) (k x : Int32) : rr_wi sz (hp kq fq L xs A B J) i k x = if rr_in k n = true then some (hp kq fq L xs (u1 A i (upd (A i) k.toNatClampNeg x)) B J) else none := by
  have e : hp kq fq L xs A B J i = rr_cI n (A i) := hs _ _ _
  unfold rr_wi
  rw [e]
  simp only [hz, true_and]
  by_cases hk : rr_in k n = true
  · rw [if_pos hk, if_pos hk, hp_upA (hs _ _ _)]
  · rw [if_neg hk, if_neg hk]
theorem hp_aj {i n : Nat} (hs : ∀ a b w, sh kq fq L xs i a b w = rr_cJ n w) (hz : i < sz) (k : Int32) : rr_aj sz (hp kq fq L xs A B J) i k = if rr_in k n = true then some (J i k.toNatClampNeg) else none := by
  have e : hp kq fq L xs A B J i = rr_cJ n (J i) := hs _ _ _
  unfold rr_aj
  rw [e]
  simp only [hz, true_and]
theorem hp_wj {i n : Nat} (hs : ∀ a b w, sh kq fq L xs i a b w = rr_cJ n w) (hz : i < sz) (k : Int32) (x : Int64) : rr_wj sz (hp kq fq L xs A B J) i k x = if rr_in k n = true then some (hp kq fq L xs A B (uJ J i (vp_updL (J i) k.toNatClampNeg x))) else none := by
  have e : hp kq fq L xs A B J i = rr_cJ n (J i) := hs _ _ _
  unfold rr_wj
  rw [e]
  simp only [hz, true_and]
  by_cases hk : rr_in k n = true
  · rw [if_pos hk, if_pos hk, hp_upJ (hs _ _ _)]
  · rw [if_neg hk, if_neg hk]
theorem hp_gf {i ci k : Nat} {v : Value} {fs : List Value} (hs : sh kq fq L xs i (A i) (B i) (J i) = rr_cO ci fs) (hz : i < sz) (hv : fs[k]? = some v) : rr_gf sz (hp kq fq L xs A B J) i ci k = some v := by
  have e : hp kq fq L xs A B J i = rr_cO ci fs := hs
  unfold rr_gf
  rw [e]
  simp only [hz, true_and, and_self, if_true]
  exact hv
theorem hp_pf {i ci k : Nat} {x : Int32} {fs fs' : List Value} (hs : sh kq fq L xs i (A i) (B i) (J i) = rr_cO ci fs) (hz : i < sz) (hk : k < fs.length) (hf : fs.set k (.int x) = fs') (hs' : sh kq fq L xs i (A i) (upd (B i) k x) (J i) = rr_cO ci fs') : rr_pf sz (hp kq fq L xs A B J) i ci k (.int x) = some (hp kq fq L xs A (u2 B i k x) J) := by
  have e : hp kq fq L xs A B J i = rr_cO ci fs := hs
  unfold rr_pf
  rw [e]
  simp only [hz, hk, true_and, and_self, if_true, hf]
  rw [hp_upB (g := fun _ => 0) (fun j hj => u2_ne hj) (by rw [u2_eq]; exact hs')]
theorem hp_is {i ci : Nat} {fs : List Value} (hs : sh kq fq L xs i (A i) (B i) (J i) = rr_cO ci fs) (hz : i < sz) : rr_is sz (hp kq fq L xs A B J) ci i = true := by
  have e : hp kq fq L xs A B J i = rr_cO ci fs := hs
  simp [rr_is, rr_isO, e, hz]
theorem hp_cp {i0 i n0 n1 : Nat} (h0 : ∀ a b w, sh kq fq L xs i0 a b w = rr_cI n0 a) (h1 : ∀ a b w, sh kq fq L xs i a b w = rr_cI n1 a) (z0 : i0 < sz) (z1 : i < sz) (sp dp n : Int32) : rr_cp sz (hp kq fq L xs A B J) i0 sp i dp n = if 0 ≤ n ∧ 0 ≤ dp ∧ 0 ≤ sp ∧ sp.toNatClampNeg + n.toNatClampNeg ≤ n0 ∧ dp.toNatClampNeg + n.toNatClampNeg ≤ n1 then some (hp kq fq L xs (u1 A i (va_cpy (A i0) (A i) sp.toNatClampNeg dp.toNatClampNeg n.toNatClampNeg)) B J) else none := by
  have e0 : hp kq fq L xs A B J i0 = rr_cI n0 (A i0) := h0 _ _ _
  have e1 : hp kq fq L xs A B J i = rr_cI n1 (A i) := h1 _ _ _
  unfold rr_cp
  rw [e0, e1]
  simp only [z0, z1, true_and]
  by_cases hh : 0 ≤ n ∧ 0 ≤ dp ∧ 0 ≤ sp ∧ sp.toNatClampNeg + n.toNatClampNeg ≤ n0 ∧ dp.toNatClampNeg + n.toNatClampNeg ≤ n1
  · rw [if_pos hh, if_pos hh, hp_upA (h1 _ _ _)]
  · rw [if_neg hh, if_neg hh]
theorem hp_ro {k : Nat} (hk : k < 4) (i : Int32) : rr_ai sz (hp kq fq L xs A B J) (1000000 + k) i = if rr_in i (rr_N0 L k) = true then some (rr_f0 xs k i.toNatClampNeg) else none := by
  have e : hp kq fq L xs A B J (1000000 + k) = rr_cI (rr_N0 L k) (rr_f0 xs k) := by
    unfold hp sh
    rw [if_neg (by omega), if_pos (by omega), Nat.add_sub_cancel_left]
  unfold rr_ai
  rw [e]
  have hr : rr_rd sz (1000000 + k) = true := by
    unfold rr_rd
    rw [decide_eq_true (show 1000000 ≤ 1000000 + k by omega), decide_eq_true (show 1000000 + k < 1000004 by omega)]
    simp
  simp only [hr, true_and]
theorem hp_rl {k : Nat} (hk : k < 4) : rr_al sz (hp kq fq L xs A B J) (1000000 + k) = some (Int32.ofNat (rr_N0 L k)) := by
  have e : hp kq fq L xs A B J (1000000 + k) = rr_cI (rr_N0 L k) (rr_f0 xs k) := by
    unfold hp sh
    rw [if_neg (by omega), if_pos (by omega), Nat.add_sub_cancel_left]
  unfold rr_al
  rw [e]
  have hr : rr_rd sz (1000000 + k) = true := by
    unfold rr_rd
    rw [decide_eq_true (show 1000000 ≤ 1000000 + k by omega), decide_eq_true (show 1000000 + k < 1000004 by omega)]
    simp
  simp only [hr, if_true]
theorem Hc0 (kq fq : Option Nat) (L : Nat) (xs : Nat → Int32) (A B : Nat → Nat → Int32) (J : Nat → Nat → Int64) (sz : Nat) (hz : 71 ≤ sz) :
  (0 < sz) = True ∧
  rr_is sz (hp kq fq L xs A B J) 9 0 = true ∧
  rr_gf sz (hp kq fq L xs A B J) 0 9 0 = some (.ref 1) ∧
  rr_gf sz (hp kq fq L xs A B J) 0 9 1 = some (va_rf kq) ∧
  rr_gf sz (hp kq fq L xs A B J) 0 9 2 = some (.int (B 0 2)) ∧
  (∀ x, rr_pf sz (hp kq fq L xs A B J) 0 9 2 (.int x) = some (hp kq fq L xs A (u2 B 0 2 x) J)) ∧
  rr_gf sz (hp kq fq L xs A B J) 0 9 3 = some (.ref 25) ∧
  rr_gf sz (hp kq fq L xs A B J) 0 9 4 = some (.ref 26) ∧
  rr_gf sz (hp kq fq L xs A B J) 0 9 5 = some (.ref 27) ∧
  rr_gf sz (hp kq fq L xs A B J) 0 9 6 = some (.ref 30) ∧
  rr_gf sz (hp kq fq L xs A B J) 0 9 7 = some (.ref 36) ∧
  rr_gf sz (hp kq fq L xs A B J) 0 9 8 = some (.ref 39) ∧
  rr_gf sz (hp kq fq L xs A B J) 0 9 9 = some (.ref 41) ∧
  rr_gf sz (hp kq fq L xs A B J) 0 9 10 = some (.ref 42) ∧
  rr_gf sz (hp kq fq L xs A B J) 0 9 11 = some (va_rf fq) ∧
  (1 < sz) = True ∧
  rr_is sz (hp kq fq L xs A B J) 6 1 = true ∧
  rr_gf sz (hp kq fq L xs A B J) 1 6 0 = some (.ref 2) ∧
  rr_gf sz (hp kq fq L xs A B J) 1 6 1 = some (.ref 3) ∧
  rr_gf sz (hp kq fq L xs A B J) 1 6 2 = some (.ref 4) ∧
  rr_gf sz (hp kq fq L xs A B J) 1 6 3 = some (.ref 5) ∧
  rr_gf sz (hp kq fq L xs A B J) 1 6 4 = some (.ref 6) ∧
  rr_gf sz (hp kq fq L xs A B J) 1 6 5 = some (.int (B 1 5)) ∧
  (∀ x, rr_pf sz (hp kq fq L xs A B J) 1 6 5 (.int x) = some (hp kq fq L xs A (u2 B 1 5 x) J)) ∧
  rr_gf sz (hp kq fq L xs A B J) 1 6 6 = some (.ref 7) ∧
  rr_gf sz (hp kq fq L xs A B J) 1 6 7 = some (.int (B 1 7)) ∧
  (∀ x, rr_pf sz (hp kq fq L xs A B J) 1 6 7 (.int x) = some (hp kq fq L xs A (u2 B 1 7 x) J)) ∧
  rr_gf sz (hp kq fq L xs A B J) 1 6 8 = some (.int (B 1 8)) ∧
  (∀ x, rr_pf sz (hp kq fq L xs A B J) 1 6 8 (.int x) = some (hp kq fq L xs A (u2 B 1 8 x) J)) ∧
  rr_gf sz (hp kq fq L xs A B J) 1 6 9 = some (.int (B 1 9)) ∧
  (∀ x, rr_pf sz (hp kq fq L xs A B J) 1 6 9 (.int x) = some (hp kq fq L xs A (u2 B 1 9 x) J)) ∧
  rr_gf sz (hp kq fq L xs A B J) 1 6 10 = some (.ref 9) ∧
  rr_gf sz (hp kq fq L xs A B J) 1 6 11 = some (.ref 10) ∧
  rr_gf sz (hp kq fq L xs A B J) 1 6 12 = some (.int (B 1 12)) ∧
  (∀ x, rr_pf sz (hp kq fq L xs A B J) 1 6 12 (.int x) = some (hp kq fq L xs A (u2 B 1 12 x) J)) ∧
  rr_gf sz (hp kq fq L xs A B J) 1 6 13 = some (.int (B 1 13)) ∧
  (∀ x, rr_pf sz (hp kq fq L xs A B J) 1 6 13 (.int x) = some (hp kq fq L xs A (u2 B 1 13 x) J)) ∧
  rr_gf sz (hp kq fq L xs A B J) 1 6 14 = some (.ref 15) ∧
  rr_gf sz (hp kq fq L xs A B J) 1 6 15 = some (.ref 17) ∧
  rr_gf sz (hp kq fq L xs A B J) 1 6 16 = some (.ref 19) ∧
  rr_gf sz (hp kq fq L xs A B J) 1 6 17 = some (.ref 22) ∧
  (2 < sz) = True ∧
  (∀ k, rr_ai sz (hp kq fq L xs A B J) 2 k = if rr_in k 8 = true then some (A 2 k.toNatClampNeg) else none) ∧
  (∀ k x, rr_wi sz (hp kq fq L xs A B J) 2 k x = if rr_in k 8 = true then some (hp kq fq L xs (u1 A 2 (upd (A 2) k.toNatClampNeg x)) B J) else none) ∧
  rr_al sz (hp kq fq L xs A B J) 2 = some 8 ∧
  (3 < sz) = True ∧
  (∀ k, rr_ai sz (hp kq fq L xs A B J) 3 k = if rr_in k 8 = true then some (A 3 k.toNatClampNeg) else none) ∧
  (∀ k x, rr_wi sz (hp kq fq L xs A B J) 3 k x = if rr_in k 8 = true then some (hp kq fq L xs (u1 A 3 (upd (A 3) k.toNatClampNeg x)) B J) else none) ∧
  rr_al sz (hp kq fq L xs A B J) 3 = some 8 ∧
  (4 < sz) = True ∧
  (∀ k, rr_ai sz (hp kq fq L xs A B J) 4 k = if rr_in k 8 = true then some (A 4 k.toNatClampNeg) else none) ∧
  (∀ k x, rr_wi sz (hp kq fq L xs A B J) 4 k x = if rr_in k 8 = true then some (hp kq fq L xs (u1 A 4 (upd (A 4) k.toNatClampNeg x)) B J) else none) ∧
  rr_al sz (hp kq fq L xs A B J) 4 = some 8 ∧
  (5 < sz) = True ∧
  (∀ k, rr_ai sz (hp kq fq L xs A B J) 5 k = if rr_in k 8 = true then some (A 5 k.toNatClampNeg) else none) ∧
  (∀ k x, rr_wi sz (hp kq fq L xs A B J) 5 k x = if rr_in k 8 = true then some (hp kq fq L xs (u1 A 5 (upd (A 5) k.toNatClampNeg x)) B J) else none) ∧
  rr_al sz (hp kq fq L xs A B J) 5 = some 8 ∧
  (6 < sz) = True ∧
  (∀ k, rr_ai sz (hp kq fq L xs A B J) 6 k = if rr_in k 8 = true then some (A 6 k.toNatClampNeg) else none) ∧
  (∀ k x, rr_wi sz (hp kq fq L xs A B J) 6 k x = if rr_in k 8 = true then some (hp kq fq L xs (u1 A 6 (upd (A 6) k.toNatClampNeg x)) B J) else none) :=
  ⟨eq_true (Nat.lt_of_lt_of_le (by decide : 0 < 71) hz),
  hp_is rfl (Nat.lt_of_lt_of_le (by decide : 0 < 71) hz),
  hp_gf rfl (Nat.lt_of_lt_of_le (by decide : 0 < 71) hz) rfl,
  hp_gf rfl (Nat.lt_of_lt_of_le (by decide : 0 < 71) hz) rfl,
  hp_gf rfl (Nat.lt_of_lt_of_le (by decide : 0 < 71) hz) rfl,
  fun x => hp_pf rfl (Nat.lt_of_lt_of_le (by decide : 0 < 71) hz) (Nat.le_of_ble_eq_true rfl) rfl rfl,
  hp_gf rfl (Nat.lt_of_lt_of_le (by decide : 0 < 71) hz) rfl,
  hp_gf rfl (Nat.lt_of_lt_of_le (by decide : 0 < 71) hz) rfl,
  hp_gf rfl (Nat.lt_of_lt_of_le (by decide : 0 < 71) hz) rfl,
  hp_gf rfl (Nat.lt_of_lt_of_le (by decide : 0 < 71) hz) rfl,
  hp_gf rfl (Nat.lt_of_lt_of_le (by decide : 0 < 71) hz) rfl,
  hp_gf rfl (Nat.lt_of_lt_of_le (by decide : 0 < 71) hz) rfl,
  hp_gf rfl (Nat.lt_of_lt_of_le (by decide : 0 < 71) hz) rfl,
  hp_gf rfl (Nat.lt_of_lt_of_le (by decide : 0 < 71) hz) rfl,
  hp_gf rfl (Nat.lt_of_lt_of_le (by decide : 0 < 71) hz) rfl,
  eq_true (Nat.lt_of_lt_of_le (by decide : 1 < 71) hz),
  hp_is rfl (Nat.lt_of_lt_of_le (by decide : 1 < 71) hz),
  hp_gf rfl (Nat.lt_of_lt_of_le (by decide : 1 < 71) hz) rfl,
  hp_gf rfl (Nat.lt_of_lt_of_le (by decide : 1 < 71) hz) rfl,
  hp_gf rfl (Nat.lt_of_lt_of_le (by decide : 1 < 71) hz) rfl,
  hp_gf rfl (Nat.lt_of_lt_of_le (by decide : 1 < 71) hz) rfl,
  hp_gf rfl (Nat.lt_of_lt_of_le (by decide : 1 < 71) hz) rfl,
  hp_gf rfl (Nat.lt_of_lt_of_le (by decide : 1 < 71) hz) rfl,
  fun x => hp_pf rfl (Nat.lt_of_lt_of_le (by decide : 1 < 71) hz) (Nat.le_of_ble_eq_true rfl) rfl rfl,
  hp_gf rfl (Nat.lt_of_lt_of_le (by decide : 1 < 71) hz) rfl,
  hp_gf rfl (Nat.lt_of_lt_of_le (by decide : 1 < 71) hz) rfl,
  fun x => hp_pf rfl (Nat.lt_of_lt_of_le (by decide : 1 < 71) hz) (Nat.le_of_ble_eq_true rfl) rfl rfl,
  hp_gf rfl (Nat.lt_of_lt_of_le (by decide : 1 < 71) hz) rfl,
  fun x => hp_pf rfl (Nat.lt_of_lt_of_le (by decide : 1 < 71) hz) (Nat.le_of_ble_eq_true rfl) rfl rfl,
  hp_gf rfl (Nat.lt_of_lt_of_le (by decide : 1 < 71) hz) rfl,
  fun x => hp_pf rfl (Nat.lt_of_lt_of_le (by decide : 1 < 71) hz) (Nat.le_of_ble_eq_true rfl) rfl rfl,
  hp_gf rfl (Nat.lt_of_lt_of_le (by decide : 1 < 71) hz) rfl,
  hp_gf rfl (Nat.lt_of_lt_of_le (by decide : 1 < 71) hz) rfl,
  hp_gf rfl (Nat.lt_of_lt_of_le (by decide : 1 < 71) hz) rfl,
  fun x => hp_pf rfl (Nat.lt_of_lt_of_le (by decide : 1 < 71) hz) (Nat.le_of_ble_eq_true rfl) rfl rfl,
  hp_gf rfl (Nat.lt_of_lt_of_le (by decide : 1 < 71) hz) rfl,
  fun x => hp_pf rfl (Nat.lt_of_lt_of_le (by decide : 1 < 71) hz) (Nat.le_of_ble_eq_true rfl) rfl rfl,
  hp_gf rfl (Nat.lt_of_lt_of_le (by decide : 1 < 71) hz) rfl,
  hp_gf rfl (Nat.lt_of_lt_of_le (by decide : 1 < 71) hz) rfl,
  hp_gf rfl (Nat.lt_of_lt_of_le (by decide : 1 < 71) hz) rfl,
  hp_gf rfl (Nat.lt_of_lt_of_le (by decide : 1 < 71) hz) rfl,
  eq_true (Nat.lt_of_lt_of_le (by decide : 2 < 71) hz),
  hp_ai (fun _ _ _ => rfl) (Nat.lt_of_lt_of_le (by decide : 2 < 71) hz),
  hp_wi (fun _ _ _ => rfl) (Nat.lt_of_lt_of_le (by decide : 2 < 71) hz),
  hp_al (n := 8) (fun _ _ _ => rfl) (Nat.lt_of_lt_of_le (by decide : 2 < 71) hz),
  eq_true (Nat.lt_of_lt_of_le (by decide : 3 < 71) hz),
  hp_ai (fun _ _ _ => rfl) (Nat.lt_of_lt_of_le (by decide : 3 < 71) hz),
  hp_wi (fun _ _ _ => rfl) (Nat.lt_of_lt_of_le (by decide : 3 < 71) hz),
  hp_al (n := 8) (fun _ _ _ => rfl) (Nat.lt_of_lt_of_le (by decide : 3 < 71) hz),
  eq_true (Nat.lt_of_lt_of_le (by decide : 4 < 71) hz),
  hp_ai (fun _ _ _ => rfl) (Nat.lt_of_lt_of_le (by decide : 4 < 71) hz),
  hp_wi (fun _ _ _ => rfl) (Nat.lt_of_lt_of_le (by decide : 4 < 71) hz),
  hp_al (n := 8) (fun _ _ _ => rfl) (Nat.lt_of_lt_of_le (by decide : 4 < 71) hz),
  eq_true (Nat.lt_of_lt_of_le (by decide : 5 < 71) hz),
  hp_ai (fun _ _ _ => rfl) (Nat.lt_of_lt_of_le (by decide : 5 < 71) hz),
  hp_wi (fun _ _ _ => rfl) (Nat.lt_of_lt_of_le (by decide : 5 < 71) hz),
  hp_al (n := 8) (fun _ _ _ => rfl) (Nat.lt_of_lt_of_le (by decide : 5 < 71) hz),
  eq_true (Nat.lt_of_lt_of_le (by decide : 6 < 71) hz),
  hp_ai (fun _ _ _ => rfl) (Nat.lt_of_lt_of_le (by decide : 6 < 71) hz),
  hp_wi (fun _ _ _ => rfl) (Nat.lt_of_lt_of_le (by decide : 6 < 71) hz)⟩
theorem Hc1 (kq fq : Option Nat) (L : Nat) (xs : Nat → Int32) (A B : Nat → Nat → Int32) (J : Nat → Nat → Int64) (sz : Nat) (hz : 71 ≤ sz) :
  rr_al sz (hp kq fq L xs A B J) 6 = some 8 ∧
  (7 < sz) = True ∧
  rr_is sz (hp kq fq L xs A B J) 3 7 = true ∧
  rr_gf sz (hp kq fq L xs A B J) 7 3 0 = some (.ref 8) ∧
  rr_gf sz (hp kq fq L xs A B J) 7 3 1 = some (.int (B 7 1)) ∧
  (∀ x, rr_pf sz (hp kq fq L xs A B J) 7 3 1 (.int x) = some (hp kq fq L xs A (u2 B 7 1 x) J)) ∧
  (8 < sz) = True ∧
  (∀ k, rr_ai sz (hp kq fq L xs A B J) 8 k = if rr_in k 5 = true then some (A 8 k.toNatClampNeg) else none) ∧
  (∀ k x, rr_wi sz (hp kq fq L xs A B J) 8 k x = if rr_in k 5 = true then some (hp kq fq L xs (u1 A 8 (upd (A 8) k.toNatClampNeg x)) B J) else none) ∧
  rr_al sz (hp kq fq L xs A B J) 8 = some 5 ∧
  (9 < sz) = True ∧
  (∀ k, rr_ai sz (hp kq fq L xs A B J) 9 k = if rr_in k 4 = true then some (A 9 k.toNatClampNeg) else none) ∧
  (∀ k x, rr_wi sz (hp kq fq L xs A B J) 9 k x = if rr_in k 4 = true then some (hp kq fq L xs (u1 A 9 (upd (A 9) k.toNatClampNeg x)) B J) else none) ∧
  rr_al sz (hp kq fq L xs A B J) 9 = some 4 ∧
  (10 < sz) = True ∧
  (11 < sz) = True ∧
  (∀ k, rr_ai sz (hp kq fq L xs A B J) 11 k = if rr_in k 8 = true then some (A 11 k.toNatClampNeg) else none) ∧
  (∀ k x, rr_wi sz (hp kq fq L xs A B J) 11 k x = if rr_in k 8 = true then some (hp kq fq L xs (u1 A 11 (upd (A 11) k.toNatClampNeg x)) B J) else none) ∧
  rr_al sz (hp kq fq L xs A B J) 11 = some 8 ∧
  (12 < sz) = True ∧
  (∀ k, rr_ai sz (hp kq fq L xs A B J) 12 k = if rr_in k 8 = true then some (A 12 k.toNatClampNeg) else none) ∧
  (∀ k x, rr_wi sz (hp kq fq L xs A B J) 12 k x = if rr_in k 8 = true then some (hp kq fq L xs (u1 A 12 (upd (A 12) k.toNatClampNeg x)) B J) else none) ∧
  rr_al sz (hp kq fq L xs A B J) 12 = some 8 ∧
  (13 < sz) = True ∧
  (∀ k, rr_ai sz (hp kq fq L xs A B J) 13 k = if rr_in k 8 = true then some (A 13 k.toNatClampNeg) else none) ∧
  (∀ k x, rr_wi sz (hp kq fq L xs A B J) 13 k x = if rr_in k 8 = true then some (hp kq fq L xs (u1 A 13 (upd (A 13) k.toNatClampNeg x)) B J) else none) ∧
  rr_al sz (hp kq fq L xs A B J) 13 = some 8 ∧
  (14 < sz) = True ∧
  (∀ k, rr_ai sz (hp kq fq L xs A B J) 14 k = if rr_in k 8 = true then some (A 14 k.toNatClampNeg) else none) ∧
  (∀ k x, rr_wi sz (hp kq fq L xs A B J) 14 k x = if rr_in k 8 = true then some (hp kq fq L xs (u1 A 14 (upd (A 14) k.toNatClampNeg x)) B J) else none) ∧
  rr_al sz (hp kq fq L xs A B J) 14 = some 8 ∧
  (15 < sz) = True ∧
  rr_is sz (hp kq fq L xs A B J) 3 15 = true ∧
  rr_gf sz (hp kq fq L xs A B J) 15 3 0 = some (.ref 16) ∧
  rr_gf sz (hp kq fq L xs A B J) 15 3 1 = some (.int (B 15 1)) ∧
  (∀ x, rr_pf sz (hp kq fq L xs A B J) 15 3 1 (.int x) = some (hp kq fq L xs A (u2 B 15 1 x) J)) ∧
  (16 < sz) = True ∧
  (∀ k, rr_ai sz (hp kq fq L xs A B J) 16 k = if rr_in k 60 = true then some (A 16 k.toNatClampNeg) else none) ∧
  (∀ k x, rr_wi sz (hp kq fq L xs A B J) 16 k x = if rr_in k 60 = true then some (hp kq fq L xs (u1 A 16 (upd (A 16) k.toNatClampNeg x)) B J) else none) ∧
  rr_al sz (hp kq fq L xs A B J) 16 = some 60 ∧
  (17 < sz) = True ∧
  rr_is sz (hp kq fq L xs A B J) 3 17 = true ∧
  rr_gf sz (hp kq fq L xs A B J) 17 3 0 = some (.ref 18) ∧
  rr_gf sz (hp kq fq L xs A B J) 17 3 1 = some (.int (B 17 1)) ∧
  (∀ x, rr_pf sz (hp kq fq L xs A B J) 17 3 1 (.int x) = some (hp kq fq L xs A (u2 B 17 1 x) J)) ∧
  (18 < sz) = True ∧
  (∀ k, rr_ai sz (hp kq fq L xs A B J) 18 k = if rr_in k 24 = true then some (A 18 k.toNatClampNeg) else none) ∧
  (∀ k x, rr_wi sz (hp kq fq L xs A B J) 18 k x = if rr_in k 24 = true then some (hp kq fq L xs (u1 A 18 (upd (A 18) k.toNatClampNeg x)) B J) else none) ∧
  rr_al sz (hp kq fq L xs A B J) 18 = some 24 ∧
  (19 < sz) = True ∧
  rr_is sz (hp kq fq L xs A B J) 7 19 = true ∧
  rr_gf sz (hp kq fq L xs A B J) 19 7 0 = some (.ref 20) ∧
  rr_gf sz (hp kq fq L xs A B J) 19 7 1 = some (.ref 21) ∧
  rr_gf sz (hp kq fq L xs A B J) 19 7 2 = some (.int (B 19 2)) ∧
  (∀ x, rr_pf sz (hp kq fq L xs A B J) 19 7 2 (.int x) = some (hp kq fq L xs A (u2 B 19 2 x) J)) ∧
  (20 < sz) = True ∧
  (∀ k, rr_ai sz (hp kq fq L xs A B J) 20 k = if rr_in k 60 = true then some (A 20 k.toNatClampNeg) else none) ∧
  (∀ k x, rr_wi sz (hp kq fq L xs A B J) 20 k x = if rr_in k 60 = true then some (hp kq fq L xs (u1 A 20 (upd (A 20) k.toNatClampNeg x)) B J) else none) ∧
  rr_al sz (hp kq fq L xs A B J) 20 = some 60 ∧
  (21 < sz) = True :=
  ⟨hp_al (n := 8) (fun _ _ _ => rfl) (Nat.lt_of_lt_of_le (by decide : 6 < 71) hz),
  eq_true (Nat.lt_of_lt_of_le (by decide : 7 < 71) hz),
  hp_is rfl (Nat.lt_of_lt_of_le (by decide : 7 < 71) hz),
  hp_gf rfl (Nat.lt_of_lt_of_le (by decide : 7 < 71) hz) rfl,
  hp_gf rfl (Nat.lt_of_lt_of_le (by decide : 7 < 71) hz) rfl,
  fun x => hp_pf rfl (Nat.lt_of_lt_of_le (by decide : 7 < 71) hz) (Nat.le_of_ble_eq_true rfl) rfl rfl,
  eq_true (Nat.lt_of_lt_of_le (by decide : 8 < 71) hz),
  hp_ai (fun _ _ _ => rfl) (Nat.lt_of_lt_of_le (by decide : 8 < 71) hz),
  hp_wi (fun _ _ _ => rfl) (Nat.lt_of_lt_of_le (by decide : 8 < 71) hz),
  hp_al (n := 5) (fun _ _ _ => rfl) (Nat.lt_of_lt_of_le (by decide : 8 < 71) hz),
  eq_true (Nat.lt_of_lt_of_le (by decide : 9 < 71) hz),
  hp_ai (fun _ _ _ => rfl) (Nat.lt_of_lt_of_le (by decide : 9 < 71) hz),
  hp_wi (fun _ _ _ => rfl) (Nat.lt_of_lt_of_le (by decide : 9 < 71) hz),
  hp_al (n := 4) (fun _ _ _ => rfl) (Nat.lt_of_lt_of_le (by decide : 9 < 71) hz),
  eq_true (Nat.lt_of_lt_of_le (by decide : 10 < 71) hz),
  eq_true (Nat.lt_of_lt_of_le (by decide : 11 < 71) hz),
  hp_ai (fun _ _ _ => rfl) (Nat.lt_of_lt_of_le (by decide : 11 < 71) hz),
  hp_wi (fun _ _ _ => rfl) (Nat.lt_of_lt_of_le (by decide : 11 < 71) hz),
  hp_al (n := 8) (fun _ _ _ => rfl) (Nat.lt_of_lt_of_le (by decide : 11 < 71) hz),
  eq_true (Nat.lt_of_lt_of_le (by decide : 12 < 71) hz),
  hp_ai (fun _ _ _ => rfl) (Nat.lt_of_lt_of_le (by decide : 12 < 71) hz),
  hp_wi (fun _ _ _ => rfl) (Nat.lt_of_lt_of_le (by decide : 12 < 71) hz),
  hp_al (n := 8) (fun _ _ _ => rfl) (Nat.lt_of_lt_of_le (by decide : 12 < 71) hz),
  eq_true (Nat.lt_of_lt_of_le (by decide : 13 < 71) hz),
  hp_ai (fun _ _ _ => rfl) (Nat.lt_of_lt_of_le (by decide : 13 < 71) hz),
  hp_wi (fun _ _ _ => rfl) (Nat.lt_of_lt_of_le (by decide : 13 < 71) hz),
  hp_al (n := 8) (fun _ _ _ => rfl) (Nat.lt_of_lt_of_le (by decide : 13 < 71) hz),
  eq_true (Nat.lt_of_lt_of_le (by decide : 14 < 71) hz),
  hp_ai (fun _ _ _ => rfl) (Nat.lt_of_lt_of_le (by decide : 14 < 71) hz),
  hp_wi (fun _ _ _ => rfl) (Nat.lt_of_lt_of_le (by decide : 14 < 71) hz),
  hp_al (n := 8) (fun _ _ _ => rfl) (Nat.lt_of_lt_of_le (by decide : 14 < 71) hz),
  eq_true (Nat.lt_of_lt_of_le (by decide : 15 < 71) hz),
  hp_is rfl (Nat.lt_of_lt_of_le (by decide : 15 < 71) hz),
  hp_gf rfl (Nat.lt_of_lt_of_le (by decide : 15 < 71) hz) rfl,
  hp_gf rfl (Nat.lt_of_lt_of_le (by decide : 15 < 71) hz) rfl,
  fun x => hp_pf rfl (Nat.lt_of_lt_of_le (by decide : 15 < 71) hz) (Nat.le_of_ble_eq_true rfl) rfl rfl,
  eq_true (Nat.lt_of_lt_of_le (by decide : 16 < 71) hz),
  hp_ai (fun _ _ _ => rfl) (Nat.lt_of_lt_of_le (by decide : 16 < 71) hz),
  hp_wi (fun _ _ _ => rfl) (Nat.lt_of_lt_of_le (by decide : 16 < 71) hz),
  hp_al (n := 60) (fun _ _ _ => rfl) (Nat.lt_of_lt_of_le (by decide : 16 < 71) hz),
  eq_true (Nat.lt_of_lt_of_le (by decide : 17 < 71) hz),
  hp_is rfl (Nat.lt_of_lt_of_le (by decide : 17 < 71) hz),
  hp_gf rfl (Nat.lt_of_lt_of_le (by decide : 17 < 71) hz) rfl,
  hp_gf rfl (Nat.lt_of_lt_of_le (by decide : 17 < 71) hz) rfl,
  fun x => hp_pf rfl (Nat.lt_of_lt_of_le (by decide : 17 < 71) hz) (Nat.le_of_ble_eq_true rfl) rfl rfl,
  eq_true (Nat.lt_of_lt_of_le (by decide : 18 < 71) hz),
  hp_ai (fun _ _ _ => rfl) (Nat.lt_of_lt_of_le (by decide : 18 < 71) hz),
  hp_wi (fun _ _ _ => rfl) (Nat.lt_of_lt_of_le (by decide : 18 < 71) hz),
  hp_al (n := 24) (fun _ _ _ => rfl) (Nat.lt_of_lt_of_le (by decide : 18 < 71) hz),
  eq_true (Nat.lt_of_lt_of_le (by decide : 19 < 71) hz),
  hp_is rfl (Nat.lt_of_lt_of_le (by decide : 19 < 71) hz),
  hp_gf rfl (Nat.lt_of_lt_of_le (by decide : 19 < 71) hz) rfl,
  hp_gf rfl (Nat.lt_of_lt_of_le (by decide : 19 < 71) hz) rfl,
  hp_gf rfl (Nat.lt_of_lt_of_le (by decide : 19 < 71) hz) rfl,
  fun x => hp_pf rfl (Nat.lt_of_lt_of_le (by decide : 19 < 71) hz) (Nat.le_of_ble_eq_true rfl) rfl rfl,
  eq_true (Nat.lt_of_lt_of_le (by decide : 20 < 71) hz),
  hp_ai (fun _ _ _ => rfl) (Nat.lt_of_lt_of_le (by decide : 20 < 71) hz),
  hp_wi (fun _ _ _ => rfl) (Nat.lt_of_lt_of_le (by decide : 20 < 71) hz),
  hp_al (n := 60) (fun _ _ _ => rfl) (Nat.lt_of_lt_of_le (by decide : 20 < 71) hz),
  eq_true (Nat.lt_of_lt_of_le (by decide : 21 < 71) hz)⟩
theorem Hc2 (kq fq : Option Nat) (L : Nat) (xs : Nat → Int32) (A B : Nat → Nat → Int32) (J : Nat → Nat → Int64) (sz : Nat) (hz : 71 ≤ sz) :
  (∀ k, rr_ai sz (hp kq fq L xs A B J) 21 k = if rr_in k 60 = true then some (A 21 k.toNatClampNeg) else none) ∧
  (∀ k x, rr_wi sz (hp kq fq L xs A B J) 21 k x = if rr_in k 60 = true then some (hp kq fq L xs (u1 A 21 (upd (A 21) k.toNatClampNeg x)) B J) else none) ∧
  rr_al sz (hp kq fq L xs A B J) 21 = some 60 ∧
  (22 < sz) = True ∧
  rr_is sz (hp kq fq L xs A B J) 7 22 = true ∧
  rr_gf sz (hp kq fq L xs A B J) 22 7 0 = some (.ref 23) ∧
  rr_gf sz (hp kq fq L xs A B J) 22 7 1 = some (.ref 24) ∧
  rr_gf sz (hp kq fq L xs A B J) 22 7 2 = some (.int (B 22 2)) ∧
  (∀ x, rr_pf sz (hp kq fq L xs A B J) 22 7 2 (.int x) = some (hp kq fq L xs A (u2 B 22 2 x) J)) ∧
  (23 < sz) = True ∧
  (∀ k, rr_ai sz (hp kq fq L xs A B J) 23 k = if rr_in k 60 = true then some (A 23 k.toNatClampNeg) else none) ∧
  (∀ k x, rr_wi sz (hp kq fq L xs A B J) 23 k x = if rr_in k 60 = true then some (hp kq fq L xs (u1 A 23 (upd (A 23) k.toNatClampNeg x)) B J) else none) ∧
  rr_al sz (hp kq fq L xs A B J) 23 = some 60 ∧
  (24 < sz) = True ∧
  (∀ k, rr_ai sz (hp kq fq L xs A B J) 24 k = if rr_in k 60 = true then some (A 24 k.toNatClampNeg) else none) ∧
  (∀ k x, rr_wi sz (hp kq fq L xs A B J) 24 k x = if rr_in k 60 = true then some (hp kq fq L xs (u1 A 24 (upd (A 24) k.toNatClampNeg x)) B J) else none) ∧
  rr_al sz (hp kq fq L xs A B J) 24 = some 60 ∧
  (25 < sz) = True ∧
  (∀ k, rr_ai sz (hp kq fq L xs A B J) 25 k = if rr_in k 7 = true then some (A 25 k.toNatClampNeg) else none) ∧
  (∀ k x, rr_wi sz (hp kq fq L xs A B J) 25 k x = if rr_in k 7 = true then some (hp kq fq L xs (u1 A 25 (upd (A 25) k.toNatClampNeg x)) B J) else none) ∧
  rr_al sz (hp kq fq L xs A B J) 25 = some 7 ∧
  (26 < sz) = True ∧
  (27 < sz) = True ∧
  rr_is sz (hp kq fq L xs A B J) 8 27 = true ∧
  rr_gf sz (hp kq fq L xs A B J) 27 8 0 = some (.ref 28) ∧
  rr_gf sz (hp kq fq L xs A B J) 27 8 1 = some (.int (B 27 1)) ∧
  (∀ x, rr_pf sz (hp kq fq L xs A B J) 27 8 1 (.int x) = some (hp kq fq L xs A (u2 B 27 1 x) J)) ∧
  rr_gf sz (hp kq fq L xs A B J) 27 8 2 = some (.int (B 27 2)) ∧
  (∀ x, rr_pf sz (hp kq fq L xs A B J) 27 8 2 (.int x) = some (hp kq fq L xs A (u2 B 27 2 x) J)) ∧
  rr_gf sz (hp kq fq L xs A B J) 27 8 3 = some (.int (B 27 3)) ∧
  (∀ x, rr_pf sz (hp kq fq L xs A B J) 27 8 3 (.int x) = some (hp kq fq L xs A (u2 B 27 3 x) J)) ∧
  rr_gf sz (hp kq fq L xs A B J) 27 8 4 = some (.int (B 27 4)) ∧
  (∀ x, rr_pf sz (hp kq fq L xs A B J) 27 8 4 (.int x) = some (hp kq fq L xs A (u2 B 27 4 x) J)) ∧
  (28 < sz) = True ∧
  rr_is sz (hp kq fq L xs A B J) 3 28 = true ∧
  rr_gf sz (hp kq fq L xs A B J) 28 3 0 = some (.ref 29) ∧
  rr_gf sz (hp kq fq L xs A B J) 28 3 1 = some (.int (B 28 1)) ∧
  (∀ x, rr_pf sz (hp kq fq L xs A B J) 28 3 1 (.int x) = some (hp kq fq L xs A (u2 B 28 1 x) J)) ∧
  (29 < sz) = True ∧
  (∀ k, rr_ai sz (hp kq fq L xs A B J) 29 k = if rr_in k 30 = true then some (A 29 k.toNatClampNeg) else none) ∧
  (∀ k x, rr_wi sz (hp kq fq L xs A B J) 29 k x = if rr_in k 30 = true then some (hp kq fq L xs (u1 A 29 (upd (A 29) k.toNatClampNeg x)) B J) else none) ∧
  rr_al sz (hp kq fq L xs A B J) 29 = some 30 ∧
  (30 < sz) = True ∧
  rr_is sz (hp kq fq L xs A B J) 2 30 = true ∧
  rr_gf sz (hp kq fq L xs A B J) 30 2 0 = some (.ref 31) ∧
  rr_gf sz (hp kq fq L xs A B J) 30 2 1 = some (.ref 34) ∧
  rr_gf sz (hp kq fq L xs A B J) 30 2 2 = some (.int (B 30 2)) ∧
  (∀ x, rr_pf sz (hp kq fq L xs A B J) 30 2 2 (.int x) = some (hp kq fq L xs A (u2 B 30 2 x) J)) ∧
  rr_gf sz (hp kq fq L xs A B J) 30 2 3 = some (.int (B 30 3)) ∧
  (∀ x, rr_pf sz (hp kq fq L xs A B J) 30 2 3 (.int x) = some (hp kq fq L xs A (u2 B 30 3 x) J)) ∧
  (31 < sz) = True ∧
  rr_is sz (hp kq fq L xs A B J) 7 31 = true ∧
  rr_gf sz (hp kq fq L xs A B J) 31 7 0 = some (.ref 32) ∧
  rr_gf sz (hp kq fq L xs A B J) 31 7 1 = some (.ref 33) ∧
  rr_gf sz (hp kq fq L xs A B J) 31 7 2 = some (.int (B 31 2)) ∧
  (∀ x, rr_pf sz (hp kq fq L xs A B J) 31 7 2 (.int x) = some (hp kq fq L xs A (u2 B 31 2 x) J)) ∧
  (32 < sz) = True ∧
  (∀ k, rr_ai sz (hp kq fq L xs A B J) 32 k = if rr_in k 60 = true then some (A 32 k.toNatClampNeg) else none) ∧
  (∀ k x, rr_wi sz (hp kq fq L xs A B J) 32 k x = if rr_in k 60 = true then some (hp kq fq L xs (u1 A 32 (upd (A 32) k.toNatClampNeg x)) B J) else none) ∧
  rr_al sz (hp kq fq L xs A B J) 32 = some 60 :=
  ⟨hp_ai (fun _ _ _ => rfl) (Nat.lt_of_lt_of_le (by decide : 21 < 71) hz),
  hp_wi (fun _ _ _ => rfl) (Nat.lt_of_lt_of_le (by decide : 21 < 71) hz),
  hp_al (n := 60) (fun _ _ _ => rfl) (Nat.lt_of_lt_of_le (by decide : 21 < 71) hz),
  eq_true (Nat.lt_of_lt_of_le (by decide : 22 < 71) hz),
  hp_is rfl (Nat.lt_of_lt_of_le (by decide : 22 < 71) hz),
  hp_gf rfl (Nat.lt_of_lt_of_le (by decide : 22 < 71) hz) rfl,
  hp_gf rfl (Nat.lt_of_lt_of_le (by decide : 22 < 71) hz) rfl,
  hp_gf rfl (Nat.lt_of_lt_of_le (by decide : 22 < 71) hz) rfl,
  fun x => hp_pf rfl (Nat.lt_of_lt_of_le (by decide : 22 < 71) hz) (Nat.le_of_ble_eq_true rfl) rfl rfl,
  eq_true (Nat.lt_of_lt_of_le (by decide : 23 < 71) hz),
  hp_ai (fun _ _ _ => rfl) (Nat.lt_of_lt_of_le (by decide : 23 < 71) hz),
  hp_wi (fun _ _ _ => rfl) (Nat.lt_of_lt_of_le (by decide : 23 < 71) hz),
  hp_al (n := 60) (fun _ _ _ => rfl) (Nat.lt_of_lt_of_le (by decide : 23 < 71) hz),
  eq_true (Nat.lt_of_lt_of_le (by decide : 24 < 71) hz),
  hp_ai (fun _ _ _ => rfl) (Nat.lt_of_lt_of_le (by decide : 24 < 71) hz),
  hp_wi (fun _ _ _ => rfl) (Nat.lt_of_lt_of_le (by decide : 24 < 71) hz),
  hp_al (n := 60) (fun _ _ _ => rfl) (Nat.lt_of_lt_of_le (by decide : 24 < 71) hz),
  eq_true (Nat.lt_of_lt_of_le (by decide : 25 < 71) hz),
  hp_ai (fun _ _ _ => rfl) (Nat.lt_of_lt_of_le (by decide : 25 < 71) hz),
  hp_wi (fun _ _ _ => rfl) (Nat.lt_of_lt_of_le (by decide : 25 < 71) hz),
  hp_al (n := 7) (fun _ _ _ => rfl) (Nat.lt_of_lt_of_le (by decide : 25 < 71) hz),
  eq_true (Nat.lt_of_lt_of_le (by decide : 26 < 71) hz),
  eq_true (Nat.lt_of_lt_of_le (by decide : 27 < 71) hz),
  hp_is rfl (Nat.lt_of_lt_of_le (by decide : 27 < 71) hz),
  hp_gf rfl (Nat.lt_of_lt_of_le (by decide : 27 < 71) hz) rfl,
  hp_gf rfl (Nat.lt_of_lt_of_le (by decide : 27 < 71) hz) rfl,
  fun x => hp_pf rfl (Nat.lt_of_lt_of_le (by decide : 27 < 71) hz) (Nat.le_of_ble_eq_true rfl) rfl rfl,
  hp_gf rfl (Nat.lt_of_lt_of_le (by decide : 27 < 71) hz) rfl,
  fun x => hp_pf rfl (Nat.lt_of_lt_of_le (by decide : 27 < 71) hz) (Nat.le_of_ble_eq_true rfl) rfl rfl,
  hp_gf rfl (Nat.lt_of_lt_of_le (by decide : 27 < 71) hz) rfl,
  fun x => hp_pf rfl (Nat.lt_of_lt_of_le (by decide : 27 < 71) hz) (Nat.le_of_ble_eq_true rfl) rfl rfl,
  hp_gf rfl (Nat.lt_of_lt_of_le (by decide : 27 < 71) hz) rfl,
  fun x => hp_pf rfl (Nat.lt_of_lt_of_le (by decide : 27 < 71) hz) (Nat.le_of_ble_eq_true rfl) rfl rfl,
  eq_true (Nat.lt_of_lt_of_le (by decide : 28 < 71) hz),
  hp_is rfl (Nat.lt_of_lt_of_le (by decide : 28 < 71) hz),
  hp_gf rfl (Nat.lt_of_lt_of_le (by decide : 28 < 71) hz) rfl,
  hp_gf rfl (Nat.lt_of_lt_of_le (by decide : 28 < 71) hz) rfl,
  fun x => hp_pf rfl (Nat.lt_of_lt_of_le (by decide : 28 < 71) hz) (Nat.le_of_ble_eq_true rfl) rfl rfl,
  eq_true (Nat.lt_of_lt_of_le (by decide : 29 < 71) hz),
  hp_ai (fun _ _ _ => rfl) (Nat.lt_of_lt_of_le (by decide : 29 < 71) hz),
  hp_wi (fun _ _ _ => rfl) (Nat.lt_of_lt_of_le (by decide : 29 < 71) hz),
  hp_al (n := 30) (fun _ _ _ => rfl) (Nat.lt_of_lt_of_le (by decide : 29 < 71) hz),
  eq_true (Nat.lt_of_lt_of_le (by decide : 30 < 71) hz),
  hp_is rfl (Nat.lt_of_lt_of_le (by decide : 30 < 71) hz),
  hp_gf rfl (Nat.lt_of_lt_of_le (by decide : 30 < 71) hz) rfl,
  hp_gf rfl (Nat.lt_of_lt_of_le (by decide : 30 < 71) hz) rfl,
  hp_gf rfl (Nat.lt_of_lt_of_le (by decide : 30 < 71) hz) rfl,
  fun x => hp_pf rfl (Nat.lt_of_lt_of_le (by decide : 30 < 71) hz) (Nat.le_of_ble_eq_true rfl) rfl rfl,
  hp_gf rfl (Nat.lt_of_lt_of_le (by decide : 30 < 71) hz) rfl,
  fun x => hp_pf rfl (Nat.lt_of_lt_of_le (by decide : 30 < 71) hz) (Nat.le_of_ble_eq_true rfl) rfl rfl,
  eq_true (Nat.lt_of_lt_of_le (by decide : 31 < 71) hz),
  hp_is rfl (Nat.lt_of_lt_of_le (by decide : 31 < 71) hz),
  hp_gf rfl (Nat.lt_of_lt_of_le (by decide : 31 < 71) hz) rfl,
  hp_gf rfl (Nat.lt_of_lt_of_le (by decide : 31 < 71) hz) rfl,
  hp_gf rfl (Nat.lt_of_lt_of_le (by decide : 31 < 71) hz) rfl,
  fun x => hp_pf rfl (Nat.lt_of_lt_of_le (by decide : 31 < 71) hz) (Nat.le_of_ble_eq_true rfl) rfl rfl,
  eq_true (Nat.lt_of_lt_of_le (by decide : 32 < 71) hz),
  hp_ai (fun _ _ _ => rfl) (Nat.lt_of_lt_of_le (by decide : 32 < 71) hz),
  hp_wi (fun _ _ _ => rfl) (Nat.lt_of_lt_of_le (by decide : 32 < 71) hz),
  hp_al (n := 60) (fun _ _ _ => rfl) (Nat.lt_of_lt_of_le (by decide : 32 < 71) hz)⟩
theorem Hc3 (kq fq : Option Nat) (L : Nat) (xs : Nat → Int32) (A B : Nat → Nat → Int32) (J : Nat → Nat → Int64) (sz : Nat) (hz : 71 ≤ sz) :
  (33 < sz) = True ∧
  (∀ k, rr_ai sz (hp kq fq L xs A B J) 33 k = if rr_in k 60 = true then some (A 33 k.toNatClampNeg) else none) ∧
  (∀ k x, rr_wi sz (hp kq fq L xs A B J) 33 k x = if rr_in k 60 = true then some (hp kq fq L xs (u1 A 33 (upd (A 33) k.toNatClampNeg x)) B J) else none) ∧
  rr_al sz (hp kq fq L xs A B J) 33 = some 60 ∧
  (34 < sz) = True ∧
  rr_is sz (hp kq fq L xs A B J) 3 34 = true ∧
  rr_gf sz (hp kq fq L xs A B J) 34 3 0 = some (.ref 35) ∧
  rr_gf sz (hp kq fq L xs A B J) 34 3 1 = some (.int (B 34 1)) ∧
  (∀ x, rr_pf sz (hp kq fq L xs A B J) 34 3 1 (.int x) = some (hp kq fq L xs A (u2 B 34 1 x) J)) ∧
  (35 < sz) = True ∧
  (∀ k, rr_ai sz (hp kq fq L xs A B J) 35 k = if rr_in k 60 = true then some (A 35 k.toNatClampNeg) else none) ∧
  (∀ k x, rr_wi sz (hp kq fq L xs A B J) 35 k x = if rr_in k 60 = true then some (hp kq fq L xs (u1 A 35 (upd (A 35) k.toNatClampNeg x)) B J) else none) ∧
  rr_al sz (hp kq fq L xs A B J) 35 = some 60 ∧
  (36 < sz) = True ∧
  rr_is sz (hp kq fq L xs A B J) 4 36 = true ∧
  rr_gf sz (hp kq fq L xs A B J) 36 4 0 = some (.int (B 36 0)) ∧
  (∀ x, rr_pf sz (hp kq fq L xs A B J) 36 4 0 (.int x) = some (hp kq fq L xs A (u2 B 36 0 x) J)) ∧
  rr_gf sz (hp kq fq L xs A B J) 36 4 1 = some (.int (B 36 1)) ∧
  (∀ x, rr_pf sz (hp kq fq L xs A B J) 36 4 1 (.int x) = some (hp kq fq L xs A (u2 B 36 1 x) J)) ∧
  rr_gf sz (hp kq fq L xs A B J) 36 4 2 = some (.int (B 36 2)) ∧
  (∀ x, rr_pf sz (hp kq fq L xs A B J) 36 4 2 (.int x) = some (hp kq fq L xs A (u2 B 36 2 x) J)) ∧
  rr_gf sz (hp kq fq L xs A B J) 36 4 3 = some (.ref 37) ∧
  rr_gf sz (hp kq fq L xs A B J) 36 4 4 = some (.ref 38) ∧
  (37 < sz) = True ∧
  (∀ k, rr_ai sz (hp kq fq L xs A B J) 37 k = if rr_in k 256 = true then some (A 37 k.toNatClampNeg) else none) ∧
  (∀ k x, rr_wi sz (hp kq fq L xs A B J) 37 k x = if rr_in k 256 = true then some (hp kq fq L xs (u1 A 37 (upd (A 37) k.toNatClampNeg x)) B J) else none) ∧
  rr_al sz (hp kq fq L xs A B J) 37 = some 256 ∧
  (38 < sz) = True ∧
  (∀ k, rr_ai sz (hp kq fq L xs A B J) 38 k = if rr_in k 256 = true then some (A 38 k.toNatClampNeg) else none) ∧
  (∀ k x, rr_wi sz (hp kq fq L xs A B J) 38 k x = if rr_in k 256 = true then some (hp kq fq L xs (u1 A 38 (upd (A 38) k.toNatClampNeg x)) B J) else none) ∧
  rr_al sz (hp kq fq L xs A B J) 38 = some 256 ∧
  (39 < sz) = True ∧
  rr_is sz (hp kq fq L xs A B J) 1 39 = true ∧
  rr_gf sz (hp kq fq L xs A B J) 39 1 0 = some (.int (B 39 0)) ∧
  (∀ x, rr_pf sz (hp kq fq L xs A B J) 39 1 0 (.int x) = some (hp kq fq L xs A (u2 B 39 0 x) J)) ∧
  rr_gf sz (hp kq fq L xs A B J) 39 1 1 = some (.int (B 39 1)) ∧
  (∀ x, rr_pf sz (hp kq fq L xs A B J) 39 1 1 (.int x) = some (hp kq fq L xs A (u2 B 39 1 x) J)) ∧
  rr_gf sz (hp kq fq L xs A B J) 39 1 2 = some (.int (B 39 2)) ∧
  (∀ x, rr_pf sz (hp kq fq L xs A B J) 39 1 2 (.int x) = some (hp kq fq L xs A (u2 B 39 2 x) J)) ∧
  rr_gf sz (hp kq fq L xs A B J) 39 1 3 = some (.int (B 39 3)) ∧
  (∀ x, rr_pf sz (hp kq fq L xs A B J) 39 1 3 (.int x) = some (hp kq fq L xs A (u2 B 39 3 x) J)) ∧
  rr_gf sz (hp kq fq L xs A B J) 39 1 4 = some (.ref 40) ∧
  (40 < sz) = True ∧
  (∀ k, rr_ai sz (hp kq fq L xs A B J) 40 k = if rr_in k 8 = true then some (A 40 k.toNatClampNeg) else none) ∧
  (∀ k x, rr_wi sz (hp kq fq L xs A B J) 40 k x = if rr_in k 8 = true then some (hp kq fq L xs (u1 A 40 (upd (A 40) k.toNatClampNeg x)) B J) else none) ∧
  rr_al sz (hp kq fq L xs A B J) 40 = some 8 ∧
  (41 < sz) = True ∧
  (∀ k, rr_ai sz (hp kq fq L xs A B J) 41 k = if rr_in k 8 = true then some (A 41 k.toNatClampNeg) else none) ∧
  (∀ k x, rr_wi sz (hp kq fq L xs A B J) 41 k x = if rr_in k 8 = true then some (hp kq fq L xs (u1 A 41 (upd (A 41) k.toNatClampNeg x)) B J) else none) ∧
  rr_al sz (hp kq fq L xs A B J) 41 = some 8 ∧
  (42 < sz) = True ∧
  (∀ k, rr_aj sz (hp kq fq L xs A B J) 42 k = if rr_in k 8 = true then some (J 42 k.toNatClampNeg) else none) ∧
  (∀ k x, rr_wj sz (hp kq fq L xs A B J) 42 k x = if rr_in k 8 = true then some (hp kq fq L xs A B (uJ J 42 (vp_updL (J 42) k.toNatClampNeg x))) else none) ∧
  (43 < sz) = True ∧
  rr_is sz (hp kq fq L xs A B J) 5 43 = true ∧
  rr_gf sz (hp kq fq L xs A B J) 43 5 0 = some (.int (B 43 0)) ∧
  (∀ x, rr_pf sz (hp kq fq L xs A B J) 43 5 0 (.int x) = some (hp kq fq L xs A (u2 B 43 0 x) J)) ∧
  rr_gf sz (hp kq fq L xs A B J) 43 5 1 = some (.int (B 43 1)) ∧
  (∀ x, rr_pf sz (hp kq fq L xs A B J) 43 5 1 (.int x) = some (hp kq fq L xs A (u2 B 43 1 x) J)) ∧
  rr_gf sz (hp kq fq L xs A B J) 43 5 2 = some (.ref 44) :=
  ⟨eq_true (Nat.lt_of_lt_of_le (by decide : 33 < 71) hz),
  hp_ai (fun _ _ _ => rfl) (Nat.lt_of_lt_of_le (by decide : 33 < 71) hz),
  hp_wi (fun _ _ _ => rfl) (Nat.lt_of_lt_of_le (by decide : 33 < 71) hz),
  hp_al (n := 60) (fun _ _ _ => rfl) (Nat.lt_of_lt_of_le (by decide : 33 < 71) hz),
  eq_true (Nat.lt_of_lt_of_le (by decide : 34 < 71) hz),
  hp_is rfl (Nat.lt_of_lt_of_le (by decide : 34 < 71) hz),
  hp_gf rfl (Nat.lt_of_lt_of_le (by decide : 34 < 71) hz) rfl,
  hp_gf rfl (Nat.lt_of_lt_of_le (by decide : 34 < 71) hz) rfl,
  fun x => hp_pf rfl (Nat.lt_of_lt_of_le (by decide : 34 < 71) hz) (Nat.le_of_ble_eq_true rfl) rfl rfl,
  eq_true (Nat.lt_of_lt_of_le (by decide : 35 < 71) hz),
  hp_ai (fun _ _ _ => rfl) (Nat.lt_of_lt_of_le (by decide : 35 < 71) hz),
  hp_wi (fun _ _ _ => rfl) (Nat.lt_of_lt_of_le (by decide : 35 < 71) hz),
  hp_al (n := 60) (fun _ _ _ => rfl) (Nat.lt_of_lt_of_le (by decide : 35 < 71) hz),
  eq_true (Nat.lt_of_lt_of_le (by decide : 36 < 71) hz),
  hp_is rfl (Nat.lt_of_lt_of_le (by decide : 36 < 71) hz),
  hp_gf rfl (Nat.lt_of_lt_of_le (by decide : 36 < 71) hz) rfl,
  fun x => hp_pf rfl (Nat.lt_of_lt_of_le (by decide : 36 < 71) hz) (Nat.le_of_ble_eq_true rfl) rfl rfl,
  hp_gf rfl (Nat.lt_of_lt_of_le (by decide : 36 < 71) hz) rfl,
  fun x => hp_pf rfl (Nat.lt_of_lt_of_le (by decide : 36 < 71) hz) (Nat.le_of_ble_eq_true rfl) rfl rfl,
  hp_gf rfl (Nat.lt_of_lt_of_le (by decide : 36 < 71) hz) rfl,
  fun x => hp_pf rfl (Nat.lt_of_lt_of_le (by decide : 36 < 71) hz) (Nat.le_of_ble_eq_true rfl) rfl rfl,
  hp_gf rfl (Nat.lt_of_lt_of_le (by decide : 36 < 71) hz) rfl,
  hp_gf rfl (Nat.lt_of_lt_of_le (by decide : 36 < 71) hz) rfl,
  eq_true (Nat.lt_of_lt_of_le (by decide : 37 < 71) hz),
  hp_ai (fun _ _ _ => rfl) (Nat.lt_of_lt_of_le (by decide : 37 < 71) hz),
  hp_wi (fun _ _ _ => rfl) (Nat.lt_of_lt_of_le (by decide : 37 < 71) hz),
  hp_al (n := 256) (fun _ _ _ => rfl) (Nat.lt_of_lt_of_le (by decide : 37 < 71) hz),
  eq_true (Nat.lt_of_lt_of_le (by decide : 38 < 71) hz),
  hp_ai (fun _ _ _ => rfl) (Nat.lt_of_lt_of_le (by decide : 38 < 71) hz),
  hp_wi (fun _ _ _ => rfl) (Nat.lt_of_lt_of_le (by decide : 38 < 71) hz),
  hp_al (n := 256) (fun _ _ _ => rfl) (Nat.lt_of_lt_of_le (by decide : 38 < 71) hz),
  eq_true (Nat.lt_of_lt_of_le (by decide : 39 < 71) hz),
  hp_is rfl (Nat.lt_of_lt_of_le (by decide : 39 < 71) hz),
  hp_gf rfl (Nat.lt_of_lt_of_le (by decide : 39 < 71) hz) rfl,
  fun x => hp_pf rfl (Nat.lt_of_lt_of_le (by decide : 39 < 71) hz) (Nat.le_of_ble_eq_true rfl) rfl rfl,
  hp_gf rfl (Nat.lt_of_lt_of_le (by decide : 39 < 71) hz) rfl,
  fun x => hp_pf rfl (Nat.lt_of_lt_of_le (by decide : 39 < 71) hz) (Nat.le_of_ble_eq_true rfl) rfl rfl,
  hp_gf rfl (Nat.lt_of_lt_of_le (by decide : 39 < 71) hz) rfl,
  fun x => hp_pf rfl (Nat.lt_of_lt_of_le (by decide : 39 < 71) hz) (Nat.le_of_ble_eq_true rfl) rfl rfl,
  hp_gf rfl (Nat.lt_of_lt_of_le (by decide : 39 < 71) hz) rfl,
  fun x => hp_pf rfl (Nat.lt_of_lt_of_le (by decide : 39 < 71) hz) (Nat.le_of_ble_eq_true rfl) rfl rfl,
  hp_gf rfl (Nat.lt_of_lt_of_le (by decide : 39 < 71) hz) rfl,
  eq_true (Nat.lt_of_lt_of_le (by decide : 40 < 71) hz),
  hp_ai (fun _ _ _ => rfl) (Nat.lt_of_lt_of_le (by decide : 40 < 71) hz),
  hp_wi (fun _ _ _ => rfl) (Nat.lt_of_lt_of_le (by decide : 40 < 71) hz),
  hp_al (n := 8) (fun _ _ _ => rfl) (Nat.lt_of_lt_of_le (by decide : 40 < 71) hz),
  eq_true (Nat.lt_of_lt_of_le (by decide : 41 < 71) hz),
  hp_ai (fun _ _ _ => rfl) (Nat.lt_of_lt_of_le (by decide : 41 < 71) hz),
  hp_wi (fun _ _ _ => rfl) (Nat.lt_of_lt_of_le (by decide : 41 < 71) hz),
  hp_al (n := 8) (fun _ _ _ => rfl) (Nat.lt_of_lt_of_le (by decide : 41 < 71) hz),
  eq_true (Nat.lt_of_lt_of_le (by decide : 42 < 71) hz),
  hp_aj (fun _ _ _ => rfl) (Nat.lt_of_lt_of_le (by decide : 42 < 71) hz),
  hp_wj (fun _ _ _ => rfl) (Nat.lt_of_lt_of_le (by decide : 42 < 71) hz),
  eq_true (Nat.lt_of_lt_of_le (by decide : 43 < 71) hz),
  hp_is rfl (Nat.lt_of_lt_of_le (by decide : 43 < 71) hz),
  hp_gf rfl (Nat.lt_of_lt_of_le (by decide : 43 < 71) hz) rfl,
  fun x => hp_pf rfl (Nat.lt_of_lt_of_le (by decide : 43 < 71) hz) (Nat.le_of_ble_eq_true rfl) rfl rfl,
  hp_gf rfl (Nat.lt_of_lt_of_le (by decide : 43 < 71) hz) rfl,
  fun x => hp_pf rfl (Nat.lt_of_lt_of_le (by decide : 43 < 71) hz) (Nat.le_of_ble_eq_true rfl) rfl rfl,
  hp_gf rfl (Nat.lt_of_lt_of_le (by decide : 43 < 71) hz) rfl⟩
theorem Hc4 (kq fq : Option Nat) (L : Nat) (xs : Nat → Int32) (A B : Nat → Nat → Int32) (J : Nat → Nat → Int64) (sz : Nat) (hz : 71 ≤ sz) :
  (44 < sz) = True ∧
  (∀ k, rr_ai sz (hp kq fq L xs A B J) 44 k = if rr_in k 24 = true then some (A 44 k.toNatClampNeg) else none) ∧
  (∀ k x, rr_wi sz (hp kq fq L xs A B J) 44 k x = if rr_in k 24 = true then some (hp kq fq L xs (u1 A 44 (upd (A 44) k.toNatClampNeg x)) B J) else none) ∧
  rr_al sz (hp kq fq L xs A B J) 44 = some 24 ∧
  (45 < sz) = True ∧
  rr_is sz (hp kq fq L xs A B J) 5 45 = true ∧
  rr_gf sz (hp kq fq L xs A B J) 45 5 0 = some (.int (B 45 0)) ∧
  (∀ x, rr_pf sz (hp kq fq L xs A B J) 45 5 0 (.int x) = some (hp kq fq L xs A (u2 B 45 0 x) J)) ∧
  rr_gf sz (hp kq fq L xs A B J) 45 5 1 = some (.int (B 45 1)) ∧
  (∀ x, rr_pf sz (hp kq fq L xs A B J) 45 5 1 (.int x) = some (hp kq fq L xs A (u2 B 45 1 x) J)) ∧
  rr_gf sz (hp kq fq L xs A B J) 45 5 2 = some (.ref 46) ∧
  (46 < sz) = True ∧
  (∀ k, rr_ai sz (hp kq fq L xs A B J) 46 k = if rr_in k 24 = true then some (A 46 k.toNatClampNeg) else none) ∧
  (∀ k x, rr_wi sz (hp kq fq L xs A B J) 46 k x = if rr_in k 24 = true then some (hp kq fq L xs (u1 A 46 (upd (A 46) k.toNatClampNeg x)) B J) else none) ∧
  rr_al sz (hp kq fq L xs A B J) 46 = some 24 ∧
  (47 < sz) = True ∧
  rr_is sz (hp kq fq L xs A B J) 5 47 = true ∧
  rr_gf sz (hp kq fq L xs A B J) 47 5 0 = some (.int (B 47 0)) ∧
  (∀ x, rr_pf sz (hp kq fq L xs A B J) 47 5 0 (.int x) = some (hp kq fq L xs A (u2 B 47 0 x) J)) ∧
  rr_gf sz (hp kq fq L xs A B J) 47 5 1 = some (.int (B 47 1)) ∧
  (∀ x, rr_pf sz (hp kq fq L xs A B J) 47 5 1 (.int x) = some (hp kq fq L xs A (u2 B 47 1 x) J)) ∧
  rr_gf sz (hp kq fq L xs A B J) 47 5 2 = some (.ref 48) ∧
  (48 < sz) = True ∧
  (∀ k, rr_ai sz (hp kq fq L xs A B J) 48 k = if rr_in k 24 = true then some (A 48 k.toNatClampNeg) else none) ∧
  (∀ k x, rr_wi sz (hp kq fq L xs A B J) 48 k x = if rr_in k 24 = true then some (hp kq fq L xs (u1 A 48 (upd (A 48) k.toNatClampNeg x)) B J) else none) ∧
  rr_al sz (hp kq fq L xs A B J) 48 = some 24 ∧
  (49 < sz) = True ∧
  rr_is sz (hp kq fq L xs A B J) 5 49 = true ∧
  rr_gf sz (hp kq fq L xs A B J) 49 5 0 = some (.int (B 49 0)) ∧
  (∀ x, rr_pf sz (hp kq fq L xs A B J) 49 5 0 (.int x) = some (hp kq fq L xs A (u2 B 49 0 x) J)) ∧
  rr_gf sz (hp kq fq L xs A B J) 49 5 1 = some (.int (B 49 1)) ∧
  (∀ x, rr_pf sz (hp kq fq L xs A B J) 49 5 1 (.int x) = some (hp kq fq L xs A (u2 B 49 1 x) J)) ∧
  rr_gf sz (hp kq fq L xs A B J) 49 5 2 = some (.ref 50) ∧
  (50 < sz) = True ∧
  (∀ k, rr_ai sz (hp kq fq L xs A B J) 50 k = if rr_in k 24 = true then some (A 50 k.toNatClampNeg) else none) ∧
  (∀ k x, rr_wi sz (hp kq fq L xs A B J) 50 k x = if rr_in k 24 = true then some (hp kq fq L xs (u1 A 50 (upd (A 50) k.toNatClampNeg x)) B J) else none) ∧
  rr_al sz (hp kq fq L xs A B J) 50 = some 24 :=
  ⟨eq_true (Nat.lt_of_lt_of_le (by decide : 44 < 71) hz),
  hp_ai (fun _ _ _ => rfl) (Nat.lt_of_lt_of_le (by decide : 44 < 71) hz),
  hp_wi (fun _ _ _ => rfl) (Nat.lt_of_lt_of_le (by decide : 44 < 71) hz),
  hp_al (n := 24) (fun _ _ _ => rfl) (Nat.lt_of_lt_of_le (by decide : 44 < 71) hz),
  eq_true (Nat.lt_of_lt_of_le (by decide : 45 < 71) hz),
  hp_is rfl (Nat.lt_of_lt_of_le (by decide : 45 < 71) hz),
  hp_gf rfl (Nat.lt_of_lt_of_le (by decide : 45 < 71) hz) rfl,
  fun x => hp_pf rfl (Nat.lt_of_lt_of_le (by decide : 45 < 71) hz) (Nat.le_of_ble_eq_true rfl) rfl rfl,
  hp_gf rfl (Nat.lt_of_lt_of_le (by decide : 45 < 71) hz) rfl,
  fun x => hp_pf rfl (Nat.lt_of_lt_of_le (by decide : 45 < 71) hz) (Nat.le_of_ble_eq_true rfl) rfl rfl,
  hp_gf rfl (Nat.lt_of_lt_of_le (by decide : 45 < 71) hz) rfl,
  eq_true (Nat.lt_of_lt_of_le (by decide : 46 < 71) hz),
  hp_ai (fun _ _ _ => rfl) (Nat.lt_of_lt_of_le (by decide : 46 < 71) hz),
  hp_wi (fun _ _ _ => rfl) (Nat.lt_of_lt_of_le (by decide : 46 < 71) hz),
  hp_al (n := 24) (fun _ _ _ => rfl) (Nat.lt_of_lt_of_le (by decide : 46 < 71) hz),
  eq_true (Nat.lt_of_lt_of_le (by decide : 47 < 71) hz),
  hp_is rfl (Nat.lt_of_lt_of_le (by decide : 47 < 71) hz),
  hp_gf rfl (Nat.lt_of_lt_of_le (by decide : 47 < 71) hz) rfl,
  fun x => hp_pf rfl (Nat.lt_of_lt_of_le (by decide : 47 < 71) hz) (Nat.le_of_ble_eq_true rfl) rfl rfl,
  hp_gf rfl (Nat.lt_of_lt_of_le (by decide : 47 < 71) hz) rfl,
  fun x => hp_pf rfl (Nat.lt_of_lt_of_le (by decide : 47 < 71) hz) (Nat.le_of_ble_eq_true rfl) rfl rfl,
  hp_gf rfl (Nat.lt_of_lt_of_le (by decide : 47 < 71) hz) rfl,
  eq_true (Nat.lt_of_lt_of_le (by decide : 48 < 71) hz),
  hp_ai (fun _ _ _ => rfl) (Nat.lt_of_lt_of_le (by decide : 48 < 71) hz),
  hp_wi (fun _ _ _ => rfl) (Nat.lt_of_lt_of_le (by decide : 48 < 71) hz),
  hp_al (n := 24) (fun _ _ _ => rfl) (Nat.lt_of_lt_of_le (by decide : 48 < 71) hz),
  eq_true (Nat.lt_of_lt_of_le (by decide : 49 < 71) hz),
  hp_is rfl (Nat.lt_of_lt_of_le (by decide : 49 < 71) hz),
  hp_gf rfl (Nat.lt_of_lt_of_le (by decide : 49 < 71) hz) rfl,
  fun x => hp_pf rfl (Nat.lt_of_lt_of_le (by decide : 49 < 71) hz) (Nat.le_of_ble_eq_true rfl) rfl rfl,
  hp_gf rfl (Nat.lt_of_lt_of_le (by decide : 49 < 71) hz) rfl,
  fun x => hp_pf rfl (Nat.lt_of_lt_of_le (by decide : 49 < 71) hz) (Nat.le_of_ble_eq_true rfl) rfl rfl,
  hp_gf rfl (Nat.lt_of_lt_of_le (by decide : 49 < 71) hz) rfl,
  eq_true (Nat.lt_of_lt_of_le (by decide : 50 < 71) hz),
  hp_ai (fun _ _ _ => rfl) (Nat.lt_of_lt_of_le (by decide : 50 < 71) hz),
  hp_wi (fun _ _ _ => rfl) (Nat.lt_of_lt_of_le (by decide : 50 < 71) hz),
  hp_al (n := 24) (fun _ _ _ => rfl) (Nat.lt_of_lt_of_le (by decide : 50 < 71) hz)⟩
theorem Hm0 (kq fq : Option Nat) (L : Nat) (xs : Nat → Int32) (A B : Nat → Nat → Int32) (J : Nat → Nat → Int64) (sz : Nat) (hz : 71 ≤ sz) :
  (51 < sz) = True ∧
  rr_is sz (hp kq fq L xs A B J) 10 51 = true ∧
  rr_gf sz (hp kq fq L xs A B J) 51 10 0 = some (.ref 52) ∧
  rr_gf sz (hp kq fq L xs A B J) 51 10 1 = some (.ref 53) ∧
  rr_gf sz (hp kq fq L xs A B J) 51 10 2 = some (.ref 54) ∧
  rr_gf sz (hp kq fq L xs A B J) 51 10 3 = some (.int (B 51 3)) ∧
  (∀ x, rr_pf sz (hp kq fq L xs A B J) 51 10 3 (.int x) = some (hp kq fq L xs A (u2 B 51 3 x) J)) ∧
  rr_gf sz (hp kq fq L xs A B J) 51 10 4 = some (.ref 55) ∧
  rr_gf sz (hp kq fq L xs A B J) 51 10 5 = some (.int (B 51 5)) ∧
  (∀ x, rr_pf sz (hp kq fq L xs A B J) 51 10 5 (.int x) = some (hp kq fq L xs A (u2 B 51 5 x) J)) ∧
  rr_gf sz (hp kq fq L xs A B J) 51 10 6 = some (.int (B 51 6)) ∧
  (∀ x, rr_pf sz (hp kq fq L xs A B J) 51 10 6 (.int x) = some (hp kq fq L xs A (u2 B 51 6 x) J)) ∧
  rr_gf sz (hp kq fq L xs A B J) 51 10 7 = some (.int (B 51 7)) ∧
  (∀ x, rr_pf sz (hp kq fq L xs A B J) 51 10 7 (.int x) = some (hp kq fq L xs A (u2 B 51 7 x) J)) ∧
  rr_gf sz (hp kq fq L xs A B J) 51 10 8 = some (.int (B 51 8)) ∧
  (∀ x, rr_pf sz (hp kq fq L xs A B J) 51 10 8 (.int x) = some (hp kq fq L xs A (u2 B 51 8 x) J)) ∧
  rr_gf sz (hp kq fq L xs A B J) 51 10 9 = some (.ref 56) ∧
  rr_gf sz (hp kq fq L xs A B J) 51 10 10 = some (.ref 57) ∧
  rr_gf sz (hp kq fq L xs A B J) 51 10 11 = some (.ref 58) ∧
  rr_gf sz (hp kq fq L xs A B J) 51 10 12 = some (.ref 59) ∧
  rr_gf sz (hp kq fq L xs A B J) 51 10 13 = some (.ref 60) ∧
  rr_gf sz (hp kq fq L xs A B J) 51 10 14 = some (.ref 61) ∧
  rr_gf sz (hp kq fq L xs A B J) 51 10 15 = some (.ref 62) ∧
  rr_gf sz (hp kq fq L xs A B J) 51 10 16 = some (.ref 63) ∧
  rr_gf sz (hp kq fq L xs A B J) 51 10 17 = some (.ref 64) ∧
  rr_gf sz (hp kq fq L xs A B J) 51 10 18 = some (.int (B 51 18)) ∧
  (∀ x, rr_pf sz (hp kq fq L xs A B J) 51 10 18 (.int x) = some (hp kq fq L xs A (u2 B 51 18 x) J)) ∧
  rr_gf sz (hp kq fq L xs A B J) 51 10 19 = some (.ref 65) ∧
  rr_gf sz (hp kq fq L xs A B J) 51 10 20 = some (.int (B 51 20)) ∧
  (∀ x, rr_pf sz (hp kq fq L xs A B J) 51 10 20 (.int x) = some (hp kq fq L xs A (u2 B 51 20 x) J)) ∧
  rr_gf sz (hp kq fq L xs A B J) 51 10 21 = some (.int (B 51 21)) ∧
  (∀ x, rr_pf sz (hp kq fq L xs A B J) 51 10 21 (.int x) = some (hp kq fq L xs A (u2 B 51 21 x) J)) ∧
  rr_gf sz (hp kq fq L xs A B J) 51 10 22 = some (.int (B 51 22)) ∧
  (∀ x, rr_pf sz (hp kq fq L xs A B J) 51 10 22 (.int x) = some (hp kq fq L xs A (u2 B 51 22 x) J)) ∧
  rr_gf sz (hp kq fq L xs A B J) 51 10 23 = some (.ref 66) ∧
  rr_gf sz (hp kq fq L xs A B J) 51 10 24 = some (.ref 67) ∧
  rr_gf sz (hp kq fq L xs A B J) 51 10 25 = some (.ref 68) ∧
  rr_gf sz (hp kq fq L xs A B J) 51 10 26 = some (.ref 69) ∧
  rr_gf sz (hp kq fq L xs A B J) 51 10 27 = some (.ref 70) ∧
  (52 < sz) = True ∧
  (∀ k, rr_ai sz (hp kq fq L xs A B J) 52 k = if rr_in k 422 = true then some (A 52 k.toNatClampNeg) else none) ∧
  (∀ k x, rr_wi sz (hp kq fq L xs A B J) 52 k x = if rr_in k 422 = true then some (hp kq fq L xs (u1 A 52 (upd (A 52) k.toNatClampNeg x)) B J) else none) ∧
  rr_al sz (hp kq fq L xs A B J) 52 = some 422 ∧
  (53 < sz) = True ∧
  (∀ k, rr_ai sz (hp kq fq L xs A B J) 53 k = if rr_in k 422 = true then some (A 53 k.toNatClampNeg) else none) ∧
  (∀ k x, rr_wi sz (hp kq fq L xs A B J) 53 k x = if rr_in k 422 = true then some (hp kq fq L xs (u1 A 53 (upd (A 53) k.toNatClampNeg x)) B J) else none) ∧
  rr_al sz (hp kq fq L xs A B J) 53 = some 422 ∧
  (54 < sz) = True ∧
  (∀ k, rr_ai sz (hp kq fq L xs A B J) 54 k = if rr_in k 422 = true then some (A 54 k.toNatClampNeg) else none) ∧
  (∀ k x, rr_wi sz (hp kq fq L xs A B J) 54 k x = if rr_in k 422 = true then some (hp kq fq L xs (u1 A 54 (upd (A 54) k.toNatClampNeg x)) B J) else none) ∧
  rr_al sz (hp kq fq L xs A B J) 54 = some 422 ∧
  (55 < sz) = True ∧
  (∀ k, rr_ai sz (hp kq fq L xs A B J) 55 k = if rr_in k 7 = true then some (A 55 k.toNatClampNeg) else none) ∧
  (∀ k x, rr_wi sz (hp kq fq L xs A B J) 55 k x = if rr_in k 7 = true then some (hp kq fq L xs (u1 A 55 (upd (A 55) k.toNatClampNeg x)) B J) else none) ∧
  rr_al sz (hp kq fq L xs A B J) 55 = some 7 ∧
  (56 < sz) = True ∧
  (∀ k, rr_ai sz (hp kq fq L xs A B J) 56 k = if rr_in k 124 = true then some (A 56 k.toNatClampNeg) else none) ∧
  (∀ k x, rr_wi sz (hp kq fq L xs A B J) 56 k x = if rr_in k 124 = true then some (hp kq fq L xs (u1 A 56 (upd (A 56) k.toNatClampNeg x)) B J) else none) ∧
  rr_al sz (hp kq fq L xs A B J) 56 = some 124 ∧
  (57 < sz) = True :=
  ⟨eq_true (Nat.lt_of_lt_of_le (by decide : 51 < 71) hz),
  hp_is rfl (Nat.lt_of_lt_of_le (by decide : 51 < 71) hz),
  hp_gf rfl (Nat.lt_of_lt_of_le (by decide : 51 < 71) hz) rfl,
  hp_gf rfl (Nat.lt_of_lt_of_le (by decide : 51 < 71) hz) rfl,
  hp_gf rfl (Nat.lt_of_lt_of_le (by decide : 51 < 71) hz) rfl,
  hp_gf rfl (Nat.lt_of_lt_of_le (by decide : 51 < 71) hz) rfl,
  fun x => hp_pf rfl (Nat.lt_of_lt_of_le (by decide : 51 < 71) hz) (Nat.le_of_ble_eq_true rfl) rfl rfl,
  hp_gf rfl (Nat.lt_of_lt_of_le (by decide : 51 < 71) hz) rfl,
  hp_gf rfl (Nat.lt_of_lt_of_le (by decide : 51 < 71) hz) rfl,
  fun x => hp_pf rfl (Nat.lt_of_lt_of_le (by decide : 51 < 71) hz) (Nat.le_of_ble_eq_true rfl) rfl rfl,
  hp_gf rfl (Nat.lt_of_lt_of_le (by decide : 51 < 71) hz) rfl,
  fun x => hp_pf rfl (Nat.lt_of_lt_of_le (by decide : 51 < 71) hz) (Nat.le_of_ble_eq_true rfl) rfl rfl,
  hp_gf rfl (Nat.lt_of_lt_of_le (by decide : 51 < 71) hz) rfl,
  fun x => hp_pf rfl (Nat.lt_of_lt_of_le (by decide : 51 < 71) hz) (Nat.le_of_ble_eq_true rfl) rfl rfl,
  hp_gf rfl (Nat.lt_of_lt_of_le (by decide : 51 < 71) hz) rfl,
  fun x => hp_pf rfl (Nat.lt_of_lt_of_le (by decide : 51 < 71) hz) (Nat.le_of_ble_eq_true rfl) rfl rfl,
  hp_gf rfl (Nat.lt_of_lt_of_le (by decide : 51 < 71) hz) rfl,
  hp_gf rfl (Nat.lt_of_lt_of_le (by decide : 51 < 71) hz) rfl,
  hp_gf rfl (Nat.lt_of_lt_of_le (by decide : 51 < 71) hz) rfl,
  hp_gf rfl (Nat.lt_of_lt_of_le (by decide : 51 < 71) hz) rfl,
  hp_gf rfl (Nat.lt_of_lt_of_le (by decide : 51 < 71) hz) rfl,
  hp_gf rfl (Nat.lt_of_lt_of_le (by decide : 51 < 71) hz) rfl,
  hp_gf rfl (Nat.lt_of_lt_of_le (by decide : 51 < 71) hz) rfl,
  hp_gf rfl (Nat.lt_of_lt_of_le (by decide : 51 < 71) hz) rfl,
  hp_gf rfl (Nat.lt_of_lt_of_le (by decide : 51 < 71) hz) rfl,
  hp_gf rfl (Nat.lt_of_lt_of_le (by decide : 51 < 71) hz) rfl,
  fun x => hp_pf rfl (Nat.lt_of_lt_of_le (by decide : 51 < 71) hz) (Nat.le_of_ble_eq_true rfl) rfl rfl,
  hp_gf rfl (Nat.lt_of_lt_of_le (by decide : 51 < 71) hz) rfl,
  hp_gf rfl (Nat.lt_of_lt_of_le (by decide : 51 < 71) hz) rfl,
  fun x => hp_pf rfl (Nat.lt_of_lt_of_le (by decide : 51 < 71) hz) (Nat.le_of_ble_eq_true rfl) rfl rfl,
  hp_gf rfl (Nat.lt_of_lt_of_le (by decide : 51 < 71) hz) rfl,
  fun x => hp_pf rfl (Nat.lt_of_lt_of_le (by decide : 51 < 71) hz) (Nat.le_of_ble_eq_true rfl) rfl rfl,
  hp_gf rfl (Nat.lt_of_lt_of_le (by decide : 51 < 71) hz) rfl,
  fun x => hp_pf rfl (Nat.lt_of_lt_of_le (by decide : 51 < 71) hz) (Nat.le_of_ble_eq_true rfl) rfl rfl,
  hp_gf rfl (Nat.lt_of_lt_of_le (by decide : 51 < 71) hz) rfl,
  hp_gf rfl (Nat.lt_of_lt_of_le (by decide : 51 < 71) hz) rfl,
  hp_gf rfl (Nat.lt_of_lt_of_le (by decide : 51 < 71) hz) rfl,
  hp_gf rfl (Nat.lt_of_lt_of_le (by decide : 51 < 71) hz) rfl,
  hp_gf rfl (Nat.lt_of_lt_of_le (by decide : 51 < 71) hz) rfl,
  eq_true (Nat.lt_of_lt_of_le (by decide : 52 < 71) hz),
  hp_ai (fun _ _ _ => rfl) (Nat.lt_of_lt_of_le (by decide : 52 < 71) hz),
  hp_wi (fun _ _ _ => rfl) (Nat.lt_of_lt_of_le (by decide : 52 < 71) hz),
  hp_al (n := 422) (fun _ _ _ => rfl) (Nat.lt_of_lt_of_le (by decide : 52 < 71) hz),
  eq_true (Nat.lt_of_lt_of_le (by decide : 53 < 71) hz),
  hp_ai (fun _ _ _ => rfl) (Nat.lt_of_lt_of_le (by decide : 53 < 71) hz),
  hp_wi (fun _ _ _ => rfl) (Nat.lt_of_lt_of_le (by decide : 53 < 71) hz),
  hp_al (n := 422) (fun _ _ _ => rfl) (Nat.lt_of_lt_of_le (by decide : 53 < 71) hz),
  eq_true (Nat.lt_of_lt_of_le (by decide : 54 < 71) hz),
  hp_ai (fun _ _ _ => rfl) (Nat.lt_of_lt_of_le (by decide : 54 < 71) hz),
  hp_wi (fun _ _ _ => rfl) (Nat.lt_of_lt_of_le (by decide : 54 < 71) hz),
  hp_al (n := 422) (fun _ _ _ => rfl) (Nat.lt_of_lt_of_le (by decide : 54 < 71) hz),
  eq_true (Nat.lt_of_lt_of_le (by decide : 55 < 71) hz),
  hp_ai (fun _ _ _ => rfl) (Nat.lt_of_lt_of_le (by decide : 55 < 71) hz),
  hp_wi (fun _ _ _ => rfl) (Nat.lt_of_lt_of_le (by decide : 55 < 71) hz),
  hp_al (n := 7) (fun _ _ _ => rfl) (Nat.lt_of_lt_of_le (by decide : 55 < 71) hz),
  eq_true (Nat.lt_of_lt_of_le (by decide : 56 < 71) hz),
  hp_ai (fun _ _ _ => rfl) (Nat.lt_of_lt_of_le (by decide : 56 < 71) hz),
  hp_wi (fun _ _ _ => rfl) (Nat.lt_of_lt_of_le (by decide : 56 < 71) hz),
  hp_al (n := 124) (fun _ _ _ => rfl) (Nat.lt_of_lt_of_le (by decide : 56 < 71) hz),
  eq_true (Nat.lt_of_lt_of_le (by decide : 57 < 71) hz)⟩
theorem Hm1 (kq fq : Option Nat) (L : Nat) (xs : Nat → Int32) (A B : Nat → Nat → Int32) (J : Nat → Nat → Int64) (sz : Nat) (hz : 71 ≤ sz) :
  (∀ k, rr_ai sz (hp kq fq L xs A B J) 57 k = if rr_in k 128 = true then some (A 57 k.toNatClampNeg) else none) ∧
  (∀ k x, rr_wi sz (hp kq fq L xs A B J) 57 k x = if rr_in k 128 = true then some (hp kq fq L xs (u1 A 57 (upd (A 57) k.toNatClampNeg x)) B J) else none) ∧
  rr_al sz (hp kq fq L xs A B J) 57 = some 128 ∧
  (58 < sz) = True ∧
  (∀ k, rr_ai sz (hp kq fq L xs A B J) 58 k = if rr_in k 64 = true then some (A 58 k.toNatClampNeg) else none) ∧
  (∀ k x, rr_wi sz (hp kq fq L xs A B J) 58 k x = if rr_in k 64 = true then some (hp kq fq L xs (u1 A 58 (upd (A 58) k.toNatClampNeg x)) B J) else none) ∧
  rr_al sz (hp kq fq L xs A B J) 58 = some 64 ∧
  (59 < sz) = True ∧
  (∀ k, rr_ai sz (hp kq fq L xs A B J) 59 k = if rr_in k 8 = true then some (A 59 k.toNatClampNeg) else none) ∧
  (∀ k x, rr_wi sz (hp kq fq L xs A B J) 59 k x = if rr_in k 8 = true then some (hp kq fq L xs (u1 A 59 (upd (A 59) k.toNatClampNeg x)) B J) else none) ∧
  rr_al sz (hp kq fq L xs A B J) 59 = some 8 ∧
  (60 < sz) = True ∧
  (∀ k, rr_ai sz (hp kq fq L xs A B J) 60 k = if rr_in k 256 = true then some (A 60 k.toNatClampNeg) else none) ∧
  (∀ k x, rr_wi sz (hp kq fq L xs A B J) 60 k x = if rr_in k 256 = true then some (hp kq fq L xs (u1 A 60 (upd (A 60) k.toNatClampNeg x)) B J) else none) ∧
  rr_al sz (hp kq fq L xs A B J) 60 = some 256 ∧
  (61 < sz) = True ∧
  (∀ k, rr_ai sz (hp kq fq L xs A B J) 61 k = if rr_in k 8 = true then some (A 61 k.toNatClampNeg) else none) ∧
  (∀ k x, rr_wi sz (hp kq fq L xs A B J) 61 k x = if rr_in k 8 = true then some (hp kq fq L xs (u1 A 61 (upd (A 61) k.toNatClampNeg x)) B J) else none) ∧
  rr_al sz (hp kq fq L xs A B J) 61 = some 8 ∧
  (62 < sz) = True ∧
  (∀ k, rr_ai sz (hp kq fq L xs A B J) 62 k = if rr_in k 4096 = true then some (A 62 k.toNatClampNeg) else none) ∧
  (∀ k x, rr_wi sz (hp kq fq L xs A B J) 62 k x = if rr_in k 4096 = true then some (hp kq fq L xs (u1 A 62 (upd (A 62) k.toNatClampNeg x)) B J) else none) ∧
  rr_al sz (hp kq fq L xs A B J) 62 = some 4096 ∧
  (63 < sz) = True ∧
  (∀ k, rr_ai sz (hp kq fq L xs A B J) 63 k = if rr_in k 4096 = true then some (A 63 k.toNatClampNeg) else none) ∧
  (∀ k x, rr_wi sz (hp kq fq L xs A B J) 63 k x = if rr_in k 4096 = true then some (hp kq fq L xs (u1 A 63 (upd (A 63) k.toNatClampNeg x)) B J) else none) ∧
  rr_al sz (hp kq fq L xs A B J) 63 = some 4096 ∧
  (64 < sz) = True ∧
  (∀ k, rr_ai sz (hp kq fq L xs A B J) 64 k = if rr_in k 4096 = true then some (A 64 k.toNatClampNeg) else none) ∧
  (∀ k x, rr_wi sz (hp kq fq L xs A B J) 64 k x = if rr_in k 4096 = true then some (hp kq fq L xs (u1 A 64 (upd (A 64) k.toNatClampNeg x)) B J) else none) ∧
  rr_al sz (hp kq fq L xs A B J) 64 = some 4096 ∧
  (65 < sz) = True ∧
  (∀ k, rr_ai sz (hp kq fq L xs A B J) 65 k = if rr_in k 30 = true then some (A 65 k.toNatClampNeg) else none) ∧
  (∀ k x, rr_wi sz (hp kq fq L xs A B J) 65 k x = if rr_in k 30 = true then some (hp kq fq L xs (u1 A 65 (upd (A 65) k.toNatClampNeg x)) B J) else none) ∧
  rr_al sz (hp kq fq L xs A B J) 65 = some 30 ∧
  (66 < sz) = True ∧
  (∀ k, rr_ai sz (hp kq fq L xs A B J) 66 k = if rr_in k 4 = true then some (A 66 k.toNatClampNeg) else none) ∧
  (∀ k x, rr_wi sz (hp kq fq L xs A B J) 66 k x = if rr_in k 4 = true then some (hp kq fq L xs (u1 A 66 (upd (A 66) k.toNatClampNeg x)) B J) else none) ∧
  rr_al sz (hp kq fq L xs A B J) 66 = some 4 ∧
  (67 < sz) = True ∧
  (∀ k, rr_ai sz (hp kq fq L xs A B J) 67 k = if rr_in k 4 = true then some (A 67 k.toNatClampNeg) else none) ∧
  (∀ k x, rr_wi sz (hp kq fq L xs A B J) 67 k x = if rr_in k 4 = true then some (hp kq fq L xs (u1 A 67 (upd (A 67) k.toNatClampNeg x)) B J) else none) ∧
  rr_al sz (hp kq fq L xs A B J) 67 = some 4 ∧
  (68 < sz) = True ∧
  (∀ k, rr_ai sz (hp kq fq L xs A B J) 68 k = if rr_in k 96 = true then some (A 68 k.toNatClampNeg) else none) ∧
  (∀ k x, rr_wi sz (hp kq fq L xs A B J) 68 k x = if rr_in k 96 = true then some (hp kq fq L xs (u1 A 68 (upd (A 68) k.toNatClampNeg x)) B J) else none) ∧
  rr_al sz (hp kq fq L xs A B J) 68 = some 96 ∧
  (69 < sz) = True ∧
  (∀ k, rr_ai sz (hp kq fq L xs A B J) 69 k = if rr_in k 24 = true then some (A 69 k.toNatClampNeg) else none) ∧
  (∀ k x, rr_wi sz (hp kq fq L xs A B J) 69 k x = if rr_in k 24 = true then some (hp kq fq L xs (u1 A 69 (upd (A 69) k.toNatClampNeg x)) B J) else none) ∧
  rr_al sz (hp kq fq L xs A B J) 69 = some 24 ∧
  (70 < sz) = True ∧
  (∀ k, rr_aj sz (hp kq fq L xs A B J) 70 k = if rr_in k 8 = true then some (J 70 k.toNatClampNeg) else none) ∧
  (∀ k x, rr_wj sz (hp kq fq L xs A B J) 70 k x = if rr_in k 8 = true then some (hp kq fq L xs A B (uJ J 70 (vp_updL (J 70) k.toNatClampNeg x))) else none) :=
  ⟨hp_ai (fun _ _ _ => rfl) (Nat.lt_of_lt_of_le (by decide : 57 < 71) hz),
  hp_wi (fun _ _ _ => rfl) (Nat.lt_of_lt_of_le (by decide : 57 < 71) hz),
  hp_al (n := 128) (fun _ _ _ => rfl) (Nat.lt_of_lt_of_le (by decide : 57 < 71) hz),
  eq_true (Nat.lt_of_lt_of_le (by decide : 58 < 71) hz),
  hp_ai (fun _ _ _ => rfl) (Nat.lt_of_lt_of_le (by decide : 58 < 71) hz),
  hp_wi (fun _ _ _ => rfl) (Nat.lt_of_lt_of_le (by decide : 58 < 71) hz),
  hp_al (n := 64) (fun _ _ _ => rfl) (Nat.lt_of_lt_of_le (by decide : 58 < 71) hz),
  eq_true (Nat.lt_of_lt_of_le (by decide : 59 < 71) hz),
  hp_ai (fun _ _ _ => rfl) (Nat.lt_of_lt_of_le (by decide : 59 < 71) hz),
  hp_wi (fun _ _ _ => rfl) (Nat.lt_of_lt_of_le (by decide : 59 < 71) hz),
  hp_al (n := 8) (fun _ _ _ => rfl) (Nat.lt_of_lt_of_le (by decide : 59 < 71) hz),
  eq_true (Nat.lt_of_lt_of_le (by decide : 60 < 71) hz),
  hp_ai (fun _ _ _ => rfl) (Nat.lt_of_lt_of_le (by decide : 60 < 71) hz),
  hp_wi (fun _ _ _ => rfl) (Nat.lt_of_lt_of_le (by decide : 60 < 71) hz),
  hp_al (n := 256) (fun _ _ _ => rfl) (Nat.lt_of_lt_of_le (by decide : 60 < 71) hz),
  eq_true (Nat.lt_of_lt_of_le (by decide : 61 < 71) hz),
  hp_ai (fun _ _ _ => rfl) (Nat.lt_of_lt_of_le (by decide : 61 < 71) hz),
  hp_wi (fun _ _ _ => rfl) (Nat.lt_of_lt_of_le (by decide : 61 < 71) hz),
  hp_al (n := 8) (fun _ _ _ => rfl) (Nat.lt_of_lt_of_le (by decide : 61 < 71) hz),
  eq_true (Nat.lt_of_lt_of_le (by decide : 62 < 71) hz),
  hp_ai (fun _ _ _ => rfl) (Nat.lt_of_lt_of_le (by decide : 62 < 71) hz),
  hp_wi (fun _ _ _ => rfl) (Nat.lt_of_lt_of_le (by decide : 62 < 71) hz),
  hp_al (n := 4096) (fun _ _ _ => rfl) (Nat.lt_of_lt_of_le (by decide : 62 < 71) hz),
  eq_true (Nat.lt_of_lt_of_le (by decide : 63 < 71) hz),
  hp_ai (fun _ _ _ => rfl) (Nat.lt_of_lt_of_le (by decide : 63 < 71) hz),
  hp_wi (fun _ _ _ => rfl) (Nat.lt_of_lt_of_le (by decide : 63 < 71) hz),
  hp_al (n := 4096) (fun _ _ _ => rfl) (Nat.lt_of_lt_of_le (by decide : 63 < 71) hz),
  eq_true (Nat.lt_of_lt_of_le (by decide : 64 < 71) hz),
  hp_ai (fun _ _ _ => rfl) (Nat.lt_of_lt_of_le (by decide : 64 < 71) hz),
  hp_wi (fun _ _ _ => rfl) (Nat.lt_of_lt_of_le (by decide : 64 < 71) hz),
  hp_al (n := 4096) (fun _ _ _ => rfl) (Nat.lt_of_lt_of_le (by decide : 64 < 71) hz),
  eq_true (Nat.lt_of_lt_of_le (by decide : 65 < 71) hz),
  hp_ai (fun _ _ _ => rfl) (Nat.lt_of_lt_of_le (by decide : 65 < 71) hz),
  hp_wi (fun _ _ _ => rfl) (Nat.lt_of_lt_of_le (by decide : 65 < 71) hz),
  hp_al (n := 30) (fun _ _ _ => rfl) (Nat.lt_of_lt_of_le (by decide : 65 < 71) hz),
  eq_true (Nat.lt_of_lt_of_le (by decide : 66 < 71) hz),
  hp_ai (fun _ _ _ => rfl) (Nat.lt_of_lt_of_le (by decide : 66 < 71) hz),
  hp_wi (fun _ _ _ => rfl) (Nat.lt_of_lt_of_le (by decide : 66 < 71) hz),
  hp_al (n := 4) (fun _ _ _ => rfl) (Nat.lt_of_lt_of_le (by decide : 66 < 71) hz),
  eq_true (Nat.lt_of_lt_of_le (by decide : 67 < 71) hz),
  hp_ai (fun _ _ _ => rfl) (Nat.lt_of_lt_of_le (by decide : 67 < 71) hz),
  hp_wi (fun _ _ _ => rfl) (Nat.lt_of_lt_of_le (by decide : 67 < 71) hz),
  hp_al (n := 4) (fun _ _ _ => rfl) (Nat.lt_of_lt_of_le (by decide : 67 < 71) hz),
  eq_true (Nat.lt_of_lt_of_le (by decide : 68 < 71) hz),
  hp_ai (fun _ _ _ => rfl) (Nat.lt_of_lt_of_le (by decide : 68 < 71) hz),
  hp_wi (fun _ _ _ => rfl) (Nat.lt_of_lt_of_le (by decide : 68 < 71) hz),
  hp_al (n := 96) (fun _ _ _ => rfl) (Nat.lt_of_lt_of_le (by decide : 68 < 71) hz),
  eq_true (Nat.lt_of_lt_of_le (by decide : 69 < 71) hz),
  hp_ai (fun _ _ _ => rfl) (Nat.lt_of_lt_of_le (by decide : 69 < 71) hz),
  hp_wi (fun _ _ _ => rfl) (Nat.lt_of_lt_of_le (by decide : 69 < 71) hz),
  hp_al (n := 24) (fun _ _ _ => rfl) (Nat.lt_of_lt_of_le (by decide : 69 < 71) hz),
  eq_true (Nat.lt_of_lt_of_le (by decide : 70 < 71) hz),
  hp_aj (fun _ _ _ => rfl) (Nat.lt_of_lt_of_le (by decide : 70 < 71) hz),
  hp_wj (fun _ _ _ => rfl) (Nat.lt_of_lt_of_le (by decide : 70 < 71) hz)⟩
end HP

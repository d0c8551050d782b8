/-! ===== the Forecast at a base f ===== -/
abbrev FT (kq fq : Option Nat) (L : Nat) (xs : Nat → Int32) (f : Nat) : Prop := ∀ j, j < 7 → ∀ a b w, sh kq fq L xs (f + j) a b w = (sh_fc f a b).getD j sh_no
theorem FT.mk {kq : Option Nat} {f : Nat} {L : Nat} {xs : Nat → Int32} (h : 71 ≤ f) (h2 : f ≤ 1000) (h3 : ∀ q, kq = some q → q + 24 ≤ f ∨ f + 7 ≤ q) : FT kq (some f) L xs f := by
  intro j hj a b w
  unfold sh
  rw [if_neg (by omega), if_neg (by omega)]
  have e : sh_fx (some f) (f + j) a b = (sh_fc f a b).getD j sh_no := by
    unfold sh_fx
    simp only
    rw [if_pos (by omega), Nat.add_sub_cancel_left]
  unfold sh_kx
  cases kq with
  | none => exact e
  | some q =>
    simp only
    have := h3 q rfl
    rw [if_neg (by omega)]
    exact e
section FTR
variable {kq fq : Option Nat} {L : Nat} {xs : Nat → Int32} {A B : Nat → Nat → Int32} {J : Nat → Nat → Int64} {sz f : Nat}
theorem Hf0 (h : FT kq fq L xs f) (hz : f + 7 ≤ sz) :
  rr_is sz (hp kq fq L xs A B J) 0 f = true ∧
  rr_gf sz (hp kq fq L xs A B J) f 0 0 = some (.ref (f + 1)) ∧
  rr_gf sz (hp kq fq L xs A B J) f 0 1 = some (.ref (f + 2)) ∧
  rr_gf sz (hp kq fq L xs A B J) f 0 2 = some (.int (B f 2)) ∧
  (∀ x, rr_pf sz (hp kq fq L xs A B J) f 0 2 (.int x) = some (hp kq fq L xs A (u2 B f 2 x) J)) ∧
  rr_gf sz (hp kq fq L xs A B J) f 0 3 = some (.ref (f + 3)) ∧
  rr_gf sz (hp kq fq L xs A B J) f 0 4 = some (.ref (f + 4)) ∧
  rr_gf sz (hp kq fq L xs A B J) f 0 5 = some (.ref (f + 5)) ∧
  rr_gf sz (hp kq fq L xs A B J) f 0 6 = some (.ref (f + 6)) ∧
  rr_gf sz (hp kq fq L xs A B J) f 0 7 = some (.int (B f 7)) ∧
  (∀ x, rr_pf sz (hp kq fq L xs A B J) f 0 7 (.int x) = some (hp kq fq L xs A (u2 B f 7 x) J)) ∧
  rr_gf sz (hp kq fq L xs A B J) f 0 8 = some (.int (B f 8)) ∧
  (∀ x, rr_pf sz (hp kq fq L xs A B J) f 0 8 (.int x) = some (hp kq fq L xs A (u2 B f 8 x) J)) ∧
  rr_gf sz (hp kq fq L xs A B J) f 0 9 = some (.int (B f 9)) ∧
  (∀ x, rr_pf sz (hp kq fq L xs A B J) f 0 9 (.int x) = some (hp kq fq L xs A (u2 B f 9 x) J)) ∧
  rr_gf sz (hp kq fq L xs A B J) f 0 10 = some (.int (B f 10)) ∧
  (∀ x, rr_pf sz (hp kq fq L xs A B J) f 0 10 (.int x) = some (hp kq fq L xs A (u2 B f 10 x) J)) ∧
  rr_gf sz (hp kq fq L xs A B J) f 0 11 = some (.int (B f 11)) ∧
  (∀ x, rr_pf sz (hp kq fq L xs A B J) f 0 11 (.int x) = some (hp kq fq L xs A (u2 B f 11 x) J)) ∧
  rr_gf sz (hp kq fq L xs A B J) f 0 12 = some (.int (B f 12)) ∧
  (∀ x, rr_pf sz (hp kq fq L xs A B J) f 0 12 (.int x) = some (hp kq fq L xs A (u2 B f 12 x) J)) :=
  ⟨hp_is (h 0 (by omega) _ _ _) (by omega),
  hp_gf (h 0 (by omega) _ _ _) (by omega) rfl,
  hp_gf (h 0 (by omega) _ _ _) (by omega) rfl,
  hp_gf (h 0 (by omega) _ _ _) (by omega) rfl,
  fun x => hp_pf (h 0 (by omega) _ _ _) (by omega) (Nat.le_of_ble_eq_true rfl) rfl (h 0 (by omega) _ _ _),
  hp_gf (h 0 (by omega) _ _ _) (by omega) rfl,
  hp_gf (h 0 (by omega) _ _ _) (by omega) rfl,
  hp_gf (h 0 (by omega) _ _ _) (by omega) rfl,
  hp_gf (h 0 (by omega) _ _ _) (by omega) rfl,
  hp_gf (h 0 (by omega) _ _ _) (by omega) rfl,
  fun x => hp_pf (h 0 (by omega) _ _ _) (by omega) (Nat.le_of_ble_eq_true rfl) rfl (h 0 (by omega) _ _ _),
  hp_gf (h 0 (by omega) _ _ _) (by omega) rfl,
  fun x => hp_pf (h 0 (by omega) _ _ _) (by omega) (Nat.le_of_ble_eq_true rfl) rfl (h 0 (by omega) _ _ _),
  hp_gf (h 0 (by omega) _ _ _) (by omega) rfl,
  fun x => hp_pf (h 0 (by omega) _ _ _) (by omega) (Nat.le_of_ble_eq_true rfl) rfl (h 0 (by omega) _ _ _),
  hp_gf (h 0 (by omega) _ _ _) (by omega) rfl,
  fun x => hp_pf (h 0 (by omega) _ _ _) (by omega) (Nat.le_of_ble_eq_true rfl) rfl (h 0 (by omega) _ _ _),
  hp_gf (h 0 (by omega) _ _ _) (by omega) rfl,
  fun x => hp_pf (h 0 (by omega) _ _ _) (by omega) (Nat.le_of_ble_eq_true rfl) rfl (h 0 (by omega) _ _ _),
  hp_gf (h 0 (by omega) _ _ _) (by omega) rfl,
  fun x => hp_pf (h 0 (by omega) _ _ _) (by omega) (Nat.le_of_ble_eq_true rfl) rfl (h 0 (by omega) _ _ _)⟩
theorem Hf1 (h : FT kq fq L xs f) (hz : f + 7 ≤ sz) :
  (∀ k, rr_ai sz (hp kq fq L xs A B J) (f + 1) k = if rr_in k 5184 = true then some (A (f + 1) k.toNatClampNeg) else none) ∧
  (∀ k x, rr_wi sz (hp kq fq L xs A B J) (f + 1) k x = if rr_in k 5184 = true then some (hp kq fq L xs (u1 A (f + 1) (upd (A (f + 1)) k.toNatClampNeg x)) B J) else none) ∧
  (∀ k, rr_ai sz (hp kq fq L xs A B J) (f + 2) k = if rr_in k 1296 = true then some (A (f + 2) k.toNatClampNeg) else none) ∧
  (∀ k x, rr_wi sz (hp kq fq L xs A B J) (f + 2) k x = if rr_in k 1296 = true then some (hp kq fq L xs (u1 A (f + 2) (upd (A (f + 2)) k.toNatClampNeg x)) B J) else none) ∧
  (∀ k, rr_ai sz (hp kq fq L xs A B J) (f + 3) k = if rr_in k 8 = true then some (A (f + 3) k.toNatClampNeg) else none) ∧
  (∀ k x, rr_wi sz (hp kq fq L xs A B J) (f + 3) k x = if rr_in k 8 = true then some (hp kq fq L xs (u1 A (f + 3) (upd (A (f + 3)) k.toNatClampNeg x)) B J) else none) ∧
  (∀ k, rr_ai sz (hp kq fq L xs A B J) (f + 4) k = if rr_in k 8 = true then some (A (f + 4) k.toNatClampNeg) else none) ∧
  (∀ k x, rr_wi sz (hp kq fq L xs A B J) (f + 4) k x = if rr_in k 8 = true then some (hp kq fq L xs (u1 A (f + 4) (upd (A (f + 4)) k.toNatClampNeg x)) B J) else none) ∧
  (∀ k, rr_ai sz (hp kq fq L xs A B J) (f + 5) k = if rr_in k 4096 = true then some (A (f + 5) k.toNatClampNeg) else none) ∧
  (∀ k x, rr_wi sz (hp kq fq L xs A B J) (f + 5) k x = if rr_in k 4096 = true then some (hp kq fq L xs (u1 A (f + 5) (upd (A (f + 5)) k.toNatClampNeg x)) B J) else none) ∧
  (∀ k, rr_ai sz (hp kq fq L xs A B J) (f + 6) k = if rr_in k 4096 = true then some (A (f + 6) k.toNatClampNeg) else none) ∧
  (∀ k x, rr_wi sz (hp kq fq L xs A B J) (f + 6) k x = if rr_in k 4096 = true then some (hp kq fq L xs (u1 A (f + 6) (upd (A (f + 6)) k.toNatClampNeg x)) B J) else none) :=
  ⟨fun k => hp_ai (n := 5184) (fun a b w => h 1 (by omega) a b w) (by omega) k,
  fun k x => hp_wi (n := 5184) (fun a b w => h 1 (by omega) a b w) (by omega) k x,
  fun k => hp_ai (n := 1296) (fun a b w => h 2 (by omega) a b w) (by omega) k,
  fun k x => hp_wi (n := 1296) (fun a b w => h 2 (by omega) a b w) (by omega) k x,
  fun k => hp_ai (n := 8) (fun a b w => h 3 (by omega) a b w) (by omega) k,
  fun k x => hp_wi (n := 8) (fun a b w => h 3 (by omega) a b w) (by omega) k x,
  fun k => hp_ai (n := 8) (fun a b w => h 4 (by omega) a b w) (by omega) k,
  fun k x => hp_wi (n := 8) (fun a b w => h 4 (by omega) a b w) (by omega) k x,
  fun k => hp_ai (n := 4096) (fun a b w => h 5 (by omega) a b w) (by omega) k,
  fun k x => hp_wi (n := 4096) (fun a b w => h 5 (by omega) a b w) (by omega) k x,
  fun k => hp_ai (n := 4096) (fun a b w => h 6 (by omega) a b w) (by omega) k,
  fun k x => hp_wi (n := 4096) (fun a b w => h 6 (by omega) a b w) (by omega) k x⟩
end FTR
/-! ===== rows of WEATHERS, one way and the other ===== -/
def mnI (a b : Int32) : Int32 := if b < a then b else a
def mxI (a b : Int32) : Int32 := if a < b then b else a
def sN (f : Nat → Nat) : Nat → Nat
  | 0 => 0
  | k + 1 => sN f k + f k
theorem sN_cg {f g : Nat → Nat} : ∀ k, (∀ i, i < k → f i = g i) → sN f k = sN g k
  | 0, _ => rfl
  | k + 1, h => by
    show sN f k + f k = sN g k + g k
    rw [sN_cg k (fun i hi => h i (by omega)), h k (by omega)]
theorem sN_0 {f : Nat → Nat} : ∀ k, (∀ i, i < k → f i = 0) → sN f k = 0
  | 0, _ => rfl
  | k + 1, h => by
    show sN f k + f k = 0
    rw [sN_0 k (fun i hi => h i (by omega)), h k (by omega)]
theorem sN_4 (f : Nat → Nat) : ∀ m, sN f (4 * m) = sN (fun r => f (4 * r)) m + sN (fun r => f (4 * r + 1)) m + sN (fun r => f (4 * r + 2)) m + sN (fun r => f (4 * r + 3)) m
  | 0 => rfl
  | m + 1 => by
    rw [show 4 * (m + 1) = 4 * m + 1 + 1 + 1 + 1 by omega]
    show sN f (4 * m) + f (4 * m) + f (4 * m + 1) + f (4 * m + 2) + f (4 * m + 3) = (sN (fun r => f (4 * r)) m + f (4 * m)) + (sN (fun r => f (4 * r + 1)) m + f (4 * m + 1)) + (sN (fun r => f (4 * r + 2)) m + f (4 * m + 2)) + (sN (fun r => f (4 * r + 3)) m + f (4 * m + 3))
    rw [sN_4 f m]; omega
/-- the class's way: first days first; h is what is summed over its rows -/
def fS {X : Type} (C : Nat → Nat) (py : X → Nat → Int32) (nx : X → Nat → X) (h : Int32 → Int32 → Int32 → Nat) : Nat → X → Int32 → Int32 → Nat → Nat
  | 0, _, p, l, wt => h p l (nI wt)
  | m + 1, x, p, l, wt =>
    (if 0 < C 0 then fS C py nx h m (nx x 0) (hd 999999999 (p - py x 0)) (mnI l (hd 999999999 (p - py x 0))) (wt * C 0) else 0) +
    (if 0 < C 1 then fS C py nx h m (nx x 1) (hd 999999999 (p - py x 1)) (mnI l (hd 999999999 (p - py x 1))) (wt * C 1) else 0) +
    (if 0 < C 2 then fS C py nx h m (nx x 2) (hd 999999999 (p - py x 2)) (mnI l (hd 999999999 (p - py x 2))) (wt * C 2) else 0) +
    (if 0 < C 3 then fS C py nx h m (nx x 3) (hd 999999999 (p - py x 3)) (mnI l (hd 999999999 (p - py x 3))) (wt * C 3) else 0)
/-- the reference's way: a row's figures are its days -/
def rV {X : Type} (C : Nat → Nat) (py : X → Nat → Int32) (nx : X → Nat → X) : Nat → Nat → X → Nat → Int32 → Int32 → X × Nat × Int32
  | 0, _, x, wt, _, nd => (x, wt, nd)
  | m + 1, left, x, wt, s, nd => rV C py nx m (left / 4) (nx x (left % 4)) (wt * C (left % 4)) (s + py x (left % 4)) (mxI nd (s + py x (left % 4)))
theorem rV_z {X : Type} {C : Nat → Nat} {py : X → Nat → Int32} {nx : X → Nat → X} : ∀ m left x s nd, (rV C py nx m left x 0 s nd).2.1 = 0
  | 0, _, _, _, _ => rfl
  | m + 1, left, x, s, nd => by
    show (rV C py nx m (left / 4) (nx x (left % 4)) (0 * C (left % 4)) _ _).2.1 = 0
    rw [Nat.zero_mul]
    exact rV_z m _ _ _ _
theorem tree {X : Type} {C : Nat → Nat} {py : X → Nat → Int32} {nx : X → Nat → X} {g : X → Nat → Int32 → Nat} {h : Int32 → Int32 → Int32 → Nat} {Rel : Nat → X → Int32 → Int32 → Int32 → Int32 → Prop} (hc : ∀ w, w < 4 → C w ≤ 16)
    (hleaf : ∀ x p l s nd wt, Rel 0 x p l s nd → 0 < wt → wt ≤ 16777216 → g x wt nd = h p l (nI wt)) (hz : ∀ x nd, g x 0 nd = 0)
    (hstep : ∀ k x p l s nd w, w < 4 → Rel (k + 1) x p l s nd → Rel k (nx x w) (hd 999999999 (p - py x w)) (mnI l (hd 999999999 (p - py x w))) (s + py x w) (mxI nd (s + py x w))) :
    ∀ m x p l s nd wt, Rel m x p l s nd → 0 < wt → wt * 16 ^ m ≤ 16777216 → sN (fun r => g (rV C py nx m r x wt s nd).1 (rV C py nx m r x wt s nd).2.1 (rV C py nx m r x wt s nd).2.2) (4 ^ m) = fS C py nx h m x p l wt
  | 0, x, p, l, s, nd, wt, hr, hw, hb => by
    show 0 + g x wt nd = h p l (nI wt)
    rw [Nat.zero_add, hleaf x p l s nd wt hr hw (by omega)]
  | m + 1, x, p, l, s, nd, wt, hr, hw, hb => by
    have key : ∀ w, w < 4 → sN (fun r => g (rV C py nx m r (nx x w) (wt * C w) (s + py x w) (mxI nd (s + py x w))).1 (rV C py nx m r (nx x w) (wt * C w) (s + py x w) (mxI nd (s + py x w))).2.1 (rV C py nx m r (nx x w) (wt * C w) (s + py x w) (mxI nd (s + py x w))).2.2) (4 ^ m) = if 0 < C w then fS C py nx h m (nx x w) (hd 999999999 (p - py x w)) (mnI l (hd 999999999 (p - py x w))) (wt * C w) else 0 := by
      intro w hw4
      by_cases q : 0 < C w
      · rw [if_pos q]
        refine tree hc hleaf hz hstep m _ _ _ _ _ _ (hstep m x p l s nd w hw4 hr) (Nat.mul_pos hw q) ?_
        refine Nat.le_trans ?_ hb
        rw [Nat.pow_succ, Nat.mul_assoc, Nat.mul_comm (16 ^ m) 16]
        exact Nat.mul_le_mul_left _ (Nat.mul_le_mul_right _ (hc w hw4))
      · rw [if_neg q, show C w = 0 by omega, Nat.mul_zero]
        refine sN_0 _ (fun r _ => ?_)
        rw [rV_z]; exact hz _ _
    rw [Nat.pow_succ, Nat.mul_comm (4 ^ m) 4, sN_4]
    have e : ∀ w, w < 4 → sN (fun r => g (rV C py nx (m + 1) (4 * r + w) x wt s nd).1 (rV C py nx (m + 1) (4 * r + w) x wt s nd).2.1 (rV C py nx (m + 1) (4 * r + w) x wt s nd).2.2) (4 ^ m) = if 0 < C w then fS C py nx h m (nx x w) (hd 999999999 (p - py x w)) (mnI l (hd 999999999 (p - py x w))) (wt * C w) else 0 := by
      intro w hw4
      rw [← key w hw4]
      refine sN_cg _ (fun r _ => ?_)
      have e1 : (4 * r + w) / 4 = r := by omega
      have e2 : (4 * r + w) % 4 = w := by omega
      show g (rV C py nx m ((4 * r + w) / 4) (nx x ((4 * r + w) % 4)) (wt * C ((4 * r + w) % 4)) (s + py x ((4 * r + w) % 4)) (mxI nd (s + py x ((4 * r + w) % 4)))).1 (rV C py nx m ((4 * r + w) / 4) (nx x ((4 * r + w) % 4)) (wt * C ((4 * r + w) % 4)) (s + py x ((4 * r + w) % 4)) (mxI nd (s + py x ((4 * r + w) % 4)))).2.1 (rV C py nx m ((4 * r + w) / 4) (nx x ((4 * r + w) % 4)) (wt * C ((4 * r + w) % 4)) (s + py x ((4 * r + w) % 4)) (mxI nd (s + py x ((4 * r + w) % 4)))).2.2 = _
      rw [e1, e2]
    have e0 := e 0 (by omega)
    simp only [Nat.add_zero] at e0
    rw [e0, e 1 (by omega), e 2 (by omega), e 3 (by omega)]
    rfl
/-- how many rows at most -/
theorem fS_le {X : Type} {C : Nat → Nat} {py : X → Nat → Int32} {nx : X → Nat → X} {h : Int32 → Int32 → Int32 → Nat} {N : Nat} (hh : ∀ p l w, h p l w ≤ N) : ∀ m x p l wt, fS C py nx h m x p l wt ≤ N * 4 ^ m
  | 0, x, p, l, wt => by show h p l (nI wt) ≤ N * 1; rw [Nat.mul_one]; exact hh _ _ _
  | m + 1, x, p, l, wt => by
    have e : ∀ w, (if 0 < C w then fS C py nx h m (nx x w) (hd 999999999 (p - py x w)) (mnI l (hd 999999999 (p - py x w))) (wt * C w) else 0) ≤ N * 4 ^ m := fun w => by
      by_cases q : 0 < C w
      · rw [if_pos q]; exact fS_le hh m _ _ _ _
      · rw [if_neg q]; omega
    have e0 := e 0
    have e1 := e 1
    have e2 := e 2
    have e3 := e 3
    rw [Nat.pow_succ, ← Nat.mul_assoc]
    show _ + _ + _ + _ ≤ _
    omega

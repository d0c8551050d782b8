/-! ===== both ways of looking ahead come to the same ===== -/
def QPf (n z : Nat) (D M K V W : Nat → Nat) (law : Option Nat) (SK : Nat → Nat → Nat) (S0 : Nat → Nat) (dy fld i w : Nat) : Int32 := PY (OF z D M K V W (SK w) (sSum S0 SK (swk dy (i / 216)) (i % 216 % 6) (i % 216 / 6 % 6) (i % 216 / 36) (sdk dy (i / 216) - i % 216 % 6 - i % 216 / 6 % 6 - i % 216 / 36)) law) n fld
def RelF (n k : Nat) (x : DY) (p l s nd : Int32) : Prop := k ≤ 6 ∧ GOOD n k x ∧ sm (15400 * (6 - (k : Int))) s ∧ p = nI 0 - s ∧ ∃ j : Nat, (j : Int) ≤ 15400 * (6 - (k : Int)) ∧ nd = nI j ∧ l = nI 0 - nI j
def Wok (l w : Int32) : Prop := (∃ k, k ≤ 16777216 ∧ w = nI k) ∧ ∃ j, j ≤ 99999 ∧ l = nI 0 - nI j
noncomputable def hW (_ l w : Int32) : Nat := @ite _ (Wok l w) (Classical.propDecidable _) 0 1
theorem hd_id {m : Nat} {v : Int32} (h : sm (m : Int) v) (h2 : m < 2 ^ 31) : hd m v = v := by
  obtain ⟨h1, h3⟩ := h
  unfold hd
  rw [if_neg, if_neg]
  · rw [Int32.lt_iff_toInt_lt, nI_i h2]; omega
  · rw [Int32.lt_iff_toInt_lt, mI_i (by omega)]; omega
theorem z_i {a : Nat} (h : a < 2 ^ 31) : (nI 0 - nI a).toInt = -(a : Int) := by
  by_cases q : a = 0
  · subst q; rfl
  · rw [q_subm (by omega) h, mI_i (by omega)]; omega
theorem z_lt {a j : Nat} (ha : a < 2 ^ 31) (hj : j < 2 ^ 31) : (nI 0 - nI a < nI 0 - nI j) = (j < a) := by
  refine propext ?_
  rw [Int32.lt_iff_toInt_lt, z_i ha, z_i hj]; omega
theorem z_b {b j : Nat} (hb : b ≤ 1000000) (hj : j ≤ 1000000) : (nI b + (nI 0 - nI j) < nI 0) = (b < j) := by
  have e : nI b + (nI 0 - nI j) = nI b - nI j := by
    have : ∀ a c : Int32, a + (0 - c) = a - c := fun a c => by grind
    exact this _ _
  rw [e]
  by_cases q : j ≤ b
  · rw [q_sub q, q_lt (by omega) (by omega)]
    exact propext ⟨fun h => by omega, fun h => by omega⟩
  · rw [q_subm (by omega) (by omega), m_lt (by omega) (by omega) (by omega)]
    exact (eq_true (by omega)).symm
theorem sN_z {f : Nat → Nat} : ∀ k, sN f k = 0 → ∀ i, i < k → f i = 0
  | 0, _, i, hi => by omega
  | k + 1, h, i, hi => by
    have h' : sN f k + f k = 0 := h
    by_cases e : i = k
    · subst e; omega
    · exact sN_z k (by omega) i (by omega)
theorem sm_py2 {F : Nat → Int32} {n i : Nat} (hF : ∀ j, j < n → sm 1100 (F j)) (n8 : n ≤ 8) (hi : i < n) : sm 15400 (PY F n i) := by
  have key : ∀ k, k ≤ n → sm (2200 * ((if i < k then k - 1 else k : Nat) : Int)) (F i * nI k - sO F k) := by
    intro k
    induction k with
    | zero =>
      intro _
      rw [if_neg (by omega)]
      have e : F i * nI 0 - sO F 0 = nI 0 := by
        show F i * 0 - 0 = 0
        grind
      rw [e]; exact sm_n (by omega) (by omega)
    | succ k ih =>
      intro hk
      have h1 := ih (by omega)
      have e : F i * nI (k + 1) - sO F (k + 1) = (F i * nI k - sO F k) + (F i - F k) := by
        have e2 : nI (k + 1) = nI k + 1 := (nI_add k 1).symm
        show F i * nI (k + 1) - (sO F k + F k) = _
        rw [e2]; grind
      rw [e]
      by_cases q : i = k
      · subst q
        rw [if_neg (by omega)] at h1
        rw [if_pos (by omega), Int32.sub_self, Int32.add_zero, Nat.add_sub_cancel]
        exact h1
      · obtain ⟨-, h2⟩ := sm_to (hF i hi) (hF k (by omega)) (by omega)
        by_cases q2 : i < k
        · rw [if_pos q2] at h1
          rw [if_pos (by omega)]
          obtain ⟨-, h3⟩ := sm_ad h1 h2 (by omega)
          exact sm_wk h3 (by omega)
        · rw [if_neg q2] at h1
          rw [if_neg (by omega)]
          obtain ⟨-, h3⟩ := sm_ad h1 h2 (by omega)
          exact sm_wk h3 (by omega)
  have h := key n (Nat.le_refl n)
  rw [if_pos hi] at h
  exact sm_wk h (by omega)
section RF
variable {n nl z : Nat} {W D M K V : Nat → Nat} {law : Option Nat} {C : Nat → Nat} {SK : Nat → Nat → Nat} {S0 : Nat → Nat} {dy fld smm : Nat}
theorem hQP_of (hfl : fld < n) (hsm : smm ≤ 1) (hin : smm = 0 → ∀ r w s s', OW z D M K V law r w s = OW z D M K V law r w s') : ∀ gone node x w, gone ≤ 5 → PTH n S0 SK dy gone node x → w < 4 → QPf n z D M K V W law SK S0 dy fld (pl smm gone node) w = pyD n z D M K V W law SK fld x w := by
  intro gone node x w hg hP hw
  obtain ⟨a, b, c, e1, e2, e3⟩ := hP.2 hg
  have hsd : sdk dy gone ≤ gone := by unfold sdk; split <;> omega
  by_cases q : smm = 1
  · have hp : pl smm gone node = gone * 216 + node := by unfold pl; rw [if_pos q]
    rw [hp, py_SS hfl e3]
    unfold QPf
    rw [show (gone * 216 + node) / 216 = gone by omega, show (gone * 216 + node) % 216 = node by omega, show node % 6 = a by omega, show node / 6 % 6 = b by omega, show node / 36 = c by omega]
  · rw [py_SS hfl (SS := x.2.1) (fun _ _ => rfl)]
    unfold QPf
    refine PY_cg (fun i hi => ?_) hfl
    unfold OF
    exact hin (by omega) _ _ _ _
theorem sm_pyD (n8 : n ≤ 8) (hl : ∀ l, law = some l → l < nl) (hD : ∀ k, k < nl → D k ≤ 6 ∧ M k ≤ 9) (hW : ∀ f, f < 8 → W f ≤ 20) (hSK : ∀ w f, w < 4 → f < 8 → SK w f ≤ 99) (hfl : fld < n) {x : DY} (hx : DB x) {w : Nat} (hw : w < 4) : sm 15400 (pyD n z D M K V W law SK fld x w) := by
  rw [py_SS hfl (SS := x.2.1) (fun _ _ => rfl)]
  refine sm_py2 (fun i hi => ?_) n8 hfl
  exact OW_b hl hD (hSK w i hw (by omega)) (hW i (by omega)) (hx.s n8 i hi).2
theorem RelF.st (n8 : n ≤ 8) (hl : ∀ l, law = some l → l < nl) (hD : ∀ k, k < nl → D k ≤ 6 ∧ M k ≤ 9) (hW : ∀ f, f < 8 → W f ≤ 20) (hSK : ∀ w f, w < 4 → f < 8 → SK w f ≤ 99) (hfl : fld < n) {k : Nat} {x : DY} {p l s nd : Int32} {w : Nat} (hw : w < 4) (h : RelF n (k + 1) x p l s nd) : RelF n k (nxD n z D M K V W law SK x w) (hd 999999999 (p - pyD n z D M K V W law SK fld x w)) (mnI l (hd 999999999 (p - pyD n z D M K V W law SK fld x w))) (s + pyD n z D M K V W law SK fld x w) (mxI nd (s + pyD n z D M K V W law SK fld x w)) := by
  obtain ⟨h6, hG, hs, hp, j, j1, j2, j3⟩ := h
  have hpy := sm_pyD (z := z) (K := K) (V := V) n8 hl hD hW hSK hfl hG.1 hw
  obtain ⟨py, hpe⟩ : ∃ py, pyD n z D M K V W law SK fld x w = py := ⟨_, rfl⟩
  rw [hpe] at hpy ⊢
  have hk : ((k + 1 : Nat) : Int) = (k : Int) + 1 := by omega
  rw [hk] at hs j1
  have e1 : p - py = nI 0 - (s + py) := by
    rw [hp]
    have : ∀ a b : Int32, 0 - a - b = 0 - (a + b) := fun a b => by grind
    exact this _ _
  obtain ⟨-, hs2⟩ := sm_ad hs hpy (by omega)
  have hs3 : sm (15400 * (6 - (k : Int))) (s + py) := sm_wk hs2 (by omega)
  obtain ⟨a, a1, a2⟩ := nn_b hs3 (by omega)
  have a9 : a ≤ 1000000 := by omega
  have j9 : j ≤ 1000000 := by omega
  rw [e1]
  rcases a2 with a2 | ⟨a2, a3⟩
  · rw [a2]
    have hv : hd 999999999 (nI 0 - nI a) = nI 0 - nI a := by
      refine hd_id ⟨?_, ?_⟩ (by omega)
      · rw [z_i (by omega)]; omega
      · rw [z_i (by omega)]; omega
    rw [hv]
    refine ⟨by omega, hG.st n8 hSK hw, by rw [← a2]; exact hs3, rfl, ?_⟩
    rw [j2, j3]
    unfold mxI mnI
    have f1 : (nI j < nI a) = (j < a) := q_lt (by omega) (by omega)
    have f2 : (nI 0 - nI a < nI 0 - nI j) = (j < a) := z_lt (by omega) (by omega)
    simp only [f1, f2]
    by_cases q : j < a
    · simp only [q, if_true]
      exact ⟨a, by omega, rfl, rfl⟩
    · simp only [q, if_false]
      exact ⟨j, by omega, rfl, rfl⟩
  · rw [a3]
    have e0 : nI 0 - mI a = nI a := q_0m (by omega)
    have hv : hd 999999999 (nI 0 - mI a) = nI 0 - mI a := by
      rw [e0]; exact hd_n (by omega) (by omega)
    rw [hv]
    refine ⟨by omega, hG.st n8 hSK hw, by rw [← a3]; exact hs3, rfl, j, by omega, ?_, ?_⟩
    · unfold mxI
      rw [j2, if_neg]
      rw [m_gt (by omega) (by omega) (by omega)]; exact id
    · unfold mnI
      rw [j3, e0, if_neg]
      rw [Int32.lt_iff_toInt_lt, z_i (by omega), nI_i (by omega)]; omega
theorem rV_w {X : Type} {py : X → Nat → Int32} {nx : X → Nat → X} (hc : ∀ w, w < 4 → C w ≤ 16) : ∀ m left x wt s nd, (rV C py nx m left x wt s nd).2.1 ≤ wt * 16 ^ m
  | 0, _, x, wt, s, nd => by show wt ≤ wt * 1; omega
  | m + 1, left, x, wt, s, nd => by
    have h := rV_w (py := py) (nx := nx) hc m (left / 4) (nx x (left % 4)) (wt * C (left % 4)) (s + py x (left % 4)) (mxI nd (s + py x (left % 4)))
    refine Nat.le_trans h ?_
    rw [Nat.pow_succ, Nat.mul_assoc, Nat.mul_comm (16 ^ m) 16]
    exact Nat.mul_le_mul_left _ (Nat.mul_le_mul_right _ (hc _ (by omega)))
/-- the odds of failing with a purse -/
theorem odds (n8 : n ≤ 8) (hl : ∀ l, law = some l → l < nl) (hD : ∀ k, k < nl → D k ≤ 6 ∧ M k ≤ 9) (hW' : ∀ f, f < 8 → W f ≤ 20) (hSK : ∀ w f, w < 4 → f < 8 → SK w f ≤ 99) (hc16 : ∀ w, w < 4 → C w ≤ 16) (hfl : fld < n) {N : Nat} (hN : N ≤ 6) {x : DY} (hG : GOOD n N x) : (∀ b, b ≤ 1000000 → sN (fun q => if nI b < (rV C (pyD n z D M K V W law SK fld) (nxD n z D M K V W law SK) N q x 1 (nI 0) (nI 0)).2.2 then (rV C (pyD n z D M K V W law SK fld) (nxD n z D M K V W law SK) N q x 1 (nI 0) (nI 0)).2.1 else 0) (4 ^ N) = fS C (pyD n z D M K V W law SK fld) (nxD n z D M K V W law SK) (fun _ l w => if nI b + l < nI 0 then nT w else 0) N x (nI 0) (nI 0) 1) ∧ fS C (pyD n z D M K V W law SK fld) (nxD n z D M K V W law SK) hW N x (nI 0) (nI 0) 1 = 0 := by
  have h16 := p16 hN
  have r0 : RelF n N x (nI 0) (nI 0) (nI 0) (nI 0) := ⟨hN, hG, sm_n (by omega) (by omega), rfl, 0, by omega, rfl, rfl⟩
  refine ⟨fun b hb => ?_, ?_⟩
  · refine tree (Rel := RelF n) (g := fun _ wt nd => if nI b < nd then wt else 0) hc16 (fun x p l s nd wt hr hw hwb => ?_) (fun x nd => by split <;> rfl) (fun k x p l s nd w hw hr => hr.st n8 hl hD hW' hSK hfl hw) N x (nI 0) (nI 0) (nI 0) (nI 0) 1 r0 (by omega) (by omega)
    obtain ⟨-, -, -, -, j, j1, j2, j3⟩ := hr
    have j9 : j ≤ 1000000 := by omega
    try dsimp only
    rw [j2, j3]
    have e1 := z_b hb j9
    have e2 : (nI b < nI j) = (b < j) := q_lt (by omega) (by omega)
    have e3 : nT (nI wt) = wt := nI_clamp (by omega)
    by_cases q : b < j
    · rw [if_pos (by rw [e2]; exact q), if_pos (by rw [e1]; exact q), e3]
    · rw [if_neg (by rw [e2]; exact q), if_neg (by rw [e1]; exact q)]
  · have h0 : sN (fun _ => 0) (4 ^ N) = 0 := sN_0 _ (fun _ _ => rfl)
    refine Eq.trans (tree (py := pyD n z D M K V W law SK fld) (nx := nxD n z D M K V W law SK) (h := hW) (Rel := RelF n) (g := fun _ _ _ => 0) hc16 (fun x p l s nd wt hr hw hwb => ?_) (fun x nd => rfl) (fun k x p l s nd w hw hr => hr.st n8 hl hD hW' hSK hfl hw) N x (nI 0) (nI 0) (nI 0) (nI 0) 1 r0 (by omega) (by omega)).symm h0
    obtain ⟨-, -, -, -, j, j1, j2, j3⟩ := hr
    unfold hW
    rw [if_pos]
    exact ⟨⟨wt, hwb, rfl⟩, j, by omega, j3⟩
/-- how many rows lead to so many PENNIES -/
theorem booked (hc16 : ∀ w, w < 4 → C w ≤ 16) (hfl : fld < n) {N : Nat} (hN : N ≤ 6) (x : DY) (l : Int32) (wanted : Int32) : sN (fun q => if 0 < (rV C (pyD n z D M K V W law SK fld) (nxD n z D M K V W law SK) N q x 1 (nI 0) (nI 0)).2.1 ∧ (rV C (pyD n z D M K V W law SK fld) (nxD n z D M K V W law SK) N q x 1 (nI 0) (nI 0)).1.2.2.1 fld = wanted then 1 else 0) (4 ^ N) = fS C (pyD n z D M K V W law SK fld) (nxD n z D M K V W law SK) (fun p _ _ => if p = wanted then 1 else 0) N x (x.2.2.1 fld) l 1 := by
  have h16 := p16 hN
  refine tree (Rel := fun _ (x : DY) p _ _ _ => p = x.2.2.1 fld) (g := fun (x : DY) wt _ => if 0 < wt ∧ x.2.2.1 fld = wanted then 1 else 0) hc16 (fun x p l s nd wt hr hw hwb => ?_) (fun x nd => by rw [if_neg (by omega)]) (fun k x p l s nd w hw hr => ?_) N x (x.2.2.1 fld) l (nI 0) (nI 0) 1 rfl (by omega) (by omega)
  · try dsimp only at hr ⊢
    rw [hr]
    by_cases q : x.2.2.1 fld = wanted
    · rw [if_pos ⟨hw, q⟩, if_pos q]
    · rw [if_neg (fun h => q h.2), if_neg q]
  · try dsimp only at hr ⊢
    rw [hr]
    show _ = if fld < n then hd 999999999 (x.2.2.1 fld - dPY n z D M K V W law (srn n (SK w) x) fld) else _
    rw [if_pos hfl]
    rfl
end RF
